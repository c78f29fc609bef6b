set_option maxRecDepth 20000 in
theorem S_X1_has {G : xG} {d rc rs : Nat} {ex : Bool} {h : xH} {Q : xQ} {p : Nat} {z : Int} (hf : h[4]? = some (cO 1 [vi (p : Int)])) (hp : 2 < p ∧ p < 24) (hz : xr z) (k1 : 0 ≤ z ∧ z < p → Q (.inl (some (vi 1))) ex h) (k0 : ¬ (0 ≤ z ∧ z < p) → Q (.inl (some (vi 0))) ex h) : X G m_X1_has d rc rs ex 0 (xe m_X1_has.2.2.1 [.ref 4, vi z]) [] h Q := by
  show X G m_X1_has _ _ _ _ 0 [some (.ref 4), some (vi z)] [] h Q
  refine x_iload_n (dT U_X1_has 0 rfl) rfl ?_
  refine x_if_lt (tgt := 16) (dT U_X1_has 1 rfl) (by decide) (by unfold xr at *; omega) (fun c1 => ?_) (fun c1 => ?_)
  · skip
    refine x_iconst (dT U_X1_has 8 rfl) ?_
    refine x_zreturn (dT U_X1_has 9 rfl) rfl (by omega) ?_
    first | exact k1 (by omega) | exact k0 (by omega)
  · skip
    refine x_iload_n (dT U_X1_has 2 rfl) rfl ?_
    refine x_aload_n (dT U_X1_has 3 rfl) rfl ?_
    refine x_getfield F_X1_9 (dT U_X1_has 4 rfl) hf (by decide) rfl ?_
    refine x_icmp_ge (tgt := 16) (dT U_X1_has 5 rfl) (by decide) (by unfold xr at *; omega) (by unfold xr at *; omega) (fun c9 => ?_) (fun c9 => ?_)
    · skip
      refine x_iconst (dT U_X1_has 8 rfl) ?_
      refine x_zreturn (dT U_X1_has 9 rfl) rfl (by omega) ?_
      first | exact k1 (by omega) | exact k0 (by omega)
    · skip
      refine x_iconst (dT U_X1_has 6 rfl) ?_
      refine x_goto (tgt := 17) (dT U_X1_has 7 rfl) (by decide) ?_
      refine x_zreturn (dT U_X1_has 9 rfl) rfl (by omega) ?_
      first | exact k1 (by omega) | exact k0 (by omega)

set_option maxRecDepth 20000 in
theorem S_X1_rest {G : xG} {d rc rs : Nat} {ex : Bool} {h : xH} {Q : xQ} {p : Nat} {z : Int} (hf : h[4]? = some (cO 1 [vi (p : Int)])) (hp : 2 < p ∧ p < 24) (hz : xr z) (k : Q (.inl (some (vi (z % (p : Int))))) ex h) : X G m_X1_rest d rc rs ex 0 (xe m_X1_rest.2.2.1 [.ref 4, vi z]) [] h Q := by
  show X G m_X1_rest _ _ _ _ 0 [some (.ref 4), some (vi z), none] [] h Q
  refine x_aload_n (dT U_X1_rest 0 rfl) rfl ?_
  refine x_getfield F_X1_9 (dT U_X1_rest 1 rfl) hf (by decide) rfl ?_
  refine x_if_le (tgt := 16) (dT U_X1_rest 2 rfl) (by decide) (by unfold xr at *; omega) (fun c4 => ?_) (fun c4 => ?_)
  · exfalso; omega
  · skip
    refine x_iload_n (dT U_X1_rest 3 rfl) rfl ?_
    refine x_aload_n (dT U_X1_rest 4 rfl) rfl ?_
    refine x_getfield F_X1_9 (dT U_X1_rest 5 rfl) hf (by decide) rfl ?_
    refine x_irem (dT U_X1_rest 6 rfl) (by unfold xr at *; omega) (by unfold xr at *; omega) (by omega) ?_
    refine x_goto (tgt := 17) (dT U_X1_rest 7 rfl) (by decide) ?_
    refine x_istore_n (ls' := [some (.ref _), some (vi _), some (vi _)]) (dT U_X1_rest 9 rfl) (by decide) rfl ?_
    have hb := tmod_neg (z := z) (p := p) (by omega)
    have hb2 := tmod_nn (z := z) (p := p) (by omega)
    have hb3 : xr (z.tmod p) := by
      have h2 := modb (z := z) (p := p) (by omega)
      unfold xr
      by_cases h3 : z.tmod p < 0
      · have := hb h3; have h5 : -p < z.tmod p := Int.lt_tmod_of_pos z (by omega); omega
      · have := hb2 h3; omega
    refine x_iload_n (dT U_X1_rest 10 rfl) rfl ?_
    refine x_if_ge (tgt := 31) (dT U_X1_rest 11 rfl) (by decide) hb3 (fun c19 => ?_) (fun c19 => ?_)
    · skip
      rw [hb2 (by omega)]
      refine x_iload_n (dT U_X1_rest 17 rfl) rfl ?_
      first | rw [hb (by omega)] | skip
      refine x_ireturn (dT U_X1_rest 18 rfl) rfl ?_
      exact k
    · skip
      refine x_iload_n (dT U_X1_rest 12 rfl) rfl ?_
      refine x_aload_n (dT U_X1_rest 13 rfl) rfl ?_
      refine x_getfield F_X1_9 (dT U_X1_rest 14 rfl) hf (by decide) rfl ?_
      refine x_iadd (dT U_X1_rest 15 rfl) ?_
      refine x_goto (tgt := 32) (dT U_X1_rest 16 rfl) (by decide) ?_
      first | rw [hb (by omega)] | skip
      refine x_ireturn (dT U_X1_rest 18 rfl) rfl ?_
      exact k

set_option maxRecDepth 20000 in
theorem S_X1_sum {G : xG} {d rc rs : Nat} {ex : Bool} {h : xH} {Q : xQ} {p : Nat} {a b : Int} (hf : h[4]? = some (cO 1 [vi (p : Int)])) (hp : 2 < p ∧ p < 24) (hz : xr (a + b)) (k : Q (.inl (some (vi ((a + b) % (p : Int))))) ex h) : X G m_X1_sum (d + 1) rc rs ex 0 (xe m_X1_sum.2.2.1 [.ref 4, vi a, vi b]) [] h Q := by
  show X G m_X1_sum _ _ _ _ 0 [some (.ref 4), some (vi a), some (vi b)] [] h Q
  refine x_aload_n (dT U_X1_sum 0 rfl) rfl ?_
  refine x_iload_n (dT U_X1_sum 1 rfl) rfl ?_
  refine x_iload_n (dT U_X1_sum 2 rfl) rfl ?_
  refine x_iadd (dT U_X1_sum 3 rfl) ?_
  refine x_invokevirtual (rc' := rc) (rs' := rs) (rc2 := 0) (rs2 := 0) (As := [_]) (st := _) M_X1_rest K_X1_15 (dT U_X1_sum 4 rfl) rfl rfl (by decide) rfl rfl hf (by decide) (by decide) rfl (Nat.le_of_ble_eq_true rfl) rfl (by decide) (Nat.le_of_ble_eq_true rfl) rfl rfl ?_
  refine S_X1_rest hf hp hz ?_
  refine xRet_some ?_
  refine x_ireturn (dT U_X1_sum 5 rfl) rfl ?_
  exact k

set_option maxRecDepth 20000 in
theorem S_X1_less {G : xG} {d rc rs : Nat} {ex : Bool} {h : xH} {Q : xQ} {p : Nat} {a b : Int} (hf : h[4]? = some (cO 1 [vi (p : Int)])) (hp : 2 < p ∧ p < 24) (hz : xr (a - b)) (k : Q (.inl (some (vi ((a - b) % (p : Int))))) ex h) : X G m_X1_less (d + 1) rc rs ex 0 (xe m_X1_less.2.2.1 [.ref 4, vi a, vi b]) [] h Q := by
  show X G m_X1_less _ _ _ _ 0 [some (.ref 4), some (vi a), some (vi b)] [] h Q
  refine x_aload_n (dT U_X1_less 0 rfl) rfl ?_
  refine x_iload_n (dT U_X1_less 1 rfl) rfl ?_
  refine x_iload_n (dT U_X1_less 2 rfl) rfl ?_
  refine x_isub (dT U_X1_less 3 rfl) ?_
  refine x_invokevirtual (rc' := rc) (rs' := rs) (rc2 := 0) (rs2 := 0) (As := [_]) (st := _) M_X1_rest K_X1_15 (dT U_X1_less 4 rfl) rfl rfl (by decide) rfl rfl hf (by decide) (by decide) rfl (Nat.le_of_ble_eq_true rfl) rfl (by decide) (Nat.le_of_ble_eq_true rfl) rfl rfl ?_
  refine S_X1_rest hf hp hz ?_
  refine xRet_some ?_
  refine x_ireturn (dT U_X1_less 5 rfl) rfl ?_
  exact k

set_option maxRecDepth 20000 in
theorem S_X1_product {G : xG} {d rc rs : Nat} {ex : Bool} {h : xH} {Q : xQ} {p : Nat} {a b : Int} (hf : h[4]? = some (cO 1 [vi (p : Int)])) (hp : 2 < p ∧ p < 24) (hz : xr (a * b)) (k : Q (.inl (some (vi ((a * b) % (p : Int))))) ex h) : X G m_X1_product (d + 1) rc rs ex 0 (xe m_X1_product.2.2.1 [.ref 4, vi a, vi b]) [] h Q := by
  show X G m_X1_product _ _ _ _ 0 [some (.ref 4), some (vi a), some (vi b)] [] h Q
  refine x_aload_n (dT U_X1_product 0 rfl) rfl ?_
  refine x_iload_n (dT U_X1_product 1 rfl) rfl ?_
  refine x_iload_n (dT U_X1_product 2 rfl) rfl ?_
  refine x_imul (dT U_X1_product 3 rfl) ?_
  refine x_invokevirtual (rc' := rc) (rs' := rs) (rc2 := 0) (rs2 := 0) (As := [_]) (st := _) M_X1_rest K_X1_15 (dT U_X1_product 4 rfl) rfl rfl (by decide) rfl rfl hf (by decide) (by decide) rfl (Nat.le_of_ble_eq_true rfl) rfl (by decide) (Nat.le_of_ble_eq_true rfl) rfl rfl ?_
  refine S_X1_rest hf hp hz ?_
  refine xRet_some ?_
  refine x_ireturn (dT U_X1_product 5 rfl) rfl ?_
  exact k

set_option maxRecDepth 20000 in
set_option maxHeartbeats 1000000 in
theorem S_X1_inverse {G : xG} {d rc rs : Nat} {ex : Bool} {h : xH} {Q : xQ} {p a : Nat} (hf : h[4]? = some (cO 1 [vi (p : Int)])) (hp : p ∈ PR) (ha : 0 < a ∧ a < p) (k : Q (.inl (some (vi (iv p a : Int)))) ex h) : X G m_X1_inverse (d + 2) rc rs ex 0 (xe m_X1_inverse.2.2.1 [.ref 4, vi (a : Int)]) [] h Q := by
  show X G m_X1_inverse _ _ _ _ 0 [some (.ref 4), some (vi (a : Int)), none] [] h Q
  have hb := PRb hp
  have L : ∀ (n i : Nat), i + n = p → (∀ j, j < i → ¬ (a * j) % p = 1) → X G m_X1_inverse (d + 2) rc rs ex 2 [some (.ref 4), some (vi (a : Int)), some (vi (i : Int))] [] h Q := by
    intro n
    induction n with
    | zero =>
      intro i hi hx
      refine x_iload_n (dT U_X1_inverse 2 rfl) rfl ?_
      refine x_aload_n (dT U_X1_inverse 3 rfl) rfl ?_
      refine x_getfield F_X1_9 (dT U_X1_inverse 4 rfl) hf (by decide) rfl ?_
      refine x_icmp_ge (tgt := 28) (dT U_X1_inverse 5 rfl) (by decide) (by unfold xr at *; omega) (by unfold xr at *; omega) (fun c7 => ?_) (fun c7 => ?_)
      · skip
        exfalso
        obtain ⟨e1, e2, e3⟩ := iv_ok hp ha.2 ha.1
        exact hx _ (by omega) e1
      · exfalso; omega
    | succ n ih =>
      intro i hi hx
      refine x_iload_n (dT U_X1_inverse 2 rfl) rfl ?_
      refine x_aload_n (dT U_X1_inverse 3 rfl) rfl ?_
      refine x_getfield F_X1_9 (dT U_X1_inverse 4 rfl) hf (by decide) rfl ?_
      refine x_icmp_ge (tgt := 28) (dT U_X1_inverse 5 rfl) (by decide) (by unfold xr at *; omega) (by unfold xr at *; omega) (fun c7 => ?_) (fun c7 => ?_)
      · exfalso; omega
      · skip
        refine x_aload_n (dT U_X1_inverse 6 rfl) rfl ?_
        refine x_iload_n (dT U_X1_inverse 7 rfl) rfl ?_
        refine x_iload_n (dT U_X1_inverse 8 rfl) rfl ?_
        refine x_invokevirtual (rc' := rc) (rs' := rs) (rc2 := 0) (rs2 := 0) (As := [_, _]) (st := _) M_X1_product K_X1_19 (dT U_X1_inverse 9 rfl) rfl rfl (by decide) rfl rfl hf (by decide) (by decide) rfl (Nat.le_of_ble_eq_true rfl) rfl (by decide) (Nat.le_of_ble_eq_true rfl) rfl rfl ?_
        refine S_X1_product hf hb (by have := mulb (a := (a : Int)) (b := (i : Int)) (p := (p : Int)) (by omega) (by omega) (by omega); unfold xr; omega) ?_
        refine xRet_some ?_
        refine x_iconst (dT U_X1_inverse 10 rfl) ?_
        refine x_icmp_ne (tgt := 22) (dT U_X1_inverse 11 rfl) (by decide) (by have := modb (z := (a : Int) * (i : Int)) (p := (p : Int)) (by omega); unfold xr; omega) (by unfold xr at *; omega) (fun c17 => ?_) (fun c17 => ?_)
        · skip
          refine x_iinc (ls' := [some (.ref _), some (vi _), some (vi _)]) (dT U_X1_inverse 14 rfl) (by decide) rfl rfl ?_
          refine x_goto (tgt := 2) (dT U_X1_inverse 15 rfl) (by decide) ?_
          refine ih (i + 1) (by omega) (fun j hj => ?_)
          by_cases e : j = i
          · subst e
            intro h9
            refine c17 ?_
            rw [← Int.natCast_mul, ← Int.natCast_emod, h9]
            rfl
          · exact hx j (by omega)
        · skip
          have e9 : (a * i) % p = 1 := by
            have h9 : (((a * i) % p : Nat) : Int) = 1 := by rw [Int.natCast_emod, Int.natCast_mul]; exact c17
            omega
          refine x_iload_n (dT U_X1_inverse 12 rfl) rfl ?_
          refine x_ireturn (dT U_X1_inverse 13 rfl) rfl ?_
          rw [iv_un hp ha.2 (by omega) e9]
          exact k
  refine x_iconst (dT U_X1_inverse 0 rfl) ?_
  refine x_istore_n (ls' := [some (.ref _), some (vi _), some (vi _)]) (dT U_X1_inverse 1 rfl) (by decide) rfl ?_
  refine L (p - 1) 1 (by omega) (fun j hj => ?_)
  have e0 : j = 0 := by omega
  rw [e0, Nat.mul_zero, Nat.zero_mod]
  omega

set_option maxRecDepth 20000 in
set_option maxHeartbeats 1000000 in
theorem S_X1_rootsOf {G : xG} {d rc rs : Nat} {ex : Bool} {h : xH} {Q : xQ} {p : Nat} {a b : Int} (hf : h[4]? = some (cO 1 [vi (p : Int)])) (hp : 2 < p ∧ p < 24) (ha : 0 ≤ a ∧ a < p) (hb : 0 ≤ b ∧ b < p) (k : Q (.inl (some (vi (ct (fun x : Nat => (a + (x : Int) * b) % (p : Int) = 0) p : Int)))) ex h) : X G m_X1_rootsOf (d + 1) rc rs ex 0 (xe m_X1_rootsOf.2.2.1 [.ref 4, vi a, vi b]) [] h Q := by
  show X G m_X1_rootsOf _ _ _ _ 0 [some (.ref 4), some (vi a), some (vi b), none, none] [] h Q
  have L : ∀ (n i : Nat), i + n = p → X G m_X1_rootsOf (d + 1) rc rs ex 5 [some (.ref 4), some (vi a), some (vi b), some (vi (ct (fun x : Nat => (a + (x : Int) * b) % (p : Int) = 0) i : Int)), some (vi (i : Int))] [] h Q := by
    intro n
    induction n with
    | zero =>
      intro i hi 
      refine x_iload (dT U_X1_rootsOf 4 rfl) rfl ?_
      refine x_aload_n (dT U_X1_rootsOf 5 rfl) rfl ?_
      refine x_getfield F_X1_9 (dT U_X1_rootsOf 6 rfl) hf (by decide) rfl ?_
      refine x_icmp_ge (tgt := 36) (dT U_X1_rootsOf 7 rfl) (by decide) (by unfold xr at *; omega) (by unfold xr at *; omega) (fun c11 => ?_) (fun c11 => ?_)
      · skip
        refine x_iload_n (dT U_X1_rootsOf 19 rfl) rfl ?_
        have e : i = p := by omega
        subst e
        refine x_ireturn (dT U_X1_rootsOf 20 rfl) rfl ?_
        exact k
      · exfalso; omega
    | succ n ih =>
      intro i hi 
      refine x_iload (dT U_X1_rootsOf 4 rfl) rfl ?_
      refine x_aload_n (dT U_X1_rootsOf 5 rfl) rfl ?_
      refine x_getfield F_X1_9 (dT U_X1_rootsOf 6 rfl) hf (by decide) rfl ?_
      refine x_icmp_ge (tgt := 36) (dT U_X1_rootsOf 7 rfl) (by decide) (by unfold xr at *; omega) (by unfold xr at *; omega) (fun c11 => ?_) (fun c11 => ?_)
      · exfalso; omega
      · skip
        refine x_aload_n (dT U_X1_rootsOf 8 rfl) rfl ?_
        refine x_iload_n (dT U_X1_rootsOf 9 rfl) rfl ?_
        refine x_iload (dT U_X1_rootsOf 10 rfl) rfl ?_
        refine x_iload_n (dT U_X1_rootsOf 11 rfl) rfl ?_
        refine x_imul (dT U_X1_rootsOf 12 rfl) ?_
        refine x_iadd (dT U_X1_rootsOf 13 rfl) ?_
        refine x_invokevirtual (rc' := rc) (rs' := rs) (rc2 := 0) (rs2 := 0) (As := [_]) (st := _) M_X1_rest K_X1_15 (dT U_X1_rootsOf 14 rfl) rfl rfl (by decide) rfl rfl hf (by decide) (by decide) rfl (Nat.le_of_ble_eq_true rfl) rfl (by decide) (Nat.le_of_ble_eq_true rfl) rfl rfl ?_
        have hm := mulb (a := (i : Int)) (b := b) (p := (p : Int)) (by omega) (by omega) (by omega)
        refine S_X1_rest hf hp (by unfold xr; omega) ?_
        refine xRet_some ?_
        refine x_if_ne (tgt := 30) (dT U_X1_rootsOf 15 rfl) (by decide) (by have := modb (z := a + (i : Int) * b) (p := (p : Int)) (by omega); unfold xr; omega) (fun c24 => ?_) (fun c24 => ?_)
        · skip
          refine x_iinc (ls' := [some (.ref _), some (vi _), some (vi _), some (vi _), some (vi _)]) (dT U_X1_rootsOf 17 rfl) (by decide) rfl rfl ?_
          refine x_goto (tgt := 5) (dT U_X1_rootsOf 18 rfl) (by decide) ?_
          have q := ih (i + 1) (by omega)
          first | rw [ct_yes c24] at q | rw [ct_no c24] at q
          exact q
        · skip
          refine x_iinc (ls' := [some (.ref _), some (vi _), some (vi _), some (vi _), some (vi _)]) (dT U_X1_rootsOf 16 rfl) (by decide) rfl rfl ?_
          refine x_iinc (ls' := [some (.ref _), some (vi _), some (vi _), some (vi _), some (vi _)]) (dT U_X1_rootsOf 17 rfl) (by decide) rfl rfl ?_
          refine x_goto (tgt := 5) (dT U_X1_rootsOf 18 rfl) (by decide) ?_
          have q := ih (i + 1) (by omega)
          first | rw [ct_yes c24] at q | rw [ct_no c24] at q
          exact q
  refine x_iconst (dT U_X1_rootsOf 0 rfl) ?_
  refine x_istore_n (ls' := [some (.ref _), some (vi _), some (vi _), some (vi _), none]) (dT U_X1_rootsOf 1 rfl) (by decide) rfl ?_
  refine x_iconst (dT U_X1_rootsOf 2 rfl) ?_
  refine x_istore (ls' := [some (.ref _), some (vi _), some (vi _), some (vi _), some (vi _)]) (dT U_X1_rootsOf 3 rfl) (by decide) rfl ?_
  exact L p 0 (by omega)

set_option maxRecDepth 20000 in
set_option maxHeartbeats 1000000 in
theorem S_X1_valueAt {G : xG} {d rc rs : Nat} {ex : Bool} {h : xH} {Q : xQ} {p : Nat} {x : Int} {aa : Nat} {al : List Int} (hf : h[4]? = some (cO 1 [vi (p : Int)])) (hp : 2 < p ∧ p < 24) (ha : h[aa]? = some (cA 0 al)) (a3 : 3 ≤ aa) (la : Fl (p : Int) al) (hx : 0 ≤ x ∧ x < p) (k : Q (.inl (some (vi (hor (fun j => al.getD j 0) p x 8)))) ex h) : X G m_X1_valueAt (d + 1) rc rs ex 0 (xe m_X1_valueAt.2.2.1 [.ref 4, .ref aa, vi x]) [] h Q := by
  show X G m_X1_valueAt _ _ _ _ 0 [some (.ref 4), some (.ref aa), some (vi x), none, none] [] h Q
  have L : ∀ (n i : Nat), i + n = 8 → X G m_X1_valueAt (d + 1) rc rs ex 6 [some (.ref 4), some (.ref aa), some (vi x), some (vi (hor (fun j => al.getD j 0) p x i)), some (vi (7 - (i : Int)))] [] h Q := by
    intro n
    induction n with
    | zero =>
      intro i hi 
      refine x_iload (dT U_X1_valueAt 4 rfl) rfl ?_
      refine x_if_lt (tgt := 30) (dT U_X1_valueAt 5 rfl) (by decide) (by unfold xr at *; omega) (fun c8 => ?_) (fun c8 => ?_)
      · skip
        refine x_iload_n (dT U_X1_valueAt 18 rfl) rfl ?_
        have e : i = 8 := by omega
        subst e
        refine x_ireturn (dT U_X1_valueAt 19 rfl) rfl ?_
        exact k
      · exfalso; omega
    | succ n ih =>
      intro i hi 
      refine x_iload (dT U_X1_valueAt 4 rfl) rfl ?_
      refine x_if_lt (tgt := 30) (dT U_X1_valueAt 5 rfl) (by decide) (by unfold xr at *; omega) (fun c8 => ?_) (fun c8 => ?_)
      · exfalso; omega
      · skip
        refine x_aload_n (dT U_X1_valueAt 6 rfl) rfl ?_
        refine x_iload_n (dT U_X1_valueAt 7 rfl) rfl ?_
        refine x_iload_n (dT U_X1_valueAt 8 rfl) rfl ?_
        refine x_imul (dT U_X1_valueAt 9 rfl) ?_
        refine x_aload_n (dT U_X1_valueAt 10 rfl) rfl ?_
        refine x_iload (dT U_X1_valueAt 11 rfl) rfl ?_
        refine x_iaload (7 - i) (dT U_X1_valueAt 12 rfl) ha a3 (by omega) (by have := la.1; omega) (by have := la.1; omega) ?_
        refine x_iadd (dT U_X1_valueAt 13 rfl) ?_
        refine x_invokevirtual (rc' := rc) (rs' := rs) (rc2 := 0) (rs2 := 0) (As := [_]) (st := _) M_X1_rest K_X1_15 (dT U_X1_valueAt 14 rfl) rfl rfl (by decide) rfl rfl hf (by decide) (by decide) rfl (Nat.le_of_ble_eq_true rfl) rfl (by decide) (Nat.le_of_ble_eq_true rfl) rfl rfl ?_
        have hq := hor_b (f := (fun j => al.getD j 0)) (p := (p : Int)) (x := x) (by omega) i
        have hm := mulb hq hx (by omega)
        have h7 := la.2 (7 - i)
        refine S_X1_rest hf hp (by unfold xr; omega) ?_
        refine xRet_some ?_
        refine x_istore_n (ls' := [some (.ref _), some (.ref _), some (vi _), some (vi _), some (vi _)]) (dT U_X1_valueAt 15 rfl) (by decide) rfl ?_
        refine x_iinc (ls' := [some (.ref _), some (.ref _), some (vi _), some (vi _), some (vi _)]) (dT U_X1_valueAt 16 rfl) (by decide) rfl rfl ?_
        refine x_goto (tgt := 6) (dT U_X1_valueAt 17 rfl) (by decide) ?_
        have e : (7 : Int) - (i : Int) + -1 = 7 - ((i + 1 : Nat) : Int) := by omega
        rw [e]
        exact ih (i + 1) (by omega)
  refine x_iconst (dT U_X1_valueAt 0 rfl) ?_
  refine x_istore_n (ls' := [some (.ref _), some (.ref _), some (vi _), some (vi _), none]) (dT U_X1_valueAt 1 rfl) (by decide) rfl ?_
  refine x_bipush (dT U_X1_valueAt 2 rfl) (by decide) ?_
  refine x_istore (ls' := [some (.ref _), some (.ref _), some (vi _), some (vi _), some (vi _)]) (dT U_X1_valueAt 3 rfl) (by decide) rfl ?_
  exact L 8 0 (by omega)

set_option maxRecDepth 20000 in
set_option maxHeartbeats 1000000 in
theorem S_X1_zerosOf {G : xG} {d rc rs : Nat} {ex : Bool} {h : xH} {Q : xQ} {p : Nat} {aa : Nat} {al : List Int} (hf : h[4]? = some (cO 1 [vi (p : Int)])) (hp : 2 < p ∧ p < 24) (ha : h[aa]? = some (cA 0 al)) (a3 : 3 ≤ aa) (la : Fl (p : Int) al) (k : Q (.inl (some (vi (ct (fun x : Nat => hor (fun j => al.getD j 0) p (x : Int) 8 = 0) p : Int)))) ex h) : X G m_X1_zerosOf (d + 2) rc rs ex 0 (xe m_X1_zerosOf.2.2.1 [.ref 4, .ref aa]) [] h Q := by
  show X G m_X1_zerosOf _ _ _ _ 0 [some (.ref 4), some (.ref aa), none, none] [] h Q
  have L : ∀ (n i : Nat), i + n = p → X G m_X1_zerosOf (d + 2) rc rs ex 4 [some (.ref 4), some (.ref aa), some (vi (ct (fun x : Nat => hor (fun j => al.getD j 0) p (x : Int) 8 = 0) i : Int)), some (vi (i : Int))] [] h Q := by
    intro n
    induction n with
    | zero =>
      intro i hi 
      refine x_iload_n (dT U_X1_zerosOf 4 rfl) rfl ?_
      refine x_aload_n (dT U_X1_zerosOf 5 rfl) rfl ?_
      refine x_getfield F_X1_9 (dT U_X1_zerosOf 6 rfl) hf (by decide) rfl ?_
      refine x_icmp_ge (tgt := 30) (dT U_X1_zerosOf 7 rfl) (by decide) (by unfold xr at *; omega) (by unfold xr at *; omega) (fun c9 => ?_) (fun c9 => ?_)
      · skip
        refine x_iload_n (dT U_X1_zerosOf 16 rfl) rfl ?_
        have e : i = p := by omega
        subst e
        refine x_ireturn (dT U_X1_zerosOf 17 rfl) rfl ?_
        exact k
      · exfalso; omega
    | succ n ih =>
      intro i hi 
      refine x_iload_n (dT U_X1_zerosOf 4 rfl) rfl ?_
      refine x_aload_n (dT U_X1_zerosOf 5 rfl) rfl ?_
      refine x_getfield F_X1_9 (dT U_X1_zerosOf 6 rfl) hf (by decide) rfl ?_
      refine x_icmp_ge (tgt := 30) (dT U_X1_zerosOf 7 rfl) (by decide) (by unfold xr at *; omega) (by unfold xr at *; omega) (fun c9 => ?_) (fun c9 => ?_)
      · exfalso; omega
      · skip
        refine x_aload_n (dT U_X1_zerosOf 8 rfl) rfl ?_
        refine x_aload_n (dT U_X1_zerosOf 9 rfl) rfl ?_
        refine x_iload_n (dT U_X1_zerosOf 10 rfl) rfl ?_
        refine x_invokevirtual (rc' := rc) (rs' := rs) (rc2 := 0) (rs2 := 0) (As := [_, _]) (st := _) M_X1_valueAt K_X1_23 (dT U_X1_zerosOf 11 rfl) rfl rfl (by decide) rfl rfl hf (by decide) (by decide) rfl (Nat.le_of_ble_eq_true rfl) rfl (by decide) (Nat.le_of_ble_eq_true rfl) rfl rfl ?_
        refine S_X1_valueAt hf hp ha a3 la (by omega) ?_
        refine xRet_some ?_
        refine x_if_ne (tgt := 24) (dT U_X1_zerosOf 12 rfl) (by decide) (by have := hor_b (f := (fun j => al.getD j 0)) (p := (p : Int)) (x := (i : Int)) (by omega) 8; unfold xr; omega) (fun c18 => ?_) (fun c18 => ?_)
        · skip
          refine x_iinc (ls' := [some (.ref _), some (.ref _), some (vi _), some (vi _)]) (dT U_X1_zerosOf 14 rfl) (by decide) rfl rfl ?_
          refine x_goto (tgt := 4) (dT U_X1_zerosOf 15 rfl) (by decide) ?_
          have q := ih (i + 1) (by omega)
          first | rw [ct_yes c18] at q | rw [ct_no c18] at q
          exact q
        · skip
          refine x_iinc (ls' := [some (.ref _), some (.ref _), some (vi _), some (vi _)]) (dT U_X1_zerosOf 13 rfl) (by decide) rfl rfl ?_
          refine x_iinc (ls' := [some (.ref _), some (.ref _), some (vi _), some (vi _)]) (dT U_X1_zerosOf 14 rfl) (by decide) rfl rfl ?_
          refine x_goto (tgt := 4) (dT U_X1_zerosOf 15 rfl) (by decide) ?_
          have q := ih (i + 1) (by omega)
          first | rw [ct_yes c18] at q | rw [ct_no c18] at q
          exact q
  refine x_iconst (dT U_X1_zerosOf 0 rfl) ?_
  refine x_istore_n (ls' := [some (.ref _), some (.ref _), some (vi _), none]) (dT U_X1_zerosOf 1 rfl) (by decide) rfl ?_
  refine x_iconst (dT U_X1_zerosOf 2 rfl) ?_
  refine x_istore_n (ls' := [some (.ref _), some (.ref _), some (vi _), some (vi _)]) (dT U_X1_zerosOf 3 rfl) (by decide) rfl ?_
  exact L p 0 (by omega)

set_option maxRecDepth 20000 in
set_option maxHeartbeats 1000000 in
theorem S_X1_innerOf {G : xG} {d rc rs : Nat} {ex : Bool} {h : xH} {Q : xQ} {p : Nat} {aa : Nat} {al : List Int}{ba : Nat} {bl : List Int} (hf : h[4]? = some (cO 1 [vi (p : Int)])) (hp : 2 < p ∧ p < 24) (ha : h[aa]? = some (cA 0 al)) (a3 : 3 ≤ aa) (la : Fl 24 al) (hb : h[ba]? = some (cA 0 bl)) (b3 : 3 ≤ ba) (lb : Fl 24 bl) (k : Q (.inl (some (vi (sm (fun j => al.getD j 0 * bl.getD j 0) 8 % (p : Int))))) ex h) : X G m_X1_innerOf (d + 1) rc rs ex 0 (xe m_X1_innerOf.2.2.1 [.ref 4, .ref aa, .ref ba]) [] h Q := by
  show X G m_X1_innerOf _ _ _ _ 0 [some (.ref 4), some (.ref aa), some (.ref ba), none, none] [] h Q
  have L : ∀ (n i : Nat), i + n = 8 → X G m_X1_innerOf (d + 1) rc rs ex 5 [some (.ref 4), some (.ref aa), some (.ref ba), some (vi (sm (fun j => al.getD j 0 * bl.getD j 0) i)), some (vi (i : Int))] [] h Q := by
    intro n
    induction n with
    | zero =>
      intro i hi 
      refine x_iload (dT U_X1_innerOf 4 rfl) rfl ?_
      refine x_bipush (dT U_X1_innerOf 5 rfl) (by decide) ?_
      refine x_icmp_ge (tgt := 30) (dT U_X1_innerOf 6 rfl) (by decide) (by unfold xr at *; omega) (by unfold xr at *; omega) (fun c9 => ?_) (fun c9 => ?_)
      · skip
        refine x_aload_n (dT U_X1_innerOf 19 rfl) rfl ?_
        refine x_iload_n (dT U_X1_innerOf 20 rfl) rfl ?_
        refine x_invokevirtual (rc' := rc) (rs' := rs) (rc2 := 0) (rs2 := 0) (As := [_]) (st := _) M_X1_rest K_X1_15 (dT U_X1_innerOf 21 rfl) rfl rfl (by decide) rfl rfl hf (by decide) (by decide) rfl (Nat.le_of_ble_eq_true rfl) rfl (by decide) (Nat.le_of_ble_eq_true rfl) rfl rfl ?_
        have e : i = 8 := by omega
        subst e
        have hq := sm_b (f := (fun j => al.getD j 0 * bl.getD j 0)) (a := 0) (b := 529) (by omega) (by omega) 8 (fun j _ => mulg (m := 23) (n := 23) (by have := la.2 j; omega) (by have := lb.2 j; omega))
        refine S_X1_rest hf hp (by unfold xr; omega) ?_
        refine xRet_some ?_
        refine x_ireturn (dT U_X1_innerOf 22 rfl) rfl ?_
        exact k
      · exfalso; omega
    | succ n ih =>
      intro i hi 
      refine x_iload (dT U_X1_innerOf 4 rfl) rfl ?_
      refine x_bipush (dT U_X1_innerOf 5 rfl) (by decide) ?_
      refine x_icmp_ge (tgt := 30) (dT U_X1_innerOf 6 rfl) (by decide) (by unfold xr at *; omega) (by unfold xr at *; omega) (fun c9 => ?_) (fun c9 => ?_)
      · exfalso; omega
      · skip
        refine x_iload_n (dT U_X1_innerOf 7 rfl) rfl ?_
        refine x_aload_n (dT U_X1_innerOf 8 rfl) rfl ?_
        refine x_iload (dT U_X1_innerOf 9 rfl) rfl ?_
        refine x_iaload (i) (dT U_X1_innerOf 10 rfl) ha a3 rfl (by have := la.1; omega) (by have := la.1; omega) ?_
        refine x_aload_n (dT U_X1_innerOf 11 rfl) rfl ?_
        refine x_iload (dT U_X1_innerOf 12 rfl) rfl ?_
        refine x_iaload (i) (dT U_X1_innerOf 13 rfl) hb b3 rfl (by have := lb.1; omega) (by have := lb.1; omega) ?_
        refine x_imul (dT U_X1_innerOf 14 rfl) ?_
        refine x_iadd (dT U_X1_innerOf 15 rfl) ?_
        refine x_istore_n (ls' := [some (.ref _), some (.ref _), some (.ref _), some (vi _), some (vi _)]) (dT U_X1_innerOf 16 rfl) (by decide) rfl ?_
        refine x_iinc (ls' := [some (.ref _), some (.ref _), some (.ref _), some (vi _), some (vi _)]) (dT U_X1_innerOf 17 rfl) (by decide) rfl rfl ?_
        refine x_goto (tgt := 5) (dT U_X1_innerOf 18 rfl) (by decide) ?_
        exact ih (i + 1) (by omega)
  refine x_iconst (dT U_X1_innerOf 0 rfl) ?_
  refine x_istore_n (ls' := [some (.ref _), some (.ref _), some (.ref _), some (vi _), none]) (dT U_X1_innerOf 1 rfl) (by decide) rfl ?_
  refine x_iconst (dT U_X1_innerOf 2 rfl) ?_
  refine x_istore (ls' := [some (.ref _), some (.ref _), some (.ref _), some (vi _), some (vi _)]) (dT U_X1_innerOf 3 rfl) (by decide) rfl ?_
  exact L 8 0 (by omega)

set_option maxRecDepth 20000 in
set_option maxHeartbeats 1000000 in
theorem S_X1_sumOf {G : xG} {d rc rs : Nat} {ex : Bool} {h : xH} {Q : xQ} {p s t : Nat} {aa : Nat} {al : List Int} (hf : h[4]? = some (cO 1 [vi (p : Int)])) (hp : 2 < p ∧ p < 24) (ha : h[aa]? = some (cA 0 al)) (a3 : 3 ≤ aa) (la : Fl (p : Int) al) (hst : s ≤ t ∧ t ≤ 8) (k : Q (.inl (some (vi ((sm (fun j => al.getD j 0) t - sm (fun j => al.getD j 0) s) % (p : Int))))) ex h) : X G m_X1_sumOf (d + 1) rc rs ex 0 (xe m_X1_sumOf.2.2.1 [.ref 4, .ref aa, vi (s : Int), vi (t : Int)]) [] h Q := by
  show X G m_X1_sumOf _ _ _ _ 0 [some (.ref 4), some (.ref aa), some (vi (s : Int)), some (vi (t : Int)), none, none] [] h Q
  have L : ∀ (n i : Nat), i + n = t → X G m_X1_sumOf (d + 1) rc rs ex 6 [some (.ref 4), some (.ref aa), some (vi (s : Int)), some (vi (t : Int)), some (vi (sm (fun j => al.getD j 0) i - sm (fun j => al.getD j 0) s)), some (vi (i : Int))] [] h Q := by
    intro n
    induction n with
    | zero =>
      intro i hi 
      refine x_iload (dT U_X1_sumOf 4 rfl) rfl ?_
      refine x_iload_n (dT U_X1_sumOf 5 rfl) rfl ?_
      refine x_icmp_ge (tgt := 34) (dT U_X1_sumOf 6 rfl) (by decide) (by unfold xr at *; omega) (by unfold xr at *; omega) (fun c9 => ?_) (fun c9 => ?_)
      · skip
        refine x_aload_n (dT U_X1_sumOf 18 rfl) rfl ?_
        refine x_iload (dT U_X1_sumOf 19 rfl) rfl ?_
        refine x_invokevirtual (rc' := rc) (rs' := rs) (rc2 := 0) (rs2 := 0) (As := [_]) (st := _) M_X1_rest K_X1_15 (dT U_X1_sumOf 20 rfl) rfl rfl (by decide) rfl rfl hf (by decide) (by decide) rfl (Nat.le_of_ble_eq_true rfl) rfl (by decide) (Nat.le_of_ble_eq_true rfl) rfl rfl ?_
        have e : i = t := by omega
        subst e
        have hq := sm_b (f := (fun j => al.getD j 0)) (a := 0) (b := 23) (by omega) (by omega) i (fun j _ => by have := la.2 j; omega)
        have hq2 := sm_b (f := (fun j => al.getD j 0)) (a := 0) (b := 23) (by omega) (by omega) s (fun j _ => by have := la.2 j; omega)
        refine S_X1_rest hf hp (by unfold xr; omega) ?_
        refine xRet_some ?_
        refine x_ireturn (dT U_X1_sumOf 21 rfl) rfl ?_
        exact k
      · exfalso; omega
    | succ n ih =>
      intro i hi 
      refine x_iload (dT U_X1_sumOf 4 rfl) rfl ?_
      refine x_iload_n (dT U_X1_sumOf 5 rfl) rfl ?_
      refine x_icmp_ge (tgt := 34) (dT U_X1_sumOf 6 rfl) (by decide) (by unfold xr at *; omega) (by unfold xr at *; omega) (fun c9 => ?_) (fun c9 => ?_)
      · exfalso; omega
      · skip
        refine x_iload (dT U_X1_sumOf 7 rfl) rfl ?_
        refine x_bipush (dT U_X1_sumOf 8 rfl) (by decide) ?_
        refine x_icmp_ge (tgt := 34) (dT U_X1_sumOf 9 rfl) (by decide) (by unfold xr at *; omega) (by unfold xr at *; omega) (fun c16 => ?_) (fun c16 => ?_)
        · exfalso; omega
        · skip
          refine x_iload (dT U_X1_sumOf 10 rfl) rfl ?_
          refine x_aload_n (dT U_X1_sumOf 11 rfl) rfl ?_
          refine x_iload (dT U_X1_sumOf 12 rfl) rfl ?_
          refine x_iaload (i) (dT U_X1_sumOf 13 rfl) ha a3 rfl (by have := la.1; omega) (by have := la.1; omega) ?_
          refine x_iadd (dT U_X1_sumOf 14 rfl) ?_
          refine x_istore (ls' := [some (.ref _), some (.ref _), some (vi _), some (vi _), some (vi _), some (vi _)]) (dT U_X1_sumOf 15 rfl) (by decide) rfl ?_
          refine x_iinc (ls' := [some (.ref _), some (.ref _), some (vi _), some (vi _), some (vi _), some (vi _)]) (dT U_X1_sumOf 16 rfl) (by decide) rfl rfl ?_
          refine x_goto (tgt := 6) (dT U_X1_sumOf 17 rfl) (by decide) ?_
          have q := ih (i + 1) (by omega)
          have e : sm (fun j => al.getD j 0) i - sm (fun j => al.getD j 0) s + al.getD i 0 = sm (fun j => al.getD j 0) (i + 1) - sm (fun j => al.getD j 0) s := by show _ = sm (fun j => al.getD j 0) i + al.getD i 0 - _; omega
          rw [e]
          exact q
  refine x_iconst (dT U_X1_sumOf 0 rfl) ?_
  refine x_istore (ls' := [some (.ref _), some (.ref _), some (vi _), some (vi _), some (vi _), none]) (dT U_X1_sumOf 1 rfl) (by decide) rfl ?_
  refine x_iload_n (dT U_X1_sumOf 2 rfl) rfl ?_
  refine x_istore (ls' := [some (.ref _), some (.ref _), some (vi _), some (vi _), some (vi _), some (vi _)]) (dT U_X1_sumOf 3 rfl) (by decide) rfl ?_
  have q := L (t - s) s (by omega)
  rw [Int.sub_self] at q
  exact q

set_option maxRecDepth 20000 in
set_option maxHeartbeats 1000000 in
theorem S_X1_addTimes {G : xG} {d rc rs : Nat} {ex : Bool} {h : xH} {Q : xQ} {p : Nat} {c : Int} {aa : Nat} {al : List Int}{ba : Nat} {bl : List Int}{ta : Nat} {tl : List Int} (hf : h[4]? = some (cO 1 [vi (p : Int)])) (hp : 2 < p ∧ p < 24) (ha : h[aa]? = some (cA 0 al)) (a3 : 3 ≤ aa) (la : Fl (p : Int) al) (hb : h[ba]? = some (cA 0 bl)) (b3 : 3 ≤ ba) (lb : Fl (p : Int) bl) (ht : h[ta]? = some (cA 0 tl)) (t3 : 3 ≤ ta) (lt : tl.length = 8) (hc : -(p : Int) < c ∧ c < p) (k : Q (.inl none) ex (h.set ta (cA 0 (tab (fun j => (al.getD j 0 + c * bl.getD j 0) % (p : Int)) 8)))) : X G m_X1_addTimes (d + 1) rc rs ex 0 (xe m_X1_addTimes.2.2.1 [.ref 4, .ref aa, .ref ba, vi c, .ref ta]) [] h Q := by
  show X G m_X1_addTimes _ _ _ _ 0 [some (.ref 4), some (.ref aa), some (.ref ba), some (vi c), some (.ref ta), none] [] h Q
  have L : ∀ (n i : Nat), i + n = 8 → X G m_X1_addTimes (d + 1) rc rs ex 3 [some (.ref 4), some (.ref aa), some (.ref ba), some (vi c), some (.ref ta), some (vi (i : Int))] [] (h.set ta (cA 0 (fillL (fun j => (al.getD j 0 + c * bl.getD j 0) % (p : Int)) tl i))) Q := by
    intro n
    induction n with
    | zero =>
      intro i hi 
      refine x_iload (dT U_X1_addTimes 2 rfl) rfl ?_
      refine x_bipush (dT U_X1_addTimes 3 rfl) (by decide) ?_
      refine x_icmp_ge (tgt := 36) (dT U_X1_addTimes 4 rfl) (by decide) (by unfold xr at *; omega) (by unfold xr at *; omega) (fun c7 => ?_) (fun c7 => ?_)
      · skip
        refine x_return (dT U_X1_addTimes 21 rfl) rfl ?_
        have e : i = 8 := by omega
        subst e
        rw [fillL_all lt]
        exact k
      · exfalso; omega
    | succ n ih =>
      intro i hi 
      have ht2 : (h.set ta (cA 0 (fillL (fun j => (al.getD j 0 + c * bl.getD j 0) % (p : Int)) tl i)))[ta]? = _ := hset_eq ht
      have hf2 := hset_ne (c := cA 0 (fillL (fun j => (al.getD j 0 + c * bl.getD j 0) % (p : Int)) tl i)) (ne_AO ht hf) hf
      obtain ⟨al2, ea1, ea2, ea3⟩ := hset_al (f := (fun j => (al.getD j 0 + c * bl.getD j 0) % (p : Int))) (i := i) ha ht
      obtain ⟨bl2, eb1, eb2, eb3⟩ := hset_al (f := (fun j => (al.getD j 0 + c * bl.getD j 0) % (p : Int))) (i := i) hb ht
      refine x_iload (dT U_X1_addTimes 2 rfl) rfl ?_
      refine x_bipush (dT U_X1_addTimes 3 rfl) (by decide) ?_
      refine x_icmp_ge (tgt := 36) (dT U_X1_addTimes 4 rfl) (by decide) (by unfold xr at *; omega) (by unfold xr at *; omega) (fun c7 => ?_) (fun c7 => ?_)
      · exfalso; omega
      · skip
        refine x_aload (dT U_X1_addTimes 5 rfl) rfl ?_
        refine x_iload (dT U_X1_addTimes 6 rfl) rfl ?_
        refine x_aload_n (dT U_X1_addTimes 7 rfl) rfl ?_
        refine x_aload_n (dT U_X1_addTimes 8 rfl) rfl ?_
        refine x_iload (dT U_X1_addTimes 9 rfl) rfl ?_
        refine x_iaload (i) (dT U_X1_addTimes 10 rfl) ea1 a3 rfl (by have := la.1; omega) (by have := la.1; omega) ?_
        refine x_iload_n (dT U_X1_addTimes 11 rfl) rfl ?_
        refine x_aload_n (dT U_X1_addTimes 12 rfl) rfl ?_
        refine x_iload (dT U_X1_addTimes 13 rfl) rfl ?_
        refine x_iaload (i) (dT U_X1_addTimes 14 rfl) eb1 b3 rfl (by have := lb.1; omega) (by have := lb.1; omega) ?_
        refine x_imul (dT U_X1_addTimes 15 rfl) ?_
        refine x_iadd (dT U_X1_addTimes 16 rfl) ?_
        refine x_invokevirtual (rc' := rc) (rs' := rs) (rc2 := 0) (rs2 := 0) (As := [_]) (st := _) M_X1_rest K_X1_15 (dT U_X1_addTimes 17 rfl) rfl rfl (by decide) rfl rfl hf2 (by decide) (by decide) rfl (Nat.le_of_ble_eq_true rfl) rfl (by decide) (Nat.le_of_ble_eq_true rfl) rfl rfl ?_
        rw [ea3 i (Nat.le_refl i), eb3 i (Nat.le_refl i)]
        have hm := mulb (lb.2 i) (lb.2 i) (by omega)
        have hA := la.2 i
        have hm2 : -528 ≤ c * bl.getD i 0 ∧ c * bl.getD i 0 ≤ 528 := mulb2 hc (lb.2 i) (by omega)
        refine S_X1_rest hf2 hp (by unfold xr; omega) ?_
        refine xRet_some ?_
        refine x_iastore (i) (dT U_X1_addTimes 18 rfl) ht2 t3 rfl (by rw [fillL_len]; omega) (by rw [fillL_len]; omega) ?_
        rw [List.set_set]
        refine x_iinc (ls' := [some (.ref _), some (.ref _), some (.ref _), some (vi _), some (.ref _), some (vi _)]) (dT U_X1_addTimes 19 rfl) (by decide) rfl rfl ?_
        refine x_goto (tgt := 3) (dT U_X1_addTimes 20 rfl) (by decide) ?_
        exact ih (i + 1) (by omega)
  refine x_iconst (dT U_X1_addTimes 0 rfl) ?_
  refine x_istore (ls' := [some (.ref _), some (.ref _), some (.ref _), some (vi _), some (.ref _), some (vi _)]) (dT U_X1_addTimes 1 rfl) (by decide) rfl ?_
  have q := L 8 0 (by omega)
  rw [show fillL (fun j => (al.getD j 0 + c * bl.getD j 0) % (p : Int)) tl 0 = tl from rfl, hset_self ht] at q
  exact q

set_option maxRecDepth 20000 in
set_option maxHeartbeats 1000000 in
theorem S_X1_bind {G : xG} {d rc rs : Nat} {ex : Bool} {h : xH} {Q : xQ} {p s : Nat} {c : Int} {aa : Nat} {al : List Int} (hf : h[4]? = some (cO 1 [vi (p : Int)])) (hp : 2 < p ∧ p < 24) (ha : h[aa]? = some (cA 0 al)) (a3 : 3 ≤ aa) (la : Fl (p : Int) al) (hs : s ≤ 4) (hc : 0 ≤ c ∧ c < p) (k : Q (.inl none) ex (h.set aa (cA 0 (fillL (fun j => (al.getD j 0 + c * (al.getD (j + s) 0 - al.getD j 0)) % (p : Int)) al s)))) : X G m_X1_bind (d + 1) rc rs ex 0 (xe m_X1_bind.2.2.1 [.ref 4, .ref aa, vi (s : Int), vi c]) [] h Q := by
  show X G m_X1_bind _ _ _ _ 0 [some (.ref 4), some (.ref aa), some (vi (s : Int)), some (vi c), none] [] h Q
  have L : ∀ (n i : Nat), i + n = s → X G m_X1_bind (d + 1) rc rs ex 3 [some (.ref 4), some (.ref aa), some (vi (s : Int)), some (vi c), some (vi (i : Int))] [] (h.set aa (cA 0 (fillL (fun j => (al.getD j 0 + c * (al.getD (j + s) 0 - al.getD j 0)) % (p : Int)) al i))) Q := by
    intro n
    induction n with
    | zero =>
      intro i hi 
      refine x_iload (dT U_X1_bind 2 rfl) rfl ?_
      refine x_iload_n (dT U_X1_bind 3 rfl) rfl ?_
      refine x_icmp_ge (tgt := 50) (dT U_X1_bind 4 rfl) (by decide) (by unfold xr at *; omega) (by unfold xr at *; omega) (fun c6 => ?_) (fun c6 => ?_)
      · skip
        refine x_return (dT U_X1_bind 32 rfl) rfl ?_
        have e : i = s := by omega
        subst e
        exact k
      · exfalso; omega
    | succ n ih =>
      intro i hi 
      have ha2 : (h.set aa (cA 0 (fillL (fun j => (al.getD j 0 + c * (al.getD (j + s) 0 - al.getD j 0)) % (p : Int)) al i)))[aa]? = _ := hset_eq ha
      have hf2 := hset_ne (c := cA 0 (fillL (fun j => (al.getD j 0 + c * (al.getD (j + s) 0 - al.getD j 0)) % (p : Int)) al i)) (ne_AO ha hf) hf
      refine x_iload (dT U_X1_bind 2 rfl) rfl ?_
      refine x_iload_n (dT U_X1_bind 3 rfl) rfl ?_
      refine x_icmp_ge (tgt := 50) (dT U_X1_bind 4 rfl) (by decide) (by unfold xr at *; omega) (by unfold xr at *; omega) (fun c6 => ?_) (fun c6 => ?_)
      · exfalso; omega
      · skip
        refine x_iload (dT U_X1_bind 5 rfl) rfl ?_
        refine x_iload_n (dT U_X1_bind 6 rfl) rfl ?_
        refine x_iadd (dT U_X1_bind 7 rfl) ?_
        refine x_bipush (dT U_X1_bind 8 rfl) (by decide) ?_
        refine x_icmp_ge (tgt := 50) (dT U_X1_bind 9 rfl) (by decide) (by unfold xr at *; omega) (by unfold xr at *; omega) (fun c15 => ?_) (fun c15 => ?_)
        · exfalso; omega
        · skip
          refine x_aload_n (dT U_X1_bind 10 rfl) rfl ?_
          refine x_iload (dT U_X1_bind 11 rfl) rfl ?_
          refine x_aload_n (dT U_X1_bind 12 rfl) rfl ?_
          refine x_aload_n (dT U_X1_bind 13 rfl) rfl ?_
          refine x_iload (dT U_X1_bind 14 rfl) rfl ?_
          refine x_iaload (i) (dT U_X1_bind 15 rfl) ha2 a3 rfl (by rw [fillL_len]; have := la.1; omega) (by rw [fillL_len]; have := la.1; omega) ?_
          refine x_iload_n (dT U_X1_bind 16 rfl) rfl ?_
          refine x_aload_n (dT U_X1_bind 17 rfl) rfl ?_
          refine x_iload (dT U_X1_bind 18 rfl) rfl ?_
          refine x_iload_n (dT U_X1_bind 19 rfl) rfl ?_
          refine x_iadd (dT U_X1_bind 20 rfl) ?_
          refine x_iaload ((i + s)) (dT U_X1_bind 21 rfl) ha2 a3 rfl (by rw [fillL_len]; have := la.1; omega) (by rw [fillL_len]; have := la.1; omega) ?_
          refine x_aload_n (dT U_X1_bind 22 rfl) rfl ?_
          refine x_iload (dT U_X1_bind 23 rfl) rfl ?_
          refine x_iaload (i) (dT U_X1_bind 24 rfl) ha2 a3 rfl (by rw [fillL_len]; have := la.1; omega) (by rw [fillL_len]; have := la.1; omega) ?_
          refine x_isub (dT U_X1_bind 25 rfl) ?_
          refine x_imul (dT U_X1_bind 26 rfl) ?_
          refine x_iadd (dT U_X1_bind 27 rfl) ?_
          refine x_invokevirtual (rc' := rc) (rs' := rs) (rc2 := 0) (rs2 := 0) (As := [_]) (st := _) M_X1_rest K_X1_15 (dT U_X1_bind 28 rfl) rfl rfl (by decide) rfl rfl hf2 (by decide) (by decide) rfl (Nat.le_of_ble_eq_true rfl) rfl (by decide) (Nat.le_of_ble_eq_true rfl) rfl rfl ?_
          rw [fillL_ge _ _ i i (Nat.le_refl i), fillL_ge _ _ i (i + s) (by omega)]
          have hA := la.2 i
          have hB := la.2 (i + s)
          have hm2 : -528 ≤ c * (al.getD (i + s) 0 - al.getD i 0) ∧ c * (al.getD (i + s) 0 - al.getD i 0) ≤ 528 := by have q := mulb2 (a := al.getD (i + s) 0 - al.getD i 0) (b := c) (p := p) (by omega) hc (by omega); rw [Int.mul_comm] at q; exact q
          refine S_X1_rest hf2 hp (by unfold xr; omega) ?_
          refine xRet_some ?_
          refine x_iastore (i) (dT U_X1_bind 29 rfl) ha2 a3 rfl (by rw [fillL_len]; have := la.1; omega) (by rw [fillL_len]; have := la.1; omega) ?_
          rw [List.set_set]
          refine x_iinc (ls' := [some (.ref _), some (.ref _), some (vi _), some (vi _), some (vi _)]) (dT U_X1_bind 30 rfl) (by decide) rfl rfl ?_
          refine x_goto (tgt := 3) (dT U_X1_bind 31 rfl) (by decide) ?_
          exact ih (i + 1) (by omega)
  refine x_iconst (dT U_X1_bind 0 rfl) ?_
  refine x_istore (ls' := [some (.ref _), some (.ref _), some (vi _), some (vi _), some (vi _)]) (dT U_X1_bind 1 rfl) (by decide) rfl ?_
  have q := L s 0 (by omega)
  rw [show fillL (fun j => (al.getD j 0 + c * (al.getD (j + s) 0 - al.getD j 0)) % (p : Int)) al 0 = al from rfl, hset_self ha] at q
  exact q

set_option maxRecDepth 20000 in
set_option maxHeartbeats 1000000 in
theorem S_X1_degreeOf {G : xG} {d rc rs : Nat} {ex : Bool} {h : xH} {Q : xQ} {aa : Nat} {al : List Int} (ha : h[aa]? = some (cA 0 al)) (a3 : 3 ≤ aa) (la : al.length = 8) (hr : ∀ j, xr (al.getD j 0)) (k : Q (.inl (some (vi (dg (fun j => al.getD j 0) 8)))) ex h) : X G m_X1_degreeOf d rc rs ex 0 (xe m_X1_degreeOf.2.2.1 [.ref aa]) [] h Q := by
  show X G m_X1_degreeOf _ _ _ _ 0 [some (.ref aa), none] [] h Q
  have L : ∀ (n i : Nat), i + n = 8 → dg (fun j => al.getD j 0) 8 = dg (fun j => al.getD j 0) (8 - i) → X G m_X1_degreeOf d rc rs ex 3 [some (.ref aa), some (vi (7 - (i : Int)))] [] h Q := by
    intro n
    induction n with
    | zero =>
      intro i hi hx
      refine x_iload_n (dT U_X1_degreeOf 2 rfl) rfl ?_
      refine x_if_lt (tgt := 21) (dT U_X1_degreeOf 3 rfl) (by decide) (by unfold xr at *; omega) (fun c4 => ?_) (fun c4 => ?_)
      · skip
        refine x_iconst (dT U_X1_degreeOf 12 rfl) ?_
        refine x_ireturn (dT U_X1_degreeOf 13 rfl) rfl ?_
        have e : i = 8 := by omega
        subst e
        rw [hx] at k
        exact k
      · exfalso; omega
    | succ n ih =>
      intro i hi hx
      refine x_iload_n (dT U_X1_degreeOf 2 rfl) rfl ?_
      refine x_if_lt (tgt := 21) (dT U_X1_degreeOf 3 rfl) (by decide) (by unfold xr at *; omega) (fun c4 => ?_) (fun c4 => ?_)
      · exfalso; omega
      · skip
        refine x_aload_n (dT U_X1_degreeOf 4 rfl) rfl ?_
        refine x_iload_n (dT U_X1_degreeOf 5 rfl) rfl ?_
        refine x_iaload (7 - i) (dT U_X1_degreeOf 6 rfl) ha a3 (by omega) (by omega) (by omega) ?_
        refine x_if_eq (tgt := 15) (dT U_X1_degreeOf 7 rfl) (by decide) (hr (7 - i)) (fun c10 => ?_) (fun c10 => ?_)
        · skip
          refine x_iinc (ls' := [some (.ref _), some (vi _)]) (dT U_X1_degreeOf 10 rfl) (by decide) rfl rfl ?_
          refine x_goto (tgt := 3) (dT U_X1_degreeOf 11 rfl) (by decide) ?_
          have e : (7 : Int) - (i : Int) + -1 = 7 - ((i + 1 : Nat) : Int) := by omega
          rw [e]
          refine ih (i + 1) (by omega) (hx.trans ?_)
          rw [show 8 - i = (7 - i) + 1 by omega, show 8 - (i + 1) = 7 - i by omega]
          show (if _ then _ else _) = _
          rw [if_neg (fun z => z c10)]
        · skip
          refine x_iload_n (dT U_X1_degreeOf 8 rfl) rfl ?_
          refine x_ireturn (dT U_X1_degreeOf 9 rfl) rfl ?_
          have e : dg (fun j => al.getD j 0) (8 - i) = 7 - (i : Int) := by
            rw [show 8 - i = (7 - i) + 1 by omega]
            show (if _ then _ else _) = _
            rw [if_pos c10]
            omega
          rw [← e, ← hx]
          exact k
  refine x_bipush (dT U_X1_degreeOf 0 rfl) (by decide) ?_
  refine x_istore_n (ls' := [some (.ref _), some (vi _)]) (dT U_X1_degreeOf 1 rfl) (by decide) rfl ?_
  exact L 8 0 (by omega) rfl

set_option maxRecDepth 20000 in
set_option maxHeartbeats 1000000 in
theorem S_X1_clear {G : xG} {d rc rs : Nat} {ex : Bool} {h : xH} {Q : xQ} {aa : Nat} {al : List Int} (ha : h[aa]? = some (cA 0 al)) (a3 : 3 ≤ aa) (la : al.length = 8) (k : Q (.inl none) ex (h.set aa (cA 0 (tab (fun _ => 0) 8)))) : X G m_X1_clear d rc rs ex 0 (xe m_X1_clear.2.2.1 [.ref aa]) [] h Q := by
  show X G m_X1_clear _ _ _ _ 0 [some (.ref aa), none] [] h Q
  have L : ∀ (n i : Nat), i + n = 8 → X G m_X1_clear d rc rs ex 2 [some (.ref aa), some (vi (i : Int))] [] (h.set aa (cA 0 (fillL (fun _ => 0) al i))) Q := by
    intro n
    induction n with
    | zero =>
      intro i hi 
      refine x_iload_n (dT U_X1_clear 2 rfl) rfl ?_
      refine x_bipush (dT U_X1_clear 3 rfl) (by decide) ?_
      refine x_icmp_ge (tgt := 18) (dT U_X1_clear 4 rfl) (by decide) (by unfold xr at *; omega) (by unfold xr at *; omega) (fun c5 => ?_) (fun c5 => ?_)
      · skip
        refine x_return (dT U_X1_clear 11 rfl) rfl ?_
        have e : i = 8 := by omega
        subst e
        rw [fillL_all la]
        exact k
      · exfalso; omega
    | succ n ih =>
      intro i hi 
      refine x_iload_n (dT U_X1_clear 2 rfl) rfl ?_
      refine x_bipush (dT U_X1_clear 3 rfl) (by decide) ?_
      refine x_icmp_ge (tgt := 18) (dT U_X1_clear 4 rfl) (by decide) (by unfold xr at *; omega) (by unfold xr at *; omega) (fun c5 => ?_) (fun c5 => ?_)
      · exfalso; omega
      · skip
        refine x_aload_n (dT U_X1_clear 5 rfl) rfl ?_
        refine x_iload_n (dT U_X1_clear 6 rfl) rfl ?_
        refine x_iconst (dT U_X1_clear 7 rfl) ?_
        refine x_iastore (i) (dT U_X1_clear 8 rfl) (hset_eq ha) a3 rfl (by rw [fillL_len]; omega) (by rw [fillL_len]; omega) ?_
        rw [List.set_set]
        refine x_iinc (ls' := [some (.ref _), some (vi _)]) (dT U_X1_clear 9 rfl) (by decide) rfl rfl ?_
        refine x_goto (tgt := 2) (dT U_X1_clear 10 rfl) (by decide) ?_
        exact ih (i + 1) (by omega)
  refine x_iconst (dT U_X1_clear 0 rfl) ?_
  refine x_istore_n (ls' := [some (.ref _), some (vi _)]) (dT U_X1_clear 1 rfl) (by decide) rfl ?_
  have q := L 8 0 (by omega)
  rw [show fillL (fun _ => 0) al 0 = al from rfl, hset_self ha] at q
  exact q

set_option maxRecDepth 20000 in
set_option maxHeartbeats 1000000 in
theorem S_X1_copy {G : xG} {d rc rs : Nat} {ex : Bool} {h : xH} {Q : xQ} {aa : Nat} {al : List Int}{ta : Nat} {tl : List Int} (ha : h[aa]? = some (cA 0 al)) (a3 : 3 ≤ aa) (la : al.length = 8) (ht : h[ta]? = some (cA 0 tl)) (t3 : 3 ≤ ta) (lt : tl.length = 8) (k : Q (.inl none) ex (h.set ta (cA 0 al))) : X G m_X1_copy d rc rs ex 0 (xe m_X1_copy.2.2.1 [.ref aa, .ref ta]) [] h Q := by
  show X G m_X1_copy _ _ _ _ 0 [some (.ref aa), some (.ref ta), none] [] h Q
  have L : ∀ (n i : Nat), i + n = 8 → X G m_X1_copy d rc rs ex 2 [some (.ref aa), some (.ref ta), some (vi (i : Int))] [] (h.set ta (cA 0 (fillL (fun j => al.getD j 0) tl i))) Q := by
    intro n
    induction n with
    | zero =>
      intro i hi 
      refine x_iload_n (dT U_X1_copy 2 rfl) rfl ?_
      refine x_bipush (dT U_X1_copy 3 rfl) (by decide) ?_
      refine x_icmp_ge (tgt := 20) (dT U_X1_copy 4 rfl) (by decide) (by unfold xr at *; omega) (by unfold xr at *; omega) (fun c5 => ?_) (fun c5 => ?_)
      · skip
        refine x_return (dT U_X1_copy 13 rfl) rfl ?_
        have e : i = 8 := by omega
        subst e
        rw [fillL_all lt, tab_self la]
        exact k
      · exfalso; omega
    | succ n ih =>
      intro i hi 
      obtain ⟨al2, ea1, ea2, ea3⟩ := hset_al (f := (fun j => al.getD j 0)) (i := i) ha ht
      refine x_iload_n (dT U_X1_copy 2 rfl) rfl ?_
      refine x_bipush (dT U_X1_copy 3 rfl) (by decide) ?_
      refine x_icmp_ge (tgt := 20) (dT U_X1_copy 4 rfl) (by decide) (by unfold xr at *; omega) (by unfold xr at *; omega) (fun c5 => ?_) (fun c5 => ?_)
      · exfalso; omega
      · skip
        refine x_aload_n (dT U_X1_copy 5 rfl) rfl ?_
        refine x_iload_n (dT U_X1_copy 6 rfl) rfl ?_
        refine x_aload_n (dT U_X1_copy 7 rfl) rfl ?_
        refine x_iload_n (dT U_X1_copy 8 rfl) rfl ?_
        refine x_iaload (i) (dT U_X1_copy 9 rfl) ea1 a3 rfl (by omega) (by omega) ?_
        refine x_iastore (i) (dT U_X1_copy 10 rfl) (hset_eq ht) t3 rfl (by rw [fillL_len]; omega) (by rw [fillL_len]; omega) ?_
        rw [List.set_set, ea3 i (Nat.le_refl i)]
        refine x_iinc (ls' := [some (.ref _), some (.ref _), some (vi _)]) (dT U_X1_copy 11 rfl) (by decide) rfl rfl ?_
        refine x_goto (tgt := 2) (dT U_X1_copy 12 rfl) (by decide) ?_
        exact ih (i + 1) (by omega)
  refine x_iconst (dT U_X1_copy 0 rfl) ?_
  refine x_istore_n (ls' := [some (.ref _), some (.ref _), some (vi _)]) (dT U_X1_copy 1 rfl) (by decide) rfl ?_
  have q := L 8 0 (by omega)
  rw [show fillL (fun j => al.getD j 0) tl 0 = tl from rfl, hset_self ht] at q
  exact q

set_option maxRecDepth 20000 in
set_option maxHeartbeats 1000000 in
theorem S_X1_areSame {G : xG} {d rc rs : Nat} {ex : Bool} {h : xH} {Q : xQ} {aa : Nat} {al : List Int}{ba : Nat} {bl : List Int} (ha : h[aa]? = some (cA 0 al)) (a3 : 3 ≤ aa) (la : al.length = 8) (hb : h[ba]? = some (cA 0 bl)) (b3 : 3 ≤ ba) (lb : bl.length = 8) (hr : ∀ j, xr (al.getD j 0) ∧ xr (bl.getD j 0)) (k1 : al = bl → Q (.inl (some (vi 1))) ex h) (k0 : ¬ al = bl → Q (.inl (some (vi 0))) ex h) : X G m_X1_areSame d rc rs ex 0 (xe m_X1_areSame.2.2.1 [.ref aa, .ref ba]) [] h Q := by
  show X G m_X1_areSame _ _ _ _ 0 [some (.ref aa), some (.ref ba), none] [] h Q
  have L : ∀ (n i : Nat), i + n = 8 → (∀ j, j < i → al.getD j 0 = bl.getD j 0) → X G m_X1_areSame d rc rs ex 2 [some (.ref aa), some (.ref ba), some (vi (i : Int))] [] h Q := by
    intro n
    induction n with
    | zero =>
      intro i hi hx
      refine x_iload_n (dT U_X1_areSame 2 rfl) rfl ?_
      refine x_bipush (dT U_X1_areSame 3 rfl) (by decide) ?_
      refine x_icmp_ge (tgt := 25) (dT U_X1_areSame 4 rfl) (by decide) (by unfold xr at *; omega) (by unfold xr at *; omega) (fun c5 => ?_) (fun c5 => ?_)
      · skip
        refine x_iconst (dT U_X1_areSame 16 rfl) ?_
        refine x_zreturn (dT U_X1_areSame 17 rfl) rfl (by omega) ?_
        exact k1 (list_ext (by omega) (fun j hj => hx j (by omega)))
      · exfalso; omega
    | succ n ih =>
      intro i hi hx
      refine x_iload_n (dT U_X1_areSame 2 rfl) rfl ?_
      refine x_bipush (dT U_X1_areSame 3 rfl) (by decide) ?_
      refine x_icmp_ge (tgt := 25) (dT U_X1_areSame 4 rfl) (by decide) (by unfold xr at *; omega) (by unfold xr at *; omega) (fun c5 => ?_) (fun c5 => ?_)
      · exfalso; omega
      · skip
        refine x_aload_n (dT U_X1_areSame 5 rfl) rfl ?_
        refine x_iload_n (dT U_X1_areSame 6 rfl) rfl ?_
        refine x_iaload (i) (dT U_X1_areSame 7 rfl) ha a3 rfl (by omega) (by omega) ?_
        refine x_aload_n (dT U_X1_areSame 8 rfl) rfl ?_
        refine x_iload_n (dT U_X1_areSame 9 rfl) rfl ?_
        refine x_iaload (i) (dT U_X1_areSame 10 rfl) hb b3 rfl (by omega) (by omega) ?_
        refine x_icmp_eq (tgt := 19) (dT U_X1_areSame 11 rfl) (by decide) (hr i).1 (hr i).2 (fun c14 => ?_) (fun c14 => ?_)
        · skip
          refine x_iinc (ls' := [some (.ref _), some (.ref _), some (vi _)]) (dT U_X1_areSame 14 rfl) (by decide) rfl rfl ?_
          refine x_goto (tgt := 2) (dT U_X1_areSame 15 rfl) (by decide) ?_
          refine ih (i + 1) (by omega) (fun j hj => ?_)
          by_cases e : j = i
          · rw [e]; exact c14
          · exact hx j (by omega)
        · skip
          refine x_iconst (dT U_X1_areSame 12 rfl) ?_
          refine x_zreturn (dT U_X1_areSame 13 rfl) rfl (by omega) ?_
          exact k0 (fun z => c14 (by rw [z]))
  refine x_iconst (dT U_X1_areSame 0 rfl) ?_
  refine x_istore_n (ls' := [some (.ref _), some (.ref _), some (vi _)]) (dT U_X1_areSame 1 rfl) (by decide) rfl ?_
  exact L 8 0 (by omega) (fun j hj => absurd hj (Nat.not_lt_zero j))
