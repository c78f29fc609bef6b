/-- what a pair with a challenge keeps -/
theorem PS.ok.all {p : Nat} {P : PS} (k : P.ok p) (hp : p ∈ PR) (h : P.st = 3) : P.f0 = fo p P.e 0 P.c0 P.t0 ∧ P.f1 = fo p P.e 1 P.c1 P.t1 ∧ (P.c0 + P.c1) % (p : Int) = P.c ∧ (0 ≤ P.c0 ∧ P.c0 < p) ∧ (0 ≤ P.c1 ∧ P.c1 < p) ∧ (0 ≤ P.t0 ∧ P.t0 < p) ∧ (0 ≤ P.t1 ∧ P.t1 < p) := by
  have hb := PRb hp
  obtain ⟨k1, k2, k3, k4, -⟩ := k
  obtain ⟨kb, kl, ke⟩ := k2 (by omega)
  obtain ⟨k30, k31⟩ := k3 (by omega)
  obtain ⟨k40, k41⟩ := k4 (by omega)
  generalize P.b = b at *
  generalize P.bl = bl at *
  generalize P.e = e at *
  generalize P.m = m at *
  generalize P.c = c at *
  generalize P.f0 = f0 at *
  generalize P.f1 = f1 at *
  generalize P.c0 = c0 at *
  generalize P.c1 = c1 at *
  generalize P.t0 = t0 at *
  generalize P.t1 = t1 at *
  unfold cm1 at ke
  obtain ⟨x, hx⟩ := emx (a := (bs p 0 : Int) * b + (bs p 8 : Int) * bl) (p := (p : Int))
  rcases kb with rfl | rfl
  · obtain ⟨q1, q2, q3, q4, q5⟩ := k30 rfl
    obtain ⟨r1, r2, r3⟩ := k40 rfl
    have m1 := modb (z := c - c1) (p := (p : Int)) (by omega)
    have m2 := modb (z := m + c0 * bl) (p := (p : Int)) (by omega)
    obtain ⟨y, hy⟩ := emx (a := m + c0 * bl) (p := (p : Int))
    refine ⟨?_, q5, ?_, by omega, q3, by omega, q4⟩
    · rw [q2]
      unfold fo
      rw [r3, hy, ke, hx]
      exact emq ((bs p 8 : Int) * y - x * c0) (by grind)
    · rw [r2, am_l, Int.sub_add_cancel, Int.emod_eq_of_lt r1.1 r1.2]
  · obtain ⟨q1, q2, q3, q4, q5⟩ := k31 rfl
    obtain ⟨r1, r2, r3⟩ := k41 rfl
    have m1 := modb (z := c - c0) (p := (p : Int)) (by omega)
    have m2 := modb (z := m + c1 * bl) (p := (p : Int)) (by omega)
    obtain ⟨y, hy⟩ := emx (a := m + c1 * bl) (p := (p : Int))
    refine ⟨q5, ?_, ?_, q3, by omega, q4, by omega⟩
    · rw [q2]
      unfold fo
      rw [r3, hy, ke, hx]
      exact emq ((bs p 8 : Int) * y - x * c1) (by grind)
    · rw [r2, am_r, show c0 + (c - c0) = c by omega, Int.emod_eq_of_lt r1.1 r1.2]
theorem ct_eq (a : Nat) : ∀ n, ct (fun x => x = a) n = if a < n then 1 else 0
  | 0 => rfl
  | n + 1 => by
    show ct (fun x => x = a) n + (if n = a then 1 else 0) = _
    rw [ct_eq a n]
    by_cases e : n = a
    · rw [if_pos e, if_neg (by omega), if_pos (by omega)]
    · by_cases q : a < n
      · rw [if_pos q, if_neg e, if_pos (by omega)]
      · rw [if_neg q, if_neg e, if_neg (by omega)]
theorem ct_one {P : Nat → Prop} [DecidablePred P] {n a : Nat} (ha : a < n) (h : ∀ x, x < n → (P x ↔ x = a)) : ct P n = 1 := by
  rw [ct_congr (Q := fun x => x = a) n h, ct_eq, if_pos ha]
/-- one hiding alone fits -/
theorem ways1 {p : Nat} {e s c t : Int} (hp : p ∈ PR) (hc : 0 ≤ c ∧ c < p) (ht : 0 ≤ t ∧ t < p) :
    ct (fun x : Nat => cm1 p 0 (x : Int) = fo p e s c t ∧ ((x : Int) + c * ((e - s * (bs p 0 : Int)) % (p : Int) * (iv p (bs p 8) : Int) % (p : Int))) % (p : Int) = t) p = 1 := by
  have hb := PRb hp
  have h8 := bs_b hp (i := 8) (by omega)
  have hiv := iv_ok hp h8.2 h8.1
  have hiv1 : (bs p 8 : Int) * (iv p (bs p 8) : Int) % (p : Int) = 1 := by
    rw [← Int.natCast_mul, ← Int.natCast_emod, hiv.1]; rfl
  generalize (iv p (bs p 8) : Int) = w at *
  have h88 : (bs p 8 : Int) = (bs p 8 : Int) := rfl
  obtain ⟨x1, hx1⟩ := emx (a := e - s * (bs p 0 : Int)) (p := (p : Int))
  obtain ⟨x2, hx2⟩ := emx (a := (e - s * (bs p 0 : Int)) % (p : Int) * w) (p := (p : Int))
  obtain ⟨x3, hx3⟩ := emx (a := (bs p 8 : Int) * w) (p := (p : Int))
  rw [hiv1] at hx3
  have mh := modb (z := t - c * ((e - s * (bs p 0 : Int)) % (p : Int) * w % (p : Int))) (p := (p : Int)) (by omega)
  generalize hO : (e - s * (bs p 0 : Int)) % (p : Int) * w % (p : Int) = O at *
  refine ct_one (a := ((t - c * O) % (p : Int)).toNat) (by omega) (fun x hx => ⟨fun ⟨_, q2⟩ => ?_, fun q => ?_⟩)
  · have h3 : (x : Int) = (t - c * O) % (p : Int) := by
      rw [← q2, sm_l, show (x : Int) + c * O - c * O = x by omega, Int.emod_eq_of_lt (by omega) (by omega)]
    omega
  · have h3 : (x : Int) = (t - c * O) % (p : Int) := by omega
    rw [h3]
    constructor
    · unfold cm1 fo
      rw [Int.mul_zero, Int.zero_add, ml_r]
      refine emq (x1 * c + (bs p 8 : Int) * c * x2 - x3 * (e - s * (bs p 0 : Int) - p * x1) * c) ?_
      rw [hx2, hx1]
      generalize e - s * (bs p 0 : Int) = E at *
      grind
    · rw [am_l, Int.sub_add_cancel, Int.emod_eq_of_lt ht.1 ht.2]

set_option maxRecDepth 20000 in
set_option maxHeartbeats 1000000 in
theorem S_X5_holds0 {G : xG} {d rc rs : Nat} {ex : Bool} {h : xH} {Q : xQ} {p pa : Nat} {P : PS} (hp5 : p ∈ PR) (hw : GW p h) (hr : PAt p pa P h) (ok : P.ok p) (s3 : P.st = 3) (k : Q (.inl (some (vi 1))) ex h) : X G m_X5_holds (d + 3) rc rs ex 0 (xe m_X5_holds.2.2.1 [.ref pa, vi 0]) [] h Q := by
  show X G m_X5_holds _ _ _ _ 0 [some (.ref pa), some (vi 0)] [] h Q
  have hp := PRb hp5
  have hq := gq_b hp5
  obtain ⟨hf, hg, hml, hex, hbs⟩ := id hw
  obtain ⟨r9, hP, hF, hC, hT⟩ := id hr
  have hP : h[pa]? = some (cO 5 [.ref 5, .ref 4, .ref (pa + 1), .ref (pa + 2), .ref (pa + 3), vi (P.y p), vi (P.bb), vi (P.ll), vi (P.mm), vi (P.cc)]) := hP
  have al := ok.all hp5 s3
  have F0e : P.F0 p = MM p P.f0 := if_pos (by omega)
  have F1e : P.F1 p = MM p P.f1 := if_pos (by omega)
  have ye : P.y p = MM p P.e := if_pos (by omega)
  have ce : P.cc = P.c := if_pos (by omega)
  have be := ok.eb hp.1 (by omega)
  rw [F0e, F1e] at hF
  rw [ye, ce] at hP
  refine x_aload_n (dT U_X5_holds 0 rfl) rfl ?_
  refine x_getfield F_X5_22 (dT U_X5_holds 1 rfl) hP (by omega) rfl ?_
  refine x_iload_n (dT U_X5_holds 2 rfl) rfl ?_
  refine x_iaload (0) (dT U_X5_holds 3 rfl) hF (by omega) rfl (Nat.le_of_ble_eq_true rfl) (Nat.le_of_ble_eq_true rfl) ?_
  refine x_aload_n (dT U_X5_holds 4 rfl) rfl ?_
  refine x_iload_n (dT U_X5_holds 5 rfl) rfl ?_
  refine x_aload_n (dT U_X5_holds 6 rfl) rfl ?_
  refine x_getfield F_X5_26 (dT U_X5_holds 7 rfl) hP (by omega) rfl ?_
  refine x_iload_n (dT U_X5_holds 8 rfl) rfl ?_
  refine x_iaload (0) (dT U_X5_holds 9 rfl) hC (by omega) rfl (Nat.le_of_ble_eq_true rfl) (Nat.le_of_ble_eq_true rfl) ?_
  refine x_aload_n (dT U_X5_holds 10 rfl) rfl ?_
  refine x_getfield F_X5_29 (dT U_X5_holds 11 rfl) hP (by omega) rfl ?_
  refine x_iload_n (dT U_X5_holds 12 rfl) rfl ?_
  refine x_iaload (0) (dT U_X5_holds 13 rfl) hT (by omega) rfl (Nat.le_of_ble_eq_true rfl) (Nat.le_of_ble_eq_true rfl) ?_
  refine x_invokevirtual (rc' := rc) (rs' := rs) (rc2 := 0) (rs2 := 0) (As := [_, _, _]) (st := _) M_X5_fittingFirst K_X5_55 (dT U_X5_holds 14 rfl) rfl rfl (by decide) rfl rfl hP (by omega) (by decide) rfl (Nat.le_of_ble_eq_true rfl) rfl (by decide) (Nat.le_of_ble_eq_true rfl) rfl rfl ?_
  refine S_X5_fittingFirst (cc := P.c0) (tt := P.t0) hp5 hw r9 hP be (by omega) al.2.2.2.1 al.2.2.2.2.2.1 ?_
  change xRet _ _ _ _ _ _ _ [vi (MM p P.f0)] _ _ _ _ _
  rw [← al.1]
  have mm1 := MM_b hp5 (e := P.f0) (by rw [al.1]; exact fo_b hp.1)
  refine xRet_some ?_
  refine x_icmp_ne (tgt := 30) (dT U_X5_holds 15 rfl) (by decide) (by unfold xr; omega) (by unfold xr; omega) (fun c23 => ?_) (fun c23 => ?_)
  · exact absurd rfl c23
  · skip
    refine x_iconst (dT U_X5_holds 16 rfl) ?_
    refine x_goto (tgt := 31) (dT U_X5_holds 17 rfl) (by decide) ?_
    refine x_zreturn (dT U_X5_holds 19 rfl) rfl (by omega) ?_
    exact k

set_option maxRecDepth 20000 in
set_option maxHeartbeats 1000000 in
theorem S_X5_holds1 {G : xG} {d rc rs : Nat} {ex : Bool} {h : xH} {Q : xQ} {p pa : Nat} {P : PS} (hp5 : p ∈ PR) (hw : GW p h) (hr : PAt p pa P h) (ok : P.ok p) (s3 : P.st = 3) (k : Q (.inl (some (vi 1))) ex h) : X G m_X5_holds (d + 3) rc rs ex 0 (xe m_X5_holds.2.2.1 [.ref pa, vi 1]) [] h Q := by
  show X G m_X5_holds _ _ _ _ 0 [some (.ref pa), some (vi 1)] [] h Q
  have hp := PRb hp5
  have hq := gq_b hp5
  obtain ⟨hf, hg, hml, hex, hbs⟩ := id hw
  obtain ⟨r9, hP, hF, hC, hT⟩ := id hr
  have hP : h[pa]? = some (cO 5 [.ref 5, .ref 4, .ref (pa + 1), .ref (pa + 2), .ref (pa + 3), vi (P.y p), vi (P.bb), vi (P.ll), vi (P.mm), vi (P.cc)]) := hP
  have al := ok.all hp5 s3
  have F0e : P.F0 p = MM p P.f0 := if_pos (by omega)
  have F1e : P.F1 p = MM p P.f1 := if_pos (by omega)
  have ye : P.y p = MM p P.e := if_pos (by omega)
  have ce : P.cc = P.c := if_pos (by omega)
  have be := ok.eb hp.1 (by omega)
  rw [F0e, F1e] at hF
  rw [ye, ce] at hP
  refine x_aload_n (dT U_X5_holds 0 rfl) rfl ?_
  refine x_getfield F_X5_22 (dT U_X5_holds 1 rfl) hP (by omega) rfl ?_
  refine x_iload_n (dT U_X5_holds 2 rfl) rfl ?_
  refine x_iaload (1) (dT U_X5_holds 3 rfl) hF (by omega) rfl (Nat.le_of_ble_eq_true rfl) (Nat.le_of_ble_eq_true rfl) ?_
  refine x_aload_n (dT U_X5_holds 4 rfl) rfl ?_
  refine x_iload_n (dT U_X5_holds 5 rfl) rfl ?_
  refine x_aload_n (dT U_X5_holds 6 rfl) rfl ?_
  refine x_getfield F_X5_26 (dT U_X5_holds 7 rfl) hP (by omega) rfl ?_
  refine x_iload_n (dT U_X5_holds 8 rfl) rfl ?_
  refine x_iaload (1) (dT U_X5_holds 9 rfl) hC (by omega) rfl (Nat.le_of_ble_eq_true rfl) (Nat.le_of_ble_eq_true rfl) ?_
  refine x_aload_n (dT U_X5_holds 10 rfl) rfl ?_
  refine x_getfield F_X5_29 (dT U_X5_holds 11 rfl) hP (by omega) rfl ?_
  refine x_iload_n (dT U_X5_holds 12 rfl) rfl ?_
  refine x_iaload (1) (dT U_X5_holds 13 rfl) hT (by omega) rfl (Nat.le_of_ble_eq_true rfl) (Nat.le_of_ble_eq_true rfl) ?_
  refine x_invokevirtual (rc' := rc) (rs' := rs) (rc2 := 0) (rs2 := 0) (As := [_, _, _]) (st := _) M_X5_fittingFirst K_X5_55 (dT U_X5_holds 14 rfl) rfl rfl (by decide) rfl rfl hP (by omega) (by decide) rfl (Nat.le_of_ble_eq_true rfl) rfl (by decide) (Nat.le_of_ble_eq_true rfl) rfl rfl ?_
  refine S_X5_fittingFirst (cc := P.c1) (tt := P.t1) hp5 hw r9 hP be (by omega) al.2.2.2.2.1 al.2.2.2.2.2.2 ?_
  change xRet _ _ _ _ _ _ _ [vi (MM p P.f1)] _ _ _ _ _
  rw [← al.2.1]
  have mm1 := MM_b hp5 (e := P.f1) (by rw [al.2.1]; exact fo_b hp.1)
  refine xRet_some ?_
  refine x_icmp_ne (tgt := 30) (dT U_X5_holds 15 rfl) (by decide) (by unfold xr; omega) (by unfold xr; omega) (fun c23 => ?_) (fun c23 => ?_)
  · exact absurd rfl c23
  · skip
    refine x_iconst (dT U_X5_holds 16 rfl) ?_
    refine x_goto (tgt := 31) (dT U_X5_holds 17 rfl) (by decide) ?_
    refine x_zreturn (dT U_X5_holds 19 rfl) rfl (by omega) ?_
    exact k

set_option maxRecDepth 20000 in
set_option maxHeartbeats 1000000 in
theorem S_X5_accepted {G : xG} {d rc rs : Nat} {ex : Bool} {h : xH} {Q : xQ} {p pa : Nat} {P : PS} (hp5 : p ∈ PR) (hw : GW p h) (hr : PAt p pa P h) (ok : P.ok p) (k1 : P.st = 3 → Q (.inl (some (vi 1))) ex h) (k0 : ¬ P.st = 3 → Q (.inl (some (vi 0))) ex h) : X G m_X5_accepted (d + 4) rc rs ex 0 (xe m_X5_accepted.2.2.1 [.ref pa]) [] h Q := by
  show X G m_X5_accepted _ _ _ _ 0 [some (.ref pa)] [] h Q
  have hp := PRb hp5
  have hq := gq_b hp5
  obtain ⟨hf, hg, hml, hex, hbs⟩ := id hw
  obtain ⟨r9, hP, hF, hC, hT⟩ := id hr
  have hP : h[pa]? = some (cO 5 [.ref 5, .ref 4, .ref (pa + 1), .ref (pa + 2), .ref (pa + 3), vi (P.y p), vi (P.bb), vi (P.ll), vi (P.mm), vi (P.cc)]) := hP
  refine x_aload_n (dT U_X5_accepted 0 rfl) rfl ?_
  refine x_invokevirtual (rc' := rc) (rs' := rs) (rc2 := 0) (rs2 := 0) (As := []) (st := _) M_X5_hasChallenge K_X5_80 (dT U_X5_accepted 1 rfl) rfl rfl (by decide) rfl rfl hP (by omega) (by decide) rfl (Nat.le_of_ble_eq_true rfl) rfl (by decide) (Nat.le_of_ble_eq_true rfl) rfl rfl ?_
  refine S_X5_hasChallenge hp5 hr ok hw (fun s1 => ?_) (fun s0 => ?_)
  · refine xRet_some ?_
    have s3 : P.st = 3 := by have := ok.1; omega
    have ci := (ok.cr (by omega))
    have al := ok.all hp5 s3
    have F0e : P.F0 p = MM p P.f0 := if_pos (by omega)
    have F1e : P.F1 p = MM p P.f1 := if_pos (by omega)
    have ye : P.y p = MM p P.e := if_pos (by omega)
    have ce : P.cc = P.c := if_pos (by omega)
    have be := ok.eb hp.1 (by omega)
    rw [F0e, F1e] at hF
    rw [ye, ce] at hP
    refine x_if_eq (tgt := 53) (dT U_X5_accepted 2 rfl) (by decide) (by unfold xr at *; omega) (fun c4 => ?_) (fun c4 => ?_)
    · exfalso; omega
    · skip
      refine x_aload_n (dT U_X5_accepted 3 rfl) rfl ?_
      refine x_iconst (dT U_X5_accepted 4 rfl) ?_
      refine x_invokevirtual (rc' := rc) (rs' := rs) (rc2 := 0) (rs2 := 0) (As := [_]) (st := _) M_X5_holds K_X5_84 (dT U_X5_accepted 5 rfl) rfl rfl (by decide) rfl rfl hP (by omega) (by decide) rfl (Nat.le_of_ble_eq_true rfl) rfl (by decide) (Nat.le_of_ble_eq_true rfl) rfl rfl ?_
      refine S_X5_holds0 hp5 hw hr ok s3 ?_
      · refine xRet_some ?_
        refine x_if_eq (tgt := 53) (dT U_X5_accepted 6 rfl) (by decide) (by unfold xr at *; omega) (fun c12 => ?_) (fun c12 => ?_)
        · exfalso; omega
        · skip
          refine x_aload_n (dT U_X5_accepted 7 rfl) rfl ?_
          refine x_iconst (dT U_X5_accepted 8 rfl) ?_
          refine x_invokevirtual (rc' := rc) (rs' := rs) (rc2 := 0) (rs2 := 0) (As := [_]) (st := _) M_X5_holds K_X5_84 (dT U_X5_accepted 9 rfl) rfl rfl (by decide) rfl rfl hP (by omega) (by decide) rfl (Nat.le_of_ble_eq_true rfl) rfl (by decide) (Nat.le_of_ble_eq_true rfl) rfl rfl ?_
          refine S_X5_holds1 hp5 hw hr ok s3 ?_
          · refine xRet_some ?_
            refine x_if_eq (tgt := 53) (dT U_X5_accepted 10 rfl) (by decide) (by unfold xr at *; omega) (fun c20 => ?_) (fun c20 => ?_)
            · exfalso; omega
            · skip
              refine x_aload_n (dT U_X5_accepted 11 rfl) rfl ?_
              refine x_getfield F_X5_21 (dT U_X5_accepted 12 rfl) hP (by omega) rfl ?_
              refine x_aload_n (dT U_X5_accepted 13 rfl) rfl ?_
              refine x_getfield F_X5_26 (dT U_X5_accepted 14 rfl) hP (by omega) rfl ?_
              refine x_iconst (dT U_X5_accepted 15 rfl) ?_
              refine x_iaload (0) (dT U_X5_accepted 16 rfl) hC (by omega) rfl (Nat.le_of_ble_eq_true rfl) (Nat.le_of_ble_eq_true rfl) ?_
              refine x_aload_n (dT U_X5_accepted 17 rfl) rfl ?_
              refine x_getfield F_X5_26 (dT U_X5_accepted 18 rfl) hP (by omega) rfl ?_
              refine x_iconst (dT U_X5_accepted 19 rfl) ?_
              refine x_iaload (1) (dT U_X5_accepted 20 rfl) hC (by omega) rfl (Nat.le_of_ble_eq_true rfl) (Nat.le_of_ble_eq_true rfl) ?_
              refine x_invokevirtual (rc' := rc) (rs' := rs) (rc2 := 0) (rs2 := 0) (As := [_, _]) (st := _) M_X1_sum K_X5_67 (dT U_X5_accepted 21 rfl) rfl rfl (by decide) rfl rfl hf (by omega) (by decide) rfl (Nat.le_of_ble_eq_true rfl) rfl (by decide) (Nat.le_of_ble_eq_true rfl) rfl rfl ?_
              refine S_X1_sum hf hp (by change xr (P.c0 + P.c1); unfold xr; omega) ?_
              change xRet _ _ _ _ _ _ _ _ _ _ (.inl (some (vi ((P.c0 + P.c1) % (p : Int))))) _ _
              rw [al.2.2.1]
              refine xRet_some ?_
              refine x_aload_n (dT U_X5_accepted 22 rfl) rfl ?_
              refine x_getfield F_X5_48 (dT U_X5_accepted 23 rfl) hP (by omega) rfl ?_
              refine x_icmp_ne (tgt := 53) (dT U_X5_accepted 24 rfl) (by decide) (by unfold xr; omega) (by unfold xr; omega) (fun c46 => ?_) (fun c46 => ?_)
              · exact absurd rfl c46
              · skip
                refine x_iconst (dT U_X5_accepted 25 rfl) ?_
                refine x_goto (tgt := 54) (dT U_X5_accepted 26 rfl) (by decide) ?_
                refine x_zreturn (dT U_X5_accepted 28 rfl) rfl (by omega) ?_
                exact k1 s3
  · refine xRet_some ?_
    refine x_if_eq (tgt := 53) (dT U_X5_accepted 2 rfl) (by decide) (by unfold xr at *; omega) (fun c4 => ?_) (fun c4 => ?_)
    · skip
      refine x_iconst (dT U_X5_accepted 27 rfl) ?_
      refine x_zreturn (dT U_X5_accepted 28 rfl) rfl (by omega) ?_
      exact k0 (by omega)
    · exfalso; omega

set_option maxRecDepth 20000 in
set_option maxHeartbeats 1000000 in
theorem S_X5_numberAt00 {G : xG} {d rc rs : Nat} {ex : Bool} {h : xH} {Q : xQ} {p pa : Nat} {P : PS} (hp5 : p ∈ PR) (hw : GW p h) (hr : PAt p pa P h) (ok : P.ok p) (k : Q (.inl (some (vi (P.F0 p)))) ex h) : X G m_X5_numberAt d rc rs ex 0 (xe m_X5_numberAt.2.2.1 [.ref pa, vi 0, vi 0]) [] h Q := by
  show X G m_X5_numberAt _ _ _ _ 0 [some (.ref pa), some (vi 0), some (vi 0)] [] h Q
  have hp := PRb hp5
  have hq := gq_b hp5
  obtain ⟨hf, hg, hml, hex, hbs⟩ := id hw
  obtain ⟨r9, hP, hF, hC, hT⟩ := id hr
  have hP : h[pa]? = some (cO 5 [.ref 5, .ref 4, .ref (pa + 1), .ref (pa + 2), .ref (pa + 3), vi (P.y p), vi (P.bb), vi (P.ll), vi (P.mm), vi (P.cc)]) := hP
  refine x_iload_n (dT U_X5_numberAt 0 rfl) rfl ?_
  refine x_if_eq (tgt := 11) (dT U_X5_numberAt 1 rfl) (by decide) (by unfold xr at *; omega) (fun c1 => ?_) (fun c1 => ?_)
  · skip
    refine x_iload_n (dT U_X5_numberAt 7 rfl) rfl ?_
    refine x_if_ne (tgt := 24) (dT U_X5_numberAt 8 rfl) (by decide) (by unfold xr at *; omega) (fun c12 => ?_) (fun c12 => ?_)
    · exfalso; omega
    · skip
      refine x_aload_n (dT U_X5_numberAt 9 rfl) rfl ?_
      refine x_getfield F_X5_22 (dT U_X5_numberAt 10 rfl) hP (by omega) rfl ?_
      refine x_iload_n (dT U_X5_numberAt 11 rfl) rfl ?_
      refine x_iaload (0) (dT U_X5_numberAt 12 rfl) hF (by omega) rfl (Nat.le_of_ble_eq_true rfl) (Nat.le_of_ble_eq_true rfl) ?_
      refine x_goto (tgt := 44) (dT U_X5_numberAt 13 rfl) (by decide) ?_
      refine x_ireturn (dT U_X5_numberAt 26 rfl) rfl ?_
      exact k
  · exfalso; omega

set_option maxRecDepth 20000 in
set_option maxHeartbeats 1000000 in
theorem S_X5_numberAt01 {G : xG} {d rc rs : Nat} {ex : Bool} {h : xH} {Q : xQ} {p pa : Nat} {P : PS} (hp5 : p ∈ PR) (hw : GW p h) (hr : PAt p pa P h) (ok : P.ok p) (k : Q (.inl (some (vi (P.c0)))) ex h) : X G m_X5_numberAt d rc rs ex 0 (xe m_X5_numberAt.2.2.1 [.ref pa, vi 0, vi 1]) [] h Q := by
  show X G m_X5_numberAt _ _ _ _ 0 [some (.ref pa), some (vi 0), some (vi 1)] [] h Q
  have hp := PRb hp5
  have hq := gq_b hp5
  obtain ⟨hf, hg, hml, hex, hbs⟩ := id hw
  obtain ⟨r9, hP, hF, hC, hT⟩ := id hr
  have hP : h[pa]? = some (cO 5 [.ref 5, .ref 4, .ref (pa + 1), .ref (pa + 2), .ref (pa + 3), vi (P.y p), vi (P.bb), vi (P.ll), vi (P.mm), vi (P.cc)]) := hP
  refine x_iload_n (dT U_X5_numberAt 0 rfl) rfl ?_
  refine x_if_eq (tgt := 11) (dT U_X5_numberAt 1 rfl) (by decide) (by unfold xr at *; omega) (fun c1 => ?_) (fun c1 => ?_)
  · skip
    refine x_iload_n (dT U_X5_numberAt 7 rfl) rfl ?_
    refine x_if_ne (tgt := 24) (dT U_X5_numberAt 8 rfl) (by decide) (by unfold xr at *; omega) (fun c12 => ?_) (fun c12 => ?_)
    · skip
      refine x_iload_n (dT U_X5_numberAt 14 rfl) rfl ?_
      refine x_iconst (dT U_X5_numberAt 15 rfl) ?_
      refine x_icmp_ne (tgt := 38) (dT U_X5_numberAt 16 rfl) (by decide) (by unfold xr at *; omega) (by unfold xr at *; omega) (fun c26 => ?_) (fun c26 => ?_)
      · exfalso; omega
      · skip
        refine x_aload_n (dT U_X5_numberAt 17 rfl) rfl ?_
        refine x_getfield F_X5_26 (dT U_X5_numberAt 18 rfl) hP (by omega) rfl ?_
        refine x_iload_n (dT U_X5_numberAt 19 rfl) rfl ?_
        refine x_iaload (0) (dT U_X5_numberAt 20 rfl) hC (by omega) rfl (Nat.le_of_ble_eq_true rfl) (Nat.le_of_ble_eq_true rfl) ?_
        refine x_goto (tgt := 44) (dT U_X5_numberAt 21 rfl) (by decide) ?_
        refine x_ireturn (dT U_X5_numberAt 26 rfl) rfl ?_
        exact k
    · exfalso; omega
  · exfalso; omega

set_option maxRecDepth 20000 in
set_option maxHeartbeats 1000000 in
theorem S_X5_numberAt02 {G : xG} {d rc rs : Nat} {ex : Bool} {h : xH} {Q : xQ} {p pa : Nat} {P : PS} (hp5 : p ∈ PR) (hw : GW p h) (hr : PAt p pa P h) (ok : P.ok p) (k : Q (.inl (some (vi (P.t0)))) ex h) : X G m_X5_numberAt d rc rs ex 0 (xe m_X5_numberAt.2.2.1 [.ref pa, vi 0, vi 2]) [] h Q := by
  show X G m_X5_numberAt _ _ _ _ 0 [some (.ref pa), some (vi 0), some (vi 2)] [] h Q
  have hp := PRb hp5
  have hq := gq_b hp5
  obtain ⟨hf, hg, hml, hex, hbs⟩ := id hw
  obtain ⟨r9, hP, hF, hC, hT⟩ := id hr
  have hP : h[pa]? = some (cO 5 [.ref 5, .ref 4, .ref (pa + 1), .ref (pa + 2), .ref (pa + 3), vi (P.y p), vi (P.bb), vi (P.ll), vi (P.mm), vi (P.cc)]) := hP
  refine x_iload_n (dT U_X5_numberAt 0 rfl) rfl ?_
  refine x_if_eq (tgt := 11) (dT U_X5_numberAt 1 rfl) (by decide) (by unfold xr at *; omega) (fun c1 => ?_) (fun c1 => ?_)
  · skip
    refine x_iload_n (dT U_X5_numberAt 7 rfl) rfl ?_
    refine x_if_ne (tgt := 24) (dT U_X5_numberAt 8 rfl) (by decide) (by unfold xr at *; omega) (fun c12 => ?_) (fun c12 => ?_)
    · skip
      refine x_iload_n (dT U_X5_numberAt 14 rfl) rfl ?_
      refine x_iconst (dT U_X5_numberAt 15 rfl) ?_
      refine x_icmp_ne (tgt := 38) (dT U_X5_numberAt 16 rfl) (by decide) (by unfold xr at *; omega) (by unfold xr at *; omega) (fun c26 => ?_) (fun c26 => ?_)
      · skip
        refine x_aload_n (dT U_X5_numberAt 22 rfl) rfl ?_
        refine x_getfield F_X5_29 (dT U_X5_numberAt 23 rfl) hP (by omega) rfl ?_
        refine x_iload_n (dT U_X5_numberAt 24 rfl) rfl ?_
        refine x_iaload (0) (dT U_X5_numberAt 25 rfl) hT (by omega) rfl (Nat.le_of_ble_eq_true rfl) (Nat.le_of_ble_eq_true rfl) ?_
        refine x_ireturn (dT U_X5_numberAt 26 rfl) rfl ?_
        exact k
      · exfalso; omega
    · exfalso; omega
  · exfalso; omega

set_option maxRecDepth 20000 in
set_option maxHeartbeats 1000000 in
theorem S_X5_numberAt10 {G : xG} {d rc rs : Nat} {ex : Bool} {h : xH} {Q : xQ} {p pa : Nat} {P : PS} (hp5 : p ∈ PR) (hw : GW p h) (hr : PAt p pa P h) (ok : P.ok p) (k : Q (.inl (some (vi (P.F1 p)))) ex h) : X G m_X5_numberAt d rc rs ex 0 (xe m_X5_numberAt.2.2.1 [.ref pa, vi 1, vi 0]) [] h Q := by
  show X G m_X5_numberAt _ _ _ _ 0 [some (.ref pa), some (vi 1), some (vi 0)] [] h Q
  have hp := PRb hp5
  have hq := gq_b hp5
  obtain ⟨hf, hg, hml, hex, hbs⟩ := id hw
  obtain ⟨r9, hP, hF, hC, hT⟩ := id hr
  have hP : h[pa]? = some (cO 5 [.ref 5, .ref 4, .ref (pa + 1), .ref (pa + 2), .ref (pa + 3), vi (P.y p), vi (P.bb), vi (P.ll), vi (P.mm), vi (P.cc)]) := hP
  refine x_iload_n (dT U_X5_numberAt 0 rfl) rfl ?_
  refine x_if_eq (tgt := 11) (dT U_X5_numberAt 1 rfl) (by decide) (by unfold xr at *; omega) (fun c1 => ?_) (fun c1 => ?_)
  · exfalso; omega
  · skip
    refine x_iload_n (dT U_X5_numberAt 2 rfl) rfl ?_
    refine x_iconst (dT U_X5_numberAt 3 rfl) ?_
    refine x_icmp_eq (tgt := 11) (dT U_X5_numberAt 4 rfl) (by decide) (by unfold xr at *; omega) (by unfold xr at *; omega) (fun c6 => ?_) (fun c6 => ?_)
    · skip
      refine x_iload_n (dT U_X5_numberAt 7 rfl) rfl ?_
      refine x_if_ne (tgt := 24) (dT U_X5_numberAt 8 rfl) (by decide) (by unfold xr at *; omega) (fun c12 => ?_) (fun c12 => ?_)
      · exfalso; omega
      · skip
        refine x_aload_n (dT U_X5_numberAt 9 rfl) rfl ?_
        refine x_getfield F_X5_22 (dT U_X5_numberAt 10 rfl) hP (by omega) rfl ?_
        refine x_iload_n (dT U_X5_numberAt 11 rfl) rfl ?_
        refine x_iaload (1) (dT U_X5_numberAt 12 rfl) hF (by omega) rfl (Nat.le_of_ble_eq_true rfl) (Nat.le_of_ble_eq_true rfl) ?_
        refine x_goto (tgt := 44) (dT U_X5_numberAt 13 rfl) (by decide) ?_
        refine x_ireturn (dT U_X5_numberAt 26 rfl) rfl ?_
        exact k
    · exfalso; omega

set_option maxRecDepth 20000 in
set_option maxHeartbeats 1000000 in
theorem S_X5_numberAt11 {G : xG} {d rc rs : Nat} {ex : Bool} {h : xH} {Q : xQ} {p pa : Nat} {P : PS} (hp5 : p ∈ PR) (hw : GW p h) (hr : PAt p pa P h) (ok : P.ok p) (k : Q (.inl (some (vi (P.c1)))) ex h) : X G m_X5_numberAt d rc rs ex 0 (xe m_X5_numberAt.2.2.1 [.ref pa, vi 1, vi 1]) [] h Q := by
  show X G m_X5_numberAt _ _ _ _ 0 [some (.ref pa), some (vi 1), some (vi 1)] [] h Q
  have hp := PRb hp5
  have hq := gq_b hp5
  obtain ⟨hf, hg, hml, hex, hbs⟩ := id hw
  obtain ⟨r9, hP, hF, hC, hT⟩ := id hr
  have hP : h[pa]? = some (cO 5 [.ref 5, .ref 4, .ref (pa + 1), .ref (pa + 2), .ref (pa + 3), vi (P.y p), vi (P.bb), vi (P.ll), vi (P.mm), vi (P.cc)]) := hP
  refine x_iload_n (dT U_X5_numberAt 0 rfl) rfl ?_
  refine x_if_eq (tgt := 11) (dT U_X5_numberAt 1 rfl) (by decide) (by unfold xr at *; omega) (fun c1 => ?_) (fun c1 => ?_)
  · exfalso; omega
  · skip
    refine x_iload_n (dT U_X5_numberAt 2 rfl) rfl ?_
    refine x_iconst (dT U_X5_numberAt 3 rfl) ?_
    refine x_icmp_eq (tgt := 11) (dT U_X5_numberAt 4 rfl) (by decide) (by unfold xr at *; omega) (by unfold xr at *; omega) (fun c6 => ?_) (fun c6 => ?_)
    · skip
      refine x_iload_n (dT U_X5_numberAt 7 rfl) rfl ?_
      refine x_if_ne (tgt := 24) (dT U_X5_numberAt 8 rfl) (by decide) (by unfold xr at *; omega) (fun c12 => ?_) (fun c12 => ?_)
      · skip
        refine x_iload_n (dT U_X5_numberAt 14 rfl) rfl ?_
        refine x_iconst (dT U_X5_numberAt 15 rfl) ?_
        refine x_icmp_ne (tgt := 38) (dT U_X5_numberAt 16 rfl) (by decide) (by unfold xr at *; omega) (by unfold xr at *; omega) (fun c26 => ?_) (fun c26 => ?_)
        · exfalso; omega
        · skip
          refine x_aload_n (dT U_X5_numberAt 17 rfl) rfl ?_
          refine x_getfield F_X5_26 (dT U_X5_numberAt 18 rfl) hP (by omega) rfl ?_
          refine x_iload_n (dT U_X5_numberAt 19 rfl) rfl ?_
          refine x_iaload (1) (dT U_X5_numberAt 20 rfl) hC (by omega) rfl (Nat.le_of_ble_eq_true rfl) (Nat.le_of_ble_eq_true rfl) ?_
          refine x_goto (tgt := 44) (dT U_X5_numberAt 21 rfl) (by decide) ?_
          refine x_ireturn (dT U_X5_numberAt 26 rfl) rfl ?_
          exact k
      · exfalso; omega
    · exfalso; omega

set_option maxRecDepth 20000 in
set_option maxHeartbeats 1000000 in
theorem S_X5_numberAt12 {G : xG} {d rc rs : Nat} {ex : Bool} {h : xH} {Q : xQ} {p pa : Nat} {P : PS} (hp5 : p ∈ PR) (hw : GW p h) (hr : PAt p pa P h) (ok : P.ok p) (k : Q (.inl (some (vi (P.t1)))) ex h) : X G m_X5_numberAt d rc rs ex 0 (xe m_X5_numberAt.2.2.1 [.ref pa, vi 1, vi 2]) [] h Q := by
  show X G m_X5_numberAt _ _ _ _ 0 [some (.ref pa), some (vi 1), some (vi 2)] [] h Q
  have hp := PRb hp5
  have hq := gq_b hp5
  obtain ⟨hf, hg, hml, hex, hbs⟩ := id hw
  obtain ⟨r9, hP, hF, hC, hT⟩ := id hr
  have hP : h[pa]? = some (cO 5 [.ref 5, .ref 4, .ref (pa + 1), .ref (pa + 2), .ref (pa + 3), vi (P.y p), vi (P.bb), vi (P.ll), vi (P.mm), vi (P.cc)]) := hP
  refine x_iload_n (dT U_X5_numberAt 0 rfl) rfl ?_
  refine x_if_eq (tgt := 11) (dT U_X5_numberAt 1 rfl) (by decide) (by unfold xr at *; omega) (fun c1 => ?_) (fun c1 => ?_)
  · exfalso; omega
  · skip
    refine x_iload_n (dT U_X5_numberAt 2 rfl) rfl ?_
    refine x_iconst (dT U_X5_numberAt 3 rfl) ?_
    refine x_icmp_eq (tgt := 11) (dT U_X5_numberAt 4 rfl) (by decide) (by unfold xr at *; omega) (by unfold xr at *; omega) (fun c6 => ?_) (fun c6 => ?_)
    · skip
      refine x_iload_n (dT U_X5_numberAt 7 rfl) rfl ?_
      refine x_if_ne (tgt := 24) (dT U_X5_numberAt 8 rfl) (by decide) (by unfold xr at *; omega) (fun c12 => ?_) (fun c12 => ?_)
      · skip
        refine x_iload_n (dT U_X5_numberAt 14 rfl) rfl ?_
        refine x_iconst (dT U_X5_numberAt 15 rfl) ?_
        refine x_icmp_ne (tgt := 38) (dT U_X5_numberAt 16 rfl) (by decide) (by unfold xr at *; omega) (by unfold xr at *; omega) (fun c26 => ?_) (fun c26 => ?_)
        · skip
          refine x_aload_n (dT U_X5_numberAt 22 rfl) rfl ?_
          refine x_getfield F_X5_29 (dT U_X5_numberAt 23 rfl) hP (by omega) rfl ?_
          refine x_iload_n (dT U_X5_numberAt 24 rfl) rfl ?_
          refine x_iaload (1) (dT U_X5_numberAt 25 rfl) hT (by omega) rfl (Nat.le_of_ble_eq_true rfl) (Nat.le_of_ble_eq_true rfl) ?_
          refine x_ireturn (dT U_X5_numberAt 26 rfl) rfl ?_
          exact k
        · exfalso; omega
      · exfalso; omega
    · exfalso; omega

set_option maxRecDepth 20000 in
set_option maxHeartbeats 1000000 in
theorem S_X5_waysOf0 {G : xG} {d rc rs : Nat} {ex : Bool} {h : xH} {Q : xQ} {p pa : Nat} {P : PS} (hp5 : p ∈ PR) (hw : GW p h) (hr : PAt p pa P h) (ok : P.ok p) (s3 : P.st = 3) (k : Q (.inl (some (vi 1))) ex h) : X G m_X5_waysOf (d + 4) rc rs ex 0 (xe m_X5_waysOf.2.2.1 [.ref pa, vi 0]) [] h Q := by
  show X G m_X5_waysOf _ _ _ _ 0 [some (.ref pa), some (vi 0), none, none, none, none, none] [] h Q
  have hp := PRb hp5
  have hq := gq_b hp5
  obtain ⟨hf, hg, hml, hex, hbs⟩ := id hw
  obtain ⟨r9, hP, hF, hC, hT⟩ := id hr
  have hP : h[pa]? = some (cO 5 [.ref 5, .ref 4, .ref (pa + 1), .ref (pa + 2), .ref (pa + 3), vi (P.y p), vi (P.bb), vi (P.ll), vi (P.mm), vi (P.cc)]) := hP
  have al := ok.all hp5 s3
  have F0e : P.F0 p = MM p P.f0 := if_pos (by omega)
  have F1e : P.F1 p = MM p P.f1 := if_pos (by omega)
  have ye : P.y p = MM p P.e := if_pos (by omega)
  have ce : P.cc = P.c := if_pos (by omega)
  have be := ok.eb hp.1 (by omega)
  rw [F0e, F1e] at hF
  rw [ye, ce] at hP
  have af : P.f0 = fo p P.e 0 P.c0 P.t0 := al.1
  have ac : 0 ≤ P.c0 ∧ P.c0 < p := al.2.2.2.1
  have ao : 0 ≤ P.c1 ∧ P.c1 < p := al.2.2.2.2.1
  have at9 : 0 ≤ P.t0 ∧ P.t0 < p := al.2.2.2.2.2.1
  have acc9 : (P.c0 + P.c1) % (p : Int) = P.c := al.2.2.1
  have cr := ok.cr (by omega)
  have w1 := ways1 (e := P.e) (s := 0) hp5 ac at9
  have ep : (P.c - P.c1) % (p : Int) = P.c0 := by rw [← acc9, sm_l, show P.c0 + P.c1 - P.c1 = P.c0 by omega, Int.emod_eq_of_lt ac.1 ac.2]
  have L : ∀ (n x : Nat), x + n = p → X G m_X5_waysOf (d + 4) rc rs ex 92 [some (.ref pa), some (vi 0), some (vi 0), some (vi ((P.e - 0 * (bs p 0 : Int)) % (p : Int) * (iv p (bs p 8) : Int) % (p : Int))), some (vi P.c0), some (vi (ct (fun x : Nat => cm1 p 0 (x : Int) = fo p P.e 0 P.c0 P.t0 ∧ ((x : Int) + P.c0 * ((P.e - 0 * (bs p 0 : Int)) % (p : Int) * (iv p (bs p 8) : Int) % (p : Int))) % (p : Int) = P.t0) x : Int)), some (vi (x : Int))] [] h Q := by
    intro n
    induction n with
    | zero =>
      intro x hi 
      refine x_iload (dT U_X5_waysOf 54 rfl) rfl ?_
      refine x_aload_n (dT U_X5_waysOf 55 rfl) rfl ?_
      refine x_getfield F_X5_21 (dT U_X5_waysOf 56 rfl) hP (by omega) rfl ?_
      refine x_getfield F_X5_91 (dT U_X5_waysOf 57 rfl) hf (by omega) rfl ?_
      refine x_icmp_ge (tgt := 160) (dT U_X5_waysOf 58 rfl) (by decide) (by unfold xr at *; omega) (by unfold xr at *; omega) (fun c101 => ?_) (fun c101 => ?_)
      · skip
        refine x_iload (dT U_X5_waysOf 86 rfl) rfl ?_
        refine x_ireturn (dT U_X5_waysOf 87 rfl) rfl ?_
        have e : x = p := by omega
        subst e
        rw [w1]
        exact k
      · exfalso; omega
    | succ n ih =>
      intro x hi 
      refine x_iload (dT U_X5_waysOf 54 rfl) rfl ?_
      refine x_aload_n (dT U_X5_waysOf 55 rfl) rfl ?_
      refine x_getfield F_X5_21 (dT U_X5_waysOf 56 rfl) hP (by omega) rfl ?_
      refine x_getfield F_X5_91 (dT U_X5_waysOf 57 rfl) hf (by omega) rfl ?_
      refine x_icmp_ge (tgt := 160) (dT U_X5_waysOf 58 rfl) (by decide) (by unfold xr at *; omega) (by unfold xr at *; omega) (fun c101 => ?_) (fun c101 => ?_)
      · exfalso; omega
      · skip
        refine x_aload_n (dT U_X5_waysOf 59 rfl) rfl ?_
        refine x_getfield F_X5_9 (dT U_X5_waysOf 60 rfl) hP (by omega) rfl ?_
        refine x_iconst (dT U_X5_waysOf 61 rfl) ?_
        refine x_iload (dT U_X5_waysOf 62 rfl) rfl ?_
        refine x_invokevirtual (rc' := rc) (rs' := rs) (rc2 := 0) (rs2 := 0) (As := [_, _]) (st := _) M_X3_commitmentOfOne K_X5_51 (dT U_X5_waysOf 63 rfl) rfl rfl (by decide) rfl rfl hg (by omega) (by decide) rfl (Nat.le_of_ble_eq_true rfl) rfl (by decide) (Nat.le_of_ble_eq_true rfl) rfl rfl ?_
        refine S_X3_commitmentOfOne hw hp5 (by omega) (by omega) ?_
        have cb := cm1_b (p := p) (n := 0) (b := (x : Int)) hp.1
        have m1 := MM_b hp5 cb
        have fb := fo_b (p := p) (e := P.e) (s := 0) (c := P.c0) (t := P.t0) hp.1
        rw [← af] at fb
        have m2 := MM_b hp5 fb
        refine xRet_some ?_
        refine x_aload_n (dT U_X5_waysOf 64 rfl) rfl ?_
        refine x_getfield F_X5_22 (dT U_X5_waysOf 65 rfl) hP (by omega) rfl ?_
        refine x_iload_n (dT U_X5_waysOf 66 rfl) rfl ?_
        refine x_iaload (0) (dT U_X5_waysOf 67 rfl) hF (by omega) rfl (Nat.le_of_ble_eq_true rfl) (Nat.le_of_ble_eq_true rfl) ?_
        refine x_icmp_ne (tgt := 154) (dT U_X5_waysOf 68 rfl) (by decide) (by unfold xr; omega) (by change xr (MM p P.f0); unfold xr; omega) (fun c120 => ?_) (fun c120 => ?_)
        · skip
          have c9 : ¬ MM p (cm1 p 0 (x : Int)) = MM p P.f0 := c120
          have e1 := ct_no (P := (fun x : Nat => cm1 p 0 (x : Int) = fo p P.e 0 P.c0 P.t0 ∧ ((x : Int) + P.c0 * ((P.e - 0 * (bs p 0 : Int)) % (p : Int) * (iv p (bs p 8) : Int) % (p : Int))) % (p : Int) = P.t0)) (n := x) (fun z => c9 (by rw [z.1, ← af]))
          refine x_iinc (ls' := [some (.ref _), some (vi _), some (vi _), some (vi _), some (vi _), some (vi _), some (vi _)]) (dT U_X5_waysOf 84 rfl) (by decide) rfl rfl ?_
          refine x_goto (tgt := 92) (dT U_X5_waysOf 85 rfl) (by decide) ?_
          have q := ih (x + 1) (by omega)
          rw [e1] at q
          exact q
        · skip
          have c9 : MM p (cm1 p 0 (x : Int)) = MM p P.f0 := c120
          refine x_aload_n (dT U_X5_waysOf 69 rfl) rfl ?_
          refine x_getfield F_X5_21 (dT U_X5_waysOf 70 rfl) hP (by omega) rfl ?_
          refine x_iload (dT U_X5_waysOf 71 rfl) rfl ?_
          refine x_aload_n (dT U_X5_waysOf 72 rfl) rfl ?_
          refine x_getfield F_X5_21 (dT U_X5_waysOf 73 rfl) hP (by omega) rfl ?_
          refine x_iload (dT U_X5_waysOf 74 rfl) rfl ?_
          refine x_iload_n (dT U_X5_waysOf 75 rfl) rfl ?_
          refine x_invokevirtual (rc' := rc) (rs' := rs) (rc2 := 0) (rs2 := 0) (As := [_, _]) (st := _) M_X1_product K_X5_64 (dT U_X5_waysOf 76 rfl) rfl rfl (by decide) rfl rfl hf (by omega) (by decide) rfl (Nat.le_of_ble_eq_true rfl) rfl (by decide) (Nat.le_of_ble_eq_true rfl) rfl rfl ?_
          have ob := modb (z := (P.e - 0 * (bs p 0 : Int)) % (p : Int) * (iv p (bs p 8) : Int)) (p := (p : Int)) (by omega)
          have mv := mulb ac ob (by omega)
          refine S_X1_product hf hp (by unfold xr; omega) ?_
          refine xRet_some ?_
          refine x_invokevirtual (rc' := rc) (rs' := rs) (rc2 := 0) (rs2 := 0) (As := [_, _]) (st := _) M_X1_sum K_X5_67 (dT U_X5_waysOf 77 rfl) rfl rfl (by decide) rfl rfl hf (by omega) (by decide) rfl (Nat.le_of_ble_eq_true rfl) rfl (by decide) (Nat.le_of_ble_eq_true rfl) rfl rfl ?_
          have b2 := modb (z := P.c0 * ((P.e - 0 * (bs p 0 : Int)) % (p : Int) * (iv p (bs p 8) : Int) % (p : Int))) (p := (p : Int)) (by omega)
          refine S_X1_sum hf hp (by unfold xr; omega) ?_
          rw [am_r]
          have b3 := modb (z := (x : Int) + P.c0 * ((P.e - 0 * (bs p 0 : Int)) % (p : Int) * (iv p (bs p 8) : Int) % (p : Int))) (p := (p : Int)) (by omega)
          refine xRet_some ?_
          refine x_aload_n (dT U_X5_waysOf 78 rfl) rfl ?_
          refine x_getfield F_X5_29 (dT U_X5_waysOf 79 rfl) hP (by omega) rfl ?_
          refine x_iload_n (dT U_X5_waysOf 80 rfl) rfl ?_
          refine x_iaload (0) (dT U_X5_waysOf 81 rfl) hT (by omega) rfl (Nat.le_of_ble_eq_true rfl) (Nat.le_of_ble_eq_true rfl) ?_
          refine x_icmp_ne (tgt := 154) (dT U_X5_waysOf 82 rfl) (by decide) (by unfold xr; omega) (by change xr P.t0; unfold xr; omega) (fun c148 => ?_) (fun c148 => ?_)
          · skip
            have c8 : ¬ ((x : Int) + P.c0 * ((P.e - 0 * (bs p 0 : Int)) % (p : Int) * (iv p (bs p 8) : Int) % (p : Int))) % (p : Int) = P.t0 := c148
            have e1 := ct_no (P := (fun x : Nat => cm1 p 0 (x : Int) = fo p P.e 0 P.c0 P.t0 ∧ ((x : Int) + P.c0 * ((P.e - 0 * (bs p 0 : Int)) % (p : Int) * (iv p (bs p 8) : Int) % (p : Int))) % (p : Int) = P.t0)) (n := x) (fun z => c8 z.2)
            refine x_iinc (ls' := [some (.ref _), some (vi _), some (vi _), some (vi _), some (vi _), some (vi _), some (vi _)]) (dT U_X5_waysOf 84 rfl) (by decide) rfl rfl ?_
            refine x_goto (tgt := 92) (dT U_X5_waysOf 85 rfl) (by decide) ?_
            have q := ih (x + 1) (by omega)
            rw [e1] at q
            exact q
          · skip
            have c8 : ((x : Int) + P.c0 * ((P.e - 0 * (bs p 0 : Int)) % (p : Int) * (iv p (bs p 8) : Int) % (p : Int))) % (p : Int) = P.t0 := c148
            have e1 := ct_yes (P := (fun x : Nat => cm1 p 0 (x : Int) = fo p P.e 0 P.c0 P.t0 ∧ ((x : Int) + P.c0 * ((P.e - 0 * (bs p 0 : Int)) % (p : Int) * (iv p (bs p 8) : Int) % (p : Int))) % (p : Int) = P.t0)) (n := x) ⟨by rw [← af]; exact MM_inj hp5 cb fb c9, c8⟩
            refine x_iinc (ls' := [some (.ref _), some (vi _), some (vi _), some (vi _), some (vi _), some (vi _), some (vi _)]) (dT U_X5_waysOf 83 rfl) (by decide) rfl rfl ?_
            refine x_iinc (ls' := [some (.ref _), some (vi _), some (vi _), some (vi _), some (vi _), some (vi _), some (vi _)]) (dT U_X5_waysOf 84 rfl) (by decide) rfl rfl ?_
            refine x_goto (tgt := 92) (dT U_X5_waysOf 85 rfl) (by decide) ?_
            have q := ih (x + 1) (by omega)
            rw [e1] at q
            exact q
  refine x_iload_n (dT U_X5_waysOf 0 rfl) rfl ?_
  refine x_iconst (dT U_X5_waysOf 1 rfl) ?_
  refine x_icmp_ne (tgt := 9) (dT U_X5_waysOf 2 rfl) (by decide) (by unfold xr at *; omega) (by unfold xr at *; omega) (fun c2 => ?_) (fun c2 => ?_)
  · skip
    refine x_iconst (dT U_X5_waysOf 5 rfl) ?_
    refine x_istore_n (ls' := [some (.ref _), some (vi _), some (vi _), none, none, none, none]) (dT U_X5_waysOf 6 rfl) (by decide) rfl ?_
    refine x_aload_n (dT U_X5_waysOf 7 rfl) rfl ?_
    refine x_getfield F_X5_9 (dT U_X5_waysOf 8 rfl) hP (by omega) rfl ?_
    refine x_aload_n (dT U_X5_waysOf 9 rfl) rfl ?_
    refine x_getfield F_X5_9 (dT U_X5_waysOf 10 rfl) hP (by omega) rfl ?_
    refine x_aload_n (dT U_X5_waysOf 11 rfl) rfl ?_
    refine x_getfield F_X5_35 (dT U_X5_waysOf 12 rfl) hP (by omega) rfl ?_
    refine x_invokevirtual (rc' := rc) (rs' := rs) (rc2 := 0) (rs2 := 0) (As := [_]) (st := _) M_X3_exponentOf K_X5_70 (dT U_X5_waysOf 13 rfl) rfl rfl (by decide) rfl rfl hg (by omega) (by decide) rfl (Nat.le_of_ble_eq_true rfl) rfl (by decide) (Nat.le_of_ble_eq_true rfl) rfl rfl ?_
    have hM := MM_b hp5 be
    refine S_X3_exponentOf hw hp5 (by unfold xr; omega) ?_
    rw [exI_MM hp5 be]
    refine xRet_some ?_
    refine x_iload_n (dT U_X5_waysOf 14 rfl) rfl ?_
    refine x_aload_n (dT U_X5_waysOf 15 rfl) rfl ?_
    refine x_getfield F_X5_9 (dT U_X5_waysOf 16 rfl) hP (by omega) rfl ?_
    refine x_getfield F_X5_74 (dT U_X5_waysOf 17 rfl) hg (by omega) rfl ?_
    refine x_iconst (dT U_X5_waysOf 18 rfl) ?_
    refine x_iaload (0) (dT U_X5_waysOf 19 rfl) hbs (by omega) rfl (by unfold bsl; rw [tab_len]; omega) (by unfold bsl; rw [tab_len]; omega) ?_
    rw [bsl_get (by omega)]
    refine x_imul (dT U_X5_waysOf 20 rfl) ?_
    refine x_isub (dT U_X5_waysOf 21 rfl) ?_
    refine x_invokevirtual (rc' := rc) (rs' := rs) (rc2 := 0) (rs2 := 0) (As := [_]) (st := _) M_X3_logOfBlind K_X5_88 (dT U_X5_waysOf 22 rfl) rfl rfl (by decide) rfl rfl hg (by omega) (by decide) rfl (Nat.le_of_ble_eq_true rfl) rfl (by decide) (Nat.le_of_ble_eq_true rfl) rfl rfl ?_
    have b0 := bs_b hp5 (i := 0) (by omega)
    refine S_X3_logOfBlind hw hp5 (by unfold xr; omega) ?_
    refine xRet_some ?_
    refine x_istore_n (ls' := [some (.ref _), some (vi _), some (vi _), some (vi _), none, none, none]) (dT U_X5_waysOf 23 rfl) (by decide) rfl ?_
    refine x_aload_n (dT U_X5_waysOf 24 rfl) rfl ?_
    refine x_getfield F_X5_21 (dT U_X5_waysOf 25 rfl) hP (by omega) rfl ?_
    refine x_aload_n (dT U_X5_waysOf 26 rfl) rfl ?_
    refine x_getfield F_X5_48 (dT U_X5_waysOf 27 rfl) hP (by omega) rfl ?_
    refine x_aload_n (dT U_X5_waysOf 28 rfl) rfl ?_
    refine x_getfield F_X5_26 (dT U_X5_waysOf 29 rfl) hP (by omega) rfl ?_
    refine x_iconst (dT U_X5_waysOf 30 rfl) ?_
    refine x_iload_n (dT U_X5_waysOf 31 rfl) rfl ?_
    refine x_isub (dT U_X5_waysOf 32 rfl) ?_
    refine x_iaload (1) (dT U_X5_waysOf 33 rfl) hC (by omega) rfl (Nat.le_of_ble_eq_true rfl) (Nat.le_of_ble_eq_true rfl) ?_
    refine x_invokevirtual (rc' := rc) (rs' := rs) (rc2 := 0) (rs2 := 0) (As := [_, _]) (st := _) M_X1_less K_X5_59 (dT U_X5_waysOf 34 rfl) rfl rfl (by decide) rfl rfl hf (by omega) (by decide) rfl (Nat.le_of_ble_eq_true rfl) rfl (by decide) (Nat.le_of_ble_eq_true rfl) rfl rfl ?_
    refine S_X1_less hf hp (by change xr (P.c - P.c1); unfold xr; omega) ?_
    change xRet _ _ _ _ _ _ _ _ _ _ (.inl (some (vi ((P.c - P.c1) % (p : Int))))) _ _
    rw [ep]
    refine xRet_some ?_
    refine x_istore (ls' := [some (.ref _), some (vi _), some (vi _), some (vi _), some (vi _), none, none]) (dT U_X5_waysOf 35 rfl) (by decide) rfl ?_
    refine x_aload_n (dT U_X5_waysOf 36 rfl) rfl ?_
    refine x_iconst (dT U_X5_waysOf 37 rfl) ?_
    refine x_iload_n (dT U_X5_waysOf 38 rfl) rfl ?_
    refine x_isub (dT U_X5_waysOf 39 rfl) ?_
    refine x_invokevirtual (rc' := rc) (rs' := rs) (rc2 := 0) (rs2 := 0) (As := [_]) (st := _) M_X5_holds K_X5_84 (dT U_X5_waysOf 40 rfl) rfl rfl (by decide) rfl rfl hP (by omega) (by decide) rfl (Nat.le_of_ble_eq_true rfl) rfl (by decide) (Nat.le_of_ble_eq_true rfl) rfl rfl ?_
    refine S_X5_holds1 hp5 hw hr ok s3 ?_
    · refine xRet_some ?_
      refine x_if_eq (tgt := 84) (dT U_X5_waysOf 41 rfl) (by decide) (by unfold xr at *; omega) (fun c70 => ?_) (fun c70 => ?_)
      · exfalso; omega
      · skip
        refine x_aload_n (dT U_X5_waysOf 42 rfl) rfl ?_
        refine x_getfield F_X5_26 (dT U_X5_waysOf 43 rfl) hP (by omega) rfl ?_
        refine x_iload_n (dT U_X5_waysOf 44 rfl) rfl ?_
        refine x_iaload (0) (dT U_X5_waysOf 45 rfl) hC (by omega) rfl (Nat.le_of_ble_eq_true rfl) (Nat.le_of_ble_eq_true rfl) ?_
        refine x_iload (dT U_X5_waysOf 46 rfl) rfl ?_
        refine x_icmp_eq (tgt := 86) (dT U_X5_waysOf 47 rfl) (by decide) (by change xr P.c0; unfold xr; omega) (by unfold xr; omega) (fun c81 => ?_) (fun c81 => ?_)
        · skip
          refine x_iconst (dT U_X5_waysOf 50 rfl) ?_
          refine x_istore (ls' := [some (.ref _), some (vi _), some (vi _), some (vi _), some (vi _), some (vi _), none]) (dT U_X5_waysOf 51 rfl) (by decide) rfl ?_
          refine x_iconst (dT U_X5_waysOf 52 rfl) ?_
          refine x_istore (ls' := [some (.ref _), some (vi _), some (vi _), some (vi _), some (vi _), some (vi _), some (vi _)]) (dT U_X5_waysOf 53 rfl) (by decide) rfl ?_
          exact L p 0 (by omega)
        · exact absurd rfl c81
  · exfalso; omega

set_option maxRecDepth 20000 in
set_option maxHeartbeats 1000000 in
theorem S_X5_waysOf1 {G : xG} {d rc rs : Nat} {ex : Bool} {h : xH} {Q : xQ} {p pa : Nat} {P : PS} (hp5 : p ∈ PR) (hw : GW p h) (hr : PAt p pa P h) (ok : P.ok p) (s3 : P.st = 3) (k : Q (.inl (some (vi 1))) ex h) : X G m_X5_waysOf (d + 4) rc rs ex 0 (xe m_X5_waysOf.2.2.1 [.ref pa, vi 1]) [] h Q := by
  show X G m_X5_waysOf _ _ _ _ 0 [some (.ref pa), some (vi 1), none, none, none, none, none] [] h Q
  have hp := PRb hp5
  have hq := gq_b hp5
  obtain ⟨hf, hg, hml, hex, hbs⟩ := id hw
  obtain ⟨r9, hP, hF, hC, hT⟩ := id hr
  have hP : h[pa]? = some (cO 5 [.ref 5, .ref 4, .ref (pa + 1), .ref (pa + 2), .ref (pa + 3), vi (P.y p), vi (P.bb), vi (P.ll), vi (P.mm), vi (P.cc)]) := hP
  have al := ok.all hp5 s3
  have F0e : P.F0 p = MM p P.f0 := if_pos (by omega)
  have F1e : P.F1 p = MM p P.f1 := if_pos (by omega)
  have ye : P.y p = MM p P.e := if_pos (by omega)
  have ce : P.cc = P.c := if_pos (by omega)
  have be := ok.eb hp.1 (by omega)
  rw [F0e, F1e] at hF
  rw [ye, ce] at hP
  have af : P.f1 = fo p P.e 1 P.c1 P.t1 := al.2.1
  have ac : 0 ≤ P.c1 ∧ P.c1 < p := al.2.2.2.2.1
  have ao : 0 ≤ P.c0 ∧ P.c0 < p := al.2.2.2.1
  have at9 : 0 ≤ P.t1 ∧ P.t1 < p := al.2.2.2.2.2.2
  have acc9 : (P.c0 + P.c1) % (p : Int) = P.c := al.2.2.1
  have cr := ok.cr (by omega)
  have w1 := ways1 (e := P.e) (s := 1) hp5 ac at9
  have ep : (P.c - P.c0) % (p : Int) = P.c1 := by rw [← acc9, sm_l, show P.c0 + P.c1 - P.c0 = P.c1 by omega, Int.emod_eq_of_lt ac.1 ac.2]
  have L : ∀ (n x : Nat), x + n = p → X G m_X5_waysOf (d + 4) rc rs ex 92 [some (.ref pa), some (vi 1), some (vi 1), some (vi ((P.e - 1 * (bs p 0 : Int)) % (p : Int) * (iv p (bs p 8) : Int) % (p : Int))), some (vi P.c1), some (vi (ct (fun x : Nat => cm1 p 0 (x : Int) = fo p P.e 1 P.c1 P.t1 ∧ ((x : Int) + P.c1 * ((P.e - 1 * (bs p 0 : Int)) % (p : Int) * (iv p (bs p 8) : Int) % (p : Int))) % (p : Int) = P.t1) x : Int)), some (vi (x : Int))] [] h Q := by
    intro n
    induction n with
    | zero =>
      intro x hi 
      refine x_iload (dT U_X5_waysOf 54 rfl) rfl ?_
      refine x_aload_n (dT U_X5_waysOf 55 rfl) rfl ?_
      refine x_getfield F_X5_21 (dT U_X5_waysOf 56 rfl) hP (by omega) rfl ?_
      refine x_getfield F_X5_91 (dT U_X5_waysOf 57 rfl) hf (by omega) rfl ?_
      refine x_icmp_ge (tgt := 160) (dT U_X5_waysOf 58 rfl) (by decide) (by unfold xr at *; omega) (by unfold xr at *; omega) (fun c101 => ?_) (fun c101 => ?_)
      · skip
        refine x_iload (dT U_X5_waysOf 86 rfl) rfl ?_
        refine x_ireturn (dT U_X5_waysOf 87 rfl) rfl ?_
        have e : x = p := by omega
        subst e
        rw [w1]
        exact k
      · exfalso; omega
    | succ n ih =>
      intro x hi 
      refine x_iload (dT U_X5_waysOf 54 rfl) rfl ?_
      refine x_aload_n (dT U_X5_waysOf 55 rfl) rfl ?_
      refine x_getfield F_X5_21 (dT U_X5_waysOf 56 rfl) hP (by omega) rfl ?_
      refine x_getfield F_X5_91 (dT U_X5_waysOf 57 rfl) hf (by omega) rfl ?_
      refine x_icmp_ge (tgt := 160) (dT U_X5_waysOf 58 rfl) (by decide) (by unfold xr at *; omega) (by unfold xr at *; omega) (fun c101 => ?_) (fun c101 => ?_)
      · exfalso; omega
      · skip
        refine x_aload_n (dT U_X5_waysOf 59 rfl) rfl ?_
        refine x_getfield F_X5_9 (dT U_X5_waysOf 60 rfl) hP (by omega) rfl ?_
        refine x_iconst (dT U_X5_waysOf 61 rfl) ?_
        refine x_iload (dT U_X5_waysOf 62 rfl) rfl ?_
        refine x_invokevirtual (rc' := rc) (rs' := rs) (rc2 := 0) (rs2 := 0) (As := [_, _]) (st := _) M_X3_commitmentOfOne K_X5_51 (dT U_X5_waysOf 63 rfl) rfl rfl (by decide) rfl rfl hg (by omega) (by decide) rfl (Nat.le_of_ble_eq_true rfl) rfl (by decide) (Nat.le_of_ble_eq_true rfl) rfl rfl ?_
        refine S_X3_commitmentOfOne hw hp5 (by omega) (by omega) ?_
        have cb := cm1_b (p := p) (n := 0) (b := (x : Int)) hp.1
        have m1 := MM_b hp5 cb
        have fb := fo_b (p := p) (e := P.e) (s := 1) (c := P.c1) (t := P.t1) hp.1
        rw [← af] at fb
        have m2 := MM_b hp5 fb
        refine xRet_some ?_
        refine x_aload_n (dT U_X5_waysOf 64 rfl) rfl ?_
        refine x_getfield F_X5_22 (dT U_X5_waysOf 65 rfl) hP (by omega) rfl ?_
        refine x_iload_n (dT U_X5_waysOf 66 rfl) rfl ?_
        refine x_iaload (1) (dT U_X5_waysOf 67 rfl) hF (by omega) rfl (Nat.le_of_ble_eq_true rfl) (Nat.le_of_ble_eq_true rfl) ?_
        refine x_icmp_ne (tgt := 154) (dT U_X5_waysOf 68 rfl) (by decide) (by unfold xr; omega) (by change xr (MM p P.f1); unfold xr; omega) (fun c120 => ?_) (fun c120 => ?_)
        · skip
          have c9 : ¬ MM p (cm1 p 0 (x : Int)) = MM p P.f1 := c120
          have e1 := ct_no (P := (fun x : Nat => cm1 p 0 (x : Int) = fo p P.e 1 P.c1 P.t1 ∧ ((x : Int) + P.c1 * ((P.e - 1 * (bs p 0 : Int)) % (p : Int) * (iv p (bs p 8) : Int) % (p : Int))) % (p : Int) = P.t1)) (n := x) (fun z => c9 (by rw [z.1, ← af]))
          refine x_iinc (ls' := [some (.ref _), some (vi _), some (vi _), some (vi _), some (vi _), some (vi _), some (vi _)]) (dT U_X5_waysOf 84 rfl) (by decide) rfl rfl ?_
          refine x_goto (tgt := 92) (dT U_X5_waysOf 85 rfl) (by decide) ?_
          have q := ih (x + 1) (by omega)
          rw [e1] at q
          exact q
        · skip
          have c9 : MM p (cm1 p 0 (x : Int)) = MM p P.f1 := c120
          refine x_aload_n (dT U_X5_waysOf 69 rfl) rfl ?_
          refine x_getfield F_X5_21 (dT U_X5_waysOf 70 rfl) hP (by omega) rfl ?_
          refine x_iload (dT U_X5_waysOf 71 rfl) rfl ?_
          refine x_aload_n (dT U_X5_waysOf 72 rfl) rfl ?_
          refine x_getfield F_X5_21 (dT U_X5_waysOf 73 rfl) hP (by omega) rfl ?_
          refine x_iload (dT U_X5_waysOf 74 rfl) rfl ?_
          refine x_iload_n (dT U_X5_waysOf 75 rfl) rfl ?_
          refine x_invokevirtual (rc' := rc) (rs' := rs) (rc2 := 0) (rs2 := 0) (As := [_, _]) (st := _) M_X1_product K_X5_64 (dT U_X5_waysOf 76 rfl) rfl rfl (by decide) rfl rfl hf (by omega) (by decide) rfl (Nat.le_of_ble_eq_true rfl) rfl (by decide) (Nat.le_of_ble_eq_true rfl) rfl rfl ?_
          have ob := modb (z := (P.e - 1 * (bs p 0 : Int)) % (p : Int) * (iv p (bs p 8) : Int)) (p := (p : Int)) (by omega)
          have mv := mulb ac ob (by omega)
          refine S_X1_product hf hp (by unfold xr; omega) ?_
          refine xRet_some ?_
          refine x_invokevirtual (rc' := rc) (rs' := rs) (rc2 := 0) (rs2 := 0) (As := [_, _]) (st := _) M_X1_sum K_X5_67 (dT U_X5_waysOf 77 rfl) rfl rfl (by decide) rfl rfl hf (by omega) (by decide) rfl (Nat.le_of_ble_eq_true rfl) rfl (by decide) (Nat.le_of_ble_eq_true rfl) rfl rfl ?_
          have b2 := modb (z := P.c1 * ((P.e - 1 * (bs p 0 : Int)) % (p : Int) * (iv p (bs p 8) : Int) % (p : Int))) (p := (p : Int)) (by omega)
          refine S_X1_sum hf hp (by unfold xr; omega) ?_
          rw [am_r]
          have b3 := modb (z := (x : Int) + P.c1 * ((P.e - 1 * (bs p 0 : Int)) % (p : Int) * (iv p (bs p 8) : Int) % (p : Int))) (p := (p : Int)) (by omega)
          refine xRet_some ?_
          refine x_aload_n (dT U_X5_waysOf 78 rfl) rfl ?_
          refine x_getfield F_X5_29 (dT U_X5_waysOf 79 rfl) hP (by omega) rfl ?_
          refine x_iload_n (dT U_X5_waysOf 80 rfl) rfl ?_
          refine x_iaload (1) (dT U_X5_waysOf 81 rfl) hT (by omega) rfl (Nat.le_of_ble_eq_true rfl) (Nat.le_of_ble_eq_true rfl) ?_
          refine x_icmp_ne (tgt := 154) (dT U_X5_waysOf 82 rfl) (by decide) (by unfold xr; omega) (by change xr P.t1; unfold xr; omega) (fun c148 => ?_) (fun c148 => ?_)
          · skip
            have c8 : ¬ ((x : Int) + P.c1 * ((P.e - 1 * (bs p 0 : Int)) % (p : Int) * (iv p (bs p 8) : Int) % (p : Int))) % (p : Int) = P.t1 := c148
            have e1 := ct_no (P := (fun x : Nat => cm1 p 0 (x : Int) = fo p P.e 1 P.c1 P.t1 ∧ ((x : Int) + P.c1 * ((P.e - 1 * (bs p 0 : Int)) % (p : Int) * (iv p (bs p 8) : Int) % (p : Int))) % (p : Int) = P.t1)) (n := x) (fun z => c8 z.2)
            refine x_iinc (ls' := [some (.ref _), some (vi _), some (vi _), some (vi _), some (vi _), some (vi _), some (vi _)]) (dT U_X5_waysOf 84 rfl) (by decide) rfl rfl ?_
            refine x_goto (tgt := 92) (dT U_X5_waysOf 85 rfl) (by decide) ?_
            have q := ih (x + 1) (by omega)
            rw [e1] at q
            exact q
          · skip
            have c8 : ((x : Int) + P.c1 * ((P.e - 1 * (bs p 0 : Int)) % (p : Int) * (iv p (bs p 8) : Int) % (p : Int))) % (p : Int) = P.t1 := c148
            have e1 := ct_yes (P := (fun x : Nat => cm1 p 0 (x : Int) = fo p P.e 1 P.c1 P.t1 ∧ ((x : Int) + P.c1 * ((P.e - 1 * (bs p 0 : Int)) % (p : Int) * (iv p (bs p 8) : Int) % (p : Int))) % (p : Int) = P.t1)) (n := x) ⟨by rw [← af]; exact MM_inj hp5 cb fb c9, c8⟩
            refine x_iinc (ls' := [some (.ref _), some (vi _), some (vi _), some (vi _), some (vi _), some (vi _), some (vi _)]) (dT U_X5_waysOf 83 rfl) (by decide) rfl rfl ?_
            refine x_iinc (ls' := [some (.ref _), some (vi _), some (vi _), some (vi _), some (vi _), some (vi _), some (vi _)]) (dT U_X5_waysOf 84 rfl) (by decide) rfl rfl ?_
            refine x_goto (tgt := 92) (dT U_X5_waysOf 85 rfl) (by decide) ?_
            have q := ih (x + 1) (by omega)
            rw [e1] at q
            exact q
  refine x_iload_n (dT U_X5_waysOf 0 rfl) rfl ?_
  refine x_iconst (dT U_X5_waysOf 1 rfl) ?_
  refine x_icmp_ne (tgt := 9) (dT U_X5_waysOf 2 rfl) (by decide) (by unfold xr at *; omega) (by unfold xr at *; omega) (fun c2 => ?_) (fun c2 => ?_)
  · exfalso; omega
  · skip
    refine x_iconst (dT U_X5_waysOf 3 rfl) ?_
    refine x_goto (tgt := 10) (dT U_X5_waysOf 4 rfl) (by decide) ?_
    refine x_istore_n (ls' := [some (.ref _), some (vi _), some (vi _), none, none, none, none]) (dT U_X5_waysOf 6 rfl) (by decide) rfl ?_
    refine x_aload_n (dT U_X5_waysOf 7 rfl) rfl ?_
    refine x_getfield F_X5_9 (dT U_X5_waysOf 8 rfl) hP (by omega) rfl ?_
    refine x_aload_n (dT U_X5_waysOf 9 rfl) rfl ?_
    refine x_getfield F_X5_9 (dT U_X5_waysOf 10 rfl) hP (by omega) rfl ?_
    refine x_aload_n (dT U_X5_waysOf 11 rfl) rfl ?_
    refine x_getfield F_X5_35 (dT U_X5_waysOf 12 rfl) hP (by omega) rfl ?_
    refine x_invokevirtual (rc' := rc) (rs' := rs) (rc2 := 0) (rs2 := 0) (As := [_]) (st := _) M_X3_exponentOf K_X5_70 (dT U_X5_waysOf 13 rfl) rfl rfl (by decide) rfl rfl hg (by omega) (by decide) rfl (Nat.le_of_ble_eq_true rfl) rfl (by decide) (Nat.le_of_ble_eq_true rfl) rfl rfl ?_
    have hM := MM_b hp5 be
    refine S_X3_exponentOf hw hp5 (by unfold xr; omega) ?_
    rw [exI_MM hp5 be]
    refine xRet_some ?_
    refine x_iload_n (dT U_X5_waysOf 14 rfl) rfl ?_
    refine x_aload_n (dT U_X5_waysOf 15 rfl) rfl ?_
    refine x_getfield F_X5_9 (dT U_X5_waysOf 16 rfl) hP (by omega) rfl ?_
    refine x_getfield F_X5_74 (dT U_X5_waysOf 17 rfl) hg (by omega) rfl ?_
    refine x_iconst (dT U_X5_waysOf 18 rfl) ?_
    refine x_iaload (0) (dT U_X5_waysOf 19 rfl) hbs (by omega) rfl (by unfold bsl; rw [tab_len]; omega) (by unfold bsl; rw [tab_len]; omega) ?_
    rw [bsl_get (by omega)]
    refine x_imul (dT U_X5_waysOf 20 rfl) ?_
    refine x_isub (dT U_X5_waysOf 21 rfl) ?_
    refine x_invokevirtual (rc' := rc) (rs' := rs) (rc2 := 0) (rs2 := 0) (As := [_]) (st := _) M_X3_logOfBlind K_X5_88 (dT U_X5_waysOf 22 rfl) rfl rfl (by decide) rfl rfl hg (by omega) (by decide) rfl (Nat.le_of_ble_eq_true rfl) rfl (by decide) (Nat.le_of_ble_eq_true rfl) rfl rfl ?_
    have b0 := bs_b hp5 (i := 0) (by omega)
    refine S_X3_logOfBlind hw hp5 (by unfold xr; omega) ?_
    refine xRet_some ?_
    refine x_istore_n (ls' := [some (.ref _), some (vi _), some (vi _), some (vi _), none, none, none]) (dT U_X5_waysOf 23 rfl) (by decide) rfl ?_
    refine x_aload_n (dT U_X5_waysOf 24 rfl) rfl ?_
    refine x_getfield F_X5_21 (dT U_X5_waysOf 25 rfl) hP (by omega) rfl ?_
    refine x_aload_n (dT U_X5_waysOf 26 rfl) rfl ?_
    refine x_getfield F_X5_48 (dT U_X5_waysOf 27 rfl) hP (by omega) rfl ?_
    refine x_aload_n (dT U_X5_waysOf 28 rfl) rfl ?_
    refine x_getfield F_X5_26 (dT U_X5_waysOf 29 rfl) hP (by omega) rfl ?_
    refine x_iconst (dT U_X5_waysOf 30 rfl) ?_
    refine x_iload_n (dT U_X5_waysOf 31 rfl) rfl ?_
    refine x_isub (dT U_X5_waysOf 32 rfl) ?_
    refine x_iaload (0) (dT U_X5_waysOf 33 rfl) hC (by omega) rfl (Nat.le_of_ble_eq_true rfl) (Nat.le_of_ble_eq_true rfl) ?_
    refine x_invokevirtual (rc' := rc) (rs' := rs) (rc2 := 0) (rs2 := 0) (As := [_, _]) (st := _) M_X1_less K_X5_59 (dT U_X5_waysOf 34 rfl) rfl rfl (by decide) rfl rfl hf (by omega) (by decide) rfl (Nat.le_of_ble_eq_true rfl) rfl (by decide) (Nat.le_of_ble_eq_true rfl) rfl rfl ?_
    refine S_X1_less hf hp (by change xr (P.c - P.c0); unfold xr; omega) ?_
    change xRet _ _ _ _ _ _ _ _ _ _ (.inl (some (vi ((P.c - P.c0) % (p : Int))))) _ _
    rw [ep]
    refine xRet_some ?_
    refine x_istore (ls' := [some (.ref _), some (vi _), some (vi _), some (vi _), some (vi _), none, none]) (dT U_X5_waysOf 35 rfl) (by decide) rfl ?_
    refine x_aload_n (dT U_X5_waysOf 36 rfl) rfl ?_
    refine x_iconst (dT U_X5_waysOf 37 rfl) ?_
    refine x_iload_n (dT U_X5_waysOf 38 rfl) rfl ?_
    refine x_isub (dT U_X5_waysOf 39 rfl) ?_
    refine x_invokevirtual (rc' := rc) (rs' := rs) (rc2 := 0) (rs2 := 0) (As := [_]) (st := _) M_X5_holds K_X5_84 (dT U_X5_waysOf 40 rfl) rfl rfl (by decide) rfl rfl hP (by omega) (by decide) rfl (Nat.le_of_ble_eq_true rfl) rfl (by decide) (Nat.le_of_ble_eq_true rfl) rfl rfl ?_
    refine S_X5_holds0 hp5 hw hr ok s3 ?_
    · refine xRet_some ?_
      refine x_if_eq (tgt := 84) (dT U_X5_waysOf 41 rfl) (by decide) (by unfold xr at *; omega) (fun c70 => ?_) (fun c70 => ?_)
      · exfalso; omega
      · skip
        refine x_aload_n (dT U_X5_waysOf 42 rfl) rfl ?_
        refine x_getfield F_X5_26 (dT U_X5_waysOf 43 rfl) hP (by omega) rfl ?_
        refine x_iload_n (dT U_X5_waysOf 44 rfl) rfl ?_
        refine x_iaload (1) (dT U_X5_waysOf 45 rfl) hC (by omega) rfl (Nat.le_of_ble_eq_true rfl) (Nat.le_of_ble_eq_true rfl) ?_
        refine x_iload (dT U_X5_waysOf 46 rfl) rfl ?_
        refine x_icmp_eq (tgt := 86) (dT U_X5_waysOf 47 rfl) (by decide) (by change xr P.c1; unfold xr; omega) (by unfold xr; omega) (fun c81 => ?_) (fun c81 => ?_)
        · skip
          refine x_iconst (dT U_X5_waysOf 50 rfl) ?_
          refine x_istore (ls' := [some (.ref _), some (vi _), some (vi _), some (vi _), some (vi _), some (vi _), none]) (dT U_X5_waysOf 51 rfl) (by decide) rfl ?_
          refine x_iconst (dT U_X5_waysOf 52 rfl) ?_
          refine x_istore (ls' := [some (.ref _), some (vi _), some (vi _), some (vi _), some (vi _), some (vi _), some (vi _)]) (dT U_X5_waysOf 53 rfl) (by decide) rfl ?_
          exact L p 0 (by omega)
        · exact absurd rfl c81
