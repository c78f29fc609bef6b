set_option maxRecDepth 20000 in
set_option maxHeartbeats 1000000 in
theorem S_X10_runs1 {G : xG} {d rc rs a : Nat} {ex : Bool} {h : xH} {Q : xQ} {σ : St} (w : CW σ h) (v : INV σ) (ha : a < 4)
    (M : ∀ h1, FC h h1 → CW σ h1 → X G m_X10_runsAreTrue (d + 6) rc rs ex 68 [some (.ref 3), some (vi (a : Int)), some (vi (a : Int))] [] h1 Q) : X G m_X10_runsAreTrue (d + 6) rc rs ex 36 [some (.ref 3), some (vi (a : Int)), some (vi 0)] [] h Q := by
  have L : ∀ (n b : Nat), b + n = a → ∀ h1 : xH, FC h h1 → CW σ h1 → X G m_X10_runsAreTrue (d + 6) rc rs ex 36 [some (.ref 3), some (vi (a : Int)), some (vi (b : Int))] [] h1 Q := by
    intro n
    induction n with
    | zero =>
      intro b hi h1 g1 w1
      refine x_iload_n (dT U_X10_runsAreTrue 22 rfl) rfl ?_
      refine x_iload_n (dT U_X10_runsAreTrue 23 rfl) rfl ?_
      refine x_icmp_ge (tgt := 68) (dT U_X10_runsAreTrue 24 rfl) (by decide) (by unfold xr at *; omega) (by unfold xr at *; omega) (fun c38 => ?_) (fun c38 => ?_)
      · skip
        have e : b = a := by omega
        subst e
        exact M h1 g1 w1
      · exfalso; omega
    | succ n ih =>
      intro b hi h1 g1 w1
      refine x_iload_n (dT U_X10_runsAreTrue 22 rfl) rfl ?_
      refine x_iload_n (dT U_X10_runsAreTrue 23 rfl) rfl ?_
      refine x_icmp_ge (tgt := 68) (dT U_X10_runsAreTrue 24 rfl) (by decide) (by unfold xr at *; omega) (by unfold xr at *; omega) (fun c38 => ?_) (fun c38 => ?_)
      · exfalso; omega
      · skip
        refine x_aload_n (dT U_X10_runsAreTrue 25 rfl) rfl ?_
        refine x_aload_n (dT U_X10_runsAreTrue 26 rfl) rfl ?_
        refine x_getfield F_X10_39 (dT U_X10_runsAreTrue 27 rfl) w1.c3 (Nat.le_of_ble_eq_true rfl) rfl ?_
        refine x_iload_n (dT U_X10_runsAreTrue 28 rfl) rfl ?_
        refine x_aaload (a) (dT U_X10_runsAreTrue 29 rfl) w1.c21 (Nat.le_of_ble_eq_true rfl) (by decide) rfl (runsL_get (by omega)) (Nat.le_of_ble_eq_true rfl) ?_
        refine x_aload_n (dT U_X10_runsAreTrue 30 rfl) rfl ?_
        refine x_getfield F_X10_39 (dT U_X10_runsAreTrue 31 rfl) w1.c3 (Nat.le_of_ble_eq_true rfl) rfl ?_
        refine x_iload_n (dT U_X10_runsAreTrue 32 rfl) rfl ?_
        refine x_aaload (b) (dT U_X10_runsAreTrue 33 rfl) w1.c21 (Nat.le_of_ble_eq_true rfl) (by decide) rfl (runsL_get (by omega)) (Nat.le_of_ble_eq_true rfl) ?_
        refine x_invokevirtual (rc' := rc) (rs' := rs) (rc2 := 0) (rs2 := 0) (As := [_, _]) (st := _) M_X10_forkIsTrue K_X10_567 (dT U_X10_runsAreTrue 34 rfl) rfl rfl (by decide) rfl rfl w1.c3 (Nat.le_of_ble_eq_true rfl) (by decide) rfl (Nat.le_of_ble_eq_true rfl) rfl (by decide) (Nat.le_of_ble_eq_true rfl) rfl rfl ?_
        refine S_X10_forkIsTrue w1 v (by omega) (by omega) (fun h2 g2 w2 => ?_)
        refine xRet_some ?_
        refine x_if_ne (tgt := 62) (dT U_X10_runsAreTrue 35 rfl) (by decide) (by unfold xr at *; omega) (fun c57 => ?_) (fun c57 => ?_)
        · skip
          refine x_iinc (ls' := [some (.ref _), some (vi _), some (vi _)]) (dT U_X10_runsAreTrue 38 rfl) (by decide) rfl rfl ?_
          refine x_goto (tgt := 36) (dT U_X10_runsAreTrue 39 rfl) (by decide) ?_
          exact ih (b + 1) (by omega) h2 ((Ag.tr g1 g2).w (by omega)) w2
        · exfalso; omega
  exact L a 0 (by omega) h (Ag.rf 3 69 h) w

set_option maxRecDepth 20000 in
set_option maxHeartbeats 1000000 in
theorem S_X10_runsAreTrue {G : xG} {d rc rs : Nat} {ex : Bool} {h : xH} {Q : xQ} {σ : St} (w : CW σ h) (v : INV σ) (k : ∀ h2, FC h h2 → CW σ h2 → Q (.inl (some (vi 1))) ex h2) : X G m_X10_runsAreTrue (d + 6) rc rs ex 0 (xe m_X10_runsAreTrue.2.2.1 [.ref 3]) [] h Q := by
  show X G m_X10_runsAreTrue _ _ _ _ 0 [some (.ref 3), none, none] [] h Q
  have hp := PRb v.p
  have hq := gq_b v.p
  have L : ∀ (n a : Nat), a + n = 4 → ∀ h1 : xH, FC h h1 → CW σ h1 → X G m_X10_runsAreTrue (d + 6) rc rs ex 2 [some (.ref 3), some (vi (a : Int)), none] [] h1 Q := by
    intro n
    induction n with
    | zero =>
      intro a hi h1 g1 w1
      refine x_iload_n (dT U_X10_runsAreTrue 2 rfl) rfl ?_
      refine x_iconst (dT U_X10_runsAreTrue 3 rfl) ?_
      refine x_icmp_ge (tgt := 74) (dT U_X10_runsAreTrue 4 rfl) (by decide) (by unfold xr at *; omega) (by unfold xr at *; omega) (fun c4 => ?_) (fun c4 => ?_)
      · skip
        refine x_iconst (dT U_X10_runsAreTrue 42 rfl) ?_
        refine x_zreturn (dT U_X10_runsAreTrue 43 rfl) rfl (by omega) ?_
        exact k h1 g1 w1
      · exfalso; omega
    | succ n ih =>
      intro a hi h1 g1 w1
      refine x_iload_n (dT U_X10_runsAreTrue 2 rfl) rfl ?_
      refine x_iconst (dT U_X10_runsAreTrue 3 rfl) ?_
      refine x_icmp_ge (tgt := 74) (dT U_X10_runsAreTrue 4 rfl) (by decide) (by unfold xr at *; omega) (by unfold xr at *; omega) (fun c4 => ?_) (fun c4 => ?_)
      · exfalso; omega
      · skip
        refine x_aload_n (dT U_X10_runsAreTrue 5 rfl) rfl ?_
        refine x_getfield F_X10_39 (dT U_X10_runsAreTrue 6 rfl) w1.c3 (Nat.le_of_ble_eq_true rfl) rfl ?_
        refine x_iload_n (dT U_X10_runsAreTrue 7 rfl) rfl ?_
        refine x_aaload (a) (dT U_X10_runsAreTrue 8 rfl) w1.c21 (Nat.le_of_ble_eq_true rfl) (by decide) rfl (runsL_get (by omega)) (Nat.le_of_ble_eq_true rfl) ?_
        refine x_invokevirtual (rc' := rc) (rs' := rs) (rc2 := 0) (rs2 := 0) (As := []) (st := _) M_X7_keepsItsWord K_X10_561 (dT U_X10_runsAreTrue 9 rfl) rfl rfl (by decide) rfl rfl (show _ = some (cO 7 [.ref 5, .ref 4, .ref (22 + 4 * a + 1), .ref (22 + 4 * a + 2), .ref (22 + 4 * a + 3), vi ((σ.R a).y σ.p), vi (σ.R a).vv, vi ((σ.R a).a σ.p), vi (σ.R a).ww, vi (σ.R a).cc, vi (σ.R a).tt, vi (σ.R a).mm, vi (σ.R a).rr]) from (w1.runs a (by omega)).2.1) (by omega) (by decide) rfl (Nat.le_of_ble_eq_true rfl) rfl (by decide) (Nat.le_of_ble_eq_true rfl) rfl rfl ?_
        refine S_X7_keepsItsWord v.p (w1.runs a (by omega)) (v.R a (by omega)).1 w1.gw (v.R a (by omega)).2.1 ?_
        refine xRet_some ?_
        refine x_if_eq (tgt := 32) (dT U_X10_runsAreTrue 10 rfl) (by decide) (by unfold xr at *; omega) (fun c16 => ?_) (fun c16 => ?_)
        · exfalso; omega
        · skip
          refine x_aload_n (dT U_X10_runsAreTrue 11 rfl) rfl ?_
          refine x_aload_n (dT U_X10_runsAreTrue 12 rfl) rfl ?_
          refine x_getfield F_X10_39 (dT U_X10_runsAreTrue 13 rfl) w1.c3 (Nat.le_of_ble_eq_true rfl) rfl ?_
          refine x_iload_n (dT U_X10_runsAreTrue 14 rfl) rfl ?_
          refine x_aaload (a) (dT U_X10_runsAreTrue 15 rfl) w1.c21 (Nat.le_of_ble_eq_true rfl) (by decide) rfl (runsL_get (by omega)) (Nat.le_of_ble_eq_true rfl) ?_
          refine x_invokevirtual (rc' := rc) (rs' := rs) (rc2 := 0) (rs2 := 0) (As := [_]) (st := _) M_X10_masksAreTrue K_X10_564 (dT U_X10_runsAreTrue 16 rfl) rfl rfl (by decide) rfl rfl w1.c3 (Nat.le_of_ble_eq_true rfl) (by decide) rfl (Nat.le_of_ble_eq_true rfl) rfl (by decide) (Nat.le_of_ble_eq_true rfl) rfl rfl ?_
          refine S_X10_masksAreTrue w1 v (by omega) (fun h2 g2 w2 => ?_)
          refine xRet_some ?_
          refine x_if_ne (tgt := 34) (dT U_X10_runsAreTrue 17 rfl) (by decide) (by unfold xr at *; omega) (fun c29 => ?_) (fun c29 => ?_)
          · skip
            refine x_iconst (dT U_X10_runsAreTrue 20 rfl) ?_
            refine x_istore_n (ls' := [some (.ref _), some (vi _), some (vi _)]) (dT U_X10_runsAreTrue 21 rfl) (by decide) rfl ?_
            refine S_X10_runs1 w2 v (by omega) (fun h3 g3 w3 => ?_)
            refine x_iinc (ls' := [some (.ref _), some (vi _), some (vi _)]) (dT U_X10_runsAreTrue 40 rfl) (by decide) rfl rfl ?_
            refine x_goto (tgt := 2) (dT U_X10_runsAreTrue 41 rfl) (by decide) ?_
            refine x_drop ?_ (ih (a + 1) (by omega) h3 ((Ag.tr (Ag.tr g1 g2) g3).w (by omega)) w3)
            repeat (first | exact trivial | refine ⟨rfl, ?_⟩ | refine ⟨trivial, ?_⟩)
          · exfalso; omega
  refine x_iconst (dT U_X10_runsAreTrue 0 rfl) ?_
  refine x_istore_n (ls' := [some (.ref _), some (vi _), none]) (dT U_X10_runsAreTrue 1 rfl) (by decide) rfl ?_
  exact L 4 0 (by omega) h (Ag.rf 3 69 h) w

set_option maxRecDepth 20000 in
set_option maxHeartbeats 1000000 in
theorem S_X10_pairsAreTrue {G : xG} {d rc rs : Nat} {ex : Bool} {h : xH} {Q : xQ} {σ : St} (w : CW σ h) (v : INV σ) (k : Q (.inl (some (vi 1))) ex h) : X G m_X10_pairsAreTrue (d + 5) rc rs ex 0 (xe m_X10_pairsAreTrue.2.2.1 [.ref 3]) [] h Q := by
  show X G m_X10_pairsAreTrue _ _ _ _ 0 [some (.ref 3), none, none] [] h Q
  have hp := PRb v.p
  have hq := gq_b v.p
  have L : ∀ (n a : Nat), a + n = 2 → X G m_X10_pairsAreTrue (d + 5) rc rs ex 2 [some (.ref 3), some (vi (a : Int)), none] [] h Q := by
    intro n
    induction n with
    | zero =>
      intro a hi 
      refine x_iload_n (dT U_X10_pairsAreTrue 2 rfl) rfl ?_
      refine x_iconst (dT U_X10_pairsAreTrue 3 rfl) ?_
      refine x_icmp_ge (tgt := 54) (dT U_X10_pairsAreTrue 4 rfl) (by decide) (by unfold xr at *; omega) (by unfold xr at *; omega) (fun c4 => ?_) (fun c4 => ?_)
      · skip
        refine x_iconst (dT U_X10_pairsAreTrue 30 rfl) ?_
        refine x_zreturn (dT U_X10_pairsAreTrue 31 rfl) rfl (by omega) ?_
        exact k
      · exfalso; omega
    | succ n ih =>
      intro a hi 
      refine x_iload_n (dT U_X10_pairsAreTrue 2 rfl) rfl ?_
      refine x_iconst (dT U_X10_pairsAreTrue 3 rfl) ?_
      refine x_icmp_ge (tgt := 54) (dT U_X10_pairsAreTrue 4 rfl) (by decide) (by unfold xr at *; omega) (by unfold xr at *; omega) (fun c4 => ?_) (fun c4 => ?_)
      · exfalso; omega
      · skip
        refine x_aload_n (dT U_X10_pairsAreTrue 5 rfl) rfl ?_
        refine x_getfield F_X10_48 (dT U_X10_pairsAreTrue 6 rfl) w.c3 (Nat.le_of_ble_eq_true rfl) rfl ?_
        refine x_iload_n (dT U_X10_pairsAreTrue 7 rfl) rfl ?_
        refine x_aaload (a) (dT U_X10_pairsAreTrue 8 rfl) w.c38 (Nat.le_of_ble_eq_true rfl) (by decide) rfl (pairsL_get (by omega)) (Nat.le_of_ble_eq_true rfl) ?_
        refine x_astore_n (ls' := [some (.ref _), some (vi _), some (.ref _)]) (dT U_X10_pairsAreTrue 9 rfl) (by decide) rfl ?_
        refine x_aload_n (dT U_X10_pairsAreTrue 10 rfl) rfl ?_
        refine x_invokevirtual (rc' := rc) (rs' := rs) (rc2 := 0) (rs2 := 0) (As := []) (st := _) M_X5_hasChallenge K_X10_418 (dT U_X10_pairsAreTrue 11 rfl) rfl rfl (by decide) rfl rfl (show _ = some (cO 5 [.ref 5, .ref 4, .ref (39 + 4 * a + 1), .ref (39 + 4 * a + 2), .ref (39 + 4 * a + 3), vi ((σ.P a).y σ.p), vi (σ.P a).bb, vi (σ.P a).ll, vi (σ.P a).mm, vi (σ.P a).cc]) from (w.pairs a (by omega)).2.1) (by omega) (by decide) rfl (Nat.le_of_ble_eq_true rfl) rfl (by decide) (Nat.le_of_ble_eq_true rfl) rfl rfl ?_
        refine S_X5_hasChallenge v.p (w.pairs a (by omega)) (v.P a (by omega)) w.gw (fun s1 => ?_) (fun s0 => ?_)
        · refine xRet_some ?_
          have s3 : (σ.P a).st = 3 := by have := (v.P a (by omega)).1; omega
          refine x_if_eq (tgt := 48) (dT U_X10_pairsAreTrue 12 rfl) (by decide) (by unfold xr at *; omega) (fun c18 => ?_) (fun c18 => ?_)
          · exfalso; omega
          · skip
            refine x_aload_n (dT U_X10_pairsAreTrue 13 rfl) rfl ?_
            refine x_invokevirtual (rc' := rc) (rs' := rs) (rc2 := 0) (rs2 := 0) (As := []) (st := _) M_X5_accepted K_X10_426 (dT U_X10_pairsAreTrue 14 rfl) rfl rfl (by decide) rfl rfl (show _ = some (cO 5 [.ref 5, .ref 4, .ref (39 + 4 * a + 1), .ref (39 + 4 * a + 2), .ref (39 + 4 * a + 3), vi ((σ.P a).y σ.p), vi (σ.P a).bb, vi (σ.P a).ll, vi (σ.P a).mm, vi (σ.P a).cc]) from (w.pairs a (by omega)).2.1) (by omega) (by decide) rfl (Nat.le_of_ble_eq_true rfl) rfl (by decide) (Nat.le_of_ble_eq_true rfl) rfl rfl ?_
            refine S_X5_accepted v.p w.gw (w.pairs a (by omega)) (v.P a (by omega)) (fun _ => ?_) (fun z => absurd s3 z)
            · refine xRet_some ?_
              refine x_if_eq (tgt := 46) (dT U_X10_pairsAreTrue 15 rfl) (by decide) (by unfold xr at *; omega) (fun c25 => ?_) (fun c25 => ?_)
              · exfalso; omega
              · skip
                refine x_aload_n (dT U_X10_pairsAreTrue 16 rfl) rfl ?_
                refine x_iconst (dT U_X10_pairsAreTrue 17 rfl) ?_
                refine x_invokevirtual (rc' := rc) (rs' := rs) (rc2 := 0) (rs2 := 0) (As := [_]) (st := _) M_X5_waysOf K_X10_433 (dT U_X10_pairsAreTrue 18 rfl) rfl rfl (by decide) rfl rfl (show _ = some (cO 5 [.ref 5, .ref 4, .ref (39 + 4 * a + 1), .ref (39 + 4 * a + 2), .ref (39 + 4 * a + 3), vi ((σ.P a).y σ.p), vi (σ.P a).bb, vi (σ.P a).ll, vi (σ.P a).mm, vi (σ.P a).cc]) from (w.pairs a (by omega)).2.1) (by omega) (by decide) rfl (Nat.le_of_ble_eq_true rfl) rfl (by decide) (Nat.le_of_ble_eq_true rfl) rfl rfl ?_
                refine S_X5_waysOf0 v.p w.gw (w.pairs a (by omega)) (v.P a (by omega)) s3 ?_
                refine xRet_some ?_
                refine x_iconst (dT U_X10_pairsAreTrue 19 rfl) ?_
                refine x_icmp_ne (tgt := 46) (dT U_X10_pairsAreTrue 20 rfl) (by decide) (by unfold xr at *; omega) (by unfold xr at *; omega) (fun c34 => ?_) (fun c34 => ?_)
                · exfalso; omega
                · skip
                  refine x_aload_n (dT U_X10_pairsAreTrue 21 rfl) rfl ?_
                  refine x_iconst (dT U_X10_pairsAreTrue 22 rfl) ?_
                  refine x_invokevirtual (rc' := rc) (rs' := rs) (rc2 := 0) (rs2 := 0) (As := [_]) (st := _) M_X5_waysOf K_X10_433 (dT U_X10_pairsAreTrue 23 rfl) rfl rfl (by decide) rfl rfl (show _ = some (cO 5 [.ref 5, .ref 4, .ref (39 + 4 * a + 1), .ref (39 + 4 * a + 2), .ref (39 + 4 * a + 3), vi ((σ.P a).y σ.p), vi (σ.P a).bb, vi (σ.P a).ll, vi (σ.P a).mm, vi (σ.P a).cc]) from (w.pairs a (by omega)).2.1) (by omega) (by decide) rfl (Nat.le_of_ble_eq_true rfl) rfl (by decide) (Nat.le_of_ble_eq_true rfl) rfl rfl ?_
                  refine S_X5_waysOf1 v.p w.gw (w.pairs a (by omega)) (v.P a (by omega)) s3 ?_
                  refine xRet_some ?_
                  refine x_iconst (dT U_X10_pairsAreTrue 24 rfl) ?_
                  refine x_icmp_eq (tgt := 48) (dT U_X10_pairsAreTrue 25 rfl) (by decide) (by unfold xr at *; omega) (by unfold xr at *; omega) (fun c43 => ?_) (fun c43 => ?_)
                  · skip
                    refine x_iinc (ls' := [some (.ref _), some (vi _), some (.ref _)]) (dT U_X10_pairsAreTrue 28 rfl) (by decide) rfl rfl ?_
                    refine x_goto (tgt := 2) (dT U_X10_pairsAreTrue 29 rfl) (by decide) ?_
                    refine x_drop ?_ (ih (a + 1) (by omega))
                    repeat (first | exact trivial | refine ⟨rfl, ?_⟩ | refine ⟨trivial, ?_⟩)
                  · exfalso; omega
        · refine xRet_some ?_
          refine x_if_eq (tgt := 48) (dT U_X10_pairsAreTrue 12 rfl) (by decide) (by unfold xr at *; omega) (fun c18 => ?_) (fun c18 => ?_)
          · skip
            refine x_iinc (ls' := [some (.ref _), some (vi _), some (.ref _)]) (dT U_X10_pairsAreTrue 28 rfl) (by decide) rfl rfl ?_
            refine x_goto (tgt := 2) (dT U_X10_pairsAreTrue 29 rfl) (by decide) ?_
            refine x_drop ?_ (ih (a + 1) (by omega))
            repeat (first | exact trivial | refine ⟨rfl, ?_⟩ | refine ⟨trivial, ?_⟩)
          · exfalso; omega
  refine x_iconst (dT U_X10_pairsAreTrue 0 rfl) ?_
  refine x_istore_n (ls' := [some (.ref _), some (vi _), none]) (dT U_X10_pairsAreTrue 1 rfl) (by decide) rfl ?_
  exact L 2 0 (by omega)

set_option maxRecDepth 20000 in
set_option maxHeartbeats 1000000 in
theorem S_X10_batchIsTrue {G : xG} {d rc rs : Nat} {ex : Bool} {h : xH} {Q : xQ} {σ : St} {i j : Nat} {ml nl : List Int} (w : CW σ h) (v : INV σ) (hi4 : i < 4) (hj4 : j < 4) (h68 : h[68]? = some (cA 0 ml)) (l68 : Fl (σ.p : Int) ml) (h69 : h[69]? = some (cA 0 nl)) (l69 : Fl (σ.p : Int) nl) (k : Q (.inl (some (vi 1))) ex h) : X G m_X10_batchIsTrue (d + 2) rc rs ex 0 (xe m_X10_batchIsTrue.2.2.1 [.ref 3, .ref (22 + 4 * i), .ref (22 + 4 * j)]) [] h Q := by
  show X G m_X10_batchIsTrue _ _ _ _ 0 [some (.ref 3), some (.ref (22 + 4 * i)), some (.ref (22 + 4 * j)), none] [] h Q
  have hp := PRb v.p
  have hq := gq_b v.p
  refine x_aload_n (dT U_X10_batchIsTrue 0 rfl) rfl ?_
  refine x_aload_n (dT U_X10_batchIsTrue 1 rfl) rfl ?_
  refine x_iconst (dT U_X10_batchIsTrue 2 rfl) ?_
  refine x_invokevirtual (rc' := rc) (rs' := rs) (rc2 := 0) (rs2 := 0) (As := [_, _]) (st := _) M_X7_isJoinable K_X10_580 (dT U_X10_batchIsTrue 3 rfl) rfl rfl (by decide) rfl rfl (show _ = some (cO 7 [.ref 5, .ref 4, .ref (22 + 4 * i + 1), .ref (22 + 4 * i + 2), .ref (22 + 4 * i + 3), vi ((σ.R i).y σ.p), vi (σ.R i).vv, vi ((σ.R i).a σ.p), vi (σ.R i).ww, vi (σ.R i).cc, vi (σ.R i).tt, vi (σ.R i).mm, vi (σ.R i).rr]) from (w.runs i hi4).2.1) (by omega) (by decide) rfl (Nat.le_of_ble_eq_true rfl) rfl (by decide) (Nat.le_of_ble_eq_true rfl) rfl rfl ?_
  refine S_X7_isJoinable v.p (w.runs i hi4) (v.R i hi4).1 (w.runs j hj4) (v.R j hj4).1 w.gw (Or.inr rfl) (fun q1 => ?_) (fun q0 => ?_)
  · refine xRet_some ?_
    refine x_if_ne (tgt := 11) (dT U_X10_batchIsTrue 4 rfl) (by decide) (by unfold xr at *; omega) (fun c6 => ?_) (fun c6 => ?_)
    · skip
      refine x_iconst (dT U_X10_batchIsTrue 7 rfl) ?_
      refine x_istore_n (ls' := [some (.ref _), some (.ref _), some (.ref _), some (vi _)]) (dT U_X10_batchIsTrue 8 rfl) (by decide) rfl ?_
      have L : ∀ (n a : Nat), a + n = 8 → X G m_X10_batchIsTrue (d + 2) rc rs ex 13 [some (.ref 3), some (.ref (22 + 4 * i)), some (.ref (22 + 4 * j)), some (vi (a : Int))] [] h Q := by
        intro n
        induction n with
        | zero =>
          intro a hi 
          refine x_iload_n (dT U_X10_batchIsTrue 9 rfl) rfl ?_
          refine x_bipush (dT U_X10_batchIsTrue 10 rfl) (by decide) ?_
          refine x_icmp_ge (tgt := 68) (dT U_X10_batchIsTrue 11 rfl) (by decide) (by unfold xr at *; omega) (by unfold xr at *; omega) (fun c16 => ?_) (fun c16 => ?_)
          · skip
            refine x_iconst (dT U_X10_batchIsTrue 39 rfl) ?_
            refine x_zreturn (dT U_X10_batchIsTrue 40 rfl) rfl (by omega) ?_
            exact k
          · exfalso; omega
        | succ n ih =>
          intro a hi 
          have mb9 := l68.2 a
          have nb9 := l69.2 a
          refine x_iload_n (dT U_X10_batchIsTrue 9 rfl) rfl ?_
          refine x_bipush (dT U_X10_batchIsTrue 10 rfl) (by decide) ?_
          refine x_icmp_ge (tgt := 68) (dT U_X10_batchIsTrue 11 rfl) (by decide) (by unfold xr at *; omega) (by unfold xr at *; omega) (fun c16 => ?_) (fun c16 => ?_)
          · exfalso; omega
          · skip
            refine x_aload_n (dT U_X10_batchIsTrue 12 rfl) rfl ?_
            refine x_getfield F_X10_96 (dT U_X10_batchIsTrue 13 rfl) w.c3 (Nat.le_of_ble_eq_true rfl) rfl ?_
            refine x_iload_n (dT U_X10_batchIsTrue 14 rfl) rfl ?_
            refine x_iaload (a) (dT U_X10_batchIsTrue 15 rfl) h68 (Nat.le_of_ble_eq_true rfl) rfl (by rw [l68.1]; omega) (by rw [l68.1]; omega) ?_
            refine x_if_ne (tgt := 37) (dT U_X10_batchIsTrue 16 rfl) (by decide) (by unfold xr; omega) (fun c25 => ?_) (fun c25 => ?_)
            · skip
              refine x_aload_n (dT U_X10_batchIsTrue 22 rfl) rfl ?_
              refine x_getfield F_X10_10 (dT U_X10_batchIsTrue 23 rfl) w.c3 (Nat.le_of_ble_eq_true rfl) rfl ?_
              refine x_aload_n (dT U_X10_batchIsTrue 24 rfl) rfl ?_
              refine x_getfield F_X10_96 (dT U_X10_batchIsTrue 25 rfl) w.c3 (Nat.le_of_ble_eq_true rfl) rfl ?_
              refine x_iload_n (dT U_X10_batchIsTrue 26 rfl) rfl ?_
              refine x_iaload (a) (dT U_X10_batchIsTrue 27 rfl) h68 (Nat.le_of_ble_eq_true rfl) rfl (by rw [l68.1]; omega) (by rw [l68.1]; omega) ?_
              refine x_aload_n (dT U_X10_batchIsTrue 28 rfl) rfl ?_
              refine x_getfield F_X10_100 (dT U_X10_batchIsTrue 29 rfl) w.c3 (Nat.le_of_ble_eq_true rfl) rfl ?_
              refine x_iload_n (dT U_X10_batchIsTrue 30 rfl) rfl ?_
              refine x_iaload (a) (dT U_X10_batchIsTrue 31 rfl) h69 (Nat.le_of_ble_eq_true rfl) rfl (by rw [l69.1]; omega) (by rw [l69.1]; omega) ?_
              refine x_invokevirtual (rc' := rc) (rs' := rs) (rc2 := 0) (rs2 := 0) (As := [_, _]) (st := _) M_X1_rootsOf K_X10_391 (dT U_X10_batchIsTrue 32 rfl) rfl rfl (by decide) rfl rfl w.gw.1 (Nat.le_of_ble_eq_true rfl) (by decide) rfl (Nat.le_of_ble_eq_true rfl) rfl (by decide) (Nat.le_of_ble_eq_true rfl) rfl rfl ?_
              have r1 := root1 v.p mb9 nb9 (by omega)
              refine S_X1_rootsOf w.gw.1 hp mb9 nb9 ?_
              refine xRet_some ?_
              refine x_iconst (dT U_X10_batchIsTrue 33 rfl) ?_
              refine x_icmp_le (tgt := 62) (dT U_X10_batchIsTrue 34 rfl) (by decide) (by unfold xr; omega) (by unfold xr; omega) (fun c57 => ?_) (fun c57 => ?_)
              · skip
                refine x_iinc (ls' := [some (.ref _), some (.ref _), some (.ref _), some (vi _)]) (dT U_X10_batchIsTrue 37 rfl) (by decide) rfl rfl ?_
                refine x_goto (tgt := 13) (dT U_X10_batchIsTrue 38 rfl) (by decide) ?_
                exact ih (a + 1) (by omega)
              · exfalso; omega
            · skip
              refine x_aload_n (dT U_X10_batchIsTrue 17 rfl) rfl ?_
              refine x_getfield F_X10_100 (dT U_X10_batchIsTrue 18 rfl) w.c3 (Nat.le_of_ble_eq_true rfl) rfl ?_
              refine x_iload_n (dT U_X10_batchIsTrue 19 rfl) rfl ?_
              refine x_iaload (a) (dT U_X10_batchIsTrue 20 rfl) h69 (Nat.le_of_ble_eq_true rfl) rfl (by rw [l69.1]; omega) (by rw [l69.1]; omega) ?_
              refine x_if_eq (tgt := 62) (dT U_X10_batchIsTrue 21 rfl) (by decide) (by unfold xr; omega) (fun c34 => ?_) (fun c34 => ?_)
              · skip
                refine x_iinc (ls' := [some (.ref _), some (.ref _), some (.ref _), some (vi _)]) (dT U_X10_batchIsTrue 37 rfl) (by decide) rfl rfl ?_
                refine x_goto (tgt := 13) (dT U_X10_batchIsTrue 38 rfl) (by decide) ?_
                exact ih (a + 1) (by omega)
              · skip
                refine x_aload_n (dT U_X10_batchIsTrue 22 rfl) rfl ?_
                refine x_getfield F_X10_10 (dT U_X10_batchIsTrue 23 rfl) w.c3 (Nat.le_of_ble_eq_true rfl) rfl ?_
                refine x_aload_n (dT U_X10_batchIsTrue 24 rfl) rfl ?_
                refine x_getfield F_X10_96 (dT U_X10_batchIsTrue 25 rfl) w.c3 (Nat.le_of_ble_eq_true rfl) rfl ?_
                refine x_iload_n (dT U_X10_batchIsTrue 26 rfl) rfl ?_
                refine x_iaload (a) (dT U_X10_batchIsTrue 27 rfl) h68 (Nat.le_of_ble_eq_true rfl) rfl (by rw [l68.1]; omega) (by rw [l68.1]; omega) ?_
                refine x_aload_n (dT U_X10_batchIsTrue 28 rfl) rfl ?_
                refine x_getfield F_X10_100 (dT U_X10_batchIsTrue 29 rfl) w.c3 (Nat.le_of_ble_eq_true rfl) rfl ?_
                refine x_iload_n (dT U_X10_batchIsTrue 30 rfl) rfl ?_
                refine x_iaload (a) (dT U_X10_batchIsTrue 31 rfl) h69 (Nat.le_of_ble_eq_true rfl) rfl (by rw [l69.1]; omega) (by rw [l69.1]; omega) ?_
                refine x_invokevirtual (rc' := rc) (rs' := rs) (rc2 := 0) (rs2 := 0) (As := [_, _]) (st := _) M_X1_rootsOf K_X10_391 (dT U_X10_batchIsTrue 32 rfl) rfl rfl (by decide) rfl rfl w.gw.1 (Nat.le_of_ble_eq_true rfl) (by decide) rfl (Nat.le_of_ble_eq_true rfl) rfl (by decide) (Nat.le_of_ble_eq_true rfl) rfl rfl ?_
                have r1 := root1 v.p mb9 nb9 (by omega)
                refine S_X1_rootsOf w.gw.1 hp mb9 nb9 ?_
                refine xRet_some ?_
                refine x_iconst (dT U_X10_batchIsTrue 33 rfl) ?_
                refine x_icmp_le (tgt := 62) (dT U_X10_batchIsTrue 34 rfl) (by decide) (by unfold xr; omega) (by unfold xr; omega) (fun c57 => ?_) (fun c57 => ?_)
                · skip
                  refine x_iinc (ls' := [some (.ref _), some (.ref _), some (.ref _), some (vi _)]) (dT U_X10_batchIsTrue 37 rfl) (by decide) rfl rfl ?_
                  refine x_goto (tgt := 13) (dT U_X10_batchIsTrue 38 rfl) (by decide) ?_
                  exact ih (a + 1) (by omega)
                · exfalso; omega
      exact L 8 0 (by omega)
    · exfalso; omega
  · refine xRet_some ?_
    refine x_if_ne (tgt := 11) (dT U_X10_batchIsTrue 4 rfl) (by decide) (by unfold xr at *; omega) (fun c6 => ?_) (fun c6 => ?_)
    · exfalso; omega
    · skip
      refine x_iconst (dT U_X10_batchIsTrue 5 rfl) ?_
      refine x_zreturn (dT U_X10_batchIsTrue 6 rfl) rfl (by omega) ?_
      exact k

set_option maxRecDepth 20000 in
set_option maxHeartbeats 1000000 in
theorem S_X10_fold1 {G : xG} {d rc rs a i j : Nat} {ex : Bool} {h : xH} {Q : xQ} {σ : St} {ml nl : List Int} (w : CW σ h) (v : INV σ) (hi4 : i < 4) (hj4 : j < 4) (h68 : h[68]? = some (cA 0 ml)) (l68 : Fl (σ.p : Int) ml) (h69 : h[69]? = some (cA 0 nl)) (l69 : Fl (σ.p : Int) nl) (ha : a < 8)
    (M : X G m_X10_foldIsTrue (d + 2) rc rs ex 80 [some (.ref 3), some (.ref (22 + 4 * i)), some (.ref (22 + 4 * j)), some (vi (a : Int)), some (vi 8)] [] h Q) : X G m_X10_foldIsTrue (d + 2) rc rs ex 22 [some (.ref 3), some (.ref (22 + 4 * i)), some (.ref (22 + 4 * j)), some (vi (a : Int)), some (vi 0)] [] h Q := by
  have hp := PRb v.p
  have mb9 := l68.2 a
  have L : ∀ (n b : Nat), b + n = 8 → X G m_X10_foldIsTrue (d + 2) rc rs ex 22 [some (.ref 3), some (.ref (22 + 4 * i)), some (.ref (22 + 4 * j)), some (vi (a : Int)), some (vi (b : Int))] [] h Q := by
    intro n
    induction n with
    | zero =>
      intro b hi 
      refine x_iload (dT U_X10_foldIsTrue 14 rfl) rfl ?_
      refine x_bipush (dT U_X10_foldIsTrue 15 rfl) (by decide) ?_
      refine x_icmp_ge (tgt := 80) (dT U_X10_foldIsTrue 16 rfl) (by decide) (by unfold xr at *; omega) (by unfold xr at *; omega) (fun c26 => ?_) (fun c26 => ?_)
      · skip
        have e : b = 8 := by omega
        subst e
        exact M
      · exfalso; omega
    | succ n ih =>
      intro b hi 
      have nb9 := l69.2 b
      refine x_iload (dT U_X10_foldIsTrue 14 rfl) rfl ?_
      refine x_bipush (dT U_X10_foldIsTrue 15 rfl) (by decide) ?_
      refine x_icmp_ge (tgt := 80) (dT U_X10_foldIsTrue 16 rfl) (by decide) (by unfold xr at *; omega) (by unfold xr at *; omega) (fun c26 => ?_) (fun c26 => ?_)
      · exfalso; omega
      · skip
        refine x_aload_n (dT U_X10_foldIsTrue 17 rfl) rfl ?_
        refine x_getfield F_X10_96 (dT U_X10_foldIsTrue 18 rfl) w.c3 (Nat.le_of_ble_eq_true rfl) rfl ?_
        refine x_iload_n (dT U_X10_foldIsTrue 19 rfl) rfl ?_
        refine x_iaload (a) (dT U_X10_foldIsTrue 20 rfl) h68 (Nat.le_of_ble_eq_true rfl) rfl (by rw [l68.1]; omega) (by rw [l68.1]; omega) ?_
        refine x_if_ne (tgt := 48) (dT U_X10_foldIsTrue 21 rfl) (by decide) (by unfold xr; omega) (fun c35 => ?_) (fun c35 => ?_)
        · skip
          refine x_aload_n (dT U_X10_foldIsTrue 27 rfl) rfl ?_
          refine x_getfield F_X10_10 (dT U_X10_foldIsTrue 28 rfl) w.c3 (Nat.le_of_ble_eq_true rfl) rfl ?_
          refine x_aload_n (dT U_X10_foldIsTrue 29 rfl) rfl ?_
          refine x_getfield F_X10_96 (dT U_X10_foldIsTrue 30 rfl) w.c3 (Nat.le_of_ble_eq_true rfl) rfl ?_
          refine x_iload_n (dT U_X10_foldIsTrue 31 rfl) rfl ?_
          refine x_iaload (a) (dT U_X10_foldIsTrue 32 rfl) h68 (Nat.le_of_ble_eq_true rfl) rfl (by rw [l68.1]; omega) (by rw [l68.1]; omega) ?_
          refine x_aload_n (dT U_X10_foldIsTrue 33 rfl) rfl ?_
          refine x_getfield F_X10_100 (dT U_X10_foldIsTrue 34 rfl) w.c3 (Nat.le_of_ble_eq_true rfl) rfl ?_
          refine x_iload (dT U_X10_foldIsTrue 35 rfl) rfl ?_
          refine x_iaload (b) (dT U_X10_foldIsTrue 36 rfl) h69 (Nat.le_of_ble_eq_true rfl) rfl (by rw [l69.1]; omega) (by rw [l69.1]; omega) ?_
          refine x_invokevirtual (rc' := rc) (rs' := rs) (rc2 := 0) (rs2 := 0) (As := [_, _]) (st := _) M_X1_rootsOf K_X10_391 (dT U_X10_foldIsTrue 37 rfl) rfl rfl (by decide) rfl rfl w.gw.1 (Nat.le_of_ble_eq_true rfl) (by decide) rfl (Nat.le_of_ble_eq_true rfl) rfl (by decide) (Nat.le_of_ble_eq_true rfl) rfl rfl ?_
          have r1 := root1 v.p mb9 nb9 (by omega)
          refine S_X1_rootsOf w.gw.1 hp mb9 nb9 ?_
          refine xRet_some ?_
          refine x_iconst (dT U_X10_foldIsTrue 38 rfl) ?_
          refine x_icmp_le (tgt := 74) (dT U_X10_foldIsTrue 39 rfl) (by decide) (by unfold xr; omega) (by unfold xr; omega) (fun c69 => ?_) (fun c69 => ?_)
          · skip
            refine x_iinc (ls' := [some (.ref _), some (.ref _), some (.ref _), some (vi _), some (vi _)]) (dT U_X10_foldIsTrue 42 rfl) (by decide) rfl rfl ?_
            refine x_goto (tgt := 22) (dT U_X10_foldIsTrue 43 rfl) (by decide) ?_
            exact ih (b + 1) (by omega)
          · exfalso; omega
        · skip
          refine x_aload_n (dT U_X10_foldIsTrue 22 rfl) rfl ?_
          refine x_getfield F_X10_100 (dT U_X10_foldIsTrue 23 rfl) w.c3 (Nat.le_of_ble_eq_true rfl) rfl ?_
          refine x_iload (dT U_X10_foldIsTrue 24 rfl) rfl ?_
          refine x_iaload (b) (dT U_X10_foldIsTrue 25 rfl) h69 (Nat.le_of_ble_eq_true rfl) rfl (by rw [l69.1]; omega) (by rw [l69.1]; omega) ?_
          refine x_if_eq (tgt := 74) (dT U_X10_foldIsTrue 26 rfl) (by decide) (by unfold xr; omega) (fun c45 => ?_) (fun c45 => ?_)
          · skip
            refine x_iinc (ls' := [some (.ref _), some (.ref _), some (.ref _), some (vi _), some (vi _)]) (dT U_X10_foldIsTrue 42 rfl) (by decide) rfl rfl ?_
            refine x_goto (tgt := 22) (dT U_X10_foldIsTrue 43 rfl) (by decide) ?_
            exact ih (b + 1) (by omega)
          · skip
            refine x_aload_n (dT U_X10_foldIsTrue 27 rfl) rfl ?_
            refine x_getfield F_X10_10 (dT U_X10_foldIsTrue 28 rfl) w.c3 (Nat.le_of_ble_eq_true rfl) rfl ?_
            refine x_aload_n (dT U_X10_foldIsTrue 29 rfl) rfl ?_
            refine x_getfield F_X10_96 (dT U_X10_foldIsTrue 30 rfl) w.c3 (Nat.le_of_ble_eq_true rfl) rfl ?_
            refine x_iload_n (dT U_X10_foldIsTrue 31 rfl) rfl ?_
            refine x_iaload (a) (dT U_X10_foldIsTrue 32 rfl) h68 (Nat.le_of_ble_eq_true rfl) rfl (by rw [l68.1]; omega) (by rw [l68.1]; omega) ?_
            refine x_aload_n (dT U_X10_foldIsTrue 33 rfl) rfl ?_
            refine x_getfield F_X10_100 (dT U_X10_foldIsTrue 34 rfl) w.c3 (Nat.le_of_ble_eq_true rfl) rfl ?_
            refine x_iload (dT U_X10_foldIsTrue 35 rfl) rfl ?_
            refine x_iaload (b) (dT U_X10_foldIsTrue 36 rfl) h69 (Nat.le_of_ble_eq_true rfl) rfl (by rw [l69.1]; omega) (by rw [l69.1]; omega) ?_
            refine x_invokevirtual (rc' := rc) (rs' := rs) (rc2 := 0) (rs2 := 0) (As := [_, _]) (st := _) M_X1_rootsOf K_X10_391 (dT U_X10_foldIsTrue 37 rfl) rfl rfl (by decide) rfl rfl w.gw.1 (Nat.le_of_ble_eq_true rfl) (by decide) rfl (Nat.le_of_ble_eq_true rfl) rfl (by decide) (Nat.le_of_ble_eq_true rfl) rfl rfl ?_
            have r1 := root1 v.p mb9 nb9 (by omega)
            refine S_X1_rootsOf w.gw.1 hp mb9 nb9 ?_
            refine xRet_some ?_
            refine x_iconst (dT U_X10_foldIsTrue 38 rfl) ?_
            refine x_icmp_le (tgt := 74) (dT U_X10_foldIsTrue 39 rfl) (by decide) (by unfold xr; omega) (by unfold xr; omega) (fun c69 => ?_) (fun c69 => ?_)
            · skip
              refine x_iinc (ls' := [some (.ref _), some (.ref _), some (.ref _), some (vi _), some (vi _)]) (dT U_X10_foldIsTrue 42 rfl) (by decide) rfl rfl ?_
              refine x_goto (tgt := 22) (dT U_X10_foldIsTrue 43 rfl) (by decide) ?_
              exact ih (b + 1) (by omega)
            · exfalso; omega
  exact L 8 0 (by omega)

set_option maxRecDepth 20000 in
set_option maxHeartbeats 1000000 in
theorem S_X10_foldIsTrue {G : xG} {d rc rs : Nat} {ex : Bool} {h : xH} {Q : xQ} {σ : St} {i j : Nat} {ml nl : List Int} (w : CW σ h) (v : INV σ) (hi4 : i < 4) (hj4 : j < 4) (h68 : h[68]? = some (cA 0 ml)) (l68 : Fl (σ.p : Int) ml) (h69 : h[69]? = some (cA 0 nl)) (l69 : Fl (σ.p : Int) nl) (k : Q (.inl (some (vi 1))) ex h) : X G m_X10_foldIsTrue (d + 2) rc rs ex 0 (xe m_X10_foldIsTrue.2.2.1 [.ref 3, .ref (22 + 4 * i), .ref (22 + 4 * j)]) [] h Q := by
  show X G m_X10_foldIsTrue _ _ _ _ 0 [some (.ref 3), some (.ref (22 + 4 * i)), some (.ref (22 + 4 * j)), none, none] [] h Q
  have hp := PRb v.p
  have hq := gq_b v.p
  refine x_aload_n (dT U_X10_foldIsTrue 0 rfl) rfl ?_
  refine x_aload_n (dT U_X10_foldIsTrue 1 rfl) rfl ?_
  refine x_iconst (dT U_X10_foldIsTrue 2 rfl) ?_
  refine x_invokevirtual (rc' := rc) (rs' := rs) (rc2 := 0) (rs2 := 0) (As := [_, _]) (st := _) M_X7_isJoinable K_X10_580 (dT U_X10_foldIsTrue 3 rfl) rfl rfl (by decide) rfl rfl (show _ = some (cO 7 [.ref 5, .ref 4, .ref (22 + 4 * i + 1), .ref (22 + 4 * i + 2), .ref (22 + 4 * i + 3), vi ((σ.R i).y σ.p), vi (σ.R i).vv, vi ((σ.R i).a σ.p), vi (σ.R i).ww, vi (σ.R i).cc, vi (σ.R i).tt, vi (σ.R i).mm, vi (σ.R i).rr]) from (w.runs i hi4).2.1) (by omega) (by decide) rfl (Nat.le_of_ble_eq_true rfl) rfl (by decide) (Nat.le_of_ble_eq_true rfl) rfl rfl ?_
  refine S_X7_isJoinable v.p (w.runs i hi4) (v.R i hi4).1 (w.runs j hj4) (v.R j hj4).1 w.gw (Or.inl rfl) (fun q1 => ?_) (fun q0 => ?_)
  · refine xRet_some ?_
    refine x_if_ne (tgt := 11) (dT U_X10_foldIsTrue 4 rfl) (by decide) (by unfold xr at *; omega) (fun c6 => ?_) (fun c6 => ?_)
    · skip
      refine x_iconst (dT U_X10_foldIsTrue 7 rfl) ?_
      refine x_istore_n (ls' := [some (.ref _), some (.ref _), some (.ref _), some (vi _), none]) (dT U_X10_foldIsTrue 8 rfl) (by decide) rfl ?_
      have L : ∀ (n a : Nat), a + n = 8 → X G m_X10_foldIsTrue (d + 2) rc rs ex 13 [some (.ref 3), some (.ref (22 + 4 * i)), some (.ref (22 + 4 * j)), some (vi (a : Int)), none] [] h Q := by
        intro n
        induction n with
        | zero =>
          intro a hi 
          refine x_iload_n (dT U_X10_foldIsTrue 9 rfl) rfl ?_
          refine x_bipush (dT U_X10_foldIsTrue 10 rfl) (by decide) ?_
          refine x_icmp_ge (tgt := 86) (dT U_X10_foldIsTrue 11 rfl) (by decide) (by unfold xr at *; omega) (by unfold xr at *; omega) (fun c16 => ?_) (fun c16 => ?_)
          · skip
            refine x_iconst (dT U_X10_foldIsTrue 46 rfl) ?_
            refine x_zreturn (dT U_X10_foldIsTrue 47 rfl) rfl (by omega) ?_
            exact k
          · exfalso; omega
        | succ n ih =>
          intro a hi 
          refine x_iload_n (dT U_X10_foldIsTrue 9 rfl) rfl ?_
          refine x_bipush (dT U_X10_foldIsTrue 10 rfl) (by decide) ?_
          refine x_icmp_ge (tgt := 86) (dT U_X10_foldIsTrue 11 rfl) (by decide) (by unfold xr at *; omega) (by unfold xr at *; omega) (fun c16 => ?_) (fun c16 => ?_)
          · exfalso; omega
          · skip
            refine x_iconst (dT U_X10_foldIsTrue 12 rfl) ?_
            refine x_istore (ls' := [some (.ref _), some (.ref _), some (.ref _), some (vi _), some (vi _)]) (dT U_X10_foldIsTrue 13 rfl) (by decide) rfl ?_
            refine S_X10_fold1 w v hi4 hj4 h68 l68 h69 l69 (by omega) ?_
            refine x_iinc (ls' := [some (.ref _), some (.ref _), some (.ref _), some (vi _), some (vi _)]) (dT U_X10_foldIsTrue 44 rfl) (by decide) rfl rfl ?_
            refine x_goto (tgt := 13) (dT U_X10_foldIsTrue 45 rfl) (by decide) ?_
            refine x_drop ?_ (ih (a + 1) (by omega))
            repeat (first | exact trivial | refine ⟨rfl, ?_⟩ | refine ⟨trivial, ?_⟩)
      exact L 8 0 (by omega)
    · exfalso; omega
  · refine xRet_some ?_
    refine x_if_ne (tgt := 11) (dT U_X10_foldIsTrue 4 rfl) (by decide) (by unfold xr at *; omega) (fun c6 => ?_) (fun c6 => ?_)
    · exfalso; omega
    · skip
      refine x_iconst (dT U_X10_foldIsTrue 5 rfl) ?_
      refine x_zreturn (dT U_X10_foldIsTrue 6 rfl) rfl (by omega) ?_
      exact k
