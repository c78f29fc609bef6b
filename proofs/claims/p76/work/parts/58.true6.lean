set_option maxRecDepth 20000 in
set_option maxHeartbeats 1000000 in
theorem S_X10_trees1 {G : xG} {d rc rs a : Nat} {ex : Bool} {h : xH} {Q : xQ} {σ : St} {sl0 : List Int} (w : CW σ h) (v : INV σ) (ha : a < 8) (h57 : h[57]? = some (cA 0 sl0)) (ls : sl0.length = 16) (vs : ∀ j, 1 ≤ j → j < 16 → sl0.getD j 0 = gs (gf (σ.rw a)) j)
    (M : ∀ h1, FC h h1 → CW σ h1 → h1[57]? = some (cA 0 sl0) → X G m_X10_treesAreTrue (d + 4) rc rs ex 72 [some (.ref 3), some (vi (a : Int)), some (vi ((8 : Nat) : Int))] [] h1 Q) : X G m_X10_treesAreTrue (d + 4) rc rs ex 23 [some (.ref 3), some (vi (a : Int)), some (vi 0)] [] h Q := by
  have hp := PRb v.p
  have L : ∀ (n t : Nat), t + n = 8 → ∀ h1 : xH, FC h h1 → CW σ h1 → h1[57]? = some (cA 0 sl0) → X G m_X10_treesAreTrue (d + 4) rc rs ex 23 [some (.ref 3), some (vi (a : Int)), some (vi (t : Int))] [] h1 Q := by
    intro n
    induction n with
    | zero =>
      intro t hi h1 g1 w1 q57
      refine x_iload_n (dT U_X10_treesAreTrue 14 rfl) rfl ?_
      refine x_bipush (dT U_X10_treesAreTrue 15 rfl) (by decide) ?_
      refine x_icmp_ge (tgt := 72) (dT U_X10_treesAreTrue 16 rfl) (by decide) (by unfold xr at *; omega) (by unfold xr at *; omega) (fun c26 => ?_) (fun c26 => ?_)
      · skip
        have e : t = 8 := by omega
        subst e
        exact M h1 g1 w1 q57
      · exfalso; omega
    | succ n ih =>
      intro t hi h1 g1 w1 q57
      refine x_iload_n (dT U_X10_treesAreTrue 14 rfl) rfl ?_
      refine x_bipush (dT U_X10_treesAreTrue 15 rfl) (by decide) ?_
      refine x_icmp_ge (tgt := 72) (dT U_X10_treesAreTrue 16 rfl) (by decide) (by unfold xr at *; omega) (by unfold xr at *; omega) (fun c26 => ?_) (fun c26 => ?_)
      · exfalso; omega
      · skip
        refine x_aload_n (dT U_X10_treesAreTrue 17 rfl) rfl ?_
        refine x_getfield F_X10_79 (dT U_X10_treesAreTrue 18 rfl) w1.c3 (Nat.le_of_ble_eq_true rfl) rfl ?_
        refine x_aload_n (dT U_X10_treesAreTrue 19 rfl) rfl ?_
        refine x_getfield F_X10_89 (dT U_X10_treesAreTrue 20 rfl) w1.c3 (Nat.le_of_ble_eq_true rfl) rfl ?_
        refine x_aload_n (dT U_X10_treesAreTrue 21 rfl) rfl ?_
        refine x_getfield F_X10_27 (dT U_X10_treesAreTrue 22 rfl) w1.c3 (Nat.le_of_ble_eq_true rfl) rfl ?_
        refine x_iload_n (dT U_X10_treesAreTrue 23 rfl) rfl ?_
        refine x_aaload (a) (dT U_X10_treesAreTrue 24 rfl) w1.c9 (Nat.le_of_ble_eq_true rfl) (by decide) rfl (rowsL_get (by omega)) (Nat.le_of_ble_eq_true rfl) ?_
        refine x_iload_n (dT U_X10_treesAreTrue 25 rfl) rfl ?_
        refine x_invokevirtual (rc' := rc) (rs' := rs) (rc2 := 0) (rs2 := 0) (As := [_, _, _]) (st := _) M_X8_lead K_X10_584 (dT U_X10_treesAreTrue 26 rfl) rfl rfl (by decide) rfl rfl w1.c56 (Nat.le_of_ble_eq_true rfl) (by decide) rfl (Nat.le_of_ble_eq_true rfl) rfl (by decide) (Nat.le_of_ble_eq_true rfl) rfl rfl ?_
        obtain ⟨s61l, hs61, ls61⟩ := w1.s61
        obtain ⟨s62l, hs62, ls62⟩ := w1.s62
        obtain ⟨s63l, hs63, ls63⟩ := w1.s63
        have ht8 : t < 8 := by omega
        have la := v.rw a ha
        refine S_X8_lead (p := (σ.p : Int)) w1.c56 (by omega) q57 ls vs (gs_b _) w1.c60 (by omega) hs61 hs62 hs63 ls61 ls62 ls63 (w1.rows a ha) (by omega) la (by omega) ht8 ?_
        refine xRet_none ?_
        have cwn : CW σ (wst h1 60 t ((σ.rw a).getD t 0) (gs (gf (σ.rw a)) (bsd t 0)) (gs (gf (σ.rw a)) (bsd t 1)) (gs (gf (σ.rw a)) (bsd t 2))) := w1.way60 ((((Ag.rf 61 63 h1).set (by omega)).set (by omega)).set (by omega)) (hset_ne (by omega) (hset_ne (by omega) (hset_eq hs61))) (tab_len _ _) (hset_ne (by omega) (hset_eq (hset_ne (by omega) hs62))) (tab_len _ _) (hset_eq (hset_ne (by omega) (hset_ne (by omega) hs63))) (tab_len _ _)
        have et : ws t ((σ.rw a).getD t 0) (gs (gf (σ.rw a)) (bsd t 0)) (gs (gf (σ.rw a)) (bsd t 1)) (gs (gf (σ.rw a)) (bsd t 2)) 3 = gs (gf (σ.rw a)) 1 := way_top0 (r := gf (σ.rw a)) ht8
        have tb := gs_b (gf (σ.rw a)) 1
        refine x_aload_n (dT U_X10_treesAreTrue 27 rfl) rfl ?_
        refine x_getfield F_X10_89 (dT U_X10_treesAreTrue 28 rfl) (hset_ne (by omega) (hset_ne (by omega) (hset_ne (by omega) (w1.c3)))) (Nat.le_of_ble_eq_true rfl) rfl ?_
        refine x_invokevirtual (rc' := rc) (rs' := rs) (rc2 := 0) (rs2 := 0) (As := []) (st := _) M_X9_top K_X10_271 (dT U_X10_treesAreTrue 29 rfl) rfl rfl (by decide) rfl rfl (hset_ne (by omega) (hset_ne (by omega) (hset_ne (by omega) (w1.c60)))) (Nat.le_of_ble_eq_true rfl) (by decide) rfl (Nat.le_of_ble_eq_true rfl) rfl (by decide) (Nat.le_of_ble_eq_true rfl) rfl rfl ?_
        refine S_X9_top (hset_ne (by omega) (hset_ne (by omega) (hset_ne (by omega) (w1.c60)))) (by omega) (hset_eq (hset_ne (by omega) (hset_ne (by omega) hs63))) (tab_len _ _) ?_
        rw [tab_get _ (by omega), et]
        refine xRet_some ?_
        refine x_aload_n (dT U_X10_treesAreTrue 30 rfl) rfl ?_
        refine x_getfield F_X10_79 (dT U_X10_treesAreTrue 31 rfl) (hset_ne (by omega) (hset_ne (by omega) (hset_ne (by omega) (w1.c3)))) (Nat.le_of_ble_eq_true rfl) rfl ?_
        refine x_invokevirtual (rc' := rc) (rs' := rs) (rc2 := 0) (rs2 := 0) (As := []) (st := _) M_X8_top K_X10_251 (dT U_X10_treesAreTrue 32 rfl) rfl rfl (by decide) rfl rfl (hset_ne (by omega) (hset_ne (by omega) (hset_ne (by omega) (w1.c56)))) (Nat.le_of_ble_eq_true rfl) (by decide) rfl (Nat.le_of_ble_eq_true rfl) rfl (by decide) (Nat.le_of_ble_eq_true rfl) rfl rfl ?_
        refine S_X8_top (hset_ne (by omega) (hset_ne (by omega) (hset_ne (by omega) (w1.c56)))) (by omega) (hset_ne (by omega) (hset_ne (by omega) (hset_ne (by omega) (q57)))) ls vs ?_
        refine xRet_some ?_
        refine x_icmp_eq (tgt := 66) (dT U_X10_treesAreTrue 33 rfl) (by decide) (by unfold xr; omega) (by unfold xr; omega) (fun c61 => ?_) (fun c61 => ?_)
        · skip
          refine x_iinc (ls' := [some (.ref _), some (vi _), some (vi _)]) (dT U_X10_treesAreTrue 36 rfl) (by decide) rfl rfl ?_
          refine x_goto (tgt := 23) (dT U_X10_treesAreTrue 37 rfl) (by decide) ?_
          exact ih (t + 1) (by omega) _ ((Ag.tr g1 (show Ag 3 69 h1 _ from ((((Ag.rf 3 69 h1).set (by omega)).set (by omega)).set (by omega)))).w (by omega)) cwn (hset_ne (by omega) (hset_ne (by omega) (hset_ne (by omega) (q57))))
        · exfalso; omega
  exact L 8 0 (by omega) h (Ag.rf 3 69 h) w h57

set_option maxRecDepth 20000 in
set_option maxHeartbeats 1000000 in
theorem S_X10_trees2 {G : xG} {d rc rs a : Nat} {ex : Bool} {h : xH} {Q : xQ} {σ : St} {sl0 : List Int} (w : CW σ h) (v : INV σ) (ha : a < 8) (h57 : h[57]? = some (cA 0 sl0)) (ls : sl0.length = 16) (vs : ∀ j, 1 ≤ j → j < 16 → sl0.getD j 0 = gs (gf (σ.rw a)) j)
    (M : ∀ h1, FC h h1 → CW σ h1 → X G m_X10_treesAreTrue (d + 4) rc rs ex 124 [some (.ref 3), some (vi (a : Int)), some (vi (a : Int))] [] h1 Q) : X G m_X10_treesAreTrue (d + 4) rc rs ex 74 [some (.ref 3), some (vi (a : Int)), some (vi 0)] [] h Q := by
  have hp := PRb v.p
  have L : ∀ (n b : Nat), b + n = a → ∀ h1 : xH, FC h h1 → CW σ h1 → h1[57]? = some (cA 0 sl0) → X G m_X10_treesAreTrue (d + 4) rc rs ex 74 [some (.ref 3), some (vi (a : Int)), some (vi (b : Int))] [] h1 Q := by
    intro n
    induction n with
    | zero =>
      intro b hi h1 g1 w1 q57
      refine x_iload_n (dT U_X10_treesAreTrue 40 rfl) rfl ?_
      refine x_iload_n (dT U_X10_treesAreTrue 41 rfl) rfl ?_
      refine x_icmp_ge (tgt := 124) (dT U_X10_treesAreTrue 42 rfl) (by decide) (by unfold xr at *; omega) (by unfold xr at *; omega) (fun c76 => ?_) (fun c76 => ?_)
      · skip
        have e : b = a := by omega
        subst e
        exact M h1 g1 w1
      · exfalso; omega
    | succ n ih =>
      intro b hi h1 g1 w1 q57
      refine x_iload_n (dT U_X10_treesAreTrue 40 rfl) rfl ?_
      refine x_iload_n (dT U_X10_treesAreTrue 41 rfl) rfl ?_
      refine x_icmp_ge (tgt := 124) (dT U_X10_treesAreTrue 42 rfl) (by decide) (by unfold xr at *; omega) (by unfold xr at *; omega) (fun c76 => ?_) (fun c76 => ?_)
      · exfalso; omega
      · skip
        refine x_aload_n (dT U_X10_treesAreTrue 43 rfl) rfl ?_
        refine x_getfield F_X10_27 (dT U_X10_treesAreTrue 44 rfl) w1.c3 (Nat.le_of_ble_eq_true rfl) rfl ?_
        refine x_iload_n (dT U_X10_treesAreTrue 45 rfl) rfl ?_
        refine x_aaload (a) (dT U_X10_treesAreTrue 46 rfl) w1.c9 (Nat.le_of_ble_eq_true rfl) (by decide) rfl (rowsL_get (by omega)) (Nat.le_of_ble_eq_true rfl) ?_
        refine x_aload_n (dT U_X10_treesAreTrue 47 rfl) rfl ?_
        refine x_getfield F_X10_27 (dT U_X10_treesAreTrue 48 rfl) w1.c3 (Nat.le_of_ble_eq_true rfl) rfl ?_
        refine x_iload_n (dT U_X10_treesAreTrue 49 rfl) rfl ?_
        refine x_aaload (b) (dT U_X10_treesAreTrue 50 rfl) w1.c9 (Nat.le_of_ble_eq_true rfl) (by decide) rfl (rowsL_get (by omega)) (Nat.le_of_ble_eq_true rfl) ?_
        refine x_invokestatic (rc' := rc) (rs' := rs) (rc2 := 0) (rs2 := 0) (As := [_, _]) (st := _) M_X1_areSame K_X10_588 (dT U_X10_treesAreTrue 51 rfl) rfl rfl rfl rfl (Nat.le_of_ble_eq_true rfl) rfl (by decide) (Nat.le_of_ble_eq_true rfl) rfl rfl ?_
        refine S_X1_areSame (w1.rows a ha) (by omega) (v.rw a ha).1 (w1.rows b (by omega)) (by omega) (v.rw b (by omega)).1 (fun j => by have h7 := (v.rw a ha).2 j; have h8 := (v.rw b (by omega)).2 j; unfold xr; omega) (fun _ => ?_) (fun _ => ?_)
        · refine xRet_some ?_
          refine x_if_ne (tgt := 118) (dT U_X10_treesAreTrue 52 rfl) (by decide) (by unfold xr at *; omega) (fun c94 => ?_) (fun c94 => ?_)
          · skip
            refine x_iinc (ls' := [some (.ref _), some (vi _), some (vi _)]) (dT U_X10_treesAreTrue 66 rfl) (by decide) rfl rfl ?_
            refine x_goto (tgt := 74) (dT U_X10_treesAreTrue 67 rfl) (by decide) ?_
            exact ih (b + 1) (by omega) h1 g1 w1 q57
          · exfalso; omega
        · refine xRet_some ?_
          refine x_if_ne (tgt := 118) (dT U_X10_treesAreTrue 52 rfl) (by decide) (by unfold xr at *; omega) (fun c94 => ?_) (fun c94 => ?_)
          · exfalso; omega
          · skip
            refine x_aload_n (dT U_X10_treesAreTrue 53 rfl) rfl ?_
            refine x_aload_n (dT U_X10_treesAreTrue 54 rfl) rfl ?_
            refine x_getfield F_X10_27 (dT U_X10_treesAreTrue 55 rfl) w1.c3 (Nat.le_of_ble_eq_true rfl) rfl ?_
            refine x_iload_n (dT U_X10_treesAreTrue 56 rfl) rfl ?_
            refine x_aaload (a) (dT U_X10_treesAreTrue 57 rfl) w1.c9 (Nat.le_of_ble_eq_true rfl) (by decide) rfl (rowsL_get (by omega)) (Nat.le_of_ble_eq_true rfl) ?_
            refine x_aload_n (dT U_X10_treesAreTrue 58 rfl) rfl ?_
            refine x_getfield F_X10_27 (dT U_X10_treesAreTrue 59 rfl) w1.c3 (Nat.le_of_ble_eq_true rfl) rfl ?_
            refine x_iload_n (dT U_X10_treesAreTrue 60 rfl) rfl ?_
            refine x_aaload (b) (dT U_X10_treesAreTrue 61 rfl) w1.c9 (Nat.le_of_ble_eq_true rfl) (by decide) rfl (rowsL_get (by omega)) (Nat.le_of_ble_eq_true rfl) ?_
            refine x_invokevirtual (rc' := rc) (rs' := rs) (rc2 := 0) (rs2 := 0) (As := [_, _]) (st := _) M_X10_waysPart K_X10_591 (dT U_X10_treesAreTrue 62 rfl) rfl rfl (by decide) rfl rfl w1.c3 (Nat.le_of_ble_eq_true rfl) (by decide) rfl (Nat.le_of_ble_eq_true rfl) rfl (by decide) (Nat.le_of_ble_eq_true rfl) rfl rfl ?_
            refine S_X10_waysPart w1 v ha (by omega) q57 ls vs (fun h2 g2 w2 q2 => ?_)
            refine xRet_some ?_
            refine x_if_ne (tgt := 118) (dT U_X10_treesAreTrue 63 rfl) (by decide) (by unfold xr at *; omega) (fun c113 => ?_) (fun c113 => ?_)
            · skip
              refine x_iinc (ls' := [some (.ref _), some (vi _), some (vi _)]) (dT U_X10_treesAreTrue 66 rfl) (by decide) rfl rfl ?_
              refine x_goto (tgt := 74) (dT U_X10_treesAreTrue 67 rfl) (by decide) ?_
              exact ih (b + 1) (by omega) h2 ((Ag.tr g1 g2).w (by omega)) w2 q2
            · exfalso; omega
  exact L a 0 (by omega) h (Ag.rf 3 69 h) w h57

set_option maxRecDepth 20000 in
set_option maxHeartbeats 1000000 in
theorem S_X10_treesAreTrue {G : xG} {d rc rs : Nat} {ex : Bool} {h : xH} {Q : xQ} {σ : St} (w : CW σ h) (v : INV σ) (k : ∀ h2, FC h h2 → CW σ h2 → Q (.inl (some (vi 1))) ex h2) : X G m_X10_treesAreTrue (d + 4) rc rs ex 0 (xe m_X10_treesAreTrue.2.2.1 [.ref 3]) [] h Q := by
  show X G m_X10_treesAreTrue _ _ _ _ 0 [some (.ref 3), none, none] [] h Q
  have hp := PRb v.p
  have hq := gq_b v.p
  have L : ∀ (n a : Nat), a + n = 8 → ∀ h1 : xH, FC h h1 → CW σ h1 → X G m_X10_treesAreTrue (d + 4) rc rs ex 2 [some (.ref 3), some (vi (a : Int)), none] [] h1 Q := by
    intro n
    induction n with
    | zero =>
      intro a hi h1 g1 w1
      refine x_iload_n (dT U_X10_treesAreTrue 2 rfl) rfl ?_
      refine x_bipush (dT U_X10_treesAreTrue 3 rfl) (by decide) ?_
      refine x_icmp_ge (tgt := 130) (dT U_X10_treesAreTrue 4 rfl) (by decide) (by unfold xr at *; omega) (by unfold xr at *; omega) (fun c5 => ?_) (fun c5 => ?_)
      · skip
        refine x_iconst (dT U_X10_treesAreTrue 70 rfl) ?_
        refine x_zreturn (dT U_X10_treesAreTrue 71 rfl) rfl (by omega) ?_
        exact k h1 g1 w1
      · exfalso; omega
    | succ n ih =>
      intro a hi h1 g1 w1
      refine x_iload_n (dT U_X10_treesAreTrue 2 rfl) rfl ?_
      refine x_bipush (dT U_X10_treesAreTrue 3 rfl) (by decide) ?_
      refine x_icmp_ge (tgt := 130) (dT U_X10_treesAreTrue 4 rfl) (by decide) (by unfold xr at *; omega) (by unfold xr at *; omega) (fun c5 => ?_) (fun c5 => ?_)
      · exfalso; omega
      · skip
        refine x_aload_n (dT U_X10_treesAreTrue 5 rfl) rfl ?_
        refine x_getfield F_X10_79 (dT U_X10_treesAreTrue 6 rfl) w1.c3 (Nat.le_of_ble_eq_true rfl) rfl ?_
        refine x_aload_n (dT U_X10_treesAreTrue 7 rfl) rfl ?_
        refine x_getfield F_X10_27 (dT U_X10_treesAreTrue 8 rfl) w1.c3 (Nat.le_of_ble_eq_true rfl) rfl ?_
        refine x_iload_n (dT U_X10_treesAreTrue 9 rfl) rfl ?_
        refine x_aaload (a) (dT U_X10_treesAreTrue 10 rfl) w1.c9 (Nat.le_of_ble_eq_true rfl) (by decide) rfl (rowsL_get (by omega)) (Nat.le_of_ble_eq_true rfl) ?_
        refine x_invokevirtual (rc' := rc) (rs' := rs) (rc2 := 0) (rs2 := 0) (As := [_]) (st := _) M_X8_grow K_X10_248 (dT U_X10_treesAreTrue 11 rfl) rfl rfl (by decide) rfl rfl w1.c56 (Nat.le_of_ble_eq_true rfl) (by decide) rfl (Nat.le_of_ble_eq_true rfl) rfl (by decide) (Nat.le_of_ble_eq_true rfl) rfl rfl ?_
        obtain ⟨s57l, hs57, ls57⟩ := w1.s57
        refine S_X8_grow (p := (σ.p : Int)) w1.c56 (by omega) hs57 ls57 (w1.rows a (by omega)) (by omega) (by omega) (v.rw a (by omega)) (by omega) (fun tl lt tv => ?_)
        refine xRet_none ?_
        have tv2 : ∀ j, 1 ≤ j → j < 16 → tl.getD j 0 = gs (gf (σ.rw a)) j := tv
        have gx : FC h1 (h1.set 57 (cA 0 tl)) := ((Ag.rf 3 69 h1).set (by omega))
        refine x_iconst (dT U_X10_treesAreTrue 12 rfl) ?_
        refine x_istore_n (ls' := [some (.ref _), some (vi _), some (vi _)]) (dT U_X10_treesAreTrue 13 rfl) (by decide) rfl ?_
        refine S_X10_trees1 (w1.t57 ((Ag.rf 57 57 h1).set (by omega)) (hset_eq hs57) lt) v (by omega) (hset_eq hs57) lt tv2 (fun h2 g2 w2 q2 => ?_)
        refine x_iconst (dT U_X10_treesAreTrue 38 rfl) ?_
        refine x_istore_n (ls' := [some (.ref _), some (vi _), some (vi _)]) (dT U_X10_treesAreTrue 39 rfl) (by decide) rfl ?_
        refine S_X10_trees2 w2 v (by omega) q2 lt tv2 (fun h3 g3 w3 => ?_)
        refine x_iinc (ls' := [some (.ref _), some (vi _), some (vi _)]) (dT U_X10_treesAreTrue 68 rfl) (by decide) rfl rfl ?_
        refine x_goto (tgt := 2) (dT U_X10_treesAreTrue 69 rfl) (by decide) ?_
        refine x_drop ?_ (ih (a + 1) (by omega) h3 ((Ag.tr (Ag.tr (Ag.tr g1 gx) g2) g3).w (by omega)) w3)
        repeat (first | exact trivial | refine ⟨rfl, ?_⟩ | refine ⟨trivial, ?_⟩)
  refine x_iconst (dT U_X10_treesAreTrue 0 rfl) ?_
  refine x_istore_n (ls' := [some (.ref _), some (vi _), none]) (dT U_X10_treesAreTrue 1 rfl) (by decide) rfl ?_
  exact L 8 0 (by omega) h (Ag.rf 3 69 h) w

set_option maxRecDepth 20000 in
set_option maxHeartbeats 1000000 in
theorem S_X10_rows1 {G : xG} {d rc rs a : Nat} {z : Int} {ex : Bool} {h : xH} {Q : xQ} {σ : St} (w : CW σ h) (v : INV σ) (ha : a < 8)
    (M : X G m_X10_rowsAreTrue (d + 4) rc rs ex 112 [some (.ref 3), some (vi (a : Int)), some (vi z), some (vi (a : Int))] [] h Q) : X G m_X10_rowsAreTrue (d + 4) rc rs ex 57 [some (.ref 3), some (vi (a : Int)), some (vi z), some (vi 0)] [] h Q := by
  have hp := PRb v.p
  have L : ∀ (n b : Nat), b + n = a → X G m_X10_rowsAreTrue (d + 4) rc rs ex 57 [some (.ref 3), some (vi (a : Int)), some (vi z), some (vi (b : Int))] [] h Q := by
    intro n
    induction n with
    | zero =>
      intro b hi 
      refine x_iload_n (dT U_X10_rowsAreTrue 32 rfl) rfl ?_
      refine x_iload_n (dT U_X10_rowsAreTrue 33 rfl) rfl ?_
      refine x_icmp_ge (tgt := 112) (dT U_X10_rowsAreTrue 34 rfl) (by decide) (by unfold xr at *; omega) (by unfold xr at *; omega) (fun c59 => ?_) (fun c59 => ?_)
      · skip
        have e : b = a := by omega
        subst e
        exact M
      · exfalso; omega
    | succ n ih =>
      intro b hi 
      refine x_iload_n (dT U_X10_rowsAreTrue 32 rfl) rfl ?_
      refine x_iload_n (dT U_X10_rowsAreTrue 33 rfl) rfl ?_
      refine x_icmp_ge (tgt := 112) (dT U_X10_rowsAreTrue 34 rfl) (by decide) (by unfold xr at *; omega) (by unfold xr at *; omega) (fun c59 => ?_) (fun c59 => ?_)
      · exfalso; omega
      · skip
        refine x_aload_n (dT U_X10_rowsAreTrue 35 rfl) rfl ?_
        refine x_getfield F_X10_27 (dT U_X10_rowsAreTrue 36 rfl) w.c3 (Nat.le_of_ble_eq_true rfl) rfl ?_
        refine x_iload_n (dT U_X10_rowsAreTrue 37 rfl) rfl ?_
        refine x_aaload (a) (dT U_X10_rowsAreTrue 38 rfl) w.c9 (Nat.le_of_ble_eq_true rfl) (by decide) rfl (rowsL_get (by omega)) (Nat.le_of_ble_eq_true rfl) ?_
        refine x_aload_n (dT U_X10_rowsAreTrue 39 rfl) rfl ?_
        refine x_getfield F_X10_27 (dT U_X10_rowsAreTrue 40 rfl) w.c3 (Nat.le_of_ble_eq_true rfl) rfl ?_
        refine x_iload_n (dT U_X10_rowsAreTrue 41 rfl) rfl ?_
        refine x_aaload (b) (dT U_X10_rowsAreTrue 42 rfl) w.c9 (Nat.le_of_ble_eq_true rfl) (by decide) rfl (rowsL_get (by omega)) (Nat.le_of_ble_eq_true rfl) ?_
        refine x_invokestatic (rc' := rc) (rs' := rs) (rc2 := 0) (rs2 := 0) (As := [_, _]) (st := _) M_X6_haveSameNumbers K_X10_209 (dT U_X10_rowsAreTrue 43 rfl) rfl rfl rfl rfl (Nat.le_of_ble_eq_true rfl) rfl (by decide) (Nat.le_of_ble_eq_true rfl) rfl rfl ?_
        refine S_X6_haveSameNumbers hp (w.rows a ha) ⟨by omega, by omega, by omega, by omega, by omega⟩ (v.rw a ha) (w.rows b (by omega)) ⟨by omega, by omega, by omega, by omega, by omega⟩ (v.rw b (by omega)) (fun _ => ?_) (fun ns => ?_)
        · refine xRet_some ?_
          refine x_if_ne (tgt := 106) (dT U_X10_rowsAreTrue 44 rfl) (by decide) (by unfold xr at *; omega) (fun c77 => ?_) (fun c77 => ?_)
          · skip
            refine x_iinc (ls' := [some (.ref _), some (vi _), some (vi _), some (vi _)]) (dT U_X10_rowsAreTrue 60 rfl) (by decide) rfl rfl ?_
            refine x_goto (tgt := 57) (dT U_X10_rowsAreTrue 61 rfl) (by decide) ?_
            exact ih (b + 1) (by omega)
          · exfalso; omega
        · refine xRet_some ?_
          refine x_if_ne (tgt := 106) (dT U_X10_rowsAreTrue 44 rfl) (by decide) (by unfold xr at *; omega) (fun c77 => ?_) (fun c77 => ?_)
          · exfalso; omega
          · skip
            refine x_aload_n (dT U_X10_rowsAreTrue 45 rfl) rfl ?_
            refine x_getfield F_X10_33 (dT U_X10_rowsAreTrue 46 rfl) w.c3 (Nat.le_of_ble_eq_true rfl) rfl ?_
            refine x_aload_n (dT U_X10_rowsAreTrue 47 rfl) rfl ?_
            refine x_getfield F_X10_27 (dT U_X10_rowsAreTrue 48 rfl) w.c3 (Nat.le_of_ble_eq_true rfl) rfl ?_
            refine x_iload_n (dT U_X10_rowsAreTrue 49 rfl) rfl ?_
            refine x_aaload (a) (dT U_X10_rowsAreTrue 50 rfl) w.c9 (Nat.le_of_ble_eq_true rfl) (by decide) rfl (rowsL_get (by omega)) (Nat.le_of_ble_eq_true rfl) ?_
            refine x_aload_n (dT U_X10_rowsAreTrue 51 rfl) rfl ?_
            refine x_getfield F_X10_27 (dT U_X10_rowsAreTrue 52 rfl) w.c3 (Nat.le_of_ble_eq_true rfl) rfl ?_
            refine x_iload_n (dT U_X10_rowsAreTrue 53 rfl) rfl ?_
            refine x_aaload (b) (dT U_X10_rowsAreTrue 54 rfl) w.c9 (Nat.le_of_ble_eq_true rfl) (by decide) rfl (rowsL_get (by omega)) (Nat.le_of_ble_eq_true rfl) ?_
            refine x_invokevirtual (rc' := rc) (rs' := rs) (rc2 := 0) (rs2 := 0) (As := [_, _]) (st := _) M_X6_meetings K_X10_212 (dT U_X10_rowsAreTrue 55 rfl) rfl rfl (by decide) rfl rfl w.c18 (Nat.le_of_ble_eq_true rfl) (by decide) rfl (Nat.le_of_ble_eq_true rfl) rfl (by decide) (Nat.le_of_ble_eq_true rfl) rfl rfl ?_
            have rm := rows_meet v.p (v.rw a ha) (v.rw b (by omega)) ns
            refine S_X6_meetings w.gw.1 hp w.c18 (w.rows a ha) ⟨by omega, by omega, by omega, by omega, by omega⟩ (v.rw a ha) (w.rows b (by omega)) ⟨by omega, by omega, by omega, by omega, by omega⟩ (v.rw b (by omega)) ?_
            refine xRet_some ?_
            refine x_bipush (dT U_X10_rowsAreTrue 56 rfl) (by decide) ?_
            refine x_icmp_le (tgt := 106) (dT U_X10_rowsAreTrue 57 rfl) (by decide) (by unfold xr; omega) (by unfold xr; omega) (fun c101 => ?_) (fun c101 => ?_)
            · skip
              refine x_iinc (ls' := [some (.ref _), some (vi _), some (vi _), some (vi _)]) (dT U_X10_rowsAreTrue 60 rfl) (by decide) rfl rfl ?_
              refine x_goto (tgt := 57) (dT U_X10_rowsAreTrue 61 rfl) (by decide) ?_
              exact ih (b + 1) (by omega)
            · exfalso; omega
  exact L a 0 (by omega)

set_option maxRecDepth 20000 in
set_option maxHeartbeats 1000000 in
theorem S_X10_rowsAreTrue {G : xG} {d rc rs : Nat} {ex : Bool} {h : xH} {Q : xQ} {σ : St} (w : CW σ h) (v : INV σ) (k : ∀ h2, FC h h2 → CW σ h2 → Q (.inl (some (vi 1))) ex h2) : X G m_X10_rowsAreTrue (d + 4) rc rs ex 0 (xe m_X10_rowsAreTrue.2.2.1 [.ref 3]) [] h Q := by
  show X G m_X10_rowsAreTrue _ _ _ _ 0 [some (.ref 3), none, none, none] [] h Q
  have hp := PRb v.p
  have hq := gq_b v.p
  have L : ∀ (n a : Nat), a + n = 8 → ∀ h1 : xH, FC h h1 → CW σ h1 → X G m_X10_rowsAreTrue (d + 4) rc rs ex 2 [some (.ref 3), some (vi (a : Int)), none, none] [] h1 Q := by
    intro n
    induction n with
    | zero =>
      intro a hi h1 g1 w1
      refine x_iload_n (dT U_X10_rowsAreTrue 2 rfl) rfl ?_
      refine x_bipush (dT U_X10_rowsAreTrue 3 rfl) (by decide) ?_
      refine x_icmp_ge (tgt := 118) (dT U_X10_rowsAreTrue 4 rfl) (by decide) (by unfold xr at *; omega) (by unfold xr at *; omega) (fun c5 => ?_) (fun c5 => ?_)
      · skip
        refine x_iconst (dT U_X10_rowsAreTrue 64 rfl) ?_
        refine x_zreturn (dT U_X10_rowsAreTrue 65 rfl) rfl (by omega) ?_
        exact k h1 g1 w1
      · exfalso; omega
    | succ n ih =>
      intro a hi h1 g1 w1
      refine x_iload_n (dT U_X10_rowsAreTrue 2 rfl) rfl ?_
      refine x_bipush (dT U_X10_rowsAreTrue 3 rfl) (by decide) ?_
      refine x_icmp_ge (tgt := 118) (dT U_X10_rowsAreTrue 4 rfl) (by decide) (by unfold xr at *; omega) (by unfold xr at *; omega) (fun c5 => ?_) (fun c5 => ?_)
      · exfalso; omega
      · skip
        refine x_aload_n (dT U_X10_rowsAreTrue 5 rfl) rfl ?_
        refine x_getfield F_X10_58 (dT U_X10_rowsAreTrue 6 rfl) w1.c3 (Nat.le_of_ble_eq_true rfl) rfl ?_
        refine x_aload_n (dT U_X10_rowsAreTrue 7 rfl) rfl ?_
        refine x_getfield F_X10_27 (dT U_X10_rowsAreTrue 8 rfl) w1.c3 (Nat.le_of_ble_eq_true rfl) rfl ?_
        refine x_iload_n (dT U_X10_rowsAreTrue 9 rfl) rfl ?_
        refine x_aaload (a) (dT U_X10_rowsAreTrue 10 rfl) w1.c9 (Nat.le_of_ble_eq_true rfl) (by decide) rfl (rowsL_get (by omega)) (Nat.le_of_ble_eq_true rfl) ?_
        refine x_aload_n (dT U_X10_rowsAreTrue 11 rfl) rfl ?_
        refine x_getfield F_X10_96 (dT U_X10_rowsAreTrue 12 rfl) w1.c3 (Nat.le_of_ble_eq_true rfl) rfl ?_
        refine x_invokevirtual (rc' := rc) (rs' := rs) (rc2 := 0) (rs2 := 0) (As := [_, _]) (st := _) M_X0_faultsOf K_X10_444 (dT U_X10_rowsAreTrue 13 rfl) rfl rfl (by decide) rfl rfl (show h1[47]? = some (cO 0 [.ref 4, .ref 9, .ref 48, .ref 49, .ref 50, .ref 51, vi (σ.G.n : Int)]) from w1.c47) (Nat.le_of_ble_eq_true rfl) (by decide) rfl (Nat.le_of_ble_eq_true rfl) rfl (by decide) (Nat.le_of_ble_eq_true rfl) rfl rfl ?_
        obtain ⟨s68l, hs68, ls68⟩ := w1.s68
        refine S_X0_faultsOf v.p (w1.ca v.G.2.1) v.rw (w1.rows a (by omega)) (by omega) (v.rw a (by omega)) v.G.1 v.G.2.2 hs68 ls68 ?_
        refine xRet_none ?_
        change X G _ _ _ _ _ _ _ _ (h1.set 68 (cA 0 (tab (flt σ (σ.rw a)) 8))) _
        have w2 : CW σ (h1.set 68 (cA 0 (tab (flt σ (σ.rw a)) 8))) := w1.t68 ((Ag.rf 68 68 h1).set (by omega)) (hset_eq hs68) (tab_len _ _)
        have gx : FC h1 (h1.set 68 (cA 0 (tab (flt σ (σ.rw a)) 8))) := ((Ag.rf 3 69 h1).set (by omega))
        refine x_aload_n (dT U_X10_rowsAreTrue 14 rfl) rfl ?_
        refine x_getfield F_X10_96 (dT U_X10_rowsAreTrue 15 rfl) w2.c3 (Nat.le_of_ble_eq_true rfl) rfl ?_
        refine x_invokestatic (rc' := rc) (rs' := rs) (rc2 := 0) (rs2 := 0) (As := [_]) (st := _) M_X1_degreeOf K_X10_154 (dT U_X10_rowsAreTrue 16 rfl) rfl rfl rfl rfl (Nat.le_of_ble_eq_true rfl) rfl (by decide) (Nat.le_of_ble_eq_true rfl) rfl rfl ?_
        refine S_degF (p := σ.p) (hset_eq hs68) (by omega) (flt_F hp.1 _) hp.2 ?_
        have db := dg_b (gf (tab (flt σ (σ.rw a)) 8)) 8
        refine xRet_some ?_
        refine x_istore_n (ls' := [some (.ref _), some (vi _), some (vi _), none]) (dT U_X10_rowsAreTrue 17 rfl) (by decide) rfl ?_
        refine x_iload_n (dT U_X10_rowsAreTrue 18 rfl) rfl ?_
        refine x_iconst (dT U_X10_rowsAreTrue 19 rfl) ?_
        refine x_icmp_eq (tgt := 55) (dT U_X10_rowsAreTrue 20 rfl) (by decide) (by unfold xr; omega) (by unfold xr; omega) (fun c35 => ?_) (fun c35 => ?_)
        · skip
          refine x_iconst (dT U_X10_rowsAreTrue 30 rfl) ?_
          refine x_istore_n (ls' := [some (.ref _), some (vi _), some (vi _), some (vi _)]) (dT U_X10_rowsAreTrue 31 rfl) (by decide) rfl ?_
          refine S_X10_rows1 w2 v (by omega) ?_
          refine x_iinc (ls' := [some (.ref _), some (vi _), some (vi _), some (vi _)]) (dT U_X10_rowsAreTrue 62 rfl) (by decide) rfl rfl ?_
          refine x_goto (tgt := 2) (dT U_X10_rowsAreTrue 63 rfl) (by decide) ?_
          refine x_drop ?_ (ih (a + 1) (by omega) _ ((Ag.tr g1 gx).w (by omega)) w2)
          repeat (first | exact trivial | refine ⟨rfl, ?_⟩ | refine ⟨trivial, ?_⟩)
        · skip
          refine x_aload_n (dT U_X10_rowsAreTrue 21 rfl) rfl ?_
          refine x_getfield F_X10_10 (dT U_X10_rowsAreTrue 22 rfl) w2.c3 (Nat.le_of_ble_eq_true rfl) rfl ?_
          refine x_aload_n (dT U_X10_rowsAreTrue 23 rfl) rfl ?_
          refine x_getfield F_X10_96 (dT U_X10_rowsAreTrue 24 rfl) w2.c3 (Nat.le_of_ble_eq_true rfl) rfl ?_
          refine x_invokevirtual (rc' := rc) (rs' := rs) (rc2 := 0) (rs2 := 0) (As := [_]) (st := _) M_X1_zerosOf K_X10_447 (dT U_X10_rowsAreTrue 25 rfl) rfl rfl (by decide) rfl rfl w2.gw.1 (Nat.le_of_ble_eq_true rfl) (by decide) rfl (Nat.le_of_ble_eq_true rfl) rfl (by decide) (Nat.le_of_ble_eq_true rfl) rfl rfl ?_
          have rz9 := row_zeros v.p (flt_F hp.1 (σ.rw a)) (by assumption)
          have rz8 : 0 ≤ (ct (fun x : Nat => hor (gf (tab (flt σ (σ.rw a)) 8)) σ.p (x : Int) 8 = 0) σ.p : Int) := Int.natCast_nonneg _
          refine S_X1_zerosOf w2.gw.1 hp (hset_eq hs68) (by omega) (flt_F hp.1 _) ?_
          change xRet _ _ _ _ _ _ _ _ _ _ (.inl (some (vi ((ct (fun x : Nat => hor (gf (tab (flt σ (σ.rw a)) 8)) σ.p (x : Int) 8 = 0) σ.p : Nat) : Int)))) _ _
          refine xRet_some ?_
          refine x_iload_n (dT U_X10_rowsAreTrue 26 rfl) rfl ?_
          refine x_icmp_le (tgt := 55) (dT U_X10_rowsAreTrue 27 rfl) (by decide) (by unfold xr; omega) (by unfold xr; omega) (fun c50 => ?_) (fun c50 => ?_)
          · skip
            refine x_iconst (dT U_X10_rowsAreTrue 30 rfl) ?_
            refine x_istore_n (ls' := [some (.ref _), some (vi _), some (vi _), some (vi _)]) (dT U_X10_rowsAreTrue 31 rfl) (by decide) rfl ?_
            refine S_X10_rows1 w2 v (by omega) ?_
            refine x_iinc (ls' := [some (.ref _), some (vi _), some (vi _), some (vi _)]) (dT U_X10_rowsAreTrue 62 rfl) (by decide) rfl rfl ?_
            refine x_goto (tgt := 2) (dT U_X10_rowsAreTrue 63 rfl) (by decide) ?_
            refine x_drop ?_ (ih (a + 1) (by omega) _ ((Ag.tr g1 gx).w (by omega)) w2)
            repeat (first | exact trivial | refine ⟨rfl, ?_⟩ | refine ⟨trivial, ?_⟩)
          · exfalso; omega
  refine x_iconst (dT U_X10_rowsAreTrue 0 rfl) ?_
  refine x_istore_n (ls' := [some (.ref _), some (vi _), none, none]) (dT U_X10_rowsAreTrue 1 rfl) (by decide) rfl ?_
  exact L 8 0 (by omega) h (Ag.rf 3 69 h) w
