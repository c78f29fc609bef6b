set_option maxRecDepth 20000 in
set_option maxHeartbeats 1000000 in
theorem S_X10_joins1 {G : xG} {d rc rs a b : Nat} {ex : Bool} {h : xH} {Q : xQ} {σ : St} (w : CW σ h) (v : INV σ) (ha4 : a < 4) (hb4 : b < 4)
    (M : ∀ h1 ml nl, FC h h1 → CW σ h1 → h1[68]? = some (cA 0 ml) → Fl (σ.p : Int) ml → h1[69]? = some (cA 0 nl) → Fl (σ.p : Int) nl → X G m_X10_joinsAreTrue (d + 3) rc rs ex 70 [some (.ref 3), some (vi (a : Int)), some (vi (b : Int)), some (vi ((8 : Nat) : Int))] [] h1 Q) : X G m_X10_joinsAreTrue (d + 3) rc rs ex 16 [some (.ref 3), some (vi (a : Int)), some (vi (b : Int)), some (vi 0)] [] h Q := by
  have hp := PRb v.p
  obtain ⟨s68l, hs68, ls68⟩ := w.s68
  obtain ⟨s69l, hs69, ls69⟩ := w.s69
  have CWc : ∀ m1 m2 : List Int, m1.length = 8 → m2.length = 8 → CW σ ((h.set 68 (cA 0 m1)).set 69 (cA 0 m2)) := fun m1 m2 q1 q2 => (w.t68 ((Ag.rf 68 68 h).set (by omega)) (hset_eq hs68) q1).t69 ((Ag.rf 69 69 _).set (by omega)) (hset_eq (hset_ne (by decide) hs69)) q2
  have L : ∀ (n t : Nat), t + n = 8 → X G m_X10_joinsAreTrue (d + 3) rc rs ex 16 [some (.ref 3), some (vi (a : Int)), some (vi (b : Int)), some (vi (t : Int))] [] ((h.set 68 (cA 0 (fillL (fun t => (inn (σ.R a).form (σ.rw t) % (σ.p : Int) - (σ.R a).vv) % (σ.p : Int)) s68l t))).set 69 (cA 0 (fillL (fun t => (inn (σ.R b).form (σ.rw t) % (σ.p : Int) - (σ.R b).vv) % (σ.p : Int)) s69l t))) Q := by
    intro n
    induction n with
    | zero =>
      intro t hi 
      refine x_iload_n (dT U_X10_joinsAreTrue 12 rfl) rfl ?_
      refine x_bipush (dT U_X10_joinsAreTrue 13 rfl) (by decide) ?_
      refine x_icmp_ge (tgt := 70) (dT U_X10_joinsAreTrue 14 rfl) (by decide) (by unfold xr at *; omega) (by unfold xr at *; omega) (fun c19 => ?_) (fun c19 => ?_)
      · skip
        have e : t = 8 := by omega
        subst e
        refine M _ _ _ ((Ag.rf 3 69 h).set (by omega) |>.set (by omega)) (CWc _ _ (by rw [fillL_len, ls68]) (by rw [fillL_len, ls69])) (hset_ne (by decide) (hset_eq hs68)) ?_ (hset_eq (hset_ne (by decide) hs69)) ?_
        · rw [fillL_all ls68]; exact Fl_tab (by omega) (fun _ _ => modb (by omega))
        · rw [fillL_all ls69]; exact Fl_tab (by omega) (fun _ _ => modb (by omega))
      · exfalso; omega
    | succ n ih =>
      intro t hi 
      have wA := CWc (fillL (fun t => (inn (σ.R a).form (σ.rw t) % (σ.p : Int) - (σ.R a).vv) % (σ.p : Int)) s68l t) (fillL (fun t => (inn (σ.R b).form (σ.rw t) % (σ.p : Int) - (σ.R b).vv) % (σ.p : Int)) s69l t) (by rw [fillL_len, ls68]) (by rw [fillL_len, ls69])
      have wB := CWc (fillL (fun t => (inn (σ.R a).form (σ.rw t) % (σ.p : Int) - (σ.R a).vv) % (σ.p : Int)) s68l (t + 1)) (fillL (fun t => (inn (σ.R b).form (σ.rw t) % (σ.p : Int) - (σ.R b).vv) % (σ.p : Int)) s69l t) (by rw [fillL_len, ls68]) (by rw [fillL_len, ls69])
      refine x_iload_n (dT U_X10_joinsAreTrue 12 rfl) rfl ?_
      refine x_bipush (dT U_X10_joinsAreTrue 13 rfl) (by decide) ?_
      refine x_icmp_ge (tgt := 70) (dT U_X10_joinsAreTrue 14 rfl) (by decide) (by unfold xr at *; omega) (by unfold xr at *; omega) (fun c19 => ?_) (fun c19 => ?_)
      · exfalso; omega
      · skip
        refine x_aload_n (dT U_X10_joinsAreTrue 15 rfl) rfl ?_
        refine x_getfield F_X10_96 (dT U_X10_joinsAreTrue 16 rfl) wA.c3 (Nat.le_of_ble_eq_true rfl) rfl ?_
        refine x_iload_n (dT U_X10_joinsAreTrue 17 rfl) rfl ?_
        refine x_aload_n (dT U_X10_joinsAreTrue 18 rfl) rfl ?_
        refine x_getfield F_X10_39 (dT U_X10_joinsAreTrue 19 rfl) wA.c3 (Nat.le_of_ble_eq_true rfl) rfl ?_
        refine x_iload_n (dT U_X10_joinsAreTrue 20 rfl) rfl ?_
        refine x_aaload (a) (dT U_X10_joinsAreTrue 21 rfl) wA.c21 (Nat.le_of_ble_eq_true rfl) (by decide) rfl (runsL_get (by omega)) (Nat.le_of_ble_eq_true rfl) ?_
        refine x_aload_n (dT U_X10_joinsAreTrue 22 rfl) rfl ?_
        refine x_getfield F_X10_27 (dT U_X10_joinsAreTrue 23 rfl) wA.c3 (Nat.le_of_ble_eq_true rfl) rfl ?_
        refine x_iload_n (dT U_X10_joinsAreTrue 24 rfl) rfl ?_
        refine x_aaload (t) (dT U_X10_joinsAreTrue 25 rfl) wA.c9 (Nat.le_of_ble_eq_true rfl) (by decide) rfl (rowsL_get (by omega)) (Nat.le_of_ble_eq_true rfl) ?_
        refine x_invokevirtual (rc' := rc) (rs' := rs) (rc2 := 0) (rs2 := 0) (As := [_]) (st := _) M_X7_gap K_X10_388 (dT U_X10_joinsAreTrue 26 rfl) rfl rfl (by decide) rfl rfl (show _ = some (cO 7 [.ref 5, .ref 4, .ref (22 + 4 * a + 1), .ref (22 + 4 * a + 2), .ref (22 + 4 * a + 3), vi ((σ.R a).y σ.p), vi (σ.R a).vv, vi ((σ.R a).a σ.p), vi (σ.R a).ww, vi (σ.R a).cc, vi (σ.R a).tt, vi (σ.R a).mm, vi (σ.R a).rr]) from (wA.runs a ha4).2.1) (by omega) (by decide) rfl (Nat.le_of_ble_eq_true rfl) rfl (by decide) (Nat.le_of_ble_eq_true rfl) rfl rfl ?_
        refine S_X7_gap v.p (wA.runs a ha4) (v.R a ha4).1 wA.gw (wA.rows t (by omega)) ⟨by omega, by omega, by omega, by omega, by omega, by omega⟩ (v.rw t (by omega)) ?_
        refine xRet_some ?_
        refine x_iastore (t) (dT U_X10_joinsAreTrue 27 rfl) (hset_ne (by decide) (hset_eq hs68)) (Nat.le_of_ble_eq_true rfl) rfl (by rw [fillL_len, ls68]; omega) (by rw [fillL_len, ls68]; omega) ?_
        rw [st2a (by decide)]
        change X G _ _ _ _ _ _ _ _ ((h.set 68 (cA 0 (fillL (fun t => (inn (σ.R a).form (σ.rw t) % (σ.p : Int) - (σ.R a).vv) % (σ.p : Int)) s68l (t + 1)))).set 69 (cA 0 (fillL (fun t => (inn (σ.R b).form (σ.rw t) % (σ.p : Int) - (σ.R b).vv) % (σ.p : Int)) s69l t))) _
        refine x_aload_n (dT U_X10_joinsAreTrue 28 rfl) rfl ?_
        refine x_getfield F_X10_100 (dT U_X10_joinsAreTrue 29 rfl) wB.c3 (Nat.le_of_ble_eq_true rfl) rfl ?_
        refine x_iload_n (dT U_X10_joinsAreTrue 30 rfl) rfl ?_
        refine x_aload_n (dT U_X10_joinsAreTrue 31 rfl) rfl ?_
        refine x_getfield F_X10_39 (dT U_X10_joinsAreTrue 32 rfl) wB.c3 (Nat.le_of_ble_eq_true rfl) rfl ?_
        refine x_iload_n (dT U_X10_joinsAreTrue 33 rfl) rfl ?_
        refine x_aaload (b) (dT U_X10_joinsAreTrue 34 rfl) wB.c21 (Nat.le_of_ble_eq_true rfl) (by decide) rfl (runsL_get (by omega)) (Nat.le_of_ble_eq_true rfl) ?_
        refine x_aload_n (dT U_X10_joinsAreTrue 35 rfl) rfl ?_
        refine x_getfield F_X10_27 (dT U_X10_joinsAreTrue 36 rfl) wB.c3 (Nat.le_of_ble_eq_true rfl) rfl ?_
        refine x_iload_n (dT U_X10_joinsAreTrue 37 rfl) rfl ?_
        refine x_aaload (t) (dT U_X10_joinsAreTrue 38 rfl) wB.c9 (Nat.le_of_ble_eq_true rfl) (by decide) rfl (rowsL_get (by omega)) (Nat.le_of_ble_eq_true rfl) ?_
        refine x_invokevirtual (rc' := rc) (rs' := rs) (rc2 := 0) (rs2 := 0) (As := [_]) (st := _) M_X7_gap K_X10_388 (dT U_X10_joinsAreTrue 39 rfl) rfl rfl (by decide) rfl rfl (show _ = some (cO 7 [.ref 5, .ref 4, .ref (22 + 4 * b + 1), .ref (22 + 4 * b + 2), .ref (22 + 4 * b + 3), vi ((σ.R b).y σ.p), vi (σ.R b).vv, vi ((σ.R b).a σ.p), vi (σ.R b).ww, vi (σ.R b).cc, vi (σ.R b).tt, vi (σ.R b).mm, vi (σ.R b).rr]) from (wB.runs b hb4).2.1) (by omega) (by decide) rfl (Nat.le_of_ble_eq_true rfl) rfl (by decide) (Nat.le_of_ble_eq_true rfl) rfl rfl ?_
        refine S_X7_gap v.p (wB.runs b hb4) (v.R b hb4).1 wB.gw (wB.rows t (by omega)) ⟨by omega, by omega, by omega, by omega, by omega, by omega⟩ (v.rw t (by omega)) ?_
        refine xRet_some ?_
        refine x_iastore (t) (dT U_X10_joinsAreTrue 40 rfl) (hset_eq (hset_ne (by decide) hs69)) (Nat.le_of_ble_eq_true rfl) rfl (by rw [fillL_len, ls69]; omega) (by rw [fillL_len, ls69]; omega) ?_
        rw [List.set_set]
        refine x_iinc (ls' := [some (.ref _), some (vi _), some (vi _), some (vi _)]) (dT U_X10_joinsAreTrue 41 rfl) (by decide) rfl rfl ?_
        refine x_goto (tgt := 16) (dT U_X10_joinsAreTrue 42 rfl) (by decide) ?_
        exact ih (t + 1) (by omega)
  have q := L 8 0 (by omega)
  rw [show fillL (fun t => (inn (σ.R a).form (σ.rw t) % (σ.p : Int) - (σ.R a).vv) % (σ.p : Int)) s68l 0 = s68l from rfl, show fillL (fun t => (inn (σ.R b).form (σ.rw t) % (σ.p : Int) - (σ.R b).vv) % (σ.p : Int)) s69l 0 = s69l from rfl, hset_self hs68, hset_self hs69] at q
  exact q

set_option maxRecDepth 20000 in
set_option maxHeartbeats 1000000 in
theorem S_X10_joins2 {G : xG} {d rc rs a : Nat} {ex : Bool} {h : xH} {Q : xQ} {σ : St} (w : CW σ h) (v : INV σ) (ha : a < 4)
    (M : ∀ h1, FC h h1 → CW σ h1 → X G m_X10_joinsAreTrue (d + 3) rc rs ex 116 [some (.ref 3), some (vi (a : Int)), some (vi (a : Int)), none] [] h1 Q) : X G m_X10_joinsAreTrue (d + 3) rc rs ex 9 [some (.ref 3), some (vi (a : Int)), some (vi 0), none] [] h Q := by
  have L : ∀ (n b : Nat), b + n = a → ∀ h1 : xH, FC h h1 → CW σ h1 → X G m_X10_joinsAreTrue (d + 3) rc rs ex 9 [some (.ref 3), some (vi (a : Int)), some (vi (b : Int)), none] [] h1 Q := by
    intro n
    induction n with
    | zero =>
      intro b hi h1 g1 w1
      refine x_iload_n (dT U_X10_joinsAreTrue 7 rfl) rfl ?_
      refine x_iload_n (dT U_X10_joinsAreTrue 8 rfl) rfl ?_
      refine x_icmp_ge (tgt := 116) (dT U_X10_joinsAreTrue 9 rfl) (by decide) (by unfold xr at *; omega) (by unfold xr at *; omega) (fun c11 => ?_) (fun c11 => ?_)
      · skip
        have e : b = a := by omega
        subst e
        exact M h1 g1 w1
      · exfalso; omega
    | succ n ih =>
      intro b hi h1 g1 w1
      refine x_iload_n (dT U_X10_joinsAreTrue 7 rfl) rfl ?_
      refine x_iload_n (dT U_X10_joinsAreTrue 8 rfl) rfl ?_
      refine x_icmp_ge (tgt := 116) (dT U_X10_joinsAreTrue 9 rfl) (by decide) (by unfold xr at *; omega) (by unfold xr at *; omega) (fun c11 => ?_) (fun c11 => ?_)
      · exfalso; omega
      · skip
        refine x_iconst (dT U_X10_joinsAreTrue 10 rfl) ?_
        refine x_istore_n (ls' := [some (.ref _), some (vi _), some (vi _), some (vi _)]) (dT U_X10_joinsAreTrue 11 rfl) (by decide) rfl ?_
        refine S_X10_joins1 w1 v (by omega) (by omega) (fun h2 ml nl g2 w2 h68 l68 h69 l69 => ?_)
        refine x_aload_n (dT U_X10_joinsAreTrue 43 rfl) rfl ?_
        refine x_aload_n (dT U_X10_joinsAreTrue 44 rfl) rfl ?_
        refine x_getfield F_X10_39 (dT U_X10_joinsAreTrue 45 rfl) w2.c3 (Nat.le_of_ble_eq_true rfl) rfl ?_
        refine x_iload_n (dT U_X10_joinsAreTrue 46 rfl) rfl ?_
        refine x_aaload (a) (dT U_X10_joinsAreTrue 47 rfl) w2.c21 (Nat.le_of_ble_eq_true rfl) (by decide) rfl (runsL_get (by omega)) (Nat.le_of_ble_eq_true rfl) ?_
        refine x_aload_n (dT U_X10_joinsAreTrue 48 rfl) rfl ?_
        refine x_getfield F_X10_39 (dT U_X10_joinsAreTrue 49 rfl) w2.c3 (Nat.le_of_ble_eq_true rfl) rfl ?_
        refine x_iload_n (dT U_X10_joinsAreTrue 50 rfl) rfl ?_
        refine x_aaload (b) (dT U_X10_joinsAreTrue 51 rfl) w2.c21 (Nat.le_of_ble_eq_true rfl) (by decide) rfl (runsL_get (by omega)) (Nat.le_of_ble_eq_true rfl) ?_
        refine x_invokevirtual (rc' := rc) (rs' := rs) (rc2 := 0) (rs2 := 0) (As := [_, _]) (st := _) M_X10_batchIsTrue K_X10_574 (dT U_X10_joinsAreTrue 52 rfl) rfl rfl (by decide) rfl rfl w2.c3 (Nat.le_of_ble_eq_true rfl) (by decide) rfl (Nat.le_of_ble_eq_true rfl) rfl (by decide) (Nat.le_of_ble_eq_true rfl) rfl rfl ?_
        refine S_X10_batchIsTrue w2 v (by omega) (by omega) h68 l68 h69 l69 ?_
        refine xRet_some ?_
        refine x_if_eq (tgt := 108) (dT U_X10_joinsAreTrue 53 rfl) (by decide) (by unfold xr at *; omega) (fun c86 => ?_) (fun c86 => ?_)
        · exfalso; omega
        · skip
          refine x_aload_n (dT U_X10_joinsAreTrue 54 rfl) rfl ?_
          refine x_aload_n (dT U_X10_joinsAreTrue 55 rfl) rfl ?_
          refine x_getfield F_X10_39 (dT U_X10_joinsAreTrue 56 rfl) w2.c3 (Nat.le_of_ble_eq_true rfl) rfl ?_
          refine x_iload_n (dT U_X10_joinsAreTrue 57 rfl) rfl ?_
          refine x_aaload (a) (dT U_X10_joinsAreTrue 58 rfl) w2.c21 (Nat.le_of_ble_eq_true rfl) (by decide) rfl (runsL_get (by omega)) (Nat.le_of_ble_eq_true rfl) ?_
          refine x_aload_n (dT U_X10_joinsAreTrue 59 rfl) rfl ?_
          refine x_getfield F_X10_39 (dT U_X10_joinsAreTrue 60 rfl) w2.c3 (Nat.le_of_ble_eq_true rfl) rfl ?_
          refine x_iload_n (dT U_X10_joinsAreTrue 61 rfl) rfl ?_
          refine x_aaload (b) (dT U_X10_joinsAreTrue 62 rfl) w2.c21 (Nat.le_of_ble_eq_true rfl) (by decide) rfl (runsL_get (by omega)) (Nat.le_of_ble_eq_true rfl) ?_
          refine x_invokevirtual (rc' := rc) (rs' := rs) (rc2 := 0) (rs2 := 0) (As := [_, _]) (st := _) M_X10_foldIsTrue K_X10_577 (dT U_X10_joinsAreTrue 63 rfl) rfl rfl (by decide) rfl rfl w2.c3 (Nat.le_of_ble_eq_true rfl) (by decide) rfl (Nat.le_of_ble_eq_true rfl) rfl (by decide) (Nat.le_of_ble_eq_true rfl) rfl rfl ?_
          refine S_X10_foldIsTrue w2 v (by omega) (by omega) h68 l68 h69 l69 ?_
          refine xRet_some ?_
          refine x_if_ne (tgt := 110) (dT U_X10_joinsAreTrue 64 rfl) (by decide) (by unfold xr at *; omega) (fun c105 => ?_) (fun c105 => ?_)
          · skip
            refine x_iinc (ls' := [some (.ref _), some (vi _), some (vi _), some (vi _)]) (dT U_X10_joinsAreTrue 67 rfl) (by decide) rfl rfl ?_
            refine x_goto (tgt := 9) (dT U_X10_joinsAreTrue 68 rfl) (by decide) ?_
            refine x_drop ?_ (ih (b + 1) (by omega) h2 ((Ag.tr g1 g2).w (by omega)) w2)
            repeat (first | exact trivial | refine ⟨rfl, ?_⟩ | refine ⟨trivial, ?_⟩)
          · exfalso; omega
  exact L a 0 (by omega) h (Ag.rf 3 69 h) w

set_option maxRecDepth 20000 in
set_option maxHeartbeats 1000000 in
theorem S_X10_joinsAreTrue {G : xG} {d rc rs : Nat} {ex : Bool} {h : xH} {Q : xQ} {σ : St} (w : CW σ h) (v : INV σ) (k : ∀ h2, FC h h2 → CW σ h2 → Q (.inl (some (vi 1))) ex h2) : X G m_X10_joinsAreTrue (d + 3) rc rs ex 0 (xe m_X10_joinsAreTrue.2.2.1 [.ref 3]) [] h Q := by
  show X G m_X10_joinsAreTrue _ _ _ _ 0 [some (.ref 3), none, none, none] [] h Q
  have hp := PRb v.p
  have hq := gq_b v.p
  have L : ∀ (n a : Nat), a + n = 4 → ∀ h1 : xH, FC h h1 → CW σ h1 → X G m_X10_joinsAreTrue (d + 3) rc rs ex 2 [some (.ref 3), some (vi (a : Int)), none, none] [] h1 Q := by
    intro n
    induction n with
    | zero =>
      intro a hi h1 g1 w1
      refine x_iload_n (dT U_X10_joinsAreTrue 2 rfl) rfl ?_
      refine x_iconst (dT U_X10_joinsAreTrue 3 rfl) ?_
      refine x_icmp_ge (tgt := 122) (dT U_X10_joinsAreTrue 4 rfl) (by decide) (by unfold xr at *; omega) (by unfold xr at *; omega) (fun c4 => ?_) (fun c4 => ?_)
      · skip
        refine x_iconst (dT U_X10_joinsAreTrue 71 rfl) ?_
        refine x_zreturn (dT U_X10_joinsAreTrue 72 rfl) rfl (by omega) ?_
        exact k h1 g1 w1
      · exfalso; omega
    | succ n ih =>
      intro a hi h1 g1 w1
      refine x_iload_n (dT U_X10_joinsAreTrue 2 rfl) rfl ?_
      refine x_iconst (dT U_X10_joinsAreTrue 3 rfl) ?_
      refine x_icmp_ge (tgt := 122) (dT U_X10_joinsAreTrue 4 rfl) (by decide) (by unfold xr at *; omega) (by unfold xr at *; omega) (fun c4 => ?_) (fun c4 => ?_)
      · exfalso; omega
      · skip
        refine x_iconst (dT U_X10_joinsAreTrue 5 rfl) ?_
        refine x_istore_n (ls' := [some (.ref _), some (vi _), some (vi _), none]) (dT U_X10_joinsAreTrue 6 rfl) (by decide) rfl ?_
        refine x_drop (ls' := [some (.ref 3), some (vi (a : Int)), some (vi 0), none]) ?_ (S_X10_joins2 w1 v (by omega) (fun h3 g3 w3 => ?_))
        · repeat (first | exact trivial | refine ⟨rfl, ?_⟩ | refine ⟨trivial, ?_⟩)
        · refine x_iinc (ls' := [some (.ref _), some (vi _), some (vi _), none]) (dT U_X10_joinsAreTrue 69 rfl) (by decide) rfl rfl ?_
          refine x_goto (tgt := 2) (dT U_X10_joinsAreTrue 70 rfl) (by decide) ?_
          refine x_drop ?_ (ih (a + 1) (by omega) h3 ((Ag.tr g1 g3).w (by omega)) w3)
          repeat (first | exact trivial | refine ⟨rfl, ?_⟩ | refine ⟨trivial, ?_⟩)
  refine x_iconst (dT U_X10_joinsAreTrue 0 rfl) ?_
  refine x_istore_n (ls' := [some (.ref _), some (vi _), none, none]) (dT U_X10_joinsAreTrue 1 rfl) (by decide) rfl ?_
  exact L 4 0 (by omega) h (Ag.rf 3 69 h) w
