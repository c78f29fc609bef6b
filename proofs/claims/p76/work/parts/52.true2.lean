set_option maxRecDepth 20000 in
set_option maxHeartbeats 1000000 in
theorem S_X10_forkIsTrue {G : xG} {d rc rs : Nat} {ex : Bool} {h : xH} {Q : xQ} {σ : St} {i j : Nat} (w : CW σ h) (v : INV σ) (hi : i < 4) (hj : j < 4) (k : ∀ h2, FC h h2 → CW σ h2 → Q (.inl (some (vi 1))) ex h2) : X G m_X10_forkIsTrue (d + 5) rc rs ex 0 (xe m_X10_forkIsTrue.2.2.1 [.ref 3, .ref (22 + 4 * i), .ref (22 + 4 * j)]) [] h Q := by
  show X G m_X10_forkIsTrue _ _ _ _ 0 [some (.ref 3), some (.ref (22 + 4 * i)), some (.ref (22 + 4 * j)), none] [] h Q
  have hp := PRb v.p
  have hq := gq_b v.p
  obtain ⟨s68l, hs68, ls68⟩ := w.s68
  have hri := w.runs i hi
  have okri := v.R i hi
  have oki := okri.1
  have hRi : h[22 + 4 * i]? = some (cO 7 [.ref 5, .ref 4, .ref (22 + 4 * i + 1), .ref (22 + 4 * i + 2), .ref (22 + 4 * i + 3), vi ((σ.R i).y σ.p), vi (σ.R i).vv, vi ((σ.R i).a σ.p), vi (σ.R i).ww, vi (σ.R i).cc, vi (σ.R i).tt, vi (σ.R i).mm, vi (σ.R i).rr]) := hri.2.1
  have hrj := w.runs j hj
  have okrj := v.R j hj
  have okj := okrj.1
  have hRj : h[22 + 4 * j]? = some (cO 7 [.ref 5, .ref 4, .ref (22 + 4 * j + 1), .ref (22 + 4 * j + 2), .ref (22 + 4 * j + 3), vi ((σ.R j).y σ.p), vi (σ.R j).vv, vi ((σ.R j).a σ.p), vi (σ.R j).ww, vi (σ.R j).cc, vi (σ.R j).tt, vi (σ.R j).mm, vi (σ.R j).rr]) := hrj.2.1
  refine x_aload_n (dT U_X10_forkIsTrue 0 rfl) rfl ?_
  refine x_aload_n (dT U_X10_forkIsTrue 1 rfl) rfl ?_
  refine x_invokevirtual (rc' := rc) (rs' := rs) (rc2 := 0) (rs2 := 0) (As := [_]) (st := _) M_X7_isForked K_X10_331 (dT U_X10_forkIsTrue 2 rfl) rfl rfl (by decide) rfl rfl hRi (by omega) (by decide) rfl (Nat.le_of_ble_eq_true rfl) rfl (by decide) (Nat.le_of_ble_eq_true rfl) rfl rfl ?_
  refine S_X7_isForked v.p hri oki hrj okj w.gw (fun q1 => ?_) (fun q0 => ?_)
  · refine xRet_some ?_
    refine x_if_ne (tgt := 10) (dT U_X10_forkIsTrue 3 rfl) (by decide) (by unfold xr at *; omega) (fun c5 => ?_) (fun c5 => ?_)
    · skip
      refine x_aload_n (dT U_X10_forkIsTrue 6 rfl) rfl ?_
      refine x_aload_n (dT U_X10_forkIsTrue 7 rfl) rfl ?_
      refine x_aload_n (dT U_X10_forkIsTrue 8 rfl) rfl ?_
      refine x_getfield F_X10_96 (dT U_X10_forkIsTrue 9 rfl) w.c3 (Nat.le_of_ble_eq_true rfl) rfl ?_
      refine x_invokevirtual (rc' := rc) (rs' := rs) (rc2 := 0) (rs2 := 0) (As := [_, _]) (st := _) M_X7_secretWith K_X10_337 (dT U_X10_forkIsTrue 10 rfl) rfl rfl (by decide) rfl rfl hRi (by omega) (by decide) rfl (Nat.le_of_ble_eq_true rfl) rfl (by decide) (Nat.le_of_ble_eq_true rfl) rfl rfl ?_
      refine S_X7_secretWith v.p hri oki hrj okj w.gw hs68 ⟨by omega, by omega, by omega, by omega, by omega⟩ ls68 q1.1.1 q1.2.1.1 q1.2.2.2.2.2.2.2 ?_
      refine xRet_some ?_
      have w2 : CW σ (h.set 68 (cA 0 (tab (fun t => (((σ.R i).answer.getD t 0 - (σ.R j).answer.getD t 0) * (iv σ.p (((σ.R i).c - (σ.R j).c) % (σ.p : Int)).toNat : Int)) % (σ.p : Int)) 8))) := w.t68 ((Ag.rf 68 68 h).set (by omega)) (hset_eq hs68) (tab_len _ _)
      have fs := fork_suit v.p oki okj q1
      refine x_istore_n (ls' := [some (.ref _), some (.ref _), some (.ref _), some (vi _)]) (dT U_X10_forkIsTrue 11 rfl) (by decide) rfl ?_
      refine x_aload_n (dT U_X10_forkIsTrue 12 rfl) rfl ?_
      refine x_aload_n (dT U_X10_forkIsTrue 13 rfl) rfl ?_
      refine x_getfield F_X10_96 (dT U_X10_forkIsTrue 14 rfl) w2.c3 (Nat.le_of_ble_eq_true rfl) rfl ?_
      refine x_iload_n (dT U_X10_forkIsTrue 15 rfl) rfl ?_
      refine x_invokevirtual (rc' := rc) (rs' := rs) (rc2 := 0) (rs2 := 0) (As := [_, _]) (st := _) M_X7_suits K_X10_341 (dT U_X10_forkIsTrue 16 rfl) rfl rfl (by decide) rfl rfl (show _ = some (cO 7 [.ref 5, .ref 4, .ref (22 + 4 * i + 1), .ref (22 + 4 * i + 2), .ref (22 + 4 * i + 3), vi ((σ.R i).y σ.p), vi (σ.R i).vv, vi ((σ.R i).a σ.p), vi (σ.R i).ww, vi (σ.R i).cc, vi (σ.R i).tt, vi (σ.R i).mm, vi (σ.R i).rr]) from (w2.runs i hi).2.1) (by omega) (by decide) rfl (Nat.le_of_ble_eq_true rfl) rfl (by decide) (Nat.le_of_ble_eq_true rfl) rfl rfl ?_
      refine S_X7_suits v.p (w2.runs i hi) oki w2.gw (hset_eq hs68) ⟨by omega, by omega, by omega, by omega, by omega, by omega⟩ (Fl_tab (by omega) (fun _ _ => modb (by omega))) (modb (by omega)) (fun _ => ?_) (fun z => absurd fs z)
      refine xRet_some ?_
      refine x_zreturn (dT U_X10_forkIsTrue 17 rfl) rfl (by omega) ?_
      exact k _ ((Ag.rf 3 69 h).set (by omega)) w2
    · exfalso; omega
  · refine xRet_some ?_
    refine x_if_ne (tgt := 10) (dT U_X10_forkIsTrue 3 rfl) (by decide) (by unfold xr at *; omega) (fun c5 => ?_) (fun c5 => ?_)
    · exfalso; omega
    · skip
      refine x_iconst (dT U_X10_forkIsTrue 4 rfl) ?_
      refine x_zreturn (dT U_X10_forkIsTrue 5 rfl) rfl (by omega) ?_
      exact k h (Ag.rf 3 69 h) w

set_option maxRecDepth 20000 in
set_option maxHeartbeats 1000000 in
theorem S_X10_masksAreTrue {G : xG} {d rc rs : Nat} {ex : Bool} {h : xH} {Q : xQ} {σ : St} {i : Nat} (w : CW σ h) (v : INV σ) (hI : i < 4) (k : ∀ h2, FC h h2 → CW σ h2 → Q (.inl (some (vi 1))) ex h2) : X G m_X10_masksAreTrue (d + 5) rc rs ex 0 (xe m_X10_masksAreTrue.2.2.1 [.ref 3, .ref (22 + 4 * i)]) [] h Q := by
  show X G m_X10_masksAreTrue _ _ _ _ 0 [some (.ref 3), some (.ref (22 + 4 * i)), none, none, none] [] h Q
  have hp := PRb v.p
  have hq := gq_b v.p
  have hri := w.runs i hI
  have okri := v.R i hI
  have oki := okri.1
  have hRi : h[22 + 4 * i]? = some (cO 7 [.ref 5, .ref 4, .ref (22 + 4 * i + 1), .ref (22 + 4 * i + 2), .ref (22 + 4 * i + 3), vi ((σ.R i).y σ.p), vi (σ.R i).vv, vi ((σ.R i).a σ.p), vi (σ.R i).ww, vi (σ.R i).cc, vi (σ.R i).tt, vi (σ.R i).mm, vi (σ.R i).rr]) := hri.2.1
  refine x_aload_n (dT U_X10_masksAreTrue 0 rfl) rfl ?_
  refine x_invokevirtual (rc' := rc) (rs' := rs) (rc2 := 0) (rs2 := 0) (As := []) (st := _) M_X7_accepted K_X10_325 (dT U_X10_masksAreTrue 1 rfl) rfl rfl (by decide) rfl rfl hRi (by omega) (by decide) rfl (Nat.le_of_ble_eq_true rfl) rfl (by decide) (Nat.le_of_ble_eq_true rfl) rfl rfl ?_
  refine S_X7_accepted v.p hri oki w.gw (fun q1 => ?_) (fun q0 => ?_)
  · refine xRet_some ?_
    refine x_if_ne (tgt := 9) (dT U_X10_masksAreTrue 2 rfl) (by decide) (by unfold xr at *; omega) (fun c4 => ?_) (fun c4 => ?_)
    · skip
      refine x_iconst (dT U_X10_masksAreTrue 5 rfl) ?_
      refine x_istore_n (ls' := [some (.ref _), some (.ref _), some (vi _), none, none]) (dT U_X10_masksAreTrue 6 rfl) (by decide) rfl ?_
      have L : ∀ (n t : Nat), t + n = 8 → ∀ h1 : xH, FC h h1 → CW σ h1 → X G m_X10_masksAreTrue (d + 5) rc rs ex 11 [some (.ref 3), some (.ref (22 + 4 * i)), some (vi (t : Int)), none, none] [] h1 Q := by
        intro n
        induction n with
        | zero =>
          intro t hi h1 g1 w1
          refine x_iload_n (dT U_X10_masksAreTrue 7 rfl) rfl ?_
          refine x_bipush (dT U_X10_masksAreTrue 8 rfl) (by decide) ?_
          refine x_icmp_ge (tgt := 87) (dT U_X10_masksAreTrue 9 rfl) (by decide) (by unfold xr at *; omega) (by unfold xr at *; omega) (fun c14 => ?_) (fun c14 => ?_)
          · skip
            refine x_iconst (dT U_X10_masksAreTrue 48 rfl) ?_
            refine x_zreturn (dT U_X10_masksAreTrue 49 rfl) rfl (by omega) ?_
            exact k h1 g1 w1
          · exfalso; omega
        | succ n ih =>
          intro t hi h1 g1 w1
          refine x_iload_n (dT U_X10_masksAreTrue 7 rfl) rfl ?_
          refine x_bipush (dT U_X10_masksAreTrue 8 rfl) (by decide) ?_
          refine x_icmp_ge (tgt := 87) (dT U_X10_masksAreTrue 9 rfl) (by decide) (by unfold xr at *; omega) (by unfold xr at *; omega) (fun c14 => ?_) (fun c14 => ?_)
          · exfalso; omega
          · skip
            refine x_aload_n (dT U_X10_masksAreTrue 10 rfl) rfl ?_
            refine x_getfield F_X10_21 (dT U_X10_masksAreTrue 11 rfl) w1.c3 (Nat.le_of_ble_eq_true rfl) rfl ?_
            refine x_aload_n (dT U_X10_masksAreTrue 12 rfl) rfl ?_
            refine x_getfield F_X10_27 (dT U_X10_masksAreTrue 13 rfl) w1.c3 (Nat.le_of_ble_eq_true rfl) rfl ?_
            refine x_iload_n (dT U_X10_masksAreTrue 14 rfl) rfl ?_
            refine x_aaload (t) (dT U_X10_masksAreTrue 15 rfl) w1.c9 (Nat.le_of_ble_eq_true rfl) (by decide) rfl (rowsL_get (by omega)) (Nat.le_of_ble_eq_true rfl) ?_
            refine x_aload_n (dT U_X10_masksAreTrue 16 rfl) rfl ?_
            refine x_getfield F_X10_378 (dT U_X10_masksAreTrue 17 rfl) (show _ = some (cO 7 [.ref 5, .ref 4, .ref (22 + 4 * i + 1), .ref (22 + 4 * i + 2), .ref (22 + 4 * i + 3), vi ((σ.R i).y σ.p), vi (σ.R i).vv, vi ((σ.R i).a σ.p), vi (σ.R i).ww, vi (σ.R i).cc, vi (σ.R i).tt, vi (σ.R i).mm, vi (σ.R i).rr]) from (w1.runs i hI).2.1) (by omega) rfl ?_
            refine x_invokevirtual (rc' := rc) (rs' := rs) (rc2 := 0) (rs2 := 0) (As := [_, _]) (st := _) M_X3_blindFor K_X10_239 (dT U_X10_masksAreTrue 18 rfl) rfl rfl (by decide) rfl rfl w1.gw.2.1 (Nat.le_of_ble_eq_true rfl) (by decide) rfl (Nat.le_of_ble_eq_true rfl) rfl (by decide) (Nat.le_of_ble_eq_true rfl) rfl rfl ?_
            obtain ⟨s68l, hs68, ls68⟩ := w1.s68
            have ht8 : t < 8 := by omega
            have ey := RS.y1 (p := σ.p) (R := σ.R i) (by have := q1.1; omega)
            have se := oki.e (by have := q1.1; omega)
            have em := MM_b v.p se
            rw [ey]
            refine S_X3_blindFor w1.gw v.p (w1.rows t ht8) (by omega) (v.rw t ht8) (by unfold xr; omega) (exI_MM v.p se) ?_
            have bb : inb ((((σ.R i).e - wt σ.p (σ.rw t)) % (σ.p : Int)) * (iv σ.p (bs σ.p 8) : Int) % (σ.p : Int)) σ.p := modb (by omega)
            refine xRet_some ?_
            refine x_istore_n (ls' := [some (.ref _), some (.ref _), some (vi _), some (vi _), none]) (dT U_X10_masksAreTrue 19 rfl) (by decide) rfl ?_
            refine x_aload_n (dT U_X10_masksAreTrue 20 rfl) rfl ?_
            refine x_aload_n (dT U_X10_masksAreTrue 21 rfl) rfl ?_
            refine x_getfield F_X10_27 (dT U_X10_masksAreTrue 22 rfl) w1.c3 (Nat.le_of_ble_eq_true rfl) rfl ?_
            refine x_iload_n (dT U_X10_masksAreTrue 23 rfl) rfl ?_
            refine x_aaload (t) (dT U_X10_masksAreTrue 24 rfl) w1.c9 (Nat.le_of_ble_eq_true rfl) (by decide) rfl (rowsL_get (by omega)) (Nat.le_of_ble_eq_true rfl) ?_
            refine x_iload_n (dT U_X10_masksAreTrue 25 rfl) rfl ?_
            refine x_invokevirtual (rc' := rc) (rs' := rs) (rc2 := 0) (rs2 := 0) (As := [_, _]) (st := _) M_X7_suits K_X10_341 (dT U_X10_masksAreTrue 26 rfl) rfl rfl (by decide) rfl rfl (show _ = some (cO 7 [.ref 5, .ref 4, .ref (22 + 4 * i + 1), .ref (22 + 4 * i + 2), .ref (22 + 4 * i + 3), vi ((σ.R i).y σ.p), vi (σ.R i).vv, vi ((σ.R i).a σ.p), vi (σ.R i).ww, vi (σ.R i).cc, vi (σ.R i).tt, vi (σ.R i).mm, vi (σ.R i).rr]) from (w1.runs i hI).2.1) (by omega) (by decide) rfl (Nat.le_of_ble_eq_true rfl) rfl (by decide) (Nat.le_of_ble_eq_true rfl) rfl rfl ?_
            refine S_X7_suits v.p (w1.runs i hI) oki w1.gw (w1.rows t ht8) ⟨by omega, by omega, by omega, by omega, by omega, by omega⟩ (v.rw t ht8) bb (fun su => ?_) (fun su => ?_)
            · refine xRet_some ?_
              refine x_if_eq (tgt := 81) (dT U_X10_masksAreTrue 27 rfl) (by decide) (by unfold xr at *; omega) (fun c46 => ?_) (fun c46 => ?_)
              · exfalso; omega
              · skip
                refine x_aload_n (dT U_X10_masksAreTrue 28 rfl) rfl ?_
                refine x_aload_n (dT U_X10_masksAreTrue 29 rfl) rfl ?_
                refine x_getfield F_X10_27 (dT U_X10_masksAreTrue 30 rfl) w1.c3 (Nat.le_of_ble_eq_true rfl) rfl ?_
                refine x_iload_n (dT U_X10_masksAreTrue 31 rfl) rfl ?_
                refine x_aaload (t) (dT U_X10_masksAreTrue 32 rfl) w1.c9 (Nat.le_of_ble_eq_true rfl) (by decide) rfl (rowsL_get (by omega)) (Nat.le_of_ble_eq_true rfl) ?_
                refine x_iload_n (dT U_X10_masksAreTrue 33 rfl) rfl ?_
                refine x_aload_n (dT U_X10_masksAreTrue 34 rfl) rfl ?_
                refine x_getfield F_X10_96 (dT U_X10_masksAreTrue 35 rfl) w1.c3 (Nat.le_of_ble_eq_true rfl) rfl ?_
                refine x_invokevirtual (rc' := rc) (rs' := rs) (rc2 := 0) (rs2 := 0) (As := [_, _, _]) (st := _) M_X7_maskWith K_X10_346 (dT U_X10_masksAreTrue 36 rfl) rfl rfl (by decide) rfl rfl (show _ = some (cO 7 [.ref 5, .ref 4, .ref (22 + 4 * i + 1), .ref (22 + 4 * i + 2), .ref (22 + 4 * i + 3), vi ((σ.R i).y σ.p), vi (σ.R i).vv, vi ((σ.R i).a σ.p), vi (σ.R i).ww, vi (σ.R i).cc, vi (σ.R i).tt, vi (σ.R i).mm, vi (σ.R i).rr]) from (w1.runs i hI).2.1) (by omega) (by decide) rfl (Nat.le_of_ble_eq_true rfl) rfl (by decide) (Nat.le_of_ble_eq_true rfl) rfl rfl ?_
                refine S_X7_maskWith v.p (w1.runs i hI) oki w1.gw (w1.rows t ht8) ⟨by omega, by omega, by omega, by omega, by omega, by omega⟩ (v.rw t ht8) hs68 ⟨by omega, by omega, by omega⟩ ls68 q1.1 bb ?_
                refine xRet_some ?_
                have w2 : CW σ (h1.set 68 (cA 0 (tab (fun u => ((σ.R i).answer.getD u 0 + -(σ.R i).c * (σ.rw t).getD u 0) % (σ.p : Int)) 8))) := w1.t68 ((Ag.rf 68 68 h1).set (by omega)) (hset_eq hs68) (tab_len _ _)
                have ms := mask_starts hp.1 oki q1 su
                refine x_istore (ls' := [some (.ref _), some (.ref _), some (vi _), some (vi _), some (vi _)]) (dT U_X10_masksAreTrue 37 rfl) (by decide) rfl ?_
                refine x_aload_n (dT U_X10_masksAreTrue 38 rfl) rfl ?_
                refine x_aload_n (dT U_X10_masksAreTrue 39 rfl) rfl ?_
                refine x_getfield F_X10_96 (dT U_X10_masksAreTrue 40 rfl) w2.c3 (Nat.le_of_ble_eq_true rfl) rfl ?_
                refine x_iload (dT U_X10_masksAreTrue 41 rfl) rfl ?_
                refine x_invokevirtual (rc' := rc) (rs' := rs) (rc2 := 0) (rs2 := 0) (As := [_, _]) (st := _) M_X7_startsFrom K_X10_571 (dT U_X10_masksAreTrue 42 rfl) rfl rfl (by decide) rfl rfl (show _ = some (cO 7 [.ref 5, .ref 4, .ref (22 + 4 * i + 1), .ref (22 + 4 * i + 2), .ref (22 + 4 * i + 3), vi ((σ.R i).y σ.p), vi (σ.R i).vv, vi ((σ.R i).a σ.p), vi (σ.R i).ww, vi (σ.R i).cc, vi (σ.R i).tt, vi (σ.R i).mm, vi (σ.R i).rr]) from (w2.runs i hI).2.1) (by omega) (by decide) rfl (Nat.le_of_ble_eq_true rfl) rfl (by decide) (Nat.le_of_ble_eq_true rfl) rfl rfl ?_
                refine S_X7_startsFrom v.p (w2.runs i hI) oki w2.gw (hset_eq hs68) ⟨by omega, by omega, by omega, by omega, by omega, by omega⟩ (Fl_tab (by omega) (fun _ _ => modb (by omega))) q1.1 (modb (by omega)) (fun _ => ?_) (fun z => absurd ms z)
                refine xRet_some ?_
                refine x_if_ne (tgt := 81) (dT U_X10_masksAreTrue 43 rfl) (by decide) (by unfold xr at *; omega) (fun c76 => ?_) (fun c76 => ?_)
                · skip
                  refine x_iinc (ls' := [some (.ref _), some (.ref _), some (vi _), some (vi _), some (vi _)]) (dT U_X10_masksAreTrue 46 rfl) (by decide) rfl rfl ?_
                  refine x_goto (tgt := 11) (dT U_X10_masksAreTrue 47 rfl) (by decide) ?_
                  refine x_drop ?_ (ih (t + 1) (by omega) _ ((Ag.tr g1 (((Ag.rf 3 69 h1).set (by omega)))).w (by omega)) w2)
                  repeat (first | exact trivial | refine ⟨rfl, ?_⟩ | refine ⟨trivial, ?_⟩)
                · exfalso; omega
            · refine xRet_some ?_
              refine x_if_eq (tgt := 81) (dT U_X10_masksAreTrue 27 rfl) (by decide) (by unfold xr at *; omega) (fun c46 => ?_) (fun c46 => ?_)
              · skip
                refine x_iinc (ls' := [some (.ref _), some (.ref _), some (vi _), some (vi _), none]) (dT U_X10_masksAreTrue 46 rfl) (by decide) rfl rfl ?_
                refine x_goto (tgt := 11) (dT U_X10_masksAreTrue 47 rfl) (by decide) ?_
                refine x_drop ?_ (ih (t + 1) (by omega) h1 g1 w1)
                repeat (first | exact trivial | refine ⟨rfl, ?_⟩ | refine ⟨trivial, ?_⟩)
              · exfalso; omega
      exact L 8 0 (by omega) h (Ag.rf 3 69 h) w
    · exfalso; omega
  · refine xRet_some ?_
    refine x_if_ne (tgt := 9) (dT U_X10_masksAreTrue 2 rfl) (by decide) (by unfold xr at *; omega) (fun c4 => ?_) (fun c4 => ?_)
    · exfalso; omega
    · skip
      refine x_iconst (dT U_X10_masksAreTrue 3 rfl) ?_
      refine x_zreturn (dT U_X10_masksAreTrue 4 rfl) rfl (by omega) ?_
      exact k h (Ag.rf 3 69 h) w
