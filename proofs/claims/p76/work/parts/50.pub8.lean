set_option maxRecDepth 20000 in
set_option maxHeartbeats 1000000 in
theorem S_X10_play {G : xG} {d rc rs : Nat} {ex : Bool} {h : xH} {Q : xQ} {σ : St} {row claim : Int} (w : CW σ h) (v : INV σ) (h_row : xr row) (h_claim : xr claim) (e1 : ¬ (inb row 8) → Q (.inr IOE) false h) (e2 : (inb row 8) → ¬ (inb claim σ.p) → Q (.inr IAE) false h) (k : (inb row 8) → (inb claim σ.p) → ∀ i9 : Int, (i9 = 1 ∧ claim = cr σ.p (σ.rw row.toNat) 0 ∨ i9 = 0) → ∀ h2, FC h h2 → CW (σ.sg (1, 0, i9, claim, 0, σ.g.z, σ.g.o, σ.rw row.toNat, σ.rw row.toNat, σ.g.dr)) h2 → Q (.inl (some (vi (wnn σ.p (σ.rw row.toNat) 0 0 claim σ.g.z σ.g.o)))) ex h2) : X G m_X10_play (d + 7) (rc + 2) (rs + 12) ex 0 (xe m_X10_play.2.2.1 [.ref 3, vi row, vi claim]) [] h Q := by
  show X G m_X10_play _ _ _ _ 0 [some (.ref 3), some (vi row), some (vi claim), none] [] h Q
  have hp := PRb v.p
  have hq := gq_b v.p
  have hG : h[52]? = some (cO 2 [.ref 4, .ref 53, vi σ.g.b, vi σ.g.s, vi σ.g.i, vi σ.g.c, vi (σ.g.r : Int), vi σ.g.z, vi σ.g.o]) := w.c52
  obtain ⟨gb, gs9, gi9, gr, gsr, gc, gz, go, gl8, gt8, gd3, gB⟩ := v.g
  refine x_aload_n (dT U_X10_play 0 rfl) rfl ?_
  refine x_iload_n (dT U_X10_play 1 rfl) rfl ?_
  refine x_invokevirtual (rc' := rc + 1) (rs' := rs + 6) (rc2 := 1) (rs2 := 6) (As := [_]) (st := _) M_X10_rowAt K_X10_139 (dT U_X10_play 2 rfl) rfl rfl (by decide) rfl rfl w.c3 (Nat.le_of_ble_eq_true rfl) (by decide) rfl (Nat.le_of_ble_eq_true rfl) rfl (by decide) (Nat.le_of_ble_eq_true rfl) rfl rfl ?_
  refine S_X10_rowAt w v h_row (fun q => xRet_thr (e1 (by omega))) (fun i hi ezi => ?_)
  subst ezi
  have li := v.rw i hi
  refine xRet_some ?_
  refine x_astore_n (ls' := [some (.ref _), some (vi _), some (vi _), some (.ref _)]) (dT U_X10_play 3 rfl) (by decide) rfl ?_
  refine x_aload_n (dT U_X10_play 4 rfl) rfl ?_
  refine x_iload_n (dT U_X10_play 5 rfl) rfl ?_
  refine x_invokevirtual (rc' := rc) (rs' := rs) (rc2 := 1) (rs2 := 6) (As := [_]) (st := _) M_X10_needNumber K_X10_147 (dT U_X10_play 6 rfl) rfl rfl (by decide) rfl rfl w.c3 (Nat.le_of_ble_eq_true rfl) (by decide) rfl (Nat.le_of_ble_eq_true rfl) rfl (by decide) (Nat.le_of_ble_eq_true rfl) rfl rfl ?_
  refine S_X10_needNumber w v h_claim (fun q => xRet_thr (e2 (by omega) (by omega))) (fun q1 => ?_)
  refine xRet_none ?_
  refine x_aload_n (dT U_X10_play 7 rfl) rfl ?_
  refine x_getfield F_X10_65 (dT U_X10_play 8 rfl) w.c3 (Nat.le_of_ble_eq_true rfl) rfl ?_
  refine x_aload_n (dT U_X10_play 9 rfl) rfl ?_
  refine x_iload_n (dT U_X10_play 10 rfl) rfl ?_
  refine x_invokevirtual (rc' := rc) (rs' := rs) (rc2 := 0) (rs2 := 0) (As := [_, _]) (st := _) M_X2_beginWith K_X10_458 (dT U_X10_play 11 rfl) rfl rfl (by decide) rfl rfl hG (Nat.le_of_ble_eq_true rfl) (by decide) rfl (Nat.le_of_ble_eq_true rfl) rfl (by decide) (Nat.le_of_ble_eq_true rfl) rfl rfl ?_
  refine S_X2_beginWith v.p w.gw.1 w.c52 w.c53 gl8 (w.rows i hi) (by omega) li q1 (fun i9 h9 => ?_)
  refine xRet_none ?_
  refine x_aload_n (dT U_X10_play 12 rfl) rfl ?_
  refine x_getfield F_X10_65 (dT U_X10_play 13 rfl) (hset_ne (by omega) (hset_ne (by omega) w.c3)) (Nat.le_of_ble_eq_true rfl) rfl ?_
  refine x_invokevirtual (rc' := rc) (rs' := rs) (rc2 := 0) (rs2 := 0) (As := []) (st := _) M_X2_winning K_X10_460 (dT U_X10_play 14 rfl) rfl rfl (by decide) rfl rfl (show _ = some (cO 2 [.ref 4, .ref 53, vi 1, vi 0, vi i9, vi claim, vi ((0 : Nat) : Int), vi σ.g.z, vi σ.g.o]) from (hset_ne (by omega) (hset_eq w.c52))) (Nat.le_of_ble_eq_true rfl) (by decide) rfl (Nat.le_of_ble_eq_true rfl) rfl (by decide) (Nat.le_of_ble_eq_true rfl) rfl rfl ?_
  refine S_X2_winning (r := 0) (b := 1) (s := 0) (i := i9) (c := claim) (z := σ.g.z) (o := σ.g.o) (l := σ.rw i) v.p (hset_ne (by omega) (hset_ne (by omega) w.gw.1)) (hset_ne (by omega) (hset_eq w.c52)) (hset_eq (hset_ne (by omega) w.c53)) li (by omega) (Or.inl rfl) (fun z => absurd z (by decide)) (by unfold xr; omega) (fun z => absurd z (by decide)) (fun z => absurd z (by decide)) ?_
  refine xRet_some ?_
  refine x_ireturn (dT U_X10_play 15 rfl) rfl ?_
  exact k (by omega) (by omega) i9 h9 _ (((Ag.rf 3 69 h).set (by omega)).set (by omega)) (w.game (G := (1, 0, i9, claim, 0, σ.g.z, σ.g.o, σ.rw i, σ.rw i, σ.g.dr)) (((Ag.rf 52 53 h).set (by omega)).set (by omega)) (hset_ne (by omega) (hset_eq w.c52)) (hset_eq (hset_ne (by omega) w.c53)))

set_option maxRecDepth 20000 in
set_option maxHeartbeats 1000000 in
theorem S_X10_send {G : xG} {d rc rs : Nat} {ex : Bool} {h : xH} {Q : xQ} {σ : St} {zero one : Int} (w : CW σ h) (v : INV σ) (h_zero : xr zero) (h_one : xr one) (e1 : ¬ (inb zero σ.p ∧ inb one σ.p) → Q (.inr IAE) false h) (e2 : (inb zero σ.p ∧ inb one σ.p) → ¬ (σ.g.b = 1 ∧ σ.g.s = 0 ∧ σ.g.r < 3) → Q (.inr ISE) false h) (e3 : (inb zero σ.p ∧ inb one σ.p) → (σ.g.b = 1 ∧ σ.g.s = 0 ∧ σ.g.r < 3) → ¬ ((zero + one) % (σ.p : Int) = σ.g.c) → Q (.inr ARE) false h) (k : (inb zero σ.p ∧ inb one σ.p) → (σ.g.b = 1 ∧ σ.g.s = 0 ∧ σ.g.r < 3) → ((zero + one) % (σ.p : Int) = σ.g.c) → ∀ i9 : Int, (i9 = 1 ∧ σ.g.i = 1 ∧ zero = rz σ.p σ.g.l σ.g.r ∧ one = ro σ.p σ.g.l σ.g.r ∨ i9 = 0) → ∀ h2, FC h h2 → CW (σ.sg (σ.g.b, 1, i9, σ.g.c, σ.g.r, zero, one, σ.g.l, σ.g.tbl, σ.g.dr)) h2 → Q (.inl (some (vi (wnn σ.p σ.g.l σ.g.r 1 σ.g.c zero one)))) ex h2) : X G m_X10_send (d + 7) (rc + 4) (rs + 24) ex 0 (xe m_X10_send.2.2.1 [.ref 3, vi zero, vi one]) [] h Q := by
  show X G m_X10_send _ _ _ _ 0 [some (.ref 3), some (vi zero), some (vi one)] [] h Q
  have hp := PRb v.p
  have hq := gq_b v.p
  have hG : h[52]? = some (cO 2 [.ref 4, .ref 53, vi σ.g.b, vi σ.g.s, vi σ.g.i, vi σ.g.c, vi (σ.g.r : Int), vi σ.g.z, vi σ.g.o]) := w.c52
  obtain ⟨gb, gs9, gi9, gr, gsr, gc, gz, go, gl8, gt8, gd3, gB⟩ := v.g
  refine x_aload_n (dT U_X10_send 0 rfl) rfl ?_
  refine x_iload_n (dT U_X10_send 1 rfl) rfl ?_
  refine x_invokevirtual (rc' := rc + 3) (rs' := rs + 18) (rc2 := 1) (rs2 := 6) (As := [_]) (st := _) M_X10_needNumber K_X10_147 (dT U_X10_send 2 rfl) rfl rfl (by decide) rfl rfl w.c3 (Nat.le_of_ble_eq_true rfl) (by decide) rfl (Nat.le_of_ble_eq_true rfl) rfl (by decide) (Nat.le_of_ble_eq_true rfl) rfl rfl ?_
  refine S_X10_needNumber w v h_zero (fun q => xRet_thr (e1 (by omega))) (fun q1 => ?_)
  refine xRet_none ?_
  refine x_aload_n (dT U_X10_send 3 rfl) rfl ?_
  refine x_iload_n (dT U_X10_send 4 rfl) rfl ?_
  refine x_invokevirtual (rc' := rc + 2) (rs' := rs + 12) (rc2 := 1) (rs2 := 6) (As := [_]) (st := _) M_X10_needNumber K_X10_147 (dT U_X10_send 5 rfl) rfl rfl (by decide) rfl rfl w.c3 (Nat.le_of_ble_eq_true rfl) (by decide) rfl (Nat.le_of_ble_eq_true rfl) rfl (by decide) (Nat.le_of_ble_eq_true rfl) rfl rfl ?_
  refine S_X10_needNumber w v h_one (fun q => xRet_thr (e1 (by omega))) (fun q2 => ?_)
  refine xRet_none ?_
  refine x_aload_n (dT U_X10_send 6 rfl) rfl ?_
  refine x_invokevirtual (rc' := rc + 1) (rs' := rs + 6) (rc2 := 1) (rs2 := 6) (As := []) (st := _) M_X10_needProversTurn K_X10_463 (dT U_X10_send 7 rfl) rfl rfl (by decide) rfl rfl w.c3 (Nat.le_of_ble_eq_true rfl) (by decide) rfl (Nat.le_of_ble_eq_true rfl) rfl (by decide) (Nat.le_of_ble_eq_true rfl) rfl rfl ?_
  refine S_X10_needProversTurn w v (fun q => xRet_thr (e2 (by omega) q)) (fun t1 t2 t3 => ?_)
  obtain ⟨Bc, Bl, Bt, Bd, Be, Bz, Bi0, Bi1⟩ := gB t1
  refine xRet_none ?_
  refine x_aload_n (dT U_X10_send 8 rfl) rfl ?_
  refine x_getfield F_X10_10 (dT U_X10_send 9 rfl) w.c3 (Nat.le_of_ble_eq_true rfl) rfl ?_
  refine x_iload_n (dT U_X10_send 10 rfl) rfl ?_
  refine x_iload_n (dT U_X10_send 11 rfl) rfl ?_
  refine x_invokevirtual (rc' := rc + 1) (rs' := rs + 6) (rc2 := 0) (rs2 := 0) (As := [_, _]) (st := _) M_X1_sum K_X10_236 (dT U_X10_send 12 rfl) rfl rfl (by decide) rfl rfl w.gw.1 (Nat.le_of_ble_eq_true rfl) (by decide) rfl (Nat.le_of_ble_eq_true rfl) rfl (by decide) (Nat.le_of_ble_eq_true rfl) rfl rfl ?_
  refine S_X1_sum w.gw.1 hp (by unfold xr; omega) ?_
  have zb := modb (z := zero + one) (p := (σ.p : Int)) (by omega)
  refine xRet_some ?_
  refine x_aload_n (dT U_X10_send 13 rfl) rfl ?_
  refine x_getfield F_X10_65 (dT U_X10_send 14 rfl) w.c3 (Nat.le_of_ble_eq_true rfl) rfl ?_
  refine x_getfield F_X10_466 (dT U_X10_send 15 rfl) hG (Nat.le_of_ble_eq_true rfl) rfl ?_
  refine x_icmp_eq (tgt := 44) (dT U_X10_send 16 rfl) (by decide) (by unfold xr; omega) (by unfold xr; omega) (fun c30 => ?_) (fun c30 => ?_)
  · skip
    refine x_aload_n (dT U_X10_send 22 rfl) rfl ?_
    refine x_getfield F_X10_65 (dT U_X10_send 23 rfl) w.c3 (Nat.le_of_ble_eq_true rfl) rfl ?_
    refine x_iload_n (dT U_X10_send 24 rfl) rfl ?_
    refine x_iload_n (dT U_X10_send 25 rfl) rfl ?_
    refine x_invokevirtual (rc' := rc + 1) (rs' := rs + 6) (rc2 := 0) (rs2 := 0) (As := [_, _]) (st := _) M_X2_take K_X10_471 (dT U_X10_send 26 rfl) rfl rfl (by decide) rfl rfl hG (Nat.le_of_ble_eq_true rfl) (by decide) rfl (Nat.le_of_ble_eq_true rfl) rfl (by decide) (Nat.le_of_ble_eq_true rfl) rfl rfl ?_
    refine S_X2_take (i := σ.g.i) v.p w.gw.1 w.c52 w.c53 Bl gr gi9 q1 q2 (fun i9 h9 => ?_)
    refine xRet_none ?_
    refine x_aload_n (dT U_X10_send 27 rfl) rfl ?_
    refine x_getfield F_X10_65 (dT U_X10_send 28 rfl) (hset_ne (by omega) w.c3) (Nat.le_of_ble_eq_true rfl) rfl ?_
    refine x_invokevirtual (rc' := rc + 1) (rs' := rs + 6) (rc2 := 0) (rs2 := 0) (As := []) (st := _) M_X2_winning K_X10_460 (dT U_X10_send 29 rfl) rfl rfl (by decide) rfl rfl (show _ = some (cO 2 [.ref 4, .ref 53, vi σ.g.b, vi 1, vi i9, vi σ.g.c, vi (σ.g.r : Int), vi zero, vi one]) from hset_eq w.c52) (Nat.le_of_ble_eq_true rfl) (by decide) rfl (Nat.le_of_ble_eq_true rfl) rfl (by decide) (Nat.le_of_ble_eq_true rfl) rfl rfl ?_
    refine S_X2_winning (r := σ.g.r) (b := σ.g.b) (s := 1) (i := i9) (c := σ.g.c) (z := zero) (o := one) (l := σ.g.l) v.p (hset_ne (by omega) w.gw.1) (hset_eq w.c52) (hset_ne (by omega) w.c53) Bl gr (Or.inr rfl) (fun _ => by omega) (by unfold xr; omega) (fun _ => q1) (fun _ => q2) ?_
    refine xRet_some ?_
    refine x_ireturn (dT U_X10_send 30 rfl) rfl ?_
    exact k (by omega) ⟨t1, t2, t3⟩ (by omega) i9 h9 _ ((Ag.rf 3 69 h).set (by omega)) (w.game (G := (σ.g.b, 1, i9, σ.g.c, σ.g.r, zero, one, σ.g.l, σ.g.tbl, σ.g.dr)) ((Ag.rf 52 53 h).set (by omega)) (hset_eq w.c52) (hset_ne (by omega) w.c53))
  · skip
    refine x_throwW T_AR rfl (is := 469) (text := "both together are not the claim") (by decide) rfl (by omega) (Nat.le_of_ble_eq_true rfl) (by omega) (by omega) (dT U_X10_send 17 rfl) (dT U_X10_send 18 rfl) (dT U_X10_send 19 rfl) (dT U_X10_send 20 rfl) (dT U_X10_send 21 rfl) ?_
    exact e3 (by omega) ⟨t1, t2, t3⟩ (by omega)

set_option maxRecDepth 20000 in
set_option maxHeartbeats 1000000 in
theorem S_X10_draw {G : xG} {d rc rs : Nat} {ex : Bool} {h : xH} {Q : xQ} {σ : St} {c : Int} (w : CW σ h) (v : INV σ) (h_c : xr c) (e1 : ¬ (inb c σ.p) → Q (.inr IAE) false h) (e2 : (inb c σ.p) → ¬ (σ.g.b = 1 ∧ σ.g.s = 1) → Q (.inr ISE) false h) (k : (inb c σ.p) → (σ.g.b = 1 ∧ σ.g.s = 1) → ∀ h2, FC h h2 → CW (σ.sg (σ.g.b, 0, σ.g.i, ln σ.p σ.g.z σ.g.o c, σ.g.r + 1, σ.g.z, σ.g.o, bnd σ.p σ.g.l σ.g.r c, σ.g.tbl, σ.g.dr.set σ.g.r c)) h2 → Q (.inl (some (vi (ln σ.p σ.g.z σ.g.o c)))) ex h2) : X G m_X10_draw (d + 7) (rc + 2) (rs + 12) ex 0 (xe m_X10_draw.2.2.1 [.ref 3, vi c]) [] h Q := by
  show X G m_X10_draw _ _ _ _ 0 [some (.ref 3), some (vi c)] [] h Q
  have hp := PRb v.p
  have hq := gq_b v.p
  have hG : h[52]? = some (cO 2 [.ref 4, .ref 53, vi σ.g.b, vi σ.g.s, vi σ.g.i, vi σ.g.c, vi (σ.g.r : Int), vi σ.g.z, vi σ.g.o]) := w.c52
  obtain ⟨gb, gs9, gi9, gr, gsr, gc, gz, go, gl8, gt8, gd3, gB⟩ := v.g
  refine x_aload_n (dT U_X10_draw 0 rfl) rfl ?_
  refine x_iload_n (dT U_X10_draw 1 rfl) rfl ?_
  refine x_invokevirtual (rc' := rc + 1) (rs' := rs + 6) (rc2 := 1) (rs2 := 6) (As := [_]) (st := _) M_X10_needNumber K_X10_147 (dT U_X10_draw 2 rfl) rfl rfl (by decide) rfl rfl w.c3 (Nat.le_of_ble_eq_true rfl) (by decide) rfl (Nat.le_of_ble_eq_true rfl) rfl (by decide) (Nat.le_of_ble_eq_true rfl) rfl rfl ?_
  refine S_X10_needNumber w v h_c (fun q => xRet_thr (e1 (by omega))) (fun q1 => ?_)
  refine xRet_none ?_
  refine x_aload_n (dT U_X10_draw 3 rfl) rfl ?_
  refine x_getfield F_X10_65 (dT U_X10_draw 4 rfl) w.c3 (Nat.le_of_ble_eq_true rfl) rfl ?_
  refine x_getfield F_X10_131 (dT U_X10_draw 5 rfl) hG (Nat.le_of_ble_eq_true rfl) rfl ?_
  refine x_if_eq (tgt := 25) (dT U_X10_draw 6 rfl) (by decide) (by unfold xr; omega) (fun c12 => ?_) (fun c12 => ?_)
  · skip
    refine x_throwW T_IS rfl (is := 477) (text := "there is no function sent") (by decide) rfl (by omega) (Nat.le_of_ble_eq_true rfl) (by omega) (by omega) (dT U_X10_draw 11 rfl) (dT U_X10_draw 12 rfl) (dT U_X10_draw 13 rfl) (dT U_X10_draw 14 rfl) (dT U_X10_draw 15 rfl) ?_
    exact e2 (by omega) (by omega)
  · skip
    refine x_aload_n (dT U_X10_draw 7 rfl) rfl ?_
    refine x_getfield F_X10_65 (dT U_X10_draw 8 rfl) w.c3 (Nat.le_of_ble_eq_true rfl) rfl ?_
    refine x_getfield F_X10_474 (dT U_X10_draw 9 rfl) hG (Nat.le_of_ble_eq_true rfl) rfl ?_
    refine x_if_ne (tgt := 36) (dT U_X10_draw 10 rfl) (by decide) (by unfold xr; omega) (fun c22 => ?_) (fun c22 => ?_)
    · skip
      obtain ⟨Bc, Bl, Bt, Bd, Be, Bz, Bi0, Bi1⟩ := gB (by omega)
      have Bz2 := Bz (by omega)
      refine x_aload_n (dT U_X10_draw 16 rfl) rfl ?_
      refine x_getfield F_X10_65 (dT U_X10_draw 17 rfl) w.c3 (Nat.le_of_ble_eq_true rfl) rfl ?_
      refine x_iload_n (dT U_X10_draw 18 rfl) rfl ?_
      refine x_invokevirtual (rc' := rc + 1) (rs' := rs + 6) (rc2 := 0) (rs2 := 0) (As := [_]) (st := _) M_X2_goOn K_X10_479 (dT U_X10_draw 19 rfl) rfl rfl (by decide) rfl rfl hG (Nat.le_of_ble_eq_true rfl) (by decide) rfl (Nat.le_of_ble_eq_true rfl) rfl (by decide) (Nat.le_of_ble_eq_true rfl) rfl rfl ?_
      refine S_X2_goOn v.p w.gw.1 w.c52 w.c53 Bl gr Bz2.1 Bz2.2 q1 ?_
      refine xRet_none ?_
      refine x_aload_n (dT U_X10_draw 20 rfl) rfl ?_
      refine x_getfield F_X10_65 (dT U_X10_draw 21 rfl) (hset_ne (by omega) (hset_ne (by omega) w.c3)) (Nat.le_of_ble_eq_true rfl) rfl ?_
      refine x_getfield F_X10_466 (dT U_X10_draw 22 rfl) (show _ = some (cO 2 [.ref 4, .ref 53, vi σ.g.b, vi 0, vi σ.g.i, vi (ln σ.p σ.g.z σ.g.o c), vi ((σ.g.r + 1 : Nat) : Int), vi σ.g.z, vi σ.g.o]) from (hset_ne (by omega) (hset_eq w.c52))) (Nat.le_of_ble_eq_true rfl) rfl ?_
      refine x_ireturn (dT U_X10_draw 23 rfl) rfl ?_
      exact k (by omega) (by omega) _ (((Ag.rf 3 69 h).set (by omega)).set (by omega)) (w.game (G := (σ.g.b, 0, σ.g.i, ln σ.p σ.g.z σ.g.o c, σ.g.r + 1, σ.g.z, σ.g.o, bnd σ.p σ.g.l σ.g.r c, σ.g.tbl, σ.g.dr.set σ.g.r c)) (((Ag.rf 52 53 h).set (by omega)).set (by omega)) (hset_ne (by omega) (hset_eq w.c52)) (hset_eq (hset_ne (by omega) w.c53)))
    · skip
      refine x_throwW T_IS rfl (is := 477) (text := "there is no function sent") (by decide) rfl (by omega) (Nat.le_of_ble_eq_true rfl) (by omega) (by omega) (dT U_X10_draw 11 rfl) (dT U_X10_draw 12 rfl) (dT U_X10_draw 13 rfl) (dT U_X10_draw 14 rfl) (dT U_X10_draw 15 rfl) ?_
      exact e2 (by omega) (by omega)

set_option maxRecDepth 20000 in
set_option maxHeartbeats 1000000 in
theorem S_X10_honest {G : xG} {d rc rs : Nat} {ex : Bool} {h : xH} {Q : xQ} {σ : St} (w : CW σ h) (v : INV σ) (e1 : ¬ (σ.g.b = 1 ∧ σ.g.s = 0 ∧ σ.g.r < 3) → Q (.inr ISE) false h) (k : (σ.g.b = 1 ∧ σ.g.s = 0 ∧ σ.g.r < 3) → Q (.inl (some (vi (32 * rz σ.p σ.g.l σ.g.r + ro σ.p σ.g.l σ.g.r)))) ex h) : X G m_X10_honest (d + 7) (rc + 1) (rs + 6) ex 0 (xe m_X10_honest.2.2.1 [.ref 3]) [] h Q := by
  show X G m_X10_honest _ _ _ _ 0 [some (.ref 3)] [] h Q
  have hp := PRb v.p
  have hq := gq_b v.p
  have hG : h[52]? = some (cO 2 [.ref 4, .ref 53, vi σ.g.b, vi σ.g.s, vi σ.g.i, vi σ.g.c, vi (σ.g.r : Int), vi σ.g.z, vi σ.g.o]) := w.c52
  obtain ⟨gb, gs9, gi9, gr, gsr, gc, gz, go, gl8, gt8, gd3, gB⟩ := v.g
  refine x_aload_n (dT U_X10_honest 0 rfl) rfl ?_
  refine x_invokevirtual (rc' := rc) (rs' := rs) (rc2 := 1) (rs2 := 6) (As := []) (st := _) M_X10_needProversTurn K_X10_463 (dT U_X10_honest 1 rfl) rfl rfl (by decide) rfl rfl w.c3 (Nat.le_of_ble_eq_true rfl) (by decide) rfl (Nat.le_of_ble_eq_true rfl) rfl (by decide) (Nat.le_of_ble_eq_true rfl) rfl rfl ?_
  refine S_X10_needProversTurn w v (fun q => xRet_thr (e1 q)) (fun t1 t2 t3 => ?_)
  obtain ⟨Bc, Bl, Bt, Bd, Be, Bz, Bi0, Bi1⟩ := gB t1
  refine xRet_none ?_
  refine x_bipush (dT U_X10_honest 2 rfl) (by decide) ?_
  refine x_aload_n (dT U_X10_honest 3 rfl) rfl ?_
  refine x_getfield F_X10_65 (dT U_X10_honest 4 rfl) w.c3 (Nat.le_of_ble_eq_true rfl) rfl ?_
  refine x_invokevirtual (rc' := rc) (rs' := rs) (rc2 := 0) (rs2 := 0) (As := []) (st := _) M_X2_rightZero K_X10_482 (dT U_X10_honest 5 rfl) rfl rfl (by decide) rfl rfl hG (Nat.le_of_ble_eq_true rfl) (by decide) rfl (Nat.le_of_ble_eq_true rfl) rfl (by decide) (Nat.le_of_ble_eq_true rfl) rfl rfl ?_
  refine S_X2_rightZero v.p w.gw.1 w.c52 w.c53 Bl gr ?_
  refine xRet_some ?_
  refine x_imul (dT U_X10_honest 6 rfl) ?_
  refine x_aload_n (dT U_X10_honest 7 rfl) rfl ?_
  refine x_getfield F_X10_65 (dT U_X10_honest 8 rfl) w.c3 (Nat.le_of_ble_eq_true rfl) rfl ?_
  refine x_invokevirtual (rc' := rc) (rs' := rs) (rc2 := 0) (rs2 := 0) (As := []) (st := _) M_X2_rightOne K_X10_485 (dT U_X10_honest 9 rfl) rfl rfl (by decide) rfl rfl hG (Nat.le_of_ble_eq_true rfl) (by decide) rfl (Nat.le_of_ble_eq_true rfl) rfl (by decide) (Nat.le_of_ble_eq_true rfl) rfl rfl ?_
  refine S_X2_rightOne v.p w.gw.1 w.c52 w.c53 Bl gr ?_
  refine xRet_some ?_
  refine x_iadd (dT U_X10_honest 10 rfl) ?_
  refine x_ireturn (dT U_X10_honest 11 rfl) rfl ?_
  exact k ⟨t1, t2, t3⟩

set_option maxRecDepth 20000 in
set_option maxHeartbeats 1000000 in
theorem S_X10_isWon {G : xG} {d rc rs : Nat} {ex : Bool} {h : xH} {Q : xQ} {σ : St} (w : CW σ h) (v : INV σ) (e1 : ¬ (σ.g.b = 1) → Q (.inr ISE) false h) (k1 : (σ.g.b = 1) → σ.g.r = 3 ∧ σ.g.c = cr σ.p σ.g.l σ.g.r → Q (.inl (some (vi 1))) ex h) (k0 : (σ.g.b = 1) → ¬ (σ.g.r = 3 ∧ σ.g.c = cr σ.p σ.g.l σ.g.r) → Q (.inl (some (vi 0))) ex h) : X G m_X10_isWon (d + 7) (rc + 1) (rs + 6) ex 0 (xe m_X10_isWon.2.2.1 [.ref 3]) [] h Q := by
  show X G m_X10_isWon _ _ _ _ 0 [some (.ref 3)] [] h Q
  have hp := PRb v.p
  have hq := gq_b v.p
  have hG : h[52]? = some (cO 2 [.ref 4, .ref 53, vi σ.g.b, vi σ.g.s, vi σ.g.i, vi σ.g.c, vi (σ.g.r : Int), vi σ.g.z, vi σ.g.o]) := w.c52
  obtain ⟨gb, gs9, gi9, gr, gsr, gc, gz, go, gl8, gt8, gd3, gB⟩ := v.g
  refine x_aload_n (dT U_X10_isWon 0 rfl) rfl ?_
  refine x_invokevirtual (rc' := rc) (rs' := rs) (rc2 := 1) (rs2 := 6) (As := []) (st := _) M_X10_needGame K_X10_488 (dT U_X10_isWon 1 rfl) rfl rfl (by decide) rfl rfl w.c3 (Nat.le_of_ble_eq_true rfl) (by decide) rfl (Nat.le_of_ble_eq_true rfl) rfl (by decide) (Nat.le_of_ble_eq_true rfl) rfl rfl ?_
  refine S_X10_needGame w v (fun q => xRet_thr (e1 q)) (fun t1 => ?_)
  obtain ⟨Bc, Bl, Bt, Bd, Be, Bz, Bi0, Bi1⟩ := gB t1
  refine xRet_none ?_
  refine x_aload_n (dT U_X10_isWon 2 rfl) rfl ?_
  refine x_getfield F_X10_65 (dT U_X10_isWon 3 rfl) w.c3 (Nat.le_of_ble_eq_true rfl) rfl ?_
  refine x_getfield F_X10_491 (dT U_X10_isWon 4 rfl) hG (Nat.le_of_ble_eq_true rfl) rfl ?_
  refine x_iconst (dT U_X10_isWon 5 rfl) ?_
  refine x_icmp_ne (tgt := 29) (dT U_X10_isWon 6 rfl) (by decide) (by unfold xr; omega) (by unfold xr; omega) (fun c12 => ?_) (fun c12 => ?_)
  · skip
    refine x_iconst (dT U_X10_isWon 13 rfl) ?_
    refine x_zreturn (dT U_X10_isWon 14 rfl) rfl (by omega) ?_
    exact k0 t1 (fun z => by omega)
  · skip
    refine x_aload_n (dT U_X10_isWon 7 rfl) rfl ?_
    refine x_getfield F_X10_65 (dT U_X10_isWon 8 rfl) w.c3 (Nat.le_of_ble_eq_true rfl) rfl ?_
    refine x_invokevirtual (rc' := rc) (rs' := rs) (rc2 := 0) (rs2 := 0) (As := []) (st := _) M_X2_claimIsRight K_X10_494 (dT U_X10_isWon 9 rfl) rfl rfl (by decide) rfl rfl hG (Nat.le_of_ble_eq_true rfl) (by decide) rfl (Nat.le_of_ble_eq_true rfl) rfl (by decide) (Nat.le_of_ble_eq_true rfl) rfl rfl ?_
    refine S_X2_claimIsRight v.p w.gw.1 w.c52 w.c53 Bl gr (by unfold xr; omega) (fun q1 => ?_) (fun q0 => ?_)
    · refine xRet_some ?_
      refine x_if_eq (tgt := 29) (dT U_X10_isWon 10 rfl) (by decide) (by unfold xr at *; omega) (fun c22 => ?_) (fun c22 => ?_)
      · exfalso; omega
      · skip
        refine x_iconst (dT U_X10_isWon 11 rfl) ?_
        refine x_goto (tgt := 30) (dT U_X10_isWon 12 rfl) (by decide) ?_
        refine x_zreturn (dT U_X10_isWon 14 rfl) rfl (by omega) ?_
        exact k1 t1 ⟨by omega, q1⟩
    · refine xRet_some ?_
      refine x_if_eq (tgt := 29) (dT U_X10_isWon 10 rfl) (by decide) (by unfold xr at *; omega) (fun c22 => ?_) (fun c22 => ?_)
      · skip
        refine x_iconst (dT U_X10_isWon 13 rfl) ?_
        refine x_zreturn (dT U_X10_isWon 14 rfl) rfl (by omega) ?_
        exact k0 t1 (fun z => q0 z.2)
      · exfalso; omega

set_option maxRecDepth 20000 in
set_option maxHeartbeats 1000000 in
theorem S_X10_chances {G : xG} {d rc rs : Nat} {ex : Bool} {h : xH} {Q : xQ} {σ : St} (w : CW σ h) (v : INV σ) (e1 : ¬ (σ.g.b = 1) → Q (.inr ISE) false h) (k : (σ.g.b = 1) → Q (.inl (some (vi (wnn σ.p σ.g.l σ.g.r σ.g.s σ.g.c σ.g.z σ.g.o)))) ex h) : X G m_X10_chances (d + 7) (rc + 1) (rs + 6) ex 0 (xe m_X10_chances.2.2.1 [.ref 3]) [] h Q := by
  show X G m_X10_chances _ _ _ _ 0 [some (.ref 3)] [] h Q
  have hp := PRb v.p
  have hq := gq_b v.p
  have hG : h[52]? = some (cO 2 [.ref 4, .ref 53, vi σ.g.b, vi σ.g.s, vi σ.g.i, vi σ.g.c, vi (σ.g.r : Int), vi σ.g.z, vi σ.g.o]) := w.c52
  obtain ⟨gb, gs9, gi9, gr, gsr, gc, gz, go, gl8, gt8, gd3, gB⟩ := v.g
  refine x_aload_n (dT U_X10_chances 0 rfl) rfl ?_
  refine x_invokevirtual (rc' := rc) (rs' := rs) (rc2 := 1) (rs2 := 6) (As := []) (st := _) M_X10_needGame K_X10_488 (dT U_X10_chances 1 rfl) rfl rfl (by decide) rfl rfl w.c3 (Nat.le_of_ble_eq_true rfl) (by decide) rfl (Nat.le_of_ble_eq_true rfl) rfl (by decide) (Nat.le_of_ble_eq_true rfl) rfl rfl ?_
  refine S_X10_needGame w v (fun q => xRet_thr (e1 q)) (fun t1 => ?_)
  obtain ⟨Bc, Bl, Bt, Bd, Be, Bz, Bi0, Bi1⟩ := gB t1
  refine xRet_none ?_
  refine x_aload_n (dT U_X10_chances 2 rfl) rfl ?_
  refine x_getfield F_X10_65 (dT U_X10_chances 3 rfl) w.c3 (Nat.le_of_ble_eq_true rfl) rfl ?_
  refine x_invokevirtual (rc' := rc) (rs' := rs) (rc2 := 0) (rs2 := 0) (As := []) (st := _) M_X2_winning K_X10_460 (dT U_X10_chances 4 rfl) rfl rfl (by decide) rfl rfl hG (Nat.le_of_ble_eq_true rfl) (by decide) rfl (Nat.le_of_ble_eq_true rfl) rfl (by decide) (Nat.le_of_ble_eq_true rfl) rfl rfl ?_
  refine S_X2_winning v.p w.gw.1 w.c52 w.c53 Bl gr gs9 gsr (by unfold xr; omega) (fun z => (Bz z).1) (fun z => (Bz z).2) ?_
  refine xRet_some ?_
  refine x_ireturn (dT U_X10_chances 5 rfl) rfl ?_
  exact k t1

set_option maxRecDepth 20000 in
set_option maxHeartbeats 1000000 in
theorem S_X10_mint {G : xG} {d rc rs : Nat} {ex : Bool} {h : xH} {Q : xQ} {σ : St} {amount blind : Int} (w : CW σ h) (v : INV σ) (h_amount : xr amount) (h_blind : xr blind) (e1 : ¬ (inb amount σ.p ∧ inb blind σ.p) → Q (.inr IAE) false h) (e2 : (inb amount σ.p ∧ inb blind σ.p) → ¬ (σ.L.n + 1 ≤ 16) → Q (.inr ISE) false h) (k : (inb amount σ.p ∧ inb blind σ.p) → (σ.L.n + 1 ≤ 16) → ∀ h2, FC h h2 → CW (σ.sL (σ.L.n + 1, (σ.L.mi + (cm1 σ.p amount blind)) % (σ.p : Int), σ.L.pa, σ.L.nn.set σ.L.n (cm1 σ.p amount blind), σ.L.gl.set σ.L.n (MM σ.p (cm1 σ.p amount blind)))) h2 → Q (.inl (some (vi ((σ.L.n : Int))))) ex h2) : X G m_X10_mint (d + 7) (rc + 3) (rs + 18) ex 0 (xe m_X10_mint.2.2.1 [.ref 3, vi amount, vi blind]) [] h Q := by
  show X G m_X10_mint _ _ _ _ 0 [some (.ref 3), some (vi amount), some (vi blind)] [] h Q
  have hp := PRb v.p
  have hq := gq_b v.p
  have hL : h[54]? = some (cO 4 [.ref 5, .ref 55, vi (σ.L.n : Int), vi (MM σ.p σ.L.mi), vi (MM σ.p σ.L.pa)]) := w.c54
  obtain ⟨ln, lnn, lgl, lok, lgv, lpa, lmi⟩ := v.L
  have lmb := modb (z := stnd σ.p (gf σ.L.nn) σ.L.n + σ.L.pa) (p := (σ.p : Int)) (by omega)
  rw [← lmi] at lmb
  refine x_aload_n (dT U_X10_mint 0 rfl) rfl ?_
  refine x_iload_n (dT U_X10_mint 1 rfl) rfl ?_
  refine x_invokevirtual (rc' := rc + 2) (rs' := rs + 12) (rc2 := 1) (rs2 := 6) (As := [_]) (st := _) M_X10_needNumber K_X10_147 (dT U_X10_mint 2 rfl) rfl rfl (by decide) rfl rfl w.c3 (Nat.le_of_ble_eq_true rfl) (by decide) rfl (Nat.le_of_ble_eq_true rfl) rfl (by decide) (Nat.le_of_ble_eq_true rfl) rfl rfl ?_
  refine S_X10_needNumber w v h_amount (fun q => xRet_thr (e1 (by omega))) (fun q1 => ?_)
  refine xRet_none ?_
  refine x_aload_n (dT U_X10_mint 3 rfl) rfl ?_
  refine x_iload_n (dT U_X10_mint 4 rfl) rfl ?_
  refine x_invokevirtual (rc' := rc + 1) (rs' := rs + 6) (rc2 := 1) (rs2 := 6) (As := [_]) (st := _) M_X10_needNumber K_X10_147 (dT U_X10_mint 5 rfl) rfl rfl (by decide) rfl rfl w.c3 (Nat.le_of_ble_eq_true rfl) (by decide) rfl (Nat.le_of_ble_eq_true rfl) rfl (by decide) (Nat.le_of_ble_eq_true rfl) rfl rfl ?_
  refine S_X10_needNumber w v h_blind (fun q => xRet_thr (e1 (by omega))) (fun q2 => ?_)
  refine xRet_none ?_
  refine x_aload_n (dT U_X10_mint 6 rfl) rfl ?_
  refine x_iconst (dT U_X10_mint 7 rfl) ?_
  refine x_invokevirtual (rc' := rc) (rs' := rs) (rc2 := 1) (rs2 := 6) (As := [_]) (st := _) M_X10_needRoomForNotes K_X10_497 (dT U_X10_mint 8 rfl) rfl rfl (by decide) rfl rfl w.c3 (Nat.le_of_ble_eq_true rfl) (by decide) rfl (Nat.le_of_ble_eq_true rfl) rfl (by decide) (Nat.le_of_ble_eq_true rfl) rfl rfl ?_
  refine S_X10_needRoomForNotes (m := 1) w v (by omega) (fun q => xRet_thr (e2 (by omega) (by omega))) (fun rm => ?_)
  refine xRet_none ?_
  refine x_aload_n (dT U_X10_mint 9 rfl) rfl ?_
  refine x_getfield F_X10_72 (dT U_X10_mint 10 rfl) w.c3 (Nat.le_of_ble_eq_true rfl) rfl ?_
  refine x_aload_n (dT U_X10_mint 11 rfl) rfl ?_
  refine x_getfield F_X10_21 (dT U_X10_mint 12 rfl) w.c3 (Nat.le_of_ble_eq_true rfl) rfl ?_
  refine x_iload_n (dT U_X10_mint 13 rfl) rfl ?_
  refine x_iload_n (dT U_X10_mint 14 rfl) rfl ?_
  refine x_invokevirtual (rc' := rc) (rs' := rs) (rc2 := 0) (rs2 := 0) (As := [_, _]) (st := _) M_X3_commitmentOfOne K_X10_500 (dT U_X10_mint 15 rfl) rfl rfl (by decide) rfl rfl w.gw.2.1 (Nat.le_of_ble_eq_true rfl) (by decide) rfl (Nat.le_of_ble_eq_true rfl) rfl (by decide) (Nat.le_of_ble_eq_true rfl) rfl rfl ?_
  refine S_X3_commitmentOfOne w.gw v.p q1 q2 ?_
  refine xRet_some ?_
  refine x_invokevirtual (rc' := rc) (rs' := rs) (rc2 := 0) (rs2 := 0) (As := [_]) (st := _) M_X4_addMinted K_X10_503 (dT U_X10_mint 16 rfl) rfl rfl (by decide) rfl rfl hL (Nat.le_of_ble_eq_true rfl) (by decide) rfl (Nat.le_of_ble_eq_true rfl) rfl (by decide) (Nat.le_of_ble_eq_true rfl) rfl rfl ?_
  refine S_X4_addMinted v.p w.gw w.c54 w.c55 lgl (by omega) lmb (cm1_b hp.1) ?_
  refine xRet_some ?_
  refine x_ireturn (dT U_X10_mint 17 rfl) rfl ?_
  exact k (by omega) (by omega) _ (((Ag.rf 3 69 h).set (by omega)).set (by omega)) (w.ledg (G := (σ.L.n + 1, (σ.L.mi + (cm1 σ.p amount blind)) % (σ.p : Int), σ.L.pa, σ.L.nn.set σ.L.n (cm1 σ.p amount blind), σ.L.gl.set σ.L.n (MM σ.p (cm1 σ.p amount blind)))) (((Ag.rf 54 55 h).set (by omega)).set (by omega)) (hset_ne (by omega) (hset_eq w.c54)) (hset_eq (hset_ne (by omega) w.c55)))

set_option maxRecDepth 20000 in
set_option maxHeartbeats 1000000 in
theorem S_X10_split {G : xG} {d rc rs : Nat} {ex : Bool} {h : xH} {Q : xQ} {σ : St} {note amount blind : Int} (w : CW σ h) (v : INV σ) (h_note : xr note) (h_amount : xr amount) (h_blind : xr blind) (e1 : ¬ (inb note σ.L.n) → Q (.inr IOE) false h) (e2 : (inb note σ.L.n) → ¬ (inb amount σ.p ∧ inb blind σ.p) → Q (.inr IAE) false h) (e3 : (inb note σ.L.n) → (inb amount σ.p ∧ inb blind σ.p) → ¬ (¬ (σ.L.nn.getD note.toNat 0) = -1 ∧ σ.L.n + 2 ≤ 16) → Q (.inr ISE) false h) (k : (inb note σ.L.n) → (inb amount σ.p ∧ inb blind σ.p) → (¬ (σ.L.nn.getD note.toNat 0) = -1 ∧ σ.L.n + 2 ≤ 16) → ∀ h2, FC h h2 → CW (σ.sL (σ.L.n + 2, σ.L.mi, σ.L.pa, ((σ.L.nn.set note.toNat (-1)).set σ.L.n (cm1 σ.p amount blind)).set (σ.L.n + 1) (((σ.L.nn.getD note.toNat 0) - (cm1 σ.p amount blind)) % (σ.p : Int)), ((σ.L.gl.set note.toNat 0).set σ.L.n (MM σ.p (cm1 σ.p amount blind))).set (σ.L.n + 1) (MM σ.p (((σ.L.nn.getD note.toNat 0) - (cm1 σ.p amount blind)) % (σ.p : Int))))) h2 → Q (.inl (some (vi ((σ.L.n : Int))))) ex h2) : X G m_X10_split (d + 7) (rc + 5) (rs + 30) ex 0 (xe m_X10_split.2.2.1 [.ref 3, vi note, vi amount, vi blind]) [] h Q := by
  show X G m_X10_split _ _ _ _ 0 [some (.ref 3), some (vi note), some (vi amount), some (vi blind)] [] h Q
  have hp := PRb v.p
  have hq := gq_b v.p
  have hL : h[54]? = some (cO 4 [.ref 5, .ref 55, vi (σ.L.n : Int), vi (MM σ.p σ.L.mi), vi (MM σ.p σ.L.pa)]) := w.c54
  obtain ⟨ln, lnn, lgl, lok, lgv, lpa, lmi⟩ := v.L
  have lmb := modb (z := stnd σ.p (gf σ.L.nn) σ.L.n + σ.L.pa) (p := (σ.p : Int)) (by omega)
  rw [← lmi] at lmb
  refine x_aload_n (dT U_X10_split 0 rfl) rfl ?_
  refine x_iload_n (dT U_X10_split 1 rfl) rfl ?_
  refine x_invokevirtual (rc' := rc + 4) (rs' := rs + 24) (rc2 := 1) (rs2 := 6) (As := [_]) (st := _) M_X10_needNote K_X10_506 (dT U_X10_split 2 rfl) rfl rfl (by decide) rfl rfl w.c3 (Nat.le_of_ble_eq_true rfl) (by decide) rfl (Nat.le_of_ble_eq_true rfl) rfl (by decide) (Nat.le_of_ble_eq_true rfl) rfl rfl ?_
  refine S_X10_needNote w v h_note (fun q => xRet_thr (e1 (by omega))) (fun j hj ezj => ?_)
  subst ezj
  refine xRet_none ?_
  refine x_aload_n (dT U_X10_split 3 rfl) rfl ?_
  refine x_iload_n (dT U_X10_split 4 rfl) rfl ?_
  refine x_invokevirtual (rc' := rc + 3) (rs' := rs + 18) (rc2 := 1) (rs2 := 6) (As := [_]) (st := _) M_X10_needNumber K_X10_147 (dT U_X10_split 5 rfl) rfl rfl (by decide) rfl rfl w.c3 (Nat.le_of_ble_eq_true rfl) (by decide) rfl (Nat.le_of_ble_eq_true rfl) rfl (by decide) (Nat.le_of_ble_eq_true rfl) rfl rfl ?_
  refine S_X10_needNumber w v h_amount (fun q => xRet_thr (e2 (by omega) (by omega))) (fun q1 => ?_)
  refine xRet_none ?_
  refine x_aload_n (dT U_X10_split 6 rfl) rfl ?_
  refine x_iload_n (dT U_X10_split 7 rfl) rfl ?_
  refine x_invokevirtual (rc' := rc + 2) (rs' := rs + 12) (rc2 := 1) (rs2 := 6) (As := [_]) (st := _) M_X10_needNumber K_X10_147 (dT U_X10_split 8 rfl) rfl rfl (by decide) rfl rfl w.c3 (Nat.le_of_ble_eq_true rfl) (by decide) rfl (Nat.le_of_ble_eq_true rfl) rfl (by decide) (Nat.le_of_ble_eq_true rfl) rfl rfl ?_
  refine S_X10_needNumber w v h_blind (fun q => xRet_thr (e2 (by omega) (by omega))) (fun q2 => ?_)
  refine xRet_none ?_
  refine x_aload_n (dT U_X10_split 9 rfl) rfl ?_
  refine x_iload_n (dT U_X10_split 10 rfl) rfl ?_
  refine x_invokevirtual (rc' := rc + 1) (rs' := rs + 6) (rc2 := 1) (rs2 := 6) (As := [_]) (st := _) M_X10_needUnspent K_X10_509 (dT U_X10_split 11 rfl) rfl rfl (by decide) rfl rfl w.c3 (Nat.le_of_ble_eq_true rfl) (by decide) rfl (Nat.le_of_ble_eq_true rfl) rfl (by decide) (Nat.le_of_ble_eq_true rfl) rfl rfl ?_
  refine S_X10_needUnspent w v hj (fun q => xRet_thr (e3 (by omega) (by omega) (fun z => z.1 q))) (fun uj => ?_)
  have rj := lok j hj
  have gj := lgv j hj
  rw [show nv σ.p (σ.L.nn.getD j 0) = MM σ.p (σ.L.nn.getD j 0) from if_neg uj] at gj
  refine xRet_none ?_
  refine x_aload_n (dT U_X10_split 12 rfl) rfl ?_
  refine x_iconst (dT U_X10_split 13 rfl) ?_
  refine x_invokevirtual (rc' := rc) (rs' := rs) (rc2 := 1) (rs2 := 6) (As := [_]) (st := _) M_X10_needRoomForNotes K_X10_497 (dT U_X10_split 14 rfl) rfl rfl (by decide) rfl rfl w.c3 (Nat.le_of_ble_eq_true rfl) (by decide) rfl (Nat.le_of_ble_eq_true rfl) rfl (by decide) (Nat.le_of_ble_eq_true rfl) rfl rfl ?_
  refine S_X10_needRoomForNotes (m := 2) w v (by omega) (fun q => xRet_thr (e3 (by omega) (by omega) (fun z => q z.2))) (fun rm => ?_)
  refine xRet_none ?_
  refine x_aload_n (dT U_X10_split 15 rfl) rfl ?_
  refine x_getfield F_X10_72 (dT U_X10_split 16 rfl) w.c3 (Nat.le_of_ble_eq_true rfl) rfl ?_
  refine x_iload_n (dT U_X10_split 17 rfl) rfl ?_
  refine x_aload_n (dT U_X10_split 18 rfl) rfl ?_
  refine x_getfield F_X10_21 (dT U_X10_split 19 rfl) w.c3 (Nat.le_of_ble_eq_true rfl) rfl ?_
  refine x_iload_n (dT U_X10_split 20 rfl) rfl ?_
  refine x_iload_n (dT U_X10_split 21 rfl) rfl ?_
  refine x_invokevirtual (rc' := rc) (rs' := rs) (rc2 := 0) (rs2 := 0) (As := [_, _]) (st := _) M_X3_commitmentOfOne K_X10_500 (dT U_X10_split 22 rfl) rfl rfl (by decide) rfl rfl w.gw.2.1 (Nat.le_of_ble_eq_true rfl) (by decide) rfl (Nat.le_of_ble_eq_true rfl) rfl (by decide) (Nat.le_of_ble_eq_true rfl) rfl rfl ?_
  refine S_X3_commitmentOfOne w.gw v.p q1 q2 ?_
  refine xRet_some ?_
  refine x_invokevirtual (rc' := rc) (rs' := rs) (rc2 := 0) (rs2 := 0) (As := [_, _]) (st := _) M_X4_divideNote K_X10_512 (dT U_X10_split 23 rfl) rfl rfl (by decide) rfl rfl hL (Nat.le_of_ble_eq_true rfl) (by decide) rfl (Nat.le_of_ble_eq_true rfl) rfl (by decide) (Nat.le_of_ble_eq_true rfl) rfl rfl ?_
  refine S_X4_divideNote v.p w.gw w.c54 w.c55 lgl rm hj gj (by omega) (cm1_b hp.1) ?_
  refine xRet_some ?_
  refine x_ireturn (dT U_X10_split 24 rfl) rfl ?_
  exact k (by omega) (by omega) ⟨uj, rm⟩ _ (((Ag.rf 3 69 h).set (by omega)).set (by omega)) (w.ledg (G := (σ.L.n + 2, σ.L.mi, σ.L.pa, ((σ.L.nn.set j (-1)).set σ.L.n (cm1 σ.p amount blind)).set (σ.L.n + 1) (((σ.L.nn.getD j 0) - (cm1 σ.p amount blind)) % (σ.p : Int)), ((σ.L.gl.set j 0).set σ.L.n (MM σ.p (cm1 σ.p amount blind))).set (σ.L.n + 1) (MM σ.p (((σ.L.nn.getD j 0) - (cm1 σ.p amount blind)) % (σ.p : Int))))) (((Ag.rf 54 55 h).set (by omega)).set (by omega)) (hset_ne (by omega) (hset_eq w.c54)) (hset_eq (hset_ne (by omega) w.c55)))

set_option maxRecDepth 20000 in
set_option maxHeartbeats 1000000 in
theorem S_X10_merge {G : xG} {d rc rs : Nat} {ex : Bool} {h : xH} {Q : xQ} {σ : St} {note second : Int} (w : CW σ h) (v : INV σ) (h_note : xr note) (h_second : xr second) (e1 : ¬ (inb note σ.L.n ∧ inb second σ.L.n) → Q (.inr IOE) false h) (e2 : (inb note σ.L.n ∧ inb second σ.L.n) → ¬ (¬ note = second) → Q (.inr IAE) false h) (e3 : (inb note σ.L.n ∧ inb second σ.L.n) → (¬ note = second) → ¬ (¬ (σ.L.nn.getD note.toNat 0) = -1 ∧ ¬ (σ.L.nn.getD second.toNat 0) = -1 ∧ σ.L.n + 1 ≤ 16) → Q (.inr ISE) false h) (k : (inb note σ.L.n ∧ inb second σ.L.n) → (¬ note = second) → (¬ (σ.L.nn.getD note.toNat 0) = -1 ∧ ¬ (σ.L.nn.getD second.toNat 0) = -1 ∧ σ.L.n + 1 ≤ 16) → ∀ h2, FC h h2 → CW (σ.sL (σ.L.n + 1, σ.L.mi, σ.L.pa, ((σ.L.nn.set note.toNat (-1)).set second.toNat (-1)).set σ.L.n (((σ.L.nn.getD note.toNat 0) + (σ.L.nn.getD second.toNat 0)) % (σ.p : Int)), ((σ.L.gl.set note.toNat 0).set second.toNat 0).set σ.L.n (MM σ.p (((σ.L.nn.getD note.toNat 0) + (σ.L.nn.getD second.toNat 0)) % (σ.p : Int))))) h2 → Q (.inl (some (vi ((σ.L.n : Int))))) ex h2) : X G m_X10_merge (d + 7) (rc + 6) (rs + 36) ex 0 (xe m_X10_merge.2.2.1 [.ref 3, vi note, vi second]) [] h Q := by
  show X G m_X10_merge _ _ _ _ 0 [some (.ref 3), some (vi note), some (vi second)] [] h Q
  have hp := PRb v.p
  have hq := gq_b v.p
  have hL : h[54]? = some (cO 4 [.ref 5, .ref 55, vi (σ.L.n : Int), vi (MM σ.p σ.L.mi), vi (MM σ.p σ.L.pa)]) := w.c54
  obtain ⟨ln, lnn, lgl, lok, lgv, lpa, lmi⟩ := v.L
  have lmb := modb (z := stnd σ.p (gf σ.L.nn) σ.L.n + σ.L.pa) (p := (σ.p : Int)) (by omega)
  rw [← lmi] at lmb
  refine x_aload_n (dT U_X10_merge 0 rfl) rfl ?_
  refine x_iload_n (dT U_X10_merge 1 rfl) rfl ?_
  refine x_invokevirtual (rc' := rc + 5) (rs' := rs + 30) (rc2 := 1) (rs2 := 6) (As := [_]) (st := _) M_X10_needNote K_X10_506 (dT U_X10_merge 2 rfl) rfl rfl (by decide) rfl rfl w.c3 (Nat.le_of_ble_eq_true rfl) (by decide) rfl (Nat.le_of_ble_eq_true rfl) rfl (by decide) (Nat.le_of_ble_eq_true rfl) rfl rfl ?_
  refine S_X10_needNote w v h_note (fun q => xRet_thr (e1 (by omega))) (fun j hj ezj => ?_)
  subst ezj
  refine xRet_none ?_
  refine x_aload_n (dT U_X10_merge 3 rfl) rfl ?_
  refine x_iload_n (dT U_X10_merge 4 rfl) rfl ?_
  refine x_invokevirtual (rc' := rc + 4) (rs' := rs + 24) (rc2 := 1) (rs2 := 6) (As := [_]) (st := _) M_X10_needNote K_X10_506 (dT U_X10_merge 5 rfl) rfl rfl (by decide) rfl rfl w.c3 (Nat.le_of_ble_eq_true rfl) (by decide) rfl (Nat.le_of_ble_eq_true rfl) rfl (by decide) (Nat.le_of_ble_eq_true rfl) rfl rfl ?_
  refine S_X10_needNote w v h_second (fun q => xRet_thr (e1 (by omega))) (fun t ht ezt => ?_)
  subst ezt
  refine xRet_none ?_
  refine x_iload_n (dT U_X10_merge 6 rfl) rfl ?_
  refine x_iload_n (dT U_X10_merge 7 rfl) rfl ?_
  refine x_icmp_ne (tgt := 26) (dT U_X10_merge 8 rfl) (by decide) (by unfold xr; omega) (by unfold xr; omega) (fun c12 => ?_) (fun c12 => ?_)
  · skip
    refine x_aload_n (dT U_X10_merge 14 rfl) rfl ?_
    refine x_iload_n (dT U_X10_merge 15 rfl) rfl ?_
    refine x_invokevirtual (rc' := rc + 3) (rs' := rs + 18) (rc2 := 1) (rs2 := 6) (As := [_]) (st := _) M_X10_needUnspent K_X10_509 (dT U_X10_merge 16 rfl) rfl rfl (by decide) rfl rfl w.c3 (Nat.le_of_ble_eq_true rfl) (by decide) rfl (Nat.le_of_ble_eq_true rfl) rfl (by decide) (Nat.le_of_ble_eq_true rfl) rfl rfl ?_
    refine S_X10_needUnspent w v hj (fun q => xRet_thr (e3 (by omega) (by omega) (fun z => z.1 q))) (fun uj => ?_)
    have rj := lok j hj
    have gj := lgv j hj
    rw [show nv σ.p (σ.L.nn.getD j 0) = MM σ.p (σ.L.nn.getD j 0) from if_neg uj] at gj
    refine xRet_none ?_
    refine x_aload_n (dT U_X10_merge 17 rfl) rfl ?_
    refine x_iload_n (dT U_X10_merge 18 rfl) rfl ?_
    refine x_invokevirtual (rc' := rc + 2) (rs' := rs + 12) (rc2 := 1) (rs2 := 6) (As := [_]) (st := _) M_X10_needUnspent K_X10_509 (dT U_X10_merge 19 rfl) rfl rfl (by decide) rfl rfl w.c3 (Nat.le_of_ble_eq_true rfl) (by decide) rfl (Nat.le_of_ble_eq_true rfl) rfl (by decide) (Nat.le_of_ble_eq_true rfl) rfl rfl ?_
    refine S_X10_needUnspent w v ht (fun q => xRet_thr (e3 (by omega) (by omega) (fun z => z.2.1 q))) (fun ut => ?_)
    have rt := lok t ht
    have gt := lgv t ht
    rw [show nv σ.p (σ.L.nn.getD t 0) = MM σ.p (σ.L.nn.getD t 0) from if_neg ut] at gt
    refine xRet_none ?_
    refine x_aload_n (dT U_X10_merge 20 rfl) rfl ?_
    refine x_iconst (dT U_X10_merge 21 rfl) ?_
    refine x_invokevirtual (rc' := rc + 1) (rs' := rs + 6) (rc2 := 1) (rs2 := 6) (As := [_]) (st := _) M_X10_needRoomForNotes K_X10_497 (dT U_X10_merge 22 rfl) rfl rfl (by decide) rfl rfl w.c3 (Nat.le_of_ble_eq_true rfl) (by decide) rfl (Nat.le_of_ble_eq_true rfl) rfl (by decide) (Nat.le_of_ble_eq_true rfl) rfl rfl ?_
    refine S_X10_needRoomForNotes (m := 1) w v (by omega) (fun q => xRet_thr (e3 (by omega) (by omega) (fun z => q z.2.2))) (fun rm => ?_)
    refine xRet_none ?_
    refine x_aload_n (dT U_X10_merge 23 rfl) rfl ?_
    refine x_getfield F_X10_72 (dT U_X10_merge 24 rfl) w.c3 (Nat.le_of_ble_eq_true rfl) rfl ?_
    refine x_iload_n (dT U_X10_merge 25 rfl) rfl ?_
    refine x_iload_n (dT U_X10_merge 26 rfl) rfl ?_
    refine x_invokevirtual (rc' := rc + 1) (rs' := rs + 6) (rc2 := 0) (rs2 := 0) (As := [_, _]) (st := _) M_X4_join K_X10_517 (dT U_X10_merge 27 rfl) rfl rfl (by decide) rfl rfl hL (Nat.le_of_ble_eq_true rfl) (by decide) rfl (Nat.le_of_ble_eq_true rfl) rfl (by decide) (Nat.le_of_ble_eq_true rfl) rfl rfl ?_
    refine S_X4_join v.p w.gw w.c54 w.c55 lgl (by omega) hj ht gj gt (by omega) (by omega) ?_
    refine xRet_some ?_
    refine x_ireturn (dT U_X10_merge 28 rfl) rfl ?_
    exact k (by omega) (by omega) ⟨uj, ut, rm⟩ _ (((Ag.rf 3 69 h).set (by omega)).set (by omega)) (w.ledg (G := (σ.L.n + 1, σ.L.mi, σ.L.pa, ((σ.L.nn.set j (-1)).set t (-1)).set σ.L.n (((σ.L.nn.getD j 0) + (σ.L.nn.getD t 0)) % (σ.p : Int)), ((σ.L.gl.set j 0).set t 0).set σ.L.n (MM σ.p (((σ.L.nn.getD j 0) + (σ.L.nn.getD t 0)) % (σ.p : Int))))) (((Ag.rf 54 55 h).set (by omega)).set (by omega)) (hset_ne (by omega) (hset_eq w.c54)) (hset_eq (hset_ne (by omega) w.c55)))
  · skip
    refine x_throwW T_IA rfl (is := 515) (text := "they are the same note") (by decide) rfl (by omega) (Nat.le_of_ble_eq_true rfl) (by omega) (by omega) (dT U_X10_merge 9 rfl) (dT U_X10_merge 10 rfl) (dT U_X10_merge 11 rfl) (dT U_X10_merge 12 rfl) (dT U_X10_merge 13 rfl) ?_
    exact e2 (by omega) (by omega)

set_option maxRecDepth 20000 in
set_option maxHeartbeats 1000000 in
theorem S_X10_note {G : xG} {d rc rs : Nat} {ex : Bool} {h : xH} {Q : xQ} {σ : St} {note : Int} (w : CW σ h) (v : INV σ) (h_note : xr note) (e1 : ¬ (inb note σ.L.n) → Q (.inr IOE) false h) (k : (inb note σ.L.n) → Q (.inl (some (vi (nv σ.p (σ.L.nn.getD note.toNat 0))))) ex h) : X G m_X10_note (d + 7) (rc + 1) (rs + 6) ex 0 (xe m_X10_note.2.2.1 [.ref 3, vi note]) [] h Q := by
  show X G m_X10_note _ _ _ _ 0 [some (.ref 3), some (vi note)] [] h Q
  have hp := PRb v.p
  have hq := gq_b v.p
  have hL : h[54]? = some (cO 4 [.ref 5, .ref 55, vi (σ.L.n : Int), vi (MM σ.p σ.L.mi), vi (MM σ.p σ.L.pa)]) := w.c54
  obtain ⟨ln, lnn, lgl, lok, lgv, lpa, lmi⟩ := v.L
  have lmb := modb (z := stnd σ.p (gf σ.L.nn) σ.L.n + σ.L.pa) (p := (σ.p : Int)) (by omega)
  rw [← lmi] at lmb
  refine x_aload_n (dT U_X10_note 0 rfl) rfl ?_
  refine x_iload_n (dT U_X10_note 1 rfl) rfl ?_
  refine x_invokevirtual (rc' := rc) (rs' := rs) (rc2 := 1) (rs2 := 6) (As := [_]) (st := _) M_X10_needNote K_X10_506 (dT U_X10_note 2 rfl) rfl rfl (by decide) rfl rfl w.c3 (Nat.le_of_ble_eq_true rfl) (by decide) rfl (Nat.le_of_ble_eq_true rfl) rfl (by decide) (Nat.le_of_ble_eq_true rfl) rfl rfl ?_
  refine S_X10_needNote w v h_note (fun q => xRet_thr (e1 (by omega))) (fun j hj ezj => ?_)
  subst ezj
  refine xRet_none ?_
  refine x_aload_n (dT U_X10_note 3 rfl) rfl ?_
  refine x_getfield F_X10_72 (dT U_X10_note 4 rfl) w.c3 (Nat.le_of_ble_eq_true rfl) rfl ?_
  refine x_getfield F_X10_520 (dT U_X10_note 5 rfl) hL (Nat.le_of_ble_eq_true rfl) rfl ?_
  refine x_iload_n (dT U_X10_note 6 rfl) rfl ?_
  refine x_iaload (j) (dT U_X10_note 7 rfl) w.c55 (Nat.le_of_ble_eq_true rfl) rfl (by omega) (by omega) ?_
  rw [lgv j hj]
  refine x_ireturn (dT U_X10_note 8 rfl) rfl ?_
  exact k (by omega)

set_option maxRecDepth 20000 in
set_option maxHeartbeats 1000000 in
theorem S_X10_pay {G : xG} {d rc rs : Nat} {ex : Bool} {h : xH} {Q : xQ} {σ : St} {note run : Int} (w : CW σ h) (v : INV σ) (h_note : xr note) (h_run : xr run) (e1 : ¬ (inb note σ.L.n ∧ inb run 4) → Q (.inr IOE) false h) (e2 : (inb note σ.L.n ∧ inb run 4) → ¬ (¬ (σ.L.nn.getD note.toNat 0) = -1 ∧ opn σ.p (σ.R run.toNat) (σ.L.nn.getD note.toNat 0)) → Q (.inr ISE) false h) (k : (inb note σ.L.n ∧ inb run 4) → (¬ (σ.L.nn.getD note.toNat 0) = -1 ∧ opn σ.p (σ.R run.toNat) (σ.L.nn.getD note.toNat 0)) → ∀ h2, FC h h2 → CW (σ.sL (σ.L.n, σ.L.mi, (σ.L.pa + (σ.L.nn.getD note.toNat 0)) % (σ.p : Int), σ.L.nn.set note.toNat (-1), σ.L.gl.set note.toNat 0)) h2 → Q (.inl (some (vi ((σ.R run.toNat).v)))) ex h2) : X G m_X10_pay (d + 7) (rc + 4) (rs + 24) ex 0 (xe m_X10_pay.2.2.1 [.ref 3, vi note, vi run]) [] h Q := by
  show X G m_X10_pay _ _ _ _ 0 [some (.ref 3), some (vi note), some (vi run), none] [] h Q
  have hp := PRb v.p
  have hq := gq_b v.p
  have hL : h[54]? = some (cO 4 [.ref 5, .ref 55, vi (σ.L.n : Int), vi (MM σ.p σ.L.mi), vi (MM σ.p σ.L.pa)]) := w.c54
  obtain ⟨ln, lnn, lgl, lok, lgv, lpa, lmi⟩ := v.L
  have lmb := modb (z := stnd σ.p (gf σ.L.nn) σ.L.n + σ.L.pa) (p := (σ.p : Int)) (by omega)
  rw [← lmi] at lmb
  refine x_aload_n (dT U_X10_pay 0 rfl) rfl ?_
  refine x_iload_n (dT U_X10_pay 1 rfl) rfl ?_
  refine x_invokevirtual (rc' := rc + 3) (rs' := rs + 18) (rc2 := 1) (rs2 := 6) (As := [_]) (st := _) M_X10_needNote K_X10_506 (dT U_X10_pay 2 rfl) rfl rfl (by decide) rfl rfl w.c3 (Nat.le_of_ble_eq_true rfl) (by decide) rfl (Nat.le_of_ble_eq_true rfl) rfl (by decide) (Nat.le_of_ble_eq_true rfl) rfl rfl ?_
  refine S_X10_needNote w v h_note (fun q => xRet_thr (e1 (by omega))) (fun j hj ezj => ?_)
  subst ezj
  refine xRet_none ?_
  refine x_aload_n (dT U_X10_pay 3 rfl) rfl ?_
  refine x_iload_n (dT U_X10_pay 4 rfl) rfl ?_
  refine x_invokevirtual (rc' := rc + 2) (rs' := rs + 12) (rc2 := 1) (rs2 := 6) (As := [_]) (st := _) M_X10_runAt K_X10_276 (dT U_X10_pay 5 rfl) rfl rfl (by decide) rfl rfl w.c3 (Nat.le_of_ble_eq_true rfl) (by decide) rfl (Nat.le_of_ble_eq_true rfl) rfl (by decide) (Nat.le_of_ble_eq_true rfl) rfl rfl ?_
  refine S_X10_runAt w v h_run (fun q => xRet_thr (e1 (by omega))) (fun i hi ezi => ?_)
  subst ezi
  have hri := w.runs i hi
  have okri := v.R i hi
  have oki := okri.1
  have hRi : h[22 + 4 * i]? = some (cO 7 [.ref 5, .ref 4, .ref (22 + 4 * i + 1), .ref (22 + 4 * i + 2), .ref (22 + 4 * i + 3), vi ((σ.R i).y σ.p), vi (σ.R i).vv, vi ((σ.R i).a σ.p), vi (σ.R i).ww, vi (σ.R i).cc, vi (σ.R i).tt, vi (σ.R i).mm, vi (σ.R i).rr]) := hri.2.1
  refine xRet_some ?_
  refine x_astore_n (ls' := [some (.ref _), some (vi _), some (vi _), some (.ref _)]) (dT U_X10_pay 6 rfl) (by decide) rfl ?_
  refine x_aload_n (dT U_X10_pay 7 rfl) rfl ?_
  refine x_iload_n (dT U_X10_pay 8 rfl) rfl ?_
  refine x_invokevirtual (rc' := rc + 1) (rs' := rs + 6) (rc2 := 1) (rs2 := 6) (As := [_]) (st := _) M_X10_needUnspent K_X10_509 (dT U_X10_pay 9 rfl) rfl rfl (by decide) rfl rfl w.c3 (Nat.le_of_ble_eq_true rfl) (by decide) rfl (Nat.le_of_ble_eq_true rfl) rfl (by decide) (Nat.le_of_ble_eq_true rfl) rfl rfl ?_
  refine S_X10_needUnspent w v hj (fun q => xRet_thr (e2 (by omega) (fun z => z.1 q))) (fun uj => ?_)
  have rj := lok j hj
  have gj := lgv j hj
  rw [show nv σ.p (σ.L.nn.getD j 0) = MM σ.p (σ.L.nn.getD j 0) from if_neg uj] at gj
  refine xRet_none ?_
  refine x_aload_n (dT U_X10_pay 10 rfl) rfl ?_
  refine x_aload_n (dT U_X10_pay 11 rfl) rfl ?_
  refine x_getfield F_X10_72 (dT U_X10_pay 12 rfl) w.c3 (Nat.le_of_ble_eq_true rfl) rfl ?_
  refine x_getfield F_X10_520 (dT U_X10_pay 13 rfl) hL (Nat.le_of_ble_eq_true rfl) rfl ?_
  refine x_iload_n (dT U_X10_pay 14 rfl) rfl ?_
  refine x_iaload (j) (dT U_X10_pay 15 rfl) w.c55 (Nat.le_of_ble_eq_true rfl) rfl (by omega) (by omega) ?_
  refine x_invokevirtual (rc' := rc + 1) (rs' := rs + 6) (rc2 := 0) (rs2 := 0) (As := [_]) (st := _) M_X7_opensNote K_X10_523 (dT U_X10_pay 16 rfl) rfl rfl (by decide) rfl rfl hRi (by omega) (by decide) rfl (Nat.le_of_ble_eq_true rfl) rfl (by decide) (Nat.le_of_ble_eq_true rfl) rfl rfl ?_
  rw [gj]
  refine S_X7_opensNote v.p hri oki w.gw (by omega) (fun q1 => ?_) (fun q0 => ?_)
  · refine xRet_some ?_
    refine x_if_ne (tgt := 43) (dT U_X10_pay 17 rfl) (by decide) (by unfold xr at *; omega) (fun c29 => ?_) (fun c29 => ?_)
    · skip
      refine x_aload_n (dT U_X10_pay 23 rfl) rfl ?_
      refine x_getfield F_X10_72 (dT U_X10_pay 24 rfl) w.c3 (Nat.le_of_ble_eq_true rfl) rfl ?_
      refine x_iload_n (dT U_X10_pay 25 rfl) rfl ?_
      refine x_invokevirtual (rc' := rc + 1) (rs' := rs + 6) (rc2 := 0) (rs2 := 0) (As := [_]) (st := _) M_X4_payOut K_X10_529 (dT U_X10_pay 26 rfl) rfl rfl (by decide) rfl rfl hL (Nat.le_of_ble_eq_true rfl) (by decide) rfl (Nat.le_of_ble_eq_true rfl) rfl (by decide) (Nat.le_of_ble_eq_true rfl) rfl rfl ?_
      refine S_X4_payOut v.p w.gw w.c54 w.c55 lgl ln hj gj (by omega) lpa ?_
      refine xRet_none ?_
      refine x_aload_n (dT U_X10_pay 27 rfl) rfl ?_
      refine x_getfield F_X10_385 (dT U_X10_pay 28 rfl) (hset_ne (by omega) (hset_ne (by omega) hRi)) (by omega) rfl ?_
      rw [RS.v1 (R := σ.R i) (by have := q1.1.1; omega)]
      refine x_ireturn (dT U_X10_pay 29 rfl) rfl ?_
      exact k (by omega) ⟨uj, q1⟩ _ (((Ag.rf 3 69 h).set (by omega)).set (by omega)) (w.ledg (G := (σ.L.n, σ.L.mi, (σ.L.pa + (σ.L.nn.getD j 0)) % (σ.p : Int), σ.L.nn.set j (-1), σ.L.gl.set j 0)) (((Ag.rf 54 55 h).set (by omega)).set (by omega)) (hset_ne (by omega) (hset_eq w.c54)) (hset_eq (hset_ne (by omega) w.c55)))
    · exfalso; omega
  · refine xRet_some ?_
    refine x_if_ne (tgt := 43) (dT U_X10_pay 17 rfl) (by decide) (by unfold xr at *; omega) (fun c29 => ?_) (fun c29 => ?_)
    · exfalso; omega
    · skip
      refine x_throwW T_IS rfl (is := 527) (text := "the run does not show an opening of the note") (by decide) rfl (by omega) (Nat.le_of_ble_eq_true rfl) (by omega) (by omega) (dT U_X10_pay 18 rfl) (dT U_X10_pay 19 rfl) (dT U_X10_pay 20 rfl) (dT U_X10_pay 21 rfl) (dT U_X10_pay 22 rfl) ?_
      exact e2 (by omega) (fun z => q0 z.2)

set_option maxRecDepth 20000 in
set_option maxHeartbeats 1000000 in
theorem S_X10_standing {G : xG} {d rc rs : Nat} {ex : Bool} {h : xH} {Q : xQ} {σ : St} (w : CW σ h) (v : INV σ) (k : Q (.inl (some (vi (MM σ.p (stnd σ.p (gf σ.L.nn) σ.L.n))))) ex h) : X G m_X10_standing (d + 2) rc rs ex 0 (xe m_X10_standing.2.2.1 [.ref 3]) [] h Q := by
  show X G m_X10_standing _ _ _ _ 0 [some (.ref 3)] [] h Q
  have hp := PRb v.p
  have hq := gq_b v.p
  have hL : h[54]? = some (cO 4 [.ref 5, .ref 55, vi (σ.L.n : Int), vi (MM σ.p σ.L.mi), vi (MM σ.p σ.L.pa)]) := w.c54
  obtain ⟨ln, lnn, lgl, lok, lgv, lpa, lmi⟩ := v.L
  have lmb := modb (z := stnd σ.p (gf σ.L.nn) σ.L.n + σ.L.pa) (p := (σ.p : Int)) (by omega)
  rw [← lmi] at lmb
  refine x_aload_n (dT U_X10_standing 0 rfl) rfl ?_
  refine x_getfield F_X10_72 (dT U_X10_standing 1 rfl) w.c3 (Nat.le_of_ble_eq_true rfl) rfl ?_
  refine x_invokevirtual (rc' := rc) (rs' := rs) (rc2 := 0) (rs2 := 0) (As := []) (st := _) M_X4_productOfStanding K_X10_532 (dT U_X10_standing 2 rfl) rfl rfl (by decide) rfl rfl hL (Nat.le_of_ble_eq_true rfl) (by decide) rfl (Nat.le_of_ble_eq_true rfl) rfl (by decide) (Nat.le_of_ble_eq_true rfl) rfl rfl ?_
  refine S_X4_productOfStanding v.p w.gw w.c54 w.c55 lgl ln lgv lok ?_
  refine xRet_some ?_
  refine x_ireturn (dT U_X10_standing 3 rfl) rfl ?_
  exact k
