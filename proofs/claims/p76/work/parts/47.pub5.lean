set_option maxRecDepth 20000 in
set_option maxHeartbeats 1000000 in
theorem S_X10_extract {G : xG} {d rc rs : Nat} {ex : Bool} {h : xH} {Q : xQ} {σ : St} {run second to : Int} (w : CW σ h) (v : INV σ) (h_run : xr run) (h_second : xr second) (h_to : xr to) (e1 : ¬ (inb run 4 ∧ inb second 4 ∧ inb to 8) → Q (.inr IOE) false h) (e2 : (inb run 4 ∧ inb second 4 ∧ inb to 8) → ¬ (fork σ.p (σ.R run.toNat) (σ.R second.toNat)) → Q (.inr ISE) false h) (k : (inb run 4 ∧ inb second 4 ∧ inb to 8) → (fork σ.p (σ.R run.toNat) (σ.R second.toNat)) → ∀ h2, FC h h2 → CW (σ.sRow to.toNat (tab (fun t => (((σ.R run.toNat).answer.getD t 0 - (σ.R second.toNat).answer.getD t 0) * (iv σ.p (((σ.R run.toNat).c - (σ.R second.toNat).c) % (σ.p : Int)).toNat : Int)) % (σ.p : Int)) 8)) h2 → Q (.inl (some (vi ((((σ.R run.toNat).t - (σ.R second.toNat).t) * (iv σ.p (((σ.R run.toNat).c - (σ.R second.toNat).c) % (σ.p : Int)).toNat : Int)) % (σ.p : Int))))) ex h2) : X G m_X10_extract (d + 7) (rc + 4) (rs + 24) ex 0 (xe m_X10_extract.2.2.1 [.ref 3, vi run, vi second, vi to]) [] h Q := by
  show X G m_X10_extract _ _ _ _ 0 [some (.ref 3), some (vi run), some (vi second), some (vi to), none, none, none] [] h Q
  have hp := PRb v.p
  have hq := gq_b v.p
  refine x_aload_n (dT U_X10_extract 0 rfl) rfl ?_
  refine x_iload_n (dT U_X10_extract 1 rfl) rfl ?_
  refine x_invokevirtual (rc' := rc + 3) (rs' := rs + 18) (rc2 := 1) (rs2 := 6) (As := [_]) (st := _) M_X10_runAt K_X10_276 (dT U_X10_extract 2 rfl) rfl rfl (by decide) rfl rfl w.c3 (Nat.le_of_ble_eq_true rfl) (by decide) rfl (Nat.le_of_ble_eq_true rfl) rfl (by decide) (Nat.le_of_ble_eq_true rfl) rfl rfl ?_
  refine S_X10_runAt w v h_run (fun q => xRet_thr (e1 (by omega))) (fun i hi ezi => ?_)
  subst ezi
  have hri := w.runs i hi
  have okri := v.R i hi
  have oki := okri.1
  have hRi : h[22 + 4 * i]? = some (cO 7 [.ref 5, .ref 4, .ref (22 + 4 * i + 1), .ref (22 + 4 * i + 2), .ref (22 + 4 * i + 3), vi ((σ.R i).y σ.p), vi (σ.R i).vv, vi ((σ.R i).a σ.p), vi (σ.R i).ww, vi (σ.R i).cc, vi (σ.R i).tt, vi (σ.R i).mm, vi (σ.R i).rr]) := hri.2.1
  refine xRet_some ?_
  refine x_astore (ls' := [some (.ref _), some (vi _), some (vi _), some (vi _), some (.ref _), none, none]) (dT U_X10_extract 3 rfl) (by decide) rfl ?_
  refine x_aload_n (dT U_X10_extract 4 rfl) rfl ?_
  refine x_iload_n (dT U_X10_extract 5 rfl) rfl ?_
  refine x_invokevirtual (rc' := rc + 2) (rs' := rs + 12) (rc2 := 1) (rs2 := 6) (As := [_]) (st := _) M_X10_runAt K_X10_276 (dT U_X10_extract 6 rfl) rfl rfl (by decide) rfl rfl w.c3 (Nat.le_of_ble_eq_true rfl) (by decide) rfl (Nat.le_of_ble_eq_true rfl) rfl (by decide) (Nat.le_of_ble_eq_true rfl) rfl rfl ?_
  refine S_X10_runAt w v h_second (fun q => xRet_thr (e1 (by omega))) (fun j hj ezj => ?_)
  subst ezj
  have hrj := w.runs j hj
  have okrj := v.R j hj
  have okj := okrj.1
  have hRj : h[22 + 4 * j]? = some (cO 7 [.ref 5, .ref 4, .ref (22 + 4 * j + 1), .ref (22 + 4 * j + 2), .ref (22 + 4 * j + 3), vi ((σ.R j).y σ.p), vi (σ.R j).vv, vi ((σ.R j).a σ.p), vi (σ.R j).ww, vi (σ.R j).cc, vi (σ.R j).tt, vi (σ.R j).mm, vi (σ.R j).rr]) := hrj.2.1
  refine xRet_some ?_
  refine x_astore (ls' := [some (.ref _), some (vi _), some (vi _), some (vi _), some (.ref _), some (.ref _), none]) (dT U_X10_extract 7 rfl) (by decide) rfl ?_
  refine x_aload_n (dT U_X10_extract 8 rfl) rfl ?_
  refine x_iload_n (dT U_X10_extract 9 rfl) rfl ?_
  refine x_invokevirtual (rc' := rc + 1) (rs' := rs + 6) (rc2 := 1) (rs2 := 6) (As := [_]) (st := _) M_X10_rowAt K_X10_139 (dT U_X10_extract 10 rfl) rfl rfl (by decide) rfl rfl w.c3 (Nat.le_of_ble_eq_true rfl) (by decide) rfl (Nat.le_of_ble_eq_true rfl) rfl (by decide) (Nat.le_of_ble_eq_true rfl) rfl rfl ?_
  refine S_X10_rowAt w v h_to (fun q => xRet_thr (e1 (by omega))) (fun t ht ezt => ?_)
  subst ezt
  have lt := v.rw t ht
  refine xRet_some ?_
  refine x_astore (ls' := [some (.ref _), some (vi _), some (vi _), some (vi _), some (.ref _), some (.ref _), some (.ref _)]) (dT U_X10_extract 11 rfl) (by decide) rfl ?_
  refine x_aload (dT U_X10_extract 12 rfl) rfl ?_
  refine x_aload (dT U_X10_extract 13 rfl) rfl ?_
  refine x_invokevirtual (rc' := rc + 1) (rs' := rs + 6) (rc2 := 0) (rs2 := 0) (As := [_]) (st := _) M_X7_isForked K_X10_331 (dT U_X10_extract 14 rfl) rfl rfl (by decide) rfl rfl hRi (by omega) (by decide) rfl (Nat.le_of_ble_eq_true rfl) rfl (by decide) (Nat.le_of_ble_eq_true rfl) rfl rfl ?_
  refine S_X7_isForked v.p hri oki hrj okj w.gw (fun q1 => ?_) (fun q0 => ?_)
  · refine xRet_some ?_
    refine x_if_ne (tgt := 42) (dT U_X10_extract 15 rfl) (by decide) (by unfold xr at *; omega) (fun c28 => ?_) (fun c28 => ?_)
    · skip
      refine x_aload (dT U_X10_extract 21 rfl) rfl ?_
      refine x_aload (dT U_X10_extract 22 rfl) rfl ?_
      refine x_aload (dT U_X10_extract 23 rfl) rfl ?_
      refine x_invokevirtual (rc' := rc + 1) (rs' := rs + 6) (rc2 := 0) (rs2 := 0) (As := [_, _]) (st := _) M_X7_secretWith K_X10_337 (dT U_X10_extract 24 rfl) rfl rfl (by decide) rfl rfl hRi (by omega) (by decide) rfl (Nat.le_of_ble_eq_true rfl) rfl (by decide) (Nat.le_of_ble_eq_true rfl) rfl rfl ?_
      refine S_X7_secretWith v.p hri oki hrj okj w.gw (w.rows t ht) ⟨by omega, by omega, by omega, by omega, by omega⟩ lt.1 q1.1.1 q1.2.1.1 q1.2.2.2.2.2.2.2 ?_
      refine xRet_some ?_
      refine x_ireturn (dT U_X10_extract 25 rfl) rfl ?_
      exact k (by omega) q1 _ ((Ag.rf 3 69 h).set (by omega)) (w.row ((Ag.rf (10 + t) (10 + t) h).set (by omega)) ht (hset_eq (w.rows t ht)))
    · exfalso; omega
  · refine xRet_some ?_
    refine x_if_ne (tgt := 42) (dT U_X10_extract 15 rfl) (by decide) (by unfold xr at *; omega) (fun c28 => ?_) (fun c28 => ?_)
    · exfalso; omega
    · skip
      refine x_throwW T_IS rfl (is := 335) (text := "they are not two such runs") (by decide) rfl (by omega) (Nat.le_of_ble_eq_true rfl) (by omega) (by omega) (dT U_X10_extract 16 rfl) (dT U_X10_extract 17 rfl) (dT U_X10_extract 18 rfl) (dT U_X10_extract 19 rfl) (dT U_X10_extract 20 rfl) ?_
      exact e2 (by omega) q0

set_option maxRecDepth 20000 in
set_option maxHeartbeats 1000000 in
theorem S_X10_maskFor {G : xG} {d rc rs : Nat} {ex : Bool} {h : xH} {Q : xQ} {σ : St} {run secret blind to : Int} (w : CW σ h) (v : INV σ) (h_run : xr run) (h_secret : xr secret) (h_blind : xr blind) (h_to : xr to) (e1 : ¬ (inb run 4 ∧ inb secret 8 ∧ inb to 8) → Q (.inr IOE) false h) (e2 : (inb run 4 ∧ inb secret 8 ∧ inb to 8) → ¬ (inb blind σ.p) → Q (.inr IAE) false h) (e3 : (inb run 4 ∧ inb secret 8 ∧ inb to 8) → (inb blind σ.p) → ¬ (acc σ.p (σ.R run.toNat) ∧ suit σ.p (σ.R run.toNat) (σ.rw secret.toNat) blind) → Q (.inr ISE) false h) (k : (inb run 4 ∧ inb secret 8 ∧ inb to 8) → (inb blind σ.p) → (acc σ.p (σ.R run.toNat) ∧ suit σ.p (σ.R run.toNat) (σ.rw secret.toNat) blind) → ∀ h2, FC h h2 → CW (σ.sRow to.toNat (tab (fun t => ((σ.R run.toNat).answer.getD t 0 + -(σ.R run.toNat).c * (σ.rw secret.toNat).getD t 0) % (σ.p : Int)) 8)) h2 → Q (.inl (some (vi (((σ.R run.toNat).t - (σ.R run.toNat).c * blind) % (σ.p : Int))))) ex h2) : X G m_X10_maskFor (d + 7) (rc + 5) (rs + 30) ex 0 (xe m_X10_maskFor.2.2.1 [.ref 3, vi run, vi secret, vi blind, vi to]) [] h Q := by
  show X G m_X10_maskFor _ _ _ _ 0 [some (.ref 3), some (vi run), some (vi secret), some (vi blind), some (vi to), none, none, none] [] h Q
  have hp := PRb v.p
  have hq := gq_b v.p
  refine x_aload_n (dT U_X10_maskFor 0 rfl) rfl ?_
  refine x_iload_n (dT U_X10_maskFor 1 rfl) rfl ?_
  refine x_invokevirtual (rc' := rc + 4) (rs' := rs + 24) (rc2 := 1) (rs2 := 6) (As := [_]) (st := _) M_X10_runAt K_X10_276 (dT U_X10_maskFor 2 rfl) rfl rfl (by decide) rfl rfl w.c3 (Nat.le_of_ble_eq_true rfl) (by decide) rfl (Nat.le_of_ble_eq_true rfl) rfl (by decide) (Nat.le_of_ble_eq_true rfl) rfl rfl ?_
  refine S_X10_runAt w v h_run (fun q => xRet_thr (e1 (by omega))) (fun i hi ezi => ?_)
  subst ezi
  have hri := w.runs i hi
  have okri := v.R i hi
  have oki := okri.1
  have hRi : h[22 + 4 * i]? = some (cO 7 [.ref 5, .ref 4, .ref (22 + 4 * i + 1), .ref (22 + 4 * i + 2), .ref (22 + 4 * i + 3), vi ((σ.R i).y σ.p), vi (σ.R i).vv, vi ((σ.R i).a σ.p), vi (σ.R i).ww, vi (σ.R i).cc, vi (σ.R i).tt, vi (σ.R i).mm, vi (σ.R i).rr]) := hri.2.1
  refine xRet_some ?_
  refine x_astore (ls' := [some (.ref _), some (vi _), some (vi _), some (vi _), some (vi _), some (.ref _), none, none]) (dT U_X10_maskFor 3 rfl) (by decide) rfl ?_
  refine x_aload_n (dT U_X10_maskFor 4 rfl) rfl ?_
  refine x_iload_n (dT U_X10_maskFor 5 rfl) rfl ?_
  refine x_invokevirtual (rc' := rc + 3) (rs' := rs + 18) (rc2 := 1) (rs2 := 6) (As := [_]) (st := _) M_X10_rowAt K_X10_139 (dT U_X10_maskFor 6 rfl) rfl rfl (by decide) rfl rfl w.c3 (Nat.le_of_ble_eq_true rfl) (by decide) rfl (Nat.le_of_ble_eq_true rfl) rfl (by decide) (Nat.le_of_ble_eq_true rfl) rfl rfl ?_
  refine S_X10_rowAt w v h_secret (fun q => xRet_thr (e1 (by omega))) (fun j hj ezj => ?_)
  subst ezj
  have lj := v.rw j hj
  refine xRet_some ?_
  refine x_astore (ls' := [some (.ref _), some (vi _), some (vi _), some (vi _), some (vi _), some (.ref _), some (.ref _), none]) (dT U_X10_maskFor 7 rfl) (by decide) rfl ?_
  refine x_aload_n (dT U_X10_maskFor 8 rfl) rfl ?_
  refine x_iload (dT U_X10_maskFor 9 rfl) rfl ?_
  refine x_invokevirtual (rc' := rc + 2) (rs' := rs + 12) (rc2 := 1) (rs2 := 6) (As := [_]) (st := _) M_X10_rowAt K_X10_139 (dT U_X10_maskFor 10 rfl) rfl rfl (by decide) rfl rfl w.c3 (Nat.le_of_ble_eq_true rfl) (by decide) rfl (Nat.le_of_ble_eq_true rfl) rfl (by decide) (Nat.le_of_ble_eq_true rfl) rfl rfl ?_
  refine S_X10_rowAt w v h_to (fun q => xRet_thr (e1 (by omega))) (fun t ht ezt => ?_)
  subst ezt
  have lt := v.rw t ht
  refine xRet_some ?_
  refine x_astore (ls' := [some (.ref _), some (vi _), some (vi _), some (vi _), some (vi _), some (.ref _), some (.ref _), some (.ref _)]) (dT U_X10_maskFor 11 rfl) (by decide) rfl ?_
  refine x_aload_n (dT U_X10_maskFor 12 rfl) rfl ?_
  refine x_iload_n (dT U_X10_maskFor 13 rfl) rfl ?_
  refine x_invokevirtual (rc' := rc + 1) (rs' := rs + 6) (rc2 := 1) (rs2 := 6) (As := [_]) (st := _) M_X10_needNumber K_X10_147 (dT U_X10_maskFor 14 rfl) rfl rfl (by decide) rfl rfl w.c3 (Nat.le_of_ble_eq_true rfl) (by decide) rfl (Nat.le_of_ble_eq_true rfl) rfl (by decide) (Nat.le_of_ble_eq_true rfl) rfl rfl ?_
  refine S_X10_needNumber w v h_blind (fun q => xRet_thr (e2 (by omega) (by omega))) (fun q1 => ?_)
  refine xRet_none ?_
  refine x_aload (dT U_X10_maskFor 15 rfl) rfl ?_
  refine x_invokevirtual (rc' := rc + 1) (rs' := rs + 6) (rc2 := 0) (rs2 := 0) (As := []) (st := _) M_X7_accepted K_X10_325 (dT U_X10_maskFor 16 rfl) rfl rfl (by decide) rfl rfl hRi (by omega) (by decide) rfl (Nat.le_of_ble_eq_true rfl) rfl (by decide) (Nat.le_of_ble_eq_true rfl) rfl rfl ?_
  refine S_X7_accepted v.p hri oki w.gw (fun q1a => ?_) (fun q0 => ?_)
  · refine xRet_some ?_
    refine x_if_eq (tgt := 46) (dT U_X10_maskFor 17 rfl) (by decide) (by unfold xr at *; omega) (fun c32 => ?_) (fun c32 => ?_)
    · exfalso; omega
    · skip
      refine x_aload (dT U_X10_maskFor 18 rfl) rfl ?_
      refine x_aload (dT U_X10_maskFor 19 rfl) rfl ?_
      refine x_iload_n (dT U_X10_maskFor 20 rfl) rfl ?_
      refine x_invokevirtual (rc' := rc + 1) (rs' := rs + 6) (rc2 := 0) (rs2 := 0) (As := [_, _]) (st := _) M_X7_suits K_X10_341 (dT U_X10_maskFor 21 rfl) rfl rfl (by decide) rfl rfl hRi (by omega) (by decide) rfl (Nat.le_of_ble_eq_true rfl) rfl (by decide) (Nat.le_of_ble_eq_true rfl) rfl rfl ?_
      refine S_X7_suits v.p hri oki w.gw (w.rows j hj) ⟨by omega, by omega, by omega, by omega, by omega, by omega⟩ lj q1 (fun q1b => ?_) (fun q0 => ?_)
      · refine xRet_some ?_
        refine x_if_ne (tgt := 57) (dT U_X10_maskFor 22 rfl) (by decide) (by unfold xr at *; omega) (fun c43 => ?_) (fun c43 => ?_)
        · skip
          refine x_aload (dT U_X10_maskFor 28 rfl) rfl ?_
          refine x_aload (dT U_X10_maskFor 29 rfl) rfl ?_
          refine x_iload_n (dT U_X10_maskFor 30 rfl) rfl ?_
          refine x_aload (dT U_X10_maskFor 31 rfl) rfl ?_
          refine x_invokevirtual (rc' := rc + 1) (rs' := rs + 6) (rc2 := 0) (rs2 := 0) (As := [_, _, _]) (st := _) M_X7_maskWith K_X10_346 (dT U_X10_maskFor 32 rfl) rfl rfl (by decide) rfl rfl hRi (by omega) (by decide) rfl (Nat.le_of_ble_eq_true rfl) rfl (by decide) (Nat.le_of_ble_eq_true rfl) rfl rfl ?_
          refine S_X7_maskWith v.p hri oki w.gw (w.rows j hj) ⟨by omega, by omega, by omega, by omega, by omega, by omega⟩ lj (w.rows t ht) ⟨by omega, by omega, by omega⟩ lt.1 q1a.1 q1 ?_
          refine xRet_some ?_
          refine x_ireturn (dT U_X10_maskFor 33 rfl) rfl ?_
          exact k (by omega) (by omega) ⟨q1a, q1b⟩ _ ((Ag.rf 3 69 h).set (by omega)) (w.row ((Ag.rf (10 + t) (10 + t) h).set (by omega)) ht (hset_eq (w.rows t ht)))
        · exfalso; omega
      · refine xRet_some ?_
        refine x_if_ne (tgt := 57) (dT U_X10_maskFor 22 rfl) (by decide) (by unfold xr at *; omega) (fun c43 => ?_) (fun c43 => ?_)
        · exfalso; omega
        · skip
          refine x_throwW T_IS rfl (is := 344) (text := "the run is not accepted, or the secret does not fit") (by decide) rfl (by omega) (Nat.le_of_ble_eq_true rfl) (by omega) (by omega) (dT U_X10_maskFor 23 rfl) (dT U_X10_maskFor 24 rfl) (dT U_X10_maskFor 25 rfl) (dT U_X10_maskFor 26 rfl) (dT U_X10_maskFor 27 rfl) ?_
          exact e3 (by omega) (by omega) (fun z => q0 z.2)
  · refine xRet_some ?_
    refine x_if_eq (tgt := 46) (dT U_X10_maskFor 17 rfl) (by decide) (by unfold xr at *; omega) (fun c32 => ?_) (fun c32 => ?_)
    · skip
      refine x_throwW T_IS rfl (is := 344) (text := "the run is not accepted, or the secret does not fit") (by decide) rfl (by omega) (Nat.le_of_ble_eq_true rfl) (by omega) (by omega) (dT U_X10_maskFor 23 rfl) (dT U_X10_maskFor 24 rfl) (dT U_X10_maskFor 25 rfl) (dT U_X10_maskFor 26 rfl) (dT U_X10_maskFor 27 rfl) ?_
      exact e3 (by omega) (by omega) (fun z => q0 z.1)
    · exfalso; omega

set_option maxRecDepth 20000 in
set_option maxHeartbeats 1000000 in
theorem S_X10_fits {G : xG} {d rc rs : Nat} {ex : Bool} {h : xH} {Q : xQ} {σ : St} {run secret blind : Int} (w : CW σ h) (v : INV σ) (h_run : xr run) (h_secret : xr secret) (h_blind : xr blind) (e1 : ¬ (inb run 4 ∧ inb secret 8) → Q (.inr IOE) false h) (e2 : (inb run 4 ∧ inb secret 8) → ¬ (inb blind σ.p) → Q (.inr IAE) false h) (e3 : (inb run 4 ∧ inb secret 8) → (inb blind σ.p) → ¬ (1 ≤ (σ.R run.toNat).st) → Q (.inr ISE) false h) (k1 : (inb run 4 ∧ inb secret 8) → (inb blind σ.p) → (1 ≤ (σ.R run.toNat).st) → suit σ.p (σ.R run.toNat) (σ.rw secret.toNat) blind → Q (.inl (some (vi 1))) ex h) (k0 : (inb run 4 ∧ inb secret 8) → (inb blind σ.p) → (1 ≤ (σ.R run.toNat).st) → ¬ (suit σ.p (σ.R run.toNat) (σ.rw secret.toNat) blind) → Q (.inl (some (vi 0))) ex h) : X G m_X10_fits (d + 7) (rc + 4) (rs + 24) ex 0 (xe m_X10_fits.2.2.1 [.ref 3, vi run, vi secret, vi blind]) [] h Q := by
  show X G m_X10_fits _ _ _ _ 0 [some (.ref 3), some (vi run), some (vi secret), some (vi blind), none, none] [] h Q
  have hp := PRb v.p
  have hq := gq_b v.p
  refine x_aload_n (dT U_X10_fits 0 rfl) rfl ?_
  refine x_iload_n (dT U_X10_fits 1 rfl) rfl ?_
  refine x_invokevirtual (rc' := rc + 3) (rs' := rs + 18) (rc2 := 1) (rs2 := 6) (As := [_]) (st := _) M_X10_runAt K_X10_276 (dT U_X10_fits 2 rfl) rfl rfl (by decide) rfl rfl w.c3 (Nat.le_of_ble_eq_true rfl) (by decide) rfl (Nat.le_of_ble_eq_true rfl) rfl (by decide) (Nat.le_of_ble_eq_true rfl) rfl rfl ?_
  refine S_X10_runAt w v h_run (fun q => xRet_thr (e1 (by omega))) (fun i hi ezi => ?_)
  subst ezi
  have hri := w.runs i hi
  have okri := v.R i hi
  have oki := okri.1
  have hRi : h[22 + 4 * i]? = some (cO 7 [.ref 5, .ref 4, .ref (22 + 4 * i + 1), .ref (22 + 4 * i + 2), .ref (22 + 4 * i + 3), vi ((σ.R i).y σ.p), vi (σ.R i).vv, vi ((σ.R i).a σ.p), vi (σ.R i).ww, vi (σ.R i).cc, vi (σ.R i).tt, vi (σ.R i).mm, vi (σ.R i).rr]) := hri.2.1
  refine xRet_some ?_
  refine x_astore (ls' := [some (.ref _), some (vi _), some (vi _), some (vi _), some (.ref _), none]) (dT U_X10_fits 3 rfl) (by decide) rfl ?_
  refine x_aload_n (dT U_X10_fits 4 rfl) rfl ?_
  refine x_iload_n (dT U_X10_fits 5 rfl) rfl ?_
  refine x_invokevirtual (rc' := rc + 2) (rs' := rs + 12) (rc2 := 1) (rs2 := 6) (As := [_]) (st := _) M_X10_rowAt K_X10_139 (dT U_X10_fits 6 rfl) rfl rfl (by decide) rfl rfl w.c3 (Nat.le_of_ble_eq_true rfl) (by decide) rfl (Nat.le_of_ble_eq_true rfl) rfl (by decide) (Nat.le_of_ble_eq_true rfl) rfl rfl ?_
  refine S_X10_rowAt w v h_secret (fun q => xRet_thr (e1 (by omega))) (fun j hj ezj => ?_)
  subst ezj
  have lj := v.rw j hj
  refine xRet_some ?_
  refine x_astore (ls' := [some (.ref _), some (vi _), some (vi _), some (vi _), some (.ref _), some (.ref _)]) (dT U_X10_fits 7 rfl) (by decide) rfl ?_
  refine x_aload_n (dT U_X10_fits 8 rfl) rfl ?_
  refine x_iload_n (dT U_X10_fits 9 rfl) rfl ?_
  refine x_invokevirtual (rc' := rc + 1) (rs' := rs + 6) (rc2 := 1) (rs2 := 6) (As := [_]) (st := _) M_X10_needNumber K_X10_147 (dT U_X10_fits 10 rfl) rfl rfl (by decide) rfl rfl w.c3 (Nat.le_of_ble_eq_true rfl) (by decide) rfl (Nat.le_of_ble_eq_true rfl) rfl (by decide) (Nat.le_of_ble_eq_true rfl) rfl rfl ?_
  refine S_X10_needNumber w v h_blind (fun q => xRet_thr (e2 (by omega) (by omega))) (fun q1 => ?_)
  refine xRet_none ?_
  refine x_aload (dT U_X10_fits 11 rfl) rfl ?_
  refine x_invokestatic (rc' := rc) (rs' := rs) (rc2 := 1) (rs2 := 6) (As := [_]) (st := _) M_X10_needStatement K_X10_350 (dT U_X10_fits 12 rfl) rfl rfl rfl rfl (Nat.le_of_ble_eq_true rfl) rfl (by decide) (Nat.le_of_ble_eq_true rfl) rfl rfl ?_
  refine S_X10_needStatement w v hi (fun q => xRet_thr (e3 (by omega) (by omega) q)) (fun s1 => ?_)
  refine xRet_none ?_
  refine x_aload (dT U_X10_fits 13 rfl) rfl ?_
  refine x_aload (dT U_X10_fits 14 rfl) rfl ?_
  refine x_iload_n (dT U_X10_fits 15 rfl) rfl ?_
  refine x_invokevirtual (rc' := rc) (rs' := rs) (rc2 := 0) (rs2 := 0) (As := [_, _]) (st := _) M_X7_suits K_X10_341 (dT U_X10_fits 16 rfl) rfl rfl (by decide) rfl rfl hRi (by omega) (by decide) rfl (Nat.le_of_ble_eq_true rfl) rfl (by decide) (Nat.le_of_ble_eq_true rfl) rfl rfl ?_
  refine S_X7_suits v.p hri oki w.gw (w.rows j hj) ⟨by omega, by omega, by omega, by omega, by omega, by omega⟩ lj q1 (fun q1b => ?_) (fun q0 => ?_)
  · refine xRet_some ?_
    refine x_zreturn (dT U_X10_fits 17 rfl) rfl (by omega) ?_
    exact k1 (by omega) (by omega) s1 q1b
  · refine xRet_some ?_
    refine x_zreturn (dT U_X10_fits 17 rfl) rfl (by omega) ?_
    exact k0 (by omega) (by omega) s1 q0

set_option maxRecDepth 20000 in
set_option maxHeartbeats 1000000 in
theorem S_X10_challenges {G : xG} {d rc rs : Nat} {ex : Bool} {h : xH} {Q : xQ} {σ : St} {run : Int} (w : CW σ h) (v : INV σ) (h_run : xr run) (e1 : ¬ (inb run 4) → Q (.inr IOE) false h) (e2 : (inb run 4) → ¬ (2 ≤ (σ.R run.toNat).st) → Q (.inr ISE) false h) (k : (inb run 4) → (2 ≤ (σ.R run.toNat).st) → Q (.inl (some (vi (answ σ.p (σ.R run.toNat))))) ex h) : X G m_X10_challenges (d + 7) (rc + 2) (rs + 12) ex 0 (xe m_X10_challenges.2.2.1 [.ref 3, vi run]) [] h Q := by
  show X G m_X10_challenges _ _ _ _ 0 [some (.ref 3), some (vi run), none] [] h Q
  have hp := PRb v.p
  have hq := gq_b v.p
  refine x_aload_n (dT U_X10_challenges 0 rfl) rfl ?_
  refine x_iload_n (dT U_X10_challenges 1 rfl) rfl ?_
  refine x_invokevirtual (rc' := rc + 1) (rs' := rs + 6) (rc2 := 1) (rs2 := 6) (As := [_]) (st := _) M_X10_runAt K_X10_276 (dT U_X10_challenges 2 rfl) rfl rfl (by decide) rfl rfl w.c3 (Nat.le_of_ble_eq_true rfl) (by decide) rfl (Nat.le_of_ble_eq_true rfl) rfl (by decide) (Nat.le_of_ble_eq_true rfl) rfl rfl ?_
  refine S_X10_runAt w v h_run (fun q => xRet_thr (e1 (by omega))) (fun i hi ezi => ?_)
  subst ezi
  have hri := w.runs i hi
  have okri := v.R i hi
  have oki := okri.1
  have hRi : h[22 + 4 * i]? = some (cO 7 [.ref 5, .ref 4, .ref (22 + 4 * i + 1), .ref (22 + 4 * i + 2), .ref (22 + 4 * i + 3), vi ((σ.R i).y σ.p), vi (σ.R i).vv, vi ((σ.R i).a σ.p), vi (σ.R i).ww, vi (σ.R i).cc, vi (σ.R i).tt, vi (σ.R i).mm, vi (σ.R i).rr]) := hri.2.1
  refine xRet_some ?_
  refine x_astore_n (ls' := [some (.ref _), some (vi _), some (.ref _)]) (dT U_X10_challenges 3 rfl) (by decide) rfl ?_
  refine x_aload_n (dT U_X10_challenges 4 rfl) rfl ?_
  refine x_invokevirtual (rc' := rc + 1) (rs' := rs + 6) (rc2 := 0) (rs2 := 0) (As := []) (st := _) M_X7_hasFirst K_X10_353 (dT U_X10_challenges 5 rfl) rfl rfl (by decide) rfl rfl hRi (by omega) (by decide) rfl (Nat.le_of_ble_eq_true rfl) rfl (by decide) (Nat.le_of_ble_eq_true rfl) rfl rfl ?_
  refine S_X7_hasFirst v.p hri oki w.gw (fun s1 => ?_) (fun s0 => ?_)
  · refine xRet_some ?_
    refine x_if_ne (tgt := 24) (dT U_X10_challenges 6 rfl) (by decide) (by unfold xr at *; omega) (fun c10 => ?_) (fun c10 => ?_)
    · skip
      refine x_aload_n (dT U_X10_challenges 12 rfl) rfl ?_
      refine x_invokevirtual (rc' := rc + 1) (rs' := rs + 6) (rc2 := 0) (rs2 := 0) (As := []) (st := _) M_X7_answerable K_X10_358 (dT U_X10_challenges 13 rfl) rfl rfl (by decide) rfl rfl hRi (by omega) (by decide) rfl (Nat.le_of_ble_eq_true rfl) rfl (by decide) (Nat.le_of_ble_eq_true rfl) rfl rfl ?_
      refine S_X7_answerable v.p hri oki w.gw s1 ?_
      refine xRet_some ?_
      refine x_ireturn (dT U_X10_challenges 14 rfl) rfl ?_
      exact k (by omega) s1
    · exfalso; omega
  · refine xRet_some ?_
    refine x_if_ne (tgt := 24) (dT U_X10_challenges 6 rfl) (by decide) (by unfold xr at *; omega) (fun c10 => ?_) (fun c10 => ?_)
    · exfalso; omega
    · skip
      refine x_throwW T_IS rfl (is := 356) (text := "the run has no first message") (by decide) rfl (by omega) (Nat.le_of_ble_eq_true rfl) (by omega) (by omega) (dT U_X10_challenges 7 rfl) (dT U_X10_challenges 8 rfl) (dT U_X10_challenges 9 rfl) (dT U_X10_challenges 10 rfl) (dT U_X10_challenges 11 rfl) ?_
      exact e2 (by omega) s0

set_option maxRecDepth 20000 in
set_option maxHeartbeats 1000000 in
theorem S_X10_told {G : xG} {d rc rs : Nat} {ex : Bool} {h : xH} {Q : xQ} {σ : St} {run what : Int} (w : CW σ h) (v : INV σ) (h_run : xr run) (h_what : xr what) (e1 : ¬ (inb run 4) → Q (.inr IOE) false h) (e2 : (inb run 4) → ¬ (inb what 7) → Q (.inr IAE) false h) (k : (inb run 4) → (inb what 7) → Q (.inl (some (vi (if what = 6 then (if 2 ≤ (σ.R run.toNat).st then trs σ.p (σ.R run.toNat) else -1) else (σ.R run.toNat).num σ.p what.toNat)))) ex h) : X G m_X10_told (d + 7) (rc + 2) (rs + 12) ex 0 (xe m_X10_told.2.2.1 [.ref 3, vi run, vi what]) [] h Q := by
  show X G m_X10_told _ _ _ _ 0 [some (.ref 3), some (vi run), some (vi what), none] [] h Q
  have hp := PRb v.p
  have hq := gq_b v.p
  refine x_aload_n (dT U_X10_told 0 rfl) rfl ?_
  refine x_iload_n (dT U_X10_told 1 rfl) rfl ?_
  refine x_invokevirtual (rc' := rc + 1) (rs' := rs + 6) (rc2 := 1) (rs2 := 6) (As := [_]) (st := _) M_X10_runAt K_X10_276 (dT U_X10_told 2 rfl) rfl rfl (by decide) rfl rfl w.c3 (Nat.le_of_ble_eq_true rfl) (by decide) rfl (Nat.le_of_ble_eq_true rfl) rfl (by decide) (Nat.le_of_ble_eq_true rfl) rfl rfl ?_
  refine S_X10_runAt w v h_run (fun q => xRet_thr (e1 (by omega))) (fun i hi ezi => ?_)
  subst ezi
  have hri := w.runs i hi
  have okri := v.R i hi
  have oki := okri.1
  have hRi : h[22 + 4 * i]? = some (cO 7 [.ref 5, .ref 4, .ref (22 + 4 * i + 1), .ref (22 + 4 * i + 2), .ref (22 + 4 * i + 3), vi ((σ.R i).y σ.p), vi (σ.R i).vv, vi ((σ.R i).a σ.p), vi (σ.R i).ww, vi (σ.R i).cc, vi (σ.R i).tt, vi (σ.R i).mm, vi (σ.R i).rr]) := hri.2.1
  refine xRet_some ?_
  refine x_astore_n (ls' := [some (.ref _), some (vi _), some (vi _), some (.ref _)]) (dT U_X10_told 3 rfl) (by decide) rfl ?_
  refine x_iload_n (dT U_X10_told 4 rfl) rfl ?_
  refine x_if_lt (tgt := 16) (dT U_X10_told 5 rfl) (by decide) h_what (fun c7 => ?_) (fun c7 => ?_)
  · skip
    refine x_throwW T_IA rfl (is := 361) (text := "what is out of range") (by decide) rfl (by omega) (Nat.le_of_ble_eq_true rfl) (by omega) (by omega) (dT U_X10_told 9 rfl) (dT U_X10_told 10 rfl) (dT U_X10_told 11 rfl) (dT U_X10_told 12 rfl) (dT U_X10_told 13 rfl) ?_
    exact e2 (by omega) (by omega)
  · skip
    refine x_iload_n (dT U_X10_told 6 rfl) rfl ?_
    refine x_bipush (dT U_X10_told 7 rfl) (by decide) ?_
    refine x_icmp_le (tgt := 27) (dT U_X10_told 8 rfl) (by decide) h_what (by unfold xr; omega) (fun c13 => ?_) (fun c13 => ?_)
    · skip
      refine x_iload_n (dT U_X10_told 14 rfl) rfl ?_
      refine x_bipush (dT U_X10_told 15 rfl) (by decide) ?_
      refine x_icmp_ne (tgt := 40) (dT U_X10_told 16 rfl) (by decide) h_what (by unfold xr; omega) (fun c30 => ?_) (fun c30 => ?_)
      · skip
        obtain ⟨n, rfl⟩ : ∃ n : Nat, what = (n : Int) := ⟨what.toNat, by omega⟩
        refine x_aload_n (dT U_X10_told 20 rfl) rfl ?_
        refine x_iload_n (dT U_X10_told 21 rfl) rfl ?_
        refine x_invokevirtual (rc' := rc + 1) (rs' := rs + 6) (rc2 := 0) (rs2 := 0) (As := [_]) (st := _) M_X7_numberAt K_X10_363 (dT U_X10_told 22 rfl) rfl rfl (by decide) rfl rfl hRi (by omega) (by decide) rfl (Nat.le_of_ble_eq_true rfl) rfl (by decide) (Nat.le_of_ble_eq_true rfl) rfl rfl ?_
        refine S_X7_numberAt v.p hri oki w.gw (by omega) ?_
        refine xRet_some ?_
        refine x_ireturn (dT U_X10_told 23 rfl) rfl ?_
        rw [if_neg (by omega)] at k
        exact k (by omega) (by omega)
      · skip
        refine x_aload_n (dT U_X10_told 17 rfl) rfl ?_
        refine x_invokevirtual (rc' := rc + 1) (rs' := rs + 6) (rc2 := 0) (rs2 := 0) (As := []) (st := _) M_X7_transcript K_X10_304 (dT U_X10_told 18 rfl) rfl rfl (by decide) rfl rfl hRi (by omega) (by decide) rfl (Nat.le_of_ble_eq_true rfl) rfl (by decide) (Nat.le_of_ble_eq_true rfl) rfl rfl ?_
        refine S_X7_transcript v.p hri oki w.gw (fun s1 => ?_) (fun s0 => ?_)
        · refine xRet_some ?_
          refine x_goto (tgt := 45) (dT U_X10_told 19 rfl) (by decide) ?_
          refine x_ireturn (dT U_X10_told 23 rfl) rfl ?_
          rw [if_pos (by omega), if_pos (show 2 ≤ (σ.R (i : Int).toNat).st from s1)] at k
          exact k (by omega) (by omega)
        · refine xRet_some ?_
          refine x_goto (tgt := 45) (dT U_X10_told 19 rfl) (by decide) ?_
          refine x_ireturn (dT U_X10_told 23 rfl) rfl ?_
          rw [if_pos (by omega), if_neg (show ¬ 2 ≤ (σ.R (i : Int).toNat).st from s0)] at k
          exact k (by omega) (by omega)
    · skip
      refine x_throwW T_IA rfl (is := 361) (text := "what is out of range") (by decide) rfl (by omega) (Nat.le_of_ble_eq_true rfl) (by omega) (by omega) (dT U_X10_told 9 rfl) (dT U_X10_told 10 rfl) (dT U_X10_told 11 rfl) (dT U_X10_told 12 rfl) (dT U_X10_told 13 rfl) ?_
      exact e2 (by omega) (by omega)

set_option maxRecDepth 20000 in
set_option maxHeartbeats 1000000 in
theorem S_X10_form {G : xG} {d rc rs : Nat} {ex : Bool} {h : xH} {Q : xQ} {σ : St} {run place isAnswer : Int} (w : CW σ h) (v : INV σ) (h_run : xr run) (h_place : xr place) (h_isAnswer : isAnswer = 0 ∨ isAnswer = 1) (e1 : ¬ (inb run 4 ∧ inb place 8) → Q (.inr IOE) false h) (e2 : (inb run 4 ∧ inb place 8) → ¬ (1 ≤ (σ.R run.toNat).st ∧ (isAnswer = 1 → 4 ≤ (σ.R run.toNat).st)) → Q (.inr ISE) false h) (k : (inb run 4 ∧ inb place 8) → (1 ≤ (σ.R run.toNat).st ∧ (isAnswer = 1 → 4 ≤ (σ.R run.toNat).st)) → Q (.inl (some (vi (if isAnswer = 1 then (σ.R run.toNat).answer.getD place.toNat 0 else (σ.R run.toNat).form.getD place.toNat 0)))) ex h) : X G m_X10_form (d + 7) (rc + 4) (rs + 24) ex 0 (xe m_X10_form.2.2.1 [.ref 3, vi run, vi place, vi isAnswer]) [] h Q := by
  show X G m_X10_form _ _ _ _ 0 [some (.ref 3), some (vi run), some (vi place), some (vi isAnswer), none] [] h Q
  have hp := PRb v.p
  have hq := gq_b v.p
  refine x_aload_n (dT U_X10_form 0 rfl) rfl ?_
  refine x_iload_n (dT U_X10_form 1 rfl) rfl ?_
  refine x_invokevirtual (rc' := rc + 3) (rs' := rs + 18) (rc2 := 1) (rs2 := 6) (As := [_]) (st := _) M_X10_runAt K_X10_276 (dT U_X10_form 2 rfl) rfl rfl (by decide) rfl rfl w.c3 (Nat.le_of_ble_eq_true rfl) (by decide) rfl (Nat.le_of_ble_eq_true rfl) rfl (by decide) (Nat.le_of_ble_eq_true rfl) rfl rfl ?_
  refine S_X10_runAt w v h_run (fun q => xRet_thr (e1 (by omega))) (fun i hi ezi => ?_)
  subst ezi
  have hri := w.runs i hi
  have okri := v.R i hi
  have oki := okri.1
  have hRi : h[22 + 4 * i]? = some (cO 7 [.ref 5, .ref 4, .ref (22 + 4 * i + 1), .ref (22 + 4 * i + 2), .ref (22 + 4 * i + 3), vi ((σ.R i).y σ.p), vi (σ.R i).vv, vi ((σ.R i).a σ.p), vi (σ.R i).ww, vi (σ.R i).cc, vi (σ.R i).tt, vi (σ.R i).mm, vi (σ.R i).rr]) := hri.2.1
  refine xRet_some ?_
  refine x_astore (ls' := [some (.ref _), some (vi _), some (vi _), some (vi _), some (.ref _)]) (dT U_X10_form 3 rfl) (by decide) rfl ?_
  refine x_iload_n (dT U_X10_form 4 rfl) rfl ?_
  refine x_invokestatic (rc' := rc + 2) (rs' := rs + 12) (rc2 := 1) (rs2 := 6) (As := [_]) (st := _) M_X10_needPlace K_X10_143 (dT U_X10_form 5 rfl) rfl rfl rfl rfl (Nat.le_of_ble_eq_true rfl) rfl (by decide) (Nat.le_of_ble_eq_true rfl) rfl rfl ?_
  refine S_X10_needPlace v h_place (fun q => xRet_thr (e1 (by omega))) (fun j hj ezj => ?_)
  subst ezj
  refine xRet_none ?_
  refine x_aload (dT U_X10_form 6 rfl) rfl ?_
  refine x_invokestatic (rc' := rc + 1) (rs' := rs + 6) (rc2 := 1) (rs2 := 6) (As := [_]) (st := _) M_X10_needStatement K_X10_350 (dT U_X10_form 7 rfl) rfl rfl rfl rfl (Nat.le_of_ble_eq_true rfl) rfl (by decide) (Nat.le_of_ble_eq_true rfl) rfl rfl ?_
  refine S_X10_needStatement w v hi (fun q => xRet_thr (e2 (by omega) (fun z => q z.1))) (fun s1 => ?_)
  refine xRet_none ?_
  refine x_iload_n (dT U_X10_form 8 rfl) rfl ?_
  refine x_if_eq (tgt := 39) (dT U_X10_form 9 rfl) (by decide) (by unfold xr; omega) (fun c17 => ?_) (fun c17 => ?_)
  · skip
    refine x_iload_n (dT U_X10_form 18 rfl) rfl ?_
    refine x_if_eq (tgt := 53) (dT U_X10_form 19 rfl) (by decide) (by unfold xr; omega) (fun c40 => ?_) (fun c40 => ?_)
    · skip
      refine x_aload (dT U_X10_form 25 rfl) rfl ?_
      refine x_getfield F_X10_371 (dT U_X10_form 26 rfl) hRi (by omega) rfl ?_
      refine x_iload_n (dT U_X10_form 27 rfl) rfl ?_
      refine x_iaload (j) (dT U_X10_form 28 rfl) hri.2.2.1 (by omega) rfl (by rw [oki.f24.1]; omega) (by rw [oki.f24.1]; omega) ?_
      refine x_ireturn (dT U_X10_form 29 rfl) rfl ?_
      rw [if_neg (by omega)] at k
      exact k (by omega) ⟨s1, fun z => by omega⟩
    · exfalso; omega
  · skip
    refine x_aload (dT U_X10_form 10 rfl) rfl ?_
    refine x_invokevirtual (rc' := rc + 1) (rs' := rs + 6) (rc2 := 0) (rs2 := 0) (As := []) (st := _) M_X7_hasAnswer K_X10_366 (dT U_X10_form 11 rfl) rfl rfl (by decide) rfl rfl hRi (by omega) (by decide) rfl (Nat.le_of_ble_eq_true rfl) rfl (by decide) (Nat.le_of_ble_eq_true rfl) rfl rfl ?_
    refine S_X7_hasAnswer v.p hri oki w.gw (fun s4 => ?_) (fun s0 => ?_)
    · refine xRet_some ?_
      refine x_if_ne (tgt := 39) (dT U_X10_form 12 rfl) (by decide) (by unfold xr at *; omega) (fun c25 => ?_) (fun c25 => ?_)
      · skip
        refine x_iload_n (dT U_X10_form 18 rfl) rfl ?_
        refine x_if_eq (tgt := 53) (dT U_X10_form 19 rfl) (by decide) (by unfold xr at *; omega) (fun c40 => ?_) (fun c40 => ?_)
        · exfalso; omega
        · skip
          refine x_aload (dT U_X10_form 20 rfl) rfl ?_
          refine x_getfield F_X10_322 (dT U_X10_form 21 rfl) hRi (by omega) rfl ?_
          refine x_iload_n (dT U_X10_form 22 rfl) rfl ?_
          refine x_iaload (j) (dT U_X10_form 23 rfl) hri.2.2.2.2 (by omega) rfl (by rw [oki.a24.1]; omega) (by rw [oki.a24.1]; omega) ?_
          refine x_goto (tgt := 60) (dT U_X10_form 24 rfl) (by decide) ?_
          refine x_ireturn (dT U_X10_form 29 rfl) rfl ?_
          rw [if_pos (by omega)] at k
          exact k (by omega) ⟨s1, fun _ => s4⟩
      · exfalso; omega
    · refine xRet_some ?_
      refine x_if_ne (tgt := 39) (dT U_X10_form 12 rfl) (by decide) (by unfold xr at *; omega) (fun c25 => ?_) (fun c25 => ?_)
      · exfalso; omega
      · skip
        refine x_throwW T_IS rfl (is := 369) (text := "the run has no answer") (by decide) rfl (by omega) (Nat.le_of_ble_eq_true rfl) (by omega) (by omega) (dT U_X10_form 13 rfl) (dT U_X10_form 14 rfl) (dT U_X10_form 15 rfl) (dT U_X10_form 16 rfl) (dT U_X10_form 17 rfl) ?_
        exact e2 (by omega) (fun z => s0 (z.2 (by omega)))

set_option maxRecDepth 20000 in
set_option maxHeartbeats 1000000 in
theorem S_X10_fold {G : xG} {d rc rs : Nat} {ex : Bool} {h : xH} {Q : xQ} {σ : St} {run second factor into : Int} (w : CW σ h) (v : INV σ) (h_run : xr run) (h_second : xr second) (h_factor : xr factor) (h_into : xr into) (e1 : ¬ (inb run 4 ∧ inb second 4 ∧ inb into 4) → Q (.inr IOE) false h) (e2 : (inb run 4 ∧ inb second 4 ∧ inb into 4) → ¬ (inb factor σ.p) → Q (.inr IAE) false h) (e3 : (inb run 4 ∧ inb second 4 ∧ inb into 4) → (inb factor σ.p) → ¬ (joinable (σ.R run.toNat) (σ.R second.toNat) 0) → Q (.inr ISE) false h) (k : (inb run 4 ∧ inb second 4 ∧ inb into 4) → (inb factor σ.p) → (joinable (σ.R run.toNat) (σ.R second.toNat) 0) → ∀ h2, FC h h2 → CW (σ.sRun into.toNat (rBegin (σ.R into.toNat) (((σ.R run.toNat).e + factor * (σ.R second.toNat).e) % (σ.p : Int)) (((σ.R run.toNat).v + factor * (σ.R second.toNat).v) % (σ.p : Int)) (σ.R run.toNat).form)) h2 → Q (.inl (some (vi (MM σ.p (((σ.R run.toNat).e + factor * (σ.R second.toNat).e) % (σ.p : Int)))))) ex h2) : X G m_X10_fold (d + 7) (rc + 5) (rs + 30) ex 0 (xe m_X10_fold.2.2.1 [.ref 3, vi run, vi second, vi factor, vi into]) [] h Q := by
  show X G m_X10_fold _ _ _ _ 0 [some (.ref 3), some (vi run), some (vi second), some (vi factor), some (vi into), none, none, none, none, none] [] h Q
  have hp := PRb v.p
  have hq := gq_b v.p
  refine x_aload_n (dT U_X10_fold 0 rfl) rfl ?_
  refine x_iload_n (dT U_X10_fold 1 rfl) rfl ?_
  refine x_invokevirtual (rc' := rc + 4) (rs' := rs + 24) (rc2 := 1) (rs2 := 6) (As := [_]) (st := _) M_X10_runAt K_X10_276 (dT U_X10_fold 2 rfl) rfl rfl (by decide) rfl rfl w.c3 (Nat.le_of_ble_eq_true rfl) (by decide) rfl (Nat.le_of_ble_eq_true rfl) rfl (by decide) (Nat.le_of_ble_eq_true rfl) rfl rfl ?_
  refine S_X10_runAt w v h_run (fun q => xRet_thr (e1 (by omega))) (fun i hi ezi => ?_)
  subst ezi
  have hri := w.runs i hi
  have okri := v.R i hi
  have oki := okri.1
  have hRi : h[22 + 4 * i]? = some (cO 7 [.ref 5, .ref 4, .ref (22 + 4 * i + 1), .ref (22 + 4 * i + 2), .ref (22 + 4 * i + 3), vi ((σ.R i).y σ.p), vi (σ.R i).vv, vi ((σ.R i).a σ.p), vi (σ.R i).ww, vi (σ.R i).cc, vi (σ.R i).tt, vi (σ.R i).mm, vi (σ.R i).rr]) := hri.2.1
  refine xRet_some ?_
  refine x_astore (ls' := [some (.ref _), some (vi _), some (vi _), some (vi _), some (vi _), some (.ref _), none, none, none, none]) (dT U_X10_fold 3 rfl) (by decide) rfl ?_
  refine x_aload_n (dT U_X10_fold 4 rfl) rfl ?_
  refine x_iload_n (dT U_X10_fold 5 rfl) rfl ?_
  refine x_invokevirtual (rc' := rc + 3) (rs' := rs + 18) (rc2 := 1) (rs2 := 6) (As := [_]) (st := _) M_X10_runAt K_X10_276 (dT U_X10_fold 6 rfl) rfl rfl (by decide) rfl rfl w.c3 (Nat.le_of_ble_eq_true rfl) (by decide) rfl (Nat.le_of_ble_eq_true rfl) rfl (by decide) (Nat.le_of_ble_eq_true rfl) rfl rfl ?_
  refine S_X10_runAt w v h_second (fun q => xRet_thr (e1 (by omega))) (fun j hj ezj => ?_)
  subst ezj
  have hrj := w.runs j hj
  have okrj := v.R j hj
  have okj := okrj.1
  have hRj : h[22 + 4 * j]? = some (cO 7 [.ref 5, .ref 4, .ref (22 + 4 * j + 1), .ref (22 + 4 * j + 2), .ref (22 + 4 * j + 3), vi ((σ.R j).y σ.p), vi (σ.R j).vv, vi ((σ.R j).a σ.p), vi (σ.R j).ww, vi (σ.R j).cc, vi (σ.R j).tt, vi (σ.R j).mm, vi (σ.R j).rr]) := hrj.2.1
  refine xRet_some ?_
  refine x_astore (ls' := [some (.ref _), some (vi _), some (vi _), some (vi _), some (vi _), some (.ref _), some (.ref _), none, none, none]) (dT U_X10_fold 7 rfl) (by decide) rfl ?_
  refine x_aload_n (dT U_X10_fold 8 rfl) rfl ?_
  refine x_iload (dT U_X10_fold 9 rfl) rfl ?_
  refine x_invokevirtual (rc' := rc + 2) (rs' := rs + 12) (rc2 := 1) (rs2 := 6) (As := [_]) (st := _) M_X10_runAt K_X10_276 (dT U_X10_fold 10 rfl) rfl rfl (by decide) rfl rfl w.c3 (Nat.le_of_ble_eq_true rfl) (by decide) rfl (Nat.le_of_ble_eq_true rfl) rfl (by decide) (Nat.le_of_ble_eq_true rfl) rfl rfl ?_
  refine S_X10_runAt w v h_into (fun q => xRet_thr (e1 (by omega))) (fun t ht ezt => ?_)
  subst ezt
  have hrt := w.runs t ht
  have okrt := v.R t ht
  have okt := okrt.1
  have hRt : h[22 + 4 * t]? = some (cO 7 [.ref 5, .ref 4, .ref (22 + 4 * t + 1), .ref (22 + 4 * t + 2), .ref (22 + 4 * t + 3), vi ((σ.R t).y σ.p), vi (σ.R t).vv, vi ((σ.R t).a σ.p), vi (σ.R t).ww, vi (σ.R t).cc, vi (σ.R t).tt, vi (σ.R t).mm, vi (σ.R t).rr]) := hrt.2.1
  refine xRet_some ?_
  refine x_astore (ls' := [some (.ref _), some (vi _), some (vi _), some (vi _), some (vi _), some (.ref _), some (.ref _), some (.ref _), none, none]) (dT U_X10_fold 11 rfl) (by decide) rfl ?_
  refine x_aload_n (dT U_X10_fold 12 rfl) rfl ?_
  refine x_iload_n (dT U_X10_fold 13 rfl) rfl ?_
  refine x_invokevirtual (rc' := rc + 1) (rs' := rs + 6) (rc2 := 1) (rs2 := 6) (As := [_]) (st := _) M_X10_needNumber K_X10_147 (dT U_X10_fold 14 rfl) rfl rfl (by decide) rfl rfl w.c3 (Nat.le_of_ble_eq_true rfl) (by decide) rfl (Nat.le_of_ble_eq_true rfl) rfl (by decide) (Nat.le_of_ble_eq_true rfl) rfl rfl ?_
  refine S_X10_needNumber w v h_factor (fun q => xRet_thr (e2 (by omega) (by omega))) (fun q1 => ?_)
  refine xRet_none ?_
  refine x_aload (dT U_X10_fold 15 rfl) rfl ?_
  refine x_aload (dT U_X10_fold 16 rfl) rfl ?_
  refine x_iconst (dT U_X10_fold 17 rfl) ?_
  refine x_invokestatic (rc' := rc) (rs' := rs) (rc2 := 1) (rs2 := 6) (As := [_, _, _]) (st := _) M_X10_needJoinable K_X10_374 (dT U_X10_fold 18 rfl) rfl rfl rfl rfl (Nat.le_of_ble_eq_true rfl) rfl (by decide) (Nat.le_of_ble_eq_true rfl) rfl rfl ?_
  refine S_X10_needJoinable w v hi hj (Or.inl rfl) (fun q => xRet_thr (e3 (by omega) (by omega) q)) (fun jn => ?_)
  have se := oki.e jn.1
  have te := okj.e jn.2.1
  have sv := oki.v jn.1
  have tv := okj.v jn.2.1
  refine xRet_none ?_
  refine x_aload_n (dT U_X10_fold 19 rfl) rfl ?_
  refine x_getfield F_X10_21 (dT U_X10_fold 20 rfl) w.c3 (Nat.le_of_ble_eq_true rfl) rfl ?_
  refine x_aload (dT U_X10_fold 21 rfl) rfl ?_
  refine x_getfield F_X10_378 (dT U_X10_fold 22 rfl) hRi (by omega) rfl ?_
  refine x_aload_n (dT U_X10_fold 23 rfl) rfl ?_
  refine x_getfield F_X10_21 (dT U_X10_fold 24 rfl) w.c3 (Nat.le_of_ble_eq_true rfl) rfl ?_
  refine x_aload (dT U_X10_fold 25 rfl) rfl ?_
  refine x_getfield F_X10_378 (dT U_X10_fold 26 rfl) hRj (by omega) rfl ?_
  refine x_iload_n (dT U_X10_fold 27 rfl) rfl ?_
  refine x_invokevirtual (rc' := rc) (rs' := rs) (rc2 := 0) (rs2 := 0) (As := [_, _]) (st := _) M_X3_power K_X10_381 (dT U_X10_fold 28 rfl) rfl rfl (by decide) rfl rfl w.gw.2.1 (Nat.le_of_ble_eq_true rfl) (by decide) rfl (Nat.le_of_ble_eq_true rfl) rfl (by decide) (Nat.le_of_ble_eq_true rfl) rfl rfl ?_
  rw [RS.y1 (p := σ.p) jn.2.1]
  refine S_X3_power w.gw v.p te q1 ?_
  refine xRet_some ?_
  refine x_invokevirtual (rc' := rc) (rs' := rs) (rc2 := 0) (rs2 := 0) (As := [_, _]) (st := _) M_X3_product K_X10_384 (dT U_X10_fold 29 rfl) rfl rfl (by decide) rfl rfl w.gw.2.1 (Nat.le_of_ble_eq_true rfl) (by decide) rfl (Nat.le_of_ble_eq_true rfl) rfl (by decide) (Nat.le_of_ble_eq_true rfl) rfl rfl ?_
  rw [RS.y1 (p := σ.p) jn.1]
  have eb := modb (z := (σ.R j).e * factor) (p := (σ.p : Int)) (by omega)
  have m1 := MM_b v.p se
  have m2 := MM_b v.p eb
  refine S_X3_product w.gw.2.1 (by omega) (by omega) (by omega) ?_
  rw [MM_mul v.p se eb, am_r, Int.mul_comm (σ.R j).e factor]
  refine xRet_some ?_
  refine x_istore (ls' := [some (.ref _), some (vi _), some (vi _), some (vi _), some (vi _), some (.ref _), some (.ref _), some (.ref _), some (vi _), none]) (dT U_X10_fold 30 rfl) (by decide) rfl ?_
  refine x_aload_n (dT U_X10_fold 31 rfl) rfl ?_
  refine x_getfield F_X10_10 (dT U_X10_fold 32 rfl) w.c3 (Nat.le_of_ble_eq_true rfl) rfl ?_
  refine x_aload (dT U_X10_fold 33 rfl) rfl ?_
  refine x_getfield F_X10_385 (dT U_X10_fold 34 rfl) hRi (by omega) rfl ?_
  refine x_aload_n (dT U_X10_fold 35 rfl) rfl ?_
  refine x_getfield F_X10_10 (dT U_X10_fold 36 rfl) w.c3 (Nat.le_of_ble_eq_true rfl) rfl ?_
  refine x_iload_n (dT U_X10_fold 37 rfl) rfl ?_
  refine x_aload (dT U_X10_fold 38 rfl) rfl ?_
  refine x_getfield F_X10_385 (dT U_X10_fold 39 rfl) hRj (by omega) rfl ?_
  refine x_invokevirtual (rc' := rc) (rs' := rs) (rc2 := 0) (rs2 := 0) (As := [_, _]) (st := _) M_X1_product K_X10_205 (dT U_X10_fold 40 rfl) rfl rfl (by decide) rfl rfl w.gw.1 (Nat.le_of_ble_eq_true rfl) (by decide) rfl (Nat.le_of_ble_eq_true rfl) rfl (by decide) (Nat.le_of_ble_eq_true rfl) rfl rfl ?_
  rw [RS.v1 jn.2.1]
  have mv := mulb q1 tv (by omega)
  refine S_X1_product w.gw.1 hp (by unfold xr; omega) ?_
  refine xRet_some ?_
  refine x_invokevirtual (rc' := rc) (rs' := rs) (rc2 := 0) (rs2 := 0) (As := [_, _]) (st := _) M_X1_sum K_X10_236 (dT U_X10_fold 41 rfl) rfl rfl (by decide) rfl rfl w.gw.1 (Nat.le_of_ble_eq_true rfl) (by decide) rfl (Nat.le_of_ble_eq_true rfl) rfl (by decide) (Nat.le_of_ble_eq_true rfl) rfl rfl ?_
  have b2 := modb (z := factor * (σ.R j).v) (p := (σ.p : Int)) (by omega)
  rw [RS.v1 jn.1]
  refine S_X1_sum w.gw.1 hp (by unfold xr; omega) ?_
  rw [am_r]
  refine xRet_some ?_
  refine x_istore (ls' := [some (.ref _), some (vi _), some (vi _), some (vi _), some (vi _), some (.ref _), some (.ref _), some (.ref _), some (vi _), some (vi _)]) (dT U_X10_fold 42 rfl) (by decide) rfl ?_
  refine x_aload (dT U_X10_fold 43 rfl) rfl ?_
  refine x_iload (dT U_X10_fold 44 rfl) rfl ?_
  refine x_aload (dT U_X10_fold 45 rfl) rfl ?_
  refine x_getfield F_X10_371 (dT U_X10_fold 46 rfl) hRi (by omega) rfl ?_
  refine x_iload (dT U_X10_fold 47 rfl) rfl ?_
  refine x_invokevirtual (rc' := rc) (rs' := rs) (rc2 := 0) (rs2 := 0) (As := [_, _, _]) (st := _) M_X7_beginWith K_X10_280 (dT U_X10_fold 48 rfl) rfl rfl (by decide) rfl rfl hRt (by omega) (by decide) rfl (Nat.le_of_ble_eq_true rfl) rfl (by decide) (Nat.le_of_ble_eq_true rfl) rfl rfl ?_
  refine S_X7_beginWith (by omega) hrt.2.1 hrt.2.2.1 okt.f24.1 hri.2.2.1 (by omega) oki.f24.1 ?_
  refine xRet_none ?_
  refine x_iload (dT U_X10_fold 49 rfl) rfl ?_
  refine x_ireturn (dT U_X10_fold 50 rfl) rfl ?_
  exact k (by omega) (by omega) jn _ (((Ag.rf 3 69 h).set (by omega)).set (by omega)) (w.run (R := rBegin (σ.R t) (((σ.R i).e + factor * (σ.R j).e) % (σ.p : Int)) (((σ.R i).v + factor * (σ.R j).v) % (σ.p : Int)) (σ.R i).form) (((Ag.rf (22 + 4 * t) (25 + 4 * t) h).set (by omega)).set (by omega)) ht ⟨by omega, by rw [rBegin_raw]; exact hset_ne (by omega) (hset_eq hrt.2.1), hset_eq (hset_ne (by omega) hrt.2.2.1), hset_ne (by omega) (hset_ne (by omega) hrt.2.2.2.1), hset_ne (by omega) (hset_ne (by omega) hrt.2.2.2.2)⟩)

set_option maxRecDepth 20000 in
set_option maxHeartbeats 1000000 in
theorem S_X10_factors {G : xG} {d rc rs : Nat} {ex : Bool} {h : xH} {Q : xQ} {σ : St} {run second secret isBatch secret2 : Int} (w : CW σ h) (v : INV σ) (h_run : xr run) (h_second : xr second) (h_secret : xr secret) (h_secret2 : xr secret2) (h_isBatch : isBatch = 0 ∨ isBatch = 1) (e1 : ¬ (inb run 4 ∧ inb second 4 ∧ inb secret 8 ∧ inb secret2 8) → Q (.inr IOE) false h) (e2 : (inb run 4 ∧ inb second 4 ∧ inb secret 8 ∧ inb secret2 8) → ¬ (joinable (σ.R run.toNat) (σ.R second.toNat) isBatch) → Q (.inr ISE) false h) (k : (inb run 4 ∧ inb second 4 ∧ inb secret 8 ∧ inb secret2 8) → (joinable (σ.R run.toNat) (σ.R second.toNat) isBatch) → Q (.inl (some (vi ((ct (fun x : Nat => (((inn (σ.R run.toNat).form (σ.rw secret.toNat) % (σ.p : Int) - (σ.R run.toNat).v) % (σ.p : Int)) + (x : Int) * ((inn (σ.R second.toNat).form (if isBatch = 1 then σ.rw secret.toNat else σ.rw secret2.toNat) % (σ.p : Int) - (σ.R second.toNat).v) % (σ.p : Int))) % (σ.p : Int) = 0) σ.p : Int))))) ex h) : X G m_X10_factors (d + 7) (rc + 5) (rs + 30) ex 0 (xe m_X10_factors.2.2.1 [.ref 3, vi run, vi second, vi secret, vi isBatch, vi secret2]) [] h Q := by
  show X G m_X10_factors _ _ _ _ 0 [some (.ref 3), some (vi run), some (vi second), some (vi secret), some (vi isBatch), some (vi secret2), none, none, none, none] [] h Q
  have hp := PRb v.p
  have hq := gq_b v.p
  refine x_aload_n (dT U_X10_factors 0 rfl) rfl ?_
  refine x_iload_n (dT U_X10_factors 1 rfl) rfl ?_
  refine x_invokevirtual (rc' := rc + 4) (rs' := rs + 24) (rc2 := 1) (rs2 := 6) (As := [_]) (st := _) M_X10_runAt K_X10_276 (dT U_X10_factors 2 rfl) rfl rfl (by decide) rfl rfl w.c3 (Nat.le_of_ble_eq_true rfl) (by decide) rfl (Nat.le_of_ble_eq_true rfl) rfl (by decide) (Nat.le_of_ble_eq_true rfl) rfl rfl ?_
  refine S_X10_runAt w v h_run (fun q => xRet_thr (e1 (by omega))) (fun i hi ezi => ?_)
  subst ezi
  have hri := w.runs i hi
  have okri := v.R i hi
  have oki := okri.1
  have hRi : h[22 + 4 * i]? = some (cO 7 [.ref 5, .ref 4, .ref (22 + 4 * i + 1), .ref (22 + 4 * i + 2), .ref (22 + 4 * i + 3), vi ((σ.R i).y σ.p), vi (σ.R i).vv, vi ((σ.R i).a σ.p), vi (σ.R i).ww, vi (σ.R i).cc, vi (σ.R i).tt, vi (σ.R i).mm, vi (σ.R i).rr]) := hri.2.1
  refine xRet_some ?_
  refine x_astore (ls' := [some (.ref _), some (vi _), some (vi _), some (vi _), some (vi _), some (vi _), some (.ref _), none, none, none]) (dT U_X10_factors 3 rfl) (by decide) rfl ?_
  refine x_aload_n (dT U_X10_factors 4 rfl) rfl ?_
  refine x_iload_n (dT U_X10_factors 5 rfl) rfl ?_
  refine x_invokevirtual (rc' := rc + 3) (rs' := rs + 18) (rc2 := 1) (rs2 := 6) (As := [_]) (st := _) M_X10_runAt K_X10_276 (dT U_X10_factors 6 rfl) rfl rfl (by decide) rfl rfl w.c3 (Nat.le_of_ble_eq_true rfl) (by decide) rfl (Nat.le_of_ble_eq_true rfl) rfl (by decide) (Nat.le_of_ble_eq_true rfl) rfl rfl ?_
  refine S_X10_runAt w v h_second (fun q => xRet_thr (e1 (by omega))) (fun j hj ezj => ?_)
  subst ezj
  have hrj := w.runs j hj
  have okrj := v.R j hj
  have okj := okrj.1
  have hRj : h[22 + 4 * j]? = some (cO 7 [.ref 5, .ref 4, .ref (22 + 4 * j + 1), .ref (22 + 4 * j + 2), .ref (22 + 4 * j + 3), vi ((σ.R j).y σ.p), vi (σ.R j).vv, vi ((σ.R j).a σ.p), vi (σ.R j).ww, vi (σ.R j).cc, vi (σ.R j).tt, vi (σ.R j).mm, vi (σ.R j).rr]) := hrj.2.1
  refine xRet_some ?_
  refine x_astore (ls' := [some (.ref _), some (vi _), some (vi _), some (vi _), some (vi _), some (vi _), some (.ref _), some (.ref _), none, none]) (dT U_X10_factors 7 rfl) (by decide) rfl ?_
  refine x_aload_n (dT U_X10_factors 8 rfl) rfl ?_
  refine x_iload_n (dT U_X10_factors 9 rfl) rfl ?_
  refine x_invokevirtual (rc' := rc + 2) (rs' := rs + 12) (rc2 := 1) (rs2 := 6) (As := [_]) (st := _) M_X10_rowAt K_X10_139 (dT U_X10_factors 10 rfl) rfl rfl (by decide) rfl rfl w.c3 (Nat.le_of_ble_eq_true rfl) (by decide) rfl (Nat.le_of_ble_eq_true rfl) rfl (by decide) (Nat.le_of_ble_eq_true rfl) rfl rfl ?_
  refine S_X10_rowAt w v h_secret (fun q => xRet_thr (e1 (by omega))) (fun t ht ezt => ?_)
  subst ezt
  have lt := v.rw t ht
  refine xRet_some ?_
  refine x_astore (ls' := [some (.ref _), some (vi _), some (vi _), some (vi _), some (vi _), some (vi _), some (.ref _), some (.ref _), some (.ref _), none]) (dT U_X10_factors 11 rfl) (by decide) rfl ?_
  refine x_aload_n (dT U_X10_factors 12 rfl) rfl ?_
  refine x_iload (dT U_X10_factors 13 rfl) rfl ?_
  refine x_invokevirtual (rc' := rc + 1) (rs' := rs + 6) (rc2 := 1) (rs2 := 6) (As := [_]) (st := _) M_X10_rowAt K_X10_139 (dT U_X10_factors 14 rfl) rfl rfl (by decide) rfl rfl w.c3 (Nat.le_of_ble_eq_true rfl) (by decide) rfl (Nat.le_of_ble_eq_true rfl) rfl (by decide) (Nat.le_of_ble_eq_true rfl) rfl rfl ?_
  refine S_X10_rowAt w v h_secret2 (fun q => xRet_thr (e1 (by omega))) (fun u hu ezu => ?_)
  subst ezu
  have lu := v.rw u hu
  refine xRet_some ?_
  refine x_astore (ls' := [some (.ref _), some (vi _), some (vi _), some (vi _), some (vi _), some (vi _), some (.ref _), some (.ref _), some (.ref _), some (.ref _)]) (dT U_X10_factors 15 rfl) (by decide) rfl ?_
  refine x_aload (dT U_X10_factors 16 rfl) rfl ?_
  refine x_aload (dT U_X10_factors 17 rfl) rfl ?_
  refine x_iload (dT U_X10_factors 18 rfl) rfl ?_
  refine x_invokestatic (rc' := rc) (rs' := rs) (rc2 := 1) (rs2 := 6) (As := [_, _, _]) (st := _) M_X10_needJoinable K_X10_374 (dT U_X10_factors 19 rfl) rfl rfl rfl rfl (Nat.le_of_ble_eq_true rfl) rfl (by decide) (Nat.le_of_ble_eq_true rfl) rfl rfl ?_
  refine S_X10_needJoinable w v hi hj h_isBatch (fun q => xRet_thr (e2 (by omega) q)) (fun jn => ?_)
  refine xRet_none ?_
  refine x_aload_n (dT U_X10_factors 20 rfl) rfl ?_
  refine x_getfield F_X10_10 (dT U_X10_factors 21 rfl) w.c3 (Nat.le_of_ble_eq_true rfl) rfl ?_
  refine x_aload (dT U_X10_factors 22 rfl) rfl ?_
  refine x_aload (dT U_X10_factors 23 rfl) rfl ?_
  refine x_invokevirtual (rc' := rc) (rs' := rs) (rc2 := 0) (rs2 := 0) (As := [_]) (st := _) M_X7_gap K_X10_388 (dT U_X10_factors 24 rfl) rfl rfl (by decide) rfl rfl hRi (by omega) (by decide) rfl (Nat.le_of_ble_eq_true rfl) rfl (by decide) (Nat.le_of_ble_eq_true rfl) rfl rfl ?_
  refine S_X7_gap v.p hri oki w.gw (w.rows t ht) ⟨by omega, by omega, by omega, by omega, by omega, by omega⟩ lt ?_
  rw [RS.v1 jn.1]
  refine xRet_some ?_
  rcases h_isBatch with rfl | rfl
  · skip
    refine x_aload (dT U_X10_factors 25 rfl) rfl ?_
    refine x_iload (dT U_X10_factors 26 rfl) rfl ?_
    refine x_if_eq (tgt := 61) (dT U_X10_factors 27 rfl) (by decide) (by unfold xr at *; omega) (fun c53 => ?_) (fun c53 => ?_)
    · skip
      refine x_aload (dT U_X10_factors 30 rfl) rfl ?_
      refine x_invokevirtual (rc' := rc) (rs' := rs) (rc2 := 0) (rs2 := 0) (As := [_]) (st := _) M_X7_gap K_X10_388 (dT U_X10_factors 31 rfl) rfl rfl (by decide) rfl rfl hRj (by omega) (by decide) rfl (Nat.le_of_ble_eq_true rfl) rfl (by decide) (Nat.le_of_ble_eq_true rfl) rfl rfl ?_
      refine S_X7_gap v.p hrj okj w.gw (w.rows u hu) ⟨by omega, by omega, by omega, by omega, by omega, by omega⟩ lu ?_
      rw [RS.v1 jn.2.1]
      refine xRet_some ?_
      refine x_invokevirtual (rc' := rc) (rs' := rs) (rc2 := 0) (rs2 := 0) (As := [_, _]) (st := _) M_X1_rootsOf K_X10_391 (dT U_X10_factors 32 rfl) rfl rfl (by decide) rfl rfl w.gw.1 (Nat.le_of_ble_eq_true rfl) (by decide) rfl (Nat.le_of_ble_eq_true rfl) rfl (by decide) (Nat.le_of_ble_eq_true rfl) rfl rfl ?_
      refine S_X1_rootsOf w.gw.1 hp (modb (by omega)) (modb (by omega)) ?_
      refine xRet_some ?_
      refine x_ireturn (dT U_X10_factors 33 rfl) rfl ?_
      rw [if_neg (by decide)] at k
      exact k (by omega) jn
    · exfalso; omega
  · skip
    refine x_aload (dT U_X10_factors 25 rfl) rfl ?_
    refine x_iload (dT U_X10_factors 26 rfl) rfl ?_
    refine x_if_eq (tgt := 61) (dT U_X10_factors 27 rfl) (by decide) (by unfold xr at *; omega) (fun c53 => ?_) (fun c53 => ?_)
    · exfalso; omega
    · skip
      refine x_aload (dT U_X10_factors 28 rfl) rfl ?_
      refine x_goto (tgt := 63) (dT U_X10_factors 29 rfl) (by decide) ?_
      refine x_invokevirtual (rc' := rc) (rs' := rs) (rc2 := 0) (rs2 := 0) (As := [_]) (st := _) M_X7_gap K_X10_388 (dT U_X10_factors 31 rfl) rfl rfl (by decide) rfl rfl hRj (by omega) (by decide) rfl (Nat.le_of_ble_eq_true rfl) rfl (by decide) (Nat.le_of_ble_eq_true rfl) rfl rfl ?_
      refine S_X7_gap v.p hrj okj w.gw (w.rows t ht) ⟨by omega, by omega, by omega, by omega, by omega, by omega⟩ lt ?_
      rw [RS.v1 jn.2.1]
      refine xRet_some ?_
      refine x_invokevirtual (rc' := rc) (rs' := rs) (rc2 := 0) (rs2 := 0) (As := [_, _]) (st := _) M_X1_rootsOf K_X10_391 (dT U_X10_factors 32 rfl) rfl rfl (by decide) rfl rfl w.gw.1 (Nat.le_of_ble_eq_true rfl) (by decide) rfl (Nat.le_of_ble_eq_true rfl) rfl (by decide) (Nat.le_of_ble_eq_true rfl) rfl rfl ?_
      refine S_X1_rootsOf w.gw.1 hp (modb (by omega)) (modb (by omega)) ?_
      refine xRet_some ?_
      refine x_ireturn (dT U_X10_factors 33 rfl) rfl ?_
      rw [if_pos (by decide)] at k
      exact k (by omega) jn
