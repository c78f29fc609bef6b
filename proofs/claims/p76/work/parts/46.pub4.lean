set_option maxRecDepth 20000 in
set_option maxHeartbeats 1000000 in
theorem S_X10_state {G : xG} {d rc rs : Nat} {ex : Bool} {h : xH} {Q : xQ} {σ : St} {run y form x : Int} (w : CW σ h) (v : INV σ) (h_run : xr run) (h_y : xr y) (h_form : xr form) (h_x : xr x) (e1 : ¬ (inb run 4 ∧ inb form 8) → Q (.inr IOE) false h) (e2 : (inb run 4 ∧ inb form 8) → ¬ (¬ exI σ.p y = -1 ∧ inb x σ.p) → Q (.inr IAE) false h) (k : (inb run 4 ∧ inb form 8) → (¬ exI σ.p y = -1 ∧ inb x σ.p) → ∀ h2, FC h h2 → CW (σ.sRun run.toNat (rBegin (σ.R run.toNat) (exI σ.p y) x (σ.rw form.toNat))) h2 → Q (.inl (some (vi (y)))) ex h2) : X G m_X10_state (d + 7) (rc + 4) (rs + 24) ex 0 (xe m_X10_state.2.2.1 [.ref 3, vi run, vi y, vi form, vi x]) [] h Q := by
  show X G m_X10_state _ _ _ _ 0 [some (.ref 3), some (vi run), some (vi y), some (vi form), some (vi x), none, none] [] h Q
  have hp := PRb v.p
  have hq := gq_b v.p
  refine x_aload_n (dT U_X10_state 0 rfl) rfl ?_
  refine x_iload_n (dT U_X10_state 1 rfl) rfl ?_
  refine x_invokevirtual (rc' := rc + 3) (rs' := rs + 18) (rc2 := 1) (rs2 := 6) (As := [_]) (st := _) M_X10_runAt K_X10_276 (dT U_X10_state 2 rfl) rfl rfl (by decide) rfl rfl w.c3 (Nat.le_of_ble_eq_true rfl) (by decide) rfl (Nat.le_of_ble_eq_true rfl) rfl (by decide) (Nat.le_of_ble_eq_true rfl) rfl rfl ?_
  refine S_X10_runAt w v h_run (fun q => xRet_thr (e1 (by omega))) (fun i hi ezi => ?_)
  subst ezi
  have hri := w.runs i hi
  have okri := v.R i hi
  have oki := okri.1
  have hRi : h[22 + 4 * i]? = some (cO 7 [.ref 5, .ref 4, .ref (22 + 4 * i + 1), .ref (22 + 4 * i + 2), .ref (22 + 4 * i + 3), vi ((σ.R i).y σ.p), vi (σ.R i).vv, vi ((σ.R i).a σ.p), vi (σ.R i).ww, vi (σ.R i).cc, vi (σ.R i).tt, vi (σ.R i).mm, vi (σ.R i).rr]) := hri.2.1
  refine xRet_some ?_
  refine x_astore (ls' := [some (.ref _), some (vi _), some (vi _), some (vi _), some (vi _), some (.ref _), none]) (dT U_X10_state 3 rfl) (by decide) rfl ?_
  refine x_aload_n (dT U_X10_state 4 rfl) rfl ?_
  refine x_iload_n (dT U_X10_state 5 rfl) rfl ?_
  refine x_invokevirtual (rc' := rc + 2) (rs' := rs + 12) (rc2 := 1) (rs2 := 6) (As := [_]) (st := _) M_X10_rowAt K_X10_139 (dT U_X10_state 6 rfl) rfl rfl (by decide) rfl rfl w.c3 (Nat.le_of_ble_eq_true rfl) (by decide) rfl (Nat.le_of_ble_eq_true rfl) rfl (by decide) (Nat.le_of_ble_eq_true rfl) rfl rfl ?_
  refine S_X10_rowAt w v h_form (fun q => xRet_thr (e1 (by omega))) (fun j hj ezj => ?_)
  subst ezj
  have lj := v.rw j hj
  refine xRet_some ?_
  refine x_astore (ls' := [some (.ref _), some (vi _), some (vi _), some (vi _), some (vi _), some (.ref _), some (.ref _)]) (dT U_X10_state 7 rfl) (by decide) rfl ?_
  refine x_aload_n (dT U_X10_state 8 rfl) rfl ?_
  refine x_iload_n (dT U_X10_state 9 rfl) rfl ?_
  refine x_invokevirtual (rc' := rc + 1) (rs' := rs + 6) (rc2 := 1) (rs2 := 6) (As := [_]) (st := _) M_X10_needMember K_X10_226 (dT U_X10_state 10 rfl) rfl rfl (by decide) rfl rfl w.c3 (Nat.le_of_ble_eq_true rfl) (by decide) rfl (Nat.le_of_ble_eq_true rfl) rfl (by decide) (Nat.le_of_ble_eq_true rfl) rfl rfl ?_
  refine S_X10_needMember w v h_y (fun q => xRet_thr (e2 (by omega) (by omega))) (fun e9 he9 eze9 exe9 => ?_)
  refine xRet_none ?_
  refine x_aload_n (dT U_X10_state 11 rfl) rfl ?_
  refine x_iload (dT U_X10_state 12 rfl) rfl ?_
  refine x_invokevirtual (rc' := rc) (rs' := rs) (rc2 := 1) (rs2 := 6) (As := [_]) (st := _) M_X10_needNumber K_X10_147 (dT U_X10_state 13 rfl) rfl rfl (by decide) rfl rfl w.c3 (Nat.le_of_ble_eq_true rfl) (by decide) rfl (Nat.le_of_ble_eq_true rfl) rfl (by decide) (Nat.le_of_ble_eq_true rfl) rfl rfl ?_
  refine S_X10_needNumber w v h_x (fun q => xRet_thr (e2 (by omega) (by omega))) (fun q1 => ?_)
  refine xRet_none ?_
  refine x_aload (dT U_X10_state 14 rfl) rfl ?_
  refine x_iload_n (dT U_X10_state 15 rfl) rfl ?_
  refine x_aload (dT U_X10_state 16 rfl) rfl ?_
  refine x_iload (dT U_X10_state 17 rfl) rfl ?_
  refine x_invokevirtual (rc' := rc) (rs' := rs) (rc2 := 0) (rs2 := 0) (As := [_, _, _]) (st := _) M_X7_beginWith K_X10_280 (dT U_X10_state 18 rfl) rfl rfl (by decide) rfl rfl hRi (by omega) (by decide) rfl (Nat.le_of_ble_eq_true rfl) rfl (by decide) (Nat.le_of_ble_eq_true rfl) rfl rfl ?_
  refine S_X7_beginWith (by omega) hri.2.1 hri.2.2.1 oki.f24.1 (w.rows j hj) (by omega) lj.1 ?_
  refine xRet_none ?_
  refine x_iload_n (dT U_X10_state 19 rfl) rfl ?_
  refine x_ireturn (dT U_X10_state 20 rfl) rfl ?_
  rw [exe9] at k
  exact k (by omega) (by omega) _ (((Ag.rf 3 69 h).set (by omega)).set (by omega)) (w.run (R := rBegin (σ.R i) e9 x (σ.rw j)) (((Ag.rf (22 + 4 * i) (25 + 4 * i) h).set (by omega)).set (by omega)) hi ⟨by omega, by rw [rBegin_raw, ← eze9]; exact hset_ne (by omega) (hset_eq hri.2.1), hset_eq (hset_ne (by omega) hri.2.2.1), hset_ne (by omega) (hset_ne (by omega) hri.2.2.2.1), hset_ne (by omega) (hset_ne (by omega) hri.2.2.2.2)⟩)

set_option maxRecDepth 20000 in
set_option maxHeartbeats 1000000 in
theorem S_X10_open {G : xG} {d rc rs : Nat} {ex : Bool} {h : xH} {Q : xQ} {σ : St} {run mask blind : Int} (w : CW σ h) (v : INV σ) (h_run : xr run) (h_mask : xr mask) (h_blind : xr blind) (e1 : ¬ (inb run 4 ∧ inb mask 8) → Q (.inr IOE) false h) (e2 : (inb run 4 ∧ inb mask 8) → ¬ (inb blind σ.p) → Q (.inr IAE) false h) (e3 : (inb run 4 ∧ inb mask 8) → (inb blind σ.p) → ¬ ((σ.R run.toNat).st = 1) → Q (.inr ISE) false h) (k : (inb run 4 ∧ inb mask 8) → (inb blind σ.p) → ((σ.R run.toNat).st = 1) → ∀ h2, FC h h2 → CW (σ.sRun run.toNat (rOpen σ.p (σ.R run.toNat) (σ.rw mask.toNat) blind)) h2 → Q (.inl (some (vi (MM σ.p (cm σ.p (σ.rw mask.toNat) blind))))) ex h2) : X G m_X10_open (d + 7) (rc + 4) (rs + 24) ex 0 (xe m_X10_open.2.2.1 [.ref 3, vi run, vi mask, vi blind]) [] h Q := by
  show X G m_X10_open _ _ _ _ 0 [some (.ref 3), some (vi run), some (vi mask), some (vi blind), none, none] [] h Q
  have hp := PRb v.p
  have hq := gq_b v.p
  refine x_aload_n (dT U_X10_open 0 rfl) rfl ?_
  refine x_iload_n (dT U_X10_open 1 rfl) rfl ?_
  refine x_invokevirtual (rc' := rc + 3) (rs' := rs + 18) (rc2 := 1) (rs2 := 6) (As := [_]) (st := _) M_X10_runAt K_X10_276 (dT U_X10_open 2 rfl) rfl rfl (by decide) rfl rfl w.c3 (Nat.le_of_ble_eq_true rfl) (by decide) rfl (Nat.le_of_ble_eq_true rfl) rfl (by decide) (Nat.le_of_ble_eq_true rfl) rfl rfl ?_
  refine S_X10_runAt w v h_run (fun q => xRet_thr (e1 (by omega))) (fun i hi ezi => ?_)
  subst ezi
  have hri := w.runs i hi
  have okri := v.R i hi
  have oki := okri.1
  have hRi : h[22 + 4 * i]? = some (cO 7 [.ref 5, .ref 4, .ref (22 + 4 * i + 1), .ref (22 + 4 * i + 2), .ref (22 + 4 * i + 3), vi ((σ.R i).y σ.p), vi (σ.R i).vv, vi ((σ.R i).a σ.p), vi (σ.R i).ww, vi (σ.R i).cc, vi (σ.R i).tt, vi (σ.R i).mm, vi (σ.R i).rr]) := hri.2.1
  refine xRet_some ?_
  refine x_astore (ls' := [some (.ref _), some (vi _), some (vi _), some (vi _), some (.ref _), none]) (dT U_X10_open 3 rfl) (by decide) rfl ?_
  refine x_aload_n (dT U_X10_open 4 rfl) rfl ?_
  refine x_iload_n (dT U_X10_open 5 rfl) rfl ?_
  refine x_invokevirtual (rc' := rc + 2) (rs' := rs + 12) (rc2 := 1) (rs2 := 6) (As := [_]) (st := _) M_X10_rowAt K_X10_139 (dT U_X10_open 6 rfl) rfl rfl (by decide) rfl rfl w.c3 (Nat.le_of_ble_eq_true rfl) (by decide) rfl (Nat.le_of_ble_eq_true rfl) rfl (by decide) (Nat.le_of_ble_eq_true rfl) rfl rfl ?_
  refine S_X10_rowAt w v h_mask (fun q => xRet_thr (e1 (by omega))) (fun j hj ezj => ?_)
  subst ezj
  have lj := v.rw j hj
  refine xRet_some ?_
  refine x_astore (ls' := [some (.ref _), some (vi _), some (vi _), some (vi _), some (.ref _), some (.ref _)]) (dT U_X10_open 7 rfl) (by decide) rfl ?_
  refine x_aload_n (dT U_X10_open 8 rfl) rfl ?_
  refine x_iload_n (dT U_X10_open 9 rfl) rfl ?_
  refine x_invokevirtual (rc' := rc + 1) (rs' := rs + 6) (rc2 := 1) (rs2 := 6) (As := [_]) (st := _) M_X10_needNumber K_X10_147 (dT U_X10_open 10 rfl) rfl rfl (by decide) rfl rfl w.c3 (Nat.le_of_ble_eq_true rfl) (by decide) rfl (Nat.le_of_ble_eq_true rfl) rfl (by decide) (Nat.le_of_ble_eq_true rfl) rfl rfl ?_
  refine S_X10_needNumber w v h_blind (fun q => xRet_thr (e2 (by omega) (by omega))) (fun q1 => ?_)
  refine xRet_none ?_
  refine x_aload (dT U_X10_open 11 rfl) rfl ?_
  refine x_invokestatic (rc' := rc) (rs' := rs) (rc2 := 1) (rs2 := 6) (As := [_]) (st := _) M_X10_needBare K_X10_284 (dT U_X10_open 12 rfl) rfl rfl rfl rfl (Nat.le_of_ble_eq_true rfl) rfl (by decide) (Nat.le_of_ble_eq_true rfl) rfl rfl ?_
  refine S_X10_needBare w v hi (fun q => xRet_thr (e3 (by omega) (by omega) q)) (fun s1 => ?_)
  refine xRet_none ?_
  refine x_aload (dT U_X10_open 13 rfl) rfl ?_
  refine x_aload (dT U_X10_open 14 rfl) rfl ?_
  refine x_iload_n (dT U_X10_open 15 rfl) rfl ?_
  refine x_invokevirtual (rc' := rc) (rs' := rs) (rc2 := 0) (rs2 := 0) (As := [_, _]) (st := _) M_X7_takeMask K_X10_288 (dT U_X10_open 16 rfl) rfl rfl (by decide) rfl rfl hRi (by omega) (by decide) rfl (Nat.le_of_ble_eq_true rfl) rfl (by decide) (Nat.le_of_ble_eq_true rfl) rfl rfl ?_
  refine S_X7_takeMask v.p hri oki w.gw (w.rows j hj) ⟨by omega, by omega, by omega, by omega, by omega, by omega⟩ lj q1 ?_
  refine xRet_none ?_
  refine x_aload (dT U_X10_open 17 rfl) rfl ?_
  refine x_getfield F_X10_292 (dT U_X10_open 18 rfl) (show _ = some (cO 7 [.ref 5, .ref 4, .ref (22 + 4 * i + 1), .ref (22 + 4 * i + 2), .ref (22 + 4 * i + 3), vi ((σ.R i).y σ.p), vi (σ.R i).vv, vi (MM σ.p (cm σ.p (σ.rw j) blind)), vi (inn (σ.R i).form (σ.rw j) % (σ.p : Int)), vi (σ.R i).cc, vi (σ.R i).tt, vi blind, vi (σ.R i).rr]) from hset_ne (by omega) (hset_eq hri.2.1)) (by omega) rfl ?_
  refine x_ireturn (dT U_X10_open 19 rfl) rfl ?_
  exact k (by omega) (by omega) s1 _ (((Ag.rf 3 69 h).set (by omega)).set (by omega)) (w.run (R := rOpen σ.p (σ.R i) (σ.rw j) blind) (((Ag.rf (22 + 4 * i) (25 + 4 * i) h).set (by omega)).set (by omega)) hi ⟨by omega, by rw [rOpen_raw s1]; exact hset_ne (by omega) (hset_eq hri.2.1), hset_ne (by omega) (hset_ne (by omega) hri.2.2.1), hset_eq (hset_ne (by omega) hri.2.2.2.1), hset_ne (by omega) (hset_ne (by omega) hri.2.2.2.2)⟩)

set_option maxRecDepth 20000 in
set_option maxHeartbeats 1000000 in
theorem S_X10_say {G : xG} {d rc rs : Nat} {ex : Bool} {h : xH} {Q : xQ} {σ : St} {run a x : Int} (w : CW σ h) (v : INV σ) (h_run : xr run) (h_a : xr a) (h_x : xr x) (e1 : ¬ (inb run 4) → Q (.inr IOE) false h) (e2 : (inb run 4) → ¬ (¬ exI σ.p a = -1 ∧ inb x σ.p) → Q (.inr IAE) false h) (e3 : (inb run 4) → (¬ exI σ.p a = -1 ∧ inb x σ.p) → ¬ ((σ.R run.toNat).st = 1) → Q (.inr ISE) false h) (k : (inb run 4) → (¬ exI σ.p a = -1 ∧ inb x σ.p) → ((σ.R run.toNat).st = 1) → ∀ h2, FC h h2 → CW (σ.sRun run.toNat (rSay (σ.R run.toNat) (exI σ.p a) x)) h2 → Q (.inl (some (vi (a)))) ex h2) : X G m_X10_say (d + 7) (rc + 4) (rs + 24) ex 0 (xe m_X10_say.2.2.1 [.ref 3, vi run, vi a, vi x]) [] h Q := by
  show X G m_X10_say _ _ _ _ 0 [some (.ref 3), some (vi run), some (vi a), some (vi x), none] [] h Q
  have hp := PRb v.p
  have hq := gq_b v.p
  refine x_aload_n (dT U_X10_say 0 rfl) rfl ?_
  refine x_iload_n (dT U_X10_say 1 rfl) rfl ?_
  refine x_invokevirtual (rc' := rc + 3) (rs' := rs + 18) (rc2 := 1) (rs2 := 6) (As := [_]) (st := _) M_X10_runAt K_X10_276 (dT U_X10_say 2 rfl) rfl rfl (by decide) rfl rfl w.c3 (Nat.le_of_ble_eq_true rfl) (by decide) rfl (Nat.le_of_ble_eq_true rfl) rfl (by decide) (Nat.le_of_ble_eq_true rfl) rfl rfl ?_
  refine S_X10_runAt w v h_run (fun q => xRet_thr (e1 (by omega))) (fun i hi ezi => ?_)
  subst ezi
  have hri := w.runs i hi
  have okri := v.R i hi
  have oki := okri.1
  have hRi : h[22 + 4 * i]? = some (cO 7 [.ref 5, .ref 4, .ref (22 + 4 * i + 1), .ref (22 + 4 * i + 2), .ref (22 + 4 * i + 3), vi ((σ.R i).y σ.p), vi (σ.R i).vv, vi ((σ.R i).a σ.p), vi (σ.R i).ww, vi (σ.R i).cc, vi (σ.R i).tt, vi (σ.R i).mm, vi (σ.R i).rr]) := hri.2.1
  refine xRet_some ?_
  refine x_astore (ls' := [some (.ref _), some (vi _), some (vi _), some (vi _), some (.ref _)]) (dT U_X10_say 3 rfl) (by decide) rfl ?_
  refine x_aload_n (dT U_X10_say 4 rfl) rfl ?_
  refine x_iload_n (dT U_X10_say 5 rfl) rfl ?_
  refine x_invokevirtual (rc' := rc + 2) (rs' := rs + 12) (rc2 := 1) (rs2 := 6) (As := [_]) (st := _) M_X10_needMember K_X10_226 (dT U_X10_say 6 rfl) rfl rfl (by decide) rfl rfl w.c3 (Nat.le_of_ble_eq_true rfl) (by decide) rfl (Nat.le_of_ble_eq_true rfl) rfl (by decide) (Nat.le_of_ble_eq_true rfl) rfl rfl ?_
  refine S_X10_needMember w v h_a (fun q => xRet_thr (e2 (by omega) (by omega))) (fun e9 he9 eze9 exe9 => ?_)
  refine xRet_none ?_
  refine x_aload_n (dT U_X10_say 7 rfl) rfl ?_
  refine x_iload_n (dT U_X10_say 8 rfl) rfl ?_
  refine x_invokevirtual (rc' := rc + 1) (rs' := rs + 6) (rc2 := 1) (rs2 := 6) (As := [_]) (st := _) M_X10_needNumber K_X10_147 (dT U_X10_say 9 rfl) rfl rfl (by decide) rfl rfl w.c3 (Nat.le_of_ble_eq_true rfl) (by decide) rfl (Nat.le_of_ble_eq_true rfl) rfl (by decide) (Nat.le_of_ble_eq_true rfl) rfl rfl ?_
  refine S_X10_needNumber w v h_x (fun q => xRet_thr (e2 (by omega) (by omega))) (fun q1 => ?_)
  refine xRet_none ?_
  refine x_aload (dT U_X10_say 10 rfl) rfl ?_
  refine x_invokestatic (rc' := rc) (rs' := rs) (rc2 := 1) (rs2 := 6) (As := [_]) (st := _) M_X10_needBare K_X10_284 (dT U_X10_say 11 rfl) rfl rfl rfl rfl (Nat.le_of_ble_eq_true rfl) rfl (by decide) (Nat.le_of_ble_eq_true rfl) rfl rfl ?_
  refine S_X10_needBare w v hi (fun q => xRet_thr (e3 (by omega) (by omega) q)) (fun s1 => ?_)
  refine xRet_none ?_
  refine x_aload (dT U_X10_say 12 rfl) rfl ?_
  refine x_iload_n (dT U_X10_say 13 rfl) rfl ?_
  refine x_putfield F_X10_292 (dT U_X10_say 14 rfl) hRi (by omega) (Nat.le_of_ble_eq_true rfl) rfl rfl ?_
  refine x_aload (dT U_X10_say 15 rfl) rfl ?_
  refine x_iload_n (dT U_X10_say 16 rfl) rfl ?_
  refine x_putfield F_X10_295 (dT U_X10_say 17 rfl) (hset_eq hRi) (by omega) (Nat.le_of_ble_eq_true rfl) rfl rfl ?_
  rw [List.set_set]
  refine x_iload_n (dT U_X10_say 18 rfl) rfl ?_
  refine x_ireturn (dT U_X10_say 19 rfl) rfl ?_
  rw [exe9] at k
  exact k (by omega) (by omega) s1 _ ((Ag.rf 3 69 h).set (by omega)) (w.run (R := rSay (σ.R i) e9 x) ((Ag.rf (22 + 4 * i) (25 + 4 * i) h).set (by omega)) hi ⟨by omega, by rw [rSay_raw s1, ← eze9]; exact hset_eq hri.2.1, hset_ne (by omega) hri.2.2.1, hset_ne (by omega) hri.2.2.2.1, hset_ne (by omega) hri.2.2.2.2⟩)

set_option maxRecDepth 20000 in
set_option maxHeartbeats 1000000 in
theorem S_X10_dare {G : xG} {d rc rs : Nat} {ex : Bool} {h : xH} {Q : xQ} {σ : St} {run c : Int} (w : CW σ h) (v : INV σ) (h_run : xr run) (h_c : xr c) (e1 : ¬ (inb run 4) → Q (.inr IOE) false h) (e2 : (inb run 4) → ¬ (inb c σ.p) → Q (.inr IAE) false h) (e3 : (inb run 4) → (inb c σ.p) → ¬ ((σ.R run.toNat).st = 2) → Q (.inr ISE) false h) (k : (inb run 4) → (inb c σ.p) → ((σ.R run.toNat).st = 2) → ∀ h2, FC h h2 → CW (σ.sRun run.toNat (rDare (σ.R run.toNat) c)) h2 → Q (.inl (some (vi (c)))) ex h2) : X G m_X10_dare (d + 7) (rc + 3) (rs + 18) ex 0 (xe m_X10_dare.2.2.1 [.ref 3, vi run, vi c]) [] h Q := by
  show X G m_X10_dare _ _ _ _ 0 [some (.ref 3), some (vi run), some (vi c), none] [] h Q
  have hp := PRb v.p
  have hq := gq_b v.p
  refine x_aload_n (dT U_X10_dare 0 rfl) rfl ?_
  refine x_iload_n (dT U_X10_dare 1 rfl) rfl ?_
  refine x_invokevirtual (rc' := rc + 2) (rs' := rs + 12) (rc2 := 1) (rs2 := 6) (As := [_]) (st := _) M_X10_runAt K_X10_276 (dT U_X10_dare 2 rfl) rfl rfl (by decide) rfl rfl w.c3 (Nat.le_of_ble_eq_true rfl) (by decide) rfl (Nat.le_of_ble_eq_true rfl) rfl (by decide) (Nat.le_of_ble_eq_true rfl) rfl rfl ?_
  refine S_X10_runAt w v h_run (fun q => xRet_thr (e1 (by omega))) (fun i hi ezi => ?_)
  subst ezi
  have hri := w.runs i hi
  have okri := v.R i hi
  have oki := okri.1
  have hRi : h[22 + 4 * i]? = some (cO 7 [.ref 5, .ref 4, .ref (22 + 4 * i + 1), .ref (22 + 4 * i + 2), .ref (22 + 4 * i + 3), vi ((σ.R i).y σ.p), vi (σ.R i).vv, vi ((σ.R i).a σ.p), vi (σ.R i).ww, vi (σ.R i).cc, vi (σ.R i).tt, vi (σ.R i).mm, vi (σ.R i).rr]) := hri.2.1
  refine xRet_some ?_
  refine x_astore_n (ls' := [some (.ref _), some (vi _), some (vi _), some (.ref _)]) (dT U_X10_dare 3 rfl) (by decide) rfl ?_
  refine x_aload_n (dT U_X10_dare 4 rfl) rfl ?_
  refine x_iload_n (dT U_X10_dare 5 rfl) rfl ?_
  refine x_invokevirtual (rc' := rc + 1) (rs' := rs + 6) (rc2 := 1) (rs2 := 6) (As := [_]) (st := _) M_X10_needNumber K_X10_147 (dT U_X10_dare 6 rfl) rfl rfl (by decide) rfl rfl w.c3 (Nat.le_of_ble_eq_true rfl) (by decide) rfl (Nat.le_of_ble_eq_true rfl) rfl (by decide) (Nat.le_of_ble_eq_true rfl) rfl rfl ?_
  refine S_X10_needNumber w v h_c (fun q => xRet_thr (e2 (by omega) (by omega))) (fun q1 => ?_)
  refine xRet_none ?_
  refine x_aload_n (dT U_X10_dare 7 rfl) rfl ?_
  refine x_invokestatic (rc' := rc) (rs' := rs) (rc2 := 1) (rs2 := 6) (As := [_]) (st := _) M_X10_needUnchallenged K_X10_298 (dT U_X10_dare 8 rfl) rfl rfl rfl rfl (Nat.le_of_ble_eq_true rfl) rfl (by decide) (Nat.le_of_ble_eq_true rfl) rfl rfl ?_
  refine S_X10_needUnchallenged w v hi (fun q => xRet_thr (e3 (by omega) (by omega) q)) (fun s1 => ?_)
  refine xRet_none ?_
  refine x_aload_n (dT U_X10_dare 9 rfl) rfl ?_
  refine x_iload_n (dT U_X10_dare 10 rfl) rfl ?_
  refine x_putfield F_X10_301 (dT U_X10_dare 11 rfl) hRi (by omega) (Nat.le_of_ble_eq_true rfl) rfl rfl ?_
  refine x_iload_n (dT U_X10_dare 12 rfl) rfl ?_
  refine x_ireturn (dT U_X10_dare 13 rfl) rfl ?_
  exact k (by omega) (by omega) s1 _ ((Ag.rf 3 69 h).set (by omega)) (w.run (R := rDare (σ.R i) c) ((Ag.rf (22 + 4 * i) (25 + 4 * i) h).set (by omega)) hi ⟨by omega, by rw [rDare_raw s1]; exact hset_eq hri.2.1, hset_ne (by omega) hri.2.2.1, hset_ne (by omega) hri.2.2.2.1, hset_ne (by omega) hri.2.2.2.2⟩)

set_option maxRecDepth 20000 in
set_option maxHeartbeats 1000000 in
theorem S_X10_ask {G : xG} {d rc rs : Nat} {ex : Bool} {h : xH} {Q : xQ} {σ : St} {run : Int} (w : CW σ h) (v : INV σ) (h_run : xr run) (e1 : ¬ (inb run 4) → Q (.inr IOE) false h) (e2 : (inb run 4) → ¬ ((σ.R run.toNat).st = 2) → Q (.inr ISE) false h) (k : (inb run 4) → ((σ.R run.toNat).st = 2) → ∀ h2, FC h h2 → CW (σ.sRun run.toNat (rDare (σ.R run.toNat) (trs σ.p (σ.R run.toNat) % (σ.p : Int)))) h2 → Q (.inl (some (vi ((trs σ.p (σ.R run.toNat) % (σ.p : Int)))))) ex h2) : X G m_X10_ask (d + 7) (rc + 2) (rs + 12) ex 0 (xe m_X10_ask.2.2.1 [.ref 3, vi run]) [] h Q := by
  show X G m_X10_ask _ _ _ _ 0 [some (.ref 3), some (vi run), none] [] h Q
  have hp := PRb v.p
  have hq := gq_b v.p
  refine x_aload_n (dT U_X10_ask 0 rfl) rfl ?_
  refine x_iload_n (dT U_X10_ask 1 rfl) rfl ?_
  refine x_invokevirtual (rc' := rc + 1) (rs' := rs + 6) (rc2 := 1) (rs2 := 6) (As := [_]) (st := _) M_X10_runAt K_X10_276 (dT U_X10_ask 2 rfl) rfl rfl (by decide) rfl rfl w.c3 (Nat.le_of_ble_eq_true rfl) (by decide) rfl (Nat.le_of_ble_eq_true rfl) rfl (by decide) (Nat.le_of_ble_eq_true rfl) rfl rfl ?_
  refine S_X10_runAt w v h_run (fun q => xRet_thr (e1 (by omega))) (fun i hi ezi => ?_)
  subst ezi
  have hri := w.runs i hi
  have okri := v.R i hi
  have oki := okri.1
  have hRi : h[22 + 4 * i]? = some (cO 7 [.ref 5, .ref 4, .ref (22 + 4 * i + 1), .ref (22 + 4 * i + 2), .ref (22 + 4 * i + 3), vi ((σ.R i).y σ.p), vi (σ.R i).vv, vi ((σ.R i).a σ.p), vi (σ.R i).ww, vi (σ.R i).cc, vi (σ.R i).tt, vi (σ.R i).mm, vi (σ.R i).rr]) := hri.2.1
  refine xRet_some ?_
  refine x_astore_n (ls' := [some (.ref _), some (vi _), some (.ref _)]) (dT U_X10_ask 3 rfl) (by decide) rfl ?_
  refine x_aload_n (dT U_X10_ask 4 rfl) rfl ?_
  refine x_invokestatic (rc' := rc) (rs' := rs) (rc2 := 1) (rs2 := 6) (As := [_]) (st := _) M_X10_needUnchallenged K_X10_298 (dT U_X10_ask 5 rfl) rfl rfl rfl rfl (Nat.le_of_ble_eq_true rfl) rfl (by decide) (Nat.le_of_ble_eq_true rfl) rfl rfl ?_
  refine S_X10_needUnchallenged w v hi (fun q => xRet_thr (e2 (by omega) q)) (fun s1 => ?_)
  refine xRet_none ?_
  refine x_aload_n (dT U_X10_ask 6 rfl) rfl ?_
  refine x_aload_n (dT U_X10_ask 7 rfl) rfl ?_
  refine x_getfield F_X10_10 (dT U_X10_ask 8 rfl) w.c3 (Nat.le_of_ble_eq_true rfl) rfl ?_
  refine x_aload_n (dT U_X10_ask 9 rfl) rfl ?_
  refine x_invokevirtual (rc' := rc) (rs' := rs) (rc2 := 0) (rs2 := 0) (As := []) (st := _) M_X7_transcript K_X10_304 (dT U_X10_ask 10 rfl) rfl rfl (by decide) rfl rfl hRi (by omega) (by decide) rfl (Nat.le_of_ble_eq_true rfl) rfl (by decide) (Nat.le_of_ble_eq_true rfl) rfl rfl ?_
  refine S_X7_transcript v.p hri oki w.gw (fun _ => ?_) (fun z => absurd (show 2 ≤ (σ.R i).st by omega) z)
  refine xRet_some ?_
  refine x_invokevirtual (rc' := rc) (rs' := rs) (rc2 := 0) (rs2 := 0) (As := [_]) (st := _) M_X1_rest K_X10_150 (dT U_X10_ask 11 rfl) rfl rfl (by decide) rfl rfl w.gw.1 (Nat.le_of_ble_eq_true rfl) (by decide) rfl (Nat.le_of_ble_eq_true rfl) rfl (by decide) (Nat.le_of_ble_eq_true rfl) rfl rfl ?_
  have tb8 : 0 ≤ trs σ.p (σ.R i) ∧ trs σ.p (σ.R i) < 251 := sl_b _ _
  refine S_X1_rest w.gw.1 hp (by unfold xr; omega) ?_
  refine xRet_some ?_
  refine x_putfield F_X10_301 (dT U_X10_ask 12 rfl) hRi (by omega) (Nat.le_of_ble_eq_true rfl) rfl rfl ?_
  refine x_aload_n (dT U_X10_ask 13 rfl) rfl ?_
  refine x_getfield F_X10_301 (dT U_X10_ask 14 rfl) (hset_eq hRi) (by omega) rfl ?_
  refine x_ireturn (dT U_X10_ask 15 rfl) rfl ?_
  exact k (by omega) s1 _ ((Ag.rf 3 69 h).set (by omega)) (w.run (R := rDare (σ.R i) (trs σ.p (σ.R i) % (σ.p : Int))) ((Ag.rf (22 + 4 * i) (25 + 4 * i) h).set (by omega)) hi ⟨by omega, by rw [rDare_raw s1]; exact hset_eq hri.2.1, hset_ne (by omega) hri.2.2.1, hset_ne (by omega) hri.2.2.2.1, hset_ne (by omega) hri.2.2.2.2⟩)

set_option maxRecDepth 20000 in
set_option maxHeartbeats 1000000 in
theorem S_X10_reply {G : xG} {d rc rs : Nat} {ex : Bool} {h : xH} {Q : xQ} {σ : St} {run secret blind : Int} (w : CW σ h) (v : INV σ) (h_run : xr run) (h_secret : xr secret) (h_blind : xr blind) (e1 : ¬ (inb run 4 ∧ inb secret 8) → Q (.inr IOE) false h) (e2 : (inb run 4 ∧ inb secret 8) → ¬ (inb blind σ.p) → Q (.inr IAE) false h) (e3 : (inb run 4 ∧ inb secret 8) → (inb blind σ.p) → ¬ ((σ.R run.toNat).mk = true ∧ (σ.R run.toNat).st = 3) → Q (.inr ISE) false h) (k : (inb run 4 ∧ inb secret 8) → (inb blind σ.p) → ((σ.R run.toNat).mk = true ∧ (σ.R run.toNat).st = 3) → ∀ h2, FC h h2 → CW (σ.sRun run.toNat (rReply σ.p (σ.R run.toNat) (σ.rw secret.toNat) blind (decide (suit σ.p (σ.R run.toNat) (σ.rw secret.toNat) blind)))) h2 → Q (.inl (some (vi (((σ.R run.toNat).mb + (σ.R run.toNat).c * blind) % (σ.p : Int))))) ex h2) : X G m_X10_reply (d + 7) (rc + 5) (rs + 30) ex 0 (xe m_X10_reply.2.2.1 [.ref 3, vi run, vi secret, vi blind]) [] h Q := by
  show X G m_X10_reply _ _ _ _ 0 [some (.ref 3), some (vi run), some (vi secret), some (vi blind), none, none] [] h Q
  have hp := PRb v.p
  have hq := gq_b v.p
  refine x_aload_n (dT U_X10_reply 0 rfl) rfl ?_
  refine x_iload_n (dT U_X10_reply 1 rfl) rfl ?_
  refine x_invokevirtual (rc' := rc + 4) (rs' := rs + 24) (rc2 := 1) (rs2 := 6) (As := [_]) (st := _) M_X10_runAt K_X10_276 (dT U_X10_reply 2 rfl) rfl rfl (by decide) rfl rfl w.c3 (Nat.le_of_ble_eq_true rfl) (by decide) rfl (Nat.le_of_ble_eq_true rfl) rfl (by decide) (Nat.le_of_ble_eq_true rfl) rfl rfl ?_
  refine S_X10_runAt w v h_run (fun q => xRet_thr (e1 (by omega))) (fun i hi ezi => ?_)
  subst ezi
  have hri := w.runs i hi
  have okri := v.R i hi
  have oki := okri.1
  have hRi : h[22 + 4 * i]? = some (cO 7 [.ref 5, .ref 4, .ref (22 + 4 * i + 1), .ref (22 + 4 * i + 2), .ref (22 + 4 * i + 3), vi ((σ.R i).y σ.p), vi (σ.R i).vv, vi ((σ.R i).a σ.p), vi (σ.R i).ww, vi (σ.R i).cc, vi (σ.R i).tt, vi (σ.R i).mm, vi (σ.R i).rr]) := hri.2.1
  refine xRet_some ?_
  refine x_astore (ls' := [some (.ref _), some (vi _), some (vi _), some (vi _), some (.ref _), none]) (dT U_X10_reply 3 rfl) (by decide) rfl ?_
  refine x_aload_n (dT U_X10_reply 4 rfl) rfl ?_
  refine x_iload_n (dT U_X10_reply 5 rfl) rfl ?_
  refine x_invokevirtual (rc' := rc + 3) (rs' := rs + 18) (rc2 := 1) (rs2 := 6) (As := [_]) (st := _) M_X10_rowAt K_X10_139 (dT U_X10_reply 6 rfl) rfl rfl (by decide) rfl rfl w.c3 (Nat.le_of_ble_eq_true rfl) (by decide) rfl (Nat.le_of_ble_eq_true rfl) rfl (by decide) (Nat.le_of_ble_eq_true rfl) rfl rfl ?_
  refine S_X10_rowAt w v h_secret (fun q => xRet_thr (e1 (by omega))) (fun j hj ezj => ?_)
  subst ezj
  have lj := v.rw j hj
  refine xRet_some ?_
  refine x_astore (ls' := [some (.ref _), some (vi _), some (vi _), some (vi _), some (.ref _), some (.ref _)]) (dT U_X10_reply 7 rfl) (by decide) rfl ?_
  refine x_aload_n (dT U_X10_reply 8 rfl) rfl ?_
  refine x_iload_n (dT U_X10_reply 9 rfl) rfl ?_
  refine x_invokevirtual (rc' := rc + 2) (rs' := rs + 12) (rc2 := 1) (rs2 := 6) (As := [_]) (st := _) M_X10_needNumber K_X10_147 (dT U_X10_reply 10 rfl) rfl rfl (by decide) rfl rfl w.c3 (Nat.le_of_ble_eq_true rfl) (by decide) rfl (Nat.le_of_ble_eq_true rfl) rfl (by decide) (Nat.le_of_ble_eq_true rfl) rfl rfl ?_
  refine S_X10_needNumber w v h_blind (fun q => xRet_thr (e2 (by omega) (by omega))) (fun q1 => ?_)
  refine xRet_none ?_
  refine x_aload (dT U_X10_reply 11 rfl) rfl ?_
  refine x_invokevirtual (rc' := rc + 2) (rs' := rs + 12) (rc2 := 0) (rs2 := 0) (As := []) (st := _) M_X7_hasMask K_X10_307 (dT U_X10_reply 12 rfl) rfl rfl (by decide) rfl rfl hRi (by omega) (by decide) rfl (Nat.le_of_ble_eq_true rfl) rfl (by decide) (Nat.le_of_ble_eq_true rfl) rfl rfl ?_
  refine S_X7_hasMask v.p hri oki w.gw (fun q2 => ?_) (fun q0 => ?_)
  · refine xRet_some ?_
    refine x_if_ne (tgt := 38) (dT U_X10_reply 13 rfl) (by decide) (by unfold xr at *; omega) (fun c24 => ?_) (fun c24 => ?_)
    · skip
      refine x_aload (dT U_X10_reply 19 rfl) rfl ?_
      refine x_invokestatic (rc' := rc + 1) (rs' := rs + 6) (rc2 := 1) (rs2 := 6) (As := [_]) (st := _) M_X10_needUnanswered K_X10_313 (dT U_X10_reply 20 rfl) rfl rfl rfl rfl (Nat.le_of_ble_eq_true rfl) rfl (by decide) (Nat.le_of_ble_eq_true rfl) rfl rfl ?_
      refine S_X10_needUnanswered w v hi (fun q => xRet_thr (e3 (by omega) (by omega) (fun z => q z.2))) (fun s1 => ?_)
      refine xRet_none ?_
      refine x_aload (dT U_X10_reply 21 rfl) rfl ?_
      refine x_aload (dT U_X10_reply 22 rfl) rfl ?_
      refine x_iload_n (dT U_X10_reply 23 rfl) rfl ?_
      refine x_invokevirtual (rc' := rc + 1) (rs' := rs + 6) (rc2 := 0) (rs2 := 0) (As := [_, _]) (st := _) M_X7_answerRightly K_X10_316 (dT U_X10_reply 24 rfl) rfl rfl (by decide) rfl rfl hRi (by omega) (by decide) rfl (Nat.le_of_ble_eq_true rfl) rfl (by decide) (Nat.le_of_ble_eq_true rfl) rfl rfl ?_
      refine S_X7_answerRightly v.p hri oki w.gw (w.rows j hj) ⟨by omega, by omega, by omega, by omega, by omega, by omega⟩ lj s1 q2 q1 (fun r hr9 => ?_)
      have ⟨rb, hrb⟩ : ∃ rb : Bool, r = (if rb = true then 1 else 0) ∧ rb = decide (suit σ.p (σ.R i) (σ.rw j) blind) := by
        rcases hr9 with ⟨y1, y2⟩ | ⟨y1, y2⟩
        · exact ⟨true, y1, (decide_eq_true y2).symm⟩
        · exact ⟨false, y1, (decide_eq_false y2).symm⟩
      obtain ⟨rfl, hrb⟩ := hrb
      refine xRet_none ?_
      refine x_aload (dT U_X10_reply 25 rfl) rfl ?_
      refine x_getfield F_X10_319 (dT U_X10_reply 26 rfl) (show _ = some (cO 7 [.ref 5, .ref 4, .ref (22 + 4 * i + 1), .ref (22 + 4 * i + 2), .ref (22 + 4 * i + 3), vi ((σ.R i).y σ.p), vi (σ.R i).vv, vi ((σ.R i).a σ.p), vi (σ.R i).ww, vi (σ.R i).cc, vi (((σ.R i).mb + (σ.R i).c * blind) % (σ.p : Int)), vi (σ.R i).mm, vi (if rb = true then 1 else 0)]) from hset_ne (by omega) (hset_eq hri.2.1)) (by omega) rfl ?_
      refine x_ireturn (dT U_X10_reply 27 rfl) rfl ?_
      subst hrb
      exact k (by omega) (by omega) ⟨q2, s1⟩ _ (((Ag.rf 3 69 h).set (by omega)).set (by omega)) (w.run (R := rReply σ.p (σ.R i) (σ.rw j) blind (decide (suit σ.p (σ.R i) (σ.rw j) blind))) (((Ag.rf (22 + 4 * i) (25 + 4 * i) h).set (by omega)).set (by omega)) hi ⟨by omega, by rw [rReply_raw s1]; exact hset_ne (by omega) (hset_eq hri.2.1), hset_ne (by omega) (hset_ne (by omega) hri.2.2.1), hset_ne (by omega) (hset_ne (by omega) hri.2.2.2.1), hset_eq (hset_ne (by omega) hri.2.2.2.2)⟩)
    · exfalso; omega
  · refine xRet_some ?_
    refine x_if_ne (tgt := 38) (dT U_X10_reply 13 rfl) (by decide) (by unfold xr at *; omega) (fun c24 => ?_) (fun c24 => ?_)
    · exfalso; omega
    · skip
      refine x_throwW T_IS rfl (is := 311) (text := "the run has no mask") (by decide) rfl (by omega) (Nat.le_of_ble_eq_true rfl) (by omega) (by omega) (dT U_X10_reply 14 rfl) (dT U_X10_reply 15 rfl) (dT U_X10_reply 16 rfl) (dT U_X10_reply 17 rfl) (dT U_X10_reply 18 rfl) ?_
      exact e3 (by omega) (by omega) (fun z => q0 z.1)

set_option maxRecDepth 20000 in
set_option maxHeartbeats 1000000 in
theorem S_X10_tell {G : xG} {d rc rs : Nat} {ex : Bool} {h : xH} {Q : xQ} {σ : St} {run answer t : Int} (w : CW σ h) (v : INV σ) (h_run : xr run) (h_answer : xr answer) (h_t : xr t) (e1 : ¬ (inb run 4 ∧ inb answer 8) → Q (.inr IOE) false h) (e2 : (inb run 4 ∧ inb answer 8) → ¬ (inb t σ.p) → Q (.inr IAE) false h) (e3 : (inb run 4 ∧ inb answer 8) → (inb t σ.p) → ¬ ((σ.R run.toNat).st = 3) → Q (.inr ISE) false h) (k : (inb run 4 ∧ inb answer 8) → (inb t σ.p) → ((σ.R run.toNat).st = 3) → ∀ h2, FC h h2 → CW (σ.sRun run.toNat (rTell (σ.R run.toNat) (σ.rw answer.toNat) t)) h2 → Q (.inl (some (vi (t)))) ex h2) : X G m_X10_tell (d + 7) (rc + 4) (rs + 24) ex 0 (xe m_X10_tell.2.2.1 [.ref 3, vi run, vi answer, vi t]) [] h Q := by
  show X G m_X10_tell _ _ _ _ 0 [some (.ref 3), some (vi run), some (vi answer), some (vi t), none, none] [] h Q
  have hp := PRb v.p
  have hq := gq_b v.p
  refine x_aload_n (dT U_X10_tell 0 rfl) rfl ?_
  refine x_iload_n (dT U_X10_tell 1 rfl) rfl ?_
  refine x_invokevirtual (rc' := rc + 3) (rs' := rs + 18) (rc2 := 1) (rs2 := 6) (As := [_]) (st := _) M_X10_runAt K_X10_276 (dT U_X10_tell 2 rfl) rfl rfl (by decide) rfl rfl w.c3 (Nat.le_of_ble_eq_true rfl) (by decide) rfl (Nat.le_of_ble_eq_true rfl) rfl (by decide) (Nat.le_of_ble_eq_true rfl) rfl rfl ?_
  refine S_X10_runAt w v h_run (fun q => xRet_thr (e1 (by omega))) (fun i hi ezi => ?_)
  subst ezi
  have hri := w.runs i hi
  have okri := v.R i hi
  have oki := okri.1
  have hRi : h[22 + 4 * i]? = some (cO 7 [.ref 5, .ref 4, .ref (22 + 4 * i + 1), .ref (22 + 4 * i + 2), .ref (22 + 4 * i + 3), vi ((σ.R i).y σ.p), vi (σ.R i).vv, vi ((σ.R i).a σ.p), vi (σ.R i).ww, vi (σ.R i).cc, vi (σ.R i).tt, vi (σ.R i).mm, vi (σ.R i).rr]) := hri.2.1
  refine xRet_some ?_
  refine x_astore (ls' := [some (.ref _), some (vi _), some (vi _), some (vi _), some (.ref _), none]) (dT U_X10_tell 3 rfl) (by decide) rfl ?_
  refine x_aload_n (dT U_X10_tell 4 rfl) rfl ?_
  refine x_iload_n (dT U_X10_tell 5 rfl) rfl ?_
  refine x_invokevirtual (rc' := rc + 2) (rs' := rs + 12) (rc2 := 1) (rs2 := 6) (As := [_]) (st := _) M_X10_rowAt K_X10_139 (dT U_X10_tell 6 rfl) rfl rfl (by decide) rfl rfl w.c3 (Nat.le_of_ble_eq_true rfl) (by decide) rfl (Nat.le_of_ble_eq_true rfl) rfl (by decide) (Nat.le_of_ble_eq_true rfl) rfl rfl ?_
  refine S_X10_rowAt w v h_answer (fun q => xRet_thr (e1 (by omega))) (fun j hj ezj => ?_)
  subst ezj
  have lj := v.rw j hj
  refine xRet_some ?_
  refine x_astore (ls' := [some (.ref _), some (vi _), some (vi _), some (vi _), some (.ref _), some (.ref _)]) (dT U_X10_tell 7 rfl) (by decide) rfl ?_
  refine x_aload_n (dT U_X10_tell 8 rfl) rfl ?_
  refine x_iload_n (dT U_X10_tell 9 rfl) rfl ?_
  refine x_invokevirtual (rc' := rc + 1) (rs' := rs + 6) (rc2 := 1) (rs2 := 6) (As := [_]) (st := _) M_X10_needNumber K_X10_147 (dT U_X10_tell 10 rfl) rfl rfl (by decide) rfl rfl w.c3 (Nat.le_of_ble_eq_true rfl) (by decide) rfl (Nat.le_of_ble_eq_true rfl) rfl (by decide) (Nat.le_of_ble_eq_true rfl) rfl rfl ?_
  refine S_X10_needNumber w v h_t (fun q => xRet_thr (e2 (by omega) (by omega))) (fun q1 => ?_)
  refine xRet_none ?_
  refine x_aload (dT U_X10_tell 11 rfl) rfl ?_
  refine x_invokestatic (rc' := rc) (rs' := rs) (rc2 := 1) (rs2 := 6) (As := [_]) (st := _) M_X10_needUnanswered K_X10_313 (dT U_X10_tell 12 rfl) rfl rfl rfl rfl (Nat.le_of_ble_eq_true rfl) rfl (by decide) (Nat.le_of_ble_eq_true rfl) rfl rfl ?_
  refine S_X10_needUnanswered w v hi (fun q => xRet_thr (e3 (by omega) (by omega) q)) (fun s1 => ?_)
  refine xRet_none ?_
  refine x_aload (dT U_X10_tell 13 rfl) rfl ?_
  refine x_aload (dT U_X10_tell 14 rfl) rfl ?_
  refine x_getfield F_X10_322 (dT U_X10_tell 15 rfl) hRi (by omega) rfl ?_
  refine x_invokestatic (rc' := rc) (rs' := rs) (rc2 := 0) (rs2 := 0) (As := [_, _]) (st := _) M_X1_copy K_X10_232 (dT U_X10_tell 16 rfl) rfl rfl rfl rfl (Nat.le_of_ble_eq_true rfl) rfl (by decide) (Nat.le_of_ble_eq_true rfl) rfl rfl ?_
  refine S_X1_copy (w.rows j hj) (by omega) lj.1 hri.2.2.2.2 (by omega) oki.a24.1 ?_
  refine xRet_none ?_
  refine x_aload (dT U_X10_tell 17 rfl) rfl ?_
  refine x_iload_n (dT U_X10_tell 18 rfl) rfl ?_
  refine x_putfield F_X10_319 (dT U_X10_tell 19 rfl) (hset_ne (by omega) hRi) (by omega) (Nat.le_of_ble_eq_true rfl) rfl rfl ?_
  refine x_iload_n (dT U_X10_tell 20 rfl) rfl ?_
  refine x_ireturn (dT U_X10_tell 21 rfl) rfl ?_
  exact k (by omega) (by omega) s1 _ (((Ag.rf 3 69 h).set (by omega)).set (by omega)) (w.run (R := rTell (σ.R i) (σ.rw j) t) (((Ag.rf (22 + 4 * i) (25 + 4 * i) h).set (by omega)).set (by omega)) hi ⟨by omega, by rw [rTell_raw s1]; exact hset_eq (hset_ne (by omega) hri.2.1), hset_ne (by omega) (hset_ne (by omega) hri.2.2.1), hset_ne (by omega) (hset_ne (by omega) hri.2.2.2.1), hset_ne (by omega) (hset_eq hri.2.2.2.2)⟩)

set_option maxRecDepth 20000 in
set_option maxHeartbeats 1000000 in
theorem S_X10_isAccepted {G : xG} {d rc rs : Nat} {ex : Bool} {h : xH} {Q : xQ} {σ : St} {run : Int} (w : CW σ h) (v : INV σ) (h_run : xr run) (e1 : ¬ (inb run 4) → Q (.inr IOE) false h) (k1 : (inb run 4) → acc σ.p (σ.R run.toNat) → Q (.inl (some (vi 1))) ex h) (k0 : (inb run 4) → ¬ acc σ.p (σ.R run.toNat) → Q (.inl (some (vi 0))) ex h) : X G m_X10_isAccepted (d + 7) (rc + 1) (rs + 6) ex 0 (xe m_X10_isAccepted.2.2.1 [.ref 3, vi run]) [] h Q := by
  show X G m_X10_isAccepted _ _ _ _ 0 [some (.ref 3), some (vi run)] [] h Q
  have hp := PRb v.p
  have hq := gq_b v.p
  refine x_aload_n (dT U_X10_isAccepted 0 rfl) rfl ?_
  refine x_iload_n (dT U_X10_isAccepted 1 rfl) rfl ?_
  refine x_invokevirtual (rc' := rc) (rs' := rs) (rc2 := 1) (rs2 := 6) (As := [_]) (st := _) M_X10_runAt K_X10_276 (dT U_X10_isAccepted 2 rfl) rfl rfl (by decide) rfl rfl w.c3 (Nat.le_of_ble_eq_true rfl) (by decide) rfl (Nat.le_of_ble_eq_true rfl) rfl (by decide) (Nat.le_of_ble_eq_true rfl) rfl rfl ?_
  refine S_X10_runAt w v h_run (fun q => xRet_thr (e1 (by omega))) (fun i hi ezi => ?_)
  subst ezi
  have hri := w.runs i hi
  have okri := v.R i hi
  have oki := okri.1
  have hRi : h[22 + 4 * i]? = some (cO 7 [.ref 5, .ref 4, .ref (22 + 4 * i + 1), .ref (22 + 4 * i + 2), .ref (22 + 4 * i + 3), vi ((σ.R i).y σ.p), vi (σ.R i).vv, vi ((σ.R i).a σ.p), vi (σ.R i).ww, vi (σ.R i).cc, vi (σ.R i).tt, vi (σ.R i).mm, vi (σ.R i).rr]) := hri.2.1
  refine xRet_some ?_
  refine x_invokevirtual (rc' := rc) (rs' := rs) (rc2 := 0) (rs2 := 0) (As := []) (st := _) M_X7_accepted K_X10_325 (dT U_X10_isAccepted 3 rfl) rfl rfl (by decide) rfl rfl hRi (by omega) (by decide) rfl (Nat.le_of_ble_eq_true rfl) rfl (by decide) (Nat.le_of_ble_eq_true rfl) rfl rfl ?_
  refine S_X7_accepted v.p hri oki w.gw (fun q1 => ?_) (fun q0 => ?_)
  · refine xRet_some ?_
    refine x_zreturn (dT U_X10_isAccepted 4 rfl) rfl (by omega) ?_
    exact k1 (by omega) q1
  · refine xRet_some ?_
    refine x_zreturn (dT U_X10_isAccepted 4 rfl) rfl (by omega) ?_
    exact k0 (by omega) q0

set_option maxRecDepth 20000 in
set_option maxHeartbeats 1000000 in
theorem S_X10_simulate {G : xG} {d rc rs : Nat} {ex : Bool} {h : xH} {Q : xQ} {σ : St} {run c answer t : Int} (w : CW σ h) (v : INV σ) (h_run : xr run) (h_c : xr c) (h_answer : xr answer) (h_t : xr t) (e1 : ¬ (inb run 4 ∧ inb answer 8) → Q (.inr IOE) false h) (e2 : (inb run 4 ∧ inb answer 8) → ¬ (inb c σ.p ∧ inb t σ.p) → Q (.inr IAE) false h) (e3 : (inb run 4 ∧ inb answer 8) → (inb c σ.p ∧ inb t σ.p) → ¬ ((σ.R run.toNat).st = 1) → Q (.inr ISE) false h) (k : (inb run 4 ∧ inb answer 8) → (inb c σ.p ∧ inb t σ.p) → ((σ.R run.toNat).st = 1) → ∀ h2, FC h h2 → CW (σ.sRun run.toNat (rSim σ.p (σ.R run.toNat) c (σ.rw answer.toNat) t)) h2 → Q (.inl (some (vi (MM σ.p ((cm σ.p (σ.rw answer.toNat) t - c * (σ.R run.toNat).e) % (σ.p : Int)))))) ex h2) : X G m_X10_simulate (d + 7) (rc + 5) (rs + 30) ex 0 (xe m_X10_simulate.2.2.1 [.ref 3, vi run, vi c, vi answer, vi t]) [] h Q := by
  show X G m_X10_simulate _ _ _ _ 0 [some (.ref 3), some (vi run), some (vi c), some (vi answer), some (vi t), none, none] [] h Q
  have hp := PRb v.p
  have hq := gq_b v.p
  refine x_aload_n (dT U_X10_simulate 0 rfl) rfl ?_
  refine x_iload_n (dT U_X10_simulate 1 rfl) rfl ?_
  refine x_invokevirtual (rc' := rc + 4) (rs' := rs + 24) (rc2 := 1) (rs2 := 6) (As := [_]) (st := _) M_X10_runAt K_X10_276 (dT U_X10_simulate 2 rfl) rfl rfl (by decide) rfl rfl w.c3 (Nat.le_of_ble_eq_true rfl) (by decide) rfl (Nat.le_of_ble_eq_true rfl) rfl (by decide) (Nat.le_of_ble_eq_true rfl) rfl rfl ?_
  refine S_X10_runAt w v h_run (fun q => xRet_thr (e1 (by omega))) (fun i hi ezi => ?_)
  subst ezi
  have hri := w.runs i hi
  have okri := v.R i hi
  have oki := okri.1
  have hRi : h[22 + 4 * i]? = some (cO 7 [.ref 5, .ref 4, .ref (22 + 4 * i + 1), .ref (22 + 4 * i + 2), .ref (22 + 4 * i + 3), vi ((σ.R i).y σ.p), vi (σ.R i).vv, vi ((σ.R i).a σ.p), vi (σ.R i).ww, vi (σ.R i).cc, vi (σ.R i).tt, vi (σ.R i).mm, vi (σ.R i).rr]) := hri.2.1
  refine xRet_some ?_
  refine x_astore (ls' := [some (.ref _), some (vi _), some (vi _), some (vi _), some (vi _), some (.ref _), none]) (dT U_X10_simulate 3 rfl) (by decide) rfl ?_
  refine x_aload_n (dT U_X10_simulate 4 rfl) rfl ?_
  refine x_iload_n (dT U_X10_simulate 5 rfl) rfl ?_
  refine x_invokevirtual (rc' := rc + 3) (rs' := rs + 18) (rc2 := 1) (rs2 := 6) (As := [_]) (st := _) M_X10_rowAt K_X10_139 (dT U_X10_simulate 6 rfl) rfl rfl (by decide) rfl rfl w.c3 (Nat.le_of_ble_eq_true rfl) (by decide) rfl (Nat.le_of_ble_eq_true rfl) rfl (by decide) (Nat.le_of_ble_eq_true rfl) rfl rfl ?_
  refine S_X10_rowAt w v h_answer (fun q => xRet_thr (e1 (by omega))) (fun j hj ezj => ?_)
  subst ezj
  have lj := v.rw j hj
  refine xRet_some ?_
  refine x_astore (ls' := [some (.ref _), some (vi _), some (vi _), some (vi _), some (vi _), some (.ref _), some (.ref _)]) (dT U_X10_simulate 7 rfl) (by decide) rfl ?_
  refine x_aload_n (dT U_X10_simulate 8 rfl) rfl ?_
  refine x_iload_n (dT U_X10_simulate 9 rfl) rfl ?_
  refine x_invokevirtual (rc' := rc + 2) (rs' := rs + 12) (rc2 := 1) (rs2 := 6) (As := [_]) (st := _) M_X10_needNumber K_X10_147 (dT U_X10_simulate 10 rfl) rfl rfl (by decide) rfl rfl w.c3 (Nat.le_of_ble_eq_true rfl) (by decide) rfl (Nat.le_of_ble_eq_true rfl) rfl (by decide) (Nat.le_of_ble_eq_true rfl) rfl rfl ?_
  refine S_X10_needNumber w v h_c (fun q => xRet_thr (e2 (by omega) (by omega))) (fun q1 => ?_)
  refine xRet_none ?_
  refine x_aload_n (dT U_X10_simulate 11 rfl) rfl ?_
  refine x_iload (dT U_X10_simulate 12 rfl) rfl ?_
  refine x_invokevirtual (rc' := rc + 1) (rs' := rs + 6) (rc2 := 1) (rs2 := 6) (As := [_]) (st := _) M_X10_needNumber K_X10_147 (dT U_X10_simulate 13 rfl) rfl rfl (by decide) rfl rfl w.c3 (Nat.le_of_ble_eq_true rfl) (by decide) rfl (Nat.le_of_ble_eq_true rfl) rfl (by decide) (Nat.le_of_ble_eq_true rfl) rfl rfl ?_
  refine S_X10_needNumber w v h_t (fun q => xRet_thr (e2 (by omega) (by omega))) (fun q2 => ?_)
  refine xRet_none ?_
  refine x_aload (dT U_X10_simulate 14 rfl) rfl ?_
  refine x_invokestatic (rc' := rc) (rs' := rs) (rc2 := 1) (rs2 := 6) (As := [_]) (st := _) M_X10_needBare K_X10_284 (dT U_X10_simulate 15 rfl) rfl rfl rfl rfl (Nat.le_of_ble_eq_true rfl) rfl (by decide) (Nat.le_of_ble_eq_true rfl) rfl rfl ?_
  refine S_X10_needBare w v hi (fun q => xRet_thr (e3 (by omega) (by omega) q)) (fun s1 => ?_)
  refine xRet_none ?_
  refine x_aload (dT U_X10_simulate 16 rfl) rfl ?_
  refine x_iload_n (dT U_X10_simulate 17 rfl) rfl ?_
  refine x_aload (dT U_X10_simulate 18 rfl) rfl ?_
  refine x_iload (dT U_X10_simulate 19 rfl) rfl ?_
  refine x_invokevirtual (rc' := rc) (rs' := rs) (rc2 := 0) (rs2 := 0) (As := [_, _, _]) (st := _) M_X7_makeUp K_X10_328 (dT U_X10_simulate 20 rfl) rfl rfl (by decide) rfl rfl hRi (by omega) (by decide) rfl (Nat.le_of_ble_eq_true rfl) rfl (by decide) (Nat.le_of_ble_eq_true rfl) rfl rfl ?_
  refine S_X7_makeUp v.p hri oki w.gw (w.rows j hj) ⟨by omega, by omega, by omega, by omega, by omega, by omega⟩ lj (by omega) q1 q2 ?_
  refine xRet_none ?_
  refine x_aload (dT U_X10_simulate 21 rfl) rfl ?_
  refine x_getfield F_X10_292 (dT U_X10_simulate 22 rfl) (show _ = some (cO 7 [.ref 5, .ref 4, .ref (22 + 4 * i + 1), .ref (22 + 4 * i + 2), .ref (22 + 4 * i + 3), vi ((σ.R i).y σ.p), vi (σ.R i).vv, vi (MM σ.p ((cm σ.p (σ.rw j) t - c * (σ.R i).e) % (σ.p : Int))), vi ((inn (σ.R i).form (σ.rw j) - c * (σ.R i).v) % (σ.p : Int)), vi c, vi t, vi (σ.R i).mm, vi (σ.R i).rr]) from hset_ne (by omega) (hset_eq hri.2.1)) (by omega) rfl ?_
  refine x_ireturn (dT U_X10_simulate 23 rfl) rfl ?_
  exact k (by omega) (by omega) s1 _ (((Ag.rf 3 69 h).set (by omega)).set (by omega)) (w.run (R := rSim σ.p (σ.R i) c (σ.rw j) t) (((Ag.rf (22 + 4 * i) (25 + 4 * i) h).set (by omega)).set (by omega)) hi ⟨by omega, by rw [rSim_raw s1]; exact hset_ne (by omega) (hset_eq hri.2.1), hset_ne (by omega) (hset_ne (by omega) hri.2.2.1), hset_ne (by omega) (hset_ne (by omega) hri.2.2.2.1), hset_eq (hset_ne (by omega) hri.2.2.2.2)⟩)
