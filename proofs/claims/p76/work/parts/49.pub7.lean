set_option maxRecDepth 20000 in
set_option maxHeartbeats 1000000 in
theorem S_X10_dareBit {G : xG} {d rc rs : Nat} {ex : Bool} {h : xH} {Q : xQ} {σ : St} {pair c : Int} (w : CW σ h) (v : INV σ) (h_pair : xr pair) (h_c : xr c) (e1 : ¬ (inb pair 2) → Q (.inr IOE) false h) (e2 : (inb pair 2) → ¬ (inb c σ.p) → Q (.inr IAE) false h) (e3 : (inb pair 2) → (inb c σ.p) → ¬ ((σ.P pair.toNat).st = 2) → Q (.inr ISE) false h) (k : (inb pair 2) → (inb c σ.p) → ((σ.P pair.toNat).st = 2) → ∀ h2, FC h h2 → CW (σ.sPair pair.toNat (pDare σ.p (σ.P pair.toNat) c)) h2 → Q (.inl (some (vi (if (σ.P pair.toNat).b = 0 then (pDare σ.p (σ.P pair.toNat) c).t0 else (pDare σ.p (σ.P pair.toNat) c).t1)))) ex h2) : X G m_X10_dareBit (d + 7) (rc + 3) (rs + 18) ex 0 (xe m_X10_dareBit.2.2.1 [.ref 3, vi pair, vi c]) [] h Q := by
  show X G m_X10_dareBit _ _ _ _ 0 [some (.ref 3), some (vi pair), some (vi c), none] [] h Q
  have hp := PRb v.p
  have hq := gq_b v.p
  refine x_aload_n (dT U_X10_dareBit 0 rfl) rfl ?_
  refine x_iload_n (dT U_X10_dareBit 1 rfl) rfl ?_
  refine x_invokevirtual (rc' := rc + 2) (rs' := rs + 12) (rc2 := 1) (rs2 := 6) (As := [_]) (st := _) M_X10_pairAt K_X10_394 (dT U_X10_dareBit 2 rfl) rfl rfl (by decide) rfl rfl w.c3 (Nat.le_of_ble_eq_true rfl) (by decide) rfl (Nat.le_of_ble_eq_true rfl) rfl (by decide) (Nat.le_of_ble_eq_true rfl) rfl rfl ?_
  refine S_X10_pairAt w v h_pair (fun q => xRet_thr (e1 (by omega))) (fun i hi ezi => ?_)
  subst ezi
  have hri := w.pairs i hi
  have oki := v.P i hi
  have hPi : h[39 + 4 * i]? = some (cO 5 [.ref 5, .ref 4, .ref (39 + 4 * i + 1), .ref (39 + 4 * i + 2), .ref (39 + 4 * i + 3), vi ((σ.P i).y σ.p), vi (σ.P i).bb, vi (σ.P i).ll, vi (σ.P i).mm, vi (σ.P i).cc]) := hri.2.1
  refine xRet_some ?_
  refine x_astore_n (ls' := [some (.ref _), some (vi _), some (vi _), some (.ref _)]) (dT U_X10_dareBit 3 rfl) (by decide) rfl ?_
  refine x_aload_n (dT U_X10_dareBit 4 rfl) rfl ?_
  refine x_iload_n (dT U_X10_dareBit 5 rfl) rfl ?_
  refine x_invokevirtual (rc' := rc + 1) (rs' := rs + 6) (rc2 := 1) (rs2 := 6) (As := [_]) (st := _) M_X10_needNumber K_X10_147 (dT U_X10_dareBit 6 rfl) rfl rfl (by decide) rfl rfl w.c3 (Nat.le_of_ble_eq_true rfl) (by decide) rfl (Nat.le_of_ble_eq_true rfl) rfl (by decide) (Nat.le_of_ble_eq_true rfl) rfl rfl ?_
  refine S_X10_needNumber w v h_c (fun q => xRet_thr (e2 (by omega) (by omega))) (fun q1 => ?_)
  refine xRet_none ?_
  refine x_aload_n (dT U_X10_dareBit 7 rfl) rfl ?_
  refine x_invokevirtual (rc' := rc + 1) (rs' := rs + 6) (rc2 := 0) (rs2 := 0) (As := []) (st := _) M_X5_hasFirst K_X10_408 (dT U_X10_dareBit 8 rfl) rfl rfl (by decide) rfl rfl hPi (by omega) (by decide) rfl (Nat.le_of_ble_eq_true rfl) rfl (by decide) (Nat.le_of_ble_eq_true rfl) rfl rfl ?_
  refine S_X5_hasFirst v.p hri oki w.gw (fun s1a => ?_) (fun s10 => ?_)
  · refine xRet_some ?_
    refine x_if_eq (tgt := 25) (dT U_X10_dareBit 9 rfl) (by decide) (by unfold xr at *; omega) (fun c15 => ?_) (fun c15 => ?_)
    · exfalso; omega
    · skip
      refine x_aload_n (dT U_X10_dareBit 10 rfl) rfl ?_
      refine x_invokevirtual (rc' := rc + 1) (rs' := rs + 6) (rc2 := 0) (rs2 := 0) (As := []) (st := _) M_X5_hasChallenge K_X10_418 (dT U_X10_dareBit 11 rfl) rfl rfl (by decide) rfl rfl hPi (by omega) (by decide) rfl (Nat.le_of_ble_eq_true rfl) rfl (by decide) (Nat.le_of_ble_eq_true rfl) rfl rfl ?_
      refine S_X5_hasChallenge v.p hri oki w.gw (fun s2 => ?_) (fun s20 => ?_)
      · refine xRet_some ?_
        refine x_if_eq (tgt := 36) (dT U_X10_dareBit 12 rfl) (by decide) (by unfold xr at *; omega) (fun c22 => ?_) (fun c22 => ?_)
        · exfalso; omega
        · skip
          refine x_throwW T_IS rfl (is := 421) (text := "the pair has no first messages, or has a challenge") (by decide) rfl (by omega) (Nat.le_of_ble_eq_true rfl) (by omega) (by omega) (dT U_X10_dareBit 13 rfl) (dT U_X10_dareBit 14 rfl) (dT U_X10_dareBit 15 rfl) (dT U_X10_dareBit 16 rfl) (dT U_X10_dareBit 17 rfl) ?_
          exact e3 (by omega) (by omega) (show ¬ (σ.P i).st = 2 by omega)
      · refine xRet_some ?_
        refine x_if_eq (tgt := 36) (dT U_X10_dareBit 12 rfl) (by decide) (by unfold xr at *; omega) (fun c22 => ?_) (fun c22 => ?_)
        · skip
          have okI0 := oki
          have s1 : (σ.P i).st = 2 := by omega
          have okI := okI0
          have kb := okI.bC (by omega)
          rcases Decidable.em ((σ.P i).b = 0) with bq | bq
          · have bq9 : (σ.P i).b = 0 := by omega
            have hri2 : h[39 + 4 * i]? = some (cP (39 + 4 * i) (MM σ.p (σ.P i).e) 0 (σ.P i).bl (σ.P i).m (-1)) := by
              have z := hri.2.1
              rw [show (σ.P i).y σ.p = MM σ.p (σ.P i).e from if_pos (by omega), show (σ.P i).bb = 0 from (if_pos (by omega)).trans bq9, show (σ.P i).ll = (σ.P i).bl from if_pos (by omega), show (σ.P i).mm = (σ.P i).m from if_pos (by omega), show (σ.P i).cc = -1 from if_neg (by omega)] at z
              exact z
            have kl := (okI.2.1 (by omega)).2.1
            have hF := hri.2.2.1
            have f0e : (σ.P i).F0 σ.p = MM σ.p (σ.P i).f0 := if_pos (by omega)
            have f1e : (σ.P i).F1 σ.p = MM σ.p (σ.P i).f1 := if_pos (by omega)
            have ko := ((okI.2.2.1 (by omega)).1 bq9).2.2.1
            refine x_aload_n (dT U_X10_dareBit 18 rfl) rfl ?_
            refine x_iload_n (dT U_X10_dareBit 19 rfl) rfl ?_
            refine x_invokevirtual (rc' := rc + 1) (rs' := rs + 6) (rc2 := 0) (rs2 := 0) (As := [_]) (st := _) M_X5_answerTo K_X10_423 (dT U_X10_dareBit 20 rfl) rfl rfl (by decide) rfl rfl hPi (by omega) (by decide) rfl (Nat.le_of_ble_eq_true rfl) rfl (by decide) (Nat.le_of_ble_eq_true rfl) rfl rfl ?_
            refine S_X5_answerTo0 v.p w.gw (by omega) hri2 hri.2.2.2.1 hri.2.2.2.2 (okI.mr (by omega)) kl q1 ko ?_
            refine xRet_some ?_
            refine x_ireturn (dT U_X10_dareBit 21 rfl) rfl ?_
            have eH : pDare σ.p (σ.P i) c = _ := if_pos bq
            rw [show pDare σ.p (σ.P (i : Int).toNat) c = _ from eH, if_pos (show (σ.P (i : Int).toNat).b = 0 from bq)] at k
            exact k (by omega) (by omega) s1 _ ((((Ag.rf 3 69 h).set (by omega)).set (by omega)).set (by omega)) (w.pair ((((Ag.rf (39 + 4 * i) (42 + 4 * i) h).set (by omega)).set (by omega)).set (by omega)) hi ⟨by omega, (show _ = some (cP (39 + 4 * i) (MM σ.p (σ.P i).e) 0 (σ.P i).bl (σ.P i).m c) from hset_ne (by omega) (hset_ne (by omega) (hset_eq hri2))).trans (by show some (cP (39 + 4 * i) (MM σ.p (σ.P i).e) 0 (σ.P i).bl (σ.P i).m c) = some (cP (39 + 4 * i) (MM σ.p (σ.P i).e) (σ.P i).b (σ.P i).bl (σ.P i).m c); rw [bq9]), by rw [f0e, f1e] at hF; exact hset_ne (by omega) (hset_ne (by omega) (hset_ne (by omega) hF)), hset_ne (by omega) (hset_eq (hset_ne (by omega) hri.2.2.2.1)), hset_eq (hset_ne (by omega) (hset_ne (by omega) hri.2.2.2.2))⟩)
          · have bq9 : (σ.P i).b = 1 := by omega
            have hri2 : h[39 + 4 * i]? = some (cP (39 + 4 * i) (MM σ.p (σ.P i).e) 1 (σ.P i).bl (σ.P i).m (-1)) := by
              have z := hri.2.1
              rw [show (σ.P i).y σ.p = MM σ.p (σ.P i).e from if_pos (by omega), show (σ.P i).bb = 1 from (if_pos (by omega)).trans bq9, show (σ.P i).ll = (σ.P i).bl from if_pos (by omega), show (σ.P i).mm = (σ.P i).m from if_pos (by omega), show (σ.P i).cc = -1 from if_neg (by omega)] at z
              exact z
            have kl := (okI.2.1 (by omega)).2.1
            have hF := hri.2.2.1
            have f0e : (σ.P i).F0 σ.p = MM σ.p (σ.P i).f0 := if_pos (by omega)
            have f1e : (σ.P i).F1 σ.p = MM σ.p (σ.P i).f1 := if_pos (by omega)
            have ko := ((okI.2.2.1 (by omega)).2 bq9).2.2.1
            refine x_aload_n (dT U_X10_dareBit 18 rfl) rfl ?_
            refine x_iload_n (dT U_X10_dareBit 19 rfl) rfl ?_
            refine x_invokevirtual (rc' := rc + 1) (rs' := rs + 6) (rc2 := 0) (rs2 := 0) (As := [_]) (st := _) M_X5_answerTo K_X10_423 (dT U_X10_dareBit 20 rfl) rfl rfl (by decide) rfl rfl hPi (by omega) (by decide) rfl (Nat.le_of_ble_eq_true rfl) rfl (by decide) (Nat.le_of_ble_eq_true rfl) rfl rfl ?_
            refine S_X5_answerTo1 v.p w.gw (by omega) hri2 hri.2.2.2.1 hri.2.2.2.2 (okI.mr (by omega)) kl q1 ko ?_
            refine xRet_some ?_
            refine x_ireturn (dT U_X10_dareBit 21 rfl) rfl ?_
            have eH : pDare σ.p (σ.P i) c = _ := if_neg bq
            rw [show pDare σ.p (σ.P (i : Int).toNat) c = _ from eH, if_neg (show ¬ (σ.P (i : Int).toNat).b = 0 from bq)] at k
            exact k (by omega) (by omega) s1 _ ((((Ag.rf 3 69 h).set (by omega)).set (by omega)).set (by omega)) (w.pair ((((Ag.rf (39 + 4 * i) (42 + 4 * i) h).set (by omega)).set (by omega)).set (by omega)) hi ⟨by omega, (show _ = some (cP (39 + 4 * i) (MM σ.p (σ.P i).e) 1 (σ.P i).bl (σ.P i).m c) from hset_ne (by omega) (hset_ne (by omega) (hset_eq hri2))).trans (by show some (cP (39 + 4 * i) (MM σ.p (σ.P i).e) 1 (σ.P i).bl (σ.P i).m c) = some (cP (39 + 4 * i) (MM σ.p (σ.P i).e) (σ.P i).b (σ.P i).bl (σ.P i).m c); rw [bq9]), by rw [f0e, f1e] at hF; exact hset_ne (by omega) (hset_ne (by omega) (hset_ne (by omega) hF)), hset_ne (by omega) (hset_eq (hset_ne (by omega) hri.2.2.2.1)), hset_eq (hset_ne (by omega) (hset_ne (by omega) hri.2.2.2.2))⟩)
        · exfalso; omega
  · refine xRet_some ?_
    refine x_if_eq (tgt := 25) (dT U_X10_dareBit 9 rfl) (by decide) (by unfold xr at *; omega) (fun c15 => ?_) (fun c15 => ?_)
    · skip
      refine x_throwW T_IS rfl (is := 421) (text := "the pair has no first messages, or has a challenge") (by decide) rfl (by omega) (Nat.le_of_ble_eq_true rfl) (by omega) (by omega) (dT U_X10_dareBit 13 rfl) (dT U_X10_dareBit 14 rfl) (dT U_X10_dareBit 15 rfl) (dT U_X10_dareBit 16 rfl) (dT U_X10_dareBit 17 rfl) ?_
      exact e3 (by omega) (by omega) (show ¬ (σ.P i).st = 2 by omega)
    · exfalso; omega

set_option maxRecDepth 20000 in
set_option maxHeartbeats 1000000 in
theorem S_X10_isBitAccepted {G : xG} {d rc rs : Nat} {ex : Bool} {h : xH} {Q : xQ} {σ : St} {pair : Int} (w : CW σ h) (v : INV σ) (h_pair : xr pair) (e1 : ¬ (inb pair 2) → Q (.inr IOE) false h) (k1 : (inb pair 2) → (σ.P pair.toNat).st = 3 → Q (.inl (some (vi 1))) ex h) (k0 : (inb pair 2) → ¬ ((σ.P pair.toNat).st = 3) → Q (.inl (some (vi 0))) ex h) : X G m_X10_isBitAccepted (d + 7) (rc + 1) (rs + 6) ex 0 (xe m_X10_isBitAccepted.2.2.1 [.ref 3, vi pair]) [] h Q := by
  show X G m_X10_isBitAccepted _ _ _ _ 0 [some (.ref 3), some (vi pair)] [] h Q
  have hp := PRb v.p
  have hq := gq_b v.p
  refine x_aload_n (dT U_X10_isBitAccepted 0 rfl) rfl ?_
  refine x_iload_n (dT U_X10_isBitAccepted 1 rfl) rfl ?_
  refine x_invokevirtual (rc' := rc) (rs' := rs) (rc2 := 1) (rs2 := 6) (As := [_]) (st := _) M_X10_pairAt K_X10_394 (dT U_X10_isBitAccepted 2 rfl) rfl rfl (by decide) rfl rfl w.c3 (Nat.le_of_ble_eq_true rfl) (by decide) rfl (Nat.le_of_ble_eq_true rfl) rfl (by decide) (Nat.le_of_ble_eq_true rfl) rfl rfl ?_
  refine S_X10_pairAt w v h_pair (fun q => xRet_thr (e1 (by omega))) (fun i hi ezi => ?_)
  subst ezi
  have hri := w.pairs i hi
  have oki := v.P i hi
  have hPi : h[39 + 4 * i]? = some (cO 5 [.ref 5, .ref 4, .ref (39 + 4 * i + 1), .ref (39 + 4 * i + 2), .ref (39 + 4 * i + 3), vi ((σ.P i).y σ.p), vi (σ.P i).bb, vi (σ.P i).ll, vi (σ.P i).mm, vi (σ.P i).cc]) := hri.2.1
  refine xRet_some ?_
  refine x_invokevirtual (rc' := rc) (rs' := rs) (rc2 := 0) (rs2 := 0) (As := []) (st := _) M_X5_accepted K_X10_426 (dT U_X10_isBitAccepted 3 rfl) rfl rfl (by decide) rfl rfl hPi (by omega) (by decide) rfl (Nat.le_of_ble_eq_true rfl) rfl (by decide) (Nat.le_of_ble_eq_true rfl) rfl rfl ?_
  refine S_X5_accepted v.p w.gw hri oki (fun q1 => ?_) (fun q0 => ?_)
  · refine xRet_some ?_
    refine x_zreturn (dT U_X10_isBitAccepted 4 rfl) rfl (by omega) ?_
    exact k1 (by omega) q1
  · refine xRet_some ?_
    refine x_zreturn (dT U_X10_isBitAccepted 4 rfl) rfl (by omega) ?_
    exact k0 (by omega) q0

set_option maxRecDepth 20000 in
set_option maxHeartbeats 1000000 in
theorem S_X10_bitTold {G : xG} {d rc rs : Nat} {ex : Bool} {h : xH} {Q : xQ} {σ : St} {pair side what : Int} (w : CW σ h) (v : INV σ) (h_pair : xr pair) (h_side : xr side) (h_what : xr what) (e1 : ¬ (inb pair 2) → Q (.inr IOE) false h) (e2 : (inb pair 2) → ¬ (inb side 2 ∧ inb what 3) → Q (.inr IAE) false h) (e3 : (inb pair 2) → (inb side 2 ∧ inb what 3) → ¬ ((σ.P pair.toNat).st = 3) → Q (.inr ISE) false h) (k : (inb pair 2) → (inb side 2 ∧ inb what 3) → ((σ.P pair.toNat).st = 3) → Q (.inl (some (vi (if what = 0 then MM σ.p (if side = 0 then (σ.P pair.toNat).f0 else (σ.P pair.toNat).f1) else if what = 1 then (if side = 0 then (σ.P pair.toNat).c0 else (σ.P pair.toNat).c1) else (if side = 0 then (σ.P pair.toNat).t0 else (σ.P pair.toNat).t1))))) ex h) : X G m_X10_bitTold (d + 7) (rc + 4) (rs + 24) ex 0 (xe m_X10_bitTold.2.2.1 [.ref 3, vi pair, vi side, vi what]) [] h Q := by
  show X G m_X10_bitTold _ _ _ _ 0 [some (.ref 3), some (vi pair), some (vi side), some (vi what), none] [] h Q
  have hp := PRb v.p
  have hq := gq_b v.p
  refine x_aload_n (dT U_X10_bitTold 0 rfl) rfl ?_
  refine x_iload_n (dT U_X10_bitTold 1 rfl) rfl ?_
  refine x_invokevirtual (rc' := rc + 3) (rs' := rs + 18) (rc2 := 1) (rs2 := 6) (As := [_]) (st := _) M_X10_pairAt K_X10_394 (dT U_X10_bitTold 2 rfl) rfl rfl (by decide) rfl rfl w.c3 (Nat.le_of_ble_eq_true rfl) (by decide) rfl (Nat.le_of_ble_eq_true rfl) rfl (by decide) (Nat.le_of_ble_eq_true rfl) rfl rfl ?_
  refine S_X10_pairAt w v h_pair (fun q => xRet_thr (e1 (by omega))) (fun i hi ezi => ?_)
  subst ezi
  have hri := w.pairs i hi
  have oki := v.P i hi
  have hPi : h[39 + 4 * i]? = some (cO 5 [.ref 5, .ref 4, .ref (39 + 4 * i + 1), .ref (39 + 4 * i + 2), .ref (39 + 4 * i + 3), vi ((σ.P i).y σ.p), vi (σ.P i).bb, vi (σ.P i).ll, vi (σ.P i).mm, vi (σ.P i).cc]) := hri.2.1
  refine xRet_some ?_
  refine x_astore (ls' := [some (.ref _), some (vi _), some (vi _), some (vi _), some (.ref _)]) (dT U_X10_bitTold 3 rfl) (by decide) rfl ?_
  refine x_iload_n (dT U_X10_bitTold 4 rfl) rfl ?_
  refine x_invokestatic (rc' := rc + 2) (rs' := rs + 12) (rc2 := 1) (rs2 := 6) (As := [_]) (st := _) M_X10_needBit K_X10_398 (dT U_X10_bitTold 5 rfl) rfl rfl rfl rfl (Nat.le_of_ble_eq_true rfl) rfl (by decide) (Nat.le_of_ble_eq_true rfl) rfl rfl ?_
  refine S_X10_needBit v h_side (fun q => xRet_thr (e2 (by omega) (by omega))) (fun qb => ?_)
  refine xRet_none ?_
  refine x_iload_n (dT U_X10_bitTold 6 rfl) rfl ?_
  refine x_if_lt (tgt := 20) (dT U_X10_bitTold 7 rfl) (by decide) h_what (fun c12 => ?_) (fun c12 => ?_)
  · skip
    refine x_throwW T_IA rfl (is := 361) (text := "what is out of range") (by decide) rfl (by omega) (Nat.le_of_ble_eq_true rfl) (by omega) (by omega) (dT U_X10_bitTold 11 rfl) (dT U_X10_bitTold 12 rfl) (dT U_X10_bitTold 13 rfl) (dT U_X10_bitTold 14 rfl) (dT U_X10_bitTold 15 rfl) ?_
    exact e2 (by omega) (by omega)
  · skip
    refine x_iload_n (dT U_X10_bitTold 8 rfl) rfl ?_
    refine x_iconst (dT U_X10_bitTold 9 rfl) ?_
    refine x_icmp_le (tgt := 31) (dT U_X10_bitTold 10 rfl) (by decide) h_what (by unfold xr; omega) (fun c17 => ?_) (fun c17 => ?_)
    · skip
      refine x_aload (dT U_X10_bitTold 16 rfl) rfl ?_
      refine x_invokestatic (rc' := rc + 1) (rs' := rs + 6) (rc2 := 1) (rs2 := 6) (As := [_]) (st := _) M_X10_needPairChallenge K_X10_427 (dT U_X10_bitTold 17 rfl) rfl rfl rfl rfl (Nat.le_of_ble_eq_true rfl) rfl (by decide) (Nat.le_of_ble_eq_true rfl) rfl rfl ?_
      refine S_X10_needPairChallenge w v hi (fun q => xRet_thr (e3 (by omega) (by omega) q)) (fun s3 => ?_)
      refine xRet_none ?_
      have f0e : (σ.P i).F0 σ.p = MM σ.p (σ.P i).f0 := if_pos (by omega)
      have f1e : (σ.P i).F1 σ.p = MM σ.p (σ.P i).f1 := if_pos (by omega)
      have cs : (side = 0 ∨ side = 1) ∧ (what = 0 ∨ what = 1 ∨ what = 2) := by omega
      obtain ⟨rfl | rfl, rfl | rfl | rfl⟩ := cs
      · skip
        refine x_aload (dT U_X10_bitTold 18 rfl) rfl ?_
        refine x_iload_n (dT U_X10_bitTold 19 rfl) rfl ?_
        refine x_iload_n (dT U_X10_bitTold 20 rfl) rfl ?_
        refine x_invokevirtual (rc' := rc + 1) (rs' := rs + 6) (rc2 := 0) (rs2 := 0) (As := [_, _]) (st := _) M_X5_numberAt K_X10_431 (dT U_X10_bitTold 21 rfl) rfl rfl (by decide) rfl rfl hPi (by omega) (by decide) rfl (Nat.le_of_ble_eq_true rfl) rfl (by decide) (Nat.le_of_ble_eq_true rfl) rfl rfl ?_
        refine S_X5_numberAt00 v.p w.gw hri oki ?_
        rw [f0e]
        refine xRet_some ?_
        refine x_ireturn (dT U_X10_bitTold 22 rfl) rfl ?_
        exact k (by omega) (by omega) s3
      · skip
        refine x_aload (dT U_X10_bitTold 18 rfl) rfl ?_
        refine x_iload_n (dT U_X10_bitTold 19 rfl) rfl ?_
        refine x_iload_n (dT U_X10_bitTold 20 rfl) rfl ?_
        refine x_invokevirtual (rc' := rc + 1) (rs' := rs + 6) (rc2 := 0) (rs2 := 0) (As := [_, _]) (st := _) M_X5_numberAt K_X10_431 (dT U_X10_bitTold 21 rfl) rfl rfl (by decide) rfl rfl hPi (by omega) (by decide) rfl (Nat.le_of_ble_eq_true rfl) rfl (by decide) (Nat.le_of_ble_eq_true rfl) rfl rfl ?_
        refine S_X5_numberAt01 v.p w.gw hri oki ?_
        refine xRet_some ?_
        refine x_ireturn (dT U_X10_bitTold 22 rfl) rfl ?_
        exact k (by omega) (by omega) s3
      · skip
        refine x_aload (dT U_X10_bitTold 18 rfl) rfl ?_
        refine x_iload_n (dT U_X10_bitTold 19 rfl) rfl ?_
        refine x_iload_n (dT U_X10_bitTold 20 rfl) rfl ?_
        refine x_invokevirtual (rc' := rc + 1) (rs' := rs + 6) (rc2 := 0) (rs2 := 0) (As := [_, _]) (st := _) M_X5_numberAt K_X10_431 (dT U_X10_bitTold 21 rfl) rfl rfl (by decide) rfl rfl hPi (by omega) (by decide) rfl (Nat.le_of_ble_eq_true rfl) rfl (by decide) (Nat.le_of_ble_eq_true rfl) rfl rfl ?_
        refine S_X5_numberAt02 v.p w.gw hri oki ?_
        refine xRet_some ?_
        refine x_ireturn (dT U_X10_bitTold 22 rfl) rfl ?_
        exact k (by omega) (by omega) s3
      · skip
        refine x_aload (dT U_X10_bitTold 18 rfl) rfl ?_
        refine x_iload_n (dT U_X10_bitTold 19 rfl) rfl ?_
        refine x_iload_n (dT U_X10_bitTold 20 rfl) rfl ?_
        refine x_invokevirtual (rc' := rc + 1) (rs' := rs + 6) (rc2 := 0) (rs2 := 0) (As := [_, _]) (st := _) M_X5_numberAt K_X10_431 (dT U_X10_bitTold 21 rfl) rfl rfl (by decide) rfl rfl hPi (by omega) (by decide) rfl (Nat.le_of_ble_eq_true rfl) rfl (by decide) (Nat.le_of_ble_eq_true rfl) rfl rfl ?_
        refine S_X5_numberAt10 v.p w.gw hri oki ?_
        rw [f1e]
        refine xRet_some ?_
        refine x_ireturn (dT U_X10_bitTold 22 rfl) rfl ?_
        exact k (by omega) (by omega) s3
      · skip
        refine x_aload (dT U_X10_bitTold 18 rfl) rfl ?_
        refine x_iload_n (dT U_X10_bitTold 19 rfl) rfl ?_
        refine x_iload_n (dT U_X10_bitTold 20 rfl) rfl ?_
        refine x_invokevirtual (rc' := rc + 1) (rs' := rs + 6) (rc2 := 0) (rs2 := 0) (As := [_, _]) (st := _) M_X5_numberAt K_X10_431 (dT U_X10_bitTold 21 rfl) rfl rfl (by decide) rfl rfl hPi (by omega) (by decide) rfl (Nat.le_of_ble_eq_true rfl) rfl (by decide) (Nat.le_of_ble_eq_true rfl) rfl rfl ?_
        refine S_X5_numberAt11 v.p w.gw hri oki ?_
        refine xRet_some ?_
        refine x_ireturn (dT U_X10_bitTold 22 rfl) rfl ?_
        exact k (by omega) (by omega) s3
      · skip
        refine x_aload (dT U_X10_bitTold 18 rfl) rfl ?_
        refine x_iload_n (dT U_X10_bitTold 19 rfl) rfl ?_
        refine x_iload_n (dT U_X10_bitTold 20 rfl) rfl ?_
        refine x_invokevirtual (rc' := rc + 1) (rs' := rs + 6) (rc2 := 0) (rs2 := 0) (As := [_, _]) (st := _) M_X5_numberAt K_X10_431 (dT U_X10_bitTold 21 rfl) rfl rfl (by decide) rfl rfl hPi (by omega) (by decide) rfl (Nat.le_of_ble_eq_true rfl) rfl (by decide) (Nat.le_of_ble_eq_true rfl) rfl rfl ?_
        refine S_X5_numberAt12 v.p w.gw hri oki ?_
        refine xRet_some ?_
        refine x_ireturn (dT U_X10_bitTold 22 rfl) rfl ?_
        exact k (by omega) (by omega) s3
    · skip
      refine x_throwW T_IA rfl (is := 361) (text := "what is out of range") (by decide) rfl (by omega) (Nat.le_of_ble_eq_true rfl) (by omega) (by omega) (dT U_X10_bitTold 11 rfl) (dT U_X10_bitTold 12 rfl) (dT U_X10_bitTold 13 rfl) (dT U_X10_bitTold 14 rfl) (dT U_X10_bitTold 15 rfl) ?_
      exact e2 (by omega) (by omega)

set_option maxRecDepth 20000 in
set_option maxHeartbeats 1000000 in
theorem S_X10_bitLike {G : xG} {d rc rs : Nat} {ex : Bool} {h : xH} {Q : xQ} {σ : St} {pair bit : Int} (w : CW σ h) (v : INV σ) (h_pair : xr pair) (h_bit : xr bit) (e1 : ¬ (inb pair 2) → Q (.inr IOE) false h) (e2 : (inb pair 2) → ¬ (inb bit 2) → Q (.inr IAE) false h) (e3 : (inb pair 2) → (inb bit 2) → ¬ ((σ.P pair.toNat).st = 3) → Q (.inr ISE) false h) (k : (inb pair 2) → (inb bit 2) → ((σ.P pair.toNat).st = 3) → Q (.inl (some (vi (1)))) ex h) : X G m_X10_bitLike (d + 7) (rc + 3) (rs + 18) ex 0 (xe m_X10_bitLike.2.2.1 [.ref 3, vi pair, vi bit]) [] h Q := by
  show X G m_X10_bitLike _ _ _ _ 0 [some (.ref 3), some (vi pair), some (vi bit), none] [] h Q
  have hp := PRb v.p
  have hq := gq_b v.p
  refine x_aload_n (dT U_X10_bitLike 0 rfl) rfl ?_
  refine x_iload_n (dT U_X10_bitLike 1 rfl) rfl ?_
  refine x_invokevirtual (rc' := rc + 2) (rs' := rs + 12) (rc2 := 1) (rs2 := 6) (As := [_]) (st := _) M_X10_pairAt K_X10_394 (dT U_X10_bitLike 2 rfl) rfl rfl (by decide) rfl rfl w.c3 (Nat.le_of_ble_eq_true rfl) (by decide) rfl (Nat.le_of_ble_eq_true rfl) rfl (by decide) (Nat.le_of_ble_eq_true rfl) rfl rfl ?_
  refine S_X10_pairAt w v h_pair (fun q => xRet_thr (e1 (by omega))) (fun i hi ezi => ?_)
  subst ezi
  have hri := w.pairs i hi
  have oki := v.P i hi
  have hPi : h[39 + 4 * i]? = some (cO 5 [.ref 5, .ref 4, .ref (39 + 4 * i + 1), .ref (39 + 4 * i + 2), .ref (39 + 4 * i + 3), vi ((σ.P i).y σ.p), vi (σ.P i).bb, vi (σ.P i).ll, vi (σ.P i).mm, vi (σ.P i).cc]) := hri.2.1
  refine xRet_some ?_
  refine x_astore_n (ls' := [some (.ref _), some (vi _), some (vi _), some (.ref _)]) (dT U_X10_bitLike 3 rfl) (by decide) rfl ?_
  refine x_iload_n (dT U_X10_bitLike 4 rfl) rfl ?_
  refine x_invokestatic (rc' := rc + 1) (rs' := rs + 6) (rc2 := 1) (rs2 := 6) (As := [_]) (st := _) M_X10_needBit K_X10_398 (dT U_X10_bitLike 5 rfl) rfl rfl rfl rfl (Nat.le_of_ble_eq_true rfl) rfl (by decide) (Nat.le_of_ble_eq_true rfl) rfl rfl ?_
  refine S_X10_needBit v h_bit (fun q => xRet_thr (e2 (by omega) (by omega))) (fun qb => ?_)
  refine xRet_none ?_
  refine x_aload_n (dT U_X10_bitLike 6 rfl) rfl ?_
  refine x_invokestatic (rc' := rc) (rs' := rs) (rc2 := 1) (rs2 := 6) (As := [_]) (st := _) M_X10_needPairChallenge K_X10_427 (dT U_X10_bitLike 7 rfl) rfl rfl rfl rfl (Nat.le_of_ble_eq_true rfl) rfl (by decide) (Nat.le_of_ble_eq_true rfl) rfl rfl ?_
  refine S_X10_needPairChallenge w v hi (fun q => xRet_thr (e3 (by omega) (by omega) q)) (fun s3 => ?_)
  refine xRet_none ?_
  have cs : bit = 0 ∨ bit = 1 := by omega
  obtain rfl | rfl := cs
  · skip
    refine x_aload_n (dT U_X10_bitLike 8 rfl) rfl ?_
    refine x_iload_n (dT U_X10_bitLike 9 rfl) rfl ?_
    refine x_invokevirtual (rc' := rc) (rs' := rs) (rc2 := 0) (rs2 := 0) (As := [_]) (st := _) M_X5_waysOf K_X10_433 (dT U_X10_bitLike 10 rfl) rfl rfl (by decide) rfl rfl hPi (by omega) (by decide) rfl (Nat.le_of_ble_eq_true rfl) rfl (by decide) (Nat.le_of_ble_eq_true rfl) rfl rfl ?_
    refine S_X5_waysOf0 v.p w.gw hri oki s3 ?_
    refine xRet_some ?_
    refine x_ireturn (dT U_X10_bitLike 11 rfl) rfl ?_
    exact k (by omega) (by omega) s3
  · skip
    refine x_aload_n (dT U_X10_bitLike 8 rfl) rfl ?_
    refine x_iload_n (dT U_X10_bitLike 9 rfl) rfl ?_
    refine x_invokevirtual (rc' := rc) (rs' := rs) (rc2 := 0) (rs2 := 0) (As := [_]) (st := _) M_X5_waysOf K_X10_433 (dT U_X10_bitLike 10 rfl) rfl rfl (by decide) rfl rfl hPi (by omega) (by decide) rfl (Nat.le_of_ble_eq_true rfl) rfl (by decide) (Nat.le_of_ble_eq_true rfl) rfl rfl ?_
    refine S_X5_waysOf1 v.p w.gw hri oki s3 ?_
    refine xRet_some ?_
    refine x_ireturn (dT U_X10_bitLike 11 rfl) rfl ?_
    exact k (by omega) (by omega) s3

set_option maxRecDepth 20000 in
set_option maxHeartbeats 1000000 in
theorem S_X10_total {G : xG} {d rc rs : Nat} {ex : Bool} {h : xH} {Q : xQ} {σ : St} {row : Int} (w : CW σ h) (v : INV σ) (h_row : xr row) (e1 : ¬ (inb row 8) → Q (.inr IOE) false h) (k : (inb row 8) → Q (.inl (some (vi (sm (gf (σ.rw row.toNat)) 8 % (σ.p : Int))))) ex h) : X G m_X10_total (d + 7) (rc + 1) (rs + 6) ex 0 (xe m_X10_total.2.2.1 [.ref 3, vi row]) [] h Q := by
  show X G m_X10_total _ _ _ _ 0 [some (.ref 3), some (vi row)] [] h Q
  have hp := PRb v.p
  have hq := gq_b v.p
  refine x_aload_n (dT U_X10_total 0 rfl) rfl ?_
  refine x_getfield F_X10_10 (dT U_X10_total 1 rfl) w.c3 (Nat.le_of_ble_eq_true rfl) rfl ?_
  refine x_aload_n (dT U_X10_total 2 rfl) rfl ?_
  refine x_iload_n (dT U_X10_total 3 rfl) rfl ?_
  refine x_invokevirtual (rc' := rc) (rs' := rs) (rc2 := 1) (rs2 := 6) (As := [_]) (st := _) M_X10_rowAt K_X10_139 (dT U_X10_total 4 rfl) rfl rfl (by decide) rfl rfl w.c3 (Nat.le_of_ble_eq_true rfl) (by decide) rfl (Nat.le_of_ble_eq_true rfl) rfl (by decide) (Nat.le_of_ble_eq_true rfl) rfl rfl ?_
  refine S_X10_rowAt w v h_row (fun q => xRet_thr (e1 (by omega))) (fun i hi ezi => ?_)
  subst ezi
  have li := v.rw i hi
  refine xRet_some ?_
  refine x_iconst (dT U_X10_total 5 rfl) ?_
  refine x_bipush (dT U_X10_total 6 rfl) (by decide) ?_
  refine x_invokevirtual (rc' := rc) (rs' := rs) (rc2 := 0) (rs2 := 0) (As := [_, _, _]) (st := _) M_X1_sumOf K_X10_450 (dT U_X10_total 7 rfl) rfl rfl (by decide) rfl rfl w.gw.1 (Nat.le_of_ble_eq_true rfl) (by decide) rfl (Nat.le_of_ble_eq_true rfl) rfl (by decide) (Nat.le_of_ble_eq_true rfl) rfl rfl ?_
  refine S_X1_sumOf (s := 0) (t := 8) w.gw.1 hp (w.rows i hi) (by omega) li (by omega) ?_
  change xRet _ _ _ _ _ _ _ _ _ _ (.inl (some (vi ((sm (gf (σ.rw i)) 8 - 0) % (σ.p : Int))))) _ _
  rw [Int.sub_zero]
  refine xRet_some ?_
  refine x_ireturn (dT U_X10_total 8 rfl) rfl ?_
  exact k (by omega)

set_option maxRecDepth 20000 in
set_option maxHeartbeats 1000000 in
theorem S_X10_extend {G : xG} {d rc rs : Nat} {ex : Bool} {h : xH} {Q : xQ} {σ : St} {row x y z : Int} (w : CW σ h) (v : INV σ) (h_row : xr row) (h_x : xr x) (h_y : xr y) (h_z : xr z) (e1 : ¬ (inb row 8) → Q (.inr IOE) false h) (e2 : (inb row 8) → ¬ (inb x σ.p ∧ inb y σ.p ∧ inb z σ.p) → Q (.inr IAE) false h) (k : (inb row 8) → (inb x σ.p ∧ inb y σ.p ∧ inb z σ.p) → ∀ h2, FC h h2 → CW σ h2 → Q (.inl (some (vi ((ext (σ.p : Int) (σ.rw row.toNat) x y z).getD 0 0)))) ex h2) : X G m_X10_extend (d + 7) (rc + 4) (rs + 24) ex 0 (xe m_X10_extend.2.2.1 [.ref 3, vi row, vi x, vi y, vi z]) [] h Q := by
  show X G m_X10_extend _ _ _ _ 0 [some (.ref 3), some (vi row), some (vi x), some (vi y), some (vi z), none] [] h Q
  have hp := PRb v.p
  have hq := gq_b v.p
  obtain ⟨s68l, hs68, ls68⟩ := w.s68
  have hC : h[47]? = some (cO 0 [.ref 4, .ref 9, .ref 48, .ref 49, .ref 50, .ref 51, vi (σ.G.n : Int)]) := w.c47
  refine x_aload_n (dT U_X10_extend 0 rfl) rfl ?_
  refine x_iload_n (dT U_X10_extend 1 rfl) rfl ?_
  refine x_invokevirtual (rc' := rc + 3) (rs' := rs + 18) (rc2 := 1) (rs2 := 6) (As := [_]) (st := _) M_X10_rowAt K_X10_139 (dT U_X10_extend 2 rfl) rfl rfl (by decide) rfl rfl w.c3 (Nat.le_of_ble_eq_true rfl) (by decide) rfl (Nat.le_of_ble_eq_true rfl) rfl (by decide) (Nat.le_of_ble_eq_true rfl) rfl rfl ?_
  refine S_X10_rowAt w v h_row (fun q => xRet_thr (e1 (by omega))) (fun i hi ezi => ?_)
  subst ezi
  have li := v.rw i hi
  refine xRet_some ?_
  refine x_astore (ls' := [some (.ref _), some (vi _), some (vi _), some (vi _), some (vi _), some (.ref _)]) (dT U_X10_extend 3 rfl) (by decide) rfl ?_
  refine x_aload_n (dT U_X10_extend 4 rfl) rfl ?_
  refine x_iload_n (dT U_X10_extend 5 rfl) rfl ?_
  refine x_invokevirtual (rc' := rc + 2) (rs' := rs + 12) (rc2 := 1) (rs2 := 6) (As := [_]) (st := _) M_X10_needNumber K_X10_147 (dT U_X10_extend 6 rfl) rfl rfl (by decide) rfl rfl w.c3 (Nat.le_of_ble_eq_true rfl) (by decide) rfl (Nat.le_of_ble_eq_true rfl) rfl (by decide) (Nat.le_of_ble_eq_true rfl) rfl rfl ?_
  refine S_X10_needNumber w v h_x (fun q => xRet_thr (e2 (by omega) (by omega))) (fun q1 => ?_)
  refine xRet_none ?_
  refine x_aload_n (dT U_X10_extend 7 rfl) rfl ?_
  refine x_iload_n (dT U_X10_extend 8 rfl) rfl ?_
  refine x_invokevirtual (rc' := rc + 1) (rs' := rs + 6) (rc2 := 1) (rs2 := 6) (As := [_]) (st := _) M_X10_needNumber K_X10_147 (dT U_X10_extend 9 rfl) rfl rfl (by decide) rfl rfl w.c3 (Nat.le_of_ble_eq_true rfl) (by decide) rfl (Nat.le_of_ble_eq_true rfl) rfl (by decide) (Nat.le_of_ble_eq_true rfl) rfl rfl ?_
  refine S_X10_needNumber w v h_y (fun q => xRet_thr (e2 (by omega) (by omega))) (fun q2 => ?_)
  refine xRet_none ?_
  refine x_aload_n (dT U_X10_extend 10 rfl) rfl ?_
  refine x_iload (dT U_X10_extend 11 rfl) rfl ?_
  refine x_invokevirtual (rc' := rc) (rs' := rs) (rc2 := 1) (rs2 := 6) (As := [_]) (st := _) M_X10_needNumber K_X10_147 (dT U_X10_extend 12 rfl) rfl rfl (by decide) rfl rfl w.c3 (Nat.le_of_ble_eq_true rfl) (by decide) rfl (Nat.le_of_ble_eq_true rfl) rfl (by decide) (Nat.le_of_ble_eq_true rfl) rfl rfl ?_
  refine S_X10_needNumber w v h_z (fun q => xRet_thr (e2 (by omega) (by omega))) (fun q3 => ?_)
  refine xRet_none ?_
  refine x_aload (dT U_X10_extend 13 rfl) rfl ?_
  refine x_aload_n (dT U_X10_extend 14 rfl) rfl ?_
  refine x_getfield F_X10_96 (dT U_X10_extend 15 rfl) w.c3 (Nat.le_of_ble_eq_true rfl) rfl ?_
  refine x_invokestatic (rc' := rc) (rs' := rs) (rc2 := 0) (rs2 := 0) (As := [_, _]) (st := _) M_X1_copy K_X10_232 (dT U_X10_extend 16 rfl) rfl rfl rfl rfl (Nat.le_of_ble_eq_true rfl) rfl (by decide) (Nat.le_of_ble_eq_true rfl) rfl rfl ?_
  refine S_X1_copy (w.rows i hi) (by omega) li.1 hs68 (by omega) ls68 ?_
  refine xRet_none ?_
  refine x_aload_n (dT U_X10_extend 17 rfl) rfl ?_
  refine x_getfield F_X10_10 (dT U_X10_extend 18 rfl) (hset_ne (by omega) w.c3) (Nat.le_of_ble_eq_true rfl) rfl ?_
  refine x_aload_n (dT U_X10_extend 19 rfl) rfl ?_
  refine x_getfield F_X10_96 (dT U_X10_extend 20 rfl) (hset_ne (by omega) w.c3) (Nat.le_of_ble_eq_true rfl) rfl ?_
  refine x_iconst (dT U_X10_extend 21 rfl) ?_
  refine x_iload_n (dT U_X10_extend 22 rfl) rfl ?_
  refine x_invokevirtual (rc' := rc) (rs' := rs) (rc2 := 0) (rs2 := 0) (As := [_, _, _]) (st := _) M_X1_bind K_X10_454 (dT U_X10_extend 23 rfl) rfl rfl (by decide) rfl rfl (hset_ne (by omega) w.gw.1) (Nat.le_of_ble_eq_true rfl) (by decide) rfl (Nat.le_of_ble_eq_true rfl) rfl (by decide) (Nat.le_of_ble_eq_true rfl) rfl rfl ?_
  refine S_X1_bind (s := 4) (al := σ.rw i) (hset_ne (by omega) w.gw.1) hp (hset_eq hs68) (by omega) li (by omega) q1 ?_
  refine xRet_none ?_
  rw [List.set_set]
  change X G _ _ _ _ _ _ _ _ (h.set 68 (cA 0 (bnd (σ.p : Int) (σ.rw i) 0 x))) _
  refine x_aload_n (dT U_X10_extend 24 rfl) rfl ?_
  refine x_getfield F_X10_10 (dT U_X10_extend 25 rfl) (hset_ne (by omega) w.c3) (Nat.le_of_ble_eq_true rfl) rfl ?_
  refine x_aload_n (dT U_X10_extend 26 rfl) rfl ?_
  refine x_getfield F_X10_96 (dT U_X10_extend 27 rfl) (hset_ne (by omega) w.c3) (Nat.le_of_ble_eq_true rfl) rfl ?_
  refine x_iconst (dT U_X10_extend 28 rfl) ?_
  refine x_iload_n (dT U_X10_extend 29 rfl) rfl ?_
  refine x_invokevirtual (rc' := rc) (rs' := rs) (rc2 := 0) (rs2 := 0) (As := [_, _, _]) (st := _) M_X1_bind K_X10_454 (dT U_X10_extend 30 rfl) rfl rfl (by decide) rfl rfl (hset_ne (by omega) w.gw.1) (Nat.le_of_ble_eq_true rfl) (by decide) rfl (Nat.le_of_ble_eq_true rfl) rfl (by decide) (Nat.le_of_ble_eq_true rfl) rfl rfl ?_
  refine S_X1_bind (s := 2) (al := (bnd (σ.p : Int) (σ.rw i) 0 x)) (hset_ne (by omega) w.gw.1) hp (hset_eq hs68) (by omega) (bnd_F (by omega) li) (by omega) q2 ?_
  refine xRet_none ?_
  rw [List.set_set]
  change X G _ _ _ _ _ _ _ _ (h.set 68 (cA 0 (bnd (σ.p : Int) (bnd (σ.p : Int) (σ.rw i) 0 x) 1 y))) _
  refine x_aload_n (dT U_X10_extend 31 rfl) rfl ?_
  refine x_getfield F_X10_10 (dT U_X10_extend 32 rfl) (hset_ne (by omega) w.c3) (Nat.le_of_ble_eq_true rfl) rfl ?_
  refine x_aload_n (dT U_X10_extend 33 rfl) rfl ?_
  refine x_getfield F_X10_96 (dT U_X10_extend 34 rfl) (hset_ne (by omega) w.c3) (Nat.le_of_ble_eq_true rfl) rfl ?_
  refine x_iconst (dT U_X10_extend 35 rfl) ?_
  refine x_iload (dT U_X10_extend 36 rfl) rfl ?_
  refine x_invokevirtual (rc' := rc) (rs' := rs) (rc2 := 0) (rs2 := 0) (As := [_, _, _]) (st := _) M_X1_bind K_X10_454 (dT U_X10_extend 37 rfl) rfl rfl (by decide) rfl rfl (hset_ne (by omega) w.gw.1) (Nat.le_of_ble_eq_true rfl) (by decide) rfl (Nat.le_of_ble_eq_true rfl) rfl (by decide) (Nat.le_of_ble_eq_true rfl) rfl rfl ?_
  refine S_X1_bind (s := 1) (al := (bnd (σ.p : Int) (bnd (σ.p : Int) (σ.rw i) 0 x) 1 y)) (hset_ne (by omega) w.gw.1) hp (hset_eq hs68) (by omega) (bnd_F (by omega) (bnd_F (by omega) li)) (by omega) q3 ?_
  refine xRet_none ?_
  rw [List.set_set]
  change X G _ _ _ _ _ _ _ _ (h.set 68 (cA 0 (ext (σ.p : Int) (σ.rw i) x y z))) _
  refine x_aload_n (dT U_X10_extend 38 rfl) rfl ?_
  refine x_getfield F_X10_96 (dT U_X10_extend 39 rfl) (hset_ne (by omega) w.c3) (Nat.le_of_ble_eq_true rfl) rfl ?_
  refine x_iconst (dT U_X10_extend 40 rfl) ?_
  refine x_iaload (0) (dT U_X10_extend 41 rfl) (hset_eq hs68) (Nat.le_of_ble_eq_true rfl) rfl (by have := (show Fl (σ.p : Int) (ext (σ.p : Int) (σ.rw i) x y z) from bnd_F (by omega) (bnd_F (by omega) (bnd_F (by omega) li))).1; omega) (by have := (show Fl (σ.p : Int) (ext (σ.p : Int) (σ.rw i) x y z) from bnd_F (by omega) (bnd_F (by omega) (bnd_F (by omega) li))).1; omega) ?_
  refine x_ireturn (dT U_X10_extend 42 rfl) rfl ?_
  exact k (by omega) (by omega) _ ((Ag.rf 3 69 h).set (by omega)) (w.t68 ((Ag.rf 68 68 h).set (by omega)) (hset_eq hs68) (bnd_F (by omega) (bnd_F (by omega) (bnd_F (by omega) li))).1)
