theorem ff_rng {P : Nat → Prop} [DecidablePred P] : ∀ (n i : Nat), -1 ≤ ff P i n ∧ ff P i n < (i : Int) + n
  | 0, i => by unfold ff; omega
  | n + 1, i => by
    by_cases c : P i
    · rw [ff_y c]; omega
    · rw [ff_n c]
      have := ff_rng (P := P) n (i + 1)
      omega

set_option maxRecDepth 20000 in
set_option maxHeartbeats 1000000 in
theorem S_X10_waysPart {G : xG} {d rc rs : Nat} {ex : Bool} {h : xH} {Q : xQ} {σ : St} {a b : Nat} {sl0 : List Int} (w : CW σ h) (v : INV σ) (ha : a < 8) (hb : b < 8) (h57 : h[57]? = some (cA 0 sl0)) (ls : sl0.length = 16) (vs : ∀ j, 1 ≤ j → j < 16 → sl0.getD j 0 = gs (gf (σ.rw a)) j) (k : ∀ h2, FC h h2 → CW σ h2 → h2[57]? = some (cA 0 sl0) → Q (.inl (some (vi 1))) ex h2) : X G m_X10_waysPart (d + 3) rc rs ex 0 (xe m_X10_waysPart.2.2.1 [.ref 3, .ref (10 + a), .ref (10 + b)]) [] h Q := by
  show X G m_X10_waysPart _ _ _ _ 0 [some (.ref 3), some (.ref (10 + a)), some (.ref (10 + b)), none] [] h Q
  have hp := PRb v.p
  have hq := gq_b v.p
  refine x_aload_n (dT U_X10_waysPart 0 rfl) rfl ?_
  refine x_getfield F_X10_83 (dT U_X10_waysPart 1 rfl) w.c3 (Nat.le_of_ble_eq_true rfl) rfl ?_
  refine x_aload_n (dT U_X10_waysPart 2 rfl) rfl ?_
  refine x_invokevirtual (rc' := rc) (rs' := rs) (rc2 := 0) (rs2 := 0) (As := [_]) (st := _) M_X8_grow K_X10_248 (dT U_X10_waysPart 3 rfl) rfl rfl (by decide) rfl rfl w.c58 (Nat.le_of_ble_eq_true rfl) (by decide) rfl (Nat.le_of_ble_eq_true rfl) rfl (by decide) (Nat.le_of_ble_eq_true rfl) rfl rfl ?_
  obtain ⟨s59l, hs59, ls59⟩ := w.s59
  refine S_X8_grow (p := (σ.p : Int)) w.c58 (by omega) hs59 ls59 (w.rows b hb) (by omega) (by omega) (v.rw b hb) (by omega) (fun ol lo ov => ?_)
  refine xRet_none ?_
  have ov : ∀ j, 1 ≤ j → j < 16 → ol.getD j 0 = gs (gf (σ.rw b)) j := ov
  have M : ∀ h1 : xH, FC h h1 → CW σ h1 → h1[57]? = some (cA 0 sl0) → h1[59]? = some (cA 0 ol) → X G m_X10_waysPart (d + 3) rc rs ex 8 [some (.ref 3), some (.ref (10 + a)), some (.ref (10 + b)), none] [] h1 Q := by
    intro h1 g1 w1 q57 q59
    refine x_aload_n (dT U_X10_waysPart 4 rfl) rfl ?_
    refine x_getfield F_X10_83 (dT U_X10_waysPart 5 rfl) w1.c3 (Nat.le_of_ble_eq_true rfl) rfl ?_
    refine x_invokevirtual (rc' := rc) (rs' := rs) (rc2 := 0) (rs2 := 0) (As := []) (st := _) M_X8_top K_X10_251 (dT U_X10_waysPart 6 rfl) rfl rfl (by decide) rfl rfl w1.c58 (Nat.le_of_ble_eq_true rfl) (by decide) rfl (Nat.le_of_ble_eq_true rfl) rfl (by decide) (Nat.le_of_ble_eq_true rfl) rfl rfl ?_
    refine S_X8_top w1.c58 (by omega) q59 lo ov ?_
    refine xRet_some ?_
    refine x_aload_n (dT U_X10_waysPart 7 rfl) rfl ?_
    refine x_getfield F_X10_79 (dT U_X10_waysPart 8 rfl) w1.c3 (Nat.le_of_ble_eq_true rfl) rfl ?_
    refine x_invokevirtual (rc' := rc) (rs' := rs) (rc2 := 0) (rs2 := 0) (As := []) (st := _) M_X8_top K_X10_251 (dT U_X10_waysPart 9 rfl) rfl rfl (by decide) rfl rfl w1.c56 (Nat.le_of_ble_eq_true rfl) (by decide) rfl (Nat.le_of_ble_eq_true rfl) rfl (by decide) (Nat.le_of_ble_eq_true rfl) rfl rfl ?_
    refine S_X8_top w1.c56 (by omega) q57 ls vs ?_
    have tb1 := gs_b (gf (σ.rw a)) 1
    have tb2 := gs_b (gf (σ.rw b)) 1
    refine xRet_some ?_
    refine x_icmp_eq (tgt := 27) (dT U_X10_waysPart 10 rfl) (by decide) (by unfold xr; omega) (by unfold xr; omega) (fun c22 => ?_) (fun c22 => ?_)
    · skip
      have htop : gs (gf (σ.rw b)) 1 = gs (gf (σ.rw a)) 1 := by omega
      refine x_iconst (dT U_X10_waysPart 13 rfl) ?_
      refine x_istore_n (ls' := [some (.ref _), some (.ref _), some (.ref _), some (vi _)]) (dT U_X10_waysPart 14 rfl) (by decide) rfl ?_
      have L : ∀ (n t : Nat), t + n = 8 → ∀ h1 : xH, FC h h1 → CW σ h1 → h1[57]? = some (cA 0 sl0) → h1[59]? = some (cA 0 ol) → X G m_X10_waysPart (d + 3) rc rs ex 29 [some (.ref 3), some (.ref (10 + a)), some (.ref (10 + b)), some (vi (t : Int))] [] h1 Q := by
        intro n
        induction n with
        | zero =>
          intro t hi h1 g1 w1 q57 q59
          refine x_iload_n (dT U_X10_waysPart 15 rfl) rfl ?_
          refine x_bipush (dT U_X10_waysPart 16 rfl) (by decide) ?_
          refine x_icmp_ge (tgt := 98) (dT U_X10_waysPart 17 rfl) (by decide) (by unfold xr; omega) (by unfold xr at *; omega) (fun c32 => ?_) (fun c32 => ?_)
          · skip
            refine x_iconst (dT U_X10_waysPart 49 rfl) ?_
            refine x_zreturn (dT U_X10_waysPart 50 rfl) rfl (by omega) ?_
            exact k h1 g1 w1 q57
          · exfalso; omega
        | succ n ih =>
          intro t hi h1 g1 w1 q57 q59
          refine x_iload_n (dT U_X10_waysPart 15 rfl) rfl ?_
          refine x_bipush (dT U_X10_waysPart 16 rfl) (by decide) ?_
          refine x_icmp_ge (tgt := 98) (dT U_X10_waysPart 17 rfl) (by decide) (by unfold xr; omega) (by unfold xr at *; omega) (fun c32 => ?_) (fun c32 => ?_)
          · exfalso; omega
          · skip
            refine x_aload_n (dT U_X10_waysPart 18 rfl) rfl ?_
            refine x_getfield F_X10_79 (dT U_X10_waysPart 19 rfl) w1.c3 (Nat.le_of_ble_eq_true rfl) rfl ?_
            refine x_aload_n (dT U_X10_waysPart 20 rfl) rfl ?_
            refine x_getfield F_X10_89 (dT U_X10_waysPart 21 rfl) w1.c3 (Nat.le_of_ble_eq_true rfl) rfl ?_
            refine x_aload_n (dT U_X10_waysPart 22 rfl) rfl ?_
            refine x_iload_n (dT U_X10_waysPart 23 rfl) rfl ?_
            refine x_invokevirtual (rc' := rc) (rs' := rs) (rc2 := 0) (rs2 := 0) (As := [_, _, _]) (st := _) M_X8_lead K_X10_584 (dT U_X10_waysPart 24 rfl) rfl rfl (by decide) rfl rfl w1.c56 (Nat.le_of_ble_eq_true rfl) (by decide) rfl (Nat.le_of_ble_eq_true rfl) rfl (by decide) (Nat.le_of_ble_eq_true rfl) rfl rfl ?_
            obtain ⟨s61l, hs61, ls61⟩ := w1.s61
            obtain ⟨s62l, hs62, ls62⟩ := w1.s62
            obtain ⟨s63l, hs63, ls63⟩ := w1.s63
            obtain ⟨s65l, hs65, ls65⟩ := w1.s65
            obtain ⟨s66l, hs66, ls66⟩ := w1.s66
            obtain ⟨s67l, hs67, ls67⟩ := w1.s67
            have ht8 : t < 8 := by omega
            have la := v.rw a ha
            have lb := v.rw b hb
            refine S_X8_lead (p := (σ.p : Int)) w1.c56 (by omega) q57 ls vs (gs_b _) w1.c60 (by omega) hs61 hs62 hs63 ls61 ls62 ls63 (w1.rows a ha) (by omega) la (by omega) ht8 ?_
            refine xRet_none ?_
            refine x_aload_n (dT U_X10_waysPart 25 rfl) rfl ?_
            refine x_getfield F_X10_83 (dT U_X10_waysPart 26 rfl) (hset_ne (by omega) (hset_ne (by omega) (hset_ne (by omega) (w1.c3)))) (Nat.le_of_ble_eq_true rfl) rfl ?_
            refine x_aload_n (dT U_X10_waysPart 27 rfl) rfl ?_
            refine x_getfield F_X10_93 (dT U_X10_waysPart 28 rfl) (hset_ne (by omega) (hset_ne (by omega) (hset_ne (by omega) (w1.c3)))) (Nat.le_of_ble_eq_true rfl) rfl ?_
            refine x_aload_n (dT U_X10_waysPart 29 rfl) rfl ?_
            refine x_iload_n (dT U_X10_waysPart 30 rfl) rfl ?_
            refine x_invokevirtual (rc' := rc) (rs' := rs) (rc2 := 0) (rs2 := 0) (As := [_, _, _]) (st := _) M_X8_lead K_X10_584 (dT U_X10_waysPart 31 rfl) rfl rfl (by decide) rfl rfl (hset_ne (by omega) (hset_ne (by omega) (hset_ne (by omega) (w1.c58)))) (Nat.le_of_ble_eq_true rfl) (by decide) rfl (Nat.le_of_ble_eq_true rfl) rfl (by decide) (Nat.le_of_ble_eq_true rfl) rfl rfl ?_
            refine S_X8_lead (p := (σ.p : Int)) (hset_ne (by omega) (hset_ne (by omega) (hset_ne (by omega) (w1.c58)))) (by omega) (hset_ne (by omega) (hset_ne (by omega) (hset_ne (by omega) (q59)))) lo ov (gs_b _) (hset_ne (by omega) (hset_ne (by omega) (hset_ne (by omega) (w1.c64)))) (by omega) (hset_ne (by omega) (hset_ne (by omega) (hset_ne (by omega) (hs65)))) (hset_ne (by omega) (hset_ne (by omega) (hset_ne (by omega) (hs66)))) (hset_ne (by omega) (hset_ne (by omega) (hset_ne (by omega) (hs67)))) ls65 ls66 ls67 (hset_ne (by omega) (hset_ne (by omega) (hset_ne (by omega) (w1.rows b hb)))) (by omega) lb (by omega) ht8 ?_
            refine xRet_none ?_
            have cwn : CW σ (wst (wst h1 60 t ((σ.rw a).getD t 0) (gs (gf (σ.rw a)) (bsd t 0)) (gs (gf (σ.rw a)) (bsd t 1)) (gs (gf (σ.rw a)) (bsd t 2))) 64 t ((σ.rw b).getD t 0) (gs (gf (σ.rw b)) (bsd t 0)) (gs (gf (σ.rw b)) (bsd t 1)) (gs (gf (σ.rw b)) (bsd t 2))) := (w1.way60 ((((Ag.rf 61 63 h1).set (by omega)).set (by omega)).set (by omega)) (hset_ne (by omega) (hset_ne (by omega) (hset_eq hs61))) (tab_len _ _) (hset_ne (by omega) (hset_eq (hset_ne (by omega) hs62))) (tab_len _ _) (hset_eq (hset_ne (by omega) (hset_ne (by omega) hs63))) (tab_len _ _)).way64 ((((Ag.rf 65 67 _).set (by omega)).set (by omega)).set (by omega)) (hset_ne (by omega) (hset_ne (by omega) (hset_eq (hset_ne (by omega) (hset_ne (by omega) (hset_ne (by omega) (hs65))))))) (tab_len _ _) (hset_ne (by omega) (hset_eq (hset_ne (by omega) ((hset_ne (by omega) (hset_ne (by omega) (hset_ne (by omega) (hs66)))))))) (tab_len _ _) (hset_eq (hset_ne (by omega) (hset_ne (by omega) ((hset_ne (by omega) (hset_ne (by omega) (hset_ne (by omega) (hs67)))))))) (tab_len _ _)
            have lat := la.2 t
            have lbt := lb.2 t
            have g1q := wq_b (i := t) (v := (σ.rw a).getD t 0) ht8 (by omega) (gs_b (gf (σ.rw a)) (bsd t 0)) (gs_b (gf (σ.rw a)) (bsd t 1)) (gs_b (gf (σ.rw a)) (bsd t 2))
            have g2q := wq_b (i := t) (v := (σ.rw b).getD t 0) ht8 (by omega) (gs_b (gf (σ.rw b)) (bsd t 0)) (gs_b (gf (σ.rw b)) (bsd t 1)) (gs_b (gf (σ.rw b)) (bsd t 2))
            have et : ws t ((σ.rw a).getD t 0) (gs (gf (σ.rw a)) (bsd t 0)) (gs (gf (σ.rw a)) (bsd t 1)) (gs (gf (σ.rw a)) (bsd t 2)) 3 = ws t ((σ.rw b).getD t 0) (gs (gf (σ.rw b)) (bsd t 0)) (gs (gf (σ.rw b)) (bsd t 1)) (gs (gf (σ.rw b)) (bsd t 2)) 3 := (way_top0 (r := gf (σ.rw a)) ht8).trans (htop.symm.trans (way_top0 (r := gf (σ.rw b)) ht8).symm)
            refine x_aload_n (dT U_X10_waysPart 32 rfl) rfl ?_
            refine x_getfield F_X10_89 (dT U_X10_waysPart 33 rfl) (hset_ne (by omega) (hset_ne (by omega) (hset_ne (by omega) (hset_ne (by omega) (hset_ne (by omega) (hset_ne (by omega) (w1.c3))))))) (Nat.le_of_ble_eq_true rfl) rfl ?_
            refine x_aload_n (dT U_X10_waysPart 34 rfl) rfl ?_
            refine x_getfield F_X10_93 (dT U_X10_waysPart 35 rfl) (hset_ne (by omega) (hset_ne (by omega) (hset_ne (by omega) (hset_ne (by omega) (hset_ne (by omega) (hset_ne (by omega) (w1.c3))))))) (Nat.le_of_ble_eq_true rfl) rfl ?_
            refine x_invokevirtual (rc' := rc) (rs' := rs) (rc2 := 0) (rs2 := 0) (As := [_]) (st := _) M_X9_isLike K_X10_594 (dT U_X10_waysPart 36 rfl) rfl rfl (by decide) rfl rfl (hset_ne (by omega) (hset_ne (by omega) (hset_ne (by omega) (hset_ne (by omega) (hset_ne (by omega) (hset_ne (by omega) (w1.c60))))))) (Nat.le_of_ble_eq_true rfl) (by decide) rfl (Nat.le_of_ble_eq_true rfl) rfl (by decide) (Nat.le_of_ble_eq_true rfl) rfl rfl ?_
            refine S_X9_isLike (xl := tab (fun j => (wq t ((σ.rw a).getD t 0) (gs (gf (σ.rw a)) (bsd t 0)) (gs (gf (σ.rw a)) (bsd t 1)) (gs (gf (σ.rw a)) (bsd t 2)) j).1) 4) (yl := tab (fun j => (wq t ((σ.rw a).getD t 0) (gs (gf (σ.rw a)) (bsd t 0)) (gs (gf (σ.rw a)) (bsd t 1)) (gs (gf (σ.rw a)) (bsd t 2)) j).2) 4) (zl := tab (ws t ((σ.rw a).getD t 0) (gs (gf (σ.rw a)) (bsd t 0)) (gs (gf (σ.rw a)) (bsd t 1)) (gs (gf (σ.rw a)) (bsd t 2))) 4) (xl2 := tab (fun j => (wq t ((σ.rw b).getD t 0) (gs (gf (σ.rw b)) (bsd t 0)) (gs (gf (σ.rw b)) (bsd t 1)) (gs (gf (σ.rw b)) (bsd t 2)) j).1) 4) (yl2 := tab (fun j => (wq t ((σ.rw b).getD t 0) (gs (gf (σ.rw b)) (bsd t 0)) (gs (gf (σ.rw b)) (bsd t 1)) (gs (gf (σ.rw b)) (bsd t 2)) j).2) 4) (zl2 := tab (ws t ((σ.rw b).getD t 0) (gs (gf (σ.rw b)) (bsd t 0)) (gs (gf (σ.rw b)) (bsd t 1)) (gs (gf (σ.rw b)) (bsd t 2))) 4) (hset_ne (by omega) (hset_ne (by omega) (hset_ne (by omega) (hset_ne (by omega) (hset_ne (by omega) (hset_ne (by omega) (w1.c60))))))) (by omega) (hset_ne (by omega) (hset_ne (by omega) (hset_ne (by omega) ((hset_ne (by omega) (hset_ne (by omega) (hset_eq hs61))))))) (hset_ne (by omega) (hset_ne (by omega) (hset_ne (by omega) ((hset_ne (by omega) (hset_eq (hset_ne (by omega) hs62))))))) (hset_ne (by omega) (hset_ne (by omega) (hset_ne (by omega) (hset_eq (hset_ne (by omega) (hset_ne (by omega) hs63)))))) (tab_len _ _) (tab_len _ _) (tab_len _ _) (hset_ne (by omega) (hset_ne (by omega) (hset_ne (by omega) (hset_ne (by omega) (hset_ne (by omega) (hset_ne (by omega) (w1.c64))))))) (by omega) (hset_ne (by omega) (hset_ne (by omega) (hset_eq (hset_ne (by omega) (hset_ne (by omega) (hset_ne (by omega) (hs65))))))) (hset_ne (by omega) (hset_eq (hset_ne (by omega) ((hset_ne (by omega) (hset_ne (by omega) (hset_ne (by omega) (hs66)))))))) (hset_eq (hset_ne (by omega) (hset_ne (by omega) ((hset_ne (by omega) (hset_ne (by omega) (hset_ne (by omega) (hs67)))))))) (tab_len _ _) (tab_len _ _) (tab_len _ _) (fun j => ⟨tabx_r (fun u => (g1q u).1) j, tabx_r (fun u => (g1q u).2) j, tabx_r (fun u => sl_b _ _) j, tabx_r (fun u => (g2q u).1) j, tabx_r (fun u => (g2q u).2) j, tabx_r (fun u => sl_b _ _) j⟩) (fun lk => ?_) (fun nl => ?_)
            · refine xRet_some ?_
              refine x_if_ne (tgt := 92) (dT U_X10_waysPart 37 rfl) (by decide) (by unfold xr at *; omega) (fun c72 => ?_) (fun c72 => ?_)
              · skip
                refine x_iinc (ls' := [some (.ref _), some (.ref _), some (.ref _), some (vi _)]) (dT U_X10_waysPart 47 rfl) (by decide) rfl rfl ?_
                refine x_goto (tgt := 29) (dT U_X10_waysPart 48 rfl) (by decide) ?_
                refine ih (t + 1) (by omega) _ ((Ag.tr g1 (show Ag 3 69 h1 _ from (((((((Ag.rf 3 69 h1).set (by omega)).set (by omega)).set (by omega)).set (by omega)).set (by omega)).set (by omega)))).w (by omega)) cwn (hset_ne (by omega) (hset_ne (by omega) (hset_ne (by omega) (hset_ne (by omega) (hset_ne (by omega) (hset_ne (by omega) (q57))))))) (hset_ne (by omega) (hset_ne (by omega) (hset_ne (by omega) (hset_ne (by omega) (hset_ne (by omega) (hset_ne (by omega) (q59)))))))
              · exfalso; omega
            · refine xRet_some ?_
              refine x_if_ne (tgt := 92) (dT U_X10_waysPart 37 rfl) (by decide) (by unfold xr at *; omega) (fun c72 => ?_) (fun c72 => ?_)
              · exfalso; omega
              · skip
                refine x_aload_n (dT U_X10_waysPart 38 rfl) rfl ?_
                refine x_getfield F_X10_89 (dT U_X10_waysPart 39 rfl) (hset_ne (by omega) (hset_ne (by omega) (hset_ne (by omega) (hset_ne (by omega) (hset_ne (by omega) (hset_ne (by omega) (w1.c3))))))) (Nat.le_of_ble_eq_true rfl) rfl ?_
                refine x_aload_n (dT U_X10_waysPart 40 rfl) rfl ?_
                refine x_getfield F_X10_93 (dT U_X10_waysPart 41 rfl) (hset_ne (by omega) (hset_ne (by omega) (hset_ne (by omega) (hset_ne (by omega) (hset_ne (by omega) (hset_ne (by omega) (w1.c3))))))) (Nat.le_of_ble_eq_true rfl) rfl ?_
                refine x_invokevirtual (rc' := rc) (rs' := rs) (rc2 := 0) (rs2 := 0) (As := [_]) (st := _) M_X9_breakAgainst K_X10_272 (dT U_X10_waysPart 42 rfl) rfl rfl (by decide) rfl rfl (hset_ne (by omega) (hset_ne (by omega) (hset_ne (by omega) (hset_ne (by omega) (hset_ne (by omega) (hset_ne (by omega) (w1.c60))))))) (Nat.le_of_ble_eq_true rfl) (by decide) rfl (Nat.le_of_ble_eq_true rfl) rfl (by decide) (Nat.le_of_ble_eq_true rfl) rfl rfl ?_
                refine S_X9_breakAgainst (xl := tab (fun j => (wq t ((σ.rw a).getD t 0) (gs (gf (σ.rw a)) (bsd t 0)) (gs (gf (σ.rw a)) (bsd t 1)) (gs (gf (σ.rw a)) (bsd t 2)) j).1) 4) (yl := tab (fun j => (wq t ((σ.rw a).getD t 0) (gs (gf (σ.rw a)) (bsd t 0)) (gs (gf (σ.rw a)) (bsd t 1)) (gs (gf (σ.rw a)) (bsd t 2)) j).2) 4) (zl := tab (ws t ((σ.rw a).getD t 0) (gs (gf (σ.rw a)) (bsd t 0)) (gs (gf (σ.rw a)) (bsd t 1)) (gs (gf (σ.rw a)) (bsd t 2))) 4) (xl2 := tab (fun j => (wq t ((σ.rw b).getD t 0) (gs (gf (σ.rw b)) (bsd t 0)) (gs (gf (σ.rw b)) (bsd t 1)) (gs (gf (σ.rw b)) (bsd t 2)) j).1) 4) (yl2 := tab (fun j => (wq t ((σ.rw b).getD t 0) (gs (gf (σ.rw b)) (bsd t 0)) (gs (gf (σ.rw b)) (bsd t 1)) (gs (gf (σ.rw b)) (bsd t 2)) j).2) 4) (zl2 := tab (ws t ((σ.rw b).getD t 0) (gs (gf (σ.rw b)) (bsd t 0)) (gs (gf (σ.rw b)) (bsd t 1)) (gs (gf (σ.rw b)) (bsd t 2))) 4) (hset_ne (by omega) (hset_ne (by omega) (hset_ne (by omega) (hset_ne (by omega) (hset_ne (by omega) (hset_ne (by omega) (w1.c60))))))) (by omega) (hset_ne (by omega) (hset_ne (by omega) (hset_ne (by omega) ((hset_ne (by omega) (hset_ne (by omega) (hset_eq hs61))))))) (hset_ne (by omega) (hset_ne (by omega) (hset_ne (by omega) ((hset_ne (by omega) (hset_eq (hset_ne (by omega) hs62))))))) (hset_ne (by omega) (hset_ne (by omega) (hset_ne (by omega) (hset_eq (hset_ne (by omega) (hset_ne (by omega) hs63)))))) (tab_len _ _) (tab_len _ _) (tab_len _ _) (hset_ne (by omega) (hset_ne (by omega) (hset_ne (by omega) (hset_ne (by omega) (hset_ne (by omega) (hset_ne (by omega) (w1.c64))))))) (by omega) (hset_ne (by omega) (hset_ne (by omega) (hset_eq (hset_ne (by omega) (hset_ne (by omega) (hset_ne (by omega) (hs65))))))) (hset_ne (by omega) (hset_eq (hset_ne (by omega) ((hset_ne (by omega) (hset_ne (by omega) (hset_ne (by omega) (hs66)))))))) (hset_eq (hset_ne (by omega) (hset_ne (by omega) ((hset_ne (by omega) (hset_ne (by omega) (hset_ne (by omega) (hs67)))))))) (tab_len _ _) (tab_len _ _) (tab_len _ _) (fun j => ⟨tabx_r (fun u => (g1q u).1) j, tabx_r (fun u => (g1q u).2) j, tabx_r (fun u => sl_b _ _) j, tabx_r (fun u => (g2q u).1) j, tabx_r (fun u => (g2q u).2) j, tabx_r (fun u => sl_b _ _) j⟩) ?_
                rw [tab_get _ (by omega), tab_get _ (by omega), if_pos et, ff_congr (R := brkP t ((σ.rw a).getD t 0) (gs (gf (σ.rw a)) (bsd t 0)) (gs (gf (σ.rw a)) (bsd t 1)) (gs (gf (σ.rw a)) (bsd t 2)) ((σ.rw b).getD t 0) (gs (gf (σ.rw b)) (bsd t 0)) (gs (gf (σ.rw b)) (bsd t 1)) (gs (gf (σ.rw b)) (bsd t 2))) 4 0 (fun j a1 a2 => by rw [tab_get _ (by omega), tab_get _ (by omega), tab_get _ (by omega), tab_get _ (by omega), tab_get _ (by omega), tab_get _ (by omega)])]
                have fr := ff_rng (P := brkP t ((σ.rw a).getD t 0) (gs (gf (σ.rw a)) (bsd t 0)) (gs (gf (σ.rw a)) (bsd t 1)) (gs (gf (σ.rw a)) (bsd t 2)) ((σ.rw b).getD t 0) (gs (gf (σ.rw b)) (bsd t 0)) (gs (gf (σ.rw b)) (bsd t 1)) (gs (gf (σ.rw b)) (bsd t 2))) 4 0
                refine xRet_some ?_
                refine x_iconst (dT U_X10_waysPart 43 rfl) ?_
                refine x_icmp_ne (tgt := 92) (dT U_X10_waysPart 44 rfl) (by decide) (by unfold xr; omega) (by unfold xr; omega) (fun c87 => ?_) (fun c87 => ?_)
                · skip
                  refine x_iinc (ls' := [some (.ref _), some (.ref _), some (.ref _), some (vi _)]) (dT U_X10_waysPart 47 rfl) (by decide) rfl rfl ?_
                  refine x_goto (tgt := 29) (dT U_X10_waysPart 48 rfl) (by decide) ?_
                  refine ih (t + 1) (by omega) _ ((Ag.tr g1 (show Ag 3 69 h1 _ from (((((((Ag.rf 3 69 h1).set (by omega)).set (by omega)).set (by omega)).set (by omega)).set (by omega)).set (by omega)))).w (by omega)) cwn (hset_ne (by omega) (hset_ne (by omega) (hset_ne (by omega) (hset_ne (by omega) (hset_ne (by omega) (hset_ne (by omega) (q57))))))) (hset_ne (by omega) (hset_ne (by omega) (hset_ne (by omega) (hset_ne (by omega) (hset_ne (by omega) (hset_ne (by omega) (q59)))))))
                · exact (nl (fun j hj => by rw [tab_get _ hj, tab_get _ hj, tab_get _ hj, tab_get _ hj]; exact ways_part et (by omega) j hj)).elim
      exact L 8 0 (by omega) h1 g1 w1 q57 q59
    · skip
      refine x_iconst (dT U_X10_waysPart 11 rfl) ?_
      refine x_zreturn (dT U_X10_waysPart 12 rfl) rfl (by omega) ?_
      exact k h1 g1 w1 q57
  exact M _ ((Ag.rf 3 69 h).set (by omega)) (w.t59 ((Ag.rf 59 59 h).set (by omega)) (hset_eq hs59) lo) (hset_ne (by omega) h57) (hset_eq hs59)
