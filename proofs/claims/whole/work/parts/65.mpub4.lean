set_option maxRecDepth 20000 in
set_option maxHeartbeats 1000000 in
theorem S_X11_fulfilled {G : xG} {d rc rs : Nat} {ex : Bool} {h : xH} {Q : xQ} {σ : St} {cc0 : Int} {rr : Nat} {ss : Int} {i j : Nat} {blind : Int} (w : MX σ cc0 rr ss h) (v : INV σ) (hi : i < 4) (hj : j < 8) (hb : 0 ≤ blind ∧ blind < σ.p) (hst : 1 ≤ (σ.R i).st) (k1 : suit σ.p (σ.R i) (σ.rw j) blind → Q (.inl (some (vi 1))) ex h) (k0 : ¬ (suit σ.p (σ.R i) (σ.rw j) blind) → Q (.inl (some (vi 0))) ex h) : X G m_X11_fulfilled (d + 2) rc rs ex 0 (xe m_X11_fulfilled.2.2.1 [.ref 70, vi (i : Int), vi (j : Int), vi blind]) [] h Q := by
  show X G m_X11_fulfilled _ _ _ _ 0 [some (.ref 70), some (vi (i : Int)), some (vi (j : Int)), some (vi blind)] [] h Q
  have hp := PRb v.p
  have hq := gq_b v.p
  have ok := (v.R i hi).1
  have se := ok.e hst
  have sv := ok.v hst
  refine x_aload_n (dT U_X11_fulfilled 0 rfl) rfl ?_
  refine x_aload_n (dT U_X11_fulfilled 1 rfl) rfl ?_
  refine x_getfield F_X11_18 (dT U_X11_fulfilled 2 rfl) w.c70 (Nat.le_of_ble_eq_true rfl) rfl ?_
  refine x_iload_n (dT U_X11_fulfilled 3 rfl) rfl ?_
  refine x_aaload (j) (dT U_X11_fulfilled 4 rfl) w.c73 (Nat.le_of_ble_eq_true rfl) (by decide) rfl (mrL_get (by omega)) (Nat.le_of_ble_eq_true rfl) ?_
  refine x_iload_n (dT U_X11_fulfilled 5 rfl) rfl ?_
  refine x_invokevirtual (rc' := rc) (rs' := rs) (rc2 := 0) (rs2 := 0) (As := [_, _]) (st := _) M_X11_committed K_X11_211 (dT U_X11_fulfilled 6 rfl) rfl rfl (by decide) rfl rfl w.c70 (Nat.le_of_ble_eq_true rfl) (by decide) rfl (Nat.le_of_ble_eq_true rfl) rfl (by decide) (Nat.le_of_ble_eq_true rfl) rfl rfl ?_
  refine S_X11_committed (w.mp) v.p (w.rows j hj) (by omega) (v.rw j hj) hb ?_
  have cb := cm_b (p := σ.p) (l := σ.rw j) (b := blind) hp.1
  refine xRet_some ?_
  refine x_aload_n (dT U_X11_fulfilled 7 rfl) rfl ?_
  refine x_getfield F_X11_24 (dT U_X11_fulfilled 8 rfl) w.c70 (Nat.le_of_ble_eq_true rfl) rfl ?_
  refine x_iload_n (dT U_X11_fulfilled 9 rfl) rfl ?_
  refine x_ialoadv (i) (dT U_X11_fulfilled 10 rfl) w.c83 (Nat.le_of_ble_eq_true rfl) rfl (show i < 5 by omega) (show 5 < 2147483648 by decide) (show _ = (σ.R i).e from t5_get hi) ?_
  refine x_icmp_ne (tgt := 49) (dT U_X11_fulfilled 11 rfl) (by decide) (by unfold xr; omega) (by unfold xr; omega) (fun c17 => ?_) (fun c17 => ?_)
  · skip
    refine x_iconst (dT U_X11_fulfilled 29 rfl) ?_
    refine x_zreturn (dT U_X11_fulfilled 30 rfl) rfl (by omega) ?_
    first | exact k0 (fun z => c17 z.2.1) | exact k0 (fun z => c42 z.2.2) | exact k1 ⟨hst, Decidable.byContradiction (fun z => c17 z), Decidable.byContradiction (fun z => c42 z)⟩ | exact k1 ⟨hst, c17, c42⟩
  · skip
    refine x_aload_n (dT U_X11_fulfilled 12 rfl) rfl ?_
    refine x_aload_n (dT U_X11_fulfilled 13 rfl) rfl ?_
    refine x_getfield F_X11_27 (dT U_X11_fulfilled 14 rfl) w.c70 (Nat.le_of_ble_eq_true rfl) rfl ?_
    refine x_iload_n (dT U_X11_fulfilled 15 rfl) rfl ?_
    refine x_aaload (i) (dT U_X11_fulfilled 16 rfl) w.c84 (Nat.le_of_ble_eq_true rfl) (by decide) rfl (mfL_get (by omega)) (Nat.le_of_ble_eq_true rfl) ?_
    refine x_aload_n (dT U_X11_fulfilled 17 rfl) rfl ?_
    refine x_getfield F_X11_18 (dT U_X11_fulfilled 18 rfl) w.c70 (Nat.le_of_ble_eq_true rfl) rfl ?_
    refine x_iload_n (dT U_X11_fulfilled 19 rfl) rfl ?_
    refine x_aaload (j) (dT U_X11_fulfilled 20 rfl) w.c73 (Nat.le_of_ble_eq_true rfl) (by decide) rfl (mrL_get (by omega)) (Nat.le_of_ble_eq_true rfl) ?_
    refine x_invokevirtual (rc' := rc) (rs' := rs) (rc2 := 0) (rs2 := 0) (As := [_, _]) (st := _) M_X11_product K_X11_185 (dT U_X11_fulfilled 21 rfl) rfl rfl (by decide) rfl rfl w.c70 (Nat.le_of_ble_eq_true rfl) (by decide) rfl (Nat.le_of_ble_eq_true rfl) rfl (by decide) (Nat.le_of_ble_eq_true rfl) rfl rfl ?_
    refine S_X11_product (w.mp) v.p (w.forms i hi) (by omega) ok.f24 (w.rows j hj) (by omega) ((v.rw j hj).mono (by omega)) ?_
    have ib := modb (z := inn (σ.R i).form (σ.rw j)) (p := (σ.p : Int)) (by omega)
    refine xRet_some ?_
    refine x_aload_n (dT U_X11_fulfilled 22 rfl) rfl ?_
    refine x_getfield F_X11_30 (dT U_X11_fulfilled 23 rfl) w.c70 (Nat.le_of_ble_eq_true rfl) rfl ?_
    refine x_iload_n (dT U_X11_fulfilled 24 rfl) rfl ?_
    refine x_ialoadv (i) (dT U_X11_fulfilled 25 rfl) w.c90 (Nat.le_of_ble_eq_true rfl) rfl (show i < 5 by omega) (show 5 < 2147483648 by decide) (show _ = (σ.R i).v from t5_get hi) ?_
    refine x_icmp_ne (tgt := 49) (dT U_X11_fulfilled 26 rfl) (by decide) (by unfold xr; omega) (by unfold xr; omega) (fun c42 => ?_) (fun c42 => ?_)
    · skip
      refine x_iconst (dT U_X11_fulfilled 29 rfl) ?_
      refine x_zreturn (dT U_X11_fulfilled 30 rfl) rfl (by omega) ?_
      first | exact k0 (fun z => c17 z.2.1) | exact k0 (fun z => c42 z.2.2) | exact k1 ⟨hst, Decidable.byContradiction (fun z => c17 z), Decidable.byContradiction (fun z => c42 z)⟩ | exact k1 ⟨hst, c17, c42⟩
    · skip
      refine x_iconst (dT U_X11_fulfilled 27 rfl) ?_
      refine x_goto (tgt := 50) (dT U_X11_fulfilled 28 rfl) (by decide) ?_
      refine x_zreturn (dT U_X11_fulfilled 30 rfl) rfl (by omega) ?_
      first | exact k0 (fun z => c17 z.2.1) | exact k0 (fun z => c42 z.2.2) | exact k1 ⟨hst, Decidable.byContradiction (fun z => c17 z), Decidable.byContradiction (fun z => c42 z)⟩ | exact k1 ⟨hst, c17, c42⟩

set_option maxRecDepth 20000 in
set_option maxHeartbeats 1000000 in
theorem S_X11_fits {G : xG} {d rc rs : Nat} {ex : Bool} {h : xH} {Q : xQ} {σ : St} {cc0 : Int} {rr : Nat} {ss : Int} {run secret blind : Int} (w : MX σ cc0 rr ss h) (v : INV σ) (h_run : xr run) (h_secret : xr secret) (h_blind : xr blind) (e1 : ¬ (inb run 4 ∧ inb secret 8) → ∀ h2 z, Ag 70 142 h h2 → MX σ 1 rr ss h2 → xr z → Q (.inl (some (vi z))) ex h2) (e2 : (inb run 4 ∧ inb secret 8) → ¬ (inb blind σ.p) → ∀ h2 z, Ag 70 142 h h2 → MX σ 2 rr ss h2 → xr z → Q (.inl (some (vi z))) ex h2) (e3 : (inb run 4 ∧ inb secret 8) → (inb blind σ.p) → ¬ (1 ≤ (σ.R run.toNat).st) → ∀ h2 z, Ag 70 142 h h2 → MX σ 3 rr ss h2 → xr z → Q (.inl (some (vi z))) ex h2) (k1 : (inb run 4 ∧ inb secret 8) → (inb blind σ.p) → (1 ≤ (σ.R run.toNat).st) → suit σ.p (σ.R run.toNat) (σ.rw secret.toNat) blind → ∀ h2 r2 s2, Ag 70 142 h h2 → MX σ 0 r2 s2 h2 → Q (.inl (some (vi 1))) ex h2) (k0 : (inb run 4 ∧ inb secret 8) → (inb blind σ.p) → (1 ≤ (σ.R run.toNat).st) → ¬ (suit σ.p (σ.R run.toNat) (σ.rw secret.toNat) blind) → ∀ h2 r2 s2, Ag 70 142 h h2 → MX σ 0 r2 s2 h2 → Q (.inl (some (vi 0))) ex h2) : X G m_X11_fits (d + 3) rc rs ex 0 (xe m_X11_fits.2.2.1 [.ref 70, vi run, vi secret, vi blind]) [] h Q := by
  show X G m_X11_fits _ _ _ _ 0 [some (.ref 70), some (vi run), some (vi secret), some (vi blind)] [] h Q
  have hp := PRb v.p
  have hq := gq_b v.p
  refine x_aload_n (dT U_X11_fits 0 rfl) rfl ?_
  refine x_iload_n (dT U_X11_fits 1 rfl) rfl ?_
  refine x_invokestatic (rc' := rc) (rs' := rs) (rc2 := 0) (rs2 := 0) (As := [_]) (st := _) M_X11_isRun K_X11_244 (dT U_X11_fits 2 rfl) rfl rfl rfl rfl (Nat.le_of_ble_eq_true rfl) rfl (by decide) (Nat.le_of_ble_eq_true rfl) rfl rfl ?_
  refine S_X11_isRun h_run (fun q1 => ?_) (fun q1 => ?_)
  · refine xRet_some ?_
    refine x_if_eqn (tgt := 19) (dT U_X11_fits 3 rfl) (by decide) (by decide) ?_
    refine x_iload_n (dT U_X11_fits 4 rfl) rfl ?_
    refine x_invokestatic (rc' := rc) (rs' := rs) (rc2 := 0) (rs2 := 0) (As := [_]) (st := _) M_X11_isRow K_X11_164 (dT U_X11_fits 5 rfl) rfl rfl rfl rfl (Nat.le_of_ble_eq_true rfl) rfl (by decide) (Nat.le_of_ble_eq_true rfl) rfl rfl ?_
    refine S_X11_isRow h_secret (fun q2 => ?_) (fun q2 => ?_)
    · refine xRet_some ?_
      refine x_if_eqn (tgt := 19) (dT U_X11_fits 6 rfl) (by decide) (by decide) ?_
      refine x_iconst (dT U_X11_fits 7 rfl) ?_
      refine x_goto (tgt := 20) (dT U_X11_fits 8 rfl) (by decide) ?_
      refine x_iconst (dT U_X11_fits 10 rfl) ?_
      refine x_invokevirtual (rc' := rc) (rs' := rs) (rc2 := 0) (rs2 := 0) (As := [_, _]) (st := _) M_X11_lets K_X11_167 (dT U_X11_fits 11 rfl) rfl rfl (by decide) rfl rfl w.c70 (Nat.le_of_ble_eq_true rfl) (by decide) rfl (Nat.le_of_ble_eq_true rfl) rfl (by decide) (Nat.le_of_ble_eq_true rfl) rfl rfl ?_
      refine S_X11_lets1 w (fun h1 g1 w1 => ?_)
      refine xRet_some ?_
      obtain ⟨i, hi, rfl⟩ : ∃ j : Nat, j < 4 ∧ run = (j : Int) := ⟨run.toNat, by omega, by omega⟩
      try simp only [tnc] at e1 e2 e3 k1 k0
      obtain ⟨j, hj, rfl⟩ : ∃ j : Nat, j < 8 ∧ secret = (j : Int) := ⟨secret.toNat, by omega, by omega⟩
      try simp only [tnc] at e1 e2 e3 k1 k0
      refine x_if_eqn (tgt := 76) (dT U_X11_fits 12 rfl) (by decide) (by decide) ?_
      refine x_aload_n (dT U_X11_fits 13 rfl) rfl ?_
      refine x_aload_n (dT U_X11_fits 14 rfl) rfl ?_
      refine x_iload_n (dT U_X11_fits 15 rfl) rfl ?_
      refine x_invokevirtual (rc' := rc) (rs' := rs) (rc2 := 0) (rs2 := 0) (As := [_]) (st := _) M_X11_isNumber K_X11_174 (dT U_X11_fits 16 rfl) rfl rfl (by decide) rfl rfl w1.c70 (Nat.le_of_ble_eq_true rfl) (by decide) rfl (Nat.le_of_ble_eq_true rfl) rfl (by decide) (Nat.le_of_ble_eq_true rfl) rfl rfl ?_
      refine S_X11_isNumber (w1.mp) v.p h_blind (fun q3 => ?_) (fun q3 => ?_)
      · refine xRet_some ?_
        refine x_iconst (dT U_X11_fits 17 rfl) ?_
        refine x_invokevirtual (rc' := rc) (rs' := rs) (rc2 := 0) (rs2 := 0) (As := [_, _]) (st := _) M_X11_lets K_X11_167 (dT U_X11_fits 18 rfl) rfl rfl (by decide) rfl rfl w1.c70 (Nat.le_of_ble_eq_true rfl) (by decide) rfl (Nat.le_of_ble_eq_true rfl) rfl (by decide) (Nat.le_of_ble_eq_true rfl) rfl rfl ?_
        refine S_X11_lets1 w1 (fun h2 g2 w2 => ?_)
        refine xRet_some ?_
        refine x_if_eqn (tgt := 76) (dT U_X11_fits 19 rfl) (by decide) (by decide) ?_
        refine x_aload_n (dT U_X11_fits 20 rfl) rfl ?_
        refine x_aload_n (dT U_X11_fits 21 rfl) rfl ?_
        refine x_getfield F_X11_21 (dT U_X11_fits 22 rfl) w2.c70 (Nat.le_of_ble_eq_true rfl) rfl ?_
        refine x_iload_n (dT U_X11_fits 23 rfl) rfl ?_
        refine x_ialoadv (i) (dT U_X11_fits 24 rfl) w2.c82 (Nat.le_of_ble_eq_true rfl) rfl (show i < 5 by omega) (show 5 < 2147483648 by decide) (show _ = ((σ.R i).st : Int) from t5_get hi) ?_
        have s4i := (v.R i hi).1.s4
        refine x_if_le (tgt := 54) (dT U_X11_fits 25 rfl) (by decide) (by unfold xr; omega) (fun c47 => ?_) (fun c47 => ?_)
        · skip
          refine x_iconst (dT U_X11_fits 28 rfl) ?_
          refine x_iconst (dT U_X11_fits 29 rfl) ?_
          refine x_invokevirtual (rc' := rc) (rs' := rs) (rc2 := 0) (rs2 := 0) (As := [_, _]) (st := _) M_X11_lets K_X11_167 (dT U_X11_fits 30 rfl) rfl rfl (by decide) rfl rfl w2.c70 (Nat.le_of_ble_eq_true rfl) (by decide) rfl (Nat.le_of_ble_eq_true rfl) rfl (by decide) (Nat.le_of_ble_eq_true rfl) rfl rfl ?_
          refine S_X11_lets0 w2 (fun h3 g3 w3 => ?_)
          refine xRet_some ?_
          refine x_if_eqj (tgt := 76) (dT U_X11_fits 31 rfl) (by decide) (by decide) ?_
          refine x_iconst (dT U_X11_fits 40 rfl) ?_
          refine x_zreturn (dT U_X11_fits 41 rfl) rfl (by omega) ?_
          exact e3 (by omega) (by omega) (by omega) _ _ (Ag.tr (Ag.tr (Ag.tr (Ag.rf 70 142 h) (g1.w (by omega))) (g2.w (by omega))) (g3.w (by omega))) w3 (by unfold xr; omega)
        · skip
          refine x_iconst (dT U_X11_fits 26 rfl) ?_
          refine x_goto (tgt := 55) (dT U_X11_fits 27 rfl) (by decide) ?_
          refine x_iconst (dT U_X11_fits 29 rfl) ?_
          refine x_invokevirtual (rc' := rc) (rs' := rs) (rc2 := 0) (rs2 := 0) (As := [_, _]) (st := _) M_X11_lets K_X11_167 (dT U_X11_fits 30 rfl) rfl rfl (by decide) rfl rfl w2.c70 (Nat.le_of_ble_eq_true rfl) (by decide) rfl (Nat.le_of_ble_eq_true rfl) rfl (by decide) (Nat.le_of_ble_eq_true rfl) rfl rfl ?_
          refine S_X11_lets1 w2 (fun h3 g3 w3 => ?_)
          refine xRet_some ?_
          refine x_if_eqn (tgt := 76) (dT U_X11_fits 31 rfl) (by decide) (by decide) ?_
          refine x_aload_n (dT U_X11_fits 32 rfl) rfl ?_
          refine x_iload_n (dT U_X11_fits 33 rfl) rfl ?_
          refine x_iload_n (dT U_X11_fits 34 rfl) rfl ?_
          refine x_iload_n (dT U_X11_fits 35 rfl) rfl ?_
          refine x_invokevirtual (rc' := rc) (rs' := rs) (rc2 := 0) (rs2 := 0) (As := [_, _, _]) (st := _) M_X11_fulfilled K_X11_264 (dT U_X11_fits 36 rfl) rfl rfl (by decide) rfl rfl w3.c70 (Nat.le_of_ble_eq_true rfl) (by decide) rfl (Nat.le_of_ble_eq_true rfl) rfl (by decide) (Nat.le_of_ble_eq_true rfl) rfl rfl ?_
          refine S_X11_fulfilled w3 v hi hj (by omega) (by omega) (fun su => ?_) (fun su => ?_)
          · refine xRet_some ?_
            refine x_if_eqn (tgt := 76) (dT U_X11_fits 37 rfl) (by decide) (by decide) ?_
            refine x_iconst (dT U_X11_fits 38 rfl) ?_
            refine x_goto (tgt := 77) (dT U_X11_fits 39 rfl) (by decide) ?_
            refine x_zreturn (dT U_X11_fits 41 rfl) rfl (by omega) ?_
            first | exact k1 (by omega) (by omega) (by omega) su _ _ _ (Ag.tr (Ag.tr (Ag.tr (Ag.rf 70 142 h) (g1.w (by omega))) (g2.w (by omega))) (g3.w (by omega))) w3 | exact k0 (by omega) (by omega) (by omega) su _ _ _ (Ag.tr (Ag.tr (Ag.tr (Ag.rf 70 142 h) (g1.w (by omega))) (g2.w (by omega))) (g3.w (by omega))) w3
          · refine xRet_some ?_
            refine x_if_eqj (tgt := 76) (dT U_X11_fits 37 rfl) (by decide) (by decide) ?_
            refine x_iconst (dT U_X11_fits 40 rfl) ?_
            refine x_zreturn (dT U_X11_fits 41 rfl) rfl (by omega) ?_
            first | exact k1 (by omega) (by omega) (by omega) su _ _ _ (Ag.tr (Ag.tr (Ag.tr (Ag.rf 70 142 h) (g1.w (by omega))) (g2.w (by omega))) (g3.w (by omega))) w3 | exact k0 (by omega) (by omega) (by omega) su _ _ _ (Ag.tr (Ag.tr (Ag.tr (Ag.rf 70 142 h) (g1.w (by omega))) (g2.w (by omega))) (g3.w (by omega))) w3
      · refine xRet_some ?_
        refine x_iconst (dT U_X11_fits 17 rfl) ?_
        refine x_invokevirtual (rc' := rc) (rs' := rs) (rc2 := 0) (rs2 := 0) (As := [_, _]) (st := _) M_X11_lets K_X11_167 (dT U_X11_fits 18 rfl) rfl rfl (by decide) rfl rfl w1.c70 (Nat.le_of_ble_eq_true rfl) (by decide) rfl (Nat.le_of_ble_eq_true rfl) rfl (by decide) (Nat.le_of_ble_eq_true rfl) rfl rfl ?_
        refine S_X11_lets0 w1 (fun h2 g2 w2 => ?_)
        refine xRet_some ?_
        refine x_if_eqj (tgt := 76) (dT U_X11_fits 19 rfl) (by decide) (by decide) ?_
        refine x_iconst (dT U_X11_fits 40 rfl) ?_
        refine x_zreturn (dT U_X11_fits 41 rfl) rfl (by omega) ?_
        exact e2 (by omega) (by omega) _ _ (Ag.tr (Ag.tr (Ag.rf 70 142 h) (g1.w (by omega))) (g2.w (by omega))) w2 (by unfold xr; omega)
    · refine xRet_some ?_
      refine x_if_eqj (tgt := 19) (dT U_X11_fits 6 rfl) (by decide) (by decide) ?_
      refine x_iconst (dT U_X11_fits 9 rfl) ?_
      refine x_iconst (dT U_X11_fits 10 rfl) ?_
      refine x_invokevirtual (rc' := rc) (rs' := rs) (rc2 := 0) (rs2 := 0) (As := [_, _]) (st := _) M_X11_lets K_X11_167 (dT U_X11_fits 11 rfl) rfl rfl (by decide) rfl rfl w.c70 (Nat.le_of_ble_eq_true rfl) (by decide) rfl (Nat.le_of_ble_eq_true rfl) rfl (by decide) (Nat.le_of_ble_eq_true rfl) rfl rfl ?_
      refine S_X11_lets0 w (fun h1 g1 w1 => ?_)
      refine xRet_some ?_
      refine x_if_eqj (tgt := 76) (dT U_X11_fits 12 rfl) (by decide) (by decide) ?_
      refine x_iconst (dT U_X11_fits 40 rfl) ?_
      refine x_zreturn (dT U_X11_fits 41 rfl) rfl (by omega) ?_
      exact e1 (by omega) _ _ (Ag.tr (Ag.rf 70 142 h) (g1.w (by omega))) w1 (by unfold xr; omega)
  · refine xRet_some ?_
    refine x_if_eqj (tgt := 19) (dT U_X11_fits 3 rfl) (by decide) (by decide) ?_
    refine x_iconst (dT U_X11_fits 9 rfl) ?_
    refine x_iconst (dT U_X11_fits 10 rfl) ?_
    refine x_invokevirtual (rc' := rc) (rs' := rs) (rc2 := 0) (rs2 := 0) (As := [_, _]) (st := _) M_X11_lets K_X11_167 (dT U_X11_fits 11 rfl) rfl rfl (by decide) rfl rfl w.c70 (Nat.le_of_ble_eq_true rfl) (by decide) rfl (Nat.le_of_ble_eq_true rfl) rfl (by decide) (Nat.le_of_ble_eq_true rfl) rfl rfl ?_
    refine S_X11_lets0 w (fun h1 g1 w1 => ?_)
    refine xRet_some ?_
    refine x_if_eqj (tgt := 76) (dT U_X11_fits 12 rfl) (by decide) (by decide) ?_
    refine x_iconst (dT U_X11_fits 40 rfl) ?_
    refine x_zreturn (dT U_X11_fits 41 rfl) rfl (by omega) ?_
    exact e1 (by omega) _ _ (Ag.tr (Ag.rf 70 142 h) (g1.w (by omega))) w1 (by unfold xr; omega)

set_option maxRecDepth 20000 in
set_option maxHeartbeats 1000000 in
theorem S_X11_areOne {G : xG} {d rc rs : Nat} {ex : Bool} {h : xH} {Q : xQ} {σ : St} {cc0 : Int} {rr : Nat} {ss : Int} {i j : Nat} (w : MX σ cc0 rr ss h) (v : INV σ) (hi : i < 4) (hj : j < 4) (ai : acc σ.p (σ.R i)) (aj : acc σ.p (σ.R j)) (k1 : fork σ.p (σ.R i) (σ.R j) → Q (.inl (some (vi 1))) ex h) (k0 : ¬ (fork σ.p (σ.R i) (σ.R j)) → Q (.inl (some (vi 0))) ex h) : X G m_X11_areOne (d + 1) rc rs ex 0 (xe m_X11_areOne.2.2.1 [.ref 70, vi (i : Int), vi (j : Int)]) [] h Q := by
  show X G m_X11_areOne _ _ _ _ 0 [some (.ref 70), some (vi (i : Int)), some (vi (j : Int)), none] [] h Q
  have hp := PRb v.p
  have hq := gq_b v.p
  have oki := (v.R i hi).1
  have sti : (σ.R i).st = 4 := ai.1
  have sei := oki.e (by omega)
  have svi := oki.v (by omega)
  have sfai := oki.fa (by omega)
  have swi := oki.w (by omega)
  have sci := oki.c (by omega)
  have sxi := oki.t (by omega)
  have okj := (v.R j hj).1
  have stj : (σ.R j).st = 4 := aj.1
  have sej := okj.e (by omega)
  have svj := okj.v (by omega)
  have sfaj := okj.fa (by omega)
  have swj := okj.w (by omega)
  have scj := okj.c (by omega)
  have sxj := okj.t (by omega)
  refine x_aload_n (dT U_X11_areOne 0 rfl) rfl ?_
  refine x_getfield F_X11_24 (dT U_X11_areOne 1 rfl) w.c70 (Nat.le_of_ble_eq_true rfl) rfl ?_
  refine x_iload_n (dT U_X11_areOne 2 rfl) rfl ?_
  refine x_ialoadv (i) (dT U_X11_areOne 3 rfl) w.c83 (Nat.le_of_ble_eq_true rfl) rfl (show i < 5 by omega) (show 5 < 2147483648 by decide) (show _ = (σ.R i).e from t5_get hi) ?_
  refine x_aload_n (dT U_X11_areOne 4 rfl) rfl ?_
  refine x_getfield F_X11_24 (dT U_X11_areOne 5 rfl) w.c70 (Nat.le_of_ble_eq_true rfl) rfl ?_
  refine x_iload_n (dT U_X11_areOne 6 rfl) rfl ?_
  refine x_ialoadv (j) (dT U_X11_areOne 7 rfl) w.c83 (Nat.le_of_ble_eq_true rfl) rfl (show j < 5 by omega) (show 5 < 2147483648 by decide) (show _ = (σ.R j).e from t5_get hj) ?_
  refine x_icmp_ne (tgt := 52) (dT U_X11_areOne 8 rfl) (by decide) (by unfold xr; omega) (by unfold xr; omega) (fun c12 => ?_) (fun c12 => ?_)
  · skip
    refine x_iconst (dT U_X11_areOne 30 rfl) ?_
    refine x_istore_n (ls' := [some (.ref _), some (vi _), some (vi _), some (vi _)]) (dT U_X11_areOne 31 rfl) (by decide) rfl ?_
    refine x_iload_n (dT U_X11_areOne 32 rfl) rfl ?_
    refine x_if_eqj (tgt := 107) (dT U_X11_areOne 33 rfl) (by decide) (by decide) ?_
    refine x_iconst (dT U_X11_areOne 63 rfl) ?_
    refine x_zreturn (dT U_X11_areOne 64 rfl) rfl (by omega) ?_
    first | exact k0 (fun z => by have := z.2.2.1; omega) | exact k0 (fun z => by have := z.2.2.2.1; omega) | exact k0 (fun z => fs z.2.2.2.2.1) | exact k0 (fun z => by have := z.2.2.2.2.2.1; omega) | exact k0 (fun z => by have := z.2.2.2.2.2.2.1; omega) | exact k0 (fun z => by have := z.2.2.2.2.2.2.2; omega) | exact k1 ⟨ai, aj, by omega, by omega, fs, by omega, by omega, by omega⟩
  · skip
    refine x_aload_n (dT U_X11_areOne 9 rfl) rfl ?_
    refine x_getfield F_X11_30 (dT U_X11_areOne 10 rfl) w.c70 (Nat.le_of_ble_eq_true rfl) rfl ?_
    refine x_iload_n (dT U_X11_areOne 11 rfl) rfl ?_
    refine x_ialoadv (i) (dT U_X11_areOne 12 rfl) w.c90 (Nat.le_of_ble_eq_true rfl) rfl (show i < 5 by omega) (show 5 < 2147483648 by decide) (show _ = (σ.R i).v from t5_get hi) ?_
    refine x_aload_n (dT U_X11_areOne 13 rfl) rfl ?_
    refine x_getfield F_X11_30 (dT U_X11_areOne 14 rfl) w.c70 (Nat.le_of_ble_eq_true rfl) rfl ?_
    refine x_iload_n (dT U_X11_areOne 15 rfl) rfl ?_
    refine x_ialoadv (j) (dT U_X11_areOne 16 rfl) w.c90 (Nat.le_of_ble_eq_true rfl) rfl (show j < 5 by omega) (show 5 < 2147483648 by decide) (show _ = (σ.R j).v from t5_get hj) ?_
    refine x_icmp_ne (tgt := 52) (dT U_X11_areOne 17 rfl) (by decide) (by unfold xr; omega) (by unfold xr; omega) (fun c27 => ?_) (fun c27 => ?_)
    · skip
      refine x_iconst (dT U_X11_areOne 30 rfl) ?_
      refine x_istore_n (ls' := [some (.ref _), some (vi _), some (vi _), some (vi _)]) (dT U_X11_areOne 31 rfl) (by decide) rfl ?_
      refine x_iload_n (dT U_X11_areOne 32 rfl) rfl ?_
      refine x_if_eqj (tgt := 107) (dT U_X11_areOne 33 rfl) (by decide) (by decide) ?_
      refine x_iconst (dT U_X11_areOne 63 rfl) ?_
      refine x_zreturn (dT U_X11_areOne 64 rfl) rfl (by omega) ?_
      first | exact k0 (fun z => by have := z.2.2.1; omega) | exact k0 (fun z => by have := z.2.2.2.1; omega) | exact k0 (fun z => fs z.2.2.2.2.1) | exact k0 (fun z => by have := z.2.2.2.2.2.1; omega) | exact k0 (fun z => by have := z.2.2.2.2.2.2.1; omega) | exact k0 (fun z => by have := z.2.2.2.2.2.2.2; omega) | exact k1 ⟨ai, aj, by omega, by omega, fs, by omega, by omega, by omega⟩
    · skip
      refine x_aload_n (dT U_X11_areOne 18 rfl) rfl ?_
      refine x_getfield F_X11_27 (dT U_X11_areOne 19 rfl) w.c70 (Nat.le_of_ble_eq_true rfl) rfl ?_
      refine x_iload_n (dT U_X11_areOne 20 rfl) rfl ?_
      refine x_aaload (i) (dT U_X11_areOne 21 rfl) w.c84 (Nat.le_of_ble_eq_true rfl) (by decide) rfl (mfL_get (by omega)) (Nat.le_of_ble_eq_true rfl) ?_
      refine x_aload_n (dT U_X11_areOne 22 rfl) rfl ?_
      refine x_getfield F_X11_27 (dT U_X11_areOne 23 rfl) w.c70 (Nat.le_of_ble_eq_true rfl) rfl ?_
      refine x_iload_n (dT U_X11_areOne 24 rfl) rfl ?_
      refine x_aaload (j) (dT U_X11_areOne 25 rfl) w.c84 (Nat.le_of_ble_eq_true rfl) (by decide) rfl (mfL_get (by omega)) (Nat.le_of_ble_eq_true rfl) ?_
      refine x_invokestatic (rc' := rc) (rs' := rs) (rc2 := 0) (rs2 := 0) (As := [_, _]) (st := _) M_X11_areSame K_X11_257 (dT U_X11_areOne 26 rfl) rfl rfl rfl rfl (Nat.le_of_ble_eq_true rfl) rfl (by decide) (Nat.le_of_ble_eq_true rfl) rfl rfl ?_
      refine S_X11_areSame (w.forms i hi) (by omega) oki.f24.1 (w.forms j hj) (by omega) okj.f24.1 (fun t => by have h7 := oki.f24.2 t; have h8 := okj.f24.2 t; unfold xr; omega) (fun fs => ?_) (fun fs => ?_)
      · refine xRet_some ?_
        refine x_if_eqn (tgt := 52) (dT U_X11_areOne 27 rfl) (by decide) (by decide) ?_
        refine x_iconst (dT U_X11_areOne 28 rfl) ?_
        refine x_goto (tgt := 53) (dT U_X11_areOne 29 rfl) (by decide) ?_
        refine x_istore_n (ls' := [some (.ref _), some (vi _), some (vi _), some (vi _)]) (dT U_X11_areOne 31 rfl) (by decide) rfl ?_
        refine x_iload_n (dT U_X11_areOne 32 rfl) rfl ?_
        refine x_if_eqn (tgt := 107) (dT U_X11_areOne 33 rfl) (by decide) (by decide) ?_
        refine x_aload_n (dT U_X11_areOne 34 rfl) rfl ?_
        refine x_getfield F_X11_33 (dT U_X11_areOne 35 rfl) w.c70 (Nat.le_of_ble_eq_true rfl) rfl ?_
        refine x_iload_n (dT U_X11_areOne 36 rfl) rfl ?_
        refine x_ialoadv (i) (dT U_X11_areOne 37 rfl) w.c91 (Nat.le_of_ble_eq_true rfl) rfl (show i < 5 by omega) (show 5 < 2147483648 by decide) (show _ = (σ.R i).fa from t5_get hi) ?_
        refine x_aload_n (dT U_X11_areOne 38 rfl) rfl ?_
        refine x_getfield F_X11_33 (dT U_X11_areOne 39 rfl) w.c70 (Nat.le_of_ble_eq_true rfl) rfl ?_
        refine x_iload_n (dT U_X11_areOne 40 rfl) rfl ?_
        refine x_ialoadv (j) (dT U_X11_areOne 41 rfl) w.c91 (Nat.le_of_ble_eq_true rfl) rfl (show j < 5 by omega) (show 5 < 2147483648 by decide) (show _ = (σ.R j).fa from t5_get hj) ?_
        refine x_icmp_ne (tgt := 107) (dT U_X11_areOne 42 rfl) (by decide) (by unfold xr; omega) (by unfold xr; omega) (fun c70 => ?_) (fun c70 => ?_)
        · skip
          refine x_iconst (dT U_X11_areOne 63 rfl) ?_
          refine x_zreturn (dT U_X11_areOne 64 rfl) rfl (by omega) ?_
          first | exact k0 (fun z => by have := z.2.2.1; omega) | exact k0 (fun z => by have := z.2.2.2.1; omega) | exact k0 (fun z => fs z.2.2.2.2.1) | exact k0 (fun z => by have := z.2.2.2.2.2.1; omega) | exact k0 (fun z => by have := z.2.2.2.2.2.2.1; omega) | exact k0 (fun z => by have := z.2.2.2.2.2.2.2; omega) | exact k1 ⟨ai, aj, by omega, by omega, fs, by omega, by omega, by omega⟩
        · skip
          refine x_aload_n (dT U_X11_areOne 43 rfl) rfl ?_
          refine x_getfield F_X11_36 (dT U_X11_areOne 44 rfl) w.c70 (Nat.le_of_ble_eq_true rfl) rfl ?_
          refine x_iload_n (dT U_X11_areOne 45 rfl) rfl ?_
          refine x_ialoadv (i) (dT U_X11_areOne 46 rfl) w.c92 (Nat.le_of_ble_eq_true rfl) rfl (show i < 5 by omega) (show 5 < 2147483648 by decide) (show _ = (σ.R i).w from t5_get hi) ?_
          refine x_aload_n (dT U_X11_areOne 47 rfl) rfl ?_
          refine x_getfield F_X11_36 (dT U_X11_areOne 48 rfl) w.c70 (Nat.le_of_ble_eq_true rfl) rfl ?_
          refine x_iload_n (dT U_X11_areOne 49 rfl) rfl ?_
          refine x_ialoadv (j) (dT U_X11_areOne 50 rfl) w.c92 (Nat.le_of_ble_eq_true rfl) rfl (show j < 5 by omega) (show 5 < 2147483648 by decide) (show _ = (σ.R j).w from t5_get hj) ?_
          refine x_icmp_ne (tgt := 107) (dT U_X11_areOne 51 rfl) (by decide) (by unfold xr; omega) (by unfold xr; omega) (fun c85 => ?_) (fun c85 => ?_)
          · skip
            refine x_iconst (dT U_X11_areOne 63 rfl) ?_
            refine x_zreturn (dT U_X11_areOne 64 rfl) rfl (by omega) ?_
            first | exact k0 (fun z => by have := z.2.2.1; omega) | exact k0 (fun z => by have := z.2.2.2.1; omega) | exact k0 (fun z => fs z.2.2.2.2.1) | exact k0 (fun z => by have := z.2.2.2.2.2.1; omega) | exact k0 (fun z => by have := z.2.2.2.2.2.2.1; omega) | exact k0 (fun z => by have := z.2.2.2.2.2.2.2; omega) | exact k1 ⟨ai, aj, by omega, by omega, fs, by omega, by omega, by omega⟩
          · skip
            refine x_aload_n (dT U_X11_areOne 52 rfl) rfl ?_
            refine x_getfield F_X11_49 (dT U_X11_areOne 53 rfl) w.c70 (Nat.le_of_ble_eq_true rfl) rfl ?_
            refine x_iload_n (dT U_X11_areOne 54 rfl) rfl ?_
            refine x_ialoadv (i) (dT U_X11_areOne 55 rfl) w.c101 (Nat.le_of_ble_eq_true rfl) rfl (show i < 5 by omega) (show 5 < 2147483648 by decide) (show _ = (σ.R i).c from t5_get hi) ?_
            refine x_aload_n (dT U_X11_areOne 56 rfl) rfl ?_
            refine x_getfield F_X11_49 (dT U_X11_areOne 57 rfl) w.c70 (Nat.le_of_ble_eq_true rfl) rfl ?_
            refine x_iload_n (dT U_X11_areOne 58 rfl) rfl ?_
            refine x_ialoadv (j) (dT U_X11_areOne 59 rfl) w.c101 (Nat.le_of_ble_eq_true rfl) rfl (show j < 5 by omega) (show 5 < 2147483648 by decide) (show _ = (σ.R j).c from t5_get hj) ?_
            refine x_icmp_eq (tgt := 107) (dT U_X11_areOne 60 rfl) (by decide) (by unfold xr; omega) (by unfold xr; omega) (fun c100 => ?_) (fun c100 => ?_)
            · skip
              refine x_iconst (dT U_X11_areOne 63 rfl) ?_
              refine x_zreturn (dT U_X11_areOne 64 rfl) rfl (by omega) ?_
              first | exact k0 (fun z => by have := z.2.2.1; omega) | exact k0 (fun z => by have := z.2.2.2.1; omega) | exact k0 (fun z => fs z.2.2.2.2.1) | exact k0 (fun z => by have := z.2.2.2.2.2.1; omega) | exact k0 (fun z => by have := z.2.2.2.2.2.2.1; omega) | exact k0 (fun z => by have := z.2.2.2.2.2.2.2; omega) | exact k1 ⟨ai, aj, by omega, by omega, fs, by omega, by omega, by omega⟩
            · skip
              refine x_iconst (dT U_X11_areOne 61 rfl) ?_
              refine x_goto (tgt := 108) (dT U_X11_areOne 62 rfl) (by decide) ?_
              refine x_zreturn (dT U_X11_areOne 64 rfl) rfl (by omega) ?_
              first | exact k0 (fun z => by have := z.2.2.1; omega) | exact k0 (fun z => by have := z.2.2.2.1; omega) | exact k0 (fun z => fs z.2.2.2.2.1) | exact k0 (fun z => by have := z.2.2.2.2.2.1; omega) | exact k0 (fun z => by have := z.2.2.2.2.2.2.1; omega) | exact k0 (fun z => by have := z.2.2.2.2.2.2.2; omega) | exact k1 ⟨ai, aj, by omega, by omega, fs, by omega, by omega, by omega⟩
      · refine xRet_some ?_
        refine x_if_eqj (tgt := 52) (dT U_X11_areOne 27 rfl) (by decide) (by decide) ?_
        refine x_iconst (dT U_X11_areOne 30 rfl) ?_
        refine x_istore_n (ls' := [some (.ref _), some (vi _), some (vi _), some (vi _)]) (dT U_X11_areOne 31 rfl) (by decide) rfl ?_
        refine x_iload_n (dT U_X11_areOne 32 rfl) rfl ?_
        refine x_if_eqj (tgt := 107) (dT U_X11_areOne 33 rfl) (by decide) (by decide) ?_
        refine x_iconst (dT U_X11_areOne 63 rfl) ?_
        refine x_zreturn (dT U_X11_areOne 64 rfl) rfl (by omega) ?_
        first | exact k0 (fun z => by have := z.2.2.1; omega) | exact k0 (fun z => by have := z.2.2.2.1; omega) | exact k0 (fun z => fs z.2.2.2.2.1) | exact k0 (fun z => by have := z.2.2.2.2.2.1; omega) | exact k0 (fun z => by have := z.2.2.2.2.2.2.1; omega) | exact k0 (fun z => by have := z.2.2.2.2.2.2.2; omega) | exact k1 ⟨ai, aj, by omega, by omega, fs, by omega, by omega, by omega⟩

set_option maxRecDepth 20000 in
set_option maxHeartbeats 1000000 in
theorem S_X11_extract {G : xG} {d rc rs : Nat} {ex : Bool} {h : xH} {Q : xQ} {σ : St} {cc0 : Int} {rr : Nat} {ss : Int} {run second to : Int} (w : MX σ cc0 rr ss h) (v : INV σ) (h_run : xr run) (h_second : xr second) (h_to : xr to) (e1 : ¬ (inb run 4 ∧ inb second 4 ∧ inb to 8) → ∀ h2 z, Ag 70 142 h h2 → MX σ 1 rr ss h2 → xr z → Q (.inl (some (vi z))) ex h2) (e2 : (inb run 4 ∧ inb second 4 ∧ inb to 8) → ¬ (fork σ.p (σ.R run.toNat) (σ.R second.toNat)) → ∀ h2 z, Ag 70 142 h h2 → MX σ 2 rr ss h2 → xr z → Q (.inl (some (vi z))) ex h2) (k : (inb run 4 ∧ inb second 4 ∧ inb to 8) → (fork σ.p (σ.R run.toNat) (σ.R second.toNat)) → ∀ h2 r2 s2, Ag 70 142 h h2 → MX (σ.sRow to.toNat (tab (fun t => (((σ.R run.toNat).answer.getD t 0 - (σ.R second.toNat).answer.getD t 0) * (iv σ.p (((σ.R run.toNat).c - (σ.R second.toNat).c) % (σ.p : Int)).toNat : Int)) % (σ.p : Int)) 8)) 0 r2 s2 h2 → Q (.inl (some (vi ((((σ.R run.toNat).t - (σ.R second.toNat).t) * (iv σ.p (((σ.R run.toNat).c - (σ.R second.toNat).c) % (σ.p : Int)).toNat : Int)) % (σ.p : Int))))) ex h2) : X G m_X11_extract (d + 3) rc rs ex 0 (xe m_X11_extract.2.2.1 [.ref 70, vi run, vi second, vi to]) [] h Q := by
  show X G m_X11_extract _ _ _ _ 0 [some (.ref 70), some (vi run), some (vi second), some (vi to), none, none] [] h Q
  have hp := PRb v.p
  have hq := gq_b v.p
  refine x_aload_n (dT U_X11_extract 0 rfl) rfl ?_
  refine x_iload_n (dT U_X11_extract 1 rfl) rfl ?_
  refine x_invokestatic (rc' := rc) (rs' := rs) (rc2 := 0) (rs2 := 0) (As := [_]) (st := _) M_X11_isRun K_X11_244 (dT U_X11_extract 2 rfl) rfl rfl rfl rfl (Nat.le_of_ble_eq_true rfl) rfl (by decide) (Nat.le_of_ble_eq_true rfl) rfl rfl ?_
  refine S_X11_isRun h_run (fun q1 => ?_) (fun q1 => ?_)
  · refine xRet_some ?_
    refine x_if_eqn (tgt := 26) (dT U_X11_extract 3 rfl) (by decide) (by decide) ?_
    refine x_iload_n (dT U_X11_extract 4 rfl) rfl ?_
    refine x_invokestatic (rc' := rc) (rs' := rs) (rc2 := 0) (rs2 := 0) (As := [_]) (st := _) M_X11_isRun K_X11_244 (dT U_X11_extract 5 rfl) rfl rfl rfl rfl (Nat.le_of_ble_eq_true rfl) rfl (by decide) (Nat.le_of_ble_eq_true rfl) rfl rfl ?_
    refine S_X11_isRun h_second (fun q2 => ?_) (fun q2 => ?_)
    · refine xRet_some ?_
      refine x_if_eqn (tgt := 26) (dT U_X11_extract 6 rfl) (by decide) (by decide) ?_
      refine x_iload_n (dT U_X11_extract 7 rfl) rfl ?_
      refine x_invokestatic (rc' := rc) (rs' := rs) (rc2 := 0) (rs2 := 0) (As := [_]) (st := _) M_X11_isRow K_X11_164 (dT U_X11_extract 8 rfl) rfl rfl rfl rfl (Nat.le_of_ble_eq_true rfl) rfl (by decide) (Nat.le_of_ble_eq_true rfl) rfl rfl ?_
      refine S_X11_isRow h_to (fun q3 => ?_) (fun q3 => ?_)
      · refine xRet_some ?_
        refine x_if_eqn (tgt := 26) (dT U_X11_extract 9 rfl) (by decide) (by decide) ?_
        refine x_iconst (dT U_X11_extract 10 rfl) ?_
        refine x_goto (tgt := 27) (dT U_X11_extract 11 rfl) (by decide) ?_
        refine x_iconst (dT U_X11_extract 13 rfl) ?_
        refine x_invokevirtual (rc' := rc) (rs' := rs) (rc2 := 0) (rs2 := 0) (As := [_, _]) (st := _) M_X11_lets K_X11_167 (dT U_X11_extract 14 rfl) rfl rfl (by decide) rfl rfl w.c70 (Nat.le_of_ble_eq_true rfl) (by decide) rfl (Nat.le_of_ble_eq_true rfl) rfl (by decide) (Nat.le_of_ble_eq_true rfl) rfl rfl ?_
        refine S_X11_lets1 w (fun h1 g1 w1 => ?_)
        refine xRet_some ?_
        obtain ⟨i, hi, rfl⟩ : ∃ j : Nat, j < 4 ∧ run = (j : Int) := ⟨run.toNat, by omega, by omega⟩
        try simp only [tnc] at e1 e2 k
        obtain ⟨j, hj, rfl⟩ : ∃ j : Nat, j < 4 ∧ second = (j : Int) := ⟨second.toNat, by omega, by omega⟩
        try simp only [tnc] at e1 e2 k
        obtain ⟨t, ht, rfl⟩ : ∃ j : Nat, j < 8 ∧ to = (j : Int) := ⟨to.toNat, by omega, by omega⟩
        try simp only [tnc] at e1 e2 k
        refine x_if_eqn (tgt := 72) (dT U_X11_extract 15 rfl) (by decide) (by decide) ?_
        refine x_aload_n (dT U_X11_extract 16 rfl) rfl ?_
        refine x_aload_n (dT U_X11_extract 17 rfl) rfl ?_
        refine x_iload_n (dT U_X11_extract 18 rfl) rfl ?_
        refine x_invokevirtual (rc' := rc) (rs' := rs) (rc2 := 0) (rs2 := 0) (As := [_]) (st := _) M_X11_accepted K_X11_254 (dT U_X11_extract 19 rfl) rfl rfl (by decide) rfl rfl w1.c70 (Nat.le_of_ble_eq_true rfl) (by decide) rfl (Nat.le_of_ble_eq_true rfl) rfl (by decide) (Nat.le_of_ble_eq_true rfl) rfl rfl ?_
        refine S_X11_accepted w1 v hi (fun ai => ?_) (fun ai => ?_)
        · refine xRet_some ?_
          refine x_if_eqn (tgt := 64) (dT U_X11_extract 20 rfl) (by decide) (by decide) ?_
          refine x_aload_n (dT U_X11_extract 21 rfl) rfl ?_
          refine x_iload_n (dT U_X11_extract 22 rfl) rfl ?_
          refine x_invokevirtual (rc' := rc) (rs' := rs) (rc2 := 0) (rs2 := 0) (As := [_]) (st := _) M_X11_accepted K_X11_254 (dT U_X11_extract 23 rfl) rfl rfl (by decide) rfl rfl w1.c70 (Nat.le_of_ble_eq_true rfl) (by decide) rfl (Nat.le_of_ble_eq_true rfl) rfl (by decide) (Nat.le_of_ble_eq_true rfl) rfl rfl ?_
          refine S_X11_accepted w1 v hj (fun aj => ?_) (fun aj => ?_)
          · refine xRet_some ?_
            refine x_if_eqn (tgt := 64) (dT U_X11_extract 24 rfl) (by decide) (by decide) ?_
            refine x_aload_n (dT U_X11_extract 25 rfl) rfl ?_
            refine x_iload_n (dT U_X11_extract 26 rfl) rfl ?_
            refine x_iload_n (dT U_X11_extract 27 rfl) rfl ?_
            refine x_invokevirtual (rc' := rc) (rs' := rs) (rc2 := 0) (rs2 := 0) (As := [_, _]) (st := _) M_X11_areOne K_X11_261 (dT U_X11_extract 28 rfl) rfl rfl (by decide) rfl rfl w1.c70 (Nat.le_of_ble_eq_true rfl) (by decide) rfl (Nat.le_of_ble_eq_true rfl) rfl (by decide) (Nat.le_of_ble_eq_true rfl) rfl rfl ?_
            refine S_X11_areOne w1 v hi hj ai aj (fun fk => ?_) (fun fk => ?_)
            · refine xRet_some ?_
              refine x_if_eqn (tgt := 64) (dT U_X11_extract 29 rfl) (by decide) (by decide) ?_
              refine x_iconst (dT U_X11_extract 30 rfl) ?_
              refine x_goto (tgt := 65) (dT U_X11_extract 31 rfl) (by decide) ?_
              refine x_iconst (dT U_X11_extract 33 rfl) ?_
              refine x_invokevirtual (rc' := rc) (rs' := rs) (rc2 := 0) (rs2 := 0) (As := [_, _]) (st := _) M_X11_lets K_X11_167 (dT U_X11_extract 34 rfl) rfl rfl (by decide) rfl rfl w1.c70 (Nat.le_of_ble_eq_true rfl) (by decide) rfl (Nat.le_of_ble_eq_true rfl) rfl (by decide) (Nat.le_of_ble_eq_true rfl) rfl rfl ?_
              refine S_X11_lets1 w1 (fun h2 g2 w2 => ?_)
              refine xRet_some ?_
              refine x_if_nej (tgt := 74) (dT U_X11_extract 35 rfl) (by decide) (by decide) ?_
              have oki := (v.R i hi).1
              have sti : (σ.R i).st = 4 := ai.1
              have sei := oki.e (by omega)
              have svi := oki.v (by omega)
              have sfai := oki.fa (by omega)
              have swi := oki.w (by omega)
              have sci := oki.c (by omega)
              have sxi := oki.t (by omega)
              have okj := (v.R j hj).1
              have stj : (σ.R j).st = 4 := aj.1
              have sej := okj.e (by omega)
              have svj := okj.v (by omega)
              have sfaj := okj.fa (by omega)
              have swj := okj.w (by omega)
              have scj := okj.c (by omega)
              have sxj := okj.t (by omega)
              have gpb0 := modb (z := (σ.R i).c - (σ.R j).c) (p := (σ.p : Int)) (by omega)
              have gpn : (σ.R i).c ≠ (σ.R j).c := fk.2.2.2.2.2.2.2
              have gpz : (((σ.R i).c - (σ.R j).c) % (σ.p : Int)) ≠ 0 := fun z => gpn ((sub_m0 sci scj).mp z)
              have gpb : 0 < (((σ.R i).c - (σ.R j).c) % (σ.p : Int)) ∧ (((σ.R i).c - (σ.R j).c) % (σ.p : Int)) < (σ.p : Int) := ⟨by omega, gpb0.2⟩
              refine x_aload_n (dT U_X11_extract 38 rfl) rfl ?_
              refine x_aload_n (dT U_X11_extract 39 rfl) rfl ?_
              refine x_getfield F_X11_49 (dT U_X11_extract 40 rfl) w2.c70 (Nat.le_of_ble_eq_true rfl) rfl ?_
              refine x_iload_n (dT U_X11_extract 41 rfl) rfl ?_
              refine x_ialoadv (i) (dT U_X11_extract 42 rfl) w2.c101 (Nat.le_of_ble_eq_true rfl) rfl (show i < 5 by omega) (show 5 < 2147483648 by decide) (show _ = (σ.R i).c from t5_get hi) ?_
              refine x_i2l (dT U_X11_extract 43 rfl) (by unfold xr; omega) ?_
              refine x_aload_n (dT U_X11_extract 44 rfl) rfl ?_
              refine x_getfield F_X11_49 (dT U_X11_extract 45 rfl) w2.c70 (Nat.le_of_ble_eq_true rfl) rfl ?_
              refine x_iload_n (dT U_X11_extract 46 rfl) rfl ?_
              refine x_ialoadv (j) (dT U_X11_extract 47 rfl) w2.c101 (Nat.le_of_ble_eq_true rfl) rfl (show j < 5 by omega) (show 5 < 2147483648 by decide) (show _ = (σ.R j).c from t5_get hj) ?_
              refine x_i2l (dT U_X11_extract 48 rfl) (by unfold xr; omega) ?_
              refine x_lsub (dT U_X11_extract 49 rfl) ?_
              refine x_invokevirtual (rc' := rc) (rs' := rs) (rc2 := 0) (rs2 := 0) (As := [_]) (st := _) M_X11_f K_X11_156 (dT U_X11_extract 50 rfl) rfl rfl (by decide) rfl rfl w2.c70 (Nat.le_of_ble_eq_true rfl) (by decide) rfl (Nat.le_of_ble_eq_true rfl) rfl (by decide) (Nat.le_of_ble_eq_true rfl) rfl rfl ?_
              refine S_X11_f (w2.mp) v.p (by unfold xrl; omega) ?_
              refine xRet_some ?_
              refine x_istore (ls' := [some (.ref _), some (vi _), some (vi _), some (vi _), some (vi _), none]) (dT U_X11_extract 51 rfl) (by decide) rfl ?_
              refine x_iconst (dT U_X11_extract 52 rfl) ?_
              refine x_istore (ls' := [some (.ref _), some (vi _), some (vi _), some (vi _), some (vi _), some (vi _)]) (dT U_X11_extract 53 rfl) (by decide) rfl ?_
              have L : ∀ (n u : Nat), u + n = 8 → X G m_X11_extract (d + 3) rc rs ex 98 [some (.ref 70), some (vi (i : Int)), some (vi (j : Int)), some (vi (t : Int)), some (vi (((σ.R i).c - (σ.R j).c) % (σ.p : Int))), some (vi (u : Int))] [] (h2.set (74 + t) (cA 0 (fillL (fun u => (((σ.R i).answer.getD u 0 - (σ.R j).answer.getD u 0) * (iv σ.p (((σ.R i).c - (σ.R j).c) % (σ.p : Int)).toNat : Int)) % (σ.p : Int)) (σ.rw t) u))) Q := by
                intro n
                induction n with
                | zero =>
                  intro u hi_ 
                  refine x_iload (dT U_X11_extract 54 rfl) rfl ?_
                  refine x_bipush (dT U_X11_extract 55 rfl) (by decide) ?_
                  refine x_icmp_ge (tgt := 151) (dT U_X11_extract 56 rfl) (by decide) (by unfold xr; omega) (by unfold xr at *; omega) (fun c102 => ?_) (fun c102 => ?_)
                  · skip
                    have e : u = 8 := by omega
                    subst e
                    rw [fillL_all (v.rw t ht).1]
                    refine x_aload_n (dT U_X11_extract 85 rfl) rfl ?_
                    refine x_aload_n (dT U_X11_extract 86 rfl) rfl ?_
                    refine x_aload_n (dT U_X11_extract 87 rfl) rfl ?_
                    refine x_getfield F_X11_55 (dT U_X11_extract 88 rfl) (hset_ne (by omega) (w2.c70)) (Nat.le_of_ble_eq_true rfl) rfl ?_
                    refine x_iload_n (dT U_X11_extract 89 rfl) rfl ?_
                    refine x_ialoadv (i) (dT U_X11_extract 90 rfl) (hset_ne (by omega) (w2.c108)) (Nat.le_of_ble_eq_true rfl) rfl (show i < 5 by omega) (show 5 < 2147483648 by decide) (show _ = (σ.R i).t from t5_get hi) ?_
                    refine x_i2l (dT U_X11_extract 91 rfl) (by unfold xr; omega) ?_
                    refine x_aload_n (dT U_X11_extract 92 rfl) rfl ?_
                    refine x_getfield F_X11_55 (dT U_X11_extract 93 rfl) (hset_ne (by omega) (w2.c70)) (Nat.le_of_ble_eq_true rfl) rfl ?_
                    refine x_iload_n (dT U_X11_extract 94 rfl) rfl ?_
                    refine x_ialoadv (j) (dT U_X11_extract 95 rfl) (hset_ne (by omega) (w2.c108)) (Nat.le_of_ble_eq_true rfl) rfl (show j < 5 by omega) (show 5 < 2147483648 by decide) (show _ = (σ.R j).t from t5_get hj) ?_
                    refine x_i2l (dT U_X11_extract 96 rfl) (by unfold xr; omega) ?_
                    refine x_lsub (dT U_X11_extract 97 rfl) ?_
                    refine x_invokevirtual (rc' := rc) (rs' := rs) (rc2 := 0) (rs2 := 0) (As := [_]) (st := _) M_X11_f K_X11_156 (dT U_X11_extract 98 rfl) rfl rfl (by decide) rfl rfl (hset_ne (by omega) (w2.c70)) (Nat.le_of_ble_eq_true rfl) (by decide) rfl (Nat.le_of_ble_eq_true rfl) rfl (by decide) (Nat.le_of_ble_eq_true rfl) rfl rfl ?_
                    refine S_X11_f (MP.set (by omega) (w2.mp)) v.p (by unfold xrl; omega) ?_
                    refine xRet_some ?_
                    refine x_iload (dT U_X11_extract 99 rfl) rfl ?_
                    refine x_invokevirtual (rc' := rc) (rs' := rs) (rc2 := 0) (rs2 := 0) (As := [_, _]) (st := _) M_X11_over K_X11_193 (dT U_X11_extract 100 rfl) rfl rfl (by decide) rfl rfl (hset_ne (by omega) (w2.c70)) (Nat.le_of_ble_eq_true rfl) (by decide) rfl (Nat.le_of_ble_eq_true rfl) rfl (by decide) (Nat.le_of_ble_eq_true rfl) rfl rfl ?_
                    refine S_overI (MP.set (by omega) (w2.mp)) v.p (modb (by omega)) gpb ?_
                    rw [ml_l]
                    refine xRet_some ?_
                    refine x_ireturn (dT U_X11_extract 101 rfl) rfl ?_
                    exact k (by omega) fk _ _ _ ((Ag.tr (Ag.tr (Ag.rf 70 142 h) (g1.w (by omega))) (g2.w (by omega))).set (by omega)) (w2.row (i := t) (l := tab (fun u => (((σ.R i).answer.getD u 0 - (σ.R j).answer.getD u 0) * (iv σ.p (((σ.R i).c - (σ.R j).c) % (σ.p : Int)).toNat : Int)) % (σ.p : Int)) 8) (fun a ha => by rw [hset_fr (by omega)]) ht (hset_eq (w2.rows t ht)))
                  · exfalso; omega
                | succ n ih =>
                  intro u hi_ 
                  have xa := oki.a24.2 u
                  have xb := okj.a24.2 u
                  refine x_iload (dT U_X11_extract 54 rfl) rfl ?_
                  refine x_bipush (dT U_X11_extract 55 rfl) (by decide) ?_
                  refine x_icmp_ge (tgt := 151) (dT U_X11_extract 56 rfl) (by decide) (by unfold xr; omega) (by unfold xr at *; omega) (fun c102 => ?_) (fun c102 => ?_)
                  · exfalso; omega
                  · skip
                    refine x_aload_n (dT U_X11_extract 57 rfl) rfl ?_
                    refine x_getfield F_X11_18 (dT U_X11_extract 58 rfl) (hset_ne (by omega) (w2.c70)) (Nat.le_of_ble_eq_true rfl) rfl ?_
                    refine x_iload_n (dT U_X11_extract 59 rfl) rfl ?_
                    refine x_aaload (t) (dT U_X11_extract 60 rfl) (hset_ne (by omega) (w2.c73)) (Nat.le_of_ble_eq_true rfl) (by decide) rfl (mrL_get (by omega)) (Nat.le_of_ble_eq_true rfl) ?_
                    refine x_iload (dT U_X11_extract 61 rfl) rfl ?_
                    refine x_aload_n (dT U_X11_extract 62 rfl) rfl ?_
                    refine x_aload_n (dT U_X11_extract 63 rfl) rfl ?_
                    refine x_aload_n (dT U_X11_extract 64 rfl) rfl ?_
                    refine x_getfield F_X11_52 (dT U_X11_extract 65 rfl) (hset_ne (by omega) (w2.c70)) (Nat.le_of_ble_eq_true rfl) rfl ?_
                    refine x_iload_n (dT U_X11_extract 66 rfl) rfl ?_
                    refine x_aaload (i) (dT U_X11_extract 67 rfl) (hset_ne (by omega) (w2.c102)) (Nat.le_of_ble_eq_true rfl) (by decide) rfl (maL_get (by omega)) (Nat.le_of_ble_eq_true rfl) ?_
                    refine x_iload (dT U_X11_extract 68 rfl) rfl ?_
                    refine x_iaload (u) (dT U_X11_extract 69 rfl) (hset_ne (by omega) ((w2.answers i hi))) (by omega) rfl (by rw [(v.R i hi).1.a24.1]; omega) (by rw [(v.R i hi).1.a24.1]; omega) ?_
                    refine x_i2l (dT U_X11_extract 70 rfl) (by unfold xr; omega) ?_
                    refine x_aload_n (dT U_X11_extract 71 rfl) rfl ?_
                    refine x_getfield F_X11_52 (dT U_X11_extract 72 rfl) (hset_ne (by omega) (w2.c70)) (Nat.le_of_ble_eq_true rfl) rfl ?_
                    refine x_iload_n (dT U_X11_extract 73 rfl) rfl ?_
                    refine x_aaload (j) (dT U_X11_extract 74 rfl) (hset_ne (by omega) (w2.c102)) (Nat.le_of_ble_eq_true rfl) (by decide) rfl (maL_get (by omega)) (Nat.le_of_ble_eq_true rfl) ?_
                    refine x_iload (dT U_X11_extract 75 rfl) rfl ?_
                    refine x_iaload (u) (dT U_X11_extract 76 rfl) (hset_ne (by omega) ((w2.answers j hj))) (by omega) rfl (by rw [(v.R j hj).1.a24.1]; omega) (by rw [(v.R j hj).1.a24.1]; omega) ?_
                    refine x_i2l (dT U_X11_extract 77 rfl) (by unfold xr; omega) ?_
                    refine x_lsub (dT U_X11_extract 78 rfl) ?_
                    refine x_invokevirtual (rc' := rc) (rs' := rs) (rc2 := 0) (rs2 := 0) (As := [_]) (st := _) M_X11_f K_X11_156 (dT U_X11_extract 79 rfl) rfl rfl (by decide) rfl rfl (hset_ne (by omega) (w2.c70)) (Nat.le_of_ble_eq_true rfl) (by decide) rfl (Nat.le_of_ble_eq_true rfl) rfl (by decide) (Nat.le_of_ble_eq_true rfl) rfl rfl ?_
                    refine S_X11_f (MP.set (by omega) (w2.mp)) v.p (by unfold xrl; omega) ?_
                    refine xRet_some ?_
                    refine x_iload (dT U_X11_extract 80 rfl) rfl ?_
                    refine x_invokevirtual (rc' := rc) (rs' := rs) (rc2 := 0) (rs2 := 0) (As := [_, _]) (st := _) M_X11_over K_X11_193 (dT U_X11_extract 81 rfl) rfl rfl (by decide) rfl rfl (hset_ne (by omega) (w2.c70)) (Nat.le_of_ble_eq_true rfl) (by decide) rfl (Nat.le_of_ble_eq_true rfl) rfl (by decide) (Nat.le_of_ble_eq_true rfl) rfl rfl ?_
                    refine S_overI (MP.set (by omega) (w2.mp)) v.p (modb (by omega)) gpb ?_
                    rw [ml_l]
                    refine xRet_some ?_
                    refine x_iastore (u) (dT U_X11_extract 82 rfl) (hset_eq (w2.rows t ht)) (by omega) rfl (by rw [fillL_len, (v.rw t ht).1]; omega) (by rw [fillL_len, (v.rw t ht).1]; omega) ?_
                    rw [List.set_set]
                    refine x_iinc (ls' := [some (.ref _), some (vi _), some (vi _), some (vi _), some (vi _), some (vi _)]) (dT U_X11_extract 83 rfl) (by decide) rfl rfl ?_
                    refine x_goto (tgt := 98) (dT U_X11_extract 84 rfl) (by decide) ?_
                    exact ih (u + 1) (by omega)
              have q := L 8 0 (by omega)
              rw [show fillL (fun u => (((σ.R i).answer.getD u 0 - (σ.R j).answer.getD u 0) * (iv σ.p (((σ.R i).c - (σ.R j).c) % (σ.p : Int)).toNat : Int)) % (σ.p : Int)) (σ.rw t) 0 = σ.rw t from rfl, hset_self (w2.rows t ht)] at q
              exact q
            · refine xRet_some ?_
              refine x_if_eqj (tgt := 64) (dT U_X11_extract 29 rfl) (by decide) (by decide) ?_
              refine x_iconst (dT U_X11_extract 32 rfl) ?_
              refine x_iconst (dT U_X11_extract 33 rfl) ?_
              refine x_invokevirtual (rc' := rc) (rs' := rs) (rc2 := 0) (rs2 := 0) (As := [_, _]) (st := _) M_X11_lets K_X11_167 (dT U_X11_extract 34 rfl) rfl rfl (by decide) rfl rfl w1.c70 (Nat.le_of_ble_eq_true rfl) (by decide) rfl (Nat.le_of_ble_eq_true rfl) rfl (by decide) (Nat.le_of_ble_eq_true rfl) rfl rfl ?_
              refine S_X11_lets0 w1 (fun h2 g2 w2 => ?_)
              refine xRet_some ?_
              refine x_if_nen (tgt := 74) (dT U_X11_extract 35 rfl) (by decide) (by decide) ?_
              refine x_iconst (dT U_X11_extract 36 rfl) ?_
              refine x_ireturn (dT U_X11_extract 37 rfl) rfl ?_
              exact e2 (by omega) (fun z => by first | exact ai z.1 | exact aj z.2.1 | exact fk z) _ _ (Ag.tr (Ag.tr (Ag.rf 70 142 h) (g1.w (by omega))) (g2.w (by omega))) w2 (by unfold xr; omega)
          · refine xRet_some ?_
            refine x_if_eqj (tgt := 64) (dT U_X11_extract 24 rfl) (by decide) (by decide) ?_
            refine x_iconst (dT U_X11_extract 32 rfl) ?_
            refine x_iconst (dT U_X11_extract 33 rfl) ?_
            refine x_invokevirtual (rc' := rc) (rs' := rs) (rc2 := 0) (rs2 := 0) (As := [_, _]) (st := _) M_X11_lets K_X11_167 (dT U_X11_extract 34 rfl) rfl rfl (by decide) rfl rfl w1.c70 (Nat.le_of_ble_eq_true rfl) (by decide) rfl (Nat.le_of_ble_eq_true rfl) rfl (by decide) (Nat.le_of_ble_eq_true rfl) rfl rfl ?_
            refine S_X11_lets0 w1 (fun h2 g2 w2 => ?_)
            refine xRet_some ?_
            refine x_if_nen (tgt := 74) (dT U_X11_extract 35 rfl) (by decide) (by decide) ?_
            refine x_iconst (dT U_X11_extract 36 rfl) ?_
            refine x_ireturn (dT U_X11_extract 37 rfl) rfl ?_
            exact e2 (by omega) (fun z => by first | exact ai z.1 | exact aj z.2.1 | exact fk z) _ _ (Ag.tr (Ag.tr (Ag.rf 70 142 h) (g1.w (by omega))) (g2.w (by omega))) w2 (by unfold xr; omega)
        · refine xRet_some ?_
          refine x_if_eqj (tgt := 64) (dT U_X11_extract 20 rfl) (by decide) (by decide) ?_
          refine x_iconst (dT U_X11_extract 32 rfl) ?_
          refine x_iconst (dT U_X11_extract 33 rfl) ?_
          refine x_invokevirtual (rc' := rc) (rs' := rs) (rc2 := 0) (rs2 := 0) (As := [_, _]) (st := _) M_X11_lets K_X11_167 (dT U_X11_extract 34 rfl) rfl rfl (by decide) rfl rfl w1.c70 (Nat.le_of_ble_eq_true rfl) (by decide) rfl (Nat.le_of_ble_eq_true rfl) rfl (by decide) (Nat.le_of_ble_eq_true rfl) rfl rfl ?_
          refine S_X11_lets0 w1 (fun h2 g2 w2 => ?_)
          refine xRet_some ?_
          refine x_if_nen (tgt := 74) (dT U_X11_extract 35 rfl) (by decide) (by decide) ?_
          refine x_iconst (dT U_X11_extract 36 rfl) ?_
          refine x_ireturn (dT U_X11_extract 37 rfl) rfl ?_
          exact e2 (by omega) (fun z => by first | exact ai z.1 | exact aj z.2.1 | exact fk z) _ _ (Ag.tr (Ag.tr (Ag.rf 70 142 h) (g1.w (by omega))) (g2.w (by omega))) w2 (by unfold xr; omega)
      · refine xRet_some ?_
        refine x_if_eqj (tgt := 26) (dT U_X11_extract 9 rfl) (by decide) (by decide) ?_
        refine x_iconst (dT U_X11_extract 12 rfl) ?_
        refine x_iconst (dT U_X11_extract 13 rfl) ?_
        refine x_invokevirtual (rc' := rc) (rs' := rs) (rc2 := 0) (rs2 := 0) (As := [_, _]) (st := _) M_X11_lets K_X11_167 (dT U_X11_extract 14 rfl) rfl rfl (by decide) rfl rfl w.c70 (Nat.le_of_ble_eq_true rfl) (by decide) rfl (Nat.le_of_ble_eq_true rfl) rfl (by decide) (Nat.le_of_ble_eq_true rfl) rfl rfl ?_
        refine S_X11_lets0 w (fun h1 g1 w1 => ?_)
        refine xRet_some ?_
        refine x_if_eqj (tgt := 72) (dT U_X11_extract 15 rfl) (by decide) (by decide) ?_
        refine x_iconst (dT U_X11_extract 36 rfl) ?_
        refine x_ireturn (dT U_X11_extract 37 rfl) rfl ?_
        exact e1 (by omega) _ _ (Ag.tr (Ag.rf 70 142 h) (g1.w (by omega))) w1 (by unfold xr; omega)
    · refine xRet_some ?_
      refine x_if_eqj (tgt := 26) (dT U_X11_extract 6 rfl) (by decide) (by decide) ?_
      refine x_iconst (dT U_X11_extract 12 rfl) ?_
      refine x_iconst (dT U_X11_extract 13 rfl) ?_
      refine x_invokevirtual (rc' := rc) (rs' := rs) (rc2 := 0) (rs2 := 0) (As := [_, _]) (st := _) M_X11_lets K_X11_167 (dT U_X11_extract 14 rfl) rfl rfl (by decide) rfl rfl w.c70 (Nat.le_of_ble_eq_true rfl) (by decide) rfl (Nat.le_of_ble_eq_true rfl) rfl (by decide) (Nat.le_of_ble_eq_true rfl) rfl rfl ?_
      refine S_X11_lets0 w (fun h1 g1 w1 => ?_)
      refine xRet_some ?_
      refine x_if_eqj (tgt := 72) (dT U_X11_extract 15 rfl) (by decide) (by decide) ?_
      refine x_iconst (dT U_X11_extract 36 rfl) ?_
      refine x_ireturn (dT U_X11_extract 37 rfl) rfl ?_
      exact e1 (by omega) _ _ (Ag.tr (Ag.rf 70 142 h) (g1.w (by omega))) w1 (by unfold xr; omega)
  · refine xRet_some ?_
    refine x_if_eqj (tgt := 26) (dT U_X11_extract 3 rfl) (by decide) (by decide) ?_
    refine x_iconst (dT U_X11_extract 12 rfl) ?_
    refine x_iconst (dT U_X11_extract 13 rfl) ?_
    refine x_invokevirtual (rc' := rc) (rs' := rs) (rc2 := 0) (rs2 := 0) (As := [_, _]) (st := _) M_X11_lets K_X11_167 (dT U_X11_extract 14 rfl) rfl rfl (by decide) rfl rfl w.c70 (Nat.le_of_ble_eq_true rfl) (by decide) rfl (Nat.le_of_ble_eq_true rfl) rfl (by decide) (Nat.le_of_ble_eq_true rfl) rfl rfl ?_
    refine S_X11_lets0 w (fun h1 g1 w1 => ?_)
    refine xRet_some ?_
    refine x_if_eqj (tgt := 72) (dT U_X11_extract 15 rfl) (by decide) (by decide) ?_
    refine x_iconst (dT U_X11_extract 36 rfl) ?_
    refine x_ireturn (dT U_X11_extract 37 rfl) rfl ?_
    exact e1 (by omega) _ _ (Ag.tr (Ag.rf 70 142 h) (g1.w (by omega))) w1 (by unfold xr; omega)

set_option maxRecDepth 20000 in
set_option maxHeartbeats 1000000 in
theorem S_X11_maskFor {G : xG} {d rc rs : Nat} {ex : Bool} {h : xH} {Q : xQ} {σ : St} {cc0 : Int} {rr : Nat} {ss : Int} {run secret blind to : Int} (w : MX σ cc0 rr ss h) (v : INV σ) (h_run : xr run) (h_secret : xr secret) (h_blind : xr blind) (h_to : xr to) (e1 : ¬ (inb run 4 ∧ inb secret 8 ∧ inb to 8) → ∀ h2 z, Ag 70 142 h h2 → MX σ 1 rr ss h2 → xr z → Q (.inl (some (vi z))) ex h2) (e2 : (inb run 4 ∧ inb secret 8 ∧ inb to 8) → ¬ (inb blind σ.p) → ∀ h2 z, Ag 70 142 h h2 → MX σ 2 rr ss h2 → xr z → Q (.inl (some (vi z))) ex h2) (e3 : (inb run 4 ∧ inb secret 8 ∧ inb to 8) → (inb blind σ.p) → ¬ (acc σ.p (σ.R run.toNat) ∧ suit σ.p (σ.R run.toNat) (σ.rw secret.toNat) blind) → ∀ h2 z, Ag 70 142 h h2 → MX σ 3 rr ss h2 → xr z → Q (.inl (some (vi z))) ex h2) (k : (inb run 4 ∧ inb secret 8 ∧ inb to 8) → (inb blind σ.p) → (acc σ.p (σ.R run.toNat) ∧ suit σ.p (σ.R run.toNat) (σ.rw secret.toNat) blind) → ∀ h2 r2 s2, Ag 70 142 h h2 → MX (σ.sRow to.toNat (tab (fun t => ((σ.R run.toNat).answer.getD t 0 + -(σ.R run.toNat).c * (σ.rw secret.toNat).getD t 0) % (σ.p : Int)) 8)) 0 r2 s2 h2 → Q (.inl (some (vi (((σ.R run.toNat).t - (σ.R run.toNat).c * blind) % (σ.p : Int))))) ex h2) : X G m_X11_maskFor (d + 3) rc rs ex 0 (xe m_X11_maskFor.2.2.1 [.ref 70, vi run, vi secret, vi blind, vi to]) [] h Q := by
  show X G m_X11_maskFor _ _ _ _ 0 [some (.ref 70), some (vi run), some (vi secret), some (vi blind), some (vi to), none] [] h Q
  have hp := PRb v.p
  have hq := gq_b v.p
  refine x_aload_n (dT U_X11_maskFor 0 rfl) rfl ?_
  refine x_iload_n (dT U_X11_maskFor 1 rfl) rfl ?_
  refine x_invokestatic (rc' := rc) (rs' := rs) (rc2 := 0) (rs2 := 0) (As := [_]) (st := _) M_X11_isRun K_X11_244 (dT U_X11_maskFor 2 rfl) rfl rfl rfl rfl (Nat.le_of_ble_eq_true rfl) rfl (by decide) (Nat.le_of_ble_eq_true rfl) rfl rfl ?_
  refine S_X11_isRun h_run (fun q1 => ?_) (fun q1 => ?_)
  · refine xRet_some ?_
    refine x_if_eqn (tgt := 27) (dT U_X11_maskFor 3 rfl) (by decide) (by decide) ?_
    refine x_iload_n (dT U_X11_maskFor 4 rfl) rfl ?_
    refine x_invokestatic (rc' := rc) (rs' := rs) (rc2 := 0) (rs2 := 0) (As := [_]) (st := _) M_X11_isRow K_X11_164 (dT U_X11_maskFor 5 rfl) rfl rfl rfl rfl (Nat.le_of_ble_eq_true rfl) rfl (by decide) (Nat.le_of_ble_eq_true rfl) rfl rfl ?_
    refine S_X11_isRow h_secret (fun q2 => ?_) (fun q2 => ?_)
    · refine xRet_some ?_
      refine x_if_eqn (tgt := 27) (dT U_X11_maskFor 6 rfl) (by decide) (by decide) ?_
      refine x_iload (dT U_X11_maskFor 7 rfl) rfl ?_
      refine x_invokestatic (rc' := rc) (rs' := rs) (rc2 := 0) (rs2 := 0) (As := [_]) (st := _) M_X11_isRow K_X11_164 (dT U_X11_maskFor 8 rfl) rfl rfl rfl rfl (Nat.le_of_ble_eq_true rfl) rfl (by decide) (Nat.le_of_ble_eq_true rfl) rfl rfl ?_
      refine S_X11_isRow h_to (fun q3 => ?_) (fun q3 => ?_)
      · refine xRet_some ?_
        refine x_if_eqn (tgt := 27) (dT U_X11_maskFor 9 rfl) (by decide) (by decide) ?_
        refine x_iconst (dT U_X11_maskFor 10 rfl) ?_
        refine x_goto (tgt := 28) (dT U_X11_maskFor 11 rfl) (by decide) ?_
        refine x_iconst (dT U_X11_maskFor 13 rfl) ?_
        refine x_invokevirtual (rc' := rc) (rs' := rs) (rc2 := 0) (rs2 := 0) (As := [_, _]) (st := _) M_X11_lets K_X11_167 (dT U_X11_maskFor 14 rfl) rfl rfl (by decide) rfl rfl w.c70 (Nat.le_of_ble_eq_true rfl) (by decide) rfl (Nat.le_of_ble_eq_true rfl) rfl (by decide) (Nat.le_of_ble_eq_true rfl) rfl rfl ?_
        refine S_X11_lets1 w (fun h1 g1 w1 => ?_)
        refine xRet_some ?_
        obtain ⟨i, hi, rfl⟩ : ∃ j : Nat, j < 4 ∧ run = (j : Int) := ⟨run.toNat, by omega, by omega⟩
        try simp only [tnc] at e1 e2 e3 k
        obtain ⟨j, hj, rfl⟩ : ∃ j : Nat, j < 8 ∧ secret = (j : Int) := ⟨secret.toNat, by omega, by omega⟩
        try simp only [tnc] at e1 e2 e3 k
        obtain ⟨t, ht, rfl⟩ : ∃ j : Nat, j < 8 ∧ to = (j : Int) := ⟨to.toNat, by omega, by omega⟩
        try simp only [tnc] at e1 e2 e3 k
        refine x_if_eqn (tgt := 79) (dT U_X11_maskFor 15 rfl) (by decide) (by decide) ?_
        refine x_aload_n (dT U_X11_maskFor 16 rfl) rfl ?_
        refine x_aload_n (dT U_X11_maskFor 17 rfl) rfl ?_
        refine x_iload_n (dT U_X11_maskFor 18 rfl) rfl ?_
        refine x_invokevirtual (rc' := rc) (rs' := rs) (rc2 := 0) (rs2 := 0) (As := [_]) (st := _) M_X11_isNumber K_X11_174 (dT U_X11_maskFor 19 rfl) rfl rfl (by decide) rfl rfl w1.c70 (Nat.le_of_ble_eq_true rfl) (by decide) rfl (Nat.le_of_ble_eq_true rfl) rfl (by decide) (Nat.le_of_ble_eq_true rfl) rfl rfl ?_
        refine S_X11_isNumber (w1.mp) v.p h_blind (fun q4 => ?_) (fun q4 => ?_)
        · refine xRet_some ?_
          refine x_iconst (dT U_X11_maskFor 20 rfl) ?_
          refine x_invokevirtual (rc' := rc) (rs' := rs) (rc2 := 0) (rs2 := 0) (As := [_, _]) (st := _) M_X11_lets K_X11_167 (dT U_X11_maskFor 21 rfl) rfl rfl (by decide) rfl rfl w1.c70 (Nat.le_of_ble_eq_true rfl) (by decide) rfl (Nat.le_of_ble_eq_true rfl) rfl (by decide) (Nat.le_of_ble_eq_true rfl) rfl rfl ?_
          refine S_X11_lets1 w1 (fun h2 g2 w2 => ?_)
          refine xRet_some ?_
          refine x_if_eqn (tgt := 79) (dT U_X11_maskFor 22 rfl) (by decide) (by decide) ?_
          refine x_aload_n (dT U_X11_maskFor 23 rfl) rfl ?_
          refine x_aload_n (dT U_X11_maskFor 24 rfl) rfl ?_
          refine x_iload_n (dT U_X11_maskFor 25 rfl) rfl ?_
          refine x_invokevirtual (rc' := rc) (rs' := rs) (rc2 := 0) (rs2 := 0) (As := [_]) (st := _) M_X11_accepted K_X11_254 (dT U_X11_maskFor 26 rfl) rfl rfl (by decide) rfl rfl w2.c70 (Nat.le_of_ble_eq_true rfl) (by decide) rfl (Nat.le_of_ble_eq_true rfl) rfl (by decide) (Nat.le_of_ble_eq_true rfl) rfl rfl ?_
          refine S_X11_accepted w2 v hi (fun ai => ?_) (fun ai => ?_)
          · refine xRet_some ?_
            refine x_if_eqn (tgt := 71) (dT U_X11_maskFor 27 rfl) (by decide) (by decide) ?_
            refine x_aload_n (dT U_X11_maskFor 28 rfl) rfl ?_
            refine x_iload_n (dT U_X11_maskFor 29 rfl) rfl ?_
            refine x_iload_n (dT U_X11_maskFor 30 rfl) rfl ?_
            refine x_iload_n (dT U_X11_maskFor 31 rfl) rfl ?_
            refine x_invokevirtual (rc' := rc) (rs' := rs) (rc2 := 0) (rs2 := 0) (As := [_, _, _]) (st := _) M_X11_fulfilled K_X11_264 (dT U_X11_maskFor 32 rfl) rfl rfl (by decide) rfl rfl w2.c70 (Nat.le_of_ble_eq_true rfl) (by decide) rfl (Nat.le_of_ble_eq_true rfl) rfl (by decide) (Nat.le_of_ble_eq_true rfl) rfl rfl ?_
            refine S_X11_fulfilled w2 v hi hj (by omega) (by have := ai.1; omega) (fun su => ?_) (fun su => ?_)
            · refine xRet_some ?_
              refine x_if_eqn (tgt := 71) (dT U_X11_maskFor 33 rfl) (by decide) (by decide) ?_
              refine x_iconst (dT U_X11_maskFor 34 rfl) ?_
              refine x_goto (tgt := 72) (dT U_X11_maskFor 35 rfl) (by decide) ?_
              refine x_iconst (dT U_X11_maskFor 37 rfl) ?_
              refine x_invokevirtual (rc' := rc) (rs' := rs) (rc2 := 0) (rs2 := 0) (As := [_, _]) (st := _) M_X11_lets K_X11_167 (dT U_X11_maskFor 38 rfl) rfl rfl (by decide) rfl rfl w2.c70 (Nat.le_of_ble_eq_true rfl) (by decide) rfl (Nat.le_of_ble_eq_true rfl) rfl (by decide) (Nat.le_of_ble_eq_true rfl) rfl rfl ?_
              refine S_X11_lets1 w2 (fun h3 g3 w3 => ?_)
              refine xRet_some ?_
              refine x_if_nej (tgt := 81) (dT U_X11_maskFor 39 rfl) (by decide) (by decide) ?_
              have oki := (v.R i hi).1
              have sti : (σ.R i).st = 4 := ai.1
              have sei := oki.e (by omega)
              have svi := oki.v (by omega)
              have sfai := oki.fa (by omega)
              have swi := oki.w (by omega)
              have sci := oki.c (by omega)
              have sxi := oki.t (by omega)
              have xm9 := mulb sci (show 0 ≤ blind ∧ blind < (σ.p : Int) by omega) (by omega)
              refine x_iconst (dT U_X11_maskFor 42 rfl) ?_
              refine x_istore (ls' := [some (.ref _), some (vi _), some (vi _), some (vi _), some (vi _), some (vi _)]) (dT U_X11_maskFor 43 rfl) (by decide) rfl ?_
              have L : ∀ (n u : Nat), u + n = 8 → X G m_X11_maskFor (d + 3) rc rs ex 84 [some (.ref 70), some (vi (i : Int)), some (vi (j : Int)), some (vi blind), some (vi (t : Int)), some (vi (u : Int))] [] (h3.set (74 + t) (cA 0 (fillL (fun u => ((σ.R i).answer.getD u 0 + -(σ.R i).c * (σ.rw j).getD u 0) % (σ.p : Int)) (σ.rw t) u))) Q := by
                intro n
                induction n with
                | zero =>
                  intro u hi_ 
                  refine x_iload (dT U_X11_maskFor 44 rfl) rfl ?_
                  refine x_bipush (dT U_X11_maskFor 45 rfl) (by decide) ?_
                  refine x_icmp_ge (tgt := 140) (dT U_X11_maskFor 46 rfl) (by decide) (by unfold xr; omega) (by unfold xr at *; omega) (fun c88 => ?_) (fun c88 => ?_)
                  · skip
                    have e : u = 8 := by omega
                    subst e
                    rw [fillL_all (v.rw t ht).1]
                    refine x_aload_n (dT U_X11_maskFor 78 rfl) rfl ?_
                    refine x_aload_n (dT U_X11_maskFor 79 rfl) rfl ?_
                    refine x_getfield F_X11_55 (dT U_X11_maskFor 80 rfl) (hset_ne (by omega) (w3.c70)) (Nat.le_of_ble_eq_true rfl) rfl ?_
                    refine x_iload_n (dT U_X11_maskFor 81 rfl) rfl ?_
                    refine x_ialoadv (i) (dT U_X11_maskFor 82 rfl) (hset_ne (by omega) (w3.c108)) (Nat.le_of_ble_eq_true rfl) rfl (show i < 5 by omega) (show 5 < 2147483648 by decide) (show _ = (σ.R i).t from t5_get hi) ?_
                    refine x_i2l (dT U_X11_maskFor 83 rfl) (by unfold xr; omega) ?_
                    refine x_aload_n (dT U_X11_maskFor 84 rfl) rfl ?_
                    refine x_getfield F_X11_49 (dT U_X11_maskFor 85 rfl) (hset_ne (by omega) (w3.c70)) (Nat.le_of_ble_eq_true rfl) rfl ?_
                    refine x_iload_n (dT U_X11_maskFor 86 rfl) rfl ?_
                    refine x_ialoadv (i) (dT U_X11_maskFor 87 rfl) (hset_ne (by omega) (w3.c101)) (Nat.le_of_ble_eq_true rfl) rfl (show i < 5 by omega) (show 5 < 2147483648 by decide) (show _ = (σ.R i).c from t5_get hi) ?_
                    refine x_i2l (dT U_X11_maskFor 88 rfl) (by unfold xr; omega) ?_
                    refine x_iload_n (dT U_X11_maskFor 89 rfl) rfl ?_
                    refine x_i2l (dT U_X11_maskFor 90 rfl) (by unfold xr; omega) ?_
                    refine x_lmul (dT U_X11_maskFor 91 rfl) ?_
                    refine x_lsub (dT U_X11_maskFor 92 rfl) ?_
                    refine x_invokevirtual (rc' := rc) (rs' := rs) (rc2 := 0) (rs2 := 0) (As := [_]) (st := _) M_X11_f K_X11_156 (dT U_X11_maskFor 93 rfl) rfl rfl (by decide) rfl rfl (hset_ne (by omega) (w3.c70)) (Nat.le_of_ble_eq_true rfl) (by decide) rfl (Nat.le_of_ble_eq_true rfl) rfl (by decide) (Nat.le_of_ble_eq_true rfl) rfl rfl ?_
                    refine S_X11_f (MP.set (by omega) (w3.mp)) v.p (by unfold xrl; omega) ?_
                    refine xRet_some ?_
                    refine x_ireturn (dT U_X11_maskFor 94 rfl) rfl ?_
                    exact k (by omega) (by omega) ⟨ai, su⟩ _ _ _ ((Ag.tr (Ag.tr (Ag.tr (Ag.rf 70 142 h) (g1.w (by omega))) (g2.w (by omega))) (g3.w (by omega))).set (by omega)) (w3.row (i := t) (l := tab (fun u => ((σ.R i).answer.getD u 0 + -(σ.R i).c * (σ.rw j).getD u 0) % (σ.p : Int)) 8) (fun a ha => by rw [hset_fr (by omega)]) ht (hset_eq (w3.rows t ht)))
                  · exfalso; omega
                | succ n ih =>
                  intro u hi_ 
                  obtain ⟨bl2, eb1, eb2, eb3⟩ := hset_al (f := (fun u => ((σ.R i).answer.getD u 0 + -(σ.R i).c * (σ.rw j).getD u 0) % (σ.p : Int))) (i := u) (w3.rows j hj) (w3.rows t ht)
                  have xa := oki.a24.2 u
                  have xb := (v.rw j hj).2 u
                  have xm := mulb sci xb (by omega)
                  refine x_iload (dT U_X11_maskFor 44 rfl) rfl ?_
                  refine x_bipush (dT U_X11_maskFor 45 rfl) (by decide) ?_
                  refine x_icmp_ge (tgt := 140) (dT U_X11_maskFor 46 rfl) (by decide) (by unfold xr; omega) (by unfold xr at *; omega) (fun c88 => ?_) (fun c88 => ?_)
                  · exfalso; omega
                  · skip
                    refine x_aload_n (dT U_X11_maskFor 47 rfl) rfl ?_
                    refine x_getfield F_X11_18 (dT U_X11_maskFor 48 rfl) (hset_ne (by omega) (w3.c70)) (Nat.le_of_ble_eq_true rfl) rfl ?_
                    refine x_iload (dT U_X11_maskFor 49 rfl) rfl ?_
                    refine x_aaload (t) (dT U_X11_maskFor 50 rfl) (hset_ne (by omega) (w3.c73)) (Nat.le_of_ble_eq_true rfl) (by decide) rfl (mrL_get (by omega)) (Nat.le_of_ble_eq_true rfl) ?_
                    refine x_iload (dT U_X11_maskFor 51 rfl) rfl ?_
                    refine x_aload_n (dT U_X11_maskFor 52 rfl) rfl ?_
                    refine x_aload_n (dT U_X11_maskFor 53 rfl) rfl ?_
                    refine x_getfield F_X11_52 (dT U_X11_maskFor 54 rfl) (hset_ne (by omega) (w3.c70)) (Nat.le_of_ble_eq_true rfl) rfl ?_
                    refine x_iload_n (dT U_X11_maskFor 55 rfl) rfl ?_
                    refine x_aaload (i) (dT U_X11_maskFor 56 rfl) (hset_ne (by omega) (w3.c102)) (Nat.le_of_ble_eq_true rfl) (by decide) rfl (maL_get (by omega)) (Nat.le_of_ble_eq_true rfl) ?_
                    refine x_iload (dT U_X11_maskFor 57 rfl) rfl ?_
                    refine x_iaload (u) (dT U_X11_maskFor 58 rfl) (hset_ne (by omega) ((w3.answers i hi))) (by omega) rfl (by rw [(v.R i hi).1.a24.1]; omega) (by rw [(v.R i hi).1.a24.1]; omega) ?_
                    refine x_i2l (dT U_X11_maskFor 59 rfl) (by unfold xr; omega) ?_
                    refine x_aload_n (dT U_X11_maskFor 60 rfl) rfl ?_
                    refine x_getfield F_X11_49 (dT U_X11_maskFor 61 rfl) (hset_ne (by omega) (w3.c70)) (Nat.le_of_ble_eq_true rfl) rfl ?_
                    refine x_iload_n (dT U_X11_maskFor 62 rfl) rfl ?_
                    refine x_ialoadv (i) (dT U_X11_maskFor 63 rfl) (hset_ne (by omega) (w3.c101)) (Nat.le_of_ble_eq_true rfl) rfl (show i < 5 by omega) (show 5 < 2147483648 by decide) (show _ = (σ.R i).c from t5_get hi) ?_
                    refine x_i2l (dT U_X11_maskFor 64 rfl) (by unfold xr; omega) ?_
                    refine x_aload_n (dT U_X11_maskFor 65 rfl) rfl ?_
                    refine x_getfield F_X11_18 (dT U_X11_maskFor 66 rfl) (hset_ne (by omega) (w3.c70)) (Nat.le_of_ble_eq_true rfl) rfl ?_
                    refine x_iload_n (dT U_X11_maskFor 67 rfl) rfl ?_
                    refine x_aaload (j) (dT U_X11_maskFor 68 rfl) (hset_ne (by omega) (w3.c73)) (Nat.le_of_ble_eq_true rfl) (by decide) rfl (mrL_get (by omega)) (Nat.le_of_ble_eq_true rfl) ?_
                    refine x_iload (dT U_X11_maskFor 69 rfl) rfl ?_
                    refine x_ialoadv (u) (dT U_X11_maskFor 70 rfl) eb1 (by omega) rfl (by rw [eb2, (v.rw j hj).1]; omega) (by rw [eb2, (v.rw j hj).1]; omega) (eb3 u (Nat.le_refl u)) ?_
                    refine x_i2l (dT U_X11_maskFor 71 rfl) (by unfold xr; omega) ?_
                    refine x_lmul (dT U_X11_maskFor 72 rfl) ?_
                    refine x_lsub (dT U_X11_maskFor 73 rfl) ?_
                    refine x_invokevirtual (rc' := rc) (rs' := rs) (rc2 := 0) (rs2 := 0) (As := [_]) (st := _) M_X11_f K_X11_156 (dT U_X11_maskFor 74 rfl) rfl rfl (by decide) rfl rfl (hset_ne (by omega) (w3.c70)) (Nat.le_of_ble_eq_true rfl) (by decide) rfl (Nat.le_of_ble_eq_true rfl) rfl (by decide) (Nat.le_of_ble_eq_true rfl) rfl rfl ?_
                    refine S_X11_f (MP.set (by omega) (w3.mp)) v.p (by unfold xrl; omega) ?_
                    rw [show (σ.R i).answer.getD u 0 - (σ.R i).c * (σ.rw j).getD u 0 = (σ.R i).answer.getD u 0 + -(σ.R i).c * (σ.rw j).getD u 0 by rw [Int.neg_mul]; omega]
                    refine xRet_some ?_
                    refine x_iastore (u) (dT U_X11_maskFor 75 rfl) (hset_eq (w3.rows t ht)) (by omega) rfl (by rw [fillL_len, (v.rw t ht).1]; omega) (by rw [fillL_len, (v.rw t ht).1]; omega) ?_
                    rw [List.set_set]
                    refine x_iinc (ls' := [some (.ref _), some (vi _), some (vi _), some (vi _), some (vi _), some (vi _)]) (dT U_X11_maskFor 76 rfl) (by decide) rfl rfl ?_
                    refine x_goto (tgt := 84) (dT U_X11_maskFor 77 rfl) (by decide) ?_
                    exact ih (u + 1) (by omega)
              have q := L 8 0 (by omega)
              rw [show fillL (fun u => ((σ.R i).answer.getD u 0 + -(σ.R i).c * (σ.rw j).getD u 0) % (σ.p : Int)) (σ.rw t) 0 = σ.rw t from rfl, hset_self (w3.rows t ht)] at q
              exact q
            · refine xRet_some ?_
              refine x_if_eqj (tgt := 71) (dT U_X11_maskFor 33 rfl) (by decide) (by decide) ?_
              refine x_iconst (dT U_X11_maskFor 36 rfl) ?_
              refine x_iconst (dT U_X11_maskFor 37 rfl) ?_
              refine x_invokevirtual (rc' := rc) (rs' := rs) (rc2 := 0) (rs2 := 0) (As := [_, _]) (st := _) M_X11_lets K_X11_167 (dT U_X11_maskFor 38 rfl) rfl rfl (by decide) rfl rfl w2.c70 (Nat.le_of_ble_eq_true rfl) (by decide) rfl (Nat.le_of_ble_eq_true rfl) rfl (by decide) (Nat.le_of_ble_eq_true rfl) rfl rfl ?_
              refine S_X11_lets0 w2 (fun h3 g3 w3 => ?_)
              refine xRet_some ?_
              refine x_if_nen (tgt := 81) (dT U_X11_maskFor 39 rfl) (by decide) (by decide) ?_
              refine x_iconst (dT U_X11_maskFor 40 rfl) ?_
              refine x_ireturn (dT U_X11_maskFor 41 rfl) rfl ?_
              exact e3 (by omega) (by omega) (fun z => by first | exact ai z.1 | exact su z.2) _ _ (Ag.tr (Ag.tr (Ag.tr (Ag.rf 70 142 h) (g1.w (by omega))) (g2.w (by omega))) (g3.w (by omega))) w3 (by unfold xr; omega)
          · refine xRet_some ?_
            refine x_if_eqj (tgt := 71) (dT U_X11_maskFor 27 rfl) (by decide) (by decide) ?_
            refine x_iconst (dT U_X11_maskFor 36 rfl) ?_
            refine x_iconst (dT U_X11_maskFor 37 rfl) ?_
            refine x_invokevirtual (rc' := rc) (rs' := rs) (rc2 := 0) (rs2 := 0) (As := [_, _]) (st := _) M_X11_lets K_X11_167 (dT U_X11_maskFor 38 rfl) rfl rfl (by decide) rfl rfl w2.c70 (Nat.le_of_ble_eq_true rfl) (by decide) rfl (Nat.le_of_ble_eq_true rfl) rfl (by decide) (Nat.le_of_ble_eq_true rfl) rfl rfl ?_
            refine S_X11_lets0 w2 (fun h3 g3 w3 => ?_)
            refine xRet_some ?_
            refine x_if_nen (tgt := 81) (dT U_X11_maskFor 39 rfl) (by decide) (by decide) ?_
            refine x_iconst (dT U_X11_maskFor 40 rfl) ?_
            refine x_ireturn (dT U_X11_maskFor 41 rfl) rfl ?_
            exact e3 (by omega) (by omega) (fun z => by first | exact ai z.1 | exact su z.2) _ _ (Ag.tr (Ag.tr (Ag.tr (Ag.rf 70 142 h) (g1.w (by omega))) (g2.w (by omega))) (g3.w (by omega))) w3 (by unfold xr; omega)
        · refine xRet_some ?_
          refine x_iconst (dT U_X11_maskFor 20 rfl) ?_
          refine x_invokevirtual (rc' := rc) (rs' := rs) (rc2 := 0) (rs2 := 0) (As := [_, _]) (st := _) M_X11_lets K_X11_167 (dT U_X11_maskFor 21 rfl) rfl rfl (by decide) rfl rfl w1.c70 (Nat.le_of_ble_eq_true rfl) (by decide) rfl (Nat.le_of_ble_eq_true rfl) rfl (by decide) (Nat.le_of_ble_eq_true rfl) rfl rfl ?_
          refine S_X11_lets0 w1 (fun h2 g2 w2 => ?_)
          refine xRet_some ?_
          refine x_if_eqj (tgt := 79) (dT U_X11_maskFor 22 rfl) (by decide) (by decide) ?_
          refine x_iconst (dT U_X11_maskFor 40 rfl) ?_
          refine x_ireturn (dT U_X11_maskFor 41 rfl) rfl ?_
          exact e2 (by omega) (by omega) _ _ (Ag.tr (Ag.tr (Ag.rf 70 142 h) (g1.w (by omega))) (g2.w (by omega))) w2 (by unfold xr; omega)
      · refine xRet_some ?_
        refine x_if_eqj (tgt := 27) (dT U_X11_maskFor 9 rfl) (by decide) (by decide) ?_
        refine x_iconst (dT U_X11_maskFor 12 rfl) ?_
        refine x_iconst (dT U_X11_maskFor 13 rfl) ?_
        refine x_invokevirtual (rc' := rc) (rs' := rs) (rc2 := 0) (rs2 := 0) (As := [_, _]) (st := _) M_X11_lets K_X11_167 (dT U_X11_maskFor 14 rfl) rfl rfl (by decide) rfl rfl w.c70 (Nat.le_of_ble_eq_true rfl) (by decide) rfl (Nat.le_of_ble_eq_true rfl) rfl (by decide) (Nat.le_of_ble_eq_true rfl) rfl rfl ?_
        refine S_X11_lets0 w (fun h1 g1 w1 => ?_)
        refine xRet_some ?_
        refine x_if_eqj (tgt := 79) (dT U_X11_maskFor 15 rfl) (by decide) (by decide) ?_
        refine x_iconst (dT U_X11_maskFor 40 rfl) ?_
        refine x_ireturn (dT U_X11_maskFor 41 rfl) rfl ?_
        exact e1 (by omega) _ _ (Ag.tr (Ag.rf 70 142 h) (g1.w (by omega))) w1 (by unfold xr; omega)
    · refine xRet_some ?_
      refine x_if_eqj (tgt := 27) (dT U_X11_maskFor 6 rfl) (by decide) (by decide) ?_
      refine x_iconst (dT U_X11_maskFor 12 rfl) ?_
      refine x_iconst (dT U_X11_maskFor 13 rfl) ?_
      refine x_invokevirtual (rc' := rc) (rs' := rs) (rc2 := 0) (rs2 := 0) (As := [_, _]) (st := _) M_X11_lets K_X11_167 (dT U_X11_maskFor 14 rfl) rfl rfl (by decide) rfl rfl w.c70 (Nat.le_of_ble_eq_true rfl) (by decide) rfl (Nat.le_of_ble_eq_true rfl) rfl (by decide) (Nat.le_of_ble_eq_true rfl) rfl rfl ?_
      refine S_X11_lets0 w (fun h1 g1 w1 => ?_)
      refine xRet_some ?_
      refine x_if_eqj (tgt := 79) (dT U_X11_maskFor 15 rfl) (by decide) (by decide) ?_
      refine x_iconst (dT U_X11_maskFor 40 rfl) ?_
      refine x_ireturn (dT U_X11_maskFor 41 rfl) rfl ?_
      exact e1 (by omega) _ _ (Ag.tr (Ag.rf 70 142 h) (g1.w (by omega))) w1 (by unfold xr; omega)
  · refine xRet_some ?_
    refine x_if_eqj (tgt := 27) (dT U_X11_maskFor 3 rfl) (by decide) (by decide) ?_
    refine x_iconst (dT U_X11_maskFor 12 rfl) ?_
    refine x_iconst (dT U_X11_maskFor 13 rfl) ?_
    refine x_invokevirtual (rc' := rc) (rs' := rs) (rc2 := 0) (rs2 := 0) (As := [_, _]) (st := _) M_X11_lets K_X11_167 (dT U_X11_maskFor 14 rfl) rfl rfl (by decide) rfl rfl w.c70 (Nat.le_of_ble_eq_true rfl) (by decide) rfl (Nat.le_of_ble_eq_true rfl) rfl (by decide) (Nat.le_of_ble_eq_true rfl) rfl rfl ?_
    refine S_X11_lets0 w (fun h1 g1 w1 => ?_)
    refine xRet_some ?_
    refine x_if_eqj (tgt := 79) (dT U_X11_maskFor 15 rfl) (by decide) (by decide) ?_
    refine x_iconst (dT U_X11_maskFor 40 rfl) ?_
    refine x_ireturn (dT U_X11_maskFor 41 rfl) rfl ?_
    exact e1 (by omega) _ _ (Ag.tr (Ag.rf 70 142 h) (g1.w (by omega))) w1 (by unfold xr; omega)

set_option maxRecDepth 20000 in
set_option maxHeartbeats 1000000 in
theorem S_X11_challenges {G : xG} {d rc rs : Nat} {ex : Bool} {h : xH} {Q : xQ} {σ : St} {cc0 : Int} {rr : Nat} {ss : Int} {run : Int} (w : MX σ cc0 rr ss h) (v : INV σ) (h_run : xr run) (e1 : ¬ (inb run 4) → ∀ h2 z, Ag 70 142 h h2 → MX σ 1 rr ss h2 → xr z → Q (.inl (some (vi z))) ex h2) (e2 : (inb run 4) → ¬ (2 ≤ (σ.R run.toNat).st) → ∀ h2 z, Ag 70 142 h h2 → MX σ 2 rr ss h2 → xr z → Q (.inl (some (vi z))) ex h2) (k : (inb run 4) → (2 ≤ (σ.R run.toNat).st) → ∀ h2 r2 s2, Ag 70 142 h h2 → MX σ 0 r2 s2 h2 → Q (.inl (some (vi (answ σ.p (σ.R run.toNat))))) ex h2) : X G m_X11_challenges (d + 2) rc rs ex 0 (xe m_X11_challenges.2.2.1 [.ref 70, vi run]) [] h Q := by
  show X G m_X11_challenges _ _ _ _ 0 [some (.ref 70), some (vi run), none, none] [] h Q
  have hp := PRb v.p
  have hq := gq_b v.p
  refine x_aload_n (dT U_X11_challenges 0 rfl) rfl ?_
  refine x_iload_n (dT U_X11_challenges 1 rfl) rfl ?_
  refine x_invokestatic (rc' := rc) (rs' := rs) (rc2 := 0) (rs2 := 0) (As := [_]) (st := _) M_X11_isRun K_X11_244 (dT U_X11_challenges 2 rfl) rfl rfl rfl rfl (Nat.le_of_ble_eq_true rfl) rfl (by decide) (Nat.le_of_ble_eq_true rfl) rfl rfl ?_
  refine S_X11_isRun h_run (fun q1 => ?_) (fun q1 => ?_)
  · refine xRet_some ?_
    refine x_iconst (dT U_X11_challenges 3 rfl) ?_
    refine x_invokevirtual (rc' := rc) (rs' := rs) (rc2 := 0) (rs2 := 0) (As := [_, _]) (st := _) M_X11_lets K_X11_167 (dT U_X11_challenges 4 rfl) rfl rfl (by decide) rfl rfl w.c70 (Nat.le_of_ble_eq_true rfl) (by decide) rfl (Nat.le_of_ble_eq_true rfl) rfl (by decide) (Nat.le_of_ble_eq_true rfl) rfl rfl ?_
    refine S_X11_lets1 w (fun h1 g1 w1 => ?_)
    refine xRet_some ?_
    obtain ⟨i, hi, rfl⟩ : ∃ j : Nat, j < 4 ∧ run = (j : Int) := ⟨run.toNat, by omega, by omega⟩
    try simp only [tnc] at e1 e2 k
    refine x_if_eqn (tgt := 35) (dT U_X11_challenges 5 rfl) (by decide) (by decide) ?_
    refine x_aload_n (dT U_X11_challenges 6 rfl) rfl ?_
    refine x_aload_n (dT U_X11_challenges 7 rfl) rfl ?_
    refine x_getfield F_X11_21 (dT U_X11_challenges 8 rfl) w1.c70 (Nat.le_of_ble_eq_true rfl) rfl ?_
    refine x_iload_n (dT U_X11_challenges 9 rfl) rfl ?_
    refine x_ialoadv (i) (dT U_X11_challenges 10 rfl) w1.c82 (Nat.le_of_ble_eq_true rfl) rfl (show i < 5 by omega) (show 5 < 2147483648 by decide) (show _ = ((σ.R i).st : Int) from t5_get hi) ?_
    refine x_iconst (dT U_X11_challenges 11 rfl) ?_
    have s4i := (v.R i hi).1.s4
    refine x_icmp_le (tgt := 27) (dT U_X11_challenges 12 rfl) (by decide) (by unfold xr; omega) (by unfold xr; omega) (fun c20 => ?_) (fun c20 => ?_)
    · skip
      refine x_iconst (dT U_X11_challenges 15 rfl) ?_
      refine x_iconst (dT U_X11_challenges 16 rfl) ?_
      refine x_invokevirtual (rc' := rc) (rs' := rs) (rc2 := 0) (rs2 := 0) (As := [_, _]) (st := _) M_X11_lets K_X11_167 (dT U_X11_challenges 17 rfl) rfl rfl (by decide) rfl rfl w1.c70 (Nat.le_of_ble_eq_true rfl) (by decide) rfl (Nat.le_of_ble_eq_true rfl) rfl (by decide) (Nat.le_of_ble_eq_true rfl) rfl rfl ?_
      refine S_X11_lets0 w1 (fun h2 g2 w2 => ?_)
      refine xRet_some ?_
      refine x_if_nen (tgt := 37) (dT U_X11_challenges 18 rfl) (by decide) (by decide) ?_
      refine x_iconst (dT U_X11_challenges 19 rfl) ?_
      refine x_ireturn (dT U_X11_challenges 20 rfl) rfl ?_
      exact e2 (by omega) (by omega) _ _ (Ag.tr (Ag.tr (Ag.rf 70 142 h) (g1.w (by omega))) (g2.w (by omega))) w2 (by unfold xr; omega)
    · skip
      refine x_iconst (dT U_X11_challenges 13 rfl) ?_
      refine x_goto (tgt := 28) (dT U_X11_challenges 14 rfl) (by decide) ?_
      refine x_iconst (dT U_X11_challenges 16 rfl) ?_
      refine x_invokevirtual (rc' := rc) (rs' := rs) (rc2 := 0) (rs2 := 0) (As := [_, _]) (st := _) M_X11_lets K_X11_167 (dT U_X11_challenges 17 rfl) rfl rfl (by decide) rfl rfl w1.c70 (Nat.le_of_ble_eq_true rfl) (by decide) rfl (Nat.le_of_ble_eq_true rfl) rfl (by decide) (Nat.le_of_ble_eq_true rfl) rfl rfl ?_
      refine S_X11_lets1 w1 (fun h2 g2 w2 => ?_)
      refine xRet_some ?_
      refine x_if_nej (tgt := 37) (dT U_X11_challenges 18 rfl) (by decide) (by decide) ?_
      have ok := (v.R i hi).1
      have sv := ok.v (by omega)
      have sw := ok.w (by omega)
      have db := dg_b (gf (σ.R i).form) 8
      refine x_iconst (dT U_X11_challenges 21 rfl) ?_
      refine x_istore_n (ls' := [some (.ref _), some (vi _), some (vi _), none]) (dT U_X11_challenges 22 rfl) (by decide) rfl ?_
      refine x_iconst (dT U_X11_challenges 23 rfl) ?_
      refine x_istore_n (ls' := [some (.ref _), some (vi _), some (vi _), some (vi _)]) (dT U_X11_challenges 24 rfl) (by decide) rfl ?_
      have L : ∀ (n u : Nat), u + n = σ.p → X G m_X11_challenges (d + 2) rc rs ex 41 [some (.ref 70), some (vi (i : Int)), some (vi (ct (fun x : Nat => 0 ≤ dg (gf (σ.R i).form) 8 ∨ ((σ.R i).w + (x : Int) * (σ.R i).v) % (σ.p : Int) = 0) u : Int)), some (vi (u : Int))] [] h2 Q := by
        intro n
        induction n with
        | zero =>
          intro u hi_ 
          refine x_iload_n (dT U_X11_challenges 25 rfl) rfl ?_
          refine x_aload_n (dT U_X11_challenges 26 rfl) rfl ?_
          refine x_getfield F_X11_130 (dT U_X11_challenges 27 rfl) w2.c70 (Nat.le_of_ble_eq_true rfl) rfl ?_
          refine x_icmp_ge (tgt := 100) (dT U_X11_challenges 28 rfl) (by decide) (by unfold xr; omega) (by unfold xr; omega) (fun c46 => ?_) (fun c46 => ?_)
          · skip
            have e : u = σ.p := by omega
            rw [e, show (ct (fun x : Nat => 0 ≤ dg (gf (σ.R i).form) 8 ∨ ((σ.R i).w + (x : Int) * (σ.R i).v) % (σ.p : Int) = 0) σ.p : Int) = answ σ.p (σ.R i) by
              unfold answ
              split
              · rw [ct_congr (Q := fun x : Nat => ((σ.R i).w + (x : Int) * (σ.R i).v) % (σ.p : Int) = 0) σ.p (fun x _ => ⟨fun z => z.resolve_left (by omega), fun z => Or.inr z⟩)]
              · rw [ct_all σ.p (fun x _ => Or.inl (by omega))]]
            refine x_iload_n (dT U_X11_challenges 60 rfl) rfl ?_
            refine x_ireturn (dT U_X11_challenges 61 rfl) rfl ?_
            exact k (by omega) (by omega) _ _ _ (Ag.tr (Ag.tr (Ag.rf 70 142 h) (g1.w (by omega))) (g2.w (by omega))) w2
          · exfalso; omega
        | succ n ih =>
          intro u hi_ 
          refine x_iload_n (dT U_X11_challenges 25 rfl) rfl ?_
          refine x_aload_n (dT U_X11_challenges 26 rfl) rfl ?_
          refine x_getfield F_X11_130 (dT U_X11_challenges 27 rfl) w2.c70 (Nat.le_of_ble_eq_true rfl) rfl ?_
          refine x_icmp_ge (tgt := 100) (dT U_X11_challenges 28 rfl) (by decide) (by unfold xr; omega) (by unfold xr; omega) (fun c46 => ?_) (fun c46 => ?_)
          · exfalso; omega
          · skip
            refine x_iload_n (dT U_X11_challenges 29 rfl) rfl ?_
            refine x_aload_n (dT U_X11_challenges 30 rfl) rfl ?_
            refine x_getfield F_X11_27 (dT U_X11_challenges 31 rfl) w2.c70 (Nat.le_of_ble_eq_true rfl) rfl ?_
            refine x_iload_n (dT U_X11_challenges 32 rfl) rfl ?_
            refine x_aaload (i) (dT U_X11_challenges 33 rfl) w2.c84 (Nat.le_of_ble_eq_true rfl) (by decide) rfl (mfL_get (by omega)) (Nat.le_of_ble_eq_true rfl) ?_
            refine x_invokestatic (rc' := rc) (rs' := rs) (rc2 := 0) (rs2 := 0) (As := [_]) (st := _) M_X11_top K_X11_177 (dT U_X11_challenges 34 rfl) rfl rfl rfl rfl (Nat.le_of_ble_eq_true rfl) rfl (by decide) (Nat.le_of_ble_eq_true rfl) rfl rfl ?_
            refine S_topF (p := (σ.p : Int)) (w2.forms i hi) (by omega) (ok.f (by omega)) (by omega) ?_
            refine xRet_some ?_
            refine x_if_ge (tgt := 87) (dT U_X11_challenges 35 rfl) (by decide) (by unfold xr; omega) (fun c59 => ?_) (fun c59 => ?_)
            · skip
              have cy : (fun x : Nat => 0 ≤ dg (gf (σ.R i).form) 8 ∨ ((σ.R i).w + (x : Int) * (σ.R i).v) % (σ.p : Int) = 0) u := Or.inl (by omega)
              refine x_iconst (dT U_X11_challenges 53 rfl) ?_
              refine x_goto (tgt := 92) (dT U_X11_challenges 54 rfl) (by decide) ?_
              refine x_iadd (dT U_X11_challenges 56 rfl) ?_
              refine x_istore_n (ls' := [some (.ref _), some (vi _), some (vi _), some (vi _)]) (dT U_X11_challenges 57 rfl) (by decide) rfl ?_
              refine x_iinc (ls' := [some (.ref _), some (vi _), some (vi _), some (vi _)]) (dT U_X11_challenges 58 rfl) (by decide) rfl rfl ?_
              refine x_goto (tgt := 41) (dT U_X11_challenges 59 rfl) (by decide) ?_
              have q := ih (u + 1) (by omega)
              first | rw [ct_yes (P := (fun x : Nat => 0 ≤ dg (gf (σ.R i).form) 8 ∨ ((σ.R i).w + (x : Int) * (σ.R i).v) % (σ.p : Int) = 0)) cy] at q | rw [ct_no (P := (fun x : Nat => 0 ≤ dg (gf (σ.R i).form) 8 ∨ ((σ.R i).w + (x : Int) * (σ.R i).v) % (σ.p : Int) = 0)) cn] at q
              first | exact q | (rw [show (ct (fun x : Nat => 0 ≤ dg (gf (σ.R i).form) 8 ∨ ((σ.R i).w + (x : Int) * (σ.R i).v) % (σ.p : Int) = 0) u : Int) + 0 = (ct (fun x : Nat => 0 ≤ dg (gf (σ.R i).form) 8 ∨ ((σ.R i).w + (x : Int) * (σ.R i).v) % (σ.p : Int) = 0) u : Int) from Int.add_zero _]; exact q)
            · skip
              refine x_aload_n (dT U_X11_challenges 36 rfl) rfl ?_
              refine x_aload_n (dT U_X11_challenges 37 rfl) rfl ?_
              refine x_getfield F_X11_36 (dT U_X11_challenges 38 rfl) w2.c70 (Nat.le_of_ble_eq_true rfl) rfl ?_
              refine x_iload_n (dT U_X11_challenges 39 rfl) rfl ?_
              refine x_ialoadv (i) (dT U_X11_challenges 40 rfl) w2.c92 (Nat.le_of_ble_eq_true rfl) rfl (show i < 5 by omega) (show 5 < 2147483648 by decide) (show _ = (σ.R i).w from t5_get hi) ?_
              refine x_i2l (dT U_X11_challenges 41 rfl) (by unfold xr; omega) ?_
              refine x_iload_n (dT U_X11_challenges 42 rfl) rfl ?_
              refine x_i2l (dT U_X11_challenges 43 rfl) (by unfold xr; omega) ?_
              refine x_aload_n (dT U_X11_challenges 44 rfl) rfl ?_
              refine x_getfield F_X11_30 (dT U_X11_challenges 45 rfl) w2.c70 (Nat.le_of_ble_eq_true rfl) rfl ?_
              refine x_iload_n (dT U_X11_challenges 46 rfl) rfl ?_
              refine x_ialoadv (i) (dT U_X11_challenges 47 rfl) w2.c90 (Nat.le_of_ble_eq_true rfl) rfl (show i < 5 by omega) (show 5 < 2147483648 by decide) (show _ = (σ.R i).v from t5_get hi) ?_
              refine x_i2l (dT U_X11_challenges 48 rfl) (by unfold xr; omega) ?_
              refine x_lmul (dT U_X11_challenges 49 rfl) ?_
              refine x_ladd (dT U_X11_challenges 50 rfl) ?_
              refine x_invokevirtual (rc' := rc) (rs' := rs) (rc2 := 0) (rs2 := 0) (As := [_]) (st := _) M_X11_f K_X11_156 (dT U_X11_challenges 51 rfl) rfl rfl (by decide) rfl rfl w2.c70 (Nat.le_of_ble_eq_true rfl) (by decide) rfl (Nat.le_of_ble_eq_true rfl) rfl (by decide) (Nat.le_of_ble_eq_true rfl) rfl rfl ?_
              have xm := mulb (a := (u : Int)) (b := (σ.R i).v) (p := (σ.p : Int)) (by omega) sv (by omega)
              refine S_X11_f (w2.mp) v.p (by unfold xrl; omega) ?_
              refine xRet_some ?_
              refine x_if_ne (tgt := 91) (dT U_X11_challenges 52 rfl) (by decide) (by have := modb (z := (σ.R i).w + (u : Int) * (σ.R i).v) (p := (σ.p : Int)) (by omega); unfold xr; omega) (fun c84 => ?_) (fun c84 => ?_)
              · skip
                have cn : ¬ (fun x : Nat => 0 ≤ dg (gf (σ.R i).form) 8 ∨ ((σ.R i).w + (x : Int) * (σ.R i).v) % (σ.p : Int) = 0) u := fun z => z.elim (fun y => by omega) c84
                refine x_iconst (dT U_X11_challenges 55 rfl) ?_
                refine x_iadd (dT U_X11_challenges 56 rfl) ?_
                refine x_istore_n (ls' := [some (.ref _), some (vi _), some (vi _), some (vi _)]) (dT U_X11_challenges 57 rfl) (by decide) rfl ?_
                refine x_iinc (ls' := [some (.ref _), some (vi _), some (vi _), some (vi _)]) (dT U_X11_challenges 58 rfl) (by decide) rfl rfl ?_
                refine x_goto (tgt := 41) (dT U_X11_challenges 59 rfl) (by decide) ?_
                have q := ih (u + 1) (by omega)
                first | rw [ct_yes (P := (fun x : Nat => 0 ≤ dg (gf (σ.R i).form) 8 ∨ ((σ.R i).w + (x : Int) * (σ.R i).v) % (σ.p : Int) = 0)) cy] at q | rw [ct_no (P := (fun x : Nat => 0 ≤ dg (gf (σ.R i).form) 8 ∨ ((σ.R i).w + (x : Int) * (σ.R i).v) % (σ.p : Int) = 0)) cn] at q
                first | exact q | (rw [show (ct (fun x : Nat => 0 ≤ dg (gf (σ.R i).form) 8 ∨ ((σ.R i).w + (x : Int) * (σ.R i).v) % (σ.p : Int) = 0) u : Int) + 0 = (ct (fun x : Nat => 0 ≤ dg (gf (σ.R i).form) 8 ∨ ((σ.R i).w + (x : Int) * (σ.R i).v) % (σ.p : Int) = 0) u : Int) from Int.add_zero _]; exact q)
              · skip
                have cy : (fun x : Nat => 0 ≤ dg (gf (σ.R i).form) 8 ∨ ((σ.R i).w + (x : Int) * (σ.R i).v) % (σ.p : Int) = 0) u := Or.inr c84
                refine x_iconst (dT U_X11_challenges 53 rfl) ?_
                refine x_goto (tgt := 92) (dT U_X11_challenges 54 rfl) (by decide) ?_
                refine x_iadd (dT U_X11_challenges 56 rfl) ?_
                refine x_istore_n (ls' := [some (.ref _), some (vi _), some (vi _), some (vi _)]) (dT U_X11_challenges 57 rfl) (by decide) rfl ?_
                refine x_iinc (ls' := [some (.ref _), some (vi _), some (vi _), some (vi _)]) (dT U_X11_challenges 58 rfl) (by decide) rfl rfl ?_
                refine x_goto (tgt := 41) (dT U_X11_challenges 59 rfl) (by decide) ?_
                have q := ih (u + 1) (by omega)
                first | rw [ct_yes (P := (fun x : Nat => 0 ≤ dg (gf (σ.R i).form) 8 ∨ ((σ.R i).w + (x : Int) * (σ.R i).v) % (σ.p : Int) = 0)) cy] at q | rw [ct_no (P := (fun x : Nat => 0 ≤ dg (gf (σ.R i).form) 8 ∨ ((σ.R i).w + (x : Int) * (σ.R i).v) % (σ.p : Int) = 0)) cn] at q
                first | exact q | (rw [show (ct (fun x : Nat => 0 ≤ dg (gf (σ.R i).form) 8 ∨ ((σ.R i).w + (x : Int) * (σ.R i).v) % (σ.p : Int) = 0) u : Int) + 0 = (ct (fun x : Nat => 0 ≤ dg (gf (σ.R i).form) 8 ∨ ((σ.R i).w + (x : Int) * (σ.R i).v) % (σ.p : Int) = 0) u : Int) from Int.add_zero _]; exact q)
      exact L σ.p 0 (by omega)
  · refine xRet_some ?_
    refine x_iconst (dT U_X11_challenges 3 rfl) ?_
    refine x_invokevirtual (rc' := rc) (rs' := rs) (rc2 := 0) (rs2 := 0) (As := [_, _]) (st := _) M_X11_lets K_X11_167 (dT U_X11_challenges 4 rfl) rfl rfl (by decide) rfl rfl w.c70 (Nat.le_of_ble_eq_true rfl) (by decide) rfl (Nat.le_of_ble_eq_true rfl) rfl (by decide) (Nat.le_of_ble_eq_true rfl) rfl rfl ?_
    refine S_X11_lets0 w (fun h1 g1 w1 => ?_)
    refine xRet_some ?_
    refine x_if_eqj (tgt := 35) (dT U_X11_challenges 5 rfl) (by decide) (by decide) ?_
    refine x_iconst (dT U_X11_challenges 19 rfl) ?_
    refine x_ireturn (dT U_X11_challenges 20 rfl) rfl ?_
    exact e1 (by omega) _ _ (Ag.tr (Ag.rf 70 142 h) (g1.w (by omega))) w1 (by unfold xr; omega)

set_option maxRecDepth 20000 in
set_option maxHeartbeats 1000000 in
theorem S_X11_said0 {G : xG} {d rc rs : Nat} {ex : Bool} {h : xH} {Q : xQ} {σ : St} {cc0 : Int} {rr : Nat} {ss : Int} {i : Nat} (w : MX σ cc0 rr ss h) (v : INV σ) (hi : i < 4) (k : Q (.inl (some (vi ((σ.R i).y σ.p)))) ex h) : X G m_X11_said (d + 2) rc rs ex 0 (xe m_X11_said.2.2.1 [.ref 70, vi (i : Int), vi 0]) [] h Q := by
  show X G m_X11_said _ _ _ _ 0 [some (.ref 70), some (vi (i : Int)), some (vi 0), none] [] h Q
  have hp := PRb v.p
  have hq := gq_b v.p
  have ok := (v.R i hi).1
  have s4 := ok.s4
  refine x_iload_n (dT U_X11_said 0 rfl) rfl ?_
  refine x_iconst (dT U_X11_said 1 rfl) ?_
  refine x_icmp_ge (tgt := 9) (dT U_X11_said 2 rfl) (by decide) (by unfold xr; omega) (by unfold xr; omega) (fun c2 => (by exfalso; omega)) (fun c2 => ?_)
  refine x_iconst (dT U_X11_said 3 rfl) ?_
  refine x_goto (tgt := 34) (dT U_X11_said 4 rfl) (by decide) ?_
  refine x_istore_n (ls' := [some (.ref _), some (vi _), some (vi _), some (vi _)]) (dT U_X11_said 19 rfl) (by decide) rfl ?_
  refine x_aload_n (dT U_X11_said 20 rfl) rfl ?_
  refine x_getfield F_X11_21 (dT U_X11_said 21 rfl) w.c70 (Nat.le_of_ble_eq_true rfl) rfl ?_
  refine x_iload_n (dT U_X11_said 22 rfl) rfl ?_
  refine x_ialoadv (i) (dT U_X11_said 23 rfl) w.c82 (Nat.le_of_ble_eq_true rfl) rfl (show i < 5 by omega) (show 5 < 2147483648 by decide) (show _ = ((σ.R i).st : Int) from t5_get hi) ?_
  refine x_iload_n (dT U_X11_said 24 rfl) rfl ?_
  refine x_icmp_ge (tgt := 47) (dT U_X11_said 25 rfl) (by decide) (by unfold xr; omega) (by unfold xr; omega) (fun c42 => ?_) (fun c42 => ?_)
  · skip
    have se := ok.e (by omega)
    have m1 := MM_b v.p se
    obtain ⟨ml, p1, p2, p3⟩ := w.pow
    refine x_iload_n (dT U_X11_said 28 rfl) rfl ?_
    refine x_if_eqj (tgt := 56) (dT U_X11_said 29 rfl) (by decide) (by decide) ?_
    refine x_aload_n (dT U_X11_said 33 rfl) rfl ?_
    refine x_getfield F_X11_7 (dT U_X11_said 34 rfl) w.c70 (Nat.le_of_ble_eq_true rfl) rfl ?_
    refine x_iload_n (dT U_X11_said 35 rfl) rfl ?_
    refine x_if_nen (tgt := 73) (dT U_X11_said 36 rfl) (by decide) (by decide) ?_
    refine x_aload_n (dT U_X11_said 37 rfl) rfl ?_
    refine x_getfield F_X11_24 (dT U_X11_said 38 rfl) w.c70 (Nat.le_of_ble_eq_true rfl) rfl ?_
    refine x_iload_n (dT U_X11_said 39 rfl) rfl ?_
    refine x_ialoadv (i) (dT U_X11_said 40 rfl) w.c83 (Nat.le_of_ble_eq_true rfl) rfl (show i < 5 by omega) (show 5 < 2147483648 by decide) (show _ = (σ.R i).e from t5_get hi) ?_
    refine x_goto (tgt := 79) (dT U_X11_said 41 rfl) (by decide) ?_
    refine x_ialoadv (((σ.R i).e).toNat) (dT U_X11_said 46 rfl) p1 (Nat.le_of_ble_eq_true rfl) (by omega) (by rw [p2]; omega) (by rw [p2]; omega) (show _ = MM σ.p ((σ.R i).e) from p3 _ (by omega)) ?_
    refine x_ireturn (dT U_X11_said 47 rfl) rfl ?_
    first | (rw [show (σ.R i).y σ.p = -1 from if_neg (by omega)] at k; exact k) | (rw [show (σ.R i).y σ.p = _ from if_pos (by omega)] at k; exact k)
  · skip
    refine x_iconst (dT U_X11_said 26 rfl) ?_
    refine x_ireturn (dT U_X11_said 27 rfl) rfl ?_
    first | (rw [show (σ.R i).y σ.p = -1 from if_neg (by omega)] at k; exact k) | (rw [show (σ.R i).y σ.p = _ from if_pos (by omega)] at k; exact k)

set_option maxRecDepth 20000 in
set_option maxHeartbeats 1000000 in
theorem S_X11_said1 {G : xG} {d rc rs : Nat} {ex : Bool} {h : xH} {Q : xQ} {σ : St} {cc0 : Int} {rr : Nat} {ss : Int} {i : Nat} (w : MX σ cc0 rr ss h) (v : INV σ) (hi : i < 4) (k : Q (.inl (some (vi ((σ.R i).vv)))) ex h) : X G m_X11_said (d + 2) rc rs ex 0 (xe m_X11_said.2.2.1 [.ref 70, vi (i : Int), vi 1]) [] h Q := by
  show X G m_X11_said _ _ _ _ 0 [some (.ref 70), some (vi (i : Int)), some (vi 1), none] [] h Q
  have hp := PRb v.p
  have hq := gq_b v.p
  have ok := (v.R i hi).1
  have s4 := ok.s4
  refine x_iload_n (dT U_X11_said 0 rfl) rfl ?_
  refine x_iconst (dT U_X11_said 1 rfl) ?_
  refine x_icmp_ge (tgt := 9) (dT U_X11_said 2 rfl) (by decide) (by unfold xr; omega) (by unfold xr; omega) (fun c2 => (by exfalso; omega)) (fun c2 => ?_)
  refine x_iconst (dT U_X11_said 3 rfl) ?_
  refine x_goto (tgt := 34) (dT U_X11_said 4 rfl) (by decide) ?_
  refine x_istore_n (ls' := [some (.ref _), some (vi _), some (vi _), some (vi _)]) (dT U_X11_said 19 rfl) (by decide) rfl ?_
  refine x_aload_n (dT U_X11_said 20 rfl) rfl ?_
  refine x_getfield F_X11_21 (dT U_X11_said 21 rfl) w.c70 (Nat.le_of_ble_eq_true rfl) rfl ?_
  refine x_iload_n (dT U_X11_said 22 rfl) rfl ?_
  refine x_ialoadv (i) (dT U_X11_said 23 rfl) w.c82 (Nat.le_of_ble_eq_true rfl) rfl (show i < 5 by omega) (show 5 < 2147483648 by decide) (show _ = ((σ.R i).st : Int) from t5_get hi) ?_
  refine x_iload_n (dT U_X11_said 24 rfl) rfl ?_
  refine x_icmp_ge (tgt := 47) (dT U_X11_said 25 rfl) (by decide) (by unfold xr; omega) (by unfold xr; omega) (fun c42 => ?_) (fun c42 => ?_)
  · skip
    refine x_iload_n (dT U_X11_said 28 rfl) rfl ?_
    refine x_if_eqn (tgt := 56) (dT U_X11_said 29 rfl) (by decide) (by decide) ?_
    refine x_iload_n (dT U_X11_said 30 rfl) rfl ?_
    refine x_iconst (dT U_X11_said 31 rfl) ?_
    refine x_icmp_ne (tgt := 81) (dT U_X11_said 32 rfl) (by decide) (by unfold xr; omega) (by unfold xr; omega) (fun c53 => ?_) (fun c53 => (by exfalso; omega))
    refine x_iload_n (dT U_X11_said 48 rfl) rfl ?_
    refine x_iconst (dT U_X11_said 49 rfl) ?_
    refine x_icmp_eq (tgt := 91) (dT U_X11_said 50 rfl) (by decide) (by unfold xr; omega) (by unfold xr; omega) (fun c83 => ?_) (fun c83 => (by exfalso; omega))
    refine x_iload_n (dT U_X11_said 54 rfl) rfl ?_
    refine x_iconst (dT U_X11_said 55 rfl) ?_
    refine x_icmp_ne (tgt := 105) (dT U_X11_said 56 rfl) (by decide) (by unfold xr; omega) (by unfold xr; omega) (fun c93 => (by exfalso; omega)) (fun c93 => ?_)
    refine x_aload_n (dT U_X11_said 57 rfl) rfl ?_
    refine x_getfield F_X11_30 (dT U_X11_said 58 rfl) w.c70 (Nat.le_of_ble_eq_true rfl) rfl ?_
    refine x_iload_n (dT U_X11_said 59 rfl) rfl ?_
    refine x_ialoadv (i) (dT U_X11_said 60 rfl) w.c90 (Nat.le_of_ble_eq_true rfl) rfl (show i < 5 by omega) (show 5 < 2147483648 by decide) (show _ = (σ.R i).v from t5_get hi) ?_
    refine x_goto (tgt := 111) (dT U_X11_said 61 rfl) (by decide) ?_
    refine x_ireturn (dT U_X11_said 66 rfl) rfl ?_
    first | (rw [show (σ.R i).vv = -1 from if_neg (by omega)] at k; exact k) | (rw [show (σ.R i).vv = _ from if_pos (by omega)] at k; exact k)
  · skip
    refine x_iconst (dT U_X11_said 26 rfl) ?_
    refine x_ireturn (dT U_X11_said 27 rfl) rfl ?_
    first | (rw [show (σ.R i).vv = -1 from if_neg (by omega)] at k; exact k) | (rw [show (σ.R i).vv = _ from if_pos (by omega)] at k; exact k)

set_option maxRecDepth 20000 in
set_option maxHeartbeats 1000000 in
theorem S_X11_said2 {G : xG} {d rc rs : Nat} {ex : Bool} {h : xH} {Q : xQ} {σ : St} {cc0 : Int} {rr : Nat} {ss : Int} {i : Nat} (w : MX σ cc0 rr ss h) (v : INV σ) (hi : i < 4) (k : Q (.inl (some (vi ((σ.R i).a σ.p)))) ex h) : X G m_X11_said (d + 2) rc rs ex 0 (xe m_X11_said.2.2.1 [.ref 70, vi (i : Int), vi 2]) [] h Q := by
  show X G m_X11_said _ _ _ _ 0 [some (.ref 70), some (vi (i : Int)), some (vi 2), none] [] h Q
  have hp := PRb v.p
  have hq := gq_b v.p
  have ok := (v.R i hi).1
  have s4 := ok.s4
  refine x_iload_n (dT U_X11_said 0 rfl) rfl ?_
  refine x_iconst (dT U_X11_said 1 rfl) ?_
  refine x_icmp_ge (tgt := 9) (dT U_X11_said 2 rfl) (by decide) (by unfold xr; omega) (by unfold xr; omega) (fun c2 => ?_) (fun c2 => (by exfalso; omega))
  refine x_iload_n (dT U_X11_said 5 rfl) rfl ?_
  refine x_iconst (dT U_X11_said 6 rfl) ?_
  refine x_icmp_lt (tgt := 20) (dT U_X11_said 7 rfl) (by decide) (by unfold xr; omega) (by unfold xr; omega) (fun c11 => ?_) (fun c11 => (by exfalso; omega))
  refine x_iconst (dT U_X11_said 11 rfl) ?_
  refine x_goto (tgt := 34) (dT U_X11_said 12 rfl) (by decide) ?_
  refine x_istore_n (ls' := [some (.ref _), some (vi _), some (vi _), some (vi _)]) (dT U_X11_said 19 rfl) (by decide) rfl ?_
  refine x_aload_n (dT U_X11_said 20 rfl) rfl ?_
  refine x_getfield F_X11_21 (dT U_X11_said 21 rfl) w.c70 (Nat.le_of_ble_eq_true rfl) rfl ?_
  refine x_iload_n (dT U_X11_said 22 rfl) rfl ?_
  refine x_ialoadv (i) (dT U_X11_said 23 rfl) w.c82 (Nat.le_of_ble_eq_true rfl) rfl (show i < 5 by omega) (show 5 < 2147483648 by decide) (show _ = ((σ.R i).st : Int) from t5_get hi) ?_
  refine x_iload_n (dT U_X11_said 24 rfl) rfl ?_
  refine x_icmp_ge (tgt := 47) (dT U_X11_said 25 rfl) (by decide) (by unfold xr; omega) (by unfold xr; omega) (fun c42 => ?_) (fun c42 => ?_)
  · skip
    have sfa := ok.fa (by omega)
    have m1 := MM_b v.p sfa
    obtain ⟨ml, p1, p2, p3⟩ := w.pow
    refine x_iload_n (dT U_X11_said 28 rfl) rfl ?_
    refine x_if_eq (tgt := 56) (dT U_X11_said 29 rfl) (by decide) (by unfold xr; omega) (fun c48 => (by exfalso; omega)) (fun c48 => ?_)
    refine x_iload_n (dT U_X11_said 30 rfl) rfl ?_
    refine x_iconst (dT U_X11_said 31 rfl) ?_
    refine x_icmp_ne (tgt := 81) (dT U_X11_said 32 rfl) (by decide) (by unfold xr; omega) (by unfold xr; omega) (fun c53 => (by exfalso; omega)) (fun c53 => ?_)
    refine x_aload_n (dT U_X11_said 33 rfl) rfl ?_
    refine x_getfield F_X11_7 (dT U_X11_said 34 rfl) w.c70 (Nat.le_of_ble_eq_true rfl) rfl ?_
    refine x_iload_n (dT U_X11_said 35 rfl) rfl ?_
    refine x_if_ne (tgt := 73) (dT U_X11_said 36 rfl) (by decide) (by unfold xr; omega) (fun c61 => ?_) (fun c61 => (by exfalso; omega))
    refine x_aload_n (dT U_X11_said 42 rfl) rfl ?_
    refine x_getfield F_X11_33 (dT U_X11_said 43 rfl) w.c70 (Nat.le_of_ble_eq_true rfl) rfl ?_
    refine x_iload_n (dT U_X11_said 44 rfl) rfl ?_
    refine x_ialoadv (i) (dT U_X11_said 45 rfl) w.c91 (Nat.le_of_ble_eq_true rfl) rfl (show i < 5 by omega) (show 5 < 2147483648 by decide) (show _ = (σ.R i).fa from t5_get hi) ?_
    refine x_ialoadv (((σ.R i).fa).toNat) (dT U_X11_said 46 rfl) p1 (Nat.le_of_ble_eq_true rfl) (by omega) (by rw [p2]; omega) (by rw [p2]; omega) (show _ = MM σ.p ((σ.R i).fa) from p3 _ (by omega)) ?_
    refine x_ireturn (dT U_X11_said 47 rfl) rfl ?_
    first | (rw [show (σ.R i).a σ.p = -1 from if_neg (by omega)] at k; exact k) | (rw [show (σ.R i).a σ.p = _ from if_pos (by omega)] at k; exact k)
  · skip
    refine x_iconst (dT U_X11_said 26 rfl) ?_
    refine x_ireturn (dT U_X11_said 27 rfl) rfl ?_
    first | (rw [show (σ.R i).a σ.p = -1 from if_neg (by omega)] at k; exact k) | (rw [show (σ.R i).a σ.p = _ from if_pos (by omega)] at k; exact k)

set_option maxRecDepth 20000 in
set_option maxHeartbeats 1000000 in
theorem S_X11_said3 {G : xG} {d rc rs : Nat} {ex : Bool} {h : xH} {Q : xQ} {σ : St} {cc0 : Int} {rr : Nat} {ss : Int} {i : Nat} (w : MX σ cc0 rr ss h) (v : INV σ) (hi : i < 4) (k : Q (.inl (some (vi ((σ.R i).ww)))) ex h) : X G m_X11_said (d + 2) rc rs ex 0 (xe m_X11_said.2.2.1 [.ref 70, vi (i : Int), vi 3]) [] h Q := by
  show X G m_X11_said _ _ _ _ 0 [some (.ref 70), some (vi (i : Int)), some (vi 3), none] [] h Q
  have hp := PRb v.p
  have hq := gq_b v.p
  have ok := (v.R i hi).1
  have s4 := ok.s4
  refine x_iload_n (dT U_X11_said 0 rfl) rfl ?_
  refine x_iconst (dT U_X11_said 1 rfl) ?_
  refine x_icmp_ge (tgt := 9) (dT U_X11_said 2 rfl) (by decide) (by unfold xr; omega) (by unfold xr; omega) (fun c2 => ?_) (fun c2 => (by exfalso; omega))
  refine x_iload_n (dT U_X11_said 5 rfl) rfl ?_
  refine x_iconst (dT U_X11_said 6 rfl) ?_
  refine x_icmp_lt (tgt := 20) (dT U_X11_said 7 rfl) (by decide) (by unfold xr; omega) (by unfold xr; omega) (fun c11 => ?_) (fun c11 => (by exfalso; omega))
  refine x_iconst (dT U_X11_said 11 rfl) ?_
  refine x_goto (tgt := 34) (dT U_X11_said 12 rfl) (by decide) ?_
  refine x_istore_n (ls' := [some (.ref _), some (vi _), some (vi _), some (vi _)]) (dT U_X11_said 19 rfl) (by decide) rfl ?_
  refine x_aload_n (dT U_X11_said 20 rfl) rfl ?_
  refine x_getfield F_X11_21 (dT U_X11_said 21 rfl) w.c70 (Nat.le_of_ble_eq_true rfl) rfl ?_
  refine x_iload_n (dT U_X11_said 22 rfl) rfl ?_
  refine x_ialoadv (i) (dT U_X11_said 23 rfl) w.c82 (Nat.le_of_ble_eq_true rfl) rfl (show i < 5 by omega) (show 5 < 2147483648 by decide) (show _ = ((σ.R i).st : Int) from t5_get hi) ?_
  refine x_iload_n (dT U_X11_said 24 rfl) rfl ?_
  refine x_icmp_ge (tgt := 47) (dT U_X11_said 25 rfl) (by decide) (by unfold xr; omega) (by unfold xr; omega) (fun c42 => ?_) (fun c42 => ?_)
  · skip
    refine x_iload_n (dT U_X11_said 28 rfl) rfl ?_
    refine x_if_eq (tgt := 56) (dT U_X11_said 29 rfl) (by decide) (by unfold xr; omega) (fun c48 => (by exfalso; omega)) (fun c48 => ?_)
    refine x_iload_n (dT U_X11_said 30 rfl) rfl ?_
    refine x_iconst (dT U_X11_said 31 rfl) ?_
    refine x_icmp_ne (tgt := 81) (dT U_X11_said 32 rfl) (by decide) (by unfold xr; omega) (by unfold xr; omega) (fun c53 => ?_) (fun c53 => (by exfalso; omega))
    refine x_iload_n (dT U_X11_said 48 rfl) rfl ?_
    refine x_iconst (dT U_X11_said 49 rfl) ?_
    refine x_icmp_eq (tgt := 91) (dT U_X11_said 50 rfl) (by decide) (by unfold xr; omega) (by unfold xr; omega) (fun c83 => (by exfalso; omega)) (fun c83 => ?_)
    refine x_iload_n (dT U_X11_said 51 rfl) rfl ?_
    refine x_iconst (dT U_X11_said 52 rfl) ?_
    refine x_icmp_ne (tgt := 112) (dT U_X11_said 53 rfl) (by decide) (by unfold xr; omega) (by unfold xr; omega) (fun c88 => (by exfalso; omega)) (fun c88 => ?_)
    refine x_iload_n (dT U_X11_said 54 rfl) rfl ?_
    refine x_iconst (dT U_X11_said 55 rfl) ?_
    refine x_icmp_ne (tgt := 105) (dT U_X11_said 56 rfl) (by decide) (by unfold xr; omega) (by unfold xr; omega) (fun c93 => ?_) (fun c93 => (by exfalso; omega))
    refine x_aload_n (dT U_X11_said 62 rfl) rfl ?_
    refine x_getfield F_X11_36 (dT U_X11_said 63 rfl) w.c70 (Nat.le_of_ble_eq_true rfl) rfl ?_
    refine x_iload_n (dT U_X11_said 64 rfl) rfl ?_
    refine x_ialoadv (i) (dT U_X11_said 65 rfl) w.c92 (Nat.le_of_ble_eq_true rfl) rfl (show i < 5 by omega) (show 5 < 2147483648 by decide) (show _ = (σ.R i).w from t5_get hi) ?_
    refine x_ireturn (dT U_X11_said 66 rfl) rfl ?_
    first | (rw [show (σ.R i).ww = -1 from if_neg (by omega)] at k; exact k) | (rw [show (σ.R i).ww = _ from if_pos (by omega)] at k; exact k)
  · skip
    refine x_iconst (dT U_X11_said 26 rfl) ?_
    refine x_ireturn (dT U_X11_said 27 rfl) rfl ?_
    first | (rw [show (σ.R i).ww = -1 from if_neg (by omega)] at k; exact k) | (rw [show (σ.R i).ww = _ from if_pos (by omega)] at k; exact k)

set_option maxRecDepth 20000 in
set_option maxHeartbeats 1000000 in
theorem S_X11_said4 {G : xG} {d rc rs : Nat} {ex : Bool} {h : xH} {Q : xQ} {σ : St} {cc0 : Int} {rr : Nat} {ss : Int} {i : Nat} (w : MX σ cc0 rr ss h) (v : INV σ) (hi : i < 4) (k : Q (.inl (some (vi ((σ.R i).cc)))) ex h) : X G m_X11_said (d + 2) rc rs ex 0 (xe m_X11_said.2.2.1 [.ref 70, vi (i : Int), vi 4]) [] h Q := by
  show X G m_X11_said _ _ _ _ 0 [some (.ref 70), some (vi (i : Int)), some (vi 4), none] [] h Q
  have hp := PRb v.p
  have hq := gq_b v.p
  have ok := (v.R i hi).1
  have s4 := ok.s4
  refine x_iload_n (dT U_X11_said 0 rfl) rfl ?_
  refine x_iconst (dT U_X11_said 1 rfl) ?_
  refine x_icmp_ge (tgt := 9) (dT U_X11_said 2 rfl) (by decide) (by unfold xr; omega) (by unfold xr; omega) (fun c2 => ?_) (fun c2 => (by exfalso; omega))
  refine x_iload_n (dT U_X11_said 5 rfl) rfl ?_
  refine x_iconst (dT U_X11_said 6 rfl) ?_
  refine x_icmp_lt (tgt := 20) (dT U_X11_said 7 rfl) (by decide) (by unfold xr; omega) (by unfold xr; omega) (fun c11 => (by exfalso; omega)) (fun c11 => ?_)
  refine x_iload_n (dT U_X11_said 8 rfl) rfl ?_
  refine x_bipush (dT U_X11_said 9 rfl) (by decide) ?_
  refine x_icmp_ne (tgt := 24) (dT U_X11_said 10 rfl) (by decide) (by unfold xr; omega) (by unfold xr; omega) (fun c17 => ?_) (fun c17 => (by exfalso; omega))
  refine x_iload_n (dT U_X11_said 13 rfl) rfl ?_
  refine x_iconst (dT U_X11_said 14 rfl) ?_
  refine x_icmp_ne (tgt := 33) (dT U_X11_said 15 rfl) (by decide) (by unfold xr; omega) (by unfold xr; omega) (fun c26 => (by exfalso; omega)) (fun c26 => ?_)
  refine x_iconst (dT U_X11_said 16 rfl) ?_
  refine x_goto (tgt := 34) (dT U_X11_said 17 rfl) (by decide) ?_
  refine x_istore_n (ls' := [some (.ref _), some (vi _), some (vi _), some (vi _)]) (dT U_X11_said 19 rfl) (by decide) rfl ?_
  refine x_aload_n (dT U_X11_said 20 rfl) rfl ?_
  refine x_getfield F_X11_21 (dT U_X11_said 21 rfl) w.c70 (Nat.le_of_ble_eq_true rfl) rfl ?_
  refine x_iload_n (dT U_X11_said 22 rfl) rfl ?_
  refine x_ialoadv (i) (dT U_X11_said 23 rfl) w.c82 (Nat.le_of_ble_eq_true rfl) rfl (show i < 5 by omega) (show 5 < 2147483648 by decide) (show _ = ((σ.R i).st : Int) from t5_get hi) ?_
  refine x_iload_n (dT U_X11_said 24 rfl) rfl ?_
  refine x_icmp_ge (tgt := 47) (dT U_X11_said 25 rfl) (by decide) (by unfold xr; omega) (by unfold xr; omega) (fun c42 => ?_) (fun c42 => ?_)
  · skip
    refine x_iload_n (dT U_X11_said 28 rfl) rfl ?_
    refine x_if_eq (tgt := 56) (dT U_X11_said 29 rfl) (by decide) (by unfold xr; omega) (fun c48 => (by exfalso; omega)) (fun c48 => ?_)
    refine x_iload_n (dT U_X11_said 30 rfl) rfl ?_
    refine x_iconst (dT U_X11_said 31 rfl) ?_
    refine x_icmp_ne (tgt := 81) (dT U_X11_said 32 rfl) (by decide) (by unfold xr; omega) (by unfold xr; omega) (fun c53 => ?_) (fun c53 => (by exfalso; omega))
    refine x_iload_n (dT U_X11_said 48 rfl) rfl ?_
    refine x_iconst (dT U_X11_said 49 rfl) ?_
    refine x_icmp_eq (tgt := 91) (dT U_X11_said 50 rfl) (by decide) (by unfold xr; omega) (by unfold xr; omega) (fun c83 => (by exfalso; omega)) (fun c83 => ?_)
    refine x_iload_n (dT U_X11_said 51 rfl) rfl ?_
    refine x_iconst (dT U_X11_said 52 rfl) ?_
    refine x_icmp_ne (tgt := 112) (dT U_X11_said 53 rfl) (by decide) (by unfold xr; omega) (by unfold xr; omega) (fun c88 => ?_) (fun c88 => (by exfalso; omega))
    refine x_iload_n (dT U_X11_said 67 rfl) rfl ?_
    refine x_iconst (dT U_X11_said 68 rfl) ?_
    refine x_icmp_ne (tgt := 126) (dT U_X11_said 69 rfl) (by decide) (by unfold xr; omega) (by unfold xr; omega) (fun c114 => (by exfalso; omega)) (fun c114 => ?_)
    refine x_aload_n (dT U_X11_said 70 rfl) rfl ?_
    refine x_getfield F_X11_49 (dT U_X11_said 71 rfl) w.c70 (Nat.le_of_ble_eq_true rfl) rfl ?_
    refine x_iload_n (dT U_X11_said 72 rfl) rfl ?_
    refine x_ialoadv (i) (dT U_X11_said 73 rfl) w.c101 (Nat.le_of_ble_eq_true rfl) rfl (show i < 5 by omega) (show 5 < 2147483648 by decide) (show _ = (σ.R i).c from t5_get hi) ?_
    refine x_goto (tgt := 145) (dT U_X11_said 74 rfl) (by decide) ?_
    refine x_ireturn (dT U_X11_said 86 rfl) rfl ?_
    first | (rw [show (σ.R i).cc = -1 from if_neg (by omega)] at k; exact k) | (rw [show (σ.R i).cc = _ from if_pos (by omega)] at k; exact k)
  · skip
    refine x_iconst (dT U_X11_said 26 rfl) ?_
    refine x_ireturn (dT U_X11_said 27 rfl) rfl ?_
    first | (rw [show (σ.R i).cc = -1 from if_neg (by omega)] at k; exact k) | (rw [show (σ.R i).cc = _ from if_pos (by omega)] at k; exact k)

set_option maxRecDepth 20000 in
set_option maxHeartbeats 1000000 in
theorem S_X11_said5 {G : xG} {d rc rs : Nat} {ex : Bool} {h : xH} {Q : xQ} {σ : St} {cc0 : Int} {rr : Nat} {ss : Int} {i : Nat} (w : MX σ cc0 rr ss h) (v : INV σ) (hi : i < 4) (k : Q (.inl (some (vi ((σ.R i).tt)))) ex h) : X G m_X11_said (d + 2) rc rs ex 0 (xe m_X11_said.2.2.1 [.ref 70, vi (i : Int), vi 5]) [] h Q := by
  show X G m_X11_said _ _ _ _ 0 [some (.ref 70), some (vi (i : Int)), some (vi 5), none] [] h Q
  have hp := PRb v.p
  have hq := gq_b v.p
  have ok := (v.R i hi).1
  have s4 := ok.s4
  refine x_iload_n (dT U_X11_said 0 rfl) rfl ?_
  refine x_iconst (dT U_X11_said 1 rfl) ?_
  refine x_icmp_ge (tgt := 9) (dT U_X11_said 2 rfl) (by decide) (by unfold xr; omega) (by unfold xr; omega) (fun c2 => ?_) (fun c2 => (by exfalso; omega))
  refine x_iload_n (dT U_X11_said 5 rfl) rfl ?_
  refine x_iconst (dT U_X11_said 6 rfl) ?_
  refine x_icmp_lt (tgt := 20) (dT U_X11_said 7 rfl) (by decide) (by unfold xr; omega) (by unfold xr; omega) (fun c11 => (by exfalso; omega)) (fun c11 => ?_)
  refine x_iload_n (dT U_X11_said 8 rfl) rfl ?_
  refine x_bipush (dT U_X11_said 9 rfl) (by decide) ?_
  refine x_icmp_ne (tgt := 24) (dT U_X11_said 10 rfl) (by decide) (by unfold xr; omega) (by unfold xr; omega) (fun c17 => ?_) (fun c17 => (by exfalso; omega))
  refine x_iload_n (dT U_X11_said 13 rfl) rfl ?_
  refine x_iconst (dT U_X11_said 14 rfl) ?_
  refine x_icmp_ne (tgt := 33) (dT U_X11_said 15 rfl) (by decide) (by unfold xr; omega) (by unfold xr; omega) (fun c26 => ?_) (fun c26 => (by exfalso; omega))
  refine x_iconst (dT U_X11_said 18 rfl) ?_
  refine x_istore_n (ls' := [some (.ref _), some (vi _), some (vi _), some (vi _)]) (dT U_X11_said 19 rfl) (by decide) rfl ?_
  refine x_aload_n (dT U_X11_said 20 rfl) rfl ?_
  refine x_getfield F_X11_21 (dT U_X11_said 21 rfl) w.c70 (Nat.le_of_ble_eq_true rfl) rfl ?_
  refine x_iload_n (dT U_X11_said 22 rfl) rfl ?_
  refine x_ialoadv (i) (dT U_X11_said 23 rfl) w.c82 (Nat.le_of_ble_eq_true rfl) rfl (show i < 5 by omega) (show 5 < 2147483648 by decide) (show _ = ((σ.R i).st : Int) from t5_get hi) ?_
  refine x_iload_n (dT U_X11_said 24 rfl) rfl ?_
  refine x_icmp_ge (tgt := 47) (dT U_X11_said 25 rfl) (by decide) (by unfold xr; omega) (by unfold xr; omega) (fun c42 => ?_) (fun c42 => ?_)
  · skip
    refine x_iload_n (dT U_X11_said 28 rfl) rfl ?_
    refine x_if_eq (tgt := 56) (dT U_X11_said 29 rfl) (by decide) (by unfold xr; omega) (fun c48 => (by exfalso; omega)) (fun c48 => ?_)
    refine x_iload_n (dT U_X11_said 30 rfl) rfl ?_
    refine x_iconst (dT U_X11_said 31 rfl) ?_
    refine x_icmp_ne (tgt := 81) (dT U_X11_said 32 rfl) (by decide) (by unfold xr; omega) (by unfold xr; omega) (fun c53 => ?_) (fun c53 => (by exfalso; omega))
    refine x_iload_n (dT U_X11_said 48 rfl) rfl ?_
    refine x_iconst (dT U_X11_said 49 rfl) ?_
    refine x_icmp_eq (tgt := 91) (dT U_X11_said 50 rfl) (by decide) (by unfold xr; omega) (by unfold xr; omega) (fun c83 => (by exfalso; omega)) (fun c83 => ?_)
    refine x_iload_n (dT U_X11_said 51 rfl) rfl ?_
    refine x_iconst (dT U_X11_said 52 rfl) ?_
    refine x_icmp_ne (tgt := 112) (dT U_X11_said 53 rfl) (by decide) (by unfold xr; omega) (by unfold xr; omega) (fun c88 => ?_) (fun c88 => (by exfalso; omega))
    refine x_iload_n (dT U_X11_said 67 rfl) rfl ?_
    refine x_iconst (dT U_X11_said 68 rfl) ?_
    refine x_icmp_ne (tgt := 126) (dT U_X11_said 69 rfl) (by decide) (by unfold xr; omega) (by unfold xr; omega) (fun c114 => ?_) (fun c114 => (by exfalso; omega))
    refine x_iload_n (dT U_X11_said 75 rfl) rfl ?_
    refine x_iconst (dT U_X11_said 76 rfl) ?_
    refine x_icmp_ne (tgt := 140) (dT U_X11_said 77 rfl) (by decide) (by unfold xr; omega) (by unfold xr; omega) (fun c128 => (by exfalso; omega)) (fun c128 => ?_)
    refine x_aload_n (dT U_X11_said 78 rfl) rfl ?_
    refine x_getfield F_X11_55 (dT U_X11_said 79 rfl) w.c70 (Nat.le_of_ble_eq_true rfl) rfl ?_
    refine x_iload_n (dT U_X11_said 80 rfl) rfl ?_
    refine x_ialoadv (i) (dT U_X11_said 81 rfl) w.c108 (Nat.le_of_ble_eq_true rfl) rfl (show i < 5 by omega) (show 5 < 2147483648 by decide) (show _ = (σ.R i).t from t5_get hi) ?_
    refine x_goto (tgt := 145) (dT U_X11_said 82 rfl) (by decide) ?_
    refine x_ireturn (dT U_X11_said 86 rfl) rfl ?_
    first | (rw [show (σ.R i).tt = -1 from if_neg (by omega)] at k; exact k) | (rw [show (σ.R i).tt = _ from if_pos (by omega)] at k; exact k)
  · skip
    refine x_iconst (dT U_X11_said 26 rfl) ?_
    refine x_ireturn (dT U_X11_said 27 rfl) rfl ?_
    first | (rw [show (σ.R i).tt = -1 from if_neg (by omega)] at k; exact k) | (rw [show (σ.R i).tt = _ from if_pos (by omega)] at k; exact k)

set_option maxRecDepth 20000 in
set_option maxHeartbeats 1000000 in
theorem S_X11_said6 {G : xG} {d rc rs : Nat} {ex : Bool} {h : xH} {Q : xQ} {σ : St} {cc0 : Int} {rr : Nat} {ss : Int} {i : Nat} (w : MX σ cc0 rr ss h) (v : INV σ) (hi : i < 4) (k : Q (.inl (some (vi ((if 2 ≤ (σ.R i).st then trs σ.p (σ.R i) else -1))))) ex h) : X G m_X11_said (d + 2) rc rs ex 0 (xe m_X11_said.2.2.1 [.ref 70, vi (i : Int), vi 6]) [] h Q := by
  show X G m_X11_said _ _ _ _ 0 [some (.ref 70), some (vi (i : Int)), some (vi 6), none] [] h Q
  have hp := PRb v.p
  have hq := gq_b v.p
  have ok := (v.R i hi).1
  have s4 := ok.s4
  refine x_iload_n (dT U_X11_said 0 rfl) rfl ?_
  refine x_iconst (dT U_X11_said 1 rfl) ?_
  refine x_icmp_ge (tgt := 9) (dT U_X11_said 2 rfl) (by decide) (by unfold xr; omega) (by unfold xr; omega) (fun c2 => ?_) (fun c2 => (by exfalso; omega))
  refine x_iload_n (dT U_X11_said 5 rfl) rfl ?_
  refine x_iconst (dT U_X11_said 6 rfl) ?_
  refine x_icmp_lt (tgt := 20) (dT U_X11_said 7 rfl) (by decide) (by unfold xr; omega) (by unfold xr; omega) (fun c11 => (by exfalso; omega)) (fun c11 => ?_)
  refine x_iload_n (dT U_X11_said 8 rfl) rfl ?_
  refine x_bipush (dT U_X11_said 9 rfl) (by decide) ?_
  refine x_icmp_ne (tgt := 24) (dT U_X11_said 10 rfl) (by decide) (by unfold xr; omega) (by unfold xr; omega) (fun c17 => (by exfalso; omega)) (fun c17 => ?_)
  refine x_iconst (dT U_X11_said 11 rfl) ?_
  refine x_goto (tgt := 34) (dT U_X11_said 12 rfl) (by decide) ?_
  refine x_istore_n (ls' := [some (.ref _), some (vi _), some (vi _), some (vi _)]) (dT U_X11_said 19 rfl) (by decide) rfl ?_
  refine x_aload_n (dT U_X11_said 20 rfl) rfl ?_
  refine x_getfield F_X11_21 (dT U_X11_said 21 rfl) w.c70 (Nat.le_of_ble_eq_true rfl) rfl ?_
  refine x_iload_n (dT U_X11_said 22 rfl) rfl ?_
  refine x_ialoadv (i) (dT U_X11_said 23 rfl) w.c82 (Nat.le_of_ble_eq_true rfl) rfl (show i < 5 by omega) (show 5 < 2147483648 by decide) (show _ = ((σ.R i).st : Int) from t5_get hi) ?_
  refine x_iload_n (dT U_X11_said 24 rfl) rfl ?_
  refine x_icmp_ge (tgt := 47) (dT U_X11_said 25 rfl) (by decide) (by unfold xr; omega) (by unfold xr; omega) (fun c42 => ?_) (fun c42 => ?_)
  · skip
    refine x_iload_n (dT U_X11_said 28 rfl) rfl ?_
    refine x_if_eq (tgt := 56) (dT U_X11_said 29 rfl) (by decide) (by unfold xr; omega) (fun c48 => (by exfalso; omega)) (fun c48 => ?_)
    refine x_iload_n (dT U_X11_said 30 rfl) rfl ?_
    refine x_iconst (dT U_X11_said 31 rfl) ?_
    refine x_icmp_ne (tgt := 81) (dT U_X11_said 32 rfl) (by decide) (by unfold xr; omega) (by unfold xr; omega) (fun c53 => ?_) (fun c53 => (by exfalso; omega))
    refine x_iload_n (dT U_X11_said 48 rfl) rfl ?_
    refine x_iconst (dT U_X11_said 49 rfl) ?_
    refine x_icmp_eq (tgt := 91) (dT U_X11_said 50 rfl) (by decide) (by unfold xr; omega) (by unfold xr; omega) (fun c83 => (by exfalso; omega)) (fun c83 => ?_)
    refine x_iload_n (dT U_X11_said 51 rfl) rfl ?_
    refine x_iconst (dT U_X11_said 52 rfl) ?_
    refine x_icmp_ne (tgt := 112) (dT U_X11_said 53 rfl) (by decide) (by unfold xr; omega) (by unfold xr; omega) (fun c88 => ?_) (fun c88 => (by exfalso; omega))
    refine x_iload_n (dT U_X11_said 67 rfl) rfl ?_
    refine x_iconst (dT U_X11_said 68 rfl) ?_
    refine x_icmp_ne (tgt := 126) (dT U_X11_said 69 rfl) (by decide) (by unfold xr; omega) (by unfold xr; omega) (fun c114 => ?_) (fun c114 => (by exfalso; omega))
    refine x_iload_n (dT U_X11_said 75 rfl) rfl ?_
    refine x_iconst (dT U_X11_said 76 rfl) ?_
    refine x_icmp_ne (tgt := 140) (dT U_X11_said 77 rfl) (by decide) (by unfold xr; omega) (by unfold xr; omega) (fun c128 => ?_) (fun c128 => (by exfalso; omega))
    refine x_aload_n (dT U_X11_said 83 rfl) rfl ?_
    refine x_iload_n (dT U_X11_said 84 rfl) rfl ?_
    refine x_invokevirtual (rc' := rc) (rs' := rs) (rc2 := 0) (rs2 := 0) (As := [_]) (st := _) M_X11_transcript K_X11_251 (dT U_X11_said 85 rfl) rfl rfl (by decide) rfl rfl w.c70 (Nat.le_of_ble_eq_true rfl) (by decide) rfl (Nat.le_of_ble_eq_true rfl) rfl (by decide) (Nat.le_of_ble_eq_true rfl) rfl rfl ?_
    refine S_X11_transcript w v hi (by omega) ?_
    refine xRet_some ?_
    refine x_ireturn (dT U_X11_said 86 rfl) rfl ?_
    first | (rw [show (if 2 ≤ (σ.R i).st then trs σ.p (σ.R i) else -1) = -1 from if_neg (by omega)] at k; exact k) | (rw [show (if 2 ≤ (σ.R i).st then trs σ.p (σ.R i) else -1) = _ from if_pos (by omega)] at k; exact k)
  · skip
    refine x_iconst (dT U_X11_said 26 rfl) ?_
    refine x_ireturn (dT U_X11_said 27 rfl) rfl ?_
    first | (rw [show (if 2 ≤ (σ.R i).st then trs σ.p (σ.R i) else -1) = -1 from if_neg (by omega)] at k; exact k) | (rw [show (if 2 ≤ (σ.R i).st then trs σ.p (σ.R i) else -1) = _ from if_pos (by omega)] at k; exact k)

theorem S_said {G : xG} {d rc rs : Nat} {ex : Bool} {h : xH} {Q : xQ} {σ : St} {cc0 : Int} {rr : Nat} {ss : Int} {i n : Nat} (w : MX σ cc0 rr ss h) (v : INV σ) (hi : i < 4) (hn : n < 6) (k : Q (.inl (some (vi ((σ.R i).num σ.p n)))) ex h) : X G m_X11_said (d + 2) rc rs ex 0 (xe m_X11_said.2.2.1 [.ref 70, vi (i : Int), vi (n : Int)]) [] h Q := by
  have : n = 0 ∨ n = 1 ∨ n = 2 ∨ n = 3 ∨ n = 4 ∨ n = 5 := by omega
  rcases this with rfl | rfl | rfl | rfl | rfl | rfl
  · exact S_X11_said0 w v hi k
  · exact S_X11_said1 w v hi k
  · exact S_X11_said2 w v hi k
  · exact S_X11_said3 w v hi k
  · exact S_X11_said4 w v hi k
  · exact S_X11_said5 w v hi k
theorem S_saidA {G : xG} {d rc rs : Nat} {ex : Bool} {h : xH} {Q : xQ} {σ : St} {cc0 : Int} {rr : Nat} {ss : Int} {i : Nat} {z : Int} (w : MX σ cc0 rr ss h) (v : INV σ) (hi : i < 4) (hn : 0 ≤ z ∧ z < 7) (k : Q (.inl (some (vi (if z = 6 then (if 2 ≤ (σ.R i).st then trs σ.p (σ.R i) else -1) else (σ.R i).num σ.p z.toNat)))) ex h) : X G m_X11_said (d + 2) rc rs ex 0 (xe m_X11_said.2.2.1 [.ref 70, vi (i : Int), vi z]) [] h Q := by
  by_cases e : z = 6
  · subst e
    exact S_X11_said6 w v hi k
  · rw [if_neg e] at k
    obtain ⟨n, rfl⟩ := Int.eq_ofNat_of_zero_le hn.1
    exact S_said w v hi (by omega) k

set_option maxRecDepth 20000 in
set_option maxHeartbeats 1000000 in
theorem S_X11_told {G : xG} {d rc rs : Nat} {ex : Bool} {h : xH} {Q : xQ} {σ : St} {cc0 : Int} {rr : Nat} {ss : Int} {run what : Int} (w : MX σ cc0 rr ss h) (v : INV σ) (h_run : xr run) (h_what : xr what) (e1 : ¬ (inb run 4) → ∀ h2 z, Ag 70 142 h h2 → MX σ 1 rr ss h2 → xr z → Q (.inl (some (vi z))) ex h2) (e2 : (inb run 4) → ¬ (inb what 7) → ∀ h2 z, Ag 70 142 h h2 → MX σ 2 rr ss h2 → xr z → Q (.inl (some (vi z))) ex h2) (k : (inb run 4) → (inb what 7) → ∀ h2 r2 s2, Ag 70 142 h h2 → MX σ 0 r2 s2 h2 → Q (.inl (some (vi (if what = 6 then (if 2 ≤ (σ.R run.toNat).st then trs σ.p (σ.R run.toNat) else -1) else (σ.R run.toNat).num σ.p what.toNat)))) ex h2) : X G m_X11_told (d + 3) rc rs ex 0 (xe m_X11_told.2.2.1 [.ref 70, vi run, vi what]) [] h Q := by
  show X G m_X11_told _ _ _ _ 0 [some (.ref 70), some (vi run), some (vi what)] [] h Q
  have hp := PRb v.p
  have hq := gq_b v.p
  refine x_aload_n (dT U_X11_told 0 rfl) rfl ?_
  refine x_iload_n (dT U_X11_told 1 rfl) rfl ?_
  refine x_invokestatic (rc' := rc) (rs' := rs) (rc2 := 0) (rs2 := 0) (As := [_]) (st := _) M_X11_isRun K_X11_244 (dT U_X11_told 2 rfl) rfl rfl rfl rfl (Nat.le_of_ble_eq_true rfl) rfl (by decide) (Nat.le_of_ble_eq_true rfl) rfl rfl ?_
  refine S_X11_isRun h_run (fun q1 => ?_) (fun q1 => ?_)
  · refine xRet_some ?_
    refine x_iconst (dT U_X11_told 3 rfl) ?_
    refine x_invokevirtual (rc' := rc) (rs' := rs) (rc2 := 0) (rs2 := 0) (As := [_, _]) (st := _) M_X11_lets K_X11_167 (dT U_X11_told 4 rfl) rfl rfl (by decide) rfl rfl w.c70 (Nat.le_of_ble_eq_true rfl) (by decide) rfl (Nat.le_of_ble_eq_true rfl) rfl (by decide) (Nat.le_of_ble_eq_true rfl) rfl rfl ?_
    refine S_X11_lets1 w (fun h1 g1 w1 => ?_)
    refine xRet_some ?_
    obtain ⟨i, hi, rfl⟩ : ∃ j : Nat, j < 4 ∧ run = (j : Int) := ⟨run.toNat, by omega, by omega⟩
    try simp only [tnc] at e1 e2 k
    refine x_if_eqn (tgt := 35) (dT U_X11_told 5 rfl) (by decide) (by decide) ?_
    refine x_aload_n (dT U_X11_told 6 rfl) rfl ?_
    refine x_iload_n (dT U_X11_told 7 rfl) rfl ?_
    refine x_bipush (dT U_X11_told 8 rfl) (by decide) ?_
    refine x_invokestatic (rc' := rc) (rs' := rs) (rc2 := 0) (rs2 := 0) (As := [_, _]) (st := _) M_X11_in K_X11_126 (dT U_X11_told 9 rfl) rfl rfl rfl rfl (Nat.le_of_ble_eq_true rfl) rfl (by decide) (Nat.le_of_ble_eq_true rfl) rfl rfl ?_
    refine S_X11_in h_what (by unfold xr; omega) (fun q2 => ?_) (fun q2 => ?_)
    · refine xRet_some ?_
      refine x_iconst (dT U_X11_told 10 rfl) ?_
      refine x_invokevirtual (rc' := rc) (rs' := rs) (rc2 := 0) (rs2 := 0) (As := [_, _]) (st := _) M_X11_lets K_X11_167 (dT U_X11_told 11 rfl) rfl rfl (by decide) rfl rfl w1.c70 (Nat.le_of_ble_eq_true rfl) (by decide) rfl (Nat.le_of_ble_eq_true rfl) rfl (by decide) (Nat.le_of_ble_eq_true rfl) rfl rfl ?_
      refine S_X11_lets1 w1 (fun h2 g2 w2 => ?_)
      refine xRet_some ?_
      refine x_if_eqn (tgt := 35) (dT U_X11_told 12 rfl) (by decide) (by decide) ?_
      refine x_aload_n (dT U_X11_told 13 rfl) rfl ?_
      refine x_iload_n (dT U_X11_told 14 rfl) rfl ?_
      refine x_iload_n (dT U_X11_told 15 rfl) rfl ?_
      refine x_invokevirtual (rc' := rc) (rs' := rs) (rc2 := 0) (rs2 := 0) (As := [_, _]) (st := _) M_X11_said K_X11_268 (dT U_X11_told 16 rfl) rfl rfl (by decide) rfl rfl w2.c70 (Nat.le_of_ble_eq_true rfl) (by decide) rfl (Nat.le_of_ble_eq_true rfl) rfl (by decide) (Nat.le_of_ble_eq_true rfl) rfl rfl ?_
      refine S_saidA w2 v hi (by omega) ?_
      refine xRet_some ?_
      refine x_goto (tgt := 36) (dT U_X11_told 17 rfl) (by decide) ?_
      refine x_ireturn (dT U_X11_told 19 rfl) rfl ?_
      exact k (by omega) (by omega) _ _ _ (Ag.tr (Ag.tr (Ag.rf 70 142 h) (g1.w (by omega))) (g2.w (by omega))) w2
    · refine xRet_some ?_
      refine x_iconst (dT U_X11_told 10 rfl) ?_
      refine x_invokevirtual (rc' := rc) (rs' := rs) (rc2 := 0) (rs2 := 0) (As := [_, _]) (st := _) M_X11_lets K_X11_167 (dT U_X11_told 11 rfl) rfl rfl (by decide) rfl rfl w1.c70 (Nat.le_of_ble_eq_true rfl) (by decide) rfl (Nat.le_of_ble_eq_true rfl) rfl (by decide) (Nat.le_of_ble_eq_true rfl) rfl rfl ?_
      refine S_X11_lets0 w1 (fun h2 g2 w2 => ?_)
      refine xRet_some ?_
      refine x_if_eqj (tgt := 35) (dT U_X11_told 12 rfl) (by decide) (by decide) ?_
      refine x_iconst (dT U_X11_told 18 rfl) ?_
      refine x_ireturn (dT U_X11_told 19 rfl) rfl ?_
      exact e2 (by omega) (by omega) _ _ (Ag.tr (Ag.tr (Ag.rf 70 142 h) (g1.w (by omega))) (g2.w (by omega))) w2 (by unfold xr; omega)
  · refine xRet_some ?_
    refine x_iconst (dT U_X11_told 3 rfl) ?_
    refine x_invokevirtual (rc' := rc) (rs' := rs) (rc2 := 0) (rs2 := 0) (As := [_, _]) (st := _) M_X11_lets K_X11_167 (dT U_X11_told 4 rfl) rfl rfl (by decide) rfl rfl w.c70 (Nat.le_of_ble_eq_true rfl) (by decide) rfl (Nat.le_of_ble_eq_true rfl) rfl (by decide) (Nat.le_of_ble_eq_true rfl) rfl rfl ?_
    refine S_X11_lets0 w (fun h1 g1 w1 => ?_)
    refine xRet_some ?_
    refine x_if_eqj (tgt := 35) (dT U_X11_told 5 rfl) (by decide) (by decide) ?_
    refine x_iconst (dT U_X11_told 18 rfl) ?_
    refine x_ireturn (dT U_X11_told 19 rfl) rfl ?_
    exact e1 (by omega) _ _ (Ag.tr (Ag.rf 70 142 h) (g1.w (by omega))) w1 (by unfold xr; omega)

set_option maxRecDepth 20000 in
set_option maxHeartbeats 1000000 in
theorem S_X11_form {G : xG} {d rc rs : Nat} {ex : Bool} {h : xH} {Q : xQ} {σ : St} {cc0 : Int} {rr : Nat} {ss : Int} {run place isAnswer : Int} (w : MX σ cc0 rr ss h) (v : INV σ) (h_run : xr run) (h_place : xr place) (h_isAnswer : isAnswer = 0 ∨ isAnswer = 1) (e1 : ¬ (inb run 4 ∧ inb place 8) → ∀ h2 z, Ag 70 142 h h2 → MX σ 1 rr ss h2 → xr z → Q (.inl (some (vi z))) ex h2) (e2 : (inb run 4 ∧ inb place 8) → ¬ (1 ≤ (σ.R run.toNat).st ∧ (isAnswer = 1 → 4 ≤ (σ.R run.toNat).st)) → ∀ h2 z, Ag 70 142 h h2 → MX σ 2 rr ss h2 → xr z → Q (.inl (some (vi z))) ex h2) (k : (inb run 4 ∧ inb place 8) → (1 ≤ (σ.R run.toNat).st ∧ (isAnswer = 1 → 4 ≤ (σ.R run.toNat).st)) → ∀ h2 r2 s2, Ag 70 142 h h2 → MX σ 0 r2 s2 h2 → Q (.inl (some (vi (if isAnswer = 1 then (σ.R run.toNat).answer.getD place.toNat 0 else (σ.R run.toNat).form.getD place.toNat 0)))) ex h2) : X G m_X11_form (d + 2) rc rs ex 0 (xe m_X11_form.2.2.1 [.ref 70, vi run, vi place, vi isAnswer]) [] h Q := by
  show X G m_X11_form _ _ _ _ 0 [some (.ref 70), some (vi run), some (vi place), some (vi isAnswer)] [] h Q
  have hp := PRb v.p
  have hq := gq_b v.p
  refine x_aload_n (dT U_X11_form 0 rfl) rfl ?_
  refine x_iload_n (dT U_X11_form 1 rfl) rfl ?_
  refine x_invokestatic (rc' := rc) (rs' := rs) (rc2 := 0) (rs2 := 0) (As := [_]) (st := _) M_X11_isRun K_X11_244 (dT U_X11_form 2 rfl) rfl rfl rfl rfl (Nat.le_of_ble_eq_true rfl) rfl (by decide) (Nat.le_of_ble_eq_true rfl) rfl rfl ?_
  refine S_X11_isRun h_run (fun q1 => ?_) (fun q1 => ?_)
  · refine xRet_some ?_
    refine x_if_eqn (tgt := 19) (dT U_X11_form 3 rfl) (by decide) (by decide) ?_
    refine x_iload_n (dT U_X11_form 4 rfl) rfl ?_
    refine x_invokestatic (rc' := rc) (rs' := rs) (rc2 := 0) (rs2 := 0) (As := [_]) (st := _) M_X11_isRow K_X11_164 (dT U_X11_form 5 rfl) rfl rfl rfl rfl (Nat.le_of_ble_eq_true rfl) rfl (by decide) (Nat.le_of_ble_eq_true rfl) rfl rfl ?_
    refine S_X11_isRow h_place (fun q2 => ?_) (fun q2 => ?_)
    · refine xRet_some ?_
      refine x_if_eqn (tgt := 19) (dT U_X11_form 6 rfl) (by decide) (by decide) ?_
      refine x_iconst (dT U_X11_form 7 rfl) ?_
      refine x_goto (tgt := 20) (dT U_X11_form 8 rfl) (by decide) ?_
      refine x_iconst (dT U_X11_form 10 rfl) ?_
      refine x_invokevirtual (rc' := rc) (rs' := rs) (rc2 := 0) (rs2 := 0) (As := [_, _]) (st := _) M_X11_lets K_X11_167 (dT U_X11_form 11 rfl) rfl rfl (by decide) rfl rfl w.c70 (Nat.le_of_ble_eq_true rfl) (by decide) rfl (Nat.le_of_ble_eq_true rfl) rfl (by decide) (Nat.le_of_ble_eq_true rfl) rfl rfl ?_
      refine S_X11_lets1 w (fun h1 g1 w1 => ?_)
      refine xRet_some ?_
      obtain ⟨i, hi, rfl⟩ : ∃ j : Nat, j < 4 ∧ run = (j : Int) := ⟨run.toNat, by omega, by omega⟩
      try simp only [tnc] at e1 e2 k
      obtain ⟨j, hj, rfl⟩ : ∃ j : Nat, j < 8 ∧ place = (j : Int) := ⟨place.toNat, by omega, by omega⟩
      try simp only [tnc] at e1 e2 k
      refine x_if_eqn (tgt := 58) (dT U_X11_form 12 rfl) (by decide) (by decide) ?_
      refine x_aload_n (dT U_X11_form 13 rfl) rfl ?_
      refine x_aload_n (dT U_X11_form 14 rfl) rfl ?_
      refine x_getfield F_X11_21 (dT U_X11_form 15 rfl) w1.c70 (Nat.le_of_ble_eq_true rfl) rfl ?_
      refine x_iload_n (dT U_X11_form 16 rfl) rfl ?_
      refine x_ialoadv (i) (dT U_X11_form 17 rfl) w1.c82 (Nat.le_of_ble_eq_true rfl) rfl (show i < 5 by omega) (show 5 < 2147483648 by decide) (show _ = ((σ.R i).st : Int) from t5_get hi) ?_
      refine x_iload_n (dT U_X11_form 18 rfl) rfl ?_
      refine x_if_eq (tgt := 42) (dT U_X11_form 19 rfl) (by decide) (by unfold xr; omega) (fun c35 => ?_) (fun c35 => ?_)
      · skip
        refine x_iconst (dT U_X11_form 22 rfl) ?_
        have s4 := (v.R i hi).1.s4
        refine x_icmp_lt (tgt := 50) (dT U_X11_form 23 rfl) (by decide) (by unfold xr; omega) (by unfold xr; omega) (fun c43 => ?_) (fun c43 => ?_)
        · skip
          refine x_iconst (dT U_X11_form 26 rfl) ?_
          refine x_iconst (dT U_X11_form 27 rfl) ?_
          refine x_invokevirtual (rc' := rc) (rs' := rs) (rc2 := 0) (rs2 := 0) (As := [_, _]) (st := _) M_X11_lets K_X11_167 (dT U_X11_form 28 rfl) rfl rfl (by decide) rfl rfl w1.c70 (Nat.le_of_ble_eq_true rfl) (by decide) rfl (Nat.le_of_ble_eq_true rfl) rfl (by decide) (Nat.le_of_ble_eq_true rfl) rfl rfl ?_
          refine S_X11_lets0 w1 (fun h2 g2 w2 => ?_)
          refine xRet_some ?_
          refine x_if_nen (tgt := 60) (dT U_X11_form 29 rfl) (by decide) (by decide) ?_
          refine x_iconst (dT U_X11_form 30 rfl) ?_
          refine x_ireturn (dT U_X11_form 31 rfl) rfl ?_
          exact e2 (by omega) (by omega) _ _ (Ag.tr (Ag.tr (Ag.rf 70 142 h) (g1.w (by omega))) (g2.w (by omega))) w2 (by unfold xr; omega)
        · skip
          refine x_iconst (dT U_X11_form 24 rfl) ?_
          refine x_goto (tgt := 51) (dT U_X11_form 25 rfl) (by decide) ?_
          refine x_iconst (dT U_X11_form 27 rfl) ?_
          refine x_invokevirtual (rc' := rc) (rs' := rs) (rc2 := 0) (rs2 := 0) (As := [_, _]) (st := _) M_X11_lets K_X11_167 (dT U_X11_form 28 rfl) rfl rfl (by decide) rfl rfl w1.c70 (Nat.le_of_ble_eq_true rfl) (by decide) rfl (Nat.le_of_ble_eq_true rfl) rfl (by decide) (Nat.le_of_ble_eq_true rfl) rfl rfl ?_
          refine S_X11_lets1 w1 (fun h2 g2 w2 => ?_)
          refine xRet_some ?_
          refine x_if_nej (tgt := 60) (dT U_X11_form 29 rfl) (by decide) (by decide) ?_
          refine x_iload_n (dT U_X11_form 32 rfl) rfl ?_
          refine x_if_eq (tgt := 75) (dT U_X11_form 33 rfl) (by decide) (by unfold xr; omega) (fun c61 => ?_) (fun c61 => ?_)
          · skip
            refine x_aload_n (dT U_X11_form 41 rfl) rfl ?_
            refine x_getfield F_X11_27 (dT U_X11_form 42 rfl) w2.c70 (Nat.le_of_ble_eq_true rfl) rfl ?_
            refine x_iload_n (dT U_X11_form 43 rfl) rfl ?_
            refine x_aaload (i) (dT U_X11_form 44 rfl) w2.c84 (Nat.le_of_ble_eq_true rfl) (by decide) rfl (mfL_get (by omega)) (Nat.le_of_ble_eq_true rfl) ?_
            refine x_iload_n (dT U_X11_form 45 rfl) rfl ?_
            refine x_iaload (j) (dT U_X11_form 46 rfl) (w2.forms i hi) (by omega) rfl (by rw [(v.R i hi).1.f24.1]; omega) (by rw [(v.R i hi).1.f24.1]; omega) ?_
            refine x_ireturn (dT U_X11_form 47 rfl) rfl ?_
            first | (rw [if_neg (by omega)] at k; exact k (by omega) (by omega) _ _ _ (Ag.tr (Ag.tr (Ag.rf 70 142 h) (g1.w (by omega))) (g2.w (by omega))) w2) | (rw [if_pos (by omega)] at k; exact k (by omega) (by omega) _ _ _ (Ag.tr (Ag.tr (Ag.rf 70 142 h) (g1.w (by omega))) (g2.w (by omega))) w2)
          · skip
            refine x_aload_n (dT U_X11_form 34 rfl) rfl ?_
            refine x_getfield F_X11_52 (dT U_X11_form 35 rfl) w2.c70 (Nat.le_of_ble_eq_true rfl) rfl ?_
            refine x_iload_n (dT U_X11_form 36 rfl) rfl ?_
            refine x_aaload (i) (dT U_X11_form 37 rfl) w2.c102 (Nat.le_of_ble_eq_true rfl) (by decide) rfl (maL_get (by omega)) (Nat.le_of_ble_eq_true rfl) ?_
            refine x_iload_n (dT U_X11_form 38 rfl) rfl ?_
            refine x_iaload (j) (dT U_X11_form 39 rfl) (w2.answers i hi) (by omega) rfl (by rw [(v.R i hi).1.a24.1]; omega) (by rw [(v.R i hi).1.a24.1]; omega) ?_
            refine x_goto (tgt := 83) (dT U_X11_form 40 rfl) (by decide) ?_
            refine x_ireturn (dT U_X11_form 47 rfl) rfl ?_
            first | (rw [if_neg (by omega)] at k; exact k (by omega) (by omega) _ _ _ (Ag.tr (Ag.tr (Ag.rf 70 142 h) (g1.w (by omega))) (g2.w (by omega))) w2) | (rw [if_pos (by omega)] at k; exact k (by omega) (by omega) _ _ _ (Ag.tr (Ag.tr (Ag.rf 70 142 h) (g1.w (by omega))) (g2.w (by omega))) w2)
      · skip
        refine x_iconst (dT U_X11_form 20 rfl) ?_
        refine x_goto (tgt := 43) (dT U_X11_form 21 rfl) (by decide) ?_
        have s4 := (v.R i hi).1.s4
        refine x_icmp_lt (tgt := 50) (dT U_X11_form 23 rfl) (by decide) (by unfold xr; omega) (by unfold xr; omega) (fun c43 => ?_) (fun c43 => ?_)
        · skip
          refine x_iconst (dT U_X11_form 26 rfl) ?_
          refine x_iconst (dT U_X11_form 27 rfl) ?_
          refine x_invokevirtual (rc' := rc) (rs' := rs) (rc2 := 0) (rs2 := 0) (As := [_, _]) (st := _) M_X11_lets K_X11_167 (dT U_X11_form 28 rfl) rfl rfl (by decide) rfl rfl w1.c70 (Nat.le_of_ble_eq_true rfl) (by decide) rfl (Nat.le_of_ble_eq_true rfl) rfl (by decide) (Nat.le_of_ble_eq_true rfl) rfl rfl ?_
          refine S_X11_lets0 w1 (fun h2 g2 w2 => ?_)
          refine xRet_some ?_
          refine x_if_nen (tgt := 60) (dT U_X11_form 29 rfl) (by decide) (by decide) ?_
          refine x_iconst (dT U_X11_form 30 rfl) ?_
          refine x_ireturn (dT U_X11_form 31 rfl) rfl ?_
          exact e2 (by omega) (by omega) _ _ (Ag.tr (Ag.tr (Ag.rf 70 142 h) (g1.w (by omega))) (g2.w (by omega))) w2 (by unfold xr; omega)
        · skip
          refine x_iconst (dT U_X11_form 24 rfl) ?_
          refine x_goto (tgt := 51) (dT U_X11_form 25 rfl) (by decide) ?_
          refine x_iconst (dT U_X11_form 27 rfl) ?_
          refine x_invokevirtual (rc' := rc) (rs' := rs) (rc2 := 0) (rs2 := 0) (As := [_, _]) (st := _) M_X11_lets K_X11_167 (dT U_X11_form 28 rfl) rfl rfl (by decide) rfl rfl w1.c70 (Nat.le_of_ble_eq_true rfl) (by decide) rfl (Nat.le_of_ble_eq_true rfl) rfl (by decide) (Nat.le_of_ble_eq_true rfl) rfl rfl ?_
          refine S_X11_lets1 w1 (fun h2 g2 w2 => ?_)
          refine xRet_some ?_
          refine x_if_nej (tgt := 60) (dT U_X11_form 29 rfl) (by decide) (by decide) ?_
          refine x_iload_n (dT U_X11_form 32 rfl) rfl ?_
          refine x_if_eq (tgt := 75) (dT U_X11_form 33 rfl) (by decide) (by unfold xr; omega) (fun c61 => ?_) (fun c61 => ?_)
          · skip
            refine x_aload_n (dT U_X11_form 41 rfl) rfl ?_
            refine x_getfield F_X11_27 (dT U_X11_form 42 rfl) w2.c70 (Nat.le_of_ble_eq_true rfl) rfl ?_
            refine x_iload_n (dT U_X11_form 43 rfl) rfl ?_
            refine x_aaload (i) (dT U_X11_form 44 rfl) w2.c84 (Nat.le_of_ble_eq_true rfl) (by decide) rfl (mfL_get (by omega)) (Nat.le_of_ble_eq_true rfl) ?_
            refine x_iload_n (dT U_X11_form 45 rfl) rfl ?_
            refine x_iaload (j) (dT U_X11_form 46 rfl) (w2.forms i hi) (by omega) rfl (by rw [(v.R i hi).1.f24.1]; omega) (by rw [(v.R i hi).1.f24.1]; omega) ?_
            refine x_ireturn (dT U_X11_form 47 rfl) rfl ?_
            first | (rw [if_neg (by omega)] at k; exact k (by omega) (by omega) _ _ _ (Ag.tr (Ag.tr (Ag.rf 70 142 h) (g1.w (by omega))) (g2.w (by omega))) w2) | (rw [if_pos (by omega)] at k; exact k (by omega) (by omega) _ _ _ (Ag.tr (Ag.tr (Ag.rf 70 142 h) (g1.w (by omega))) (g2.w (by omega))) w2)
          · skip
            refine x_aload_n (dT U_X11_form 34 rfl) rfl ?_
            refine x_getfield F_X11_52 (dT U_X11_form 35 rfl) w2.c70 (Nat.le_of_ble_eq_true rfl) rfl ?_
            refine x_iload_n (dT U_X11_form 36 rfl) rfl ?_
            refine x_aaload (i) (dT U_X11_form 37 rfl) w2.c102 (Nat.le_of_ble_eq_true rfl) (by decide) rfl (maL_get (by omega)) (Nat.le_of_ble_eq_true rfl) ?_
            refine x_iload_n (dT U_X11_form 38 rfl) rfl ?_
            refine x_iaload (j) (dT U_X11_form 39 rfl) (w2.answers i hi) (by omega) rfl (by rw [(v.R i hi).1.a24.1]; omega) (by rw [(v.R i hi).1.a24.1]; omega) ?_
            refine x_goto (tgt := 83) (dT U_X11_form 40 rfl) (by decide) ?_
            refine x_ireturn (dT U_X11_form 47 rfl) rfl ?_
            first | (rw [if_neg (by omega)] at k; exact k (by omega) (by omega) _ _ _ (Ag.tr (Ag.tr (Ag.rf 70 142 h) (g1.w (by omega))) (g2.w (by omega))) w2) | (rw [if_pos (by omega)] at k; exact k (by omega) (by omega) _ _ _ (Ag.tr (Ag.tr (Ag.rf 70 142 h) (g1.w (by omega))) (g2.w (by omega))) w2)
    · refine xRet_some ?_
      refine x_if_eqj (tgt := 19) (dT U_X11_form 6 rfl) (by decide) (by decide) ?_
      refine x_iconst (dT U_X11_form 9 rfl) ?_
      refine x_iconst (dT U_X11_form 10 rfl) ?_
      refine x_invokevirtual (rc' := rc) (rs' := rs) (rc2 := 0) (rs2 := 0) (As := [_, _]) (st := _) M_X11_lets K_X11_167 (dT U_X11_form 11 rfl) rfl rfl (by decide) rfl rfl w.c70 (Nat.le_of_ble_eq_true rfl) (by decide) rfl (Nat.le_of_ble_eq_true rfl) rfl (by decide) (Nat.le_of_ble_eq_true rfl) rfl rfl ?_
      refine S_X11_lets0 w (fun h1 g1 w1 => ?_)
      refine xRet_some ?_
      refine x_if_eqj (tgt := 58) (dT U_X11_form 12 rfl) (by decide) (by decide) ?_
      refine x_iconst (dT U_X11_form 30 rfl) ?_
      refine x_ireturn (dT U_X11_form 31 rfl) rfl ?_
      exact e1 (by omega) _ _ (Ag.tr (Ag.rf 70 142 h) (g1.w (by omega))) w1 (by unfold xr; omega)
  · refine xRet_some ?_
    refine x_if_eqj (tgt := 19) (dT U_X11_form 3 rfl) (by decide) (by decide) ?_
    refine x_iconst (dT U_X11_form 9 rfl) ?_
    refine x_iconst (dT U_X11_form 10 rfl) ?_
    refine x_invokevirtual (rc' := rc) (rs' := rs) (rc2 := 0) (rs2 := 0) (As := [_, _]) (st := _) M_X11_lets K_X11_167 (dT U_X11_form 11 rfl) rfl rfl (by decide) rfl rfl w.c70 (Nat.le_of_ble_eq_true rfl) (by decide) rfl (Nat.le_of_ble_eq_true rfl) rfl (by decide) (Nat.le_of_ble_eq_true rfl) rfl rfl ?_
    refine S_X11_lets0 w (fun h1 g1 w1 => ?_)
    refine xRet_some ?_
    refine x_if_eqj (tgt := 58) (dT U_X11_form 12 rfl) (by decide) (by decide) ?_
    refine x_iconst (dT U_X11_form 30 rfl) ?_
    refine x_ireturn (dT U_X11_form 31 rfl) rfl ?_
    exact e1 (by omega) _ _ (Ag.tr (Ag.rf 70 142 h) (g1.w (by omega))) w1 (by unfold xr; omega)
