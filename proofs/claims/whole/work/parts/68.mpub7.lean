set_option maxRecDepth 20000 in
set_option maxHeartbeats 1000000 in
theorem S_X11_holds0 {G : xG} {d rc rs : Nat} {ex : Bool} {h : xH} {Q : xQ} {σ : St} {cc0 : Int} {rr : Nat} {ss : Int} {i : Nat} (w : MX σ cc0 rr ss h) (v : INV σ) (hi : i < 2) (hst : (σ.P i).st = 3) (k : Q (.inl (some (vi 1))) ex h) : X G m_X11_holds (d + 2) rc rs ex 0 (xe m_X11_holds.2.2.1 [.ref 70, vi (i : Int), vi 0]) [] h Q := by
  show X G m_X11_holds _ _ _ _ 0 [some (.ref 70), some (vi (i : Int)), some (vi 0)] [] h Q
  have hp := PRb v.p
  have hq := gq_b v.p
  have okp := v.P i hi
  obtain ⟨f0e, f1e, cce, c0b, c1b, t0b, t1b⟩ := okp.all v.p hst
  have se := okp.eb hp.1 (by omega)
  have b24 := okp.2.2.2.2
  have f0b : 0 ≤ (σ.P i).f0 ∧ (σ.P i).f0 < σ.p := by rw [f0e]; exact fo_b hp.1
  have f1b : 0 ≤ (σ.P i).f1 ∧ (σ.P i).f1 < σ.p := by rw [f1e]; exact fo_b hp.1
  refine x_aload_n (dT U_X11_holds 0 rfl) rfl ?_
  refine x_aload_n (dT U_X11_holds 1 rfl) rfl ?_
  refine x_getfield F_X11_82 (dT U_X11_holds 2 rfl) w.c70 (Nat.le_of_ble_eq_true rfl) rfl ?_
  refine x_iload_n (dT U_X11_holds 3 rfl) rfl ?_
  refine x_aaload (i) (dT U_X11_holds 4 rfl) w.c121 (Nat.le_of_ble_eq_true rfl) (by decide) rfl (btL_get (by omega)) (Nat.le_of_ble_eq_true rfl) ?_
  refine x_iload_n (dT U_X11_holds 5 rfl) rfl ?_
  refine x_ialoadv (0) (dT U_X11_holds 6 rfl) (w.bt i hi) (by omega) rfl (show 0 < 2 by omega) (show 2 < 2147483648 by decide) (show _ = (σ.P i).t0 from rfl) ?_
  refine x_i2l (dT U_X11_holds 7 rfl) (by unfold xr; omega) ?_
  refine x_aload_n (dT U_X11_holds 8 rfl) rfl ?_
  refine x_bipush (dT U_X11_holds 9 rfl) (by decide) ?_
  refine x_invokevirtual (rc' := rc) (rs' := rs) (rc2 := 0) (rs2 := 0) (As := [_]) (st := _) M_X11_of K_X11_160 (dT U_X11_holds 10 rfl) rfl rfl (by decide) rfl rfl w.c70 (Nat.le_of_ble_eq_true rfl) (by decide) rfl (Nat.le_of_ble_eq_true rfl) rfl (by decide) (Nat.le_of_ble_eq_true rfl) rfl rfl ?_
  have bb8 := bs_b v.p (i := 8) (by omega)
  refine S_X11_of (i := 8) (w.mp) v.p (by omega) ?_
  refine xRet_some ?_
  refine x_i2l (dT U_X11_holds 11 rfl) (by unfold xr; omega) ?_
  refine x_lmul (dT U_X11_holds 12 rfl) ?_
  refine x_invokevirtual (rc' := rc) (rs' := rs) (rc2 := 0) (rs2 := 0) (As := [_]) (st := _) M_X11_f K_X11_156 (dT U_X11_holds 13 rfl) rfl rfl (by decide) rfl rfl w.c70 (Nat.le_of_ble_eq_true rfl) (by decide) rfl (Nat.le_of_ble_eq_true rfl) rfl (by decide) (Nat.le_of_ble_eq_true rfl) rfl rfl ?_
  have m1 := mulg (a := (σ.P i).t0) (b := (bs σ.p 8 : Int)) (m := 23) (n := 23) (by omega) (by omega)
  refine S_X11_f (w.mp) v.p (by unfold xrl; omega) ?_
  refine xRet_some ?_
  refine x_aload_n (dT U_X11_holds 14 rfl) rfl ?_
  refine x_aload_n (dT U_X11_holds 15 rfl) rfl ?_
  refine x_getfield F_X11_76 (dT U_X11_holds 16 rfl) w.c70 (Nat.le_of_ble_eq_true rfl) rfl ?_
  refine x_iload_n (dT U_X11_holds 17 rfl) rfl ?_
  refine x_aaload (i) (dT U_X11_holds 18 rfl) w.c115 (Nat.le_of_ble_eq_true rfl) (by decide) rfl (bfL_get (by omega)) (Nat.le_of_ble_eq_true rfl) ?_
  refine x_iload_n (dT U_X11_holds 19 rfl) rfl ?_
  refine x_ialoadv (0) (dT U_X11_holds 20 rfl) (w.bf i hi) (by omega) rfl (show 0 < 2 by omega) (show 2 < 2147483648 by decide) (show _ = (σ.P i).f0 from rfl) ?_
  refine x_i2l (dT U_X11_holds 21 rfl) (by unfold xr; omega) ?_
  refine x_aload_n (dT U_X11_holds 22 rfl) rfl ?_
  refine x_getfield F_X11_79 (dT U_X11_holds 23 rfl) w.c70 (Nat.le_of_ble_eq_true rfl) rfl ?_
  refine x_iload_n (dT U_X11_holds 24 rfl) rfl ?_
  refine x_aaload (i) (dT U_X11_holds 25 rfl) w.c118 (Nat.le_of_ble_eq_true rfl) (by decide) rfl (bcL_get (by omega)) (Nat.le_of_ble_eq_true rfl) ?_
  refine x_iload_n (dT U_X11_holds 26 rfl) rfl ?_
  refine x_ialoadv (0) (dT U_X11_holds 27 rfl) (w.bc i hi) (by omega) rfl (show 0 < 2 by omega) (show 2 < 2147483648 by decide) (show _ = (σ.P i).c0 from rfl) ?_
  refine x_i2l (dT U_X11_holds 28 rfl) (by unfold xr; omega) ?_
  refine x_aload_n (dT U_X11_holds 29 rfl) rfl ?_
  refine x_iload_n (dT U_X11_holds 30 rfl) rfl ?_
  refine x_iload_n (dT U_X11_holds 31 rfl) rfl ?_
  refine x_invokevirtual (rc' := rc) (rs' := rs) (rc2 := 0) (rs2 := 0) (As := [_, _]) (st := _) M_X11_sideOf K_X11_281 (dT U_X11_holds 32 rfl) rfl rfl (by decide) rfl rfl w.c70 (Nat.le_of_ble_eq_true rfl) (by decide) rfl (Nat.le_of_ble_eq_true rfl) rfl (by decide) (Nat.le_of_ble_eq_true rfl) rfl rfl ?_
  have sd := modb (z := (σ.P i).e - 0 * (bs σ.p 0 : Int)) (p := (σ.p : Int)) (by omega)
  refine S_X11_sideOf0 (f := fun j => (σ.P j).e) (w.mp) v.p w.c110 hi se ?_
  change xRet _ _ _ _ _ _ _ _ _ _ (.inl (some (vi (((σ.P i).e - 0 * (bs σ.p 0 : Int)) % (σ.p : Int))))) _ _
  refine xRet_some ?_
  refine x_i2l (dT U_X11_holds 33 rfl) (by unfold xr; omega) ?_
  refine x_lmul (dT U_X11_holds 34 rfl) ?_
  refine x_ladd (dT U_X11_holds 35 rfl) ?_
  refine x_invokevirtual (rc' := rc) (rs' := rs) (rc2 := 0) (rs2 := 0) (As := [_]) (st := _) M_X11_f K_X11_156 (dT U_X11_holds 36 rfl) rfl rfl (by decide) rfl rfl w.c70 (Nat.le_of_ble_eq_true rfl) (by decide) rfl (Nat.le_of_ble_eq_true rfl) rfl (by decide) (Nat.le_of_ble_eq_true rfl) rfl rfl ?_
  have m2 := mulb (a := (σ.P i).c0) (b := ((σ.P i).e - 0 * (bs σ.p 0 : Int)) % (σ.p : Int)) (p := (σ.p : Int)) (by omega) sd (by omega)
  refine S_X11_f (w.mp) v.p (by unfold xrl; omega) ?_
  have e9 : ((σ.P i).t0 * (bs σ.p 8 : Int)) % (σ.p : Int) = ((σ.P i).f0 + (σ.P i).c0 * (((σ.P i).e - 0 * (bs σ.p 0 : Int)) % (σ.p : Int))) % (σ.p : Int) := by rw [f0e]; exact fo_h
  have z9 := modb (z := (σ.P i).t0 * (bs σ.p 8 : Int)) (p := (σ.p : Int)) (by omega)
  refine xRet_some ?_
  refine x_icmp_ne (tgt := 59) (dT U_X11_holds 37 rfl) (by decide) (by unfold xr; omega) (by unfold xr; omega) (fun c52 => ?_) (fun c52 => ?_)
  · exfalso; omega
  · skip
    refine x_iconst (dT U_X11_holds 38 rfl) ?_
    refine x_goto (tgt := 60) (dT U_X11_holds 39 rfl) (by decide) ?_
    refine x_zreturn (dT U_X11_holds 41 rfl) rfl (by omega) ?_
    exact k

set_option maxRecDepth 20000 in
set_option maxHeartbeats 1000000 in
theorem S_X11_holds1 {G : xG} {d rc rs : Nat} {ex : Bool} {h : xH} {Q : xQ} {σ : St} {cc0 : Int} {rr : Nat} {ss : Int} {i : Nat} (w : MX σ cc0 rr ss h) (v : INV σ) (hi : i < 2) (hst : (σ.P i).st = 3) (k : Q (.inl (some (vi 1))) ex h) : X G m_X11_holds (d + 2) rc rs ex 0 (xe m_X11_holds.2.2.1 [.ref 70, vi (i : Int), vi 1]) [] h Q := by
  show X G m_X11_holds _ _ _ _ 0 [some (.ref 70), some (vi (i : Int)), some (vi 1)] [] h Q
  have hp := PRb v.p
  have hq := gq_b v.p
  have okp := v.P i hi
  obtain ⟨f0e, f1e, cce, c0b, c1b, t0b, t1b⟩ := okp.all v.p hst
  have se := okp.eb hp.1 (by omega)
  have b24 := okp.2.2.2.2
  have f0b : 0 ≤ (σ.P i).f0 ∧ (σ.P i).f0 < σ.p := by rw [f0e]; exact fo_b hp.1
  have f1b : 0 ≤ (σ.P i).f1 ∧ (σ.P i).f1 < σ.p := by rw [f1e]; exact fo_b hp.1
  refine x_aload_n (dT U_X11_holds 0 rfl) rfl ?_
  refine x_aload_n (dT U_X11_holds 1 rfl) rfl ?_
  refine x_getfield F_X11_82 (dT U_X11_holds 2 rfl) w.c70 (Nat.le_of_ble_eq_true rfl) rfl ?_
  refine x_iload_n (dT U_X11_holds 3 rfl) rfl ?_
  refine x_aaload (i) (dT U_X11_holds 4 rfl) w.c121 (Nat.le_of_ble_eq_true rfl) (by decide) rfl (btL_get (by omega)) (Nat.le_of_ble_eq_true rfl) ?_
  refine x_iload_n (dT U_X11_holds 5 rfl) rfl ?_
  refine x_ialoadv (1) (dT U_X11_holds 6 rfl) (w.bt i hi) (by omega) rfl (show 1 < 2 by omega) (show 2 < 2147483648 by decide) (show _ = (σ.P i).t1 from rfl) ?_
  refine x_i2l (dT U_X11_holds 7 rfl) (by unfold xr; omega) ?_
  refine x_aload_n (dT U_X11_holds 8 rfl) rfl ?_
  refine x_bipush (dT U_X11_holds 9 rfl) (by decide) ?_
  refine x_invokevirtual (rc' := rc) (rs' := rs) (rc2 := 0) (rs2 := 0) (As := [_]) (st := _) M_X11_of K_X11_160 (dT U_X11_holds 10 rfl) rfl rfl (by decide) rfl rfl w.c70 (Nat.le_of_ble_eq_true rfl) (by decide) rfl (Nat.le_of_ble_eq_true rfl) rfl (by decide) (Nat.le_of_ble_eq_true rfl) rfl rfl ?_
  have bb8 := bs_b v.p (i := 8) (by omega)
  refine S_X11_of (i := 8) (w.mp) v.p (by omega) ?_
  refine xRet_some ?_
  refine x_i2l (dT U_X11_holds 11 rfl) (by unfold xr; omega) ?_
  refine x_lmul (dT U_X11_holds 12 rfl) ?_
  refine x_invokevirtual (rc' := rc) (rs' := rs) (rc2 := 0) (rs2 := 0) (As := [_]) (st := _) M_X11_f K_X11_156 (dT U_X11_holds 13 rfl) rfl rfl (by decide) rfl rfl w.c70 (Nat.le_of_ble_eq_true rfl) (by decide) rfl (Nat.le_of_ble_eq_true rfl) rfl (by decide) (Nat.le_of_ble_eq_true rfl) rfl rfl ?_
  have m1 := mulg (a := (σ.P i).t1) (b := (bs σ.p 8 : Int)) (m := 23) (n := 23) (by omega) (by omega)
  refine S_X11_f (w.mp) v.p (by unfold xrl; omega) ?_
  refine xRet_some ?_
  refine x_aload_n (dT U_X11_holds 14 rfl) rfl ?_
  refine x_aload_n (dT U_X11_holds 15 rfl) rfl ?_
  refine x_getfield F_X11_76 (dT U_X11_holds 16 rfl) w.c70 (Nat.le_of_ble_eq_true rfl) rfl ?_
  refine x_iload_n (dT U_X11_holds 17 rfl) rfl ?_
  refine x_aaload (i) (dT U_X11_holds 18 rfl) w.c115 (Nat.le_of_ble_eq_true rfl) (by decide) rfl (bfL_get (by omega)) (Nat.le_of_ble_eq_true rfl) ?_
  refine x_iload_n (dT U_X11_holds 19 rfl) rfl ?_
  refine x_ialoadv (1) (dT U_X11_holds 20 rfl) (w.bf i hi) (by omega) rfl (show 1 < 2 by omega) (show 2 < 2147483648 by decide) (show _ = (σ.P i).f1 from rfl) ?_
  refine x_i2l (dT U_X11_holds 21 rfl) (by unfold xr; omega) ?_
  refine x_aload_n (dT U_X11_holds 22 rfl) rfl ?_
  refine x_getfield F_X11_79 (dT U_X11_holds 23 rfl) w.c70 (Nat.le_of_ble_eq_true rfl) rfl ?_
  refine x_iload_n (dT U_X11_holds 24 rfl) rfl ?_
  refine x_aaload (i) (dT U_X11_holds 25 rfl) w.c118 (Nat.le_of_ble_eq_true rfl) (by decide) rfl (bcL_get (by omega)) (Nat.le_of_ble_eq_true rfl) ?_
  refine x_iload_n (dT U_X11_holds 26 rfl) rfl ?_
  refine x_ialoadv (1) (dT U_X11_holds 27 rfl) (w.bc i hi) (by omega) rfl (show 1 < 2 by omega) (show 2 < 2147483648 by decide) (show _ = (σ.P i).c1 from rfl) ?_
  refine x_i2l (dT U_X11_holds 28 rfl) (by unfold xr; omega) ?_
  refine x_aload_n (dT U_X11_holds 29 rfl) rfl ?_
  refine x_iload_n (dT U_X11_holds 30 rfl) rfl ?_
  refine x_iload_n (dT U_X11_holds 31 rfl) rfl ?_
  refine x_invokevirtual (rc' := rc) (rs' := rs) (rc2 := 0) (rs2 := 0) (As := [_, _]) (st := _) M_X11_sideOf K_X11_281 (dT U_X11_holds 32 rfl) rfl rfl (by decide) rfl rfl w.c70 (Nat.le_of_ble_eq_true rfl) (by decide) rfl (Nat.le_of_ble_eq_true rfl) rfl (by decide) (Nat.le_of_ble_eq_true rfl) rfl rfl ?_
  have sd := modb (z := (σ.P i).e - 1 * (bs σ.p 0 : Int)) (p := (σ.p : Int)) (by omega)
  refine S_X11_sideOf1 (f := fun j => (σ.P j).e) (w.mp) v.p w.c110 hi se ?_
  change xRet _ _ _ _ _ _ _ _ _ _ (.inl (some (vi (((σ.P i).e - 1 * (bs σ.p 0 : Int)) % (σ.p : Int))))) _ _
  refine xRet_some ?_
  refine x_i2l (dT U_X11_holds 33 rfl) (by unfold xr; omega) ?_
  refine x_lmul (dT U_X11_holds 34 rfl) ?_
  refine x_ladd (dT U_X11_holds 35 rfl) ?_
  refine x_invokevirtual (rc' := rc) (rs' := rs) (rc2 := 0) (rs2 := 0) (As := [_]) (st := _) M_X11_f K_X11_156 (dT U_X11_holds 36 rfl) rfl rfl (by decide) rfl rfl w.c70 (Nat.le_of_ble_eq_true rfl) (by decide) rfl (Nat.le_of_ble_eq_true rfl) rfl (by decide) (Nat.le_of_ble_eq_true rfl) rfl rfl ?_
  have m2 := mulb (a := (σ.P i).c1) (b := ((σ.P i).e - 1 * (bs σ.p 0 : Int)) % (σ.p : Int)) (p := (σ.p : Int)) (by omega) sd (by omega)
  refine S_X11_f (w.mp) v.p (by unfold xrl; omega) ?_
  have e9 : ((σ.P i).t1 * (bs σ.p 8 : Int)) % (σ.p : Int) = ((σ.P i).f1 + (σ.P i).c1 * (((σ.P i).e - 1 * (bs σ.p 0 : Int)) % (σ.p : Int))) % (σ.p : Int) := by rw [f1e]; exact fo_h
  have z9 := modb (z := (σ.P i).t1 * (bs σ.p 8 : Int)) (p := (σ.p : Int)) (by omega)
  refine xRet_some ?_
  refine x_icmp_ne (tgt := 59) (dT U_X11_holds 37 rfl) (by decide) (by unfold xr; omega) (by unfold xr; omega) (fun c52 => ?_) (fun c52 => ?_)
  · exfalso; omega
  · skip
    refine x_iconst (dT U_X11_holds 38 rfl) ?_
    refine x_goto (tgt := 60) (dT U_X11_holds 39 rfl) (by decide) ?_
    refine x_zreturn (dT U_X11_holds 41 rfl) rfl (by omega) ?_
    exact k

set_option maxRecDepth 20000 in
set_option maxHeartbeats 1000000 in
theorem S_X11_isBitAccepted {G : xG} {d rc rs : Nat} {ex : Bool} {h : xH} {Q : xQ} {σ : St} {cc0 : Int} {rr : Nat} {ss : Int} {pair : Int} (w : MX σ cc0 rr ss h) (v : INV σ) (h_pair : xr pair) (e1 : ¬ (inb pair 2) → ∀ h2 z, Ag 70 142 h h2 → MX σ 1 rr ss h2 → xr z → Q (.inl (some (vi z))) ex h2) (k1 : (inb pair 2) → (σ.P pair.toNat).st = 3 → ∀ h2 r2 s2, Ag 70 142 h h2 → MX σ 0 r2 s2 h2 → Q (.inl (some (vi 1))) ex h2) (k0 : (inb pair 2) → ¬ ((σ.P pair.toNat).st = 3) → ∀ h2 r2 s2, Ag 70 142 h h2 → MX σ 0 r2 s2 h2 → Q (.inl (some (vi 0))) ex h2) : X G m_X11_isBitAccepted (d + 3) rc rs ex 0 (xe m_X11_isBitAccepted.2.2.1 [.ref 70, vi pair]) [] h Q := by
  show X G m_X11_isBitAccepted _ _ _ _ 0 [some (.ref 70), some (vi pair)] [] h Q
  have hp := PRb v.p
  have hq := gq_b v.p
  refine x_aload_n (dT U_X11_isBitAccepted 0 rfl) rfl ?_
  refine x_iload_n (dT U_X11_isBitAccepted 1 rfl) rfl ?_
  refine x_iconst (dT U_X11_isBitAccepted 2 rfl) ?_
  refine x_invokestatic (rc' := rc) (rs' := rs) (rc2 := 0) (rs2 := 0) (As := [_, _]) (st := _) M_X11_in K_X11_126 (dT U_X11_isBitAccepted 3 rfl) rfl rfl rfl rfl (Nat.le_of_ble_eq_true rfl) rfl (by decide) (Nat.le_of_ble_eq_true rfl) rfl rfl ?_
  refine S_X11_in h_pair (by unfold xr; omega) (fun q1 => ?_) (fun q1 => ?_)
  · refine xRet_some ?_
    refine x_iconst (dT U_X11_isBitAccepted 4 rfl) ?_
    refine x_invokevirtual (rc' := rc) (rs' := rs) (rc2 := 0) (rs2 := 0) (As := [_, _]) (st := _) M_X11_lets K_X11_167 (dT U_X11_isBitAccepted 5 rfl) rfl rfl (by decide) rfl rfl w.c70 (Nat.le_of_ble_eq_true rfl) (by decide) rfl (Nat.le_of_ble_eq_true rfl) rfl (by decide) (Nat.le_of_ble_eq_true rfl) rfl rfl ?_
    refine S_X11_lets1 w (fun h1 g1 w1 => ?_)
    refine xRet_some ?_
    obtain ⟨i, hi, rfl⟩ : ∃ j : Nat, j < 2 ∧ pair = (j : Int) := ⟨pair.toNat, by omega, by omega⟩
    try simp only [tnc] at e1 k1 k0
    refine x_if_eqn (tgt := 23) (dT U_X11_isBitAccepted 6 rfl) (by decide) (by decide) ?_
    refine x_aload_n (dT U_X11_isBitAccepted 7 rfl) rfl ?_
    refine x_getfield F_X11_58 (dT U_X11_isBitAccepted 8 rfl) w1.c70 (Nat.le_of_ble_eq_true rfl) rfl ?_
    refine x_iload_n (dT U_X11_isBitAccepted 9 rfl) rfl ?_
    refine x_ialoadv (i) (dT U_X11_isBitAccepted 10 rfl) w1.c109 (Nat.le_of_ble_eq_true rfl) rfl (show i < 2 by omega) (show 2 < 2147483648 by decide) (show _ = ((σ.P i).st : Int) from t2_get hi) ?_
    refine x_iconst (dT U_X11_isBitAccepted 11 rfl) ?_
    have s4 := (v.P i hi).1
    refine x_icmp_ge (tgt := 25) (dT U_X11_isBitAccepted 12 rfl) (by decide) (by unfold xr; omega) (by unfold xr; omega) (fun c20 => ?_) (fun c20 => ?_)
    · skip
      have st3 : (σ.P i).st = 3 := by omega
      have hst := st3
      have okp := v.P i hi
      obtain ⟨f0e, f1e, cce, c0b, c1b, t0b, t1b⟩ := okp.all v.p hst
      have se := okp.eb hp.1 (by omega)
      have b24 := okp.2.2.2.2
      have f0b : 0 ≤ (σ.P i).f0 ∧ (σ.P i).f0 < σ.p := by rw [f0e]; exact fo_b hp.1
      have f1b : 0 ≤ (σ.P i).f1 ∧ (σ.P i).f1 < σ.p := by rw [f1e]; exact fo_b hp.1
      refine x_aload_n (dT U_X11_isBitAccepted 15 rfl) rfl ?_
      refine x_iload_n (dT U_X11_isBitAccepted 16 rfl) rfl ?_
      refine x_iconst (dT U_X11_isBitAccepted 17 rfl) ?_
      refine x_invokevirtual (rc' := rc) (rs' := rs) (rc2 := 0) (rs2 := 0) (As := [_, _]) (st := _) M_X11_holds K_X11_284 (dT U_X11_isBitAccepted 18 rfl) rfl rfl (by decide) rfl rfl w1.c70 (Nat.le_of_ble_eq_true rfl) (by decide) rfl (Nat.le_of_ble_eq_true rfl) rfl (by decide) (Nat.le_of_ble_eq_true rfl) rfl rfl ?_
      refine S_X11_holds0 w1 v hi st3 ?_
      refine xRet_some ?_
      refine x_if_eqn (tgt := 79) (dT U_X11_isBitAccepted 19 rfl) (by decide) (by decide) ?_
      refine x_aload_n (dT U_X11_isBitAccepted 20 rfl) rfl ?_
      refine x_iload_n (dT U_X11_isBitAccepted 21 rfl) rfl ?_
      refine x_iconst (dT U_X11_isBitAccepted 22 rfl) ?_
      refine x_invokevirtual (rc' := rc) (rs' := rs) (rc2 := 0) (rs2 := 0) (As := [_, _]) (st := _) M_X11_holds K_X11_284 (dT U_X11_isBitAccepted 23 rfl) rfl rfl (by decide) rfl rfl w1.c70 (Nat.le_of_ble_eq_true rfl) (by decide) rfl (Nat.le_of_ble_eq_true rfl) rfl (by decide) (Nat.le_of_ble_eq_true rfl) rfl rfl ?_
      refine S_X11_holds1 w1 v hi st3 ?_
      refine xRet_some ?_
      refine x_if_eqn (tgt := 79) (dT U_X11_isBitAccepted 24 rfl) (by decide) (by decide) ?_
      refine x_aload_n (dT U_X11_isBitAccepted 25 rfl) rfl ?_
      refine x_aload_n (dT U_X11_isBitAccepted 26 rfl) rfl ?_
      refine x_getfield F_X11_79 (dT U_X11_isBitAccepted 27 rfl) w1.c70 (Nat.le_of_ble_eq_true rfl) rfl ?_
      refine x_iload_n (dT U_X11_isBitAccepted 28 rfl) rfl ?_
      refine x_aaload (i) (dT U_X11_isBitAccepted 29 rfl) w1.c118 (Nat.le_of_ble_eq_true rfl) (by decide) rfl (bcL_get (by omega)) (Nat.le_of_ble_eq_true rfl) ?_
      refine x_iconst (dT U_X11_isBitAccepted 30 rfl) ?_
      refine x_ialoadv (0) (dT U_X11_isBitAccepted 31 rfl) (w1.bc i hi) (by omega) rfl (show 0 < 2 by omega) (show 2 < 2147483648 by decide) (show _ = (σ.P i).c0 from rfl) ?_
      refine x_i2l (dT U_X11_isBitAccepted 32 rfl) (by unfold xr; omega) ?_
      refine x_aload_n (dT U_X11_isBitAccepted 33 rfl) rfl ?_
      refine x_getfield F_X11_79 (dT U_X11_isBitAccepted 34 rfl) w1.c70 (Nat.le_of_ble_eq_true rfl) rfl ?_
      refine x_iload_n (dT U_X11_isBitAccepted 35 rfl) rfl ?_
      refine x_aaload (i) (dT U_X11_isBitAccepted 36 rfl) w1.c118 (Nat.le_of_ble_eq_true rfl) (by decide) rfl (bcL_get (by omega)) (Nat.le_of_ble_eq_true rfl) ?_
      refine x_iconst (dT U_X11_isBitAccepted 37 rfl) ?_
      refine x_ialoadv (1) (dT U_X11_isBitAccepted 38 rfl) (w1.bc i hi) (by omega) rfl (show 1 < 2 by omega) (show 2 < 2147483648 by decide) (show _ = (σ.P i).c1 from rfl) ?_
      refine x_i2l (dT U_X11_isBitAccepted 39 rfl) (by unfold xr; omega) ?_
      refine x_ladd (dT U_X11_isBitAccepted 40 rfl) ?_
      refine x_invokevirtual (rc' := rc) (rs' := rs) (rc2 := 0) (rs2 := 0) (As := [_]) (st := _) M_X11_f K_X11_156 (dT U_X11_isBitAccepted 41 rfl) rfl rfl (by decide) rfl rfl w1.c70 (Nat.le_of_ble_eq_true rfl) (by decide) rfl (Nat.le_of_ble_eq_true rfl) rfl (by decide) (Nat.le_of_ble_eq_true rfl) rfl rfl ?_
      refine S_X11_f (w1.mp) v.p (by unfold xrl; omega) ?_
      have z9 := modb (z := (σ.P i).c0 + (σ.P i).c1) (p := (σ.p : Int)) (by omega)
      refine xRet_some ?_
      refine x_aload_n (dT U_X11_isBitAccepted 42 rfl) rfl ?_
      refine x_getfield F_X11_73 (dT U_X11_isBitAccepted 43 rfl) w1.c70 (Nat.le_of_ble_eq_true rfl) rfl ?_
      refine x_iload_n (dT U_X11_isBitAccepted 44 rfl) rfl ?_
      refine x_ialoadv (i) (dT U_X11_isBitAccepted 45 rfl) w1.c114 (Nat.le_of_ble_eq_true rfl) rfl (show i < 2 by omega) (show 2 < 2147483648 by decide) (show _ = (σ.P i).c from t2_get hi) ?_
      refine x_icmp_ne (tgt := 79) (dT U_X11_isBitAccepted 46 rfl) (by decide) (by unfold xr; omega) (by unfold xr; omega) (fun c72 => ?_) (fun c72 => ?_)
      · exfalso; omega
      · skip
        refine x_iconst (dT U_X11_isBitAccepted 47 rfl) ?_
        refine x_goto (tgt := 80) (dT U_X11_isBitAccepted 48 rfl) (by decide) ?_
        refine x_zreturn (dT U_X11_isBitAccepted 50 rfl) rfl (by omega) ?_
        first | exact k1 (by omega) st3 _ _ _ (Ag.tr (Ag.rf 70 142 h) (g1.w (by omega))) w1 | exact k0 (by omega) (by omega) _ _ _ (Ag.tr (Ag.rf 70 142 h) (g1.w (by omega))) w1
    · skip
      refine x_iconst (dT U_X11_isBitAccepted 13 rfl) ?_
      refine x_zreturn (dT U_X11_isBitAccepted 14 rfl) rfl (by omega) ?_
      first | exact k1 (by omega) st3 _ _ _ (Ag.tr (Ag.rf 70 142 h) (g1.w (by omega))) w1 | exact k0 (by omega) (by omega) _ _ _ (Ag.tr (Ag.rf 70 142 h) (g1.w (by omega))) w1
  · refine xRet_some ?_
    refine x_iconst (dT U_X11_isBitAccepted 4 rfl) ?_
    refine x_invokevirtual (rc' := rc) (rs' := rs) (rc2 := 0) (rs2 := 0) (As := [_, _]) (st := _) M_X11_lets K_X11_167 (dT U_X11_isBitAccepted 5 rfl) rfl rfl (by decide) rfl rfl w.c70 (Nat.le_of_ble_eq_true rfl) (by decide) rfl (Nat.le_of_ble_eq_true rfl) rfl (by decide) (Nat.le_of_ble_eq_true rfl) rfl rfl ?_
    refine S_X11_lets0 w (fun h1 g1 w1 => ?_)
    refine xRet_some ?_
    refine x_if_eqj (tgt := 23) (dT U_X11_isBitAccepted 6 rfl) (by decide) (by decide) ?_
    refine x_iconst (dT U_X11_isBitAccepted 13 rfl) ?_
    refine x_zreturn (dT U_X11_isBitAccepted 14 rfl) rfl (by omega) ?_
    exact e1 (by omega) _ _ (Ag.tr (Ag.rf 70 142 h) (g1.w (by omega))) w1 (by unfold xr; omega)

set_option maxRecDepth 20000 in
set_option maxHeartbeats 1000000 in
theorem S_X11_bitTold {G : xG} {d rc rs : Nat} {ex : Bool} {h : xH} {Q : xQ} {σ : St} {cc0 : Int} {rr : Nat} {ss : Int} {pair side what : Int} (w : MX σ cc0 rr ss h) (v : INV σ) (h_pair : xr pair) (h_side : xr side) (h_what : xr what) (e1 : ¬ (inb pair 2) → ∀ h2 z, Ag 70 142 h h2 → MX σ 1 rr ss h2 → xr z → Q (.inl (some (vi z))) ex h2) (e2 : (inb pair 2) → ¬ (inb side 2 ∧ inb what 3) → ∀ h2 z, Ag 70 142 h h2 → MX σ 2 rr ss h2 → xr z → Q (.inl (some (vi z))) ex h2) (e3 : (inb pair 2) → (inb side 2 ∧ inb what 3) → ¬ ((σ.P pair.toNat).st = 3) → ∀ h2 z, Ag 70 142 h h2 → MX σ 3 rr ss h2 → xr z → Q (.inl (some (vi z))) ex h2) (k : (inb pair 2) → (inb side 2 ∧ inb what 3) → ((σ.P pair.toNat).st = 3) → ∀ h2 r2 s2, Ag 70 142 h h2 → MX σ 0 r2 s2 h2 → Q (.inl (some (vi (if what = 0 then MM σ.p (if side = 0 then (σ.P pair.toNat).f0 else (σ.P pair.toNat).f1) else if what = 1 then (if side = 0 then (σ.P pair.toNat).c0 else (σ.P pair.toNat).c1) else (if side = 0 then (σ.P pair.toNat).t0 else (σ.P pair.toNat).t1))))) ex h2) : X G m_X11_bitTold (d + 1) rc rs ex 0 (xe m_X11_bitTold.2.2.1 [.ref 70, vi pair, vi side, vi what]) [] h Q := by
  show X G m_X11_bitTold _ _ _ _ 0 [some (.ref 70), some (vi pair), some (vi side), some (vi what)] [] h Q
  have hp := PRb v.p
  have hq := gq_b v.p
  refine x_aload_n (dT U_X11_bitTold 0 rfl) rfl ?_
  refine x_iload_n (dT U_X11_bitTold 1 rfl) rfl ?_
  refine x_iconst (dT U_X11_bitTold 2 rfl) ?_
  refine x_invokestatic (rc' := rc) (rs' := rs) (rc2 := 0) (rs2 := 0) (As := [_, _]) (st := _) M_X11_in K_X11_126 (dT U_X11_bitTold 3 rfl) rfl rfl rfl rfl (Nat.le_of_ble_eq_true rfl) rfl (by decide) (Nat.le_of_ble_eq_true rfl) rfl rfl ?_
  refine S_X11_in h_pair (by unfold xr; omega) (fun q1 => ?_) (fun q1 => ?_)
  · refine xRet_some ?_
    refine x_iconst (dT U_X11_bitTold 4 rfl) ?_
    refine x_invokevirtual (rc' := rc) (rs' := rs) (rc2 := 0) (rs2 := 0) (As := [_, _]) (st := _) M_X11_lets K_X11_167 (dT U_X11_bitTold 5 rfl) rfl rfl (by decide) rfl rfl w.c70 (Nat.le_of_ble_eq_true rfl) (by decide) rfl (Nat.le_of_ble_eq_true rfl) rfl (by decide) (Nat.le_of_ble_eq_true rfl) rfl rfl ?_
    refine S_X11_lets1 w (fun h1 g1 w1 => ?_)
    refine xRet_some ?_
    obtain ⟨i, hi, rfl⟩ : ∃ j : Nat, j < 2 ∧ pair = (j : Int) := ⟨pair.toNat, by omega, by omega⟩
    try simp only [tnc] at e1 e2 e3 k
    refine x_if_eqn (tgt := 65) (dT U_X11_bitTold 6 rfl) (by decide) (by decide) ?_
    refine x_aload_n (dT U_X11_bitTold 7 rfl) rfl ?_
    refine x_iload_n (dT U_X11_bitTold 8 rfl) rfl ?_
    refine x_iconst (dT U_X11_bitTold 9 rfl) ?_
    refine x_invokestatic (rc' := rc) (rs' := rs) (rc2 := 0) (rs2 := 0) (As := [_, _]) (st := _) M_X11_in K_X11_126 (dT U_X11_bitTold 10 rfl) rfl rfl rfl rfl (Nat.le_of_ble_eq_true rfl) rfl (by decide) (Nat.le_of_ble_eq_true rfl) rfl rfl ?_
    refine S_X11_in h_side (by unfold xr; omega) (fun q2 => ?_) (fun q2 => ?_)
    · refine xRet_some ?_
      refine x_if_eqn (tgt := 34) (dT U_X11_bitTold 11 rfl) (by decide) (by decide) ?_
      refine x_iload_n (dT U_X11_bitTold 12 rfl) rfl ?_
      refine x_iconst (dT U_X11_bitTold 13 rfl) ?_
      refine x_invokestatic (rc' := rc) (rs' := rs) (rc2 := 0) (rs2 := 0) (As := [_, _]) (st := _) M_X11_in K_X11_126 (dT U_X11_bitTold 14 rfl) rfl rfl rfl rfl (Nat.le_of_ble_eq_true rfl) rfl (by decide) (Nat.le_of_ble_eq_true rfl) rfl rfl ?_
      refine S_X11_in h_what (by unfold xr; omega) (fun q3 => ?_) (fun q3 => ?_)
      · refine xRet_some ?_
        refine x_if_eqn (tgt := 34) (dT U_X11_bitTold 15 rfl) (by decide) (by decide) ?_
        refine x_iconst (dT U_X11_bitTold 16 rfl) ?_
        refine x_goto (tgt := 35) (dT U_X11_bitTold 17 rfl) (by decide) ?_
        refine x_iconst (dT U_X11_bitTold 19 rfl) ?_
        refine x_invokevirtual (rc' := rc) (rs' := rs) (rc2 := 0) (rs2 := 0) (As := [_, _]) (st := _) M_X11_lets K_X11_167 (dT U_X11_bitTold 20 rfl) rfl rfl (by decide) rfl rfl w1.c70 (Nat.le_of_ble_eq_true rfl) (by decide) rfl (Nat.le_of_ble_eq_true rfl) rfl (by decide) (Nat.le_of_ble_eq_true rfl) rfl rfl ?_
        refine S_X11_lets1 w1 (fun h2 g2 w2 => ?_)
        refine xRet_some ?_
        refine x_if_eqn (tgt := 65) (dT U_X11_bitTold 21 rfl) (by decide) (by decide) ?_
        refine x_aload_n (dT U_X11_bitTold 22 rfl) rfl ?_
        refine x_aload_n (dT U_X11_bitTold 23 rfl) rfl ?_
        refine x_getfield F_X11_58 (dT U_X11_bitTold 24 rfl) w2.c70 (Nat.le_of_ble_eq_true rfl) rfl ?_
        refine x_iload_n (dT U_X11_bitTold 25 rfl) rfl ?_
        refine x_ialoadv (i) (dT U_X11_bitTold 26 rfl) w2.c109 (Nat.le_of_ble_eq_true rfl) rfl (show i < 2 by omega) (show 2 < 2147483648 by decide) (show _ = ((σ.P i).st : Int) from t2_get hi) ?_
        refine x_iconst (dT U_X11_bitTold 27 rfl) ?_
        have s4 := (v.P i hi).1
        refine x_icmp_ne (tgt := 57) (dT U_X11_bitTold 28 rfl) (by decide) (by unfold xr; omega) (by unfold xr; omega) (fun c50 => ?_) (fun c50 => ?_)
        · skip
          refine x_iconst (dT U_X11_bitTold 31 rfl) ?_
          refine x_iconst (dT U_X11_bitTold 32 rfl) ?_
          refine x_invokevirtual (rc' := rc) (rs' := rs) (rc2 := 0) (rs2 := 0) (As := [_, _]) (st := _) M_X11_lets K_X11_167 (dT U_X11_bitTold 33 rfl) rfl rfl (by decide) rfl rfl w2.c70 (Nat.le_of_ble_eq_true rfl) (by decide) rfl (Nat.le_of_ble_eq_true rfl) rfl (by decide) (Nat.le_of_ble_eq_true rfl) rfl rfl ?_
          refine S_X11_lets0 w2 (fun h3 g3 w3 => ?_)
          refine xRet_some ?_
          refine x_if_nen (tgt := 67) (dT U_X11_bitTold 34 rfl) (by decide) (by decide) ?_
          refine x_iconst (dT U_X11_bitTold 35 rfl) ?_
          refine x_ireturn (dT U_X11_bitTold 36 rfl) rfl ?_
          exact e3 (by omega) (by omega) (by omega) _ _ (Ag.tr (Ag.tr (Ag.tr (Ag.rf 70 142 h) (g1.w (by omega))) (g2.w (by omega))) (g3.w (by omega))) w3 (by unfold xr; omega)
        · skip
          refine x_iconst (dT U_X11_bitTold 29 rfl) ?_
          refine x_goto (tgt := 58) (dT U_X11_bitTold 30 rfl) (by decide) ?_
          refine x_iconst (dT U_X11_bitTold 32 rfl) ?_
          refine x_invokevirtual (rc' := rc) (rs' := rs) (rc2 := 0) (rs2 := 0) (As := [_, _]) (st := _) M_X11_lets K_X11_167 (dT U_X11_bitTold 33 rfl) rfl rfl (by decide) rfl rfl w2.c70 (Nat.le_of_ble_eq_true rfl) (by decide) rfl (Nat.le_of_ble_eq_true rfl) rfl (by decide) (Nat.le_of_ble_eq_true rfl) rfl rfl ?_
          refine S_X11_lets1 w2 (fun h3 g3 w3 => ?_)
          refine xRet_some ?_
          refine x_if_nej (tgt := 67) (dT U_X11_bitTold 34 rfl) (by decide) (by decide) ?_
          have st3 : (σ.P i).st = 3 := by omega
          have hst := st3
          have okp := v.P i hi
          obtain ⟨f0e, f1e, cce, c0b, c1b, t0b, t1b⟩ := okp.all v.p hst
          have se := okp.eb hp.1 (by omega)
          have b24 := okp.2.2.2.2
          have f0b : 0 ≤ (σ.P i).f0 ∧ (σ.P i).f0 < σ.p := by rw [f0e]; exact fo_b hp.1
          have f1b : 0 ≤ (σ.P i).f1 ∧ (σ.P i).f1 < σ.p := by rw [f1e]; exact fo_b hp.1
          have sb : side = 0 ∨ side = 1 := by omega
          rcases sb with rfl | rfl
          · simp only [if_pos (show (0 : Int) = 0 from rfl)] at k
            refine x_iload_n (dT U_X11_bitTold 37 rfl) rfl ?_
            refine x_if_ne (tgt := 87) (dT U_X11_bitTold 38 rfl) (by decide) h_what (fun c68 => ?_) (fun c68 => ?_)
            · skip
              refine x_iload_n (dT U_X11_bitTold 49 rfl) rfl ?_
              refine x_iconst (dT U_X11_bitTold 50 rfl) ?_
              refine x_icmp_ne (tgt := 103) (dT U_X11_bitTold 51 rfl) (by decide) h_what (by unfold xr; omega) (fun c89 => ?_) (fun c89 => ?_)
              · skip
                refine x_aload_n (dT U_X11_bitTold 59 rfl) rfl ?_
                refine x_getfield F_X11_82 (dT U_X11_bitTold 60 rfl) w3.c70 (Nat.le_of_ble_eq_true rfl) rfl ?_
                refine x_iload_n (dT U_X11_bitTold 61 rfl) rfl ?_
                refine x_aaload (i) (dT U_X11_bitTold 62 rfl) w3.c121 (Nat.le_of_ble_eq_true rfl) (by decide) rfl (btL_get (by omega)) (Nat.le_of_ble_eq_true rfl) ?_
                refine x_iload_n (dT U_X11_bitTold 63 rfl) rfl ?_
                refine x_ialoadv (0) (dT U_X11_bitTold 64 rfl) (w3.bt i hi) (by omega) rfl (show 0 < 2 by omega) (show 2 < 2147483648 by decide) (show _ = (σ.P i).t0 from rfl) ?_
                refine x_ireturn (dT U_X11_bitTold 65 rfl) rfl ?_
                first | (rw [if_pos (by omega)] at k; exact k (by omega) (by omega) st3 _ _ _ (Ag.tr (Ag.tr (Ag.tr (Ag.rf 70 142 h) (g1.w (by omega))) (g2.w (by omega))) (g3.w (by omega))) w3) | (rw [if_neg (by omega), if_pos (by omega)] at k; exact k (by omega) (by omega) st3 _ _ _ (Ag.tr (Ag.tr (Ag.tr (Ag.rf 70 142 h) (g1.w (by omega))) (g2.w (by omega))) (g3.w (by omega))) w3) | (rw [if_neg (by omega), if_neg (by omega)] at k; exact k (by omega) (by omega) st3 _ _ _ (Ag.tr (Ag.tr (Ag.tr (Ag.rf 70 142 h) (g1.w (by omega))) (g2.w (by omega))) (g3.w (by omega))) w3)
              · skip
                refine x_aload_n (dT U_X11_bitTold 52 rfl) rfl ?_
                refine x_getfield F_X11_79 (dT U_X11_bitTold 53 rfl) w3.c70 (Nat.le_of_ble_eq_true rfl) rfl ?_
                refine x_iload_n (dT U_X11_bitTold 54 rfl) rfl ?_
                refine x_aaload (i) (dT U_X11_bitTold 55 rfl) w3.c118 (Nat.le_of_ble_eq_true rfl) (by decide) rfl (bcL_get (by omega)) (Nat.le_of_ble_eq_true rfl) ?_
                refine x_iload_n (dT U_X11_bitTold 56 rfl) rfl ?_
                refine x_ialoadv (0) (dT U_X11_bitTold 57 rfl) (w3.bc i hi) (by omega) rfl (show 0 < 2 by omega) (show 2 < 2147483648 by decide) (show _ = (σ.P i).c0 from rfl) ?_
                refine x_goto (tgt := 111) (dT U_X11_bitTold 58 rfl) (by decide) ?_
                refine x_ireturn (dT U_X11_bitTold 65 rfl) rfl ?_
                first | (rw [if_pos (by omega)] at k; exact k (by omega) (by omega) st3 _ _ _ (Ag.tr (Ag.tr (Ag.tr (Ag.rf 70 142 h) (g1.w (by omega))) (g2.w (by omega))) (g3.w (by omega))) w3) | (rw [if_neg (by omega), if_pos (by omega)] at k; exact k (by omega) (by omega) st3 _ _ _ (Ag.tr (Ag.tr (Ag.tr (Ag.rf 70 142 h) (g1.w (by omega))) (g2.w (by omega))) (g3.w (by omega))) w3) | (rw [if_neg (by omega), if_neg (by omega)] at k; exact k (by omega) (by omega) st3 _ _ _ (Ag.tr (Ag.tr (Ag.tr (Ag.rf 70 142 h) (g1.w (by omega))) (g2.w (by omega))) (g3.w (by omega))) w3)
            · skip
              refine x_aload_n (dT U_X11_bitTold 39 rfl) rfl ?_
              refine x_getfield F_X11_7 (dT U_X11_bitTold 40 rfl) w3.c70 (Nat.le_of_ble_eq_true rfl) rfl ?_
              refine x_aload_n (dT U_X11_bitTold 41 rfl) rfl ?_
              refine x_getfield F_X11_76 (dT U_X11_bitTold 42 rfl) w3.c70 (Nat.le_of_ble_eq_true rfl) rfl ?_
              refine x_iload_n (dT U_X11_bitTold 43 rfl) rfl ?_
              refine x_aaload (i) (dT U_X11_bitTold 44 rfl) w3.c115 (Nat.le_of_ble_eq_true rfl) (by decide) rfl (bfL_get (by omega)) (Nat.le_of_ble_eq_true rfl) ?_
              refine x_iload_n (dT U_X11_bitTold 45 rfl) rfl ?_
              refine x_ialoadv (0) (dT U_X11_bitTold 46 rfl) (w3.bf i hi) (by omega) rfl (show 0 < 2 by omega) (show 2 < 2147483648 by decide) (show _ = (σ.P i).f0 from rfl) ?_
              obtain ⟨ml, m1, m2, m3⟩ := w3.pow
              refine x_ialoadv (((σ.P i).f0).toNat) (dT U_X11_bitTold 47 rfl) m1 (Nat.le_of_ble_eq_true rfl) (by omega) (by rw [m2]; omega) (by rw [m2]; omega) (show _ = MM σ.p ((σ.P i).f0) from m3 _ (by omega)) ?_
              refine x_goto (tgt := 111) (dT U_X11_bitTold 48 rfl) (by decide) ?_
              refine x_ireturn (dT U_X11_bitTold 65 rfl) rfl ?_
              first | (rw [if_pos (by omega)] at k; exact k (by omega) (by omega) st3 _ _ _ (Ag.tr (Ag.tr (Ag.tr (Ag.rf 70 142 h) (g1.w (by omega))) (g2.w (by omega))) (g3.w (by omega))) w3) | (rw [if_neg (by omega), if_pos (by omega)] at k; exact k (by omega) (by omega) st3 _ _ _ (Ag.tr (Ag.tr (Ag.tr (Ag.rf 70 142 h) (g1.w (by omega))) (g2.w (by omega))) (g3.w (by omega))) w3) | (rw [if_neg (by omega), if_neg (by omega)] at k; exact k (by omega) (by omega) st3 _ _ _ (Ag.tr (Ag.tr (Ag.tr (Ag.rf 70 142 h) (g1.w (by omega))) (g2.w (by omega))) (g3.w (by omega))) w3)
          · simp only [if_neg (show ¬ (1 : Int) = 0 by decide)] at k
            refine x_iload_n (dT U_X11_bitTold 37 rfl) rfl ?_
            refine x_if_ne (tgt := 87) (dT U_X11_bitTold 38 rfl) (by decide) h_what (fun c68 => ?_) (fun c68 => ?_)
            · skip
              refine x_iload_n (dT U_X11_bitTold 49 rfl) rfl ?_
              refine x_iconst (dT U_X11_bitTold 50 rfl) ?_
              refine x_icmp_ne (tgt := 103) (dT U_X11_bitTold 51 rfl) (by decide) h_what (by unfold xr; omega) (fun c89 => ?_) (fun c89 => ?_)
              · skip
                refine x_aload_n (dT U_X11_bitTold 59 rfl) rfl ?_
                refine x_getfield F_X11_82 (dT U_X11_bitTold 60 rfl) w3.c70 (Nat.le_of_ble_eq_true rfl) rfl ?_
                refine x_iload_n (dT U_X11_bitTold 61 rfl) rfl ?_
                refine x_aaload (i) (dT U_X11_bitTold 62 rfl) w3.c121 (Nat.le_of_ble_eq_true rfl) (by decide) rfl (btL_get (by omega)) (Nat.le_of_ble_eq_true rfl) ?_
                refine x_iload_n (dT U_X11_bitTold 63 rfl) rfl ?_
                refine x_ialoadv (1) (dT U_X11_bitTold 64 rfl) (w3.bt i hi) (by omega) rfl (show 1 < 2 by omega) (show 2 < 2147483648 by decide) (show _ = (σ.P i).t1 from rfl) ?_
                refine x_ireturn (dT U_X11_bitTold 65 rfl) rfl ?_
                first | (rw [if_pos (by omega)] at k; exact k (by omega) (by omega) st3 _ _ _ (Ag.tr (Ag.tr (Ag.tr (Ag.rf 70 142 h) (g1.w (by omega))) (g2.w (by omega))) (g3.w (by omega))) w3) | (rw [if_neg (by omega), if_pos (by omega)] at k; exact k (by omega) (by omega) st3 _ _ _ (Ag.tr (Ag.tr (Ag.tr (Ag.rf 70 142 h) (g1.w (by omega))) (g2.w (by omega))) (g3.w (by omega))) w3) | (rw [if_neg (by omega), if_neg (by omega)] at k; exact k (by omega) (by omega) st3 _ _ _ (Ag.tr (Ag.tr (Ag.tr (Ag.rf 70 142 h) (g1.w (by omega))) (g2.w (by omega))) (g3.w (by omega))) w3)
              · skip
                refine x_aload_n (dT U_X11_bitTold 52 rfl) rfl ?_
                refine x_getfield F_X11_79 (dT U_X11_bitTold 53 rfl) w3.c70 (Nat.le_of_ble_eq_true rfl) rfl ?_
                refine x_iload_n (dT U_X11_bitTold 54 rfl) rfl ?_
                refine x_aaload (i) (dT U_X11_bitTold 55 rfl) w3.c118 (Nat.le_of_ble_eq_true rfl) (by decide) rfl (bcL_get (by omega)) (Nat.le_of_ble_eq_true rfl) ?_
                refine x_iload_n (dT U_X11_bitTold 56 rfl) rfl ?_
                refine x_ialoadv (1) (dT U_X11_bitTold 57 rfl) (w3.bc i hi) (by omega) rfl (show 1 < 2 by omega) (show 2 < 2147483648 by decide) (show _ = (σ.P i).c1 from rfl) ?_
                refine x_goto (tgt := 111) (dT U_X11_bitTold 58 rfl) (by decide) ?_
                refine x_ireturn (dT U_X11_bitTold 65 rfl) rfl ?_
                first | (rw [if_pos (by omega)] at k; exact k (by omega) (by omega) st3 _ _ _ (Ag.tr (Ag.tr (Ag.tr (Ag.rf 70 142 h) (g1.w (by omega))) (g2.w (by omega))) (g3.w (by omega))) w3) | (rw [if_neg (by omega), if_pos (by omega)] at k; exact k (by omega) (by omega) st3 _ _ _ (Ag.tr (Ag.tr (Ag.tr (Ag.rf 70 142 h) (g1.w (by omega))) (g2.w (by omega))) (g3.w (by omega))) w3) | (rw [if_neg (by omega), if_neg (by omega)] at k; exact k (by omega) (by omega) st3 _ _ _ (Ag.tr (Ag.tr (Ag.tr (Ag.rf 70 142 h) (g1.w (by omega))) (g2.w (by omega))) (g3.w (by omega))) w3)
            · skip
              refine x_aload_n (dT U_X11_bitTold 39 rfl) rfl ?_
              refine x_getfield F_X11_7 (dT U_X11_bitTold 40 rfl) w3.c70 (Nat.le_of_ble_eq_true rfl) rfl ?_
              refine x_aload_n (dT U_X11_bitTold 41 rfl) rfl ?_
              refine x_getfield F_X11_76 (dT U_X11_bitTold 42 rfl) w3.c70 (Nat.le_of_ble_eq_true rfl) rfl ?_
              refine x_iload_n (dT U_X11_bitTold 43 rfl) rfl ?_
              refine x_aaload (i) (dT U_X11_bitTold 44 rfl) w3.c115 (Nat.le_of_ble_eq_true rfl) (by decide) rfl (bfL_get (by omega)) (Nat.le_of_ble_eq_true rfl) ?_
              refine x_iload_n (dT U_X11_bitTold 45 rfl) rfl ?_
              refine x_ialoadv (1) (dT U_X11_bitTold 46 rfl) (w3.bf i hi) (by omega) rfl (show 1 < 2 by omega) (show 2 < 2147483648 by decide) (show _ = (σ.P i).f1 from rfl) ?_
              obtain ⟨ml, m1, m2, m3⟩ := w3.pow
              refine x_ialoadv (((σ.P i).f1).toNat) (dT U_X11_bitTold 47 rfl) m1 (Nat.le_of_ble_eq_true rfl) (by omega) (by rw [m2]; omega) (by rw [m2]; omega) (show _ = MM σ.p ((σ.P i).f1) from m3 _ (by omega)) ?_
              refine x_goto (tgt := 111) (dT U_X11_bitTold 48 rfl) (by decide) ?_
              refine x_ireturn (dT U_X11_bitTold 65 rfl) rfl ?_
              first | (rw [if_pos (by omega)] at k; exact k (by omega) (by omega) st3 _ _ _ (Ag.tr (Ag.tr (Ag.tr (Ag.rf 70 142 h) (g1.w (by omega))) (g2.w (by omega))) (g3.w (by omega))) w3) | (rw [if_neg (by omega), if_pos (by omega)] at k; exact k (by omega) (by omega) st3 _ _ _ (Ag.tr (Ag.tr (Ag.tr (Ag.rf 70 142 h) (g1.w (by omega))) (g2.w (by omega))) (g3.w (by omega))) w3) | (rw [if_neg (by omega), if_neg (by omega)] at k; exact k (by omega) (by omega) st3 _ _ _ (Ag.tr (Ag.tr (Ag.tr (Ag.rf 70 142 h) (g1.w (by omega))) (g2.w (by omega))) (g3.w (by omega))) w3)
      · refine xRet_some ?_
        refine x_if_eqj (tgt := 34) (dT U_X11_bitTold 15 rfl) (by decide) (by decide) ?_
        refine x_iconst (dT U_X11_bitTold 18 rfl) ?_
        refine x_iconst (dT U_X11_bitTold 19 rfl) ?_
        refine x_invokevirtual (rc' := rc) (rs' := rs) (rc2 := 0) (rs2 := 0) (As := [_, _]) (st := _) M_X11_lets K_X11_167 (dT U_X11_bitTold 20 rfl) rfl rfl (by decide) rfl rfl w1.c70 (Nat.le_of_ble_eq_true rfl) (by decide) rfl (Nat.le_of_ble_eq_true rfl) rfl (by decide) (Nat.le_of_ble_eq_true rfl) rfl rfl ?_
        refine S_X11_lets0 w1 (fun h2 g2 w2 => ?_)
        refine xRet_some ?_
        refine x_if_eqj (tgt := 65) (dT U_X11_bitTold 21 rfl) (by decide) (by decide) ?_
        refine x_iconst (dT U_X11_bitTold 35 rfl) ?_
        refine x_ireturn (dT U_X11_bitTold 36 rfl) rfl ?_
        exact e2 (by omega) (by omega) _ _ (Ag.tr (Ag.tr (Ag.rf 70 142 h) (g1.w (by omega))) (g2.w (by omega))) w2 (by unfold xr; omega)
    · refine xRet_some ?_
      refine x_if_eqj (tgt := 34) (dT U_X11_bitTold 11 rfl) (by decide) (by decide) ?_
      refine x_iconst (dT U_X11_bitTold 18 rfl) ?_
      refine x_iconst (dT U_X11_bitTold 19 rfl) ?_
      refine x_invokevirtual (rc' := rc) (rs' := rs) (rc2 := 0) (rs2 := 0) (As := [_, _]) (st := _) M_X11_lets K_X11_167 (dT U_X11_bitTold 20 rfl) rfl rfl (by decide) rfl rfl w1.c70 (Nat.le_of_ble_eq_true rfl) (by decide) rfl (Nat.le_of_ble_eq_true rfl) rfl (by decide) (Nat.le_of_ble_eq_true rfl) rfl rfl ?_
      refine S_X11_lets0 w1 (fun h2 g2 w2 => ?_)
      refine xRet_some ?_
      refine x_if_eqj (tgt := 65) (dT U_X11_bitTold 21 rfl) (by decide) (by decide) ?_
      refine x_iconst (dT U_X11_bitTold 35 rfl) ?_
      refine x_ireturn (dT U_X11_bitTold 36 rfl) rfl ?_
      exact e2 (by omega) (by omega) _ _ (Ag.tr (Ag.tr (Ag.rf 70 142 h) (g1.w (by omega))) (g2.w (by omega))) w2 (by unfold xr; omega)
  · refine xRet_some ?_
    refine x_iconst (dT U_X11_bitTold 4 rfl) ?_
    refine x_invokevirtual (rc' := rc) (rs' := rs) (rc2 := 0) (rs2 := 0) (As := [_, _]) (st := _) M_X11_lets K_X11_167 (dT U_X11_bitTold 5 rfl) rfl rfl (by decide) rfl rfl w.c70 (Nat.le_of_ble_eq_true rfl) (by decide) rfl (Nat.le_of_ble_eq_true rfl) rfl (by decide) (Nat.le_of_ble_eq_true rfl) rfl rfl ?_
    refine S_X11_lets0 w (fun h1 g1 w1 => ?_)
    refine xRet_some ?_
    refine x_if_eqj (tgt := 65) (dT U_X11_bitTold 6 rfl) (by decide) (by decide) ?_
    refine x_iconst (dT U_X11_bitTold 35 rfl) ?_
    refine x_ireturn (dT U_X11_bitTold 36 rfl) rfl ?_
    exact e1 (by omega) _ _ (Ag.tr (Ag.rf 70 142 h) (g1.w (by omega))) w1 (by unfold xr; omega)

set_option maxRecDepth 20000 in
set_option maxHeartbeats 1000000 in
theorem S_X11_isLike0 {G : xG} {d rc rs : Nat} {ex : Bool} {h : xH} {Q : xQ} {σ : St} {cc0 : Int} {rr : Nat} {ss : Int} {i : Nat} {m c t : Int} (w : MX σ cc0 rr ss h) (v : INV σ) (hi : i < 2) (hst : (σ.P i).st = 3) (hm : 0 ≤ m ∧ m < σ.p) (hc : 0 ≤ c ∧ c < σ.p) (ht : 0 ≤ t ∧ t < σ.p) (k1 : (cm1 σ.p 0 m = (σ.P i).f0 ∧ (m + (σ.P i).c0 * ((((σ.P i).e - 0 * (bs σ.p 0 : Int)) % (σ.p : Int)) * (iv σ.p (bs σ.p 8) : Int) % (σ.p : Int))) % (σ.p : Int) = (σ.P i).t0) ∧ c = (σ.P i).c1 ∧ t = (σ.P i).t1 → Q (.inl (some (vi 1))) ex h) (k0 : ¬ ((cm1 σ.p 0 m = (σ.P i).f0 ∧ (m + (σ.P i).c0 * ((((σ.P i).e - 0 * (bs σ.p 0 : Int)) % (σ.p : Int)) * (iv σ.p (bs σ.p 8) : Int) % (σ.p : Int))) % (σ.p : Int) = (σ.P i).t0) ∧ c = (σ.P i).c1 ∧ t = (σ.P i).t1) → Q (.inl (some (vi 0))) ex h) : X G m_X11_isLike (d + 2) rc rs ex 0 (xe m_X11_isLike.2.2.1 [.ref 70, vi (i : Int), vi 0, vi ((((σ.P i).e - 0 * (bs σ.p 0 : Int)) % (σ.p : Int)) * (iv σ.p (bs σ.p 8) : Int) % (σ.p : Int)), vi m, vi c, vi t]) [] h Q := by
  show X G m_X11_isLike _ _ _ _ 0 [some (.ref 70), some (vi (i : Int)), some (vi 0), some (vi ((((σ.P i).e - 0 * (bs σ.p 0 : Int)) % (σ.p : Int)) * (iv σ.p (bs σ.p 8) : Int) % (σ.p : Int))), some (vi m), some (vi c), some (vi t), none, none, none] [] h Q
  have hp := PRb v.p
  have hq := gq_b v.p
  have okp := v.P i hi
  obtain ⟨f0e, f1e, cce, c0b, c1b, t0b, t1b⟩ := okp.all v.p hst
  have se := okp.eb hp.1 (by omega)
  have b24 := okp.2.2.2.2
  have f0b : 0 ≤ (σ.P i).f0 ∧ (σ.P i).f0 < σ.p := by rw [f0e]; exact fo_b hp.1
  have f1b : 0 ≤ (σ.P i).f1 ∧ (σ.P i).f1 < σ.p := by rw [f1e]; exact fo_b hp.1
  have cr9 := okp.cr (by omega)
  have ow := modb (z := (σ.P i).c - c) (p := (σ.p : Int)) (by omega)
  have ow2 : c = (σ.P i).c1 → ((σ.P i).c - c) % (σ.p : Int) = (σ.P i).c0 := fun z => by rw [z, ← cce, sm_l]; rw [show (σ.P i).c0 + (σ.P i).c1 - (σ.P i).c1 = (σ.P i).c0 by omega]; exact Int.emod_eq_of_lt c0b.1 c0b.2
  have OBb := modb (z := (((σ.P i).e - 0 * (bs σ.p 0 : Int)) % (σ.p : Int)) * (iv σ.p (bs σ.p 8) : Int)) (p := (σ.p : Int)) (by omega)
  refine x_aload_n (dT U_X11_isLike 0 rfl) rfl ?_
  refine x_aload_n (dT U_X11_isLike 1 rfl) rfl ?_
  refine x_getfield F_X11_73 (dT U_X11_isLike 2 rfl) w.c70 (Nat.le_of_ble_eq_true rfl) rfl ?_
  refine x_iload_n (dT U_X11_isLike 3 rfl) rfl ?_
  refine x_ialoadv (i) (dT U_X11_isLike 4 rfl) w.c114 (Nat.le_of_ble_eq_true rfl) rfl (show i < 2 by omega) (show 2 < 2147483648 by decide) (show _ = (σ.P i).c from t2_get hi) ?_
  refine x_i2l (dT U_X11_isLike 5 rfl) (by unfold xr; omega) ?_
  refine x_iload (dT U_X11_isLike 6 rfl) rfl ?_
  refine x_i2l (dT U_X11_isLike 7 rfl) (by unfold xr; omega) ?_
  refine x_lsub (dT U_X11_isLike 8 rfl) ?_
  refine x_invokevirtual (rc' := rc) (rs' := rs) (rc2 := 0) (rs2 := 0) (As := [_]) (st := _) M_X11_f K_X11_156 (dT U_X11_isLike 9 rfl) rfl rfl (by decide) rfl rfl w.c70 (Nat.le_of_ble_eq_true rfl) (by decide) rfl (Nat.le_of_ble_eq_true rfl) rfl (by decide) (Nat.le_of_ble_eq_true rfl) rfl rfl ?_
  refine S_X11_f (w.mp) v.p (by unfold xrl; omega) ?_
  refine xRet_some ?_
  refine x_istore (ls' := [some (.ref _), some (vi _), some (vi _), some (vi _), some (vi _), some (vi _), some (vi _), some (vi _), none, none]) (dT U_X11_isLike 10 rfl) (by decide) rfl ?_
  refine x_aload_n (dT U_X11_isLike 11 rfl) rfl ?_
  refine x_iload (dT U_X11_isLike 12 rfl) rfl ?_
  refine x_i2l (dT U_X11_isLike 13 rfl) (by unfold xr; omega) ?_
  refine x_aload_n (dT U_X11_isLike 14 rfl) rfl ?_
  refine x_bipush (dT U_X11_isLike 15 rfl) (by decide) ?_
  refine x_invokevirtual (rc' := rc) (rs' := rs) (rc2 := 0) (rs2 := 0) (As := [_]) (st := _) M_X11_of K_X11_160 (dT U_X11_isLike 16 rfl) rfl rfl (by decide) rfl rfl w.c70 (Nat.le_of_ble_eq_true rfl) (by decide) rfl (Nat.le_of_ble_eq_true rfl) rfl (by decide) (Nat.le_of_ble_eq_true rfl) rfl rfl ?_
  have bb8 := bs_b v.p (i := 8) (by omega)
  refine S_X11_of (i := 8) (w.mp) v.p (by omega) ?_
  refine xRet_some ?_
  refine x_i2l (dT U_X11_isLike 17 rfl) (by unfold xr; omega) ?_
  refine x_lmul (dT U_X11_isLike 18 rfl) ?_
  refine x_invokevirtual (rc' := rc) (rs' := rs) (rc2 := 0) (rs2 := 0) (As := [_]) (st := _) M_X11_f K_X11_156 (dT U_X11_isLike 19 rfl) rfl rfl (by decide) rfl rfl w.c70 (Nat.le_of_ble_eq_true rfl) (by decide) rfl (Nat.le_of_ble_eq_true rfl) rfl (by decide) (Nat.le_of_ble_eq_true rfl) rfl rfl ?_
  have m1 := mulg (a := m) (b := (bs σ.p 8 : Int)) (m := 23) (n := 23) (by omega) (by omega)
  refine S_X11_f (w.mp) v.p (by unfold xrl; omega) ?_
  rw [cm1_m]
  have cb9 := cm1_b (p := σ.p) (n := 0) (b := m) hp.1
  refine xRet_some ?_
  refine x_aload_n (dT U_X11_isLike 20 rfl) rfl ?_
  refine x_getfield F_X11_76 (dT U_X11_isLike 21 rfl) w.c70 (Nat.le_of_ble_eq_true rfl) rfl ?_
  refine x_iload_n (dT U_X11_isLike 22 rfl) rfl ?_
  refine x_aaload (i) (dT U_X11_isLike 23 rfl) w.c115 (Nat.le_of_ble_eq_true rfl) (by decide) rfl (bfL_get (by omega)) (Nat.le_of_ble_eq_true rfl) ?_
  refine x_iload_n (dT U_X11_isLike 24 rfl) rfl ?_
  refine x_ialoadv (0) (dT U_X11_isLike 25 rfl) (w.bf i hi) (by omega) rfl (show 0 < 2 by omega) (show 2 < 2147483648 by decide) (show _ = (σ.P i).f0 from rfl) ?_
  refine x_icmp_ne (tgt := 85) (dT U_X11_isLike 26 rfl) (by decide) (by unfold xr; omega) (by unfold xr; omega) (fun c40 => ?_) (fun c40 => ?_)
  · skip
    refine x_iconst (dT U_X11_isLike 54 rfl) ?_
    refine x_istore (ls' := [some (.ref _), some (vi _), some (vi _), some (vi _), some (vi _), some (vi _), some (vi _), some (vi _), some (vi _), none]) (dT U_X11_isLike 55 rfl) (by decide) rfl ?_
    refine x_iload (dT U_X11_isLike 56 rfl) rfl ?_
    refine x_aload_n (dT U_X11_isLike 57 rfl) rfl ?_
    refine x_getfield F_X11_79 (dT U_X11_isLike 58 rfl) w.c70 (Nat.le_of_ble_eq_true rfl) rfl ?_
    refine x_iload_n (dT U_X11_isLike 59 rfl) rfl ?_
    refine x_aaload (i) (dT U_X11_isLike 60 rfl) w.c118 (Nat.le_of_ble_eq_true rfl) (by decide) rfl (bcL_get (by omega)) (Nat.le_of_ble_eq_true rfl) ?_
    refine x_iconst (dT U_X11_isLike 61 rfl) ?_
    refine x_iload_n (dT U_X11_isLike 62 rfl) rfl ?_
    refine x_isub (dT U_X11_isLike 63 rfl) ?_
    refine x_ialoadv (1) (dT U_X11_isLike 64 rfl) (w.bc i hi) (by omega) (by omega) (show 1 < 2 by omega) (show 2 < 2147483648 by decide) (show _ = (σ.P i).c1 from rfl) ?_
    refine x_icmp_ne (tgt := 122) (dT U_X11_isLike 65 rfl) (by decide) (by unfold xr; omega) (by unfold xr; omega) (fun c100 => ?_) (fun c100 => ?_)
    · skip
      refine x_iconst (dT U_X11_isLike 78 rfl) ?_
      refine x_istore (ls' := [some (.ref _), some (vi _), some (vi _), some (vi _), some (vi _), some (vi _), some (vi _), some (vi _), some (vi _), some (vi _)]) (dT U_X11_isLike 79 rfl) (by decide) rfl ?_
      refine x_iload (dT U_X11_isLike 80 rfl) rfl ?_
      refine x_if_eqj (tgt := 181) (dT U_X11_isLike 81 rfl) (by decide) (by decide) ?_
      refine x_iconst (dT U_X11_isLike 115 rfl) ?_
      refine x_zreturn (dT U_X11_isLike 116 rfl) rfl (by omega) ?_
      first | exact k0 (fun z => by have := z.1.1; omega) | exact k0 (fun z => by have := ow2 z.2.1; omega) | exact k0 (fun z => by have y1 := ow2 z.2.1; have y2 := z.1.2; rw [← y1] at y2; omega) | exact k0 (fun z => by have := z.2; omega) | exact k1 ⟨⟨by omega, by have y1 := ow2 ce; rw [← y1]; omega⟩, ce, te⟩
    · skip
      refine x_iload (dT U_X11_isLike 66 rfl) rfl ?_
      refine x_aload_n (dT U_X11_isLike 67 rfl) rfl ?_
      refine x_getfield F_X11_82 (dT U_X11_isLike 68 rfl) w.c70 (Nat.le_of_ble_eq_true rfl) rfl ?_
      refine x_iload_n (dT U_X11_isLike 69 rfl) rfl ?_
      refine x_aaload (i) (dT U_X11_isLike 70 rfl) w.c121 (Nat.le_of_ble_eq_true rfl) (by decide) rfl (btL_get (by omega)) (Nat.le_of_ble_eq_true rfl) ?_
      refine x_iconst (dT U_X11_isLike 71 rfl) ?_
      refine x_iload_n (dT U_X11_isLike 72 rfl) rfl ?_
      refine x_isub (dT U_X11_isLike 73 rfl) ?_
      refine x_ialoadv (1) (dT U_X11_isLike 74 rfl) (w.bt i hi) (by omega) (by omega) (show 1 < 2 by omega) (show 2 < 2147483648 by decide) (show _ = (σ.P i).t1 from rfl) ?_
      refine x_icmp_ne (tgt := 122) (dT U_X11_isLike 75 rfl) (by decide) (by unfold xr; omega) (by unfold xr; omega) (fun c115 => ?_) (fun c115 => ?_)
      · skip
        refine x_iconst (dT U_X11_isLike 78 rfl) ?_
        refine x_istore (ls' := [some (.ref _), some (vi _), some (vi _), some (vi _), some (vi _), some (vi _), some (vi _), some (vi _), some (vi _), some (vi _)]) (dT U_X11_isLike 79 rfl) (by decide) rfl ?_
        refine x_iload (dT U_X11_isLike 80 rfl) rfl ?_
        refine x_if_eqj (tgt := 181) (dT U_X11_isLike 81 rfl) (by decide) (by decide) ?_
        refine x_iconst (dT U_X11_isLike 115 rfl) ?_
        refine x_zreturn (dT U_X11_isLike 116 rfl) rfl (by omega) ?_
        first | exact k0 (fun z => by have := z.1.1; omega) | exact k0 (fun z => by have := ow2 z.2.1; omega) | exact k0 (fun z => by have y1 := ow2 z.2.1; have y2 := z.1.2; rw [← y1] at y2; omega) | exact k0 (fun z => by have := z.2; omega) | exact k1 ⟨⟨by omega, by have y1 := ow2 ce; rw [← y1]; omega⟩, ce, te⟩
      · skip
        refine x_iconst (dT U_X11_isLike 76 rfl) ?_
        refine x_goto (tgt := 123) (dT U_X11_isLike 77 rfl) (by decide) ?_
        refine x_istore (ls' := [some (.ref _), some (vi _), some (vi _), some (vi _), some (vi _), some (vi _), some (vi _), some (vi _), some (vi _), some (vi _)]) (dT U_X11_isLike 79 rfl) (by decide) rfl ?_
        refine x_iload (dT U_X11_isLike 80 rfl) rfl ?_
        refine x_if_eqj (tgt := 181) (dT U_X11_isLike 81 rfl) (by decide) (by decide) ?_
        refine x_iconst (dT U_X11_isLike 115 rfl) ?_
        refine x_zreturn (dT U_X11_isLike 116 rfl) rfl (by omega) ?_
        first | exact k0 (fun z => by have := z.1.1; omega) | exact k0 (fun z => by have := ow2 z.2.1; omega) | exact k0 (fun z => by have y1 := ow2 z.2.1; have y2 := z.1.2; rw [← y1] at y2; omega) | exact k0 (fun z => by have := z.2; omega) | exact k1 ⟨⟨by omega, by have y1 := ow2 ce; rw [← y1]; omega⟩, ce, te⟩
  · skip
    refine x_iload (dT U_X11_isLike 27 rfl) rfl ?_
    refine x_aload_n (dT U_X11_isLike 28 rfl) rfl ?_
    refine x_getfield F_X11_79 (dT U_X11_isLike 29 rfl) w.c70 (Nat.le_of_ble_eq_true rfl) rfl ?_
    refine x_iload_n (dT U_X11_isLike 30 rfl) rfl ?_
    refine x_aaload (i) (dT U_X11_isLike 31 rfl) w.c118 (Nat.le_of_ble_eq_true rfl) (by decide) rfl (bcL_get (by omega)) (Nat.le_of_ble_eq_true rfl) ?_
    refine x_iload_n (dT U_X11_isLike 32 rfl) rfl ?_
    refine x_ialoadv (0) (dT U_X11_isLike 33 rfl) (w.bc i hi) (by omega) rfl (show 0 < 2 by omega) (show 2 < 2147483648 by decide) (show _ = (σ.P i).c0 from rfl) ?_
    refine x_icmp_ne (tgt := 85) (dT U_X11_isLike 34 rfl) (by decide) (by unfold xr; omega) (by unfold xr; omega) (fun c53 => ?_) (fun c53 => ?_)
    · skip
      refine x_iconst (dT U_X11_isLike 54 rfl) ?_
      refine x_istore (ls' := [some (.ref _), some (vi _), some (vi _), some (vi _), some (vi _), some (vi _), some (vi _), some (vi _), some (vi _), none]) (dT U_X11_isLike 55 rfl) (by decide) rfl ?_
      refine x_iload (dT U_X11_isLike 56 rfl) rfl ?_
      refine x_aload_n (dT U_X11_isLike 57 rfl) rfl ?_
      refine x_getfield F_X11_79 (dT U_X11_isLike 58 rfl) w.c70 (Nat.le_of_ble_eq_true rfl) rfl ?_
      refine x_iload_n (dT U_X11_isLike 59 rfl) rfl ?_
      refine x_aaload (i) (dT U_X11_isLike 60 rfl) w.c118 (Nat.le_of_ble_eq_true rfl) (by decide) rfl (bcL_get (by omega)) (Nat.le_of_ble_eq_true rfl) ?_
      refine x_iconst (dT U_X11_isLike 61 rfl) ?_
      refine x_iload_n (dT U_X11_isLike 62 rfl) rfl ?_
      refine x_isub (dT U_X11_isLike 63 rfl) ?_
      refine x_ialoadv (1) (dT U_X11_isLike 64 rfl) (w.bc i hi) (by omega) (by omega) (show 1 < 2 by omega) (show 2 < 2147483648 by decide) (show _ = (σ.P i).c1 from rfl) ?_
      refine x_icmp_ne (tgt := 122) (dT U_X11_isLike 65 rfl) (by decide) (by unfold xr; omega) (by unfold xr; omega) (fun c100 => ?_) (fun c100 => ?_)
      · skip
        refine x_iconst (dT U_X11_isLike 78 rfl) ?_
        refine x_istore (ls' := [some (.ref _), some (vi _), some (vi _), some (vi _), some (vi _), some (vi _), some (vi _), some (vi _), some (vi _), some (vi _)]) (dT U_X11_isLike 79 rfl) (by decide) rfl ?_
        refine x_iload (dT U_X11_isLike 80 rfl) rfl ?_
        refine x_if_eqj (tgt := 181) (dT U_X11_isLike 81 rfl) (by decide) (by decide) ?_
        refine x_iconst (dT U_X11_isLike 115 rfl) ?_
        refine x_zreturn (dT U_X11_isLike 116 rfl) rfl (by omega) ?_
        first | exact k0 (fun z => by have := z.1.1; omega) | exact k0 (fun z => by have := ow2 z.2.1; omega) | exact k0 (fun z => by have y1 := ow2 z.2.1; have y2 := z.1.2; rw [← y1] at y2; omega) | exact k0 (fun z => by have := z.2; omega) | exact k1 ⟨⟨by omega, by have y1 := ow2 ce; rw [← y1]; omega⟩, ce, te⟩
      · skip
        refine x_iload (dT U_X11_isLike 66 rfl) rfl ?_
        refine x_aload_n (dT U_X11_isLike 67 rfl) rfl ?_
        refine x_getfield F_X11_82 (dT U_X11_isLike 68 rfl) w.c70 (Nat.le_of_ble_eq_true rfl) rfl ?_
        refine x_iload_n (dT U_X11_isLike 69 rfl) rfl ?_
        refine x_aaload (i) (dT U_X11_isLike 70 rfl) w.c121 (Nat.le_of_ble_eq_true rfl) (by decide) rfl (btL_get (by omega)) (Nat.le_of_ble_eq_true rfl) ?_
        refine x_iconst (dT U_X11_isLike 71 rfl) ?_
        refine x_iload_n (dT U_X11_isLike 72 rfl) rfl ?_
        refine x_isub (dT U_X11_isLike 73 rfl) ?_
        refine x_ialoadv (1) (dT U_X11_isLike 74 rfl) (w.bt i hi) (by omega) (by omega) (show 1 < 2 by omega) (show 2 < 2147483648 by decide) (show _ = (σ.P i).t1 from rfl) ?_
        refine x_icmp_ne (tgt := 122) (dT U_X11_isLike 75 rfl) (by decide) (by unfold xr; omega) (by unfold xr; omega) (fun c115 => ?_) (fun c115 => ?_)
        · skip
          refine x_iconst (dT U_X11_isLike 78 rfl) ?_
          refine x_istore (ls' := [some (.ref _), some (vi _), some (vi _), some (vi _), some (vi _), some (vi _), some (vi _), some (vi _), some (vi _), some (vi _)]) (dT U_X11_isLike 79 rfl) (by decide) rfl ?_
          refine x_iload (dT U_X11_isLike 80 rfl) rfl ?_
          refine x_if_eqj (tgt := 181) (dT U_X11_isLike 81 rfl) (by decide) (by decide) ?_
          refine x_iconst (dT U_X11_isLike 115 rfl) ?_
          refine x_zreturn (dT U_X11_isLike 116 rfl) rfl (by omega) ?_
          first | exact k0 (fun z => by have := z.1.1; omega) | exact k0 (fun z => by have := ow2 z.2.1; omega) | exact k0 (fun z => by have y1 := ow2 z.2.1; have y2 := z.1.2; rw [← y1] at y2; omega) | exact k0 (fun z => by have := z.2; omega) | exact k1 ⟨⟨by omega, by have y1 := ow2 ce; rw [← y1]; omega⟩, ce, te⟩
        · skip
          refine x_iconst (dT U_X11_isLike 76 rfl) ?_
          refine x_goto (tgt := 123) (dT U_X11_isLike 77 rfl) (by decide) ?_
          refine x_istore (ls' := [some (.ref _), some (vi _), some (vi _), some (vi _), some (vi _), some (vi _), some (vi _), some (vi _), some (vi _), some (vi _)]) (dT U_X11_isLike 79 rfl) (by decide) rfl ?_
          refine x_iload (dT U_X11_isLike 80 rfl) rfl ?_
          refine x_if_eqj (tgt := 181) (dT U_X11_isLike 81 rfl) (by decide) (by decide) ?_
          refine x_iconst (dT U_X11_isLike 115 rfl) ?_
          refine x_zreturn (dT U_X11_isLike 116 rfl) rfl (by omega) ?_
          first | exact k0 (fun z => by have := z.1.1; omega) | exact k0 (fun z => by have := ow2 z.2.1; omega) | exact k0 (fun z => by have y1 := ow2 z.2.1; have y2 := z.1.2; rw [← y1] at y2; omega) | exact k0 (fun z => by have := z.2; omega) | exact k1 ⟨⟨by omega, by have y1 := ow2 ce; rw [← y1]; omega⟩, ce, te⟩
    · skip
      refine x_aload_n (dT U_X11_isLike 35 rfl) rfl ?_
      refine x_iload (dT U_X11_isLike 36 rfl) rfl ?_
      refine x_i2l (dT U_X11_isLike 37 rfl) (by unfold xr; omega) ?_
      refine x_iload (dT U_X11_isLike 38 rfl) rfl ?_
      refine x_i2l (dT U_X11_isLike 39 rfl) (by unfold xr; omega) ?_
      refine x_iload_n (dT U_X11_isLike 40 rfl) rfl ?_
      refine x_i2l (dT U_X11_isLike 41 rfl) (by unfold xr; omega) ?_
      refine x_lmul (dT U_X11_isLike 42 rfl) ?_
      refine x_ladd (dT U_X11_isLike 43 rfl) ?_
      refine x_invokevirtual (rc' := rc) (rs' := rs) (rc2 := 0) (rs2 := 0) (As := [_]) (st := _) M_X11_f K_X11_156 (dT U_X11_isLike 44 rfl) rfl rfl (by decide) rfl rfl w.c70 (Nat.le_of_ble_eq_true rfl) (by decide) rfl (Nat.le_of_ble_eq_true rfl) rfl (by decide) (Nat.le_of_ble_eq_true rfl) rfl rfl ?_
      have m3 := mulb (a := ((σ.P i).c - c) % (σ.p : Int)) (b := ((((σ.P i).e - 0 * (bs σ.p 0 : Int)) % (σ.p : Int)) * (iv σ.p (bs σ.p 8) : Int) % (σ.p : Int))) (p := (σ.p : Int)) ow (modb (by omega)) (by omega)
      refine S_X11_f (w.mp) v.p (by unfold xrl; omega) ?_
      have z3 := modb (z := m + ((σ.P i).c - c) % (σ.p : Int) * ((((σ.P i).e - 0 * (bs σ.p 0 : Int)) % (σ.p : Int)) * (iv σ.p (bs σ.p 8) : Int) % (σ.p : Int))) (p := (σ.p : Int)) (by omega)
      refine xRet_some ?_
      refine x_aload_n (dT U_X11_isLike 45 rfl) rfl ?_
      refine x_getfield F_X11_82 (dT U_X11_isLike 46 rfl) w.c70 (Nat.le_of_ble_eq_true rfl) rfl ?_
      refine x_iload_n (dT U_X11_isLike 47 rfl) rfl ?_
      refine x_aaload (i) (dT U_X11_isLike 48 rfl) w.c121 (Nat.le_of_ble_eq_true rfl) (by decide) rfl (btL_get (by omega)) (Nat.le_of_ble_eq_true rfl) ?_
      refine x_iload_n (dT U_X11_isLike 49 rfl) rfl ?_
      refine x_ialoadv (0) (dT U_X11_isLike 50 rfl) (w.bt i hi) (by omega) rfl (show 0 < 2 by omega) (show 2 < 2147483648 by decide) (show _ = (σ.P i).t0 from rfl) ?_
      refine x_icmp_ne (tgt := 85) (dT U_X11_isLike 51 rfl) (by decide) (by unfold xr; omega) (by unfold xr; omega) (fun c78 => ?_) (fun c78 => ?_)
      · skip
        refine x_iconst (dT U_X11_isLike 54 rfl) ?_
        refine x_istore (ls' := [some (.ref _), some (vi _), some (vi _), some (vi _), some (vi _), some (vi _), some (vi _), some (vi _), some (vi _), none]) (dT U_X11_isLike 55 rfl) (by decide) rfl ?_
        refine x_iload (dT U_X11_isLike 56 rfl) rfl ?_
        refine x_aload_n (dT U_X11_isLike 57 rfl) rfl ?_
        refine x_getfield F_X11_79 (dT U_X11_isLike 58 rfl) w.c70 (Nat.le_of_ble_eq_true rfl) rfl ?_
        refine x_iload_n (dT U_X11_isLike 59 rfl) rfl ?_
        refine x_aaload (i) (dT U_X11_isLike 60 rfl) w.c118 (Nat.le_of_ble_eq_true rfl) (by decide) rfl (bcL_get (by omega)) (Nat.le_of_ble_eq_true rfl) ?_
        refine x_iconst (dT U_X11_isLike 61 rfl) ?_
        refine x_iload_n (dT U_X11_isLike 62 rfl) rfl ?_
        refine x_isub (dT U_X11_isLike 63 rfl) ?_
        refine x_ialoadv (1) (dT U_X11_isLike 64 rfl) (w.bc i hi) (by omega) (by omega) (show 1 < 2 by omega) (show 2 < 2147483648 by decide) (show _ = (σ.P i).c1 from rfl) ?_
        refine x_icmp_ne (tgt := 122) (dT U_X11_isLike 65 rfl) (by decide) (by unfold xr; omega) (by unfold xr; omega) (fun c100 => ?_) (fun c100 => ?_)
        · skip
          refine x_iconst (dT U_X11_isLike 78 rfl) ?_
          refine x_istore (ls' := [some (.ref _), some (vi _), some (vi _), some (vi _), some (vi _), some (vi _), some (vi _), some (vi _), some (vi _), some (vi _)]) (dT U_X11_isLike 79 rfl) (by decide) rfl ?_
          refine x_iload (dT U_X11_isLike 80 rfl) rfl ?_
          refine x_if_eqj (tgt := 181) (dT U_X11_isLike 81 rfl) (by decide) (by decide) ?_
          refine x_iconst (dT U_X11_isLike 115 rfl) ?_
          refine x_zreturn (dT U_X11_isLike 116 rfl) rfl (by omega) ?_
          first | exact k0 (fun z => by have := z.1.1; omega) | exact k0 (fun z => by have := ow2 z.2.1; omega) | exact k0 (fun z => by have y1 := ow2 z.2.1; have y2 := z.1.2; rw [← y1] at y2; omega) | exact k0 (fun z => by have := z.2; omega) | exact k1 ⟨⟨by omega, by have y1 := ow2 ce; rw [← y1]; omega⟩, ce, te⟩
        · skip
          refine x_iload (dT U_X11_isLike 66 rfl) rfl ?_
          refine x_aload_n (dT U_X11_isLike 67 rfl) rfl ?_
          refine x_getfield F_X11_82 (dT U_X11_isLike 68 rfl) w.c70 (Nat.le_of_ble_eq_true rfl) rfl ?_
          refine x_iload_n (dT U_X11_isLike 69 rfl) rfl ?_
          refine x_aaload (i) (dT U_X11_isLike 70 rfl) w.c121 (Nat.le_of_ble_eq_true rfl) (by decide) rfl (btL_get (by omega)) (Nat.le_of_ble_eq_true rfl) ?_
          refine x_iconst (dT U_X11_isLike 71 rfl) ?_
          refine x_iload_n (dT U_X11_isLike 72 rfl) rfl ?_
          refine x_isub (dT U_X11_isLike 73 rfl) ?_
          refine x_ialoadv (1) (dT U_X11_isLike 74 rfl) (w.bt i hi) (by omega) (by omega) (show 1 < 2 by omega) (show 2 < 2147483648 by decide) (show _ = (σ.P i).t1 from rfl) ?_
          refine x_icmp_ne (tgt := 122) (dT U_X11_isLike 75 rfl) (by decide) (by unfold xr; omega) (by unfold xr; omega) (fun c115 => ?_) (fun c115 => ?_)
          · skip
            refine x_iconst (dT U_X11_isLike 78 rfl) ?_
            refine x_istore (ls' := [some (.ref _), some (vi _), some (vi _), some (vi _), some (vi _), some (vi _), some (vi _), some (vi _), some (vi _), some (vi _)]) (dT U_X11_isLike 79 rfl) (by decide) rfl ?_
            refine x_iload (dT U_X11_isLike 80 rfl) rfl ?_
            refine x_if_eqj (tgt := 181) (dT U_X11_isLike 81 rfl) (by decide) (by decide) ?_
            refine x_iconst (dT U_X11_isLike 115 rfl) ?_
            refine x_zreturn (dT U_X11_isLike 116 rfl) rfl (by omega) ?_
            first | exact k0 (fun z => by have := z.1.1; omega) | exact k0 (fun z => by have := ow2 z.2.1; omega) | exact k0 (fun z => by have y1 := ow2 z.2.1; have y2 := z.1.2; rw [← y1] at y2; omega) | exact k0 (fun z => by have := z.2; omega) | exact k1 ⟨⟨by omega, by have y1 := ow2 ce; rw [← y1]; omega⟩, ce, te⟩
          · skip
            refine x_iconst (dT U_X11_isLike 76 rfl) ?_
            refine x_goto (tgt := 123) (dT U_X11_isLike 77 rfl) (by decide) ?_
            refine x_istore (ls' := [some (.ref _), some (vi _), some (vi _), some (vi _), some (vi _), some (vi _), some (vi _), some (vi _), some (vi _), some (vi _)]) (dT U_X11_isLike 79 rfl) (by decide) rfl ?_
            refine x_iload (dT U_X11_isLike 80 rfl) rfl ?_
            refine x_if_eqj (tgt := 181) (dT U_X11_isLike 81 rfl) (by decide) (by decide) ?_
            refine x_iconst (dT U_X11_isLike 115 rfl) ?_
            refine x_zreturn (dT U_X11_isLike 116 rfl) rfl (by omega) ?_
            first | exact k0 (fun z => by have := z.1.1; omega) | exact k0 (fun z => by have := ow2 z.2.1; omega) | exact k0 (fun z => by have y1 := ow2 z.2.1; have y2 := z.1.2; rw [← y1] at y2; omega) | exact k0 (fun z => by have := z.2; omega) | exact k1 ⟨⟨by omega, by have y1 := ow2 ce; rw [← y1]; omega⟩, ce, te⟩
      · skip
        refine x_iconst (dT U_X11_isLike 52 rfl) ?_
        refine x_goto (tgt := 86) (dT U_X11_isLike 53 rfl) (by decide) ?_
        refine x_istore (ls' := [some (.ref _), some (vi _), some (vi _), some (vi _), some (vi _), some (vi _), some (vi _), some (vi _), some (vi _), none]) (dT U_X11_isLike 55 rfl) (by decide) rfl ?_
        refine x_iload (dT U_X11_isLike 56 rfl) rfl ?_
        refine x_aload_n (dT U_X11_isLike 57 rfl) rfl ?_
        refine x_getfield F_X11_79 (dT U_X11_isLike 58 rfl) w.c70 (Nat.le_of_ble_eq_true rfl) rfl ?_
        refine x_iload_n (dT U_X11_isLike 59 rfl) rfl ?_
        refine x_aaload (i) (dT U_X11_isLike 60 rfl) w.c118 (Nat.le_of_ble_eq_true rfl) (by decide) rfl (bcL_get (by omega)) (Nat.le_of_ble_eq_true rfl) ?_
        refine x_iconst (dT U_X11_isLike 61 rfl) ?_
        refine x_iload_n (dT U_X11_isLike 62 rfl) rfl ?_
        refine x_isub (dT U_X11_isLike 63 rfl) ?_
        refine x_ialoadv (1) (dT U_X11_isLike 64 rfl) (w.bc i hi) (by omega) (by omega) (show 1 < 2 by omega) (show 2 < 2147483648 by decide) (show _ = (σ.P i).c1 from rfl) ?_
        refine x_icmp_ne (tgt := 122) (dT U_X11_isLike 65 rfl) (by decide) (by unfold xr; omega) (by unfold xr; omega) (fun c100 => ?_) (fun c100 => ?_)
        · skip
          refine x_iconst (dT U_X11_isLike 78 rfl) ?_
          refine x_istore (ls' := [some (.ref _), some (vi _), some (vi _), some (vi _), some (vi _), some (vi _), some (vi _), some (vi _), some (vi _), some (vi _)]) (dT U_X11_isLike 79 rfl) (by decide) rfl ?_
          refine x_iload (dT U_X11_isLike 80 rfl) rfl ?_
          refine x_if_eqn (tgt := 181) (dT U_X11_isLike 81 rfl) (by decide) (by decide) ?_
          refine x_iload (dT U_X11_isLike 82 rfl) rfl ?_
          refine x_if_eqj (tgt := 181) (dT U_X11_isLike 83 rfl) (by decide) (by decide) ?_
          refine x_iconst (dT U_X11_isLike 115 rfl) ?_
          refine x_zreturn (dT U_X11_isLike 116 rfl) rfl (by omega) ?_
          first | exact k0 (fun z => by have := z.1.1; omega) | exact k0 (fun z => by have := ow2 z.2.1; omega) | exact k0 (fun z => by have y1 := ow2 z.2.1; have y2 := z.1.2; rw [← y1] at y2; omega) | exact k0 (fun z => by have := z.2; omega) | exact k1 ⟨⟨by omega, by have y1 := ow2 ce; rw [← y1]; omega⟩, ce, te⟩
        · skip
          refine x_iload (dT U_X11_isLike 66 rfl) rfl ?_
          refine x_aload_n (dT U_X11_isLike 67 rfl) rfl ?_
          refine x_getfield F_X11_82 (dT U_X11_isLike 68 rfl) w.c70 (Nat.le_of_ble_eq_true rfl) rfl ?_
          refine x_iload_n (dT U_X11_isLike 69 rfl) rfl ?_
          refine x_aaload (i) (dT U_X11_isLike 70 rfl) w.c121 (Nat.le_of_ble_eq_true rfl) (by decide) rfl (btL_get (by omega)) (Nat.le_of_ble_eq_true rfl) ?_
          refine x_iconst (dT U_X11_isLike 71 rfl) ?_
          refine x_iload_n (dT U_X11_isLike 72 rfl) rfl ?_
          refine x_isub (dT U_X11_isLike 73 rfl) ?_
          refine x_ialoadv (1) (dT U_X11_isLike 74 rfl) (w.bt i hi) (by omega) (by omega) (show 1 < 2 by omega) (show 2 < 2147483648 by decide) (show _ = (σ.P i).t1 from rfl) ?_
          refine x_icmp_ne (tgt := 122) (dT U_X11_isLike 75 rfl) (by decide) (by unfold xr; omega) (by unfold xr; omega) (fun c115 => ?_) (fun c115 => ?_)
          · skip
            refine x_iconst (dT U_X11_isLike 78 rfl) ?_
            refine x_istore (ls' := [some (.ref _), some (vi _), some (vi _), some (vi _), some (vi _), some (vi _), some (vi _), some (vi _), some (vi _), some (vi _)]) (dT U_X11_isLike 79 rfl) (by decide) rfl ?_
            refine x_iload (dT U_X11_isLike 80 rfl) rfl ?_
            refine x_if_eqn (tgt := 181) (dT U_X11_isLike 81 rfl) (by decide) (by decide) ?_
            refine x_iload (dT U_X11_isLike 82 rfl) rfl ?_
            refine x_if_eqj (tgt := 181) (dT U_X11_isLike 83 rfl) (by decide) (by decide) ?_
            refine x_iconst (dT U_X11_isLike 115 rfl) ?_
            refine x_zreturn (dT U_X11_isLike 116 rfl) rfl (by omega) ?_
            first | exact k0 (fun z => by have := z.1.1; omega) | exact k0 (fun z => by have := ow2 z.2.1; omega) | exact k0 (fun z => by have y1 := ow2 z.2.1; have y2 := z.1.2; rw [← y1] at y2; omega) | exact k0 (fun z => by have := z.2; omega) | exact k1 ⟨⟨by omega, by have y1 := ow2 ce; rw [← y1]; omega⟩, ce, te⟩
          · skip
            refine x_iconst (dT U_X11_isLike 76 rfl) ?_
            refine x_goto (tgt := 123) (dT U_X11_isLike 77 rfl) (by decide) ?_
            refine x_istore (ls' := [some (.ref _), some (vi _), some (vi _), some (vi _), some (vi _), some (vi _), some (vi _), some (vi _), some (vi _), some (vi _)]) (dT U_X11_isLike 79 rfl) (by decide) rfl ?_
            refine x_iload (dT U_X11_isLike 80 rfl) rfl ?_
            refine x_if_eqn (tgt := 181) (dT U_X11_isLike 81 rfl) (by decide) (by decide) ?_
            refine x_iload (dT U_X11_isLike 82 rfl) rfl ?_
            refine x_if_eqn (tgt := 181) (dT U_X11_isLike 83 rfl) (by decide) (by decide) ?_
            refine x_aload_n (dT U_X11_isLike 84 rfl) rfl ?_
            refine x_iload (dT U_X11_isLike 85 rfl) rfl ?_
            refine x_i2l (dT U_X11_isLike 86 rfl) (by unfold xr; omega) ?_
            refine x_aload_n (dT U_X11_isLike 87 rfl) rfl ?_
            refine x_bipush (dT U_X11_isLike 88 rfl) (by decide) ?_
            refine x_invokevirtual (rc' := rc) (rs' := rs) (rc2 := 0) (rs2 := 0) (As := [_]) (st := _) M_X11_of K_X11_160 (dT U_X11_isLike 89 rfl) rfl rfl (by decide) rfl rfl w.c70 (Nat.le_of_ble_eq_true rfl) (by decide) rfl (Nat.le_of_ble_eq_true rfl) rfl (by decide) (Nat.le_of_ble_eq_true rfl) rfl rfl ?_
            have bb8 := bs_b v.p (i := 8) (by omega)
            refine S_X11_of (i := 8) (w.mp) v.p (by omega) ?_
            refine xRet_some ?_
            refine x_i2l (dT U_X11_isLike 90 rfl) (by unfold xr; omega) ?_
            refine x_lmul (dT U_X11_isLike 91 rfl) ?_
            refine x_iload (dT U_X11_isLike 92 rfl) rfl ?_
            refine x_i2l (dT U_X11_isLike 93 rfl) (by unfold xr; omega) ?_
            refine x_aload_n (dT U_X11_isLike 94 rfl) rfl ?_
            refine x_iload_n (dT U_X11_isLike 95 rfl) rfl ?_
            refine x_iconst (dT U_X11_isLike 96 rfl) ?_
            refine x_iload_n (dT U_X11_isLike 97 rfl) rfl ?_
            refine x_isub (dT U_X11_isLike 98 rfl) ?_
            refine x_invokevirtual (rc' := rc) (rs' := rs) (rc2 := 0) (rs2 := 0) (As := [_, _]) (st := _) M_X11_sideOf K_X11_281 (dT U_X11_isLike 99 rfl) rfl rfl (by decide) rfl rfl w.c70 (Nat.le_of_ble_eq_true rfl) (by decide) rfl (Nat.le_of_ble_eq_true rfl) rfl (by decide) (Nat.le_of_ble_eq_true rfl) rfl rfl ?_
            rw [show (1 : Int) - 0 = 1 by omega]
            have sd := modb (z := (σ.P i).e - 1 * (bs σ.p 0 : Int)) (p := (σ.p : Int)) (by omega)
            refine S_X11_sideOf1 (f := fun j => (σ.P j).e) (w.mp) v.p w.c110 hi se ?_
            change xRet _ _ _ _ _ _ _ _ _ _ (.inl (some (vi (((σ.P i).e - 1 * (bs σ.p 0 : Int)) % (σ.p : Int))))) _ _
            refine xRet_some ?_
            refine x_i2l (dT U_X11_isLike 100 rfl) (by unfold xr; omega) ?_
            refine x_lmul (dT U_X11_isLike 101 rfl) ?_
            refine x_lsub (dT U_X11_isLike 102 rfl) ?_
            refine x_invokevirtual (rc' := rc) (rs' := rs) (rc2 := 0) (rs2 := 0) (As := [_]) (st := _) M_X11_f K_X11_156 (dT U_X11_isLike 103 rfl) rfl rfl (by decide) rfl rfl w.c70 (Nat.le_of_ble_eq_true rfl) (by decide) rfl (Nat.le_of_ble_eq_true rfl) rfl (by decide) (Nat.le_of_ble_eq_true rfl) rfl rfl ?_
            have m4 := mulg (a := t) (b := (bs σ.p 8 : Int)) (m := 23) (n := 23) (by omega) (by omega)
            have m5 := mulb (a := c) (b := ((σ.P i).e - 1 * (bs σ.p 0 : Int)) % (σ.p : Int)) (p := (σ.p : Int)) (by omega) sd (by omega)
            refine S_X11_f (w.mp) v.p (by unfold xrl; omega) ?_
            rw [fo_m]
            have fb9 := fo_b (p := σ.p) (e := (σ.P i).e) (s := 1) (c := c) (t := t) hp.1
            refine xRet_some ?_
            refine x_aload_n (dT U_X11_isLike 104 rfl) rfl ?_
            refine x_getfield F_X11_76 (dT U_X11_isLike 105 rfl) w.c70 (Nat.le_of_ble_eq_true rfl) rfl ?_
            refine x_iload_n (dT U_X11_isLike 106 rfl) rfl ?_
            refine x_aaload (i) (dT U_X11_isLike 107 rfl) w.c115 (Nat.le_of_ble_eq_true rfl) (by decide) rfl (bfL_get (by omega)) (Nat.le_of_ble_eq_true rfl) ?_
            refine x_iconst (dT U_X11_isLike 108 rfl) ?_
            refine x_iload_n (dT U_X11_isLike 109 rfl) rfl ?_
            refine x_isub (dT U_X11_isLike 110 rfl) ?_
            refine x_ialoadv (1) (dT U_X11_isLike 111 rfl) (w.bf i hi) (by omega) (by omega) (show 1 < 2 by omega) (show 2 < 2147483648 by decide) (show _ = (σ.P i).f1 from rfl) ?_
            have ce : c = (σ.P i).c1 := Decidable.byContradiction (fun z => by omega)
            have te : t = (σ.P i).t1 := Decidable.byContradiction (fun z => by omega)
            have fe : fo σ.p (σ.P i).e 1 c t = (σ.P i).f1 := by rw [ce, te, f1e]
            refine x_icmp_ne (tgt := 181) (dT U_X11_isLike 112 rfl) (by decide) (by unfold xr; omega) (by unfold xr; omega) (fun c174 => ?_) (fun c174 => ?_)
            · exfalso; omega
            · skip
              refine x_iconst (dT U_X11_isLike 113 rfl) ?_
              refine x_goto (tgt := 182) (dT U_X11_isLike 114 rfl) (by decide) ?_
              refine x_zreturn (dT U_X11_isLike 116 rfl) rfl (by omega) ?_
              first | exact k0 (fun z => by have := z.1.1; omega) | exact k0 (fun z => by have := ow2 z.2.1; omega) | exact k0 (fun z => by have y1 := ow2 z.2.1; have y2 := z.1.2; rw [← y1] at y2; omega) | exact k0 (fun z => by have := z.2; omega) | exact k1 ⟨⟨by omega, by have y1 := ow2 ce; rw [← y1]; omega⟩, ce, te⟩

set_option maxRecDepth 20000 in
set_option maxHeartbeats 1000000 in
theorem S_X11_isLike1 {G : xG} {d rc rs : Nat} {ex : Bool} {h : xH} {Q : xQ} {σ : St} {cc0 : Int} {rr : Nat} {ss : Int} {i : Nat} {m c t : Int} (w : MX σ cc0 rr ss h) (v : INV σ) (hi : i < 2) (hst : (σ.P i).st = 3) (hm : 0 ≤ m ∧ m < σ.p) (hc : 0 ≤ c ∧ c < σ.p) (ht : 0 ≤ t ∧ t < σ.p) (k1 : (cm1 σ.p 0 m = (σ.P i).f1 ∧ (m + (σ.P i).c1 * ((((σ.P i).e - 1 * (bs σ.p 0 : Int)) % (σ.p : Int)) * (iv σ.p (bs σ.p 8) : Int) % (σ.p : Int))) % (σ.p : Int) = (σ.P i).t1) ∧ c = (σ.P i).c0 ∧ t = (σ.P i).t0 → Q (.inl (some (vi 1))) ex h) (k0 : ¬ ((cm1 σ.p 0 m = (σ.P i).f1 ∧ (m + (σ.P i).c1 * ((((σ.P i).e - 1 * (bs σ.p 0 : Int)) % (σ.p : Int)) * (iv σ.p (bs σ.p 8) : Int) % (σ.p : Int))) % (σ.p : Int) = (σ.P i).t1) ∧ c = (σ.P i).c0 ∧ t = (σ.P i).t0) → Q (.inl (some (vi 0))) ex h) : X G m_X11_isLike (d + 2) rc rs ex 0 (xe m_X11_isLike.2.2.1 [.ref 70, vi (i : Int), vi 1, vi ((((σ.P i).e - 1 * (bs σ.p 0 : Int)) % (σ.p : Int)) * (iv σ.p (bs σ.p 8) : Int) % (σ.p : Int)), vi m, vi c, vi t]) [] h Q := by
  show X G m_X11_isLike _ _ _ _ 0 [some (.ref 70), some (vi (i : Int)), some (vi 1), some (vi ((((σ.P i).e - 1 * (bs σ.p 0 : Int)) % (σ.p : Int)) * (iv σ.p (bs σ.p 8) : Int) % (σ.p : Int))), some (vi m), some (vi c), some (vi t), none, none, none] [] h Q
  have hp := PRb v.p
  have hq := gq_b v.p
  have okp := v.P i hi
  obtain ⟨f0e, f1e, cce, c0b, c1b, t0b, t1b⟩ := okp.all v.p hst
  have se := okp.eb hp.1 (by omega)
  have b24 := okp.2.2.2.2
  have f0b : 0 ≤ (σ.P i).f0 ∧ (σ.P i).f0 < σ.p := by rw [f0e]; exact fo_b hp.1
  have f1b : 0 ≤ (σ.P i).f1 ∧ (σ.P i).f1 < σ.p := by rw [f1e]; exact fo_b hp.1
  have cr9 := okp.cr (by omega)
  have ow := modb (z := (σ.P i).c - c) (p := (σ.p : Int)) (by omega)
  have ow2 : c = (σ.P i).c0 → ((σ.P i).c - c) % (σ.p : Int) = (σ.P i).c1 := fun z => by rw [z, ← cce, sm_l]; rw [show (σ.P i).c0 + (σ.P i).c1 - (σ.P i).c0 = (σ.P i).c1 by omega]; exact Int.emod_eq_of_lt c1b.1 c1b.2
  have OBb := modb (z := (((σ.P i).e - 1 * (bs σ.p 0 : Int)) % (σ.p : Int)) * (iv σ.p (bs σ.p 8) : Int)) (p := (σ.p : Int)) (by omega)
  refine x_aload_n (dT U_X11_isLike 0 rfl) rfl ?_
  refine x_aload_n (dT U_X11_isLike 1 rfl) rfl ?_
  refine x_getfield F_X11_73 (dT U_X11_isLike 2 rfl) w.c70 (Nat.le_of_ble_eq_true rfl) rfl ?_
  refine x_iload_n (dT U_X11_isLike 3 rfl) rfl ?_
  refine x_ialoadv (i) (dT U_X11_isLike 4 rfl) w.c114 (Nat.le_of_ble_eq_true rfl) rfl (show i < 2 by omega) (show 2 < 2147483648 by decide) (show _ = (σ.P i).c from t2_get hi) ?_
  refine x_i2l (dT U_X11_isLike 5 rfl) (by unfold xr; omega) ?_
  refine x_iload (dT U_X11_isLike 6 rfl) rfl ?_
  refine x_i2l (dT U_X11_isLike 7 rfl) (by unfold xr; omega) ?_
  refine x_lsub (dT U_X11_isLike 8 rfl) ?_
  refine x_invokevirtual (rc' := rc) (rs' := rs) (rc2 := 0) (rs2 := 0) (As := [_]) (st := _) M_X11_f K_X11_156 (dT U_X11_isLike 9 rfl) rfl rfl (by decide) rfl rfl w.c70 (Nat.le_of_ble_eq_true rfl) (by decide) rfl (Nat.le_of_ble_eq_true rfl) rfl (by decide) (Nat.le_of_ble_eq_true rfl) rfl rfl ?_
  refine S_X11_f (w.mp) v.p (by unfold xrl; omega) ?_
  refine xRet_some ?_
  refine x_istore (ls' := [some (.ref _), some (vi _), some (vi _), some (vi _), some (vi _), some (vi _), some (vi _), some (vi _), none, none]) (dT U_X11_isLike 10 rfl) (by decide) rfl ?_
  refine x_aload_n (dT U_X11_isLike 11 rfl) rfl ?_
  refine x_iload (dT U_X11_isLike 12 rfl) rfl ?_
  refine x_i2l (dT U_X11_isLike 13 rfl) (by unfold xr; omega) ?_
  refine x_aload_n (dT U_X11_isLike 14 rfl) rfl ?_
  refine x_bipush (dT U_X11_isLike 15 rfl) (by decide) ?_
  refine x_invokevirtual (rc' := rc) (rs' := rs) (rc2 := 0) (rs2 := 0) (As := [_]) (st := _) M_X11_of K_X11_160 (dT U_X11_isLike 16 rfl) rfl rfl (by decide) rfl rfl w.c70 (Nat.le_of_ble_eq_true rfl) (by decide) rfl (Nat.le_of_ble_eq_true rfl) rfl (by decide) (Nat.le_of_ble_eq_true rfl) rfl rfl ?_
  have bb8 := bs_b v.p (i := 8) (by omega)
  refine S_X11_of (i := 8) (w.mp) v.p (by omega) ?_
  refine xRet_some ?_
  refine x_i2l (dT U_X11_isLike 17 rfl) (by unfold xr; omega) ?_
  refine x_lmul (dT U_X11_isLike 18 rfl) ?_
  refine x_invokevirtual (rc' := rc) (rs' := rs) (rc2 := 0) (rs2 := 0) (As := [_]) (st := _) M_X11_f K_X11_156 (dT U_X11_isLike 19 rfl) rfl rfl (by decide) rfl rfl w.c70 (Nat.le_of_ble_eq_true rfl) (by decide) rfl (Nat.le_of_ble_eq_true rfl) rfl (by decide) (Nat.le_of_ble_eq_true rfl) rfl rfl ?_
  have m1 := mulg (a := m) (b := (bs σ.p 8 : Int)) (m := 23) (n := 23) (by omega) (by omega)
  refine S_X11_f (w.mp) v.p (by unfold xrl; omega) ?_
  rw [cm1_m]
  have cb9 := cm1_b (p := σ.p) (n := 0) (b := m) hp.1
  refine xRet_some ?_
  refine x_aload_n (dT U_X11_isLike 20 rfl) rfl ?_
  refine x_getfield F_X11_76 (dT U_X11_isLike 21 rfl) w.c70 (Nat.le_of_ble_eq_true rfl) rfl ?_
  refine x_iload_n (dT U_X11_isLike 22 rfl) rfl ?_
  refine x_aaload (i) (dT U_X11_isLike 23 rfl) w.c115 (Nat.le_of_ble_eq_true rfl) (by decide) rfl (bfL_get (by omega)) (Nat.le_of_ble_eq_true rfl) ?_
  refine x_iload_n (dT U_X11_isLike 24 rfl) rfl ?_
  refine x_ialoadv (1) (dT U_X11_isLike 25 rfl) (w.bf i hi) (by omega) rfl (show 1 < 2 by omega) (show 2 < 2147483648 by decide) (show _ = (σ.P i).f1 from rfl) ?_
  refine x_icmp_ne (tgt := 85) (dT U_X11_isLike 26 rfl) (by decide) (by unfold xr; omega) (by unfold xr; omega) (fun c40 => ?_) (fun c40 => ?_)
  · skip
    refine x_iconst (dT U_X11_isLike 54 rfl) ?_
    refine x_istore (ls' := [some (.ref _), some (vi _), some (vi _), some (vi _), some (vi _), some (vi _), some (vi _), some (vi _), some (vi _), none]) (dT U_X11_isLike 55 rfl) (by decide) rfl ?_
    refine x_iload (dT U_X11_isLike 56 rfl) rfl ?_
    refine x_aload_n (dT U_X11_isLike 57 rfl) rfl ?_
    refine x_getfield F_X11_79 (dT U_X11_isLike 58 rfl) w.c70 (Nat.le_of_ble_eq_true rfl) rfl ?_
    refine x_iload_n (dT U_X11_isLike 59 rfl) rfl ?_
    refine x_aaload (i) (dT U_X11_isLike 60 rfl) w.c118 (Nat.le_of_ble_eq_true rfl) (by decide) rfl (bcL_get (by omega)) (Nat.le_of_ble_eq_true rfl) ?_
    refine x_iconst (dT U_X11_isLike 61 rfl) ?_
    refine x_iload_n (dT U_X11_isLike 62 rfl) rfl ?_
    refine x_isub (dT U_X11_isLike 63 rfl) ?_
    refine x_ialoadv (0) (dT U_X11_isLike 64 rfl) (w.bc i hi) (by omega) (by omega) (show 0 < 2 by omega) (show 2 < 2147483648 by decide) (show _ = (σ.P i).c0 from rfl) ?_
    refine x_icmp_ne (tgt := 122) (dT U_X11_isLike 65 rfl) (by decide) (by unfold xr; omega) (by unfold xr; omega) (fun c100 => ?_) (fun c100 => ?_)
    · skip
      refine x_iconst (dT U_X11_isLike 78 rfl) ?_
      refine x_istore (ls' := [some (.ref _), some (vi _), some (vi _), some (vi _), some (vi _), some (vi _), some (vi _), some (vi _), some (vi _), some (vi _)]) (dT U_X11_isLike 79 rfl) (by decide) rfl ?_
      refine x_iload (dT U_X11_isLike 80 rfl) rfl ?_
      refine x_if_eqj (tgt := 181) (dT U_X11_isLike 81 rfl) (by decide) (by decide) ?_
      refine x_iconst (dT U_X11_isLike 115 rfl) ?_
      refine x_zreturn (dT U_X11_isLike 116 rfl) rfl (by omega) ?_
      first | exact k0 (fun z => by have := z.1.1; omega) | exact k0 (fun z => by have := ow2 z.2.1; omega) | exact k0 (fun z => by have y1 := ow2 z.2.1; have y2 := z.1.2; rw [← y1] at y2; omega) | exact k0 (fun z => by have := z.2; omega) | exact k1 ⟨⟨by omega, by have y1 := ow2 ce; rw [← y1]; omega⟩, ce, te⟩
    · skip
      refine x_iload (dT U_X11_isLike 66 rfl) rfl ?_
      refine x_aload_n (dT U_X11_isLike 67 rfl) rfl ?_
      refine x_getfield F_X11_82 (dT U_X11_isLike 68 rfl) w.c70 (Nat.le_of_ble_eq_true rfl) rfl ?_
      refine x_iload_n (dT U_X11_isLike 69 rfl) rfl ?_
      refine x_aaload (i) (dT U_X11_isLike 70 rfl) w.c121 (Nat.le_of_ble_eq_true rfl) (by decide) rfl (btL_get (by omega)) (Nat.le_of_ble_eq_true rfl) ?_
      refine x_iconst (dT U_X11_isLike 71 rfl) ?_
      refine x_iload_n (dT U_X11_isLike 72 rfl) rfl ?_
      refine x_isub (dT U_X11_isLike 73 rfl) ?_
      refine x_ialoadv (0) (dT U_X11_isLike 74 rfl) (w.bt i hi) (by omega) (by omega) (show 0 < 2 by omega) (show 2 < 2147483648 by decide) (show _ = (σ.P i).t0 from rfl) ?_
      refine x_icmp_ne (tgt := 122) (dT U_X11_isLike 75 rfl) (by decide) (by unfold xr; omega) (by unfold xr; omega) (fun c115 => ?_) (fun c115 => ?_)
      · skip
        refine x_iconst (dT U_X11_isLike 78 rfl) ?_
        refine x_istore (ls' := [some (.ref _), some (vi _), some (vi _), some (vi _), some (vi _), some (vi _), some (vi _), some (vi _), some (vi _), some (vi _)]) (dT U_X11_isLike 79 rfl) (by decide) rfl ?_
        refine x_iload (dT U_X11_isLike 80 rfl) rfl ?_
        refine x_if_eqj (tgt := 181) (dT U_X11_isLike 81 rfl) (by decide) (by decide) ?_
        refine x_iconst (dT U_X11_isLike 115 rfl) ?_
        refine x_zreturn (dT U_X11_isLike 116 rfl) rfl (by omega) ?_
        first | exact k0 (fun z => by have := z.1.1; omega) | exact k0 (fun z => by have := ow2 z.2.1; omega) | exact k0 (fun z => by have y1 := ow2 z.2.1; have y2 := z.1.2; rw [← y1] at y2; omega) | exact k0 (fun z => by have := z.2; omega) | exact k1 ⟨⟨by omega, by have y1 := ow2 ce; rw [← y1]; omega⟩, ce, te⟩
      · skip
        refine x_iconst (dT U_X11_isLike 76 rfl) ?_
        refine x_goto (tgt := 123) (dT U_X11_isLike 77 rfl) (by decide) ?_
        refine x_istore (ls' := [some (.ref _), some (vi _), some (vi _), some (vi _), some (vi _), some (vi _), some (vi _), some (vi _), some (vi _), some (vi _)]) (dT U_X11_isLike 79 rfl) (by decide) rfl ?_
        refine x_iload (dT U_X11_isLike 80 rfl) rfl ?_
        refine x_if_eqj (tgt := 181) (dT U_X11_isLike 81 rfl) (by decide) (by decide) ?_
        refine x_iconst (dT U_X11_isLike 115 rfl) ?_
        refine x_zreturn (dT U_X11_isLike 116 rfl) rfl (by omega) ?_
        first | exact k0 (fun z => by have := z.1.1; omega) | exact k0 (fun z => by have := ow2 z.2.1; omega) | exact k0 (fun z => by have y1 := ow2 z.2.1; have y2 := z.1.2; rw [← y1] at y2; omega) | exact k0 (fun z => by have := z.2; omega) | exact k1 ⟨⟨by omega, by have y1 := ow2 ce; rw [← y1]; omega⟩, ce, te⟩
  · skip
    refine x_iload (dT U_X11_isLike 27 rfl) rfl ?_
    refine x_aload_n (dT U_X11_isLike 28 rfl) rfl ?_
    refine x_getfield F_X11_79 (dT U_X11_isLike 29 rfl) w.c70 (Nat.le_of_ble_eq_true rfl) rfl ?_
    refine x_iload_n (dT U_X11_isLike 30 rfl) rfl ?_
    refine x_aaload (i) (dT U_X11_isLike 31 rfl) w.c118 (Nat.le_of_ble_eq_true rfl) (by decide) rfl (bcL_get (by omega)) (Nat.le_of_ble_eq_true rfl) ?_
    refine x_iload_n (dT U_X11_isLike 32 rfl) rfl ?_
    refine x_ialoadv (1) (dT U_X11_isLike 33 rfl) (w.bc i hi) (by omega) rfl (show 1 < 2 by omega) (show 2 < 2147483648 by decide) (show _ = (σ.P i).c1 from rfl) ?_
    refine x_icmp_ne (tgt := 85) (dT U_X11_isLike 34 rfl) (by decide) (by unfold xr; omega) (by unfold xr; omega) (fun c53 => ?_) (fun c53 => ?_)
    · skip
      refine x_iconst (dT U_X11_isLike 54 rfl) ?_
      refine x_istore (ls' := [some (.ref _), some (vi _), some (vi _), some (vi _), some (vi _), some (vi _), some (vi _), some (vi _), some (vi _), none]) (dT U_X11_isLike 55 rfl) (by decide) rfl ?_
      refine x_iload (dT U_X11_isLike 56 rfl) rfl ?_
      refine x_aload_n (dT U_X11_isLike 57 rfl) rfl ?_
      refine x_getfield F_X11_79 (dT U_X11_isLike 58 rfl) w.c70 (Nat.le_of_ble_eq_true rfl) rfl ?_
      refine x_iload_n (dT U_X11_isLike 59 rfl) rfl ?_
      refine x_aaload (i) (dT U_X11_isLike 60 rfl) w.c118 (Nat.le_of_ble_eq_true rfl) (by decide) rfl (bcL_get (by omega)) (Nat.le_of_ble_eq_true rfl) ?_
      refine x_iconst (dT U_X11_isLike 61 rfl) ?_
      refine x_iload_n (dT U_X11_isLike 62 rfl) rfl ?_
      refine x_isub (dT U_X11_isLike 63 rfl) ?_
      refine x_ialoadv (0) (dT U_X11_isLike 64 rfl) (w.bc i hi) (by omega) (by omega) (show 0 < 2 by omega) (show 2 < 2147483648 by decide) (show _ = (σ.P i).c0 from rfl) ?_
      refine x_icmp_ne (tgt := 122) (dT U_X11_isLike 65 rfl) (by decide) (by unfold xr; omega) (by unfold xr; omega) (fun c100 => ?_) (fun c100 => ?_)
      · skip
        refine x_iconst (dT U_X11_isLike 78 rfl) ?_
        refine x_istore (ls' := [some (.ref _), some (vi _), some (vi _), some (vi _), some (vi _), some (vi _), some (vi _), some (vi _), some (vi _), some (vi _)]) (dT U_X11_isLike 79 rfl) (by decide) rfl ?_
        refine x_iload (dT U_X11_isLike 80 rfl) rfl ?_
        refine x_if_eqj (tgt := 181) (dT U_X11_isLike 81 rfl) (by decide) (by decide) ?_
        refine x_iconst (dT U_X11_isLike 115 rfl) ?_
        refine x_zreturn (dT U_X11_isLike 116 rfl) rfl (by omega) ?_
        first | exact k0 (fun z => by have := z.1.1; omega) | exact k0 (fun z => by have := ow2 z.2.1; omega) | exact k0 (fun z => by have y1 := ow2 z.2.1; have y2 := z.1.2; rw [← y1] at y2; omega) | exact k0 (fun z => by have := z.2; omega) | exact k1 ⟨⟨by omega, by have y1 := ow2 ce; rw [← y1]; omega⟩, ce, te⟩
      · skip
        refine x_iload (dT U_X11_isLike 66 rfl) rfl ?_
        refine x_aload_n (dT U_X11_isLike 67 rfl) rfl ?_
        refine x_getfield F_X11_82 (dT U_X11_isLike 68 rfl) w.c70 (Nat.le_of_ble_eq_true rfl) rfl ?_
        refine x_iload_n (dT U_X11_isLike 69 rfl) rfl ?_
        refine x_aaload (i) (dT U_X11_isLike 70 rfl) w.c121 (Nat.le_of_ble_eq_true rfl) (by decide) rfl (btL_get (by omega)) (Nat.le_of_ble_eq_true rfl) ?_
        refine x_iconst (dT U_X11_isLike 71 rfl) ?_
        refine x_iload_n (dT U_X11_isLike 72 rfl) rfl ?_
        refine x_isub (dT U_X11_isLike 73 rfl) ?_
        refine x_ialoadv (0) (dT U_X11_isLike 74 rfl) (w.bt i hi) (by omega) (by omega) (show 0 < 2 by omega) (show 2 < 2147483648 by decide) (show _ = (σ.P i).t0 from rfl) ?_
        refine x_icmp_ne (tgt := 122) (dT U_X11_isLike 75 rfl) (by decide) (by unfold xr; omega) (by unfold xr; omega) (fun c115 => ?_) (fun c115 => ?_)
        · skip
          refine x_iconst (dT U_X11_isLike 78 rfl) ?_
          refine x_istore (ls' := [some (.ref _), some (vi _), some (vi _), some (vi _), some (vi _), some (vi _), some (vi _), some (vi _), some (vi _), some (vi _)]) (dT U_X11_isLike 79 rfl) (by decide) rfl ?_
          refine x_iload (dT U_X11_isLike 80 rfl) rfl ?_
          refine x_if_eqj (tgt := 181) (dT U_X11_isLike 81 rfl) (by decide) (by decide) ?_
          refine x_iconst (dT U_X11_isLike 115 rfl) ?_
          refine x_zreturn (dT U_X11_isLike 116 rfl) rfl (by omega) ?_
          first | exact k0 (fun z => by have := z.1.1; omega) | exact k0 (fun z => by have := ow2 z.2.1; omega) | exact k0 (fun z => by have y1 := ow2 z.2.1; have y2 := z.1.2; rw [← y1] at y2; omega) | exact k0 (fun z => by have := z.2; omega) | exact k1 ⟨⟨by omega, by have y1 := ow2 ce; rw [← y1]; omega⟩, ce, te⟩
        · skip
          refine x_iconst (dT U_X11_isLike 76 rfl) ?_
          refine x_goto (tgt := 123) (dT U_X11_isLike 77 rfl) (by decide) ?_
          refine x_istore (ls' := [some (.ref _), some (vi _), some (vi _), some (vi _), some (vi _), some (vi _), some (vi _), some (vi _), some (vi _), some (vi _)]) (dT U_X11_isLike 79 rfl) (by decide) rfl ?_
          refine x_iload (dT U_X11_isLike 80 rfl) rfl ?_
          refine x_if_eqj (tgt := 181) (dT U_X11_isLike 81 rfl) (by decide) (by decide) ?_
          refine x_iconst (dT U_X11_isLike 115 rfl) ?_
          refine x_zreturn (dT U_X11_isLike 116 rfl) rfl (by omega) ?_
          first | exact k0 (fun z => by have := z.1.1; omega) | exact k0 (fun z => by have := ow2 z.2.1; omega) | exact k0 (fun z => by have y1 := ow2 z.2.1; have y2 := z.1.2; rw [← y1] at y2; omega) | exact k0 (fun z => by have := z.2; omega) | exact k1 ⟨⟨by omega, by have y1 := ow2 ce; rw [← y1]; omega⟩, ce, te⟩
    · skip
      refine x_aload_n (dT U_X11_isLike 35 rfl) rfl ?_
      refine x_iload (dT U_X11_isLike 36 rfl) rfl ?_
      refine x_i2l (dT U_X11_isLike 37 rfl) (by unfold xr; omega) ?_
      refine x_iload (dT U_X11_isLike 38 rfl) rfl ?_
      refine x_i2l (dT U_X11_isLike 39 rfl) (by unfold xr; omega) ?_
      refine x_iload_n (dT U_X11_isLike 40 rfl) rfl ?_
      refine x_i2l (dT U_X11_isLike 41 rfl) (by unfold xr; omega) ?_
      refine x_lmul (dT U_X11_isLike 42 rfl) ?_
      refine x_ladd (dT U_X11_isLike 43 rfl) ?_
      refine x_invokevirtual (rc' := rc) (rs' := rs) (rc2 := 0) (rs2 := 0) (As := [_]) (st := _) M_X11_f K_X11_156 (dT U_X11_isLike 44 rfl) rfl rfl (by decide) rfl rfl w.c70 (Nat.le_of_ble_eq_true rfl) (by decide) rfl (Nat.le_of_ble_eq_true rfl) rfl (by decide) (Nat.le_of_ble_eq_true rfl) rfl rfl ?_
      have m3 := mulb (a := ((σ.P i).c - c) % (σ.p : Int)) (b := ((((σ.P i).e - 1 * (bs σ.p 0 : Int)) % (σ.p : Int)) * (iv σ.p (bs σ.p 8) : Int) % (σ.p : Int))) (p := (σ.p : Int)) ow (modb (by omega)) (by omega)
      refine S_X11_f (w.mp) v.p (by unfold xrl; omega) ?_
      have z3 := modb (z := m + ((σ.P i).c - c) % (σ.p : Int) * ((((σ.P i).e - 1 * (bs σ.p 0 : Int)) % (σ.p : Int)) * (iv σ.p (bs σ.p 8) : Int) % (σ.p : Int))) (p := (σ.p : Int)) (by omega)
      refine xRet_some ?_
      refine x_aload_n (dT U_X11_isLike 45 rfl) rfl ?_
      refine x_getfield F_X11_82 (dT U_X11_isLike 46 rfl) w.c70 (Nat.le_of_ble_eq_true rfl) rfl ?_
      refine x_iload_n (dT U_X11_isLike 47 rfl) rfl ?_
      refine x_aaload (i) (dT U_X11_isLike 48 rfl) w.c121 (Nat.le_of_ble_eq_true rfl) (by decide) rfl (btL_get (by omega)) (Nat.le_of_ble_eq_true rfl) ?_
      refine x_iload_n (dT U_X11_isLike 49 rfl) rfl ?_
      refine x_ialoadv (1) (dT U_X11_isLike 50 rfl) (w.bt i hi) (by omega) rfl (show 1 < 2 by omega) (show 2 < 2147483648 by decide) (show _ = (σ.P i).t1 from rfl) ?_
      refine x_icmp_ne (tgt := 85) (dT U_X11_isLike 51 rfl) (by decide) (by unfold xr; omega) (by unfold xr; omega) (fun c78 => ?_) (fun c78 => ?_)
      · skip
        refine x_iconst (dT U_X11_isLike 54 rfl) ?_
        refine x_istore (ls' := [some (.ref _), some (vi _), some (vi _), some (vi _), some (vi _), some (vi _), some (vi _), some (vi _), some (vi _), none]) (dT U_X11_isLike 55 rfl) (by decide) rfl ?_
        refine x_iload (dT U_X11_isLike 56 rfl) rfl ?_
        refine x_aload_n (dT U_X11_isLike 57 rfl) rfl ?_
        refine x_getfield F_X11_79 (dT U_X11_isLike 58 rfl) w.c70 (Nat.le_of_ble_eq_true rfl) rfl ?_
        refine x_iload_n (dT U_X11_isLike 59 rfl) rfl ?_
        refine x_aaload (i) (dT U_X11_isLike 60 rfl) w.c118 (Nat.le_of_ble_eq_true rfl) (by decide) rfl (bcL_get (by omega)) (Nat.le_of_ble_eq_true rfl) ?_
        refine x_iconst (dT U_X11_isLike 61 rfl) ?_
        refine x_iload_n (dT U_X11_isLike 62 rfl) rfl ?_
        refine x_isub (dT U_X11_isLike 63 rfl) ?_
        refine x_ialoadv (0) (dT U_X11_isLike 64 rfl) (w.bc i hi) (by omega) (by omega) (show 0 < 2 by omega) (show 2 < 2147483648 by decide) (show _ = (σ.P i).c0 from rfl) ?_
        refine x_icmp_ne (tgt := 122) (dT U_X11_isLike 65 rfl) (by decide) (by unfold xr; omega) (by unfold xr; omega) (fun c100 => ?_) (fun c100 => ?_)
        · skip
          refine x_iconst (dT U_X11_isLike 78 rfl) ?_
          refine x_istore (ls' := [some (.ref _), some (vi _), some (vi _), some (vi _), some (vi _), some (vi _), some (vi _), some (vi _), some (vi _), some (vi _)]) (dT U_X11_isLike 79 rfl) (by decide) rfl ?_
          refine x_iload (dT U_X11_isLike 80 rfl) rfl ?_
          refine x_if_eqj (tgt := 181) (dT U_X11_isLike 81 rfl) (by decide) (by decide) ?_
          refine x_iconst (dT U_X11_isLike 115 rfl) ?_
          refine x_zreturn (dT U_X11_isLike 116 rfl) rfl (by omega) ?_
          first | exact k0 (fun z => by have := z.1.1; omega) | exact k0 (fun z => by have := ow2 z.2.1; omega) | exact k0 (fun z => by have y1 := ow2 z.2.1; have y2 := z.1.2; rw [← y1] at y2; omega) | exact k0 (fun z => by have := z.2; omega) | exact k1 ⟨⟨by omega, by have y1 := ow2 ce; rw [← y1]; omega⟩, ce, te⟩
        · skip
          refine x_iload (dT U_X11_isLike 66 rfl) rfl ?_
          refine x_aload_n (dT U_X11_isLike 67 rfl) rfl ?_
          refine x_getfield F_X11_82 (dT U_X11_isLike 68 rfl) w.c70 (Nat.le_of_ble_eq_true rfl) rfl ?_
          refine x_iload_n (dT U_X11_isLike 69 rfl) rfl ?_
          refine x_aaload (i) (dT U_X11_isLike 70 rfl) w.c121 (Nat.le_of_ble_eq_true rfl) (by decide) rfl (btL_get (by omega)) (Nat.le_of_ble_eq_true rfl) ?_
          refine x_iconst (dT U_X11_isLike 71 rfl) ?_
          refine x_iload_n (dT U_X11_isLike 72 rfl) rfl ?_
          refine x_isub (dT U_X11_isLike 73 rfl) ?_
          refine x_ialoadv (0) (dT U_X11_isLike 74 rfl) (w.bt i hi) (by omega) (by omega) (show 0 < 2 by omega) (show 2 < 2147483648 by decide) (show _ = (σ.P i).t0 from rfl) ?_
          refine x_icmp_ne (tgt := 122) (dT U_X11_isLike 75 rfl) (by decide) (by unfold xr; omega) (by unfold xr; omega) (fun c115 => ?_) (fun c115 => ?_)
          · skip
            refine x_iconst (dT U_X11_isLike 78 rfl) ?_
            refine x_istore (ls' := [some (.ref _), some (vi _), some (vi _), some (vi _), some (vi _), some (vi _), some (vi _), some (vi _), some (vi _), some (vi _)]) (dT U_X11_isLike 79 rfl) (by decide) rfl ?_
            refine x_iload (dT U_X11_isLike 80 rfl) rfl ?_
            refine x_if_eqj (tgt := 181) (dT U_X11_isLike 81 rfl) (by decide) (by decide) ?_
            refine x_iconst (dT U_X11_isLike 115 rfl) ?_
            refine x_zreturn (dT U_X11_isLike 116 rfl) rfl (by omega) ?_
            first | exact k0 (fun z => by have := z.1.1; omega) | exact k0 (fun z => by have := ow2 z.2.1; omega) | exact k0 (fun z => by have y1 := ow2 z.2.1; have y2 := z.1.2; rw [← y1] at y2; omega) | exact k0 (fun z => by have := z.2; omega) | exact k1 ⟨⟨by omega, by have y1 := ow2 ce; rw [← y1]; omega⟩, ce, te⟩
          · skip
            refine x_iconst (dT U_X11_isLike 76 rfl) ?_
            refine x_goto (tgt := 123) (dT U_X11_isLike 77 rfl) (by decide) ?_
            refine x_istore (ls' := [some (.ref _), some (vi _), some (vi _), some (vi _), some (vi _), some (vi _), some (vi _), some (vi _), some (vi _), some (vi _)]) (dT U_X11_isLike 79 rfl) (by decide) rfl ?_
            refine x_iload (dT U_X11_isLike 80 rfl) rfl ?_
            refine x_if_eqj (tgt := 181) (dT U_X11_isLike 81 rfl) (by decide) (by decide) ?_
            refine x_iconst (dT U_X11_isLike 115 rfl) ?_
            refine x_zreturn (dT U_X11_isLike 116 rfl) rfl (by omega) ?_
            first | exact k0 (fun z => by have := z.1.1; omega) | exact k0 (fun z => by have := ow2 z.2.1; omega) | exact k0 (fun z => by have y1 := ow2 z.2.1; have y2 := z.1.2; rw [← y1] at y2; omega) | exact k0 (fun z => by have := z.2; omega) | exact k1 ⟨⟨by omega, by have y1 := ow2 ce; rw [← y1]; omega⟩, ce, te⟩
      · skip
        refine x_iconst (dT U_X11_isLike 52 rfl) ?_
        refine x_goto (tgt := 86) (dT U_X11_isLike 53 rfl) (by decide) ?_
        refine x_istore (ls' := [some (.ref _), some (vi _), some (vi _), some (vi _), some (vi _), some (vi _), some (vi _), some (vi _), some (vi _), none]) (dT U_X11_isLike 55 rfl) (by decide) rfl ?_
        refine x_iload (dT U_X11_isLike 56 rfl) rfl ?_
        refine x_aload_n (dT U_X11_isLike 57 rfl) rfl ?_
        refine x_getfield F_X11_79 (dT U_X11_isLike 58 rfl) w.c70 (Nat.le_of_ble_eq_true rfl) rfl ?_
        refine x_iload_n (dT U_X11_isLike 59 rfl) rfl ?_
        refine x_aaload (i) (dT U_X11_isLike 60 rfl) w.c118 (Nat.le_of_ble_eq_true rfl) (by decide) rfl (bcL_get (by omega)) (Nat.le_of_ble_eq_true rfl) ?_
        refine x_iconst (dT U_X11_isLike 61 rfl) ?_
        refine x_iload_n (dT U_X11_isLike 62 rfl) rfl ?_
        refine x_isub (dT U_X11_isLike 63 rfl) ?_
        refine x_ialoadv (0) (dT U_X11_isLike 64 rfl) (w.bc i hi) (by omega) (by omega) (show 0 < 2 by omega) (show 2 < 2147483648 by decide) (show _ = (σ.P i).c0 from rfl) ?_
        refine x_icmp_ne (tgt := 122) (dT U_X11_isLike 65 rfl) (by decide) (by unfold xr; omega) (by unfold xr; omega) (fun c100 => ?_) (fun c100 => ?_)
        · skip
          refine x_iconst (dT U_X11_isLike 78 rfl) ?_
          refine x_istore (ls' := [some (.ref _), some (vi _), some (vi _), some (vi _), some (vi _), some (vi _), some (vi _), some (vi _), some (vi _), some (vi _)]) (dT U_X11_isLike 79 rfl) (by decide) rfl ?_
          refine x_iload (dT U_X11_isLike 80 rfl) rfl ?_
          refine x_if_eqn (tgt := 181) (dT U_X11_isLike 81 rfl) (by decide) (by decide) ?_
          refine x_iload (dT U_X11_isLike 82 rfl) rfl ?_
          refine x_if_eqj (tgt := 181) (dT U_X11_isLike 83 rfl) (by decide) (by decide) ?_
          refine x_iconst (dT U_X11_isLike 115 rfl) ?_
          refine x_zreturn (dT U_X11_isLike 116 rfl) rfl (by omega) ?_
          first | exact k0 (fun z => by have := z.1.1; omega) | exact k0 (fun z => by have := ow2 z.2.1; omega) | exact k0 (fun z => by have y1 := ow2 z.2.1; have y2 := z.1.2; rw [← y1] at y2; omega) | exact k0 (fun z => by have := z.2; omega) | exact k1 ⟨⟨by omega, by have y1 := ow2 ce; rw [← y1]; omega⟩, ce, te⟩
        · skip
          refine x_iload (dT U_X11_isLike 66 rfl) rfl ?_
          refine x_aload_n (dT U_X11_isLike 67 rfl) rfl ?_
          refine x_getfield F_X11_82 (dT U_X11_isLike 68 rfl) w.c70 (Nat.le_of_ble_eq_true rfl) rfl ?_
          refine x_iload_n (dT U_X11_isLike 69 rfl) rfl ?_
          refine x_aaload (i) (dT U_X11_isLike 70 rfl) w.c121 (Nat.le_of_ble_eq_true rfl) (by decide) rfl (btL_get (by omega)) (Nat.le_of_ble_eq_true rfl) ?_
          refine x_iconst (dT U_X11_isLike 71 rfl) ?_
          refine x_iload_n (dT U_X11_isLike 72 rfl) rfl ?_
          refine x_isub (dT U_X11_isLike 73 rfl) ?_
          refine x_ialoadv (0) (dT U_X11_isLike 74 rfl) (w.bt i hi) (by omega) (by omega) (show 0 < 2 by omega) (show 2 < 2147483648 by decide) (show _ = (σ.P i).t0 from rfl) ?_
          refine x_icmp_ne (tgt := 122) (dT U_X11_isLike 75 rfl) (by decide) (by unfold xr; omega) (by unfold xr; omega) (fun c115 => ?_) (fun c115 => ?_)
          · skip
            refine x_iconst (dT U_X11_isLike 78 rfl) ?_
            refine x_istore (ls' := [some (.ref _), some (vi _), some (vi _), some (vi _), some (vi _), some (vi _), some (vi _), some (vi _), some (vi _), some (vi _)]) (dT U_X11_isLike 79 rfl) (by decide) rfl ?_
            refine x_iload (dT U_X11_isLike 80 rfl) rfl ?_
            refine x_if_eqn (tgt := 181) (dT U_X11_isLike 81 rfl) (by decide) (by decide) ?_
            refine x_iload (dT U_X11_isLike 82 rfl) rfl ?_
            refine x_if_eqj (tgt := 181) (dT U_X11_isLike 83 rfl) (by decide) (by decide) ?_
            refine x_iconst (dT U_X11_isLike 115 rfl) ?_
            refine x_zreturn (dT U_X11_isLike 116 rfl) rfl (by omega) ?_
            first | exact k0 (fun z => by have := z.1.1; omega) | exact k0 (fun z => by have := ow2 z.2.1; omega) | exact k0 (fun z => by have y1 := ow2 z.2.1; have y2 := z.1.2; rw [← y1] at y2; omega) | exact k0 (fun z => by have := z.2; omega) | exact k1 ⟨⟨by omega, by have y1 := ow2 ce; rw [← y1]; omega⟩, ce, te⟩
          · skip
            refine x_iconst (dT U_X11_isLike 76 rfl) ?_
            refine x_goto (tgt := 123) (dT U_X11_isLike 77 rfl) (by decide) ?_
            refine x_istore (ls' := [some (.ref _), some (vi _), some (vi _), some (vi _), some (vi _), some (vi _), some (vi _), some (vi _), some (vi _), some (vi _)]) (dT U_X11_isLike 79 rfl) (by decide) rfl ?_
            refine x_iload (dT U_X11_isLike 80 rfl) rfl ?_
            refine x_if_eqn (tgt := 181) (dT U_X11_isLike 81 rfl) (by decide) (by decide) ?_
            refine x_iload (dT U_X11_isLike 82 rfl) rfl ?_
            refine x_if_eqn (tgt := 181) (dT U_X11_isLike 83 rfl) (by decide) (by decide) ?_
            refine x_aload_n (dT U_X11_isLike 84 rfl) rfl ?_
            refine x_iload (dT U_X11_isLike 85 rfl) rfl ?_
            refine x_i2l (dT U_X11_isLike 86 rfl) (by unfold xr; omega) ?_
            refine x_aload_n (dT U_X11_isLike 87 rfl) rfl ?_
            refine x_bipush (dT U_X11_isLike 88 rfl) (by decide) ?_
            refine x_invokevirtual (rc' := rc) (rs' := rs) (rc2 := 0) (rs2 := 0) (As := [_]) (st := _) M_X11_of K_X11_160 (dT U_X11_isLike 89 rfl) rfl rfl (by decide) rfl rfl w.c70 (Nat.le_of_ble_eq_true rfl) (by decide) rfl (Nat.le_of_ble_eq_true rfl) rfl (by decide) (Nat.le_of_ble_eq_true rfl) rfl rfl ?_
            have bb8 := bs_b v.p (i := 8) (by omega)
            refine S_X11_of (i := 8) (w.mp) v.p (by omega) ?_
            refine xRet_some ?_
            refine x_i2l (dT U_X11_isLike 90 rfl) (by unfold xr; omega) ?_
            refine x_lmul (dT U_X11_isLike 91 rfl) ?_
            refine x_iload (dT U_X11_isLike 92 rfl) rfl ?_
            refine x_i2l (dT U_X11_isLike 93 rfl) (by unfold xr; omega) ?_
            refine x_aload_n (dT U_X11_isLike 94 rfl) rfl ?_
            refine x_iload_n (dT U_X11_isLike 95 rfl) rfl ?_
            refine x_iconst (dT U_X11_isLike 96 rfl) ?_
            refine x_iload_n (dT U_X11_isLike 97 rfl) rfl ?_
            refine x_isub (dT U_X11_isLike 98 rfl) ?_
            refine x_invokevirtual (rc' := rc) (rs' := rs) (rc2 := 0) (rs2 := 0) (As := [_, _]) (st := _) M_X11_sideOf K_X11_281 (dT U_X11_isLike 99 rfl) rfl rfl (by decide) rfl rfl w.c70 (Nat.le_of_ble_eq_true rfl) (by decide) rfl (Nat.le_of_ble_eq_true rfl) rfl (by decide) (Nat.le_of_ble_eq_true rfl) rfl rfl ?_
            rw [show (1 : Int) - 1 = 0 by omega]
            have sd := modb (z := (σ.P i).e - 0 * (bs σ.p 0 : Int)) (p := (σ.p : Int)) (by omega)
            refine S_X11_sideOf0 (f := fun j => (σ.P j).e) (w.mp) v.p w.c110 hi se ?_
            change xRet _ _ _ _ _ _ _ _ _ _ (.inl (some (vi (((σ.P i).e - 0 * (bs σ.p 0 : Int)) % (σ.p : Int))))) _ _
            refine xRet_some ?_
            refine x_i2l (dT U_X11_isLike 100 rfl) (by unfold xr; omega) ?_
            refine x_lmul (dT U_X11_isLike 101 rfl) ?_
            refine x_lsub (dT U_X11_isLike 102 rfl) ?_
            refine x_invokevirtual (rc' := rc) (rs' := rs) (rc2 := 0) (rs2 := 0) (As := [_]) (st := _) M_X11_f K_X11_156 (dT U_X11_isLike 103 rfl) rfl rfl (by decide) rfl rfl w.c70 (Nat.le_of_ble_eq_true rfl) (by decide) rfl (Nat.le_of_ble_eq_true rfl) rfl (by decide) (Nat.le_of_ble_eq_true rfl) rfl rfl ?_
            have m4 := mulg (a := t) (b := (bs σ.p 8 : Int)) (m := 23) (n := 23) (by omega) (by omega)
            have m5 := mulb (a := c) (b := ((σ.P i).e - 0 * (bs σ.p 0 : Int)) % (σ.p : Int)) (p := (σ.p : Int)) (by omega) sd (by omega)
            refine S_X11_f (w.mp) v.p (by unfold xrl; omega) ?_
            rw [fo_m]
            have fb9 := fo_b (p := σ.p) (e := (σ.P i).e) (s := 0) (c := c) (t := t) hp.1
            refine xRet_some ?_
            refine x_aload_n (dT U_X11_isLike 104 rfl) rfl ?_
            refine x_getfield F_X11_76 (dT U_X11_isLike 105 rfl) w.c70 (Nat.le_of_ble_eq_true rfl) rfl ?_
            refine x_iload_n (dT U_X11_isLike 106 rfl) rfl ?_
            refine x_aaload (i) (dT U_X11_isLike 107 rfl) w.c115 (Nat.le_of_ble_eq_true rfl) (by decide) rfl (bfL_get (by omega)) (Nat.le_of_ble_eq_true rfl) ?_
            refine x_iconst (dT U_X11_isLike 108 rfl) ?_
            refine x_iload_n (dT U_X11_isLike 109 rfl) rfl ?_
            refine x_isub (dT U_X11_isLike 110 rfl) ?_
            refine x_ialoadv (0) (dT U_X11_isLike 111 rfl) (w.bf i hi) (by omega) (by omega) (show 0 < 2 by omega) (show 2 < 2147483648 by decide) (show _ = (σ.P i).f0 from rfl) ?_
            have ce : c = (σ.P i).c0 := Decidable.byContradiction (fun z => by omega)
            have te : t = (σ.P i).t0 := Decidable.byContradiction (fun z => by omega)
            have fe : fo σ.p (σ.P i).e 0 c t = (σ.P i).f0 := by rw [ce, te, f0e]
            refine x_icmp_ne (tgt := 181) (dT U_X11_isLike 112 rfl) (by decide) (by unfold xr; omega) (by unfold xr; omega) (fun c174 => ?_) (fun c174 => ?_)
            · exfalso; omega
            · skip
              refine x_iconst (dT U_X11_isLike 113 rfl) ?_
              refine x_goto (tgt := 182) (dT U_X11_isLike 114 rfl) (by decide) ?_
              refine x_zreturn (dT U_X11_isLike 116 rfl) rfl (by omega) ?_
              first | exact k0 (fun z => by have := z.1.1; omega) | exact k0 (fun z => by have := ow2 z.2.1; omega) | exact k0 (fun z => by have y1 := ow2 z.2.1; have y2 := z.1.2; rw [← y1] at y2; omega) | exact k0 (fun z => by have := z.2; omega) | exact k1 ⟨⟨by omega, by have y1 := ow2 ce; rw [← y1]; omega⟩, ce, te⟩

set_option maxRecDepth 20000 in
set_option maxHeartbeats 1000000 in
theorem S_bl3_0 {G : xG} {d rc rs : Nat} {ex : Bool} {h3 : xH} {Q : xQ} {σ : St} {cc0 : Int} {rr i m c : Nat} {ss M : Int} (w3 : MX σ cc0 rr ss h3) (v : INV σ) (hi : i < 2) (hst : (σ.P i).st = 3) (hm : m < σ.p) (hc : c < σ.p) (K3 : X G m_X11_bitLike (d + 3) rc rs ex 139 [some (.ref 70), some (vi (i : Int)), some (vi 0), some (vi ((((σ.P i).e - 0 * (bs σ.p 0 : Int)) % (σ.p : Int)) * (iv σ.p (bs σ.p 8) : Int) % (σ.p : Int))), some (vi (M + (ct (fun t : Nat => ((cm1 σ.p 0 (m : Int) = (σ.P i).f0 ∧ ((m : Int) + (σ.P i).c0 * ((((σ.P i).e - 0 * (bs σ.p 0 : Int)) % (σ.p : Int)) * (iv σ.p (bs σ.p 8) : Int) % (σ.p : Int))) % (σ.p : Int) = (σ.P i).t0) ∧ (c : Int) = (σ.P i).c1) ∧ (t : Int) = (σ.P i).t1) σ.p : Int))), some (vi (m : Int)), some (vi (c : Int)), some (vi (σ.p : Int))] [] h3 Q) : X G m_X11_bitLike (d + 3) rc rs ex 98 [some (.ref 70), some (vi (i : Int)), some (vi 0), some (vi ((((σ.P i).e - 0 * (bs σ.p 0 : Int)) % (σ.p : Int)) * (iv σ.p (bs σ.p 8) : Int) % (σ.p : Int))), some (vi M), some (vi (m : Int)), some (vi (c : Int)), some (vi 0)] [] h3 Q := by
  have hp := PRb v.p
  have L : ∀ (n t : Nat), t + n = σ.p → X G m_X11_bitLike (d + 3) rc rs ex 98 [some (.ref 70), some (vi (i : Int)), some (vi 0), some (vi ((((σ.P i).e - 0 * (bs σ.p 0 : Int)) % (σ.p : Int)) * (iv σ.p (bs σ.p 8) : Int) % (σ.p : Int))), some (vi (M + (ct (fun t : Nat => ((cm1 σ.p 0 (m : Int) = (σ.P i).f0 ∧ ((m : Int) + (σ.P i).c0 * ((((σ.P i).e - 0 * (bs σ.p 0 : Int)) % (σ.p : Int)) * (iv σ.p (bs σ.p 8) : Int) % (σ.p : Int))) % (σ.p : Int) = (σ.P i).t0) ∧ (c : Int) = (σ.P i).c1) ∧ (t : Int) = (σ.P i).t1) t : Int))), some (vi (m : Int)), some (vi (c : Int)), some (vi (t : Int))] [] h3 Q := by
    intro n
    induction n with
    | zero =>
      intro t hi_ 
      refine x_iload (dT U_X11_bitLike 55 rfl) rfl ?_
      refine x_aload_n (dT U_X11_bitLike 56 rfl) rfl ?_
      refine x_getfield F_X11_130 (dT U_X11_bitLike 57 rfl) w3.c70 (Nat.le_of_ble_eq_true rfl) rfl ?_
      refine x_icmp_ge (tgt := 139) (dT U_X11_bitLike 58 rfl) (by decide) (by unfold xr; omega) (by unfold xr; omega) (fun c104 => ?_) (fun c104 => ?_)
      · skip
        have e : t = σ.p := by omega
        rw [e]
        exact K3
      · exfalso; omega
    | succ n ih =>
      intro t hi_ 
      refine x_iload (dT U_X11_bitLike 55 rfl) rfl ?_
      refine x_aload_n (dT U_X11_bitLike 56 rfl) rfl ?_
      refine x_getfield F_X11_130 (dT U_X11_bitLike 57 rfl) w3.c70 (Nat.le_of_ble_eq_true rfl) rfl ?_
      refine x_icmp_ge (tgt := 139) (dT U_X11_bitLike 58 rfl) (by decide) (by unfold xr; omega) (by unfold xr; omega) (fun c104 => ?_) (fun c104 => ?_)
      · exfalso; omega
      · skip
        refine x_iload (dT U_X11_bitLike 59 rfl) rfl ?_
        refine x_aload_n (dT U_X11_bitLike 60 rfl) rfl ?_
        refine x_iload_n (dT U_X11_bitLike 61 rfl) rfl ?_
        refine x_iload_n (dT U_X11_bitLike 62 rfl) rfl ?_
        refine x_iload_n (dT U_X11_bitLike 63 rfl) rfl ?_
        refine x_iload (dT U_X11_bitLike 64 rfl) rfl ?_
        refine x_iload (dT U_X11_bitLike 65 rfl) rfl ?_
        refine x_iload (dT U_X11_bitLike 66 rfl) rfl ?_
        refine x_invokevirtual (rc' := rc) (rs' := rs) (rc2 := 0) (rs2 := 0) (As := [_, _, _, _, _, _]) (st := _) M_X11_isLike K_X11_287 (dT U_X11_bitLike 67 rfl) rfl rfl (by decide) rfl rfl w3.c70 (Nat.le_of_ble_eq_true rfl) (by decide) rfl (Nat.le_of_ble_eq_true rfl) rfl (by decide) (Nat.le_of_ble_eq_true rfl) rfl rfl ?_
        refine S_X11_isLike0 w3 v hi hst (by omega) (by omega) (by omega) (fun y9 => ?_) (fun y9 => ?_)
        · refine xRet_some ?_
          have e1 := ct_yes (P := (fun t : Nat => ((cm1 σ.p 0 (m : Int) = (σ.P i).f0 ∧ ((m : Int) + (σ.P i).c0 * ((((σ.P i).e - 0 * (bs σ.p 0 : Int)) % (σ.p : Int)) * (iv σ.p (bs σ.p 8) : Int) % (σ.p : Int))) % (σ.p : Int) = (σ.P i).t0) ∧ (c : Int) = (σ.P i).c1) ∧ (t : Int) = (σ.P i).t1)) (n := t) ⟨⟨y9.1, y9.2.1⟩, y9.2.2⟩
          refine x_if_eqn (tgt := 129) (dT U_X11_bitLike 68 rfl) (by decide) (by decide) ?_
          refine x_iconst (dT U_X11_bitLike 69 rfl) ?_
          refine x_goto (tgt := 130) (dT U_X11_bitLike 70 rfl) (by decide) ?_
          refine x_iadd (dT U_X11_bitLike 72 rfl) ?_
          refine x_istore (ls' := [some (.ref _), some (vi _), some (vi _), some (vi _), some (vi _), some (vi _), some (vi _), some (vi _)]) (dT U_X11_bitLike 73 rfl) (by decide) rfl ?_
          refine x_iinc (ls' := [some (.ref _), some (vi _), some (vi _), some (vi _), some (vi _), some (vi _), some (vi _), some (vi _)]) (dT U_X11_bitLike 74 rfl) (by decide) rfl rfl ?_
          refine x_goto (tgt := 98) (dT U_X11_bitLike 75 rfl) (by decide) ?_
          have q := ih (t + 1) (by omega)
          rw [e1] at q
          first | (rw [show M + ((ct (fun t : Nat => ((cm1 σ.p 0 (m : Int) = (σ.P i).f0 ∧ ((m : Int) + (σ.P i).c0 * ((((σ.P i).e - 0 * (bs σ.p 0 : Int)) % (σ.p : Int)) * (iv σ.p (bs σ.p 8) : Int) % (σ.p : Int))) % (σ.p : Int) = (σ.P i).t0) ∧ (c : Int) = (σ.P i).c1) ∧ (t : Int) = (σ.P i).t1) t + 1 : Nat) : Int) = M + (ct (fun t : Nat => ((cm1 σ.p 0 (m : Int) = (σ.P i).f0 ∧ ((m : Int) + (σ.P i).c0 * ((((σ.P i).e - 0 * (bs σ.p 0 : Int)) % (σ.p : Int)) * (iv σ.p (bs σ.p 8) : Int) % (σ.p : Int))) % (σ.p : Int) = (σ.P i).t0) ∧ (c : Int) = (σ.P i).c1) ∧ (t : Int) = (σ.P i).t1) t : Int) + 1 by omega] at q; exact q) | (rw [show M + (ct (fun t : Nat => ((cm1 σ.p 0 (m : Int) = (σ.P i).f0 ∧ ((m : Int) + (σ.P i).c0 * ((((σ.P i).e - 0 * (bs σ.p 0 : Int)) % (σ.p : Int)) * (iv σ.p (bs σ.p 8) : Int) % (σ.p : Int))) % (σ.p : Int) = (σ.P i).t0) ∧ (c : Int) = (σ.P i).c1) ∧ (t : Int) = (σ.P i).t1) t : Int) + 0 = M + (ct (fun t : Nat => ((cm1 σ.p 0 (m : Int) = (σ.P i).f0 ∧ ((m : Int) + (σ.P i).c0 * ((((σ.P i).e - 0 * (bs σ.p 0 : Int)) % (σ.p : Int)) * (iv σ.p (bs σ.p 8) : Int) % (σ.p : Int))) % (σ.p : Int) = (σ.P i).t0) ∧ (c : Int) = (σ.P i).c1) ∧ (t : Int) = (σ.P i).t1) t : Int) by omega]; exact q)
        · refine xRet_some ?_
          have e1 := ct_no (P := (fun t : Nat => ((cm1 σ.p 0 (m : Int) = (σ.P i).f0 ∧ ((m : Int) + (σ.P i).c0 * ((((σ.P i).e - 0 * (bs σ.p 0 : Int)) % (σ.p : Int)) * (iv σ.p (bs σ.p 8) : Int) % (σ.p : Int))) % (σ.p : Int) = (σ.P i).t0) ∧ (c : Int) = (σ.P i).c1) ∧ (t : Int) = (σ.P i).t1)) (n := t) (fun z => y9 ⟨z.1.1, z.1.2, z.2⟩)
          refine x_if_eqj (tgt := 129) (dT U_X11_bitLike 68 rfl) (by decide) (by decide) ?_
          refine x_iconst (dT U_X11_bitLike 71 rfl) ?_
          refine x_iadd (dT U_X11_bitLike 72 rfl) ?_
          refine x_istore (ls' := [some (.ref _), some (vi _), some (vi _), some (vi _), some (vi _), some (vi _), some (vi _), some (vi _)]) (dT U_X11_bitLike 73 rfl) (by decide) rfl ?_
          refine x_iinc (ls' := [some (.ref _), some (vi _), some (vi _), some (vi _), some (vi _), some (vi _), some (vi _), some (vi _)]) (dT U_X11_bitLike 74 rfl) (by decide) rfl rfl ?_
          refine x_goto (tgt := 98) (dT U_X11_bitLike 75 rfl) (by decide) ?_
          have q := ih (t + 1) (by omega)
          rw [e1] at q
          first | (rw [show M + ((ct (fun t : Nat => ((cm1 σ.p 0 (m : Int) = (σ.P i).f0 ∧ ((m : Int) + (σ.P i).c0 * ((((σ.P i).e - 0 * (bs σ.p 0 : Int)) % (σ.p : Int)) * (iv σ.p (bs σ.p 8) : Int) % (σ.p : Int))) % (σ.p : Int) = (σ.P i).t0) ∧ (c : Int) = (σ.P i).c1) ∧ (t : Int) = (σ.P i).t1) t + 1 : Nat) : Int) = M + (ct (fun t : Nat => ((cm1 σ.p 0 (m : Int) = (σ.P i).f0 ∧ ((m : Int) + (σ.P i).c0 * ((((σ.P i).e - 0 * (bs σ.p 0 : Int)) % (σ.p : Int)) * (iv σ.p (bs σ.p 8) : Int) % (σ.p : Int))) % (σ.p : Int) = (σ.P i).t0) ∧ (c : Int) = (σ.P i).c1) ∧ (t : Int) = (σ.P i).t1) t : Int) + 1 by omega] at q; exact q) | (rw [show M + (ct (fun t : Nat => ((cm1 σ.p 0 (m : Int) = (σ.P i).f0 ∧ ((m : Int) + (σ.P i).c0 * ((((σ.P i).e - 0 * (bs σ.p 0 : Int)) % (σ.p : Int)) * (iv σ.p (bs σ.p 8) : Int) % (σ.p : Int))) % (σ.p : Int) = (σ.P i).t0) ∧ (c : Int) = (σ.P i).c1) ∧ (t : Int) = (σ.P i).t1) t : Int) + 0 = M + (ct (fun t : Nat => ((cm1 σ.p 0 (m : Int) = (σ.P i).f0 ∧ ((m : Int) + (σ.P i).c0 * ((((σ.P i).e - 0 * (bs σ.p 0 : Int)) % (σ.p : Int)) * (iv σ.p (bs σ.p 8) : Int) % (σ.p : Int))) % (σ.p : Int) = (σ.P i).t0) ∧ (c : Int) = (σ.P i).c1) ∧ (t : Int) = (σ.P i).t1) t : Int) by omega]; exact q)
  have q := L σ.p 0 (by omega)
  rw [show M + (ct (fun t : Nat => ((cm1 σ.p 0 (m : Int) = (σ.P i).f0 ∧ ((m : Int) + (σ.P i).c0 * ((((σ.P i).e - 0 * (bs σ.p 0 : Int)) % (σ.p : Int)) * (iv σ.p (bs σ.p 8) : Int) % (σ.p : Int))) % (σ.p : Int) = (σ.P i).t0) ∧ (c : Int) = (σ.P i).c1) ∧ (t : Int) = (σ.P i).t1) 0 : Int) = M by show M + ((0 : Nat) : Int) = M; omega] at q
  exact q

set_option maxRecDepth 20000 in
set_option maxHeartbeats 1000000 in
theorem S_bl2_0 {G : xG} {d rc rs : Nat} {ex : Bool} {h3 : xH} {Q : xQ} {σ : St} {cc0 : Int} {rr i m : Nat} {ss M : Int} (w3 : MX σ cc0 rr ss h3) (v : INV σ) (hi : i < 2) (hst : (σ.P i).st = 3) (hm : m < σ.p) (K2 : X G m_X11_bitLike (d + 3) rc rs ex 145 [some (.ref 70), some (vi (i : Int)), some (vi 0), some (vi ((((σ.P i).e - 0 * (bs σ.p 0 : Int)) % (σ.p : Int)) * (iv σ.p (bs σ.p 8) : Int) % (σ.p : Int))), some (vi (M + (ct (fun c : Nat => (cm1 σ.p 0 (m : Int) = (σ.P i).f0 ∧ ((m : Int) + (σ.P i).c0 * ((((σ.P i).e - 0 * (bs σ.p 0 : Int)) % (σ.p : Int)) * (iv σ.p (bs σ.p 8) : Int) % (σ.p : Int))) % (σ.p : Int) = (σ.P i).t0) ∧ (c : Int) = (σ.P i).c1) σ.p : Int))), some (vi (m : Int)), some (vi (σ.p : Int)), none] [] h3 Q) : X G m_X11_bitLike (d + 3) rc rs ex 86 [some (.ref 70), some (vi (i : Int)), some (vi 0), some (vi ((((σ.P i).e - 0 * (bs σ.p 0 : Int)) % (σ.p : Int)) * (iv σ.p (bs σ.p 8) : Int) % (σ.p : Int))), some (vi M), some (vi (m : Int)), some (vi 0), none] [] h3 Q := by
  have hp := PRb v.p
  have okp := v.P i hi
  obtain ⟨f0e, f1e, cce, c0b, c1b, t0b, t1b⟩ := okp.all v.p hst
  have se := okp.eb hp.1 (by omega)
  have b24 := okp.2.2.2.2
  have f0b : 0 ≤ (σ.P i).f0 ∧ (σ.P i).f0 < σ.p := by rw [f0e]; exact fo_b hp.1
  have f1b : 0 ≤ (σ.P i).f1 ∧ (σ.P i).f1 < σ.p := by rw [f1e]; exact fo_b hp.1
  have L : ∀ (n c : Nat), c + n = σ.p → X G m_X11_bitLike (d + 3) rc rs ex 86 [some (.ref 70), some (vi (i : Int)), some (vi 0), some (vi ((((σ.P i).e - 0 * (bs σ.p 0 : Int)) % (σ.p : Int)) * (iv σ.p (bs σ.p 8) : Int) % (σ.p : Int))), some (vi (M + (ct (fun c : Nat => (cm1 σ.p 0 (m : Int) = (σ.P i).f0 ∧ ((m : Int) + (σ.P i).c0 * ((((σ.P i).e - 0 * (bs σ.p 0 : Int)) % (σ.p : Int)) * (iv σ.p (bs σ.p 8) : Int) % (σ.p : Int))) % (σ.p : Int) = (σ.P i).t0) ∧ (c : Int) = (σ.P i).c1) c : Int))), some (vi (m : Int)), some (vi (c : Int)), none] [] h3 Q := by
    intro n
    induction n with
    | zero =>
      intro c hi_ 
      refine x_iload (dT U_X11_bitLike 49 rfl) rfl ?_
      refine x_aload_n (dT U_X11_bitLike 50 rfl) rfl ?_
      refine x_getfield F_X11_130 (dT U_X11_bitLike 51 rfl) w3.c70 (Nat.le_of_ble_eq_true rfl) rfl ?_
      refine x_icmp_ge (tgt := 145) (dT U_X11_bitLike 52 rfl) (by decide) (by unfold xr; omega) (by unfold xr; omega) (fun c92 => ?_) (fun c92 => ?_)
      · skip
        have e : c = σ.p := by omega
        rw [e]
        exact K2
      · exfalso; omega
    | succ n ih =>
      intro c hi_ 
      refine x_iload (dT U_X11_bitLike 49 rfl) rfl ?_
      refine x_aload_n (dT U_X11_bitLike 50 rfl) rfl ?_
      refine x_getfield F_X11_130 (dT U_X11_bitLike 51 rfl) w3.c70 (Nat.le_of_ble_eq_true rfl) rfl ?_
      refine x_icmp_ge (tgt := 145) (dT U_X11_bitLike 52 rfl) (by decide) (by unfold xr; omega) (by unfold xr; omega) (fun c92 => ?_) (fun c92 => ?_)
      · exfalso; omega
      · skip
        refine x_iconst (dT U_X11_bitLike 53 rfl) ?_
        refine x_istore (ls' := [some (.ref _), some (vi _), some (vi _), some (vi _), some (vi _), some (vi _), some (vi _), some (vi _)]) (dT U_X11_bitLike 54 rfl) (by decide) rfl ?_
        refine S_bl3_0 w3 v hi hst hm (by omega) ?_
        refine x_iinc (ls' := [some (.ref _), some (vi _), some (vi _), some (vi _), some (vi _), some (vi _), some (vi _), some (vi _)]) (dT U_X11_bitLike 76 rfl) (by decide) rfl rfl ?_
        refine x_goto (tgt := 86) (dT U_X11_bitLike 77 rfl) (by decide) ?_
        have q := ih (c + 1) (by omega)
        rw [show (ct (fun c : Nat => (cm1 σ.p 0 (m : Int) = (σ.P i).f0 ∧ ((m : Int) + (σ.P i).c0 * ((((σ.P i).e - 0 * (bs σ.p 0 : Int)) % (σ.p : Int)) * (iv σ.p (bs σ.p 8) : Int) % (σ.p : Int))) % (σ.p : Int) = (σ.P i).t0) ∧ (c : Int) = (σ.P i).c1) (c + 1) : Int) = (ct (fun c : Nat => (cm1 σ.p 0 (m : Int) = (σ.P i).f0 ∧ ((m : Int) + (σ.P i).c0 * ((((σ.P i).e - 0 * (bs σ.p 0 : Int)) % (σ.p : Int)) * (iv σ.p (bs σ.p 8) : Int) % (σ.p : Int))) % (σ.p : Int) = (σ.P i).t0) ∧ (c : Int) = (σ.P i).c1) c : Int) + (ct (fun t : Nat => ((cm1 σ.p 0 (m : Int) = (σ.P i).f0 ∧ ((m : Int) + (σ.P i).c0 * ((((σ.P i).e - 0 * (bs σ.p 0 : Int)) % (σ.p : Int)) * (iv σ.p (bs σ.p 8) : Int) % (σ.p : Int))) % (σ.p : Int) = (σ.P i).t0) ∧ (c : Int) = (σ.P i).c1) ∧ (t : Int) = (σ.P i).t1) σ.p : Int) by rw [ct_and (p := σ.p) (P := (fun t : Nat => ((cm1 σ.p 0 (m : Int) = (σ.P i).f0 ∧ ((m : Int) + (σ.P i).c0 * ((((σ.P i).e - 0 * (bs σ.p 0 : Int)) % (σ.p : Int)) * (iv σ.p (bs σ.p 8) : Int) % (σ.p : Int))) % (σ.p : Int) = (σ.P i).t0) ∧ (c : Int) = (σ.P i).c1) ∧ (t : Int) = (σ.P i).t1)) (A := (cm1 σ.p 0 (m : Int) = (σ.P i).f0 ∧ ((m : Int) + (σ.P i).c0 * ((((σ.P i).e - 0 * (bs σ.p 0 : Int)) % (σ.p : Int)) * (iv σ.p (bs σ.p 8) : Int) % (σ.p : Int))) % (σ.p : Int) = (σ.P i).t0) ∧ (c : Int) = (σ.P i).c1) (a := (σ.P i).t1.toNat) (by omega) (fun t _ => ⟨fun z => ⟨z.1, by have := z.2; omega⟩, fun z => ⟨z.1, by have := z.2; omega⟩⟩)]; rfl, ← Int.add_assoc] at q
        refine x_drop ?_ q
        repeat (first | exact trivial | refine ⟨rfl, ?_⟩ | refine ⟨trivial, ?_⟩)
  have q := L σ.p 0 (by omega)
  rw [show M + (ct (fun c : Nat => (cm1 σ.p 0 (m : Int) = (σ.P i).f0 ∧ ((m : Int) + (σ.P i).c0 * ((((σ.P i).e - 0 * (bs σ.p 0 : Int)) % (σ.p : Int)) * (iv σ.p (bs σ.p 8) : Int) % (σ.p : Int))) % (σ.p : Int) = (σ.P i).t0) ∧ (c : Int) = (σ.P i).c1) 0 : Int) = M by show M + ((0 : Nat) : Int) = M; omega] at q
  exact q

set_option maxRecDepth 20000 in
set_option maxHeartbeats 1000000 in
theorem S_bl3_1 {G : xG} {d rc rs : Nat} {ex : Bool} {h3 : xH} {Q : xQ} {σ : St} {cc0 : Int} {rr i m c : Nat} {ss M : Int} (w3 : MX σ cc0 rr ss h3) (v : INV σ) (hi : i < 2) (hst : (σ.P i).st = 3) (hm : m < σ.p) (hc : c < σ.p) (K3 : X G m_X11_bitLike (d + 3) rc rs ex 139 [some (.ref 70), some (vi (i : Int)), some (vi 1), some (vi ((((σ.P i).e - 1 * (bs σ.p 0 : Int)) % (σ.p : Int)) * (iv σ.p (bs σ.p 8) : Int) % (σ.p : Int))), some (vi (M + (ct (fun t : Nat => ((cm1 σ.p 0 (m : Int) = (σ.P i).f1 ∧ ((m : Int) + (σ.P i).c1 * ((((σ.P i).e - 1 * (bs σ.p 0 : Int)) % (σ.p : Int)) * (iv σ.p (bs σ.p 8) : Int) % (σ.p : Int))) % (σ.p : Int) = (σ.P i).t1) ∧ (c : Int) = (σ.P i).c0) ∧ (t : Int) = (σ.P i).t0) σ.p : Int))), some (vi (m : Int)), some (vi (c : Int)), some (vi (σ.p : Int))] [] h3 Q) : X G m_X11_bitLike (d + 3) rc rs ex 98 [some (.ref 70), some (vi (i : Int)), some (vi 1), some (vi ((((σ.P i).e - 1 * (bs σ.p 0 : Int)) % (σ.p : Int)) * (iv σ.p (bs σ.p 8) : Int) % (σ.p : Int))), some (vi M), some (vi (m : Int)), some (vi (c : Int)), some (vi 0)] [] h3 Q := by
  have hp := PRb v.p
  have L : ∀ (n t : Nat), t + n = σ.p → X G m_X11_bitLike (d + 3) rc rs ex 98 [some (.ref 70), some (vi (i : Int)), some (vi 1), some (vi ((((σ.P i).e - 1 * (bs σ.p 0 : Int)) % (σ.p : Int)) * (iv σ.p (bs σ.p 8) : Int) % (σ.p : Int))), some (vi (M + (ct (fun t : Nat => ((cm1 σ.p 0 (m : Int) = (σ.P i).f1 ∧ ((m : Int) + (σ.P i).c1 * ((((σ.P i).e - 1 * (bs σ.p 0 : Int)) % (σ.p : Int)) * (iv σ.p (bs σ.p 8) : Int) % (σ.p : Int))) % (σ.p : Int) = (σ.P i).t1) ∧ (c : Int) = (σ.P i).c0) ∧ (t : Int) = (σ.P i).t0) t : Int))), some (vi (m : Int)), some (vi (c : Int)), some (vi (t : Int))] [] h3 Q := by
    intro n
    induction n with
    | zero =>
      intro t hi_ 
      refine x_iload (dT U_X11_bitLike 55 rfl) rfl ?_
      refine x_aload_n (dT U_X11_bitLike 56 rfl) rfl ?_
      refine x_getfield F_X11_130 (dT U_X11_bitLike 57 rfl) w3.c70 (Nat.le_of_ble_eq_true rfl) rfl ?_
      refine x_icmp_ge (tgt := 139) (dT U_X11_bitLike 58 rfl) (by decide) (by unfold xr; omega) (by unfold xr; omega) (fun c104 => ?_) (fun c104 => ?_)
      · skip
        have e : t = σ.p := by omega
        rw [e]
        exact K3
      · exfalso; omega
    | succ n ih =>
      intro t hi_ 
      refine x_iload (dT U_X11_bitLike 55 rfl) rfl ?_
      refine x_aload_n (dT U_X11_bitLike 56 rfl) rfl ?_
      refine x_getfield F_X11_130 (dT U_X11_bitLike 57 rfl) w3.c70 (Nat.le_of_ble_eq_true rfl) rfl ?_
      refine x_icmp_ge (tgt := 139) (dT U_X11_bitLike 58 rfl) (by decide) (by unfold xr; omega) (by unfold xr; omega) (fun c104 => ?_) (fun c104 => ?_)
      · exfalso; omega
      · skip
        refine x_iload (dT U_X11_bitLike 59 rfl) rfl ?_
        refine x_aload_n (dT U_X11_bitLike 60 rfl) rfl ?_
        refine x_iload_n (dT U_X11_bitLike 61 rfl) rfl ?_
        refine x_iload_n (dT U_X11_bitLike 62 rfl) rfl ?_
        refine x_iload_n (dT U_X11_bitLike 63 rfl) rfl ?_
        refine x_iload (dT U_X11_bitLike 64 rfl) rfl ?_
        refine x_iload (dT U_X11_bitLike 65 rfl) rfl ?_
        refine x_iload (dT U_X11_bitLike 66 rfl) rfl ?_
        refine x_invokevirtual (rc' := rc) (rs' := rs) (rc2 := 0) (rs2 := 0) (As := [_, _, _, _, _, _]) (st := _) M_X11_isLike K_X11_287 (dT U_X11_bitLike 67 rfl) rfl rfl (by decide) rfl rfl w3.c70 (Nat.le_of_ble_eq_true rfl) (by decide) rfl (Nat.le_of_ble_eq_true rfl) rfl (by decide) (Nat.le_of_ble_eq_true rfl) rfl rfl ?_
        refine S_X11_isLike1 w3 v hi hst (by omega) (by omega) (by omega) (fun y9 => ?_) (fun y9 => ?_)
        · refine xRet_some ?_
          have e1 := ct_yes (P := (fun t : Nat => ((cm1 σ.p 0 (m : Int) = (σ.P i).f1 ∧ ((m : Int) + (σ.P i).c1 * ((((σ.P i).e - 1 * (bs σ.p 0 : Int)) % (σ.p : Int)) * (iv σ.p (bs σ.p 8) : Int) % (σ.p : Int))) % (σ.p : Int) = (σ.P i).t1) ∧ (c : Int) = (σ.P i).c0) ∧ (t : Int) = (σ.P i).t0)) (n := t) ⟨⟨y9.1, y9.2.1⟩, y9.2.2⟩
          refine x_if_eqn (tgt := 129) (dT U_X11_bitLike 68 rfl) (by decide) (by decide) ?_
          refine x_iconst (dT U_X11_bitLike 69 rfl) ?_
          refine x_goto (tgt := 130) (dT U_X11_bitLike 70 rfl) (by decide) ?_
          refine x_iadd (dT U_X11_bitLike 72 rfl) ?_
          refine x_istore (ls' := [some (.ref _), some (vi _), some (vi _), some (vi _), some (vi _), some (vi _), some (vi _), some (vi _)]) (dT U_X11_bitLike 73 rfl) (by decide) rfl ?_
          refine x_iinc (ls' := [some (.ref _), some (vi _), some (vi _), some (vi _), some (vi _), some (vi _), some (vi _), some (vi _)]) (dT U_X11_bitLike 74 rfl) (by decide) rfl rfl ?_
          refine x_goto (tgt := 98) (dT U_X11_bitLike 75 rfl) (by decide) ?_
          have q := ih (t + 1) (by omega)
          rw [e1] at q
          first | (rw [show M + ((ct (fun t : Nat => ((cm1 σ.p 0 (m : Int) = (σ.P i).f1 ∧ ((m : Int) + (σ.P i).c1 * ((((σ.P i).e - 1 * (bs σ.p 0 : Int)) % (σ.p : Int)) * (iv σ.p (bs σ.p 8) : Int) % (σ.p : Int))) % (σ.p : Int) = (σ.P i).t1) ∧ (c : Int) = (σ.P i).c0) ∧ (t : Int) = (σ.P i).t0) t + 1 : Nat) : Int) = M + (ct (fun t : Nat => ((cm1 σ.p 0 (m : Int) = (σ.P i).f1 ∧ ((m : Int) + (σ.P i).c1 * ((((σ.P i).e - 1 * (bs σ.p 0 : Int)) % (σ.p : Int)) * (iv σ.p (bs σ.p 8) : Int) % (σ.p : Int))) % (σ.p : Int) = (σ.P i).t1) ∧ (c : Int) = (σ.P i).c0) ∧ (t : Int) = (σ.P i).t0) t : Int) + 1 by omega] at q; exact q) | (rw [show M + (ct (fun t : Nat => ((cm1 σ.p 0 (m : Int) = (σ.P i).f1 ∧ ((m : Int) + (σ.P i).c1 * ((((σ.P i).e - 1 * (bs σ.p 0 : Int)) % (σ.p : Int)) * (iv σ.p (bs σ.p 8) : Int) % (σ.p : Int))) % (σ.p : Int) = (σ.P i).t1) ∧ (c : Int) = (σ.P i).c0) ∧ (t : Int) = (σ.P i).t0) t : Int) + 0 = M + (ct (fun t : Nat => ((cm1 σ.p 0 (m : Int) = (σ.P i).f1 ∧ ((m : Int) + (σ.P i).c1 * ((((σ.P i).e - 1 * (bs σ.p 0 : Int)) % (σ.p : Int)) * (iv σ.p (bs σ.p 8) : Int) % (σ.p : Int))) % (σ.p : Int) = (σ.P i).t1) ∧ (c : Int) = (σ.P i).c0) ∧ (t : Int) = (σ.P i).t0) t : Int) by omega]; exact q)
        · refine xRet_some ?_
          have e1 := ct_no (P := (fun t : Nat => ((cm1 σ.p 0 (m : Int) = (σ.P i).f1 ∧ ((m : Int) + (σ.P i).c1 * ((((σ.P i).e - 1 * (bs σ.p 0 : Int)) % (σ.p : Int)) * (iv σ.p (bs σ.p 8) : Int) % (σ.p : Int))) % (σ.p : Int) = (σ.P i).t1) ∧ (c : Int) = (σ.P i).c0) ∧ (t : Int) = (σ.P i).t0)) (n := t) (fun z => y9 ⟨z.1.1, z.1.2, z.2⟩)
          refine x_if_eqj (tgt := 129) (dT U_X11_bitLike 68 rfl) (by decide) (by decide) ?_
          refine x_iconst (dT U_X11_bitLike 71 rfl) ?_
          refine x_iadd (dT U_X11_bitLike 72 rfl) ?_
          refine x_istore (ls' := [some (.ref _), some (vi _), some (vi _), some (vi _), some (vi _), some (vi _), some (vi _), some (vi _)]) (dT U_X11_bitLike 73 rfl) (by decide) rfl ?_
          refine x_iinc (ls' := [some (.ref _), some (vi _), some (vi _), some (vi _), some (vi _), some (vi _), some (vi _), some (vi _)]) (dT U_X11_bitLike 74 rfl) (by decide) rfl rfl ?_
          refine x_goto (tgt := 98) (dT U_X11_bitLike 75 rfl) (by decide) ?_
          have q := ih (t + 1) (by omega)
          rw [e1] at q
          first | (rw [show M + ((ct (fun t : Nat => ((cm1 σ.p 0 (m : Int) = (σ.P i).f1 ∧ ((m : Int) + (σ.P i).c1 * ((((σ.P i).e - 1 * (bs σ.p 0 : Int)) % (σ.p : Int)) * (iv σ.p (bs σ.p 8) : Int) % (σ.p : Int))) % (σ.p : Int) = (σ.P i).t1) ∧ (c : Int) = (σ.P i).c0) ∧ (t : Int) = (σ.P i).t0) t + 1 : Nat) : Int) = M + (ct (fun t : Nat => ((cm1 σ.p 0 (m : Int) = (σ.P i).f1 ∧ ((m : Int) + (σ.P i).c1 * ((((σ.P i).e - 1 * (bs σ.p 0 : Int)) % (σ.p : Int)) * (iv σ.p (bs σ.p 8) : Int) % (σ.p : Int))) % (σ.p : Int) = (σ.P i).t1) ∧ (c : Int) = (σ.P i).c0) ∧ (t : Int) = (σ.P i).t0) t : Int) + 1 by omega] at q; exact q) | (rw [show M + (ct (fun t : Nat => ((cm1 σ.p 0 (m : Int) = (σ.P i).f1 ∧ ((m : Int) + (σ.P i).c1 * ((((σ.P i).e - 1 * (bs σ.p 0 : Int)) % (σ.p : Int)) * (iv σ.p (bs σ.p 8) : Int) % (σ.p : Int))) % (σ.p : Int) = (σ.P i).t1) ∧ (c : Int) = (σ.P i).c0) ∧ (t : Int) = (σ.P i).t0) t : Int) + 0 = M + (ct (fun t : Nat => ((cm1 σ.p 0 (m : Int) = (σ.P i).f1 ∧ ((m : Int) + (σ.P i).c1 * ((((σ.P i).e - 1 * (bs σ.p 0 : Int)) % (σ.p : Int)) * (iv σ.p (bs σ.p 8) : Int) % (σ.p : Int))) % (σ.p : Int) = (σ.P i).t1) ∧ (c : Int) = (σ.P i).c0) ∧ (t : Int) = (σ.P i).t0) t : Int) by omega]; exact q)
  have q := L σ.p 0 (by omega)
  rw [show M + (ct (fun t : Nat => ((cm1 σ.p 0 (m : Int) = (σ.P i).f1 ∧ ((m : Int) + (σ.P i).c1 * ((((σ.P i).e - 1 * (bs σ.p 0 : Int)) % (σ.p : Int)) * (iv σ.p (bs σ.p 8) : Int) % (σ.p : Int))) % (σ.p : Int) = (σ.P i).t1) ∧ (c : Int) = (σ.P i).c0) ∧ (t : Int) = (σ.P i).t0) 0 : Int) = M by show M + ((0 : Nat) : Int) = M; omega] at q
  exact q

set_option maxRecDepth 20000 in
set_option maxHeartbeats 1000000 in
theorem S_bl2_1 {G : xG} {d rc rs : Nat} {ex : Bool} {h3 : xH} {Q : xQ} {σ : St} {cc0 : Int} {rr i m : Nat} {ss M : Int} (w3 : MX σ cc0 rr ss h3) (v : INV σ) (hi : i < 2) (hst : (σ.P i).st = 3) (hm : m < σ.p) (K2 : X G m_X11_bitLike (d + 3) rc rs ex 145 [some (.ref 70), some (vi (i : Int)), some (vi 1), some (vi ((((σ.P i).e - 1 * (bs σ.p 0 : Int)) % (σ.p : Int)) * (iv σ.p (bs σ.p 8) : Int) % (σ.p : Int))), some (vi (M + (ct (fun c : Nat => (cm1 σ.p 0 (m : Int) = (σ.P i).f1 ∧ ((m : Int) + (σ.P i).c1 * ((((σ.P i).e - 1 * (bs σ.p 0 : Int)) % (σ.p : Int)) * (iv σ.p (bs σ.p 8) : Int) % (σ.p : Int))) % (σ.p : Int) = (σ.P i).t1) ∧ (c : Int) = (σ.P i).c0) σ.p : Int))), some (vi (m : Int)), some (vi (σ.p : Int)), none] [] h3 Q) : X G m_X11_bitLike (d + 3) rc rs ex 86 [some (.ref 70), some (vi (i : Int)), some (vi 1), some (vi ((((σ.P i).e - 1 * (bs σ.p 0 : Int)) % (σ.p : Int)) * (iv σ.p (bs σ.p 8) : Int) % (σ.p : Int))), some (vi M), some (vi (m : Int)), some (vi 0), none] [] h3 Q := by
  have hp := PRb v.p
  have okp := v.P i hi
  obtain ⟨f0e, f1e, cce, c0b, c1b, t0b, t1b⟩ := okp.all v.p hst
  have se := okp.eb hp.1 (by omega)
  have b24 := okp.2.2.2.2
  have f0b : 0 ≤ (σ.P i).f0 ∧ (σ.P i).f0 < σ.p := by rw [f0e]; exact fo_b hp.1
  have f1b : 0 ≤ (σ.P i).f1 ∧ (σ.P i).f1 < σ.p := by rw [f1e]; exact fo_b hp.1
  have L : ∀ (n c : Nat), c + n = σ.p → X G m_X11_bitLike (d + 3) rc rs ex 86 [some (.ref 70), some (vi (i : Int)), some (vi 1), some (vi ((((σ.P i).e - 1 * (bs σ.p 0 : Int)) % (σ.p : Int)) * (iv σ.p (bs σ.p 8) : Int) % (σ.p : Int))), some (vi (M + (ct (fun c : Nat => (cm1 σ.p 0 (m : Int) = (σ.P i).f1 ∧ ((m : Int) + (σ.P i).c1 * ((((σ.P i).e - 1 * (bs σ.p 0 : Int)) % (σ.p : Int)) * (iv σ.p (bs σ.p 8) : Int) % (σ.p : Int))) % (σ.p : Int) = (σ.P i).t1) ∧ (c : Int) = (σ.P i).c0) c : Int))), some (vi (m : Int)), some (vi (c : Int)), none] [] h3 Q := by
    intro n
    induction n with
    | zero =>
      intro c hi_ 
      refine x_iload (dT U_X11_bitLike 49 rfl) rfl ?_
      refine x_aload_n (dT U_X11_bitLike 50 rfl) rfl ?_
      refine x_getfield F_X11_130 (dT U_X11_bitLike 51 rfl) w3.c70 (Nat.le_of_ble_eq_true rfl) rfl ?_
      refine x_icmp_ge (tgt := 145) (dT U_X11_bitLike 52 rfl) (by decide) (by unfold xr; omega) (by unfold xr; omega) (fun c92 => ?_) (fun c92 => ?_)
      · skip
        have e : c = σ.p := by omega
        rw [e]
        exact K2
      · exfalso; omega
    | succ n ih =>
      intro c hi_ 
      refine x_iload (dT U_X11_bitLike 49 rfl) rfl ?_
      refine x_aload_n (dT U_X11_bitLike 50 rfl) rfl ?_
      refine x_getfield F_X11_130 (dT U_X11_bitLike 51 rfl) w3.c70 (Nat.le_of_ble_eq_true rfl) rfl ?_
      refine x_icmp_ge (tgt := 145) (dT U_X11_bitLike 52 rfl) (by decide) (by unfold xr; omega) (by unfold xr; omega) (fun c92 => ?_) (fun c92 => ?_)
      · exfalso; omega
      · skip
        refine x_iconst (dT U_X11_bitLike 53 rfl) ?_
        refine x_istore (ls' := [some (.ref _), some (vi _), some (vi _), some (vi _), some (vi _), some (vi _), some (vi _), some (vi _)]) (dT U_X11_bitLike 54 rfl) (by decide) rfl ?_
        refine S_bl3_1 w3 v hi hst hm (by omega) ?_
        refine x_iinc (ls' := [some (.ref _), some (vi _), some (vi _), some (vi _), some (vi _), some (vi _), some (vi _), some (vi _)]) (dT U_X11_bitLike 76 rfl) (by decide) rfl rfl ?_
        refine x_goto (tgt := 86) (dT U_X11_bitLike 77 rfl) (by decide) ?_
        have q := ih (c + 1) (by omega)
        rw [show (ct (fun c : Nat => (cm1 σ.p 0 (m : Int) = (σ.P i).f1 ∧ ((m : Int) + (σ.P i).c1 * ((((σ.P i).e - 1 * (bs σ.p 0 : Int)) % (σ.p : Int)) * (iv σ.p (bs σ.p 8) : Int) % (σ.p : Int))) % (σ.p : Int) = (σ.P i).t1) ∧ (c : Int) = (σ.P i).c0) (c + 1) : Int) = (ct (fun c : Nat => (cm1 σ.p 0 (m : Int) = (σ.P i).f1 ∧ ((m : Int) + (σ.P i).c1 * ((((σ.P i).e - 1 * (bs σ.p 0 : Int)) % (σ.p : Int)) * (iv σ.p (bs σ.p 8) : Int) % (σ.p : Int))) % (σ.p : Int) = (σ.P i).t1) ∧ (c : Int) = (σ.P i).c0) c : Int) + (ct (fun t : Nat => ((cm1 σ.p 0 (m : Int) = (σ.P i).f1 ∧ ((m : Int) + (σ.P i).c1 * ((((σ.P i).e - 1 * (bs σ.p 0 : Int)) % (σ.p : Int)) * (iv σ.p (bs σ.p 8) : Int) % (σ.p : Int))) % (σ.p : Int) = (σ.P i).t1) ∧ (c : Int) = (σ.P i).c0) ∧ (t : Int) = (σ.P i).t0) σ.p : Int) by rw [ct_and (p := σ.p) (P := (fun t : Nat => ((cm1 σ.p 0 (m : Int) = (σ.P i).f1 ∧ ((m : Int) + (σ.P i).c1 * ((((σ.P i).e - 1 * (bs σ.p 0 : Int)) % (σ.p : Int)) * (iv σ.p (bs σ.p 8) : Int) % (σ.p : Int))) % (σ.p : Int) = (σ.P i).t1) ∧ (c : Int) = (σ.P i).c0) ∧ (t : Int) = (σ.P i).t0)) (A := (cm1 σ.p 0 (m : Int) = (σ.P i).f1 ∧ ((m : Int) + (σ.P i).c1 * ((((σ.P i).e - 1 * (bs σ.p 0 : Int)) % (σ.p : Int)) * (iv σ.p (bs σ.p 8) : Int) % (σ.p : Int))) % (σ.p : Int) = (σ.P i).t1) ∧ (c : Int) = (σ.P i).c0) (a := (σ.P i).t0.toNat) (by omega) (fun t _ => ⟨fun z => ⟨z.1, by have := z.2; omega⟩, fun z => ⟨z.1, by have := z.2; omega⟩⟩)]; rfl, ← Int.add_assoc] at q
        refine x_drop ?_ q
        repeat (first | exact trivial | refine ⟨rfl, ?_⟩ | refine ⟨trivial, ?_⟩)
  have q := L σ.p 0 (by omega)
  rw [show M + (ct (fun c : Nat => (cm1 σ.p 0 (m : Int) = (σ.P i).f1 ∧ ((m : Int) + (σ.P i).c1 * ((((σ.P i).e - 1 * (bs σ.p 0 : Int)) % (σ.p : Int)) * (iv σ.p (bs σ.p 8) : Int) % (σ.p : Int))) % (σ.p : Int) = (σ.P i).t1) ∧ (c : Int) = (σ.P i).c0) 0 : Int) = M by show M + ((0 : Nat) : Int) = M; omega] at q
  exact q

set_option maxRecDepth 20000 in
set_option maxHeartbeats 1000000 in
theorem S_X11_bitLike {G : xG} {d rc rs : Nat} {ex : Bool} {h : xH} {Q : xQ} {σ : St} {cc0 : Int} {rr : Nat} {ss : Int} {pair bit : Int} (w : MX σ cc0 rr ss h) (v : INV σ) (h_pair : xr pair) (h_bit : xr bit) (e1 : ¬ (inb pair 2) → ∀ h2 z, Ag 70 142 h h2 → MX σ 1 rr ss h2 → xr z → Q (.inl (some (vi z))) ex h2) (e2 : (inb pair 2) → ¬ (inb bit 2) → ∀ h2 z, Ag 70 142 h h2 → MX σ 2 rr ss h2 → xr z → Q (.inl (some (vi z))) ex h2) (e3 : (inb pair 2) → (inb bit 2) → ¬ ((σ.P pair.toNat).st = 3) → ∀ h2 z, Ag 70 142 h h2 → MX σ 3 rr ss h2 → xr z → Q (.inl (some (vi z))) ex h2) (k : (inb pair 2) → (inb bit 2) → ((σ.P pair.toNat).st = 3) → ∀ h2 r2 s2, Ag 70 142 h h2 → MX σ 0 r2 s2 h2 → Q (.inl (some (vi (1)))) ex h2) : X G m_X11_bitLike (d + 3) rc rs ex 0 (xe m_X11_bitLike.2.2.1 [.ref 70, vi pair, vi bit]) [] h Q := by
  show X G m_X11_bitLike _ _ _ _ 0 [some (.ref 70), some (vi pair), some (vi bit), none, none, none, none, none] [] h Q
  have hp := PRb v.p
  have hq := gq_b v.p
  refine x_aload_n (dT U_X11_bitLike 0 rfl) rfl ?_
  refine x_iload_n (dT U_X11_bitLike 1 rfl) rfl ?_
  refine x_iconst (dT U_X11_bitLike 2 rfl) ?_
  refine x_invokestatic (rc' := rc) (rs' := rs) (rc2 := 0) (rs2 := 0) (As := [_, _]) (st := _) M_X11_in K_X11_126 (dT U_X11_bitLike 3 rfl) rfl rfl rfl rfl (Nat.le_of_ble_eq_true rfl) rfl (by decide) (Nat.le_of_ble_eq_true rfl) rfl rfl ?_
  refine S_X11_in h_pair (by unfold xr; omega) (fun q1 => ?_) (fun q1 => ?_)
  · refine xRet_some ?_
    refine x_iconst (dT U_X11_bitLike 4 rfl) ?_
    refine x_invokevirtual (rc' := rc) (rs' := rs) (rc2 := 0) (rs2 := 0) (As := [_, _]) (st := _) M_X11_lets K_X11_167 (dT U_X11_bitLike 5 rfl) rfl rfl (by decide) rfl rfl w.c70 (Nat.le_of_ble_eq_true rfl) (by decide) rfl (Nat.le_of_ble_eq_true rfl) rfl (by decide) (Nat.le_of_ble_eq_true rfl) rfl rfl ?_
    refine S_X11_lets1 w (fun h1 g1 w1 => ?_)
    refine xRet_some ?_
    obtain ⟨i, hi, rfl⟩ : ∃ j : Nat, j < 2 ∧ pair = (j : Int) := ⟨pair.toNat, by omega, by omega⟩
    try simp only [tnc] at e1 e2 e3 k
    refine x_if_eqn (tgt := 49) (dT U_X11_bitLike 6 rfl) (by decide) (by decide) ?_
    refine x_aload_n (dT U_X11_bitLike 7 rfl) rfl ?_
    refine x_iload_n (dT U_X11_bitLike 8 rfl) rfl ?_
    refine x_iconst (dT U_X11_bitLike 9 rfl) ?_
    refine x_invokestatic (rc' := rc) (rs' := rs) (rc2 := 0) (rs2 := 0) (As := [_, _]) (st := _) M_X11_in K_X11_126 (dT U_X11_bitLike 10 rfl) rfl rfl rfl rfl (Nat.le_of_ble_eq_true rfl) rfl (by decide) (Nat.le_of_ble_eq_true rfl) rfl rfl ?_
    refine S_X11_in h_bit (by unfold xr; omega) (fun q2 => ?_) (fun q2 => ?_)
    · refine xRet_some ?_
      refine x_iconst (dT U_X11_bitLike 11 rfl) ?_
      refine x_invokevirtual (rc' := rc) (rs' := rs) (rc2 := 0) (rs2 := 0) (As := [_, _]) (st := _) M_X11_lets K_X11_167 (dT U_X11_bitLike 12 rfl) rfl rfl (by decide) rfl rfl w1.c70 (Nat.le_of_ble_eq_true rfl) (by decide) rfl (Nat.le_of_ble_eq_true rfl) rfl (by decide) (Nat.le_of_ble_eq_true rfl) rfl rfl ?_
      refine S_X11_lets1 w1 (fun h2 g2 w2 => ?_)
      refine xRet_some ?_
      refine x_if_eqn (tgt := 49) (dT U_X11_bitLike 13 rfl) (by decide) (by decide) ?_
      refine x_aload_n (dT U_X11_bitLike 14 rfl) rfl ?_
      refine x_aload_n (dT U_X11_bitLike 15 rfl) rfl ?_
      refine x_getfield F_X11_58 (dT U_X11_bitLike 16 rfl) w2.c70 (Nat.le_of_ble_eq_true rfl) rfl ?_
      refine x_iload_n (dT U_X11_bitLike 17 rfl) rfl ?_
      refine x_ialoadv (i) (dT U_X11_bitLike 18 rfl) w2.c109 (Nat.le_of_ble_eq_true rfl) rfl (show i < 2 by omega) (show 2 < 2147483648 by decide) (show _ = ((σ.P i).st : Int) from t2_get hi) ?_
      refine x_iconst (dT U_X11_bitLike 19 rfl) ?_
      have s4 := (v.P i hi).1
      refine x_icmp_ne (tgt := 41) (dT U_X11_bitLike 20 rfl) (by decide) (by unfold xr; omega) (by unfold xr; omega) (fun c34 => ?_) (fun c34 => ?_)
      · skip
        refine x_iconst (dT U_X11_bitLike 23 rfl) ?_
        refine x_iconst (dT U_X11_bitLike 24 rfl) ?_
        refine x_invokevirtual (rc' := rc) (rs' := rs) (rc2 := 0) (rs2 := 0) (As := [_, _]) (st := _) M_X11_lets K_X11_167 (dT U_X11_bitLike 25 rfl) rfl rfl (by decide) rfl rfl w2.c70 (Nat.le_of_ble_eq_true rfl) (by decide) rfl (Nat.le_of_ble_eq_true rfl) rfl (by decide) (Nat.le_of_ble_eq_true rfl) rfl rfl ?_
        refine S_X11_lets0 w2 (fun h3 g3 w3 => ?_)
        refine xRet_some ?_
        refine x_if_nen (tgt := 51) (dT U_X11_bitLike 26 rfl) (by decide) (by decide) ?_
        refine x_iconst (dT U_X11_bitLike 27 rfl) ?_
        refine x_ireturn (dT U_X11_bitLike 28 rfl) rfl ?_
        exact e3 (by omega) (by omega) (by omega) _ _ (Ag.tr (Ag.tr (Ag.tr (Ag.rf 70 142 h) (g1.w (by omega))) (g2.w (by omega))) (g3.w (by omega))) w3 (by unfold xr; omega)
      · skip
        refine x_iconst (dT U_X11_bitLike 21 rfl) ?_
        refine x_goto (tgt := 42) (dT U_X11_bitLike 22 rfl) (by decide) ?_
        refine x_iconst (dT U_X11_bitLike 24 rfl) ?_
        refine x_invokevirtual (rc' := rc) (rs' := rs) (rc2 := 0) (rs2 := 0) (As := [_, _]) (st := _) M_X11_lets K_X11_167 (dT U_X11_bitLike 25 rfl) rfl rfl (by decide) rfl rfl w2.c70 (Nat.le_of_ble_eq_true rfl) (by decide) rfl (Nat.le_of_ble_eq_true rfl) rfl (by decide) (Nat.le_of_ble_eq_true rfl) rfl rfl ?_
        refine S_X11_lets1 w2 (fun h3 g3 w3 => ?_)
        refine xRet_some ?_
        refine x_if_nej (tgt := 51) (dT U_X11_bitLike 26 rfl) (by decide) (by decide) ?_
        have hst : (σ.P i).st = 3 := by omega
        have okp := v.P i hi
        obtain ⟨f0e, f1e, cce, c0b, c1b, t0b, t1b⟩ := okp.all v.p hst
        have se := okp.eb hp.1 (by omega)
        have b24 := okp.2.2.2.2
        have f0b : 0 ≤ (σ.P i).f0 ∧ (σ.P i).f0 < σ.p := by rw [f0e]; exact fo_b hp.1
        have f1b : 0 ≤ (σ.P i).f1 ∧ (σ.P i).f1 < σ.p := by rw [f1e]; exact fo_b hp.1
        have sb : bit = 0 ∨ bit = 1 := by omega
        rcases sb with rfl | rfl
        · skip
          refine x_aload_n (dT U_X11_bitLike 29 rfl) rfl ?_
          refine x_aload_n (dT U_X11_bitLike 30 rfl) rfl ?_
          refine x_iload_n (dT U_X11_bitLike 31 rfl) rfl ?_
          refine x_iload_n (dT U_X11_bitLike 32 rfl) rfl ?_
          refine x_invokevirtual (rc' := rc) (rs' := rs) (rc2 := 0) (rs2 := 0) (As := [_, _]) (st := _) M_X11_sideOf K_X11_281 (dT U_X11_bitLike 33 rfl) rfl rfl (by decide) rfl rfl w3.c70 (Nat.le_of_ble_eq_true rfl) (by decide) rfl (Nat.le_of_ble_eq_true rfl) rfl (by decide) (Nat.le_of_ble_eq_true rfl) rfl rfl ?_
          have sd := modb (z := (σ.P i).e - 0 * (bs σ.p 0 : Int)) (p := (σ.p : Int)) (by omega)
          refine S_X11_sideOf0 (f := fun j => (σ.P j).e) (w3.mp) v.p w3.c110 hi se ?_
          change xRet _ _ _ _ _ _ _ _ _ _ (.inl (some (vi (((σ.P i).e - 0 * (bs σ.p 0 : Int)) % (σ.p : Int))))) _ _
          refine xRet_some ?_
          refine x_aload_n (dT U_X11_bitLike 34 rfl) rfl ?_
          refine x_bipush (dT U_X11_bitLike 35 rfl) (by decide) ?_
          refine x_invokevirtual (rc' := rc) (rs' := rs) (rc2 := 0) (rs2 := 0) (As := [_]) (st := _) M_X11_of K_X11_160 (dT U_X11_bitLike 36 rfl) rfl rfl (by decide) rfl rfl w3.c70 (Nat.le_of_ble_eq_true rfl) (by decide) rfl (Nat.le_of_ble_eq_true rfl) rfl (by decide) (Nat.le_of_ble_eq_true rfl) rfl rfl ?_
          have bb8 := bs_b v.p (i := 8) (by omega)
          refine S_X11_of (i := 8) (w3.mp) v.p (by omega) ?_
          refine xRet_some ?_
          refine x_invokevirtual (rc' := rc) (rs' := rs) (rc2 := 0) (rs2 := 0) (As := [_, _]) (st := _) M_X11_over K_X11_193 (dT U_X11_bitLike 37 rfl) rfl rfl (by decide) rfl rfl w3.c70 (Nat.le_of_ble_eq_true rfl) (by decide) rfl (Nat.le_of_ble_eq_true rfl) rfl (by decide) (Nat.le_of_ble_eq_true rfl) rfl rfl ?_
          refine S_overI (w3.mp) v.p sd (by omega) ?_
          rw [Int.toNat_natCast]
          refine xRet_some ?_
          refine x_istore_n (ls' := [some (.ref _), some (vi _), some (vi _), some (vi _), none, none, none, none]) (dT U_X11_bitLike 38 rfl) (by decide) rfl ?_
          refine x_iconst (dT U_X11_bitLike 39 rfl) ?_
          refine x_istore (ls' := [some (.ref _), some (vi _), some (vi _), some (vi _), some (vi _), none, none, none]) (dT U_X11_bitLike 40 rfl) (by decide) rfl ?_
          refine x_iconst (dT U_X11_bitLike 41 rfl) ?_
          refine x_istore (ls' := [some (.ref _), some (vi _), some (vi _), some (vi _), some (vi _), some (vi _), none, none]) (dT U_X11_bitLike 42 rfl) (by decide) rfl ?_
          have L : ∀ (n m : Nat), m + n = σ.p → X G m_X11_bitLike (d + 3) rc rs ex 74 [some (.ref 70), some (vi (i : Int)), some (vi 0), some (vi ((((σ.P i).e - 0 * (bs σ.p 0 : Int)) % (σ.p : Int)) * (iv σ.p (bs σ.p 8) : Int) % (σ.p : Int))), some (vi (ct (fun m : Nat => (cm1 σ.p 0 (m : Int) = (σ.P i).f0 ∧ ((m : Int) + (σ.P i).c0 * ((((σ.P i).e - 0 * (bs σ.p 0 : Int)) % (σ.p : Int)) * (iv σ.p (bs σ.p 8) : Int) % (σ.p : Int))) % (σ.p : Int) = (σ.P i).t0)) m : Int)), some (vi (m : Int)), none, none] [] h3 Q := by
            intro n
            induction n with
            | zero =>
              intro m hi_ 
              refine x_iload (dT U_X11_bitLike 43 rfl) rfl ?_
              refine x_aload_n (dT U_X11_bitLike 44 rfl) rfl ?_
              refine x_getfield F_X11_130 (dT U_X11_bitLike 45 rfl) w3.c70 (Nat.le_of_ble_eq_true rfl) rfl ?_
              refine x_icmp_ge (tgt := 151) (dT U_X11_bitLike 46 rfl) (by decide) (by unfold xr; omega) (by unfold xr; omega) (fun c80 => ?_) (fun c80 => ?_)
              · skip
                have e : m = σ.p := by omega
                have w1 : ct (fun m : Nat => (cm1 σ.p 0 (m : Int) = (σ.P i).f0 ∧ ((m : Int) + (σ.P i).c0 * ((((σ.P i).e - 0 * (bs σ.p 0 : Int)) % (σ.p : Int)) * (iv σ.p (bs σ.p 8) : Int) % (σ.p : Int))) % (σ.p : Int) = (σ.P i).t0)) σ.p = 1 := by rw [← ways1 (s := 0) v.p c0b t0b]; exact ct_congr _ (fun x _ => by rw [← f0e])
                rw [e, w1]
                refine x_iload (dT U_X11_bitLike 80 rfl) rfl ?_
                refine x_ireturn (dT U_X11_bitLike 81 rfl) rfl ?_
                exact k (by omega) (by omega) hst _ _ _ (Ag.tr (Ag.tr (Ag.tr (Ag.rf 70 142 h) (g1.w (by omega))) (g2.w (by omega))) (g3.w (by omega))) w3
              · exfalso; omega
            | succ n ih =>
              intro m hi_ 
              refine x_iload (dT U_X11_bitLike 43 rfl) rfl ?_
              refine x_aload_n (dT U_X11_bitLike 44 rfl) rfl ?_
              refine x_getfield F_X11_130 (dT U_X11_bitLike 45 rfl) w3.c70 (Nat.le_of_ble_eq_true rfl) rfl ?_
              refine x_icmp_ge (tgt := 151) (dT U_X11_bitLike 46 rfl) (by decide) (by unfold xr; omega) (by unfold xr; omega) (fun c80 => ?_) (fun c80 => ?_)
              · exfalso; omega
              · skip
                refine x_iconst (dT U_X11_bitLike 47 rfl) ?_
                refine x_istore (ls' := [some (.ref _), some (vi _), some (vi _), some (vi _), some (vi _), some (vi _), some (vi _), none]) (dT U_X11_bitLike 48 rfl) (by decide) rfl ?_
                refine x_drop (ls' := [some (.ref 70), some (vi (i : Int)), some (vi 0), some (vi ((((σ.P i).e - 0 * (bs σ.p 0 : Int)) % (σ.p : Int)) * (iv σ.p (bs σ.p 8) : Int) % (σ.p : Int))), some (vi (ct (fun m : Nat => (cm1 σ.p 0 (m : Int) = (σ.P i).f0 ∧ ((m : Int) + (σ.P i).c0 * ((((σ.P i).e - 0 * (bs σ.p 0 : Int)) % (σ.p : Int)) * (iv σ.p (bs σ.p 8) : Int) % (σ.p : Int))) % (σ.p : Int) = (σ.P i).t0)) m : Int)), some (vi (m : Int)), some (vi 0), none]) ?_ (S_bl2_0 w3 v hi hst (by omega) ?_)
                · repeat (first | exact trivial | refine ⟨rfl, ?_⟩ | refine ⟨trivial, ?_⟩)
                · skip
                  refine x_iinc (ls' := [some (.ref _), some (vi _), some (vi _), some (vi _), some (vi _), some (vi _), some (vi _), none]) (dT U_X11_bitLike 78 rfl) (by decide) rfl rfl ?_
                  refine x_goto (tgt := 74) (dT U_X11_bitLike 79 rfl) (by decide) ?_
                  have q := ih (m + 1) (by omega)
                  rw [show (ct (fun m : Nat => (cm1 σ.p 0 (m : Int) = (σ.P i).f0 ∧ ((m : Int) + (σ.P i).c0 * ((((σ.P i).e - 0 * (bs σ.p 0 : Int)) % (σ.p : Int)) * (iv σ.p (bs σ.p 8) : Int) % (σ.p : Int))) % (σ.p : Int) = (σ.P i).t0)) (m + 1) : Int) = (ct (fun m : Nat => (cm1 σ.p 0 (m : Int) = (σ.P i).f0 ∧ ((m : Int) + (σ.P i).c0 * ((((σ.P i).e - 0 * (bs σ.p 0 : Int)) % (σ.p : Int)) * (iv σ.p (bs σ.p 8) : Int) % (σ.p : Int))) % (σ.p : Int) = (σ.P i).t0)) m : Int) + (ct (fun c : Nat => (cm1 σ.p 0 (m : Int) = (σ.P i).f0 ∧ ((m : Int) + (σ.P i).c0 * ((((σ.P i).e - 0 * (bs σ.p 0 : Int)) % (σ.p : Int)) * (iv σ.p (bs σ.p 8) : Int) % (σ.p : Int))) % (σ.p : Int) = (σ.P i).t0) ∧ (c : Int) = (σ.P i).c1) σ.p : Int) by rw [ct_and (p := σ.p) (P := (fun c : Nat => (cm1 σ.p 0 (m : Int) = (σ.P i).f0 ∧ ((m : Int) + (σ.P i).c0 * ((((σ.P i).e - 0 * (bs σ.p 0 : Int)) % (σ.p : Int)) * (iv σ.p (bs σ.p 8) : Int) % (σ.p : Int))) % (σ.p : Int) = (σ.P i).t0) ∧ (c : Int) = (σ.P i).c1)) (A := (cm1 σ.p 0 (m : Int) = (σ.P i).f0 ∧ ((m : Int) + (σ.P i).c0 * ((((σ.P i).e - 0 * (bs σ.p 0 : Int)) % (σ.p : Int)) * (iv σ.p (bs σ.p 8) : Int) % (σ.p : Int))) % (σ.p : Int) = (σ.P i).t0)) (a := (σ.P i).c1.toNat) (by omega) (fun c _ => ⟨fun z => ⟨z.1, by have := z.2; omega⟩, fun z => ⟨z.1, by have := z.2; omega⟩⟩)]; rfl] at q
                  refine x_drop ?_ q
                  repeat (first | exact trivial | refine ⟨rfl, ?_⟩ | refine ⟨trivial, ?_⟩)
          have q := L σ.p 0 (by omega)
          exact q
        · skip
          refine x_aload_n (dT U_X11_bitLike 29 rfl) rfl ?_
          refine x_aload_n (dT U_X11_bitLike 30 rfl) rfl ?_
          refine x_iload_n (dT U_X11_bitLike 31 rfl) rfl ?_
          refine x_iload_n (dT U_X11_bitLike 32 rfl) rfl ?_
          refine x_invokevirtual (rc' := rc) (rs' := rs) (rc2 := 0) (rs2 := 0) (As := [_, _]) (st := _) M_X11_sideOf K_X11_281 (dT U_X11_bitLike 33 rfl) rfl rfl (by decide) rfl rfl w3.c70 (Nat.le_of_ble_eq_true rfl) (by decide) rfl (Nat.le_of_ble_eq_true rfl) rfl (by decide) (Nat.le_of_ble_eq_true rfl) rfl rfl ?_
          have sd := modb (z := (σ.P i).e - 1 * (bs σ.p 0 : Int)) (p := (σ.p : Int)) (by omega)
          refine S_X11_sideOf1 (f := fun j => (σ.P j).e) (w3.mp) v.p w3.c110 hi se ?_
          change xRet _ _ _ _ _ _ _ _ _ _ (.inl (some (vi (((σ.P i).e - 1 * (bs σ.p 0 : Int)) % (σ.p : Int))))) _ _
          refine xRet_some ?_
          refine x_aload_n (dT U_X11_bitLike 34 rfl) rfl ?_
          refine x_bipush (dT U_X11_bitLike 35 rfl) (by decide) ?_
          refine x_invokevirtual (rc' := rc) (rs' := rs) (rc2 := 0) (rs2 := 0) (As := [_]) (st := _) M_X11_of K_X11_160 (dT U_X11_bitLike 36 rfl) rfl rfl (by decide) rfl rfl w3.c70 (Nat.le_of_ble_eq_true rfl) (by decide) rfl (Nat.le_of_ble_eq_true rfl) rfl (by decide) (Nat.le_of_ble_eq_true rfl) rfl rfl ?_
          have bb8 := bs_b v.p (i := 8) (by omega)
          refine S_X11_of (i := 8) (w3.mp) v.p (by omega) ?_
          refine xRet_some ?_
          refine x_invokevirtual (rc' := rc) (rs' := rs) (rc2 := 0) (rs2 := 0) (As := [_, _]) (st := _) M_X11_over K_X11_193 (dT U_X11_bitLike 37 rfl) rfl rfl (by decide) rfl rfl w3.c70 (Nat.le_of_ble_eq_true rfl) (by decide) rfl (Nat.le_of_ble_eq_true rfl) rfl (by decide) (Nat.le_of_ble_eq_true rfl) rfl rfl ?_
          refine S_overI (w3.mp) v.p sd (by omega) ?_
          rw [Int.toNat_natCast]
          refine xRet_some ?_
          refine x_istore_n (ls' := [some (.ref _), some (vi _), some (vi _), some (vi _), none, none, none, none]) (dT U_X11_bitLike 38 rfl) (by decide) rfl ?_
          refine x_iconst (dT U_X11_bitLike 39 rfl) ?_
          refine x_istore (ls' := [some (.ref _), some (vi _), some (vi _), some (vi _), some (vi _), none, none, none]) (dT U_X11_bitLike 40 rfl) (by decide) rfl ?_
          refine x_iconst (dT U_X11_bitLike 41 rfl) ?_
          refine x_istore (ls' := [some (.ref _), some (vi _), some (vi _), some (vi _), some (vi _), some (vi _), none, none]) (dT U_X11_bitLike 42 rfl) (by decide) rfl ?_
          have L : ∀ (n m : Nat), m + n = σ.p → X G m_X11_bitLike (d + 3) rc rs ex 74 [some (.ref 70), some (vi (i : Int)), some (vi 1), some (vi ((((σ.P i).e - 1 * (bs σ.p 0 : Int)) % (σ.p : Int)) * (iv σ.p (bs σ.p 8) : Int) % (σ.p : Int))), some (vi (ct (fun m : Nat => (cm1 σ.p 0 (m : Int) = (σ.P i).f1 ∧ ((m : Int) + (σ.P i).c1 * ((((σ.P i).e - 1 * (bs σ.p 0 : Int)) % (σ.p : Int)) * (iv σ.p (bs σ.p 8) : Int) % (σ.p : Int))) % (σ.p : Int) = (σ.P i).t1)) m : Int)), some (vi (m : Int)), none, none] [] h3 Q := by
            intro n
            induction n with
            | zero =>
              intro m hi_ 
              refine x_iload (dT U_X11_bitLike 43 rfl) rfl ?_
              refine x_aload_n (dT U_X11_bitLike 44 rfl) rfl ?_
              refine x_getfield F_X11_130 (dT U_X11_bitLike 45 rfl) w3.c70 (Nat.le_of_ble_eq_true rfl) rfl ?_
              refine x_icmp_ge (tgt := 151) (dT U_X11_bitLike 46 rfl) (by decide) (by unfold xr; omega) (by unfold xr; omega) (fun c80 => ?_) (fun c80 => ?_)
              · skip
                have e : m = σ.p := by omega
                have w1 : ct (fun m : Nat => (cm1 σ.p 0 (m : Int) = (σ.P i).f1 ∧ ((m : Int) + (σ.P i).c1 * ((((σ.P i).e - 1 * (bs σ.p 0 : Int)) % (σ.p : Int)) * (iv σ.p (bs σ.p 8) : Int) % (σ.p : Int))) % (σ.p : Int) = (σ.P i).t1)) σ.p = 1 := by rw [← ways1 (s := 1) v.p c1b t1b]; exact ct_congr _ (fun x _ => by rw [← f1e])
                rw [e, w1]
                refine x_iload (dT U_X11_bitLike 80 rfl) rfl ?_
                refine x_ireturn (dT U_X11_bitLike 81 rfl) rfl ?_
                exact k (by omega) (by omega) hst _ _ _ (Ag.tr (Ag.tr (Ag.tr (Ag.rf 70 142 h) (g1.w (by omega))) (g2.w (by omega))) (g3.w (by omega))) w3
              · exfalso; omega
            | succ n ih =>
              intro m hi_ 
              refine x_iload (dT U_X11_bitLike 43 rfl) rfl ?_
              refine x_aload_n (dT U_X11_bitLike 44 rfl) rfl ?_
              refine x_getfield F_X11_130 (dT U_X11_bitLike 45 rfl) w3.c70 (Nat.le_of_ble_eq_true rfl) rfl ?_
              refine x_icmp_ge (tgt := 151) (dT U_X11_bitLike 46 rfl) (by decide) (by unfold xr; omega) (by unfold xr; omega) (fun c80 => ?_) (fun c80 => ?_)
              · exfalso; omega
              · skip
                refine x_iconst (dT U_X11_bitLike 47 rfl) ?_
                refine x_istore (ls' := [some (.ref _), some (vi _), some (vi _), some (vi _), some (vi _), some (vi _), some (vi _), none]) (dT U_X11_bitLike 48 rfl) (by decide) rfl ?_
                refine x_drop (ls' := [some (.ref 70), some (vi (i : Int)), some (vi 1), some (vi ((((σ.P i).e - 1 * (bs σ.p 0 : Int)) % (σ.p : Int)) * (iv σ.p (bs σ.p 8) : Int) % (σ.p : Int))), some (vi (ct (fun m : Nat => (cm1 σ.p 0 (m : Int) = (σ.P i).f1 ∧ ((m : Int) + (σ.P i).c1 * ((((σ.P i).e - 1 * (bs σ.p 0 : Int)) % (σ.p : Int)) * (iv σ.p (bs σ.p 8) : Int) % (σ.p : Int))) % (σ.p : Int) = (σ.P i).t1)) m : Int)), some (vi (m : Int)), some (vi 0), none]) ?_ (S_bl2_1 w3 v hi hst (by omega) ?_)
                · repeat (first | exact trivial | refine ⟨rfl, ?_⟩ | refine ⟨trivial, ?_⟩)
                · skip
                  refine x_iinc (ls' := [some (.ref _), some (vi _), some (vi _), some (vi _), some (vi _), some (vi _), some (vi _), none]) (dT U_X11_bitLike 78 rfl) (by decide) rfl rfl ?_
                  refine x_goto (tgt := 74) (dT U_X11_bitLike 79 rfl) (by decide) ?_
                  have q := ih (m + 1) (by omega)
                  rw [show (ct (fun m : Nat => (cm1 σ.p 0 (m : Int) = (σ.P i).f1 ∧ ((m : Int) + (σ.P i).c1 * ((((σ.P i).e - 1 * (bs σ.p 0 : Int)) % (σ.p : Int)) * (iv σ.p (bs σ.p 8) : Int) % (σ.p : Int))) % (σ.p : Int) = (σ.P i).t1)) (m + 1) : Int) = (ct (fun m : Nat => (cm1 σ.p 0 (m : Int) = (σ.P i).f1 ∧ ((m : Int) + (σ.P i).c1 * ((((σ.P i).e - 1 * (bs σ.p 0 : Int)) % (σ.p : Int)) * (iv σ.p (bs σ.p 8) : Int) % (σ.p : Int))) % (σ.p : Int) = (σ.P i).t1)) m : Int) + (ct (fun c : Nat => (cm1 σ.p 0 (m : Int) = (σ.P i).f1 ∧ ((m : Int) + (σ.P i).c1 * ((((σ.P i).e - 1 * (bs σ.p 0 : Int)) % (σ.p : Int)) * (iv σ.p (bs σ.p 8) : Int) % (σ.p : Int))) % (σ.p : Int) = (σ.P i).t1) ∧ (c : Int) = (σ.P i).c0) σ.p : Int) by rw [ct_and (p := σ.p) (P := (fun c : Nat => (cm1 σ.p 0 (m : Int) = (σ.P i).f1 ∧ ((m : Int) + (σ.P i).c1 * ((((σ.P i).e - 1 * (bs σ.p 0 : Int)) % (σ.p : Int)) * (iv σ.p (bs σ.p 8) : Int) % (σ.p : Int))) % (σ.p : Int) = (σ.P i).t1) ∧ (c : Int) = (σ.P i).c0)) (A := (cm1 σ.p 0 (m : Int) = (σ.P i).f1 ∧ ((m : Int) + (σ.P i).c1 * ((((σ.P i).e - 1 * (bs σ.p 0 : Int)) % (σ.p : Int)) * (iv σ.p (bs σ.p 8) : Int) % (σ.p : Int))) % (σ.p : Int) = (σ.P i).t1)) (a := (σ.P i).c0.toNat) (by omega) (fun c _ => ⟨fun z => ⟨z.1, by have := z.2; omega⟩, fun z => ⟨z.1, by have := z.2; omega⟩⟩)]; rfl] at q
                  refine x_drop ?_ q
                  repeat (first | exact trivial | refine ⟨rfl, ?_⟩ | refine ⟨trivial, ?_⟩)
          have q := L σ.p 0 (by omega)
          exact q
    · refine xRet_some ?_
      refine x_iconst (dT U_X11_bitLike 11 rfl) ?_
      refine x_invokevirtual (rc' := rc) (rs' := rs) (rc2 := 0) (rs2 := 0) (As := [_, _]) (st := _) M_X11_lets K_X11_167 (dT U_X11_bitLike 12 rfl) rfl rfl (by decide) rfl rfl w1.c70 (Nat.le_of_ble_eq_true rfl) (by decide) rfl (Nat.le_of_ble_eq_true rfl) rfl (by decide) (Nat.le_of_ble_eq_true rfl) rfl rfl ?_
      refine S_X11_lets0 w1 (fun h2 g2 w2 => ?_)
      refine xRet_some ?_
      refine x_if_eqj (tgt := 49) (dT U_X11_bitLike 13 rfl) (by decide) (by decide) ?_
      refine x_iconst (dT U_X11_bitLike 27 rfl) ?_
      refine x_ireturn (dT U_X11_bitLike 28 rfl) rfl ?_
      exact e2 (by omega) (by omega) _ _ (Ag.tr (Ag.tr (Ag.rf 70 142 h) (g1.w (by omega))) (g2.w (by omega))) w2 (by unfold xr; omega)
  · refine xRet_some ?_
    refine x_iconst (dT U_X11_bitLike 4 rfl) ?_
    refine x_invokevirtual (rc' := rc) (rs' := rs) (rc2 := 0) (rs2 := 0) (As := [_, _]) (st := _) M_X11_lets K_X11_167 (dT U_X11_bitLike 5 rfl) rfl rfl (by decide) rfl rfl w.c70 (Nat.le_of_ble_eq_true rfl) (by decide) rfl (Nat.le_of_ble_eq_true rfl) rfl (by decide) (Nat.le_of_ble_eq_true rfl) rfl rfl ?_
    refine S_X11_lets0 w (fun h1 g1 w1 => ?_)
    refine xRet_some ?_
    refine x_if_eqj (tgt := 49) (dT U_X11_bitLike 6 rfl) (by decide) (by decide) ?_
    refine x_iconst (dT U_X11_bitLike 27 rfl) ?_
    refine x_ireturn (dT U_X11_bitLike 28 rfl) rfl ?_
    exact e1 (by omega) _ _ (Ag.tr (Ag.rf 70 142 h) (g1.w (by omega))) w1 (by unfold xr; omega)
