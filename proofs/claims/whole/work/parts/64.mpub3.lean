theorem S_overI {G : xG} {d rc rs : Nat} {ex : Bool} {h : xH} {Q : xQ} {p : Nat} {a b : Int} (w : MP p h) (hp5 : p ∈ PR) (ha : 0 ≤ a ∧ a < p) (hb : 0 < b ∧ b < p) (k : Q (.inl (some (vi ((a * (iv p b.toNat : Int)) % (p : Int))))) ex h) : X G m_X11_over (d + 1) rc rs ex 0 (xe m_X11_over.2.2.1 [.ref 70, vi a, vi b]) [] h Q := by
  obtain ⟨a', rfl⟩ := Int.eq_ofNat_of_zero_le ha.1
  obtain ⟨b', rfl⟩ := Int.eq_ofNat_of_zero_le (Int.le_of_lt hb.1)
  exact S_X11_over w hp5 (by omega) (by omega) k

set_option maxRecDepth 20000 in
set_option maxHeartbeats 1000000 in
theorem S_X11_accepted {G : xG} {d rc rs : Nat} {ex : Bool} {h : xH} {Q : xQ} {σ : St} {cc0 : Int} {rr : Nat} {ss : Int} {i : Nat} (w : MX σ cc0 rr ss h) (v : INV σ) (hi : i < 4) (k1 : acc σ.p (σ.R i) → Q (.inl (some (vi 1))) ex h) (k0 : ¬ (acc σ.p (σ.R i)) → Q (.inl (some (vi 0))) ex h) : X G m_X11_accepted (d + 2) rc rs ex 0 (xe m_X11_accepted.2.2.1 [.ref 70, vi (i : Int)]) [] h Q := by
  show X G m_X11_accepted _ _ _ _ 0 [some (.ref 70), some (vi (i : Int))] [] h Q
  have hp := PRb v.p
  have hq := gq_b v.p
  have ok := (v.R i hi).1
  have s4 := ok.s4
  refine x_aload_n (dT U_X11_accepted 0 rfl) rfl ?_
  refine x_getfield F_X11_21 (dT U_X11_accepted 1 rfl) w.c70 (Nat.le_of_ble_eq_true rfl) rfl ?_
  refine x_iload_n (dT U_X11_accepted 2 rfl) rfl ?_
  refine x_ialoadv (i) (dT U_X11_accepted 3 rfl) w.c82 (Nat.le_of_ble_eq_true rfl) rfl (show i < 5 by omega) (show 5 < 2147483648 by decide) (show _ = ((σ.R i).st : Int) from t5_get hi) ?_
  refine x_iconst (dT U_X11_accepted 4 rfl) ?_
  refine x_icmp_ne (tgt := 106) (dT U_X11_accepted 5 rfl) (by decide) (by unfold xr; omega) (by unfold xr; omega) (fun c7 => ?_) (fun c7 => ?_)
  · skip
    refine x_iconst (dT U_X11_accepted 68 rfl) ?_
    refine x_zreturn (dT U_X11_accepted 69 rfl) rfl (by omega) ?_
    first | exact k0 (fun z => by have := z.1; omega) | exact k0 (fun z => c53 z.2.1) | exact k0 (fun z => c99 z.2.2) | exact k1 ⟨by omega, Decidable.byContradiction (fun z => c53 z), Decidable.byContradiction (fun z => c99 z)⟩ | exact k1 ⟨by omega, c53, c99⟩
  · skip
    have se := ok.e (by omega)
    have sv := ok.v (by omega)
    have sf := ok.f (by omega)
    have sfa := ok.fa (by omega)
    have sw := ok.w (by omega)
    have sc := ok.c (by omega)
    have sx := ok.t (by omega)
    have san := ok.an (by omega)
    have m1 := mulb sc se (by omega)
    have m2 := mulb sc sv (by omega)
    refine x_aload_n (dT U_X11_accepted 6 rfl) rfl ?_
    refine x_aload_n (dT U_X11_accepted 7 rfl) rfl ?_
    refine x_getfield F_X11_52 (dT U_X11_accepted 8 rfl) w.c70 (Nat.le_of_ble_eq_true rfl) rfl ?_
    refine x_iload_n (dT U_X11_accepted 9 rfl) rfl ?_
    refine x_aaload (i) (dT U_X11_accepted 10 rfl) w.c102 (Nat.le_of_ble_eq_true rfl) (by decide) rfl (maL_get (by omega)) (Nat.le_of_ble_eq_true rfl) ?_
    refine x_aload_n (dT U_X11_accepted 11 rfl) rfl ?_
    refine x_getfield F_X11_55 (dT U_X11_accepted 12 rfl) w.c70 (Nat.le_of_ble_eq_true rfl) rfl ?_
    refine x_iload_n (dT U_X11_accepted 13 rfl) rfl ?_
    refine x_ialoadv (i) (dT U_X11_accepted 14 rfl) w.c108 (Nat.le_of_ble_eq_true rfl) rfl (show i < 5 by omega) (show 5 < 2147483648 by decide) (show _ = (σ.R i).t from t5_get hi) ?_
    refine x_invokevirtual (rc' := rc) (rs' := rs) (rc2 := 0) (rs2 := 0) (As := [_, _]) (st := _) M_X11_committed K_X11_211 (dT U_X11_accepted 15 rfl) rfl rfl (by decide) rfl rfl w.c70 (Nat.le_of_ble_eq_true rfl) (by decide) rfl (Nat.le_of_ble_eq_true rfl) rfl (by decide) (Nat.le_of_ble_eq_true rfl) rfl rfl ?_
    refine S_X11_committed (w.mp) v.p (w.answers i hi) (by omega) san sx ?_
    refine xRet_some ?_
    refine x_aload_n (dT U_X11_accepted 16 rfl) rfl ?_
    refine x_aload_n (dT U_X11_accepted 17 rfl) rfl ?_
    refine x_getfield F_X11_33 (dT U_X11_accepted 18 rfl) w.c70 (Nat.le_of_ble_eq_true rfl) rfl ?_
    refine x_iload_n (dT U_X11_accepted 19 rfl) rfl ?_
    refine x_ialoadv (i) (dT U_X11_accepted 20 rfl) w.c91 (Nat.le_of_ble_eq_true rfl) rfl (show i < 5 by omega) (show 5 < 2147483648 by decide) (show _ = (σ.R i).fa from t5_get hi) ?_
    refine x_i2l (dT U_X11_accepted 21 rfl) (by unfold xr; omega) ?_
    refine x_aload_n (dT U_X11_accepted 22 rfl) rfl ?_
    refine x_getfield F_X11_49 (dT U_X11_accepted 23 rfl) w.c70 (Nat.le_of_ble_eq_true rfl) rfl ?_
    refine x_iload_n (dT U_X11_accepted 24 rfl) rfl ?_
    refine x_ialoadv (i) (dT U_X11_accepted 25 rfl) w.c101 (Nat.le_of_ble_eq_true rfl) rfl (show i < 5 by omega) (show 5 < 2147483648 by decide) (show _ = (σ.R i).c from t5_get hi) ?_
    refine x_i2l (dT U_X11_accepted 26 rfl) (by unfold xr; omega) ?_
    refine x_aload_n (dT U_X11_accepted 27 rfl) rfl ?_
    refine x_getfield F_X11_24 (dT U_X11_accepted 28 rfl) w.c70 (Nat.le_of_ble_eq_true rfl) rfl ?_
    refine x_iload_n (dT U_X11_accepted 29 rfl) rfl ?_
    refine x_ialoadv (i) (dT U_X11_accepted 30 rfl) w.c83 (Nat.le_of_ble_eq_true rfl) rfl (show i < 5 by omega) (show 5 < 2147483648 by decide) (show _ = (σ.R i).e from t5_get hi) ?_
    refine x_i2l (dT U_X11_accepted 31 rfl) (by unfold xr; omega) ?_
    refine x_lmul (dT U_X11_accepted 32 rfl) ?_
    refine x_ladd (dT U_X11_accepted 33 rfl) ?_
    refine x_invokevirtual (rc' := rc) (rs' := rs) (rc2 := 0) (rs2 := 0) (As := [_]) (st := _) M_X11_f K_X11_156 (dT U_X11_accepted 34 rfl) rfl rfl (by decide) rfl rfl w.c70 (Nat.le_of_ble_eq_true rfl) (by decide) rfl (Nat.le_of_ble_eq_true rfl) rfl (by decide) (Nat.le_of_ble_eq_true rfl) rfl rfl ?_
    refine S_X11_f (w.mp) v.p (by unfold xrl; omega) ?_
    refine xRet_some ?_
    have b1 := modb (z := (σ.R i).fa + (σ.R i).c * (σ.R i).e) (p := (σ.p : Int)) (by omega)
    have b2 := cm_b (p := σ.p) (l := (σ.R i).answer) (b := (σ.R i).t) hp.1
    refine x_icmp_ne (tgt := 106) (dT U_X11_accepted 35 rfl) (by decide) (by unfold xr; omega) (by unfold xr; omega) (fun c53 => ?_) (fun c53 => ?_)
    · skip
      refine x_iconst (dT U_X11_accepted 68 rfl) ?_
      refine x_zreturn (dT U_X11_accepted 69 rfl) rfl (by omega) ?_
      first | exact k0 (fun z => by have := z.1; omega) | exact k0 (fun z => c53 z.2.1) | exact k0 (fun z => c99 z.2.2) | exact k1 ⟨by omega, Decidable.byContradiction (fun z => c53 z), Decidable.byContradiction (fun z => c99 z)⟩ | exact k1 ⟨by omega, c53, c99⟩
    · skip
      refine x_aload_n (dT U_X11_accepted 36 rfl) rfl ?_
      refine x_aload_n (dT U_X11_accepted 37 rfl) rfl ?_
      refine x_getfield F_X11_27 (dT U_X11_accepted 38 rfl) w.c70 (Nat.le_of_ble_eq_true rfl) rfl ?_
      refine x_iload_n (dT U_X11_accepted 39 rfl) rfl ?_
      refine x_aaload (i) (dT U_X11_accepted 40 rfl) w.c84 (Nat.le_of_ble_eq_true rfl) (by decide) rfl (mfL_get (by omega)) (Nat.le_of_ble_eq_true rfl) ?_
      refine x_aload_n (dT U_X11_accepted 41 rfl) rfl ?_
      refine x_getfield F_X11_52 (dT U_X11_accepted 42 rfl) w.c70 (Nat.le_of_ble_eq_true rfl) rfl ?_
      refine x_iload_n (dT U_X11_accepted 43 rfl) rfl ?_
      refine x_aaload (i) (dT U_X11_accepted 44 rfl) w.c102 (Nat.le_of_ble_eq_true rfl) (by decide) rfl (maL_get (by omega)) (Nat.le_of_ble_eq_true rfl) ?_
      refine x_invokevirtual (rc' := rc) (rs' := rs) (rc2 := 0) (rs2 := 0) (As := [_, _]) (st := _) M_X11_product K_X11_185 (dT U_X11_accepted 45 rfl) rfl rfl (by decide) rfl rfl w.c70 (Nat.le_of_ble_eq_true rfl) (by decide) rfl (Nat.le_of_ble_eq_true rfl) rfl (by decide) (Nat.le_of_ble_eq_true rfl) rfl rfl ?_
      refine S_X11_product (w.mp) v.p (w.forms i hi) (by omega) ok.f24 (w.answers i hi) (by omega) ok.a24 ?_
      refine xRet_some ?_
      refine x_aload_n (dT U_X11_accepted 46 rfl) rfl ?_
      refine x_aload_n (dT U_X11_accepted 47 rfl) rfl ?_
      refine x_getfield F_X11_36 (dT U_X11_accepted 48 rfl) w.c70 (Nat.le_of_ble_eq_true rfl) rfl ?_
      refine x_iload_n (dT U_X11_accepted 49 rfl) rfl ?_
      refine x_ialoadv (i) (dT U_X11_accepted 50 rfl) w.c92 (Nat.le_of_ble_eq_true rfl) rfl (show i < 5 by omega) (show 5 < 2147483648 by decide) (show _ = (σ.R i).w from t5_get hi) ?_
      refine x_i2l (dT U_X11_accepted 51 rfl) (by unfold xr; omega) ?_
      refine x_aload_n (dT U_X11_accepted 52 rfl) rfl ?_
      refine x_getfield F_X11_49 (dT U_X11_accepted 53 rfl) w.c70 (Nat.le_of_ble_eq_true rfl) rfl ?_
      refine x_iload_n (dT U_X11_accepted 54 rfl) rfl ?_
      refine x_ialoadv (i) (dT U_X11_accepted 55 rfl) w.c101 (Nat.le_of_ble_eq_true rfl) rfl (show i < 5 by omega) (show 5 < 2147483648 by decide) (show _ = (σ.R i).c from t5_get hi) ?_
      refine x_i2l (dT U_X11_accepted 56 rfl) (by unfold xr; omega) ?_
      refine x_aload_n (dT U_X11_accepted 57 rfl) rfl ?_
      refine x_getfield F_X11_30 (dT U_X11_accepted 58 rfl) w.c70 (Nat.le_of_ble_eq_true rfl) rfl ?_
      refine x_iload_n (dT U_X11_accepted 59 rfl) rfl ?_
      refine x_ialoadv (i) (dT U_X11_accepted 60 rfl) w.c90 (Nat.le_of_ble_eq_true rfl) rfl (show i < 5 by omega) (show 5 < 2147483648 by decide) (show _ = (σ.R i).v from t5_get hi) ?_
      refine x_i2l (dT U_X11_accepted 61 rfl) (by unfold xr; omega) ?_
      refine x_lmul (dT U_X11_accepted 62 rfl) ?_
      refine x_ladd (dT U_X11_accepted 63 rfl) ?_
      refine x_invokevirtual (rc' := rc) (rs' := rs) (rc2 := 0) (rs2 := 0) (As := [_]) (st := _) M_X11_f K_X11_156 (dT U_X11_accepted 64 rfl) rfl rfl (by decide) rfl rfl w.c70 (Nat.le_of_ble_eq_true rfl) (by decide) rfl (Nat.le_of_ble_eq_true rfl) rfl (by decide) (Nat.le_of_ble_eq_true rfl) rfl rfl ?_
      refine S_X11_f (w.mp) v.p (by unfold xrl; omega) ?_
      refine xRet_some ?_
      have b3 := modb (z := (σ.R i).w + (σ.R i).c * (σ.R i).v) (p := (σ.p : Int)) (by omega)
      have b4 := modb (z := inn (σ.R i).form (σ.R i).answer) (p := (σ.p : Int)) (by omega)
      refine x_icmp_ne (tgt := 106) (dT U_X11_accepted 65 rfl) (by decide) (by unfold xr; omega) (by unfold xr; omega) (fun c99 => ?_) (fun c99 => ?_)
      · skip
        refine x_iconst (dT U_X11_accepted 68 rfl) ?_
        refine x_zreturn (dT U_X11_accepted 69 rfl) rfl (by omega) ?_
        first | exact k0 (fun z => by have := z.1; omega) | exact k0 (fun z => c53 z.2.1) | exact k0 (fun z => c99 z.2.2) | exact k1 ⟨by omega, Decidable.byContradiction (fun z => c53 z), Decidable.byContradiction (fun z => c99 z)⟩ | exact k1 ⟨by omega, c53, c99⟩
      · skip
        refine x_iconst (dT U_X11_accepted 66 rfl) ?_
        refine x_goto (tgt := 107) (dT U_X11_accepted 67 rfl) (by decide) ?_
        refine x_zreturn (dT U_X11_accepted 69 rfl) rfl (by omega) ?_
        first | exact k0 (fun z => by have := z.1; omega) | exact k0 (fun z => c53 z.2.1) | exact k0 (fun z => c99 z.2.2) | exact k1 ⟨by omega, Decidable.byContradiction (fun z => c53 z), Decidable.byContradiction (fun z => c99 z)⟩ | exact k1 ⟨by omega, c53, c99⟩

set_option maxRecDepth 20000 in
set_option maxHeartbeats 1000000 in
theorem S_X11_isAccepted {G : xG} {d rc rs : Nat} {ex : Bool} {h : xH} {Q : xQ} {σ : St} {cc0 : Int} {rr : Nat} {ss : Int} {run : Int} (w : MX σ cc0 rr ss h) (v : INV σ) (h_run : xr run) (e1 : ¬ (inb run 4) → ∀ h2 z, Ag 70 142 h h2 → MX σ 1 rr ss h2 → xr z → Q (.inl (some (vi z))) ex h2) (k1 : (inb run 4) → acc σ.p (σ.R run.toNat) → ∀ h2 r2 s2, Ag 70 142 h h2 → MX σ 0 r2 s2 h2 → Q (.inl (some (vi 1))) ex h2) (k0 : (inb run 4) → ¬ acc σ.p (σ.R run.toNat) → ∀ h2 r2 s2, Ag 70 142 h h2 → MX σ 0 r2 s2 h2 → Q (.inl (some (vi 0))) ex h2) : X G m_X11_isAccepted (d + 3) rc rs ex 0 (xe m_X11_isAccepted.2.2.1 [.ref 70, vi run]) [] h Q := by
  show X G m_X11_isAccepted _ _ _ _ 0 [some (.ref 70), some (vi run)] [] h Q
  have hp := PRb v.p
  have hq := gq_b v.p
  refine x_aload_n (dT U_X11_isAccepted 0 rfl) rfl ?_
  refine x_iload_n (dT U_X11_isAccepted 1 rfl) rfl ?_
  refine x_invokestatic (rc' := rc) (rs' := rs) (rc2 := 0) (rs2 := 0) (As := [_]) (st := _) M_X11_isRun K_X11_244 (dT U_X11_isAccepted 2 rfl) rfl rfl rfl rfl (Nat.le_of_ble_eq_true rfl) rfl (by decide) (Nat.le_of_ble_eq_true rfl) rfl rfl ?_
  refine S_X11_isRun h_run (fun q1 => ?_) (fun q1 => ?_)
  · refine xRet_some ?_
    refine x_iconst (dT U_X11_isAccepted 3 rfl) ?_
    refine x_invokevirtual (rc' := rc) (rs' := rs) (rc2 := 0) (rs2 := 0) (As := [_, _]) (st := _) M_X11_lets K_X11_167 (dT U_X11_isAccepted 4 rfl) rfl rfl (by decide) rfl rfl w.c70 (Nat.le_of_ble_eq_true rfl) (by decide) rfl (Nat.le_of_ble_eq_true rfl) rfl (by decide) (Nat.le_of_ble_eq_true rfl) rfl rfl ?_
    refine S_X11_lets1 w (fun h1 g1 w1 => ?_)
    refine xRet_some ?_
    obtain ⟨i, hi, rfl⟩ : ∃ j : Nat, j < 4 ∧ run = (j : Int) := ⟨run.toNat, by omega, by omega⟩
    try simp only [tnc] at e1 k1 k0
    refine x_if_eqn (tgt := 24) (dT U_X11_isAccepted 5 rfl) (by decide) (by decide) ?_
    refine x_aload_n (dT U_X11_isAccepted 6 rfl) rfl ?_
    refine x_iload_n (dT U_X11_isAccepted 7 rfl) rfl ?_
    refine x_invokevirtual (rc' := rc) (rs' := rs) (rc2 := 0) (rs2 := 0) (As := [_]) (st := _) M_X11_accepted K_X11_254 (dT U_X11_isAccepted 8 rfl) rfl rfl (by decide) rfl rfl w1.c70 (Nat.le_of_ble_eq_true rfl) (by decide) rfl (Nat.le_of_ble_eq_true rfl) rfl (by decide) (Nat.le_of_ble_eq_true rfl) rfl rfl ?_
    refine S_X11_accepted w1 v hi (fun ai => ?_) (fun ai => ?_)
    · refine xRet_some ?_
      refine x_if_eqn (tgt := 24) (dT U_X11_isAccepted 9 rfl) (by decide) (by decide) ?_
      refine x_iconst (dT U_X11_isAccepted 10 rfl) ?_
      refine x_goto (tgt := 25) (dT U_X11_isAccepted 11 rfl) (by decide) ?_
      refine x_zreturn (dT U_X11_isAccepted 13 rfl) rfl (by omega) ?_
      first | exact k1 (by omega) ai _ _ _ (Ag.tr (Ag.rf 70 142 h) (g1.w (by omega))) w1 | exact k0 (by omega) ai _ _ _ (Ag.tr (Ag.rf 70 142 h) (g1.w (by omega))) w1
    · refine xRet_some ?_
      refine x_if_eqj (tgt := 24) (dT U_X11_isAccepted 9 rfl) (by decide) (by decide) ?_
      refine x_iconst (dT U_X11_isAccepted 12 rfl) ?_
      refine x_zreturn (dT U_X11_isAccepted 13 rfl) rfl (by omega) ?_
      first | exact k1 (by omega) ai _ _ _ (Ag.tr (Ag.rf 70 142 h) (g1.w (by omega))) w1 | exact k0 (by omega) ai _ _ _ (Ag.tr (Ag.rf 70 142 h) (g1.w (by omega))) w1
  · refine xRet_some ?_
    refine x_iconst (dT U_X11_isAccepted 3 rfl) ?_
    refine x_invokevirtual (rc' := rc) (rs' := rs) (rc2 := 0) (rs2 := 0) (As := [_, _]) (st := _) M_X11_lets K_X11_167 (dT U_X11_isAccepted 4 rfl) rfl rfl (by decide) rfl rfl w.c70 (Nat.le_of_ble_eq_true rfl) (by decide) rfl (Nat.le_of_ble_eq_true rfl) rfl (by decide) (Nat.le_of_ble_eq_true rfl) rfl rfl ?_
    refine S_X11_lets0 w (fun h1 g1 w1 => ?_)
    refine xRet_some ?_
    refine x_if_eqj (tgt := 24) (dT U_X11_isAccepted 5 rfl) (by decide) (by decide) ?_
    refine x_iconst (dT U_X11_isAccepted 12 rfl) ?_
    refine x_zreturn (dT U_X11_isAccepted 13 rfl) rfl (by omega) ?_
    exact e1 (by omega) _ _ (Ag.tr (Ag.rf 70 142 h) (g1.w (by omega))) w1 (by unfold xr; omega)

set_option maxRecDepth 20000 in
set_option maxHeartbeats 1000000 in
theorem S_X11_tell {G : xG} {d rc rs : Nat} {ex : Bool} {h : xH} {Q : xQ} {σ : St} {cc0 : Int} {rr : Nat} {ss : Int} {run answer t : Int} (w : MX σ cc0 rr ss h) (v : INV σ) (h_run : xr run) (h_answer : xr answer) (h_t : xr t) (e1 : ¬ (inb run 4 ∧ inb answer 8) → ∀ h2 z, Ag 70 142 h h2 → MX σ 1 rr ss h2 → xr z → Q (.inl (some (vi z))) ex h2) (e2 : (inb run 4 ∧ inb answer 8) → ¬ (inb t σ.p) → ∀ h2 z, Ag 70 142 h h2 → MX σ 2 rr ss h2 → xr z → Q (.inl (some (vi z))) ex h2) (e3 : (inb run 4 ∧ inb answer 8) → (inb t σ.p) → ¬ ((σ.R run.toNat).st = 3) → ∀ h2 z, Ag 70 142 h h2 → MX σ 3 rr ss h2 → xr z → Q (.inl (some (vi z))) ex h2) (k : (inb run 4 ∧ inb answer 8) → (inb t σ.p) → ((σ.R run.toNat).st = 3) → ∀ h2 r2 s2, Ag 70 142 h h2 → MX (σ.sRun run.toNat (rTell (σ.R run.toNat) (σ.rw answer.toNat) t)) 0 r2 s2 h2 → Q (.inl (some (vi (t)))) ex h2) : X G m_X11_tell (d + 2) rc rs ex 0 (xe m_X11_tell.2.2.1 [.ref 70, vi run, vi answer, vi t]) [] h Q := by
  show X G m_X11_tell _ _ _ _ 0 [some (.ref 70), some (vi run), some (vi answer), some (vi t)] [] h Q
  have hp := PRb v.p
  have hq := gq_b v.p
  refine x_aload_n (dT U_X11_tell 0 rfl) rfl ?_
  refine x_iload_n (dT U_X11_tell 1 rfl) rfl ?_
  refine x_invokestatic (rc' := rc) (rs' := rs) (rc2 := 0) (rs2 := 0) (As := [_]) (st := _) M_X11_isRun K_X11_244 (dT U_X11_tell 2 rfl) rfl rfl rfl rfl (Nat.le_of_ble_eq_true rfl) rfl (by decide) (Nat.le_of_ble_eq_true rfl) rfl rfl ?_
  refine S_X11_isRun h_run (fun q1 => ?_) (fun q1 => ?_)
  · refine xRet_some ?_
    refine x_if_eqn (tgt := 19) (dT U_X11_tell 3 rfl) (by decide) (by decide) ?_
    refine x_iload_n (dT U_X11_tell 4 rfl) rfl ?_
    refine x_invokestatic (rc' := rc) (rs' := rs) (rc2 := 0) (rs2 := 0) (As := [_]) (st := _) M_X11_isRow K_X11_164 (dT U_X11_tell 5 rfl) rfl rfl rfl rfl (Nat.le_of_ble_eq_true rfl) rfl (by decide) (Nat.le_of_ble_eq_true rfl) rfl rfl ?_
    refine S_X11_isRow h_answer (fun q2 => ?_) (fun q2 => ?_)
    · refine xRet_some ?_
      refine x_if_eqn (tgt := 19) (dT U_X11_tell 6 rfl) (by decide) (by decide) ?_
      refine x_iconst (dT U_X11_tell 7 rfl) ?_
      refine x_goto (tgt := 20) (dT U_X11_tell 8 rfl) (by decide) ?_
      refine x_iconst (dT U_X11_tell 10 rfl) ?_
      refine x_invokevirtual (rc' := rc) (rs' := rs) (rc2 := 0) (rs2 := 0) (As := [_, _]) (st := _) M_X11_lets K_X11_167 (dT U_X11_tell 11 rfl) rfl rfl (by decide) rfl rfl w.c70 (Nat.le_of_ble_eq_true rfl) (by decide) rfl (Nat.le_of_ble_eq_true rfl) rfl (by decide) (Nat.le_of_ble_eq_true rfl) rfl rfl ?_
      refine S_X11_lets1 w (fun h1 g1 w1 => ?_)
      refine xRet_some ?_
      obtain ⟨i, hi, rfl⟩ : ∃ j : Nat, j < 4 ∧ run = (j : Int) := ⟨run.toNat, by omega, by omega⟩
      try simp only [tnc] at e1 e2 e3 k
      obtain ⟨j, hj, rfl⟩ : ∃ j : Nat, j < 8 ∧ answer = (j : Int) := ⟨answer.toNat, by omega, by omega⟩
      try simp only [tnc] at e1 e2 e3 k
      refine x_if_eqn (tgt := 63) (dT U_X11_tell 12 rfl) (by decide) (by decide) ?_
      refine x_aload_n (dT U_X11_tell 13 rfl) rfl ?_
      refine x_aload_n (dT U_X11_tell 14 rfl) rfl ?_
      refine x_iload_n (dT U_X11_tell 15 rfl) rfl ?_
      refine x_invokevirtual (rc' := rc) (rs' := rs) (rc2 := 0) (rs2 := 0) (As := [_]) (st := _) M_X11_isNumber K_X11_174 (dT U_X11_tell 16 rfl) rfl rfl (by decide) rfl rfl w1.c70 (Nat.le_of_ble_eq_true rfl) (by decide) rfl (Nat.le_of_ble_eq_true rfl) rfl (by decide) (Nat.le_of_ble_eq_true rfl) rfl rfl ?_
      refine S_X11_isNumber (w1.mp) v.p h_t (fun q3 => ?_) (fun q3 => ?_)
      · refine xRet_some ?_
        refine x_iconst (dT U_X11_tell 17 rfl) ?_
        refine x_invokevirtual (rc' := rc) (rs' := rs) (rc2 := 0) (rs2 := 0) (As := [_, _]) (st := _) M_X11_lets K_X11_167 (dT U_X11_tell 18 rfl) rfl rfl (by decide) rfl rfl w1.c70 (Nat.le_of_ble_eq_true rfl) (by decide) rfl (Nat.le_of_ble_eq_true rfl) rfl (by decide) (Nat.le_of_ble_eq_true rfl) rfl rfl ?_
        refine S_X11_lets1 w1 (fun h2 g2 w2 => ?_)
        refine xRet_some ?_
        refine x_if_eqn (tgt := 63) (dT U_X11_tell 19 rfl) (by decide) (by decide) ?_
        refine x_aload_n (dT U_X11_tell 20 rfl) rfl ?_
        refine x_aload_n (dT U_X11_tell 21 rfl) rfl ?_
        refine x_getfield F_X11_21 (dT U_X11_tell 22 rfl) w2.c70 (Nat.le_of_ble_eq_true rfl) rfl ?_
        refine x_iload_n (dT U_X11_tell 23 rfl) rfl ?_
        refine x_ialoadv (i) (dT U_X11_tell 24 rfl) w2.c82 (Nat.le_of_ble_eq_true rfl) rfl (show i < 5 by omega) (show 5 < 2147483648 by decide) (show _ = ((σ.R i).st : Int) from t5_get hi) ?_
        refine x_iconst (dT U_X11_tell 25 rfl) ?_
        have s4i := (v.R i hi).1.s4
        refine x_icmp_ne (tgt := 55) (dT U_X11_tell 26 rfl) (by decide) (by unfold xr; omega) (by unfold xr; omega) (fun c48 => ?_) (fun c48 => ?_)
        · skip
          refine x_iconst (dT U_X11_tell 29 rfl) ?_
          refine x_iconst (dT U_X11_tell 30 rfl) ?_
          refine x_invokevirtual (rc' := rc) (rs' := rs) (rc2 := 0) (rs2 := 0) (As := [_, _]) (st := _) M_X11_lets K_X11_167 (dT U_X11_tell 31 rfl) rfl rfl (by decide) rfl rfl w2.c70 (Nat.le_of_ble_eq_true rfl) (by decide) rfl (Nat.le_of_ble_eq_true rfl) rfl (by decide) (Nat.le_of_ble_eq_true rfl) rfl rfl ?_
          refine S_X11_lets0 w2 (fun h3 g3 w3 => ?_)
          refine xRet_some ?_
          refine x_if_nen (tgt := 65) (dT U_X11_tell 32 rfl) (by decide) (by decide) ?_
          refine x_iconst (dT U_X11_tell 33 rfl) ?_
          refine x_ireturn (dT U_X11_tell 34 rfl) rfl ?_
          exact e3 (by omega) (by omega) (by omega) _ _ (Ag.tr (Ag.tr (Ag.tr (Ag.rf 70 142 h) (g1.w (by omega))) (g2.w (by omega))) (g3.w (by omega))) w3 (by unfold xr; omega)
        · skip
          refine x_iconst (dT U_X11_tell 27 rfl) ?_
          refine x_goto (tgt := 56) (dT U_X11_tell 28 rfl) (by decide) ?_
          refine x_iconst (dT U_X11_tell 30 rfl) ?_
          refine x_invokevirtual (rc' := rc) (rs' := rs) (rc2 := 0) (rs2 := 0) (As := [_, _]) (st := _) M_X11_lets K_X11_167 (dT U_X11_tell 31 rfl) rfl rfl (by decide) rfl rfl w2.c70 (Nat.le_of_ble_eq_true rfl) (by decide) rfl (Nat.le_of_ble_eq_true rfl) rfl (by decide) (Nat.le_of_ble_eq_true rfl) rfl rfl ?_
          refine S_X11_lets1 w2 (fun h3 g3 w3 => ?_)
          refine xRet_some ?_
          refine x_if_nej (tgt := 65) (dT U_X11_tell 32 rfl) (by decide) (by decide) ?_
          refine x_aload_n (dT U_X11_tell 35 rfl) rfl ?_
          refine x_getfield F_X11_52 (dT U_X11_tell 36 rfl) w3.c70 (Nat.le_of_ble_eq_true rfl) rfl ?_
          refine x_iload_n (dT U_X11_tell 37 rfl) rfl ?_
          refine x_aaload (i) (dT U_X11_tell 38 rfl) w3.c102 (Nat.le_of_ble_eq_true rfl) (by decide) rfl (maL_get (by omega)) (Nat.le_of_ble_eq_true rfl) ?_
          refine x_aload_n (dT U_X11_tell 39 rfl) rfl ?_
          refine x_getfield F_X11_18 (dT U_X11_tell 40 rfl) w3.c70 (Nat.le_of_ble_eq_true rfl) rfl ?_
          refine x_iload_n (dT U_X11_tell 41 rfl) rfl ?_
          refine x_aaload (j) (dT U_X11_tell 42 rfl) w3.c73 (Nat.le_of_ble_eq_true rfl) (by decide) rfl (mrL_get (by omega)) (Nat.le_of_ble_eq_true rfl) ?_
          refine x_invokestatic (rc' := rc) (rs' := rs) (rc2 := 0) (rs2 := 0) (As := [_, _]) (st := _) M_X11_becomes K_X11_189 (dT U_X11_tell 43 rfl) rfl rfl rfl rfl (Nat.le_of_ble_eq_true rfl) rfl (by decide) (Nat.le_of_ble_eq_true rfl) rfl rfl ?_
          refine S_becomes8 (w3.answers i hi) (by omega) (v.R i hi).1.a24.1 (w3.rows j hj) (by omega) (v.rw j hj).1 ?_
          refine xRet_none ?_
          refine x_aload_n (dT U_X11_tell 44 rfl) rfl ?_
          refine x_getfield F_X11_55 (dT U_X11_tell 45 rfl) (hset_ne (by omega) (w3.c70)) (Nat.le_of_ble_eq_true rfl) rfl ?_
          refine x_iload_n (dT U_X11_tell 46 rfl) rfl ?_
          refine x_iload_n (dT U_X11_tell 47 rfl) rfl ?_
          refine x_iastore (i) (dT U_X11_tell 48 rfl) (hset_ne (by omega) (w3.c108)) (Nat.le_of_ble_eq_true rfl) rfl (show i < 5 by omega) (show 5 < 2147483648 by decide) ?_
          refine x_aload_n (dT U_X11_tell 49 rfl) rfl ?_
          refine x_getfield F_X11_21 (dT U_X11_tell 50 rfl) (hset_ne (by omega) (hset_ne (by omega) (w3.c70))) (Nat.le_of_ble_eq_true rfl) rfl ?_
          refine x_iload_n (dT U_X11_tell 51 rfl) rfl ?_
          refine x_iconst (dT U_X11_tell 52 rfl) ?_
          refine x_iastore (i) (dT U_X11_tell 53 rfl) (hset_ne (by omega) (hset_ne (by omega) (w3.c82))) (Nat.le_of_ble_eq_true rfl) rfl (show i < 5 by omega) (show 5 < 2147483648 by decide) ?_
          refine x_iload_n (dT U_X11_tell 54 rfl) rfl ?_
          refine x_ireturn (dT U_X11_tell 55 rfl) rfl ?_
          exact k (by omega) (by omega) (by omega) _ _ _ ((((Ag.tr (Ag.tr (Ag.tr (Ag.rf 70 142 h) (g1.w (by omega))) (g2.w (by omega))) (g3.w (by omega))).set (by omega)).set (by omega)).set (by omega)) (w3.run (i := i) (R := rTell (σ.R i) (σ.rw j) t) (fun a ha => by rw [hset_fr (by omega), hset_fr (by omega), hset_fr (by omega)]) hi (c5 (R' := rTell (σ.R i) (σ.rw j) t) gST hi (hset_eq (hset_ne (by omega) (hset_ne (by omega) (w3.c82))))) (k5 (R' := rTell (σ.R i) (σ.rw j) t) RS.e rfl (hset_ne (by omega) (hset_ne (by omega) (hset_ne (by omega) (w3.c83))))) (k5 (R' := rTell (σ.R i) (σ.rw j) t) RS.v rfl (hset_ne (by omega) (hset_ne (by omega) (hset_ne (by omega) (w3.c90))))) (k5 (R' := rTell (σ.R i) (σ.rw j) t) RS.fa rfl (hset_ne (by omega) (hset_ne (by omega) (hset_ne (by omega) (w3.c91))))) (k5 (R' := rTell (σ.R i) (σ.rw j) t) RS.w rfl (hset_ne (by omega) (hset_ne (by omega) (hset_ne (by omega) (w3.c92))))) (k5 (R' := rTell (σ.R i) (σ.rw j) t) gMK rfl (hset_ne (by omega) (hset_ne (by omega) (hset_ne (by omega) (w3.c93))))) (k5 (R' := rTell (σ.R i) (σ.rw j) t) RS.mb rfl (hset_ne (by omega) (hset_ne (by omega) (hset_ne (by omega) (w3.c100))))) (k5 (R' := rTell (σ.R i) (σ.rw j) t) RS.c rfl (hset_ne (by omega) (hset_ne (by omega) (hset_ne (by omega) (w3.c101))))) (c5 (R' := rTell (σ.R i) (σ.rw j) t) RS.t hi (hset_ne (by omega) (hset_eq (hset_ne (by omega) (w3.c108))))) (hset_ne (by omega) (hset_ne (by omega) (hset_ne (by omega) (w3.forms i hi)))) (hset_ne (by omega) (hset_ne (by omega) (hset_ne (by omega) (w3.masks i hi)))) (hset_ne (by omega) (hset_ne (by omega) (hset_eq (w3.answers i hi)))) (Exists.elim w3.s89 (fun l q => ⟨l, (hset_ne (by omega) (hset_ne (by omega) (hset_ne (by omega) (q.1)))), q.2⟩)))
      · refine xRet_some ?_
        refine x_iconst (dT U_X11_tell 17 rfl) ?_
        refine x_invokevirtual (rc' := rc) (rs' := rs) (rc2 := 0) (rs2 := 0) (As := [_, _]) (st := _) M_X11_lets K_X11_167 (dT U_X11_tell 18 rfl) rfl rfl (by decide) rfl rfl w1.c70 (Nat.le_of_ble_eq_true rfl) (by decide) rfl (Nat.le_of_ble_eq_true rfl) rfl (by decide) (Nat.le_of_ble_eq_true rfl) rfl rfl ?_
        refine S_X11_lets0 w1 (fun h2 g2 w2 => ?_)
        refine xRet_some ?_
        refine x_if_eqj (tgt := 63) (dT U_X11_tell 19 rfl) (by decide) (by decide) ?_
        refine x_iconst (dT U_X11_tell 33 rfl) ?_
        refine x_ireturn (dT U_X11_tell 34 rfl) rfl ?_
        exact e2 (by omega) (by omega) _ _ (Ag.tr (Ag.tr (Ag.rf 70 142 h) (g1.w (by omega))) (g2.w (by omega))) w2 (by unfold xr; omega)
    · refine xRet_some ?_
      refine x_if_eqj (tgt := 19) (dT U_X11_tell 6 rfl) (by decide) (by decide) ?_
      refine x_iconst (dT U_X11_tell 9 rfl) ?_
      refine x_iconst (dT U_X11_tell 10 rfl) ?_
      refine x_invokevirtual (rc' := rc) (rs' := rs) (rc2 := 0) (rs2 := 0) (As := [_, _]) (st := _) M_X11_lets K_X11_167 (dT U_X11_tell 11 rfl) rfl rfl (by decide) rfl rfl w.c70 (Nat.le_of_ble_eq_true rfl) (by decide) rfl (Nat.le_of_ble_eq_true rfl) rfl (by decide) (Nat.le_of_ble_eq_true rfl) rfl rfl ?_
      refine S_X11_lets0 w (fun h1 g1 w1 => ?_)
      refine xRet_some ?_
      refine x_if_eqj (tgt := 63) (dT U_X11_tell 12 rfl) (by decide) (by decide) ?_
      refine x_iconst (dT U_X11_tell 33 rfl) ?_
      refine x_ireturn (dT U_X11_tell 34 rfl) rfl ?_
      exact e1 (by omega) _ _ (Ag.tr (Ag.rf 70 142 h) (g1.w (by omega))) w1 (by unfold xr; omega)
  · refine xRet_some ?_
    refine x_if_eqj (tgt := 19) (dT U_X11_tell 3 rfl) (by decide) (by decide) ?_
    refine x_iconst (dT U_X11_tell 9 rfl) ?_
    refine x_iconst (dT U_X11_tell 10 rfl) ?_
    refine x_invokevirtual (rc' := rc) (rs' := rs) (rc2 := 0) (rs2 := 0) (As := [_, _]) (st := _) M_X11_lets K_X11_167 (dT U_X11_tell 11 rfl) rfl rfl (by decide) rfl rfl w.c70 (Nat.le_of_ble_eq_true rfl) (by decide) rfl (Nat.le_of_ble_eq_true rfl) rfl (by decide) (Nat.le_of_ble_eq_true rfl) rfl rfl ?_
    refine S_X11_lets0 w (fun h1 g1 w1 => ?_)
    refine xRet_some ?_
    refine x_if_eqj (tgt := 63) (dT U_X11_tell 12 rfl) (by decide) (by decide) ?_
    refine x_iconst (dT U_X11_tell 33 rfl) ?_
    refine x_ireturn (dT U_X11_tell 34 rfl) rfl ?_
    exact e1 (by omega) _ _ (Ag.tr (Ag.rf 70 142 h) (g1.w (by omega))) w1 (by unfold xr; omega)

set_option maxRecDepth 20000 in
set_option maxHeartbeats 1000000 in
theorem S_X11_simulate {G : xG} {d rc rs : Nat} {ex : Bool} {h : xH} {Q : xQ} {σ : St} {cc0 : Int} {rr : Nat} {ss : Int} {run c answer t : Int} (w : MX σ cc0 rr ss h) (v : INV σ) (h_run : xr run) (h_c : xr c) (h_answer : xr answer) (h_t : xr t) (e1 : ¬ (inb run 4 ∧ inb answer 8) → ∀ h2 z, Ag 70 142 h h2 → MX σ 1 rr ss h2 → xr z → Q (.inl (some (vi z))) ex h2) (e2 : (inb run 4 ∧ inb answer 8) → ¬ (inb c σ.p ∧ inb t σ.p) → ∀ h2 z, Ag 70 142 h h2 → MX σ 2 rr ss h2 → xr z → Q (.inl (some (vi z))) ex h2) (e3 : (inb run 4 ∧ inb answer 8) → (inb c σ.p ∧ inb t σ.p) → ¬ ((σ.R run.toNat).st = 1) → ∀ h2 z, Ag 70 142 h h2 → MX σ 3 rr ss h2 → xr z → Q (.inl (some (vi z))) ex h2) (k : (inb run 4 ∧ inb answer 8) → (inb c σ.p ∧ inb t σ.p) → ((σ.R run.toNat).st = 1) → ∀ h2 r2 s2, Ag 70 142 h h2 → MX (σ.sRun run.toNat (rSim σ.p (σ.R run.toNat) c (σ.rw answer.toNat) t)) 0 r2 s2 h2 → Q (.inl (some (vi (MM σ.p ((cm σ.p (σ.rw answer.toNat) t - c * (σ.R run.toNat).e) % (σ.p : Int)))))) ex h2) : X G m_X11_simulate (d + 2) rc rs ex 0 (xe m_X11_simulate.2.2.1 [.ref 70, vi run, vi c, vi answer, vi t]) [] h Q := by
  show X G m_X11_simulate _ _ _ _ 0 [some (.ref 70), some (vi run), some (vi c), some (vi answer), some (vi t)] [] h Q
  have hp := PRb v.p
  have hq := gq_b v.p
  refine x_aload_n (dT U_X11_simulate 0 rfl) rfl ?_
  refine x_iload_n (dT U_X11_simulate 1 rfl) rfl ?_
  refine x_invokestatic (rc' := rc) (rs' := rs) (rc2 := 0) (rs2 := 0) (As := [_]) (st := _) M_X11_isRun K_X11_244 (dT U_X11_simulate 2 rfl) rfl rfl rfl rfl (Nat.le_of_ble_eq_true rfl) rfl (by decide) (Nat.le_of_ble_eq_true rfl) rfl rfl ?_
  refine S_X11_isRun h_run (fun q1 => ?_) (fun q1 => ?_)
  · refine xRet_some ?_
    refine x_if_eqn (tgt := 19) (dT U_X11_simulate 3 rfl) (by decide) (by decide) ?_
    refine x_iload_n (dT U_X11_simulate 4 rfl) rfl ?_
    refine x_invokestatic (rc' := rc) (rs' := rs) (rc2 := 0) (rs2 := 0) (As := [_]) (st := _) M_X11_isRow K_X11_164 (dT U_X11_simulate 5 rfl) rfl rfl rfl rfl (Nat.le_of_ble_eq_true rfl) rfl (by decide) (Nat.le_of_ble_eq_true rfl) rfl rfl ?_
    refine S_X11_isRow h_answer (fun q2 => ?_) (fun q2 => ?_)
    · refine xRet_some ?_
      refine x_if_eqn (tgt := 19) (dT U_X11_simulate 6 rfl) (by decide) (by decide) ?_
      refine x_iconst (dT U_X11_simulate 7 rfl) ?_
      refine x_goto (tgt := 20) (dT U_X11_simulate 8 rfl) (by decide) ?_
      refine x_iconst (dT U_X11_simulate 10 rfl) ?_
      refine x_invokevirtual (rc' := rc) (rs' := rs) (rc2 := 0) (rs2 := 0) (As := [_, _]) (st := _) M_X11_lets K_X11_167 (dT U_X11_simulate 11 rfl) rfl rfl (by decide) rfl rfl w.c70 (Nat.le_of_ble_eq_true rfl) (by decide) rfl (Nat.le_of_ble_eq_true rfl) rfl (by decide) (Nat.le_of_ble_eq_true rfl) rfl rfl ?_
      refine S_X11_lets1 w (fun h1 g1 w1 => ?_)
      refine xRet_some ?_
      obtain ⟨i, hi, rfl⟩ : ∃ j : Nat, j < 4 ∧ run = (j : Int) := ⟨run.toNat, by omega, by omega⟩
      try simp only [tnc] at e1 e2 e3 k
      obtain ⟨j, hj, rfl⟩ : ∃ j : Nat, j < 8 ∧ answer = (j : Int) := ⟨answer.toNat, by omega, by omega⟩
      try simp only [tnc] at e1 e2 e3 k
      refine x_if_eqn (tgt := 80) (dT U_X11_simulate 12 rfl) (by decide) (by decide) ?_
      refine x_aload_n (dT U_X11_simulate 13 rfl) rfl ?_
      refine x_aload_n (dT U_X11_simulate 14 rfl) rfl ?_
      refine x_iload_n (dT U_X11_simulate 15 rfl) rfl ?_
      refine x_invokevirtual (rc' := rc) (rs' := rs) (rc2 := 0) (rs2 := 0) (As := [_]) (st := _) M_X11_isNumber K_X11_174 (dT U_X11_simulate 16 rfl) rfl rfl (by decide) rfl rfl w1.c70 (Nat.le_of_ble_eq_true rfl) (by decide) rfl (Nat.le_of_ble_eq_true rfl) rfl (by decide) (Nat.le_of_ble_eq_true rfl) rfl rfl ?_
      refine S_X11_isNumber (w1.mp) v.p h_c (fun q3 => ?_) (fun q3 => ?_)
      · refine xRet_some ?_
        refine x_if_eqn (tgt := 49) (dT U_X11_simulate 17 rfl) (by decide) (by decide) ?_
        refine x_aload_n (dT U_X11_simulate 18 rfl) rfl ?_
        refine x_iload (dT U_X11_simulate 19 rfl) rfl ?_
        refine x_invokevirtual (rc' := rc) (rs' := rs) (rc2 := 0) (rs2 := 0) (As := [_]) (st := _) M_X11_isNumber K_X11_174 (dT U_X11_simulate 20 rfl) rfl rfl (by decide) rfl rfl w1.c70 (Nat.le_of_ble_eq_true rfl) (by decide) rfl (Nat.le_of_ble_eq_true rfl) rfl (by decide) (Nat.le_of_ble_eq_true rfl) rfl rfl ?_
        refine S_X11_isNumber (w1.mp) v.p h_t (fun q4 => ?_) (fun q4 => ?_)
        · refine xRet_some ?_
          refine x_if_eqn (tgt := 49) (dT U_X11_simulate 21 rfl) (by decide) (by decide) ?_
          refine x_iconst (dT U_X11_simulate 22 rfl) ?_
          refine x_goto (tgt := 50) (dT U_X11_simulate 23 rfl) (by decide) ?_
          refine x_iconst (dT U_X11_simulate 25 rfl) ?_
          refine x_invokevirtual (rc' := rc) (rs' := rs) (rc2 := 0) (rs2 := 0) (As := [_, _]) (st := _) M_X11_lets K_X11_167 (dT U_X11_simulate 26 rfl) rfl rfl (by decide) rfl rfl w1.c70 (Nat.le_of_ble_eq_true rfl) (by decide) rfl (Nat.le_of_ble_eq_true rfl) rfl (by decide) (Nat.le_of_ble_eq_true rfl) rfl rfl ?_
          refine S_X11_lets1 w1 (fun h2 g2 w2 => ?_)
          refine xRet_some ?_
          refine x_if_eqn (tgt := 80) (dT U_X11_simulate 27 rfl) (by decide) (by decide) ?_
          refine x_aload_n (dT U_X11_simulate 28 rfl) rfl ?_
          refine x_aload_n (dT U_X11_simulate 29 rfl) rfl ?_
          refine x_getfield F_X11_21 (dT U_X11_simulate 30 rfl) w2.c70 (Nat.le_of_ble_eq_true rfl) rfl ?_
          refine x_iload_n (dT U_X11_simulate 31 rfl) rfl ?_
          refine x_ialoadv (i) (dT U_X11_simulate 32 rfl) w2.c82 (Nat.le_of_ble_eq_true rfl) rfl (show i < 5 by omega) (show 5 < 2147483648 by decide) (show _ = ((σ.R i).st : Int) from t5_get hi) ?_
          refine x_iconst (dT U_X11_simulate 33 rfl) ?_
          have s4i := (v.R i hi).1.s4
          refine x_icmp_ne (tgt := 72) (dT U_X11_simulate 34 rfl) (by decide) (by unfold xr; omega) (by unfold xr; omega) (fun c65 => ?_) (fun c65 => ?_)
          · skip
            refine x_iconst (dT U_X11_simulate 37 rfl) ?_
            refine x_iconst (dT U_X11_simulate 38 rfl) ?_
            refine x_invokevirtual (rc' := rc) (rs' := rs) (rc2 := 0) (rs2 := 0) (As := [_, _]) (st := _) M_X11_lets K_X11_167 (dT U_X11_simulate 39 rfl) rfl rfl (by decide) rfl rfl w2.c70 (Nat.le_of_ble_eq_true rfl) (by decide) rfl (Nat.le_of_ble_eq_true rfl) rfl (by decide) (Nat.le_of_ble_eq_true rfl) rfl rfl ?_
            refine S_X11_lets0 w2 (fun h3 g3 w3 => ?_)
            refine xRet_some ?_
            refine x_if_nen (tgt := 82) (dT U_X11_simulate 40 rfl) (by decide) (by decide) ?_
            refine x_iconst (dT U_X11_simulate 41 rfl) ?_
            refine x_ireturn (dT U_X11_simulate 42 rfl) rfl ?_
            exact e3 (by omega) (by omega) (by omega) _ _ (Ag.tr (Ag.tr (Ag.tr (Ag.rf 70 142 h) (g1.w (by omega))) (g2.w (by omega))) (g3.w (by omega))) w3 (by unfold xr; omega)
          · skip
            refine x_iconst (dT U_X11_simulate 35 rfl) ?_
            refine x_goto (tgt := 73) (dT U_X11_simulate 36 rfl) (by decide) ?_
            refine x_iconst (dT U_X11_simulate 38 rfl) ?_
            refine x_invokevirtual (rc' := rc) (rs' := rs) (rc2 := 0) (rs2 := 0) (As := [_, _]) (st := _) M_X11_lets K_X11_167 (dT U_X11_simulate 39 rfl) rfl rfl (by decide) rfl rfl w2.c70 (Nat.le_of_ble_eq_true rfl) (by decide) rfl (Nat.le_of_ble_eq_true rfl) rfl (by decide) (Nat.le_of_ble_eq_true rfl) rfl rfl ?_
            refine S_X11_lets1 w2 (fun h3 g3 w3 => ?_)
            refine xRet_some ?_
            refine x_if_nej (tgt := 82) (dT U_X11_simulate 40 rfl) (by decide) (by decide) ?_
            have zb := modb (z := cm σ.p (σ.rw j) t - c * (σ.R i).e) (p := (σ.p : Int)) (by omega)
            have ok := (v.R i hi).1
            have se := ok.e (by omega)
            have sv := ok.v (by omega)
            have cb := cm_b (p := σ.p) (l := σ.rw j) (b := t) hp.1
            have m1 := mulb (a := c) (b := (σ.R i).e) (p := (σ.p : Int)) (by omega) se (by omega)
            have m2 := mulb (a := c) (b := (σ.R i).v) (p := (σ.p : Int)) (by omega) sv (by omega)
            refine x_aload_n (dT U_X11_simulate 43 rfl) rfl ?_
            refine x_getfield F_X11_52 (dT U_X11_simulate 44 rfl) w3.c70 (Nat.le_of_ble_eq_true rfl) rfl ?_
            refine x_iload_n (dT U_X11_simulate 45 rfl) rfl ?_
            refine x_aaload (i) (dT U_X11_simulate 46 rfl) w3.c102 (Nat.le_of_ble_eq_true rfl) (by decide) rfl (maL_get (by omega)) (Nat.le_of_ble_eq_true rfl) ?_
            refine x_aload_n (dT U_X11_simulate 47 rfl) rfl ?_
            refine x_getfield F_X11_18 (dT U_X11_simulate 48 rfl) w3.c70 (Nat.le_of_ble_eq_true rfl) rfl ?_
            refine x_iload_n (dT U_X11_simulate 49 rfl) rfl ?_
            refine x_aaload (j) (dT U_X11_simulate 50 rfl) w3.c73 (Nat.le_of_ble_eq_true rfl) (by decide) rfl (mrL_get (by omega)) (Nat.le_of_ble_eq_true rfl) ?_
            refine x_invokestatic (rc' := rc) (rs' := rs) (rc2 := 0) (rs2 := 0) (As := [_, _]) (st := _) M_X11_becomes K_X11_189 (dT U_X11_simulate 51 rfl) rfl rfl rfl rfl (Nat.le_of_ble_eq_true rfl) rfl (by decide) (Nat.le_of_ble_eq_true rfl) rfl rfl ?_
            refine S_becomes8 (w3.answers i hi) (by omega) (v.R i hi).1.a24.1 (w3.rows j hj) (by omega) (v.rw j hj).1 ?_
            refine xRet_none ?_
            refine x_aload_n (dT U_X11_simulate 52 rfl) rfl ?_
            refine x_getfield F_X11_55 (dT U_X11_simulate 53 rfl) (hset_ne (by omega) (w3.c70)) (Nat.le_of_ble_eq_true rfl) rfl ?_
            refine x_iload_n (dT U_X11_simulate 54 rfl) rfl ?_
            refine x_iload (dT U_X11_simulate 55 rfl) rfl ?_
            refine x_iastore (i) (dT U_X11_simulate 56 rfl) (hset_ne (by omega) (w3.c108)) (Nat.le_of_ble_eq_true rfl) rfl (show i < 5 by omega) (show 5 < 2147483648 by decide) ?_
            refine x_aload_n (dT U_X11_simulate 57 rfl) rfl ?_
            refine x_getfield F_X11_49 (dT U_X11_simulate 58 rfl) (hset_ne (by omega) (hset_ne (by omega) (w3.c70))) (Nat.le_of_ble_eq_true rfl) rfl ?_
            refine x_iload_n (dT U_X11_simulate 59 rfl) rfl ?_
            refine x_iload_n (dT U_X11_simulate 60 rfl) rfl ?_
            refine x_iastore (i) (dT U_X11_simulate 61 rfl) (hset_ne (by omega) (hset_ne (by omega) (w3.c101))) (Nat.le_of_ble_eq_true rfl) rfl (show i < 5 by omega) (show 5 < 2147483648 by decide) ?_
            refine x_aload_n (dT U_X11_simulate 62 rfl) rfl ?_
            refine x_getfield F_X11_33 (dT U_X11_simulate 63 rfl) (hset_ne (by omega) (hset_ne (by omega) (hset_ne (by omega) (w3.c70)))) (Nat.le_of_ble_eq_true rfl) rfl ?_
            refine x_iload_n (dT U_X11_simulate 64 rfl) rfl ?_
            refine x_aload_n (dT U_X11_simulate 65 rfl) rfl ?_
            refine x_aload_n (dT U_X11_simulate 66 rfl) rfl ?_
            refine x_aload_n (dT U_X11_simulate 67 rfl) rfl ?_
            refine x_getfield F_X11_52 (dT U_X11_simulate 68 rfl) (hset_ne (by omega) (hset_ne (by omega) (hset_ne (by omega) (w3.c70)))) (Nat.le_of_ble_eq_true rfl) rfl ?_
            refine x_iload_n (dT U_X11_simulate 69 rfl) rfl ?_
            refine x_aaload (i) (dT U_X11_simulate 70 rfl) (hset_ne (by omega) (hset_ne (by omega) (hset_ne (by omega) (w3.c102)))) (Nat.le_of_ble_eq_true rfl) (by decide) rfl (maL_get (by omega)) (Nat.le_of_ble_eq_true rfl) ?_
            refine x_iload (dT U_X11_simulate 71 rfl) rfl ?_
            refine x_invokevirtual (rc' := rc) (rs' := rs) (rc2 := 0) (rs2 := 0) (As := [_, _]) (st := _) M_X11_committed K_X11_211 (dT U_X11_simulate 72 rfl) rfl rfl (by decide) rfl rfl (hset_ne (by omega) (hset_ne (by omega) (hset_ne (by omega) (w3.c70)))) (Nat.le_of_ble_eq_true rfl) (by decide) rfl (Nat.le_of_ble_eq_true rfl) rfl (by decide) (Nat.le_of_ble_eq_true rfl) rfl rfl ?_
            refine S_X11_committed (MP.set (by omega) (MP.set (by omega) (MP.set (by omega) (w3.mp)))) v.p (hset_ne (by omega) (hset_ne (by omega) (hset_eq (w3.answers i hi)))) (by omega) (v.rw j hj) (by omega) ?_
            refine xRet_some ?_
            refine x_i2l (dT U_X11_simulate 73 rfl) (by unfold xr; omega) ?_
            refine x_iload_n (dT U_X11_simulate 74 rfl) rfl ?_
            refine x_i2l (dT U_X11_simulate 75 rfl) (by unfold xr; omega) ?_
            refine x_aload_n (dT U_X11_simulate 76 rfl) rfl ?_
            refine x_getfield F_X11_24 (dT U_X11_simulate 77 rfl) (hset_ne (by omega) (hset_ne (by omega) (hset_ne (by omega) (w3.c70)))) (Nat.le_of_ble_eq_true rfl) rfl ?_
            refine x_iload_n (dT U_X11_simulate 78 rfl) rfl ?_
            refine x_ialoadv (i) (dT U_X11_simulate 79 rfl) (hset_ne (by omega) (hset_ne (by omega) (hset_ne (by omega) (w3.c83)))) (Nat.le_of_ble_eq_true rfl) rfl (show i < 5 by omega) (show 5 < 2147483648 by decide) (show _ = (σ.R i).e from t5_get hi) ?_
            refine x_i2l (dT U_X11_simulate 80 rfl) (by unfold xr; omega) ?_
            refine x_lmul (dT U_X11_simulate 81 rfl) ?_
            refine x_lsub (dT U_X11_simulate 82 rfl) ?_
            refine x_invokevirtual (rc' := rc) (rs' := rs) (rc2 := 0) (rs2 := 0) (As := [_]) (st := _) M_X11_f K_X11_156 (dT U_X11_simulate 83 rfl) rfl rfl (by decide) rfl rfl (hset_ne (by omega) (hset_ne (by omega) (hset_ne (by omega) (w3.c70)))) (Nat.le_of_ble_eq_true rfl) (by decide) rfl (Nat.le_of_ble_eq_true rfl) rfl (by decide) (Nat.le_of_ble_eq_true rfl) rfl rfl ?_
            refine S_X11_f (MP.set (by omega) (MP.set (by omega) (MP.set (by omega) (w3.mp)))) v.p (by unfold xrl; omega) ?_
            refine xRet_some ?_
            refine x_iastore (i) (dT U_X11_simulate 84 rfl) (hset_ne (by omega) (hset_ne (by omega) (hset_ne (by omega) (w3.c91)))) (Nat.le_of_ble_eq_true rfl) rfl (show i < 5 by omega) (show 5 < 2147483648 by decide) ?_
            refine x_aload_n (dT U_X11_simulate 85 rfl) rfl ?_
            refine x_getfield F_X11_36 (dT U_X11_simulate 86 rfl) (hset_ne (by omega) (hset_ne (by omega) (hset_ne (by omega) (hset_ne (by omega) (w3.c70))))) (Nat.le_of_ble_eq_true rfl) rfl ?_
            refine x_iload_n (dT U_X11_simulate 87 rfl) rfl ?_
            refine x_aload_n (dT U_X11_simulate 88 rfl) rfl ?_
            refine x_aload_n (dT U_X11_simulate 89 rfl) rfl ?_
            refine x_aload_n (dT U_X11_simulate 90 rfl) rfl ?_
            refine x_getfield F_X11_27 (dT U_X11_simulate 91 rfl) (hset_ne (by omega) (hset_ne (by omega) (hset_ne (by omega) (hset_ne (by omega) (w3.c70))))) (Nat.le_of_ble_eq_true rfl) rfl ?_
            refine x_iload_n (dT U_X11_simulate 92 rfl) rfl ?_
            refine x_aaload (i) (dT U_X11_simulate 93 rfl) (hset_ne (by omega) (hset_ne (by omega) (hset_ne (by omega) (hset_ne (by omega) (w3.c84))))) (Nat.le_of_ble_eq_true rfl) (by decide) rfl (mfL_get (by omega)) (Nat.le_of_ble_eq_true rfl) ?_
            refine x_aload_n (dT U_X11_simulate 94 rfl) rfl ?_
            refine x_getfield F_X11_52 (dT U_X11_simulate 95 rfl) (hset_ne (by omega) (hset_ne (by omega) (hset_ne (by omega) (hset_ne (by omega) (w3.c70))))) (Nat.le_of_ble_eq_true rfl) rfl ?_
            refine x_iload_n (dT U_X11_simulate 96 rfl) rfl ?_
            refine x_aaload (i) (dT U_X11_simulate 97 rfl) (hset_ne (by omega) (hset_ne (by omega) (hset_ne (by omega) (hset_ne (by omega) (w3.c102))))) (Nat.le_of_ble_eq_true rfl) (by decide) rfl (maL_get (by omega)) (Nat.le_of_ble_eq_true rfl) ?_
            refine x_invokevirtual (rc' := rc) (rs' := rs) (rc2 := 0) (rs2 := 0) (As := [_, _]) (st := _) M_X11_product K_X11_185 (dT U_X11_simulate 98 rfl) rfl rfl (by decide) rfl rfl (hset_ne (by omega) (hset_ne (by omega) (hset_ne (by omega) (hset_ne (by omega) (w3.c70))))) (Nat.le_of_ble_eq_true rfl) (by decide) rfl (Nat.le_of_ble_eq_true rfl) rfl (by decide) (Nat.le_of_ble_eq_true rfl) rfl rfl ?_
            refine S_X11_product (MP.set (by omega) (MP.set (by omega) (MP.set (by omega) (MP.set (by omega) (w3.mp))))) v.p (hset_ne (by omega) (hset_ne (by omega) (hset_ne (by omega) (hset_ne (by omega) (w3.forms i hi))))) (by omega) ok.f24 (hset_ne (by omega) (hset_ne (by omega) (hset_ne (by omega) (hset_eq (w3.answers i hi))))) (by omega) ((v.rw j hj).mono (by omega)) ?_
            have ib := modb (z := inn (σ.R i).form (σ.rw j)) (p := (σ.p : Int)) (by omega)
            refine xRet_some ?_
            refine x_i2l (dT U_X11_simulate 99 rfl) (by unfold xr; omega) ?_
            refine x_iload_n (dT U_X11_simulate 100 rfl) rfl ?_
            refine x_i2l (dT U_X11_simulate 101 rfl) (by unfold xr; omega) ?_
            refine x_aload_n (dT U_X11_simulate 102 rfl) rfl ?_
            refine x_getfield F_X11_30 (dT U_X11_simulate 103 rfl) (hset_ne (by omega) (hset_ne (by omega) (hset_ne (by omega) (hset_ne (by omega) (w3.c70))))) (Nat.le_of_ble_eq_true rfl) rfl ?_
            refine x_iload_n (dT U_X11_simulate 104 rfl) rfl ?_
            refine x_ialoadv (i) (dT U_X11_simulate 105 rfl) (hset_ne (by omega) (hset_ne (by omega) (hset_ne (by omega) (hset_ne (by omega) (w3.c90))))) (Nat.le_of_ble_eq_true rfl) rfl (show i < 5 by omega) (show 5 < 2147483648 by decide) (show _ = (σ.R i).v from t5_get hi) ?_
            refine x_i2l (dT U_X11_simulate 106 rfl) (by unfold xr; omega) ?_
            refine x_lmul (dT U_X11_simulate 107 rfl) ?_
            refine x_lsub (dT U_X11_simulate 108 rfl) ?_
            refine x_invokevirtual (rc' := rc) (rs' := rs) (rc2 := 0) (rs2 := 0) (As := [_]) (st := _) M_X11_f K_X11_156 (dT U_X11_simulate 109 rfl) rfl rfl (by decide) rfl rfl (hset_ne (by omega) (hset_ne (by omega) (hset_ne (by omega) (hset_ne (by omega) (w3.c70))))) (Nat.le_of_ble_eq_true rfl) (by decide) rfl (Nat.le_of_ble_eq_true rfl) rfl (by decide) (Nat.le_of_ble_eq_true rfl) rfl rfl ?_
            refine S_X11_f (MP.set (by omega) (MP.set (by omega) (MP.set (by omega) (MP.set (by omega) (w3.mp))))) v.p (by unfold xrl; omega) ?_
            rw [sm_l]
            refine xRet_some ?_
            refine x_iastore (i) (dT U_X11_simulate 110 rfl) (hset_ne (by omega) (hset_ne (by omega) (hset_ne (by omega) (hset_ne (by omega) (w3.c92))))) (Nat.le_of_ble_eq_true rfl) rfl (show i < 5 by omega) (show 5 < 2147483648 by decide) ?_
            refine x_aload_n (dT U_X11_simulate 111 rfl) rfl ?_
            refine x_getfield F_X11_21 (dT U_X11_simulate 112 rfl) (hset_ne (by omega) (hset_ne (by omega) (hset_ne (by omega) (hset_ne (by omega) (hset_ne (by omega) (w3.c70)))))) (Nat.le_of_ble_eq_true rfl) rfl ?_
            refine x_iload_n (dT U_X11_simulate 113 rfl) rfl ?_
            refine x_iconst (dT U_X11_simulate 114 rfl) ?_
            refine x_iastore (i) (dT U_X11_simulate 115 rfl) (hset_ne (by omega) (hset_ne (by omega) (hset_ne (by omega) (hset_ne (by omega) (hset_ne (by omega) (w3.c82)))))) (Nat.le_of_ble_eq_true rfl) rfl (show i < 5 by omega) (show 5 < 2147483648 by decide) ?_
            refine x_aload_n (dT U_X11_simulate 116 rfl) rfl ?_
            refine x_getfield F_X11_7 (dT U_X11_simulate 117 rfl) (hset_ne (by omega) (hset_ne (by omega) (hset_ne (by omega) (hset_ne (by omega) (hset_ne (by omega) (hset_ne (by omega) (w3.c70))))))) (Nat.le_of_ble_eq_true rfl) rfl ?_
            refine x_aload_n (dT U_X11_simulate 118 rfl) rfl ?_
            refine x_getfield F_X11_33 (dT U_X11_simulate 119 rfl) (hset_ne (by omega) (hset_ne (by omega) (hset_ne (by omega) (hset_ne (by omega) (hset_ne (by omega) (hset_ne (by omega) (w3.c70))))))) (Nat.le_of_ble_eq_true rfl) rfl ?_
            refine x_iload_n (dT U_X11_simulate 120 rfl) rfl ?_
            refine x_ialoadv (i) (dT U_X11_simulate 121 rfl) (hset_ne (by omega) (hset_ne (by omega) (hset_eq (hset_ne (by omega) (hset_ne (by omega) (hset_ne (by omega) (w3.c91))))))) (Nat.le_of_ble_eq_true rfl) rfl (by rw [t5_set hi]; show i < 5; omega) (by rw [t5_set hi]; show 5 < 2147483648; omega) (show _ = (cm σ.p (σ.rw j) t - c * (σ.R i).e) % (σ.p : Int) from by rw [t5_set hi, t5_get hi, fup_eq]) ?_
            obtain ⟨ml, m1, m2, m3⟩ := w3.pow
            refine x_ialoadv (((cm σ.p (σ.rw j) t - c * (σ.R i).e) % (σ.p : Int)).toNat) (dT U_X11_simulate 122 rfl) (hset_ne (by omega) (hset_ne (by omega) (hset_ne (by omega) (hset_ne (by omega) (hset_ne (by omega) (hset_ne (by omega) (m1))))))) (Nat.le_of_ble_eq_true rfl) (by omega) (by rw [m2]; omega) (by rw [m2]; omega) (show _ = MM σ.p ((cm σ.p (σ.rw j) t - c * (σ.R i).e) % (σ.p : Int)) from m3 _ (by omega)) ?_
            refine x_ireturn (dT U_X11_simulate 123 rfl) rfl ?_
            exact k (by omega) (by omega) (by omega) _ _ _ (((((((Ag.tr (Ag.tr (Ag.tr (Ag.rf 70 142 h) (g1.w (by omega))) (g2.w (by omega))) (g3.w (by omega))).set (by omega)).set (by omega)).set (by omega)).set (by omega)).set (by omega)).set (by omega)) (w3.run (i := i) (R := rSim σ.p (σ.R i) c (σ.rw j) t) (fun a ha => by rw [hset_fr (by omega), hset_fr (by omega), hset_fr (by omega), hset_fr (by omega), hset_fr (by omega), hset_fr (by omega)]) hi (c5 (R' := rSim σ.p (σ.R i) c (σ.rw j) t) gST hi (hset_eq (hset_ne (by omega) (hset_ne (by omega) (hset_ne (by omega) (hset_ne (by omega) (hset_ne (by omega) (w3.c82)))))))) (k5 (R' := rSim σ.p (σ.R i) c (σ.rw j) t) RS.e rfl (hset_ne (by omega) (hset_ne (by omega) (hset_ne (by omega) (hset_ne (by omega) (hset_ne (by omega) (hset_ne (by omega) (w3.c83)))))))) (k5 (R' := rSim σ.p (σ.R i) c (σ.rw j) t) RS.v rfl (hset_ne (by omega) (hset_ne (by omega) (hset_ne (by omega) (hset_ne (by omega) (hset_ne (by omega) (hset_ne (by omega) (w3.c90)))))))) (c5 (R' := rSim σ.p (σ.R i) c (σ.rw j) t) RS.fa hi (hset_ne (by omega) (hset_ne (by omega) (hset_eq (hset_ne (by omega) (hset_ne (by omega) (hset_ne (by omega) (w3.c91)))))))) (c5 (R' := rSim σ.p (σ.R i) c (σ.rw j) t) RS.w hi (hset_ne (by omega) (hset_eq (hset_ne (by omega) (hset_ne (by omega) (hset_ne (by omega) (hset_ne (by omega) (w3.c92)))))))) (k5 (R' := rSim σ.p (σ.R i) c (σ.rw j) t) gMK rfl (hset_ne (by omega) (hset_ne (by omega) (hset_ne (by omega) (hset_ne (by omega) (hset_ne (by omega) (hset_ne (by omega) (w3.c93)))))))) (k5 (R' := rSim σ.p (σ.R i) c (σ.rw j) t) RS.mb rfl (hset_ne (by omega) (hset_ne (by omega) (hset_ne (by omega) (hset_ne (by omega) (hset_ne (by omega) (hset_ne (by omega) (w3.c100)))))))) (c5 (R' := rSim σ.p (σ.R i) c (σ.rw j) t) RS.c hi (hset_ne (by omega) (hset_ne (by omega) (hset_ne (by omega) (hset_eq (hset_ne (by omega) (hset_ne (by omega) (w3.c101)))))))) (c5 (R' := rSim σ.p (σ.R i) c (σ.rw j) t) RS.t hi (hset_ne (by omega) (hset_ne (by omega) (hset_ne (by omega) (hset_ne (by omega) (hset_eq (hset_ne (by omega) (w3.c108)))))))) (hset_ne (by omega) (hset_ne (by omega) (hset_ne (by omega) (hset_ne (by omega) (hset_ne (by omega) (hset_ne (by omega) (w3.forms i hi))))))) (hset_ne (by omega) (hset_ne (by omega) (hset_ne (by omega) (hset_ne (by omega) (hset_ne (by omega) (hset_ne (by omega) (w3.masks i hi))))))) (hset_ne (by omega) (hset_ne (by omega) (hset_ne (by omega) (hset_ne (by omega) (hset_ne (by omega) (hset_eq (w3.answers i hi))))))) (Exists.elim w3.s89 (fun l q => ⟨l, (hset_ne (by omega) (hset_ne (by omega) (hset_ne (by omega) (hset_ne (by omega) (hset_ne (by omega) (hset_ne (by omega) (q.1))))))), q.2⟩)))
        · refine xRet_some ?_
          refine x_if_eqj (tgt := 49) (dT U_X11_simulate 21 rfl) (by decide) (by decide) ?_
          refine x_iconst (dT U_X11_simulate 24 rfl) ?_
          refine x_iconst (dT U_X11_simulate 25 rfl) ?_
          refine x_invokevirtual (rc' := rc) (rs' := rs) (rc2 := 0) (rs2 := 0) (As := [_, _]) (st := _) M_X11_lets K_X11_167 (dT U_X11_simulate 26 rfl) rfl rfl (by decide) rfl rfl w1.c70 (Nat.le_of_ble_eq_true rfl) (by decide) rfl (Nat.le_of_ble_eq_true rfl) rfl (by decide) (Nat.le_of_ble_eq_true rfl) rfl rfl ?_
          refine S_X11_lets0 w1 (fun h2 g2 w2 => ?_)
          refine xRet_some ?_
          refine x_if_eqj (tgt := 80) (dT U_X11_simulate 27 rfl) (by decide) (by decide) ?_
          refine x_iconst (dT U_X11_simulate 41 rfl) ?_
          refine x_ireturn (dT U_X11_simulate 42 rfl) rfl ?_
          exact e2 (by omega) (by omega) _ _ (Ag.tr (Ag.tr (Ag.rf 70 142 h) (g1.w (by omega))) (g2.w (by omega))) w2 (by unfold xr; omega)
      · refine xRet_some ?_
        refine x_if_eqj (tgt := 49) (dT U_X11_simulate 17 rfl) (by decide) (by decide) ?_
        refine x_iconst (dT U_X11_simulate 24 rfl) ?_
        refine x_iconst (dT U_X11_simulate 25 rfl) ?_
        refine x_invokevirtual (rc' := rc) (rs' := rs) (rc2 := 0) (rs2 := 0) (As := [_, _]) (st := _) M_X11_lets K_X11_167 (dT U_X11_simulate 26 rfl) rfl rfl (by decide) rfl rfl w1.c70 (Nat.le_of_ble_eq_true rfl) (by decide) rfl (Nat.le_of_ble_eq_true rfl) rfl (by decide) (Nat.le_of_ble_eq_true rfl) rfl rfl ?_
        refine S_X11_lets0 w1 (fun h2 g2 w2 => ?_)
        refine xRet_some ?_
        refine x_if_eqj (tgt := 80) (dT U_X11_simulate 27 rfl) (by decide) (by decide) ?_
        refine x_iconst (dT U_X11_simulate 41 rfl) ?_
        refine x_ireturn (dT U_X11_simulate 42 rfl) rfl ?_
        exact e2 (by omega) (by omega) _ _ (Ag.tr (Ag.tr (Ag.rf 70 142 h) (g1.w (by omega))) (g2.w (by omega))) w2 (by unfold xr; omega)
    · refine xRet_some ?_
      refine x_if_eqj (tgt := 19) (dT U_X11_simulate 6 rfl) (by decide) (by decide) ?_
      refine x_iconst (dT U_X11_simulate 9 rfl) ?_
      refine x_iconst (dT U_X11_simulate 10 rfl) ?_
      refine x_invokevirtual (rc' := rc) (rs' := rs) (rc2 := 0) (rs2 := 0) (As := [_, _]) (st := _) M_X11_lets K_X11_167 (dT U_X11_simulate 11 rfl) rfl rfl (by decide) rfl rfl w.c70 (Nat.le_of_ble_eq_true rfl) (by decide) rfl (Nat.le_of_ble_eq_true rfl) rfl (by decide) (Nat.le_of_ble_eq_true rfl) rfl rfl ?_
      refine S_X11_lets0 w (fun h1 g1 w1 => ?_)
      refine xRet_some ?_
      refine x_if_eqj (tgt := 80) (dT U_X11_simulate 12 rfl) (by decide) (by decide) ?_
      refine x_iconst (dT U_X11_simulate 41 rfl) ?_
      refine x_ireturn (dT U_X11_simulate 42 rfl) rfl ?_
      exact e1 (by omega) _ _ (Ag.tr (Ag.rf 70 142 h) (g1.w (by omega))) w1 (by unfold xr; omega)
  · refine xRet_some ?_
    refine x_if_eqj (tgt := 19) (dT U_X11_simulate 3 rfl) (by decide) (by decide) ?_
    refine x_iconst (dT U_X11_simulate 9 rfl) ?_
    refine x_iconst (dT U_X11_simulate 10 rfl) ?_
    refine x_invokevirtual (rc' := rc) (rs' := rs) (rc2 := 0) (rs2 := 0) (As := [_, _]) (st := _) M_X11_lets K_X11_167 (dT U_X11_simulate 11 rfl) rfl rfl (by decide) rfl rfl w.c70 (Nat.le_of_ble_eq_true rfl) (by decide) rfl (Nat.le_of_ble_eq_true rfl) rfl (by decide) (Nat.le_of_ble_eq_true rfl) rfl rfl ?_
    refine S_X11_lets0 w (fun h1 g1 w1 => ?_)
    refine xRet_some ?_
    refine x_if_eqj (tgt := 80) (dT U_X11_simulate 12 rfl) (by decide) (by decide) ?_
    refine x_iconst (dT U_X11_simulate 41 rfl) ?_
    refine x_ireturn (dT U_X11_simulate 42 rfl) rfl ?_
    exact e1 (by omega) _ _ (Ag.tr (Ag.rf 70 142 h) (g1.w (by omega))) w1 (by unfold xr; omega)

set_option maxRecDepth 20000 in
set_option maxHeartbeats 1000000 in
theorem S_X11_reply {G : xG} {d rc rs : Nat} {ex : Bool} {h : xH} {Q : xQ} {σ : St} {cc0 : Int} {rr : Nat} {ss : Int} {run secret blind : Int} (w : MX σ cc0 rr ss h) (v : INV σ) (h_run : xr run) (h_secret : xr secret) (h_blind : xr blind) (e1 : ¬ (inb run 4 ∧ inb secret 8) → ∀ h2 z, Ag 70 142 h h2 → MX σ 1 rr ss h2 → xr z → Q (.inl (some (vi z))) ex h2) (e2 : (inb run 4 ∧ inb secret 8) → ¬ (inb blind σ.p) → ∀ h2 z, Ag 70 142 h h2 → MX σ 2 rr ss h2 → xr z → Q (.inl (some (vi z))) ex h2) (e3 : (inb run 4 ∧ inb secret 8) → (inb blind σ.p) → ¬ ((σ.R run.toNat).mk = true ∧ (σ.R run.toNat).st = 3) → ∀ h2 z, Ag 70 142 h h2 → MX σ 3 rr ss h2 → xr z → Q (.inl (some (vi z))) ex h2) (k : (inb run 4 ∧ inb secret 8) → (inb blind σ.p) → ((σ.R run.toNat).mk = true ∧ (σ.R run.toNat).st = 3) → ∀ h2 r2 s2, Ag 70 142 h h2 → MX (σ.sRun run.toNat (rReply σ.p (σ.R run.toNat) (σ.rw secret.toNat) blind (decide (suit σ.p (σ.R run.toNat) (σ.rw secret.toNat) blind)))) 0 r2 s2 h2 → Q (.inl (some (vi (((σ.R run.toNat).mb + (σ.R run.toNat).c * blind) % (σ.p : Int))))) ex h2) : X G m_X11_reply (d + 2) rc rs ex 0 (xe m_X11_reply.2.2.1 [.ref 70, vi run, vi secret, vi blind]) [] h Q := by
  show X G m_X11_reply _ _ _ _ 0 [some (.ref 70), some (vi run), some (vi secret), some (vi blind), none] [] h Q
  have hp := PRb v.p
  have hq := gq_b v.p
  refine x_aload_n (dT U_X11_reply 0 rfl) rfl ?_
  refine x_iload_n (dT U_X11_reply 1 rfl) rfl ?_
  refine x_invokestatic (rc' := rc) (rs' := rs) (rc2 := 0) (rs2 := 0) (As := [_]) (st := _) M_X11_isRun K_X11_244 (dT U_X11_reply 2 rfl) rfl rfl rfl rfl (Nat.le_of_ble_eq_true rfl) rfl (by decide) (Nat.le_of_ble_eq_true rfl) rfl rfl ?_
  refine S_X11_isRun h_run (fun q1 => ?_) (fun q1 => ?_)
  · refine xRet_some ?_
    refine x_if_eqn (tgt := 19) (dT U_X11_reply 3 rfl) (by decide) (by decide) ?_
    refine x_iload_n (dT U_X11_reply 4 rfl) rfl ?_
    refine x_invokestatic (rc' := rc) (rs' := rs) (rc2 := 0) (rs2 := 0) (As := [_]) (st := _) M_X11_isRow K_X11_164 (dT U_X11_reply 5 rfl) rfl rfl rfl rfl (Nat.le_of_ble_eq_true rfl) rfl (by decide) (Nat.le_of_ble_eq_true rfl) rfl rfl ?_
    refine S_X11_isRow h_secret (fun q2 => ?_) (fun q2 => ?_)
    · refine xRet_some ?_
      refine x_if_eqn (tgt := 19) (dT U_X11_reply 6 rfl) (by decide) (by decide) ?_
      refine x_iconst (dT U_X11_reply 7 rfl) ?_
      refine x_goto (tgt := 20) (dT U_X11_reply 8 rfl) (by decide) ?_
      refine x_iconst (dT U_X11_reply 10 rfl) ?_
      refine x_invokevirtual (rc' := rc) (rs' := rs) (rc2 := 0) (rs2 := 0) (As := [_, _]) (st := _) M_X11_lets K_X11_167 (dT U_X11_reply 11 rfl) rfl rfl (by decide) rfl rfl w.c70 (Nat.le_of_ble_eq_true rfl) (by decide) rfl (Nat.le_of_ble_eq_true rfl) rfl (by decide) (Nat.le_of_ble_eq_true rfl) rfl rfl ?_
      refine S_X11_lets1 w (fun h1 g1 w1 => ?_)
      refine xRet_some ?_
      obtain ⟨i, hi, rfl⟩ : ∃ j : Nat, j < 4 ∧ run = (j : Int) := ⟨run.toNat, by omega, by omega⟩
      try simp only [tnc] at e1 e2 e3 k
      obtain ⟨j, hj, rfl⟩ : ∃ j : Nat, j < 8 ∧ secret = (j : Int) := ⟨secret.toNat, by omega, by omega⟩
      try simp only [tnc] at e1 e2 e3 k
      refine x_if_eqn (tgt := 72) (dT U_X11_reply 12 rfl) (by decide) (by decide) ?_
      refine x_aload_n (dT U_X11_reply 13 rfl) rfl ?_
      refine x_aload_n (dT U_X11_reply 14 rfl) rfl ?_
      refine x_iload_n (dT U_X11_reply 15 rfl) rfl ?_
      refine x_invokevirtual (rc' := rc) (rs' := rs) (rc2 := 0) (rs2 := 0) (As := [_]) (st := _) M_X11_isNumber K_X11_174 (dT U_X11_reply 16 rfl) rfl rfl (by decide) rfl rfl w1.c70 (Nat.le_of_ble_eq_true rfl) (by decide) rfl (Nat.le_of_ble_eq_true rfl) rfl (by decide) (Nat.le_of_ble_eq_true rfl) rfl rfl ?_
      refine S_X11_isNumber (w1.mp) v.p h_blind (fun q3 => ?_) (fun q3 => ?_)
      · refine xRet_some ?_
        refine x_iconst (dT U_X11_reply 17 rfl) ?_
        refine x_invokevirtual (rc' := rc) (rs' := rs) (rc2 := 0) (rs2 := 0) (As := [_, _]) (st := _) M_X11_lets K_X11_167 (dT U_X11_reply 18 rfl) rfl rfl (by decide) rfl rfl w1.c70 (Nat.le_of_ble_eq_true rfl) (by decide) rfl (Nat.le_of_ble_eq_true rfl) rfl (by decide) (Nat.le_of_ble_eq_true rfl) rfl rfl ?_
        refine S_X11_lets1 w1 (fun h2 g2 w2 => ?_)
        refine xRet_some ?_
        refine x_if_eqn (tgt := 72) (dT U_X11_reply 19 rfl) (by decide) (by decide) ?_
        refine x_aload_n (dT U_X11_reply 20 rfl) rfl ?_
        refine x_aload_n (dT U_X11_reply 21 rfl) rfl ?_
        refine x_getfield F_X11_21 (dT U_X11_reply 22 rfl) w2.c70 (Nat.le_of_ble_eq_true rfl) rfl ?_
        refine x_iload_n (dT U_X11_reply 23 rfl) rfl ?_
        refine x_ialoadv (i) (dT U_X11_reply 24 rfl) w2.c82 (Nat.le_of_ble_eq_true rfl) rfl (show i < 5 by omega) (show 5 < 2147483648 by decide) (show _ = ((σ.R i).st : Int) from t5_get hi) ?_
        refine x_iconst (dT U_X11_reply 25 rfl) ?_
        have s4i := (v.R i hi).1.s4
        refine x_icmp_ne (tgt := 64) (dT U_X11_reply 26 rfl) (by decide) (by unfold xr; omega) (by unfold xr; omega) (fun c48 => ?_) (fun c48 => ?_)
        · skip
          refine x_iconst (dT U_X11_reply 34 rfl) ?_
          refine x_iconst (dT U_X11_reply 35 rfl) ?_
          refine x_invokevirtual (rc' := rc) (rs' := rs) (rc2 := 0) (rs2 := 0) (As := [_, _]) (st := _) M_X11_lets K_X11_167 (dT U_X11_reply 36 rfl) rfl rfl (by decide) rfl rfl w2.c70 (Nat.le_of_ble_eq_true rfl) (by decide) rfl (Nat.le_of_ble_eq_true rfl) rfl (by decide) (Nat.le_of_ble_eq_true rfl) rfl rfl ?_
          refine S_X11_lets0 w2 (fun h3 g3 w3 => ?_)
          refine xRet_some ?_
          refine x_if_nen (tgt := 74) (dT U_X11_reply 37 rfl) (by decide) (by decide) ?_
          refine x_iconst (dT U_X11_reply 38 rfl) ?_
          refine x_ireturn (dT U_X11_reply 39 rfl) rfl ?_
          exact e3 (by omega) (by omega) (fun z => by first | exact absurd z.1 (by assumption) | (have := z.2; omega)) _ _ (Ag.tr (Ag.tr (Ag.tr (Ag.rf 70 142 h) (g1.w (by omega))) (g2.w (by omega))) (g3.w (by omega))) w3 (by unfold xr; omega)
        · skip
          refine x_aload_n (dT U_X11_reply 27 rfl) rfl ?_
          refine x_getfield F_X11_39 (dT U_X11_reply 28 rfl) w2.c70 (Nat.le_of_ble_eq_true rfl) rfl ?_
          refine x_iload_n (dT U_X11_reply 29 rfl) rfl ?_
          refine x_baloadv (i) (dT U_X11_reply 30 rfl) w2.c93 (Nat.le_of_ble_eq_true rfl) rfl (show i < 5 by omega) (show 5 < 2147483648 by decide) (show _ = gMK (σ.R i) from t5_get hi) ?_
          have gm1 : gMK (σ.R i) = 1 ↔ (σ.R i).mk = true := by unfold gMK; split <;> simp_all
          have gm0 : gMK (σ.R i) = 0 ∨ gMK (σ.R i) = 1 := by unfold gMK; split <;> simp
          refine x_if_eq (tgt := 64) (dT U_X11_reply 31 rfl) (by decide) (by unfold xr; omega) (fun c57 => ?_) (fun c57 => ?_)
          · skip
            have nmk : ¬ (σ.R i).mk = true := fun z => by have := gm1.mpr z; omega
            refine x_iconst (dT U_X11_reply 34 rfl) ?_
            refine x_iconst (dT U_X11_reply 35 rfl) ?_
            refine x_invokevirtual (rc' := rc) (rs' := rs) (rc2 := 0) (rs2 := 0) (As := [_, _]) (st := _) M_X11_lets K_X11_167 (dT U_X11_reply 36 rfl) rfl rfl (by decide) rfl rfl w2.c70 (Nat.le_of_ble_eq_true rfl) (by decide) rfl (Nat.le_of_ble_eq_true rfl) rfl (by decide) (Nat.le_of_ble_eq_true rfl) rfl rfl ?_
            refine S_X11_lets0 w2 (fun h3 g3 w3 => ?_)
            refine xRet_some ?_
            refine x_if_nen (tgt := 74) (dT U_X11_reply 37 rfl) (by decide) (by decide) ?_
            refine x_iconst (dT U_X11_reply 38 rfl) ?_
            refine x_ireturn (dT U_X11_reply 39 rfl) rfl ?_
            exact e3 (by omega) (by omega) (fun z => by first | exact absurd z.1 (by assumption) | (have := z.2; omega)) _ _ (Ag.tr (Ag.tr (Ag.tr (Ag.rf 70 142 h) (g1.w (by omega))) (g2.w (by omega))) (g3.w (by omega))) w3 (by unfold xr; omega)
          · skip
            have ymk : (σ.R i).mk = true := gm1.mp (by omega)
            refine x_iconst (dT U_X11_reply 32 rfl) ?_
            refine x_goto (tgt := 65) (dT U_X11_reply 33 rfl) (by decide) ?_
            refine x_iconst (dT U_X11_reply 35 rfl) ?_
            refine x_invokevirtual (rc' := rc) (rs' := rs) (rc2 := 0) (rs2 := 0) (As := [_, _]) (st := _) M_X11_lets K_X11_167 (dT U_X11_reply 36 rfl) rfl rfl (by decide) rfl rfl w2.c70 (Nat.le_of_ble_eq_true rfl) (by decide) rfl (Nat.le_of_ble_eq_true rfl) rfl (by decide) (Nat.le_of_ble_eq_true rfl) rfl rfl ?_
            refine S_X11_lets1 w2 (fun h3 g3 w3 => ?_)
            refine xRet_some ?_
            refine x_if_nej (tgt := 74) (dT U_X11_reply 37 rfl) (by decide) (by decide) ?_
            refine x_iconst (dT U_X11_reply 40 rfl) ?_
            refine x_istore (ls' := [some (.ref _), some (vi _), some (vi _), some (vi _), some (vi _)]) (dT U_X11_reply 41 rfl) (by decide) rfl ?_
            have ok := (v.R i hi).1
            have sc := ok.c (by omega)
            have mk9 : (σ.R i).mk = true := by assumption
            have sm9 := (ok.mk mk9).2
            have mb9 := mulb sc (show 0 ≤ blind ∧ blind < (σ.p : Int) by omega) (by omega)
            have L : ∀ (n u : Nat), u + n = 8 → X G m_X11_reply (d + 2) rc rs ex 77 [some (.ref 70), some (vi (i : Int)), some (vi (j : Int)), some (vi blind), some (vi (u : Int))] [] (h3.set (103 + i) (cA 0 (fillL (fun u => ((σ.R i).mask.getD u 0 + (σ.R i).c * (σ.rw j).getD u 0) % (σ.p : Int)) (σ.R i).answer u))) Q := by
              intro n
              induction n with
              | zero =>
                intro u hi_ 
                refine x_iload (dT U_X11_reply 42 rfl) rfl ?_
                refine x_bipush (dT U_X11_reply 43 rfl) (by decide) ?_
                refine x_icmp_ge (tgt := 132) (dT U_X11_reply 44 rfl) (by decide) (by unfold xr; omega) (by unfold xr at *; omega) (fun c81 => ?_) (fun c81 => ?_)
                · skip
                  have e : u = 8 := by omega
                  subst e
                  rw [fillL_all ok.a24.1]
                  refine x_aload_n (dT U_X11_reply 76 rfl) rfl ?_
                  refine x_getfield F_X11_55 (dT U_X11_reply 77 rfl) (hset_ne (by omega) (w3.c70)) (Nat.le_of_ble_eq_true rfl) rfl ?_
                  refine x_iload_n (dT U_X11_reply 78 rfl) rfl ?_
                  refine x_aload_n (dT U_X11_reply 79 rfl) rfl ?_
                  refine x_aload_n (dT U_X11_reply 80 rfl) rfl ?_
                  refine x_getfield F_X11_46 (dT U_X11_reply 81 rfl) (hset_ne (by omega) (w3.c70)) (Nat.le_of_ble_eq_true rfl) rfl ?_
                  refine x_iload_n (dT U_X11_reply 82 rfl) rfl ?_
                  refine x_ialoadv (i) (dT U_X11_reply 83 rfl) (hset_ne (by omega) (w3.c100)) (Nat.le_of_ble_eq_true rfl) rfl (show i < 5 by omega) (show 5 < 2147483648 by decide) (show _ = (σ.R i).mb from t5_get hi) ?_
                  refine x_i2l (dT U_X11_reply 84 rfl) (by unfold xr; omega) ?_
                  refine x_aload_n (dT U_X11_reply 85 rfl) rfl ?_
                  refine x_getfield F_X11_49 (dT U_X11_reply 86 rfl) (hset_ne (by omega) (w3.c70)) (Nat.le_of_ble_eq_true rfl) rfl ?_
                  refine x_iload_n (dT U_X11_reply 87 rfl) rfl ?_
                  refine x_ialoadv (i) (dT U_X11_reply 88 rfl) (hset_ne (by omega) (w3.c101)) (Nat.le_of_ble_eq_true rfl) rfl (show i < 5 by omega) (show 5 < 2147483648 by decide) (show _ = (σ.R i).c from t5_get hi) ?_
                  refine x_i2l (dT U_X11_reply 89 rfl) (by unfold xr; omega) ?_
                  refine x_iload_n (dT U_X11_reply 90 rfl) rfl ?_
                  refine x_i2l (dT U_X11_reply 91 rfl) (by unfold xr; omega) ?_
                  refine x_lmul (dT U_X11_reply 92 rfl) ?_
                  refine x_ladd (dT U_X11_reply 93 rfl) ?_
                  refine x_invokevirtual (rc' := rc) (rs' := rs) (rc2 := 0) (rs2 := 0) (As := [_]) (st := _) M_X11_f K_X11_156 (dT U_X11_reply 94 rfl) rfl rfl (by decide) rfl rfl (hset_ne (by omega) (w3.c70)) (Nat.le_of_ble_eq_true rfl) (by decide) rfl (Nat.le_of_ble_eq_true rfl) rfl (by decide) (Nat.le_of_ble_eq_true rfl) rfl rfl ?_
                  refine S_X11_f (MP.set (by omega) (w3.mp)) v.p (by unfold xrl; omega) ?_
                  refine xRet_some ?_
                  refine x_iastore (i) (dT U_X11_reply 95 rfl) (hset_ne (by omega) (w3.c108)) (Nat.le_of_ble_eq_true rfl) rfl (show i < 5 by omega) (show 5 < 2147483648 by decide) ?_
                  refine x_aload_n (dT U_X11_reply 96 rfl) rfl ?_
                  refine x_getfield F_X11_21 (dT U_X11_reply 97 rfl) (hset_ne (by omega) (hset_ne (by omega) (w3.c70))) (Nat.le_of_ble_eq_true rfl) rfl ?_
                  refine x_iload_n (dT U_X11_reply 98 rfl) rfl ?_
                  refine x_iconst (dT U_X11_reply 99 rfl) ?_
                  refine x_iastore (i) (dT U_X11_reply 100 rfl) (hset_ne (by omega) (hset_ne (by omega) (w3.c82))) (Nat.le_of_ble_eq_true rfl) rfl (show i < 5 by omega) (show 5 < 2147483648 by decide) ?_
                  refine x_aload_n (dT U_X11_reply 101 rfl) rfl ?_
                  refine x_getfield F_X11_55 (dT U_X11_reply 102 rfl) (hset_ne (by omega) (hset_ne (by omega) (hset_ne (by omega) (w3.c70)))) (Nat.le_of_ble_eq_true rfl) rfl ?_
                  refine x_iload_n (dT U_X11_reply 103 rfl) rfl ?_
                  refine x_ialoadv (i) (dT U_X11_reply 104 rfl) (hset_ne (by omega) (hset_eq (hset_ne (by omega) (w3.c108)))) (Nat.le_of_ble_eq_true rfl) rfl (by rw [t5_set hi]; show i < 5; omega) (by rw [t5_set hi]; show 5 < 2147483648; omega) (show _ = ((σ.R i).mb + (σ.R i).c * blind) % (σ.p : Int) from by rw [t5_set hi, t5_get hi, fup_eq]) ?_
                  refine x_ireturn (dT U_X11_reply 105 rfl) rfl ?_
                  exact k (by omega) (by omega) ⟨mk9, by omega⟩ _ _ _ ((((Ag.tr (Ag.tr (Ag.tr (Ag.rf 70 142 h) (g1.w (by omega))) (g2.w (by omega))) (g3.w (by omega))).set (by omega)).set (by omega)).set (by omega)) (w3.run (i := i) (R := rReply σ.p (σ.R i) (σ.rw j) blind (decide (suit σ.p (σ.R i) (σ.rw j) blind))) (fun a ha => by rw [hset_fr (by omega), hset_fr (by omega), hset_fr (by omega)]) hi (c5 (R' := rReply σ.p (σ.R i) (σ.rw j) blind (decide (suit σ.p (σ.R i) (σ.rw j) blind))) gST hi (hset_eq (hset_ne (by omega) (hset_ne (by omega) (w3.c82))))) (k5 (R' := rReply σ.p (σ.R i) (σ.rw j) blind (decide (suit σ.p (σ.R i) (σ.rw j) blind))) RS.e rfl (hset_ne (by omega) (hset_ne (by omega) (hset_ne (by omega) (w3.c83))))) (k5 (R' := rReply σ.p (σ.R i) (σ.rw j) blind (decide (suit σ.p (σ.R i) (σ.rw j) blind))) RS.v rfl (hset_ne (by omega) (hset_ne (by omega) (hset_ne (by omega) (w3.c90))))) (k5 (R' := rReply σ.p (σ.R i) (σ.rw j) blind (decide (suit σ.p (σ.R i) (σ.rw j) blind))) RS.fa rfl (hset_ne (by omega) (hset_ne (by omega) (hset_ne (by omega) (w3.c91))))) (k5 (R' := rReply σ.p (σ.R i) (σ.rw j) blind (decide (suit σ.p (σ.R i) (σ.rw j) blind))) RS.w rfl (hset_ne (by omega) (hset_ne (by omega) (hset_ne (by omega) (w3.c92))))) (k5 (R' := rReply σ.p (σ.R i) (σ.rw j) blind (decide (suit σ.p (σ.R i) (σ.rw j) blind))) gMK rfl (hset_ne (by omega) (hset_ne (by omega) (hset_ne (by omega) (w3.c93))))) (k5 (R' := rReply σ.p (σ.R i) (σ.rw j) blind (decide (suit σ.p (σ.R i) (σ.rw j) blind))) RS.mb rfl (hset_ne (by omega) (hset_ne (by omega) (hset_ne (by omega) (w3.c100))))) (k5 (R' := rReply σ.p (σ.R i) (σ.rw j) blind (decide (suit σ.p (σ.R i) (σ.rw j) blind))) RS.c rfl (hset_ne (by omega) (hset_ne (by omega) (hset_ne (by omega) (w3.c101))))) (c5 (R' := rReply σ.p (σ.R i) (σ.rw j) blind (decide (suit σ.p (σ.R i) (σ.rw j) blind))) RS.t hi (hset_ne (by omega) (hset_eq (hset_ne (by omega) (w3.c108))))) (hset_ne (by omega) (hset_ne (by omega) (hset_ne (by omega) (w3.forms i hi)))) (hset_ne (by omega) (hset_ne (by omega) (hset_ne (by omega) (w3.masks i hi)))) (hset_ne (by omega) (hset_ne (by omega) (hset_eq (w3.answers i hi)))) (Exists.elim w3.s89 (fun l q => ⟨l, (hset_ne (by omega) (hset_ne (by omega) (hset_ne (by omega) (q.1)))), q.2⟩)))
                · exfalso; omega
              | succ n ih =>
                intro u hi_ 
                have xa := sm9.2.2 u
                have xb := (v.rw j hj).2 u
                have xm := mulb sc xb (by omega)
                refine x_iload (dT U_X11_reply 42 rfl) rfl ?_
                refine x_bipush (dT U_X11_reply 43 rfl) (by decide) ?_
                refine x_icmp_ge (tgt := 132) (dT U_X11_reply 44 rfl) (by decide) (by unfold xr; omega) (by unfold xr at *; omega) (fun c81 => ?_) (fun c81 => ?_)
                · exfalso; omega
                · skip
                  refine x_aload_n (dT U_X11_reply 45 rfl) rfl ?_
                  refine x_getfield F_X11_52 (dT U_X11_reply 46 rfl) (hset_ne (by omega) (w3.c70)) (Nat.le_of_ble_eq_true rfl) rfl ?_
                  refine x_iload_n (dT U_X11_reply 47 rfl) rfl ?_
                  refine x_aaload (i) (dT U_X11_reply 48 rfl) (hset_ne (by omega) (w3.c102)) (Nat.le_of_ble_eq_true rfl) (by decide) rfl (maL_get (by omega)) (Nat.le_of_ble_eq_true rfl) ?_
                  refine x_iload (dT U_X11_reply 49 rfl) rfl ?_
                  refine x_aload_n (dT U_X11_reply 50 rfl) rfl ?_
                  refine x_aload_n (dT U_X11_reply 51 rfl) rfl ?_
                  refine x_getfield F_X11_43 (dT U_X11_reply 52 rfl) (hset_ne (by omega) (w3.c70)) (Nat.le_of_ble_eq_true rfl) rfl ?_
                  refine x_iload_n (dT U_X11_reply 53 rfl) rfl ?_
                  refine x_aaload (i) (dT U_X11_reply 54 rfl) (hset_ne (by omega) (w3.c94)) (Nat.le_of_ble_eq_true rfl) (by decide) rfl (mmL_get (by omega)) (Nat.le_of_ble_eq_true rfl) ?_
                  refine x_iload (dT U_X11_reply 55 rfl) rfl ?_
                  refine x_iaload (u) (dT U_X11_reply 56 rfl) (hset_ne (by omega) ((w3.masks i hi))) (by omega) rfl (by rw [(v.R i hi).1.m24.1]; omega) (by rw [(v.R i hi).1.m24.1]; omega) ?_
                  refine x_i2l (dT U_X11_reply 57 rfl) (by unfold xr; omega) ?_
                  refine x_aload_n (dT U_X11_reply 58 rfl) rfl ?_
                  refine x_getfield F_X11_49 (dT U_X11_reply 59 rfl) (hset_ne (by omega) (w3.c70)) (Nat.le_of_ble_eq_true rfl) rfl ?_
                  refine x_iload_n (dT U_X11_reply 60 rfl) rfl ?_
                  refine x_ialoadv (i) (dT U_X11_reply 61 rfl) (hset_ne (by omega) (w3.c101)) (Nat.le_of_ble_eq_true rfl) rfl (show i < 5 by omega) (show 5 < 2147483648 by decide) (show _ = (σ.R i).c from t5_get hi) ?_
                  refine x_i2l (dT U_X11_reply 62 rfl) (by unfold xr; omega) ?_
                  refine x_aload_n (dT U_X11_reply 63 rfl) rfl ?_
                  refine x_getfield F_X11_18 (dT U_X11_reply 64 rfl) (hset_ne (by omega) (w3.c70)) (Nat.le_of_ble_eq_true rfl) rfl ?_
                  refine x_iload_n (dT U_X11_reply 65 rfl) rfl ?_
                  refine x_aaload (j) (dT U_X11_reply 66 rfl) (hset_ne (by omega) (w3.c73)) (Nat.le_of_ble_eq_true rfl) (by decide) rfl (mrL_get (by omega)) (Nat.le_of_ble_eq_true rfl) ?_
                  refine x_iload (dT U_X11_reply 67 rfl) rfl ?_
                  refine x_iaload (u) (dT U_X11_reply 68 rfl) (hset_ne (by omega) ((w3.rows j hj))) (by omega) rfl (by rw [(v.rw j hj).1]; omega) (by rw [(v.rw j hj).1]; omega) ?_
                  refine x_i2l (dT U_X11_reply 69 rfl) (by unfold xr; omega) ?_
                  refine x_lmul (dT U_X11_reply 70 rfl) ?_
                  refine x_ladd (dT U_X11_reply 71 rfl) ?_
                  refine x_invokevirtual (rc' := rc) (rs' := rs) (rc2 := 0) (rs2 := 0) (As := [_]) (st := _) M_X11_f K_X11_156 (dT U_X11_reply 72 rfl) rfl rfl (by decide) rfl rfl (hset_ne (by omega) (w3.c70)) (Nat.le_of_ble_eq_true rfl) (by decide) rfl (Nat.le_of_ble_eq_true rfl) rfl (by decide) (Nat.le_of_ble_eq_true rfl) rfl rfl ?_
                  refine S_X11_f (MP.set (by omega) (w3.mp)) v.p (by unfold xrl; omega) ?_
                  refine xRet_some ?_
                  refine x_iastore (u) (dT U_X11_reply 73 rfl) (hset_eq (w3.answers i hi)) (by omega) rfl (by rw [fillL_len, ok.a24.1]; omega) (by rw [fillL_len, ok.a24.1]; omega) ?_
                  rw [List.set_set]
                  refine x_iinc (ls' := [some (.ref _), some (vi _), some (vi _), some (vi _), some (vi _)]) (dT U_X11_reply 74 rfl) (by decide) rfl rfl ?_
                  refine x_goto (tgt := 77) (dT U_X11_reply 75 rfl) (by decide) ?_
                  exact ih (u + 1) (by omega)
            have q := L 8 0 (by omega)
            rw [show fillL (fun u => ((σ.R i).mask.getD u 0 + (σ.R i).c * (σ.rw j).getD u 0) % (σ.p : Int)) (σ.R i).answer 0 = (σ.R i).answer from rfl, hset_self (w3.answers i hi)] at q
            exact q
      · refine xRet_some ?_
        refine x_iconst (dT U_X11_reply 17 rfl) ?_
        refine x_invokevirtual (rc' := rc) (rs' := rs) (rc2 := 0) (rs2 := 0) (As := [_, _]) (st := _) M_X11_lets K_X11_167 (dT U_X11_reply 18 rfl) rfl rfl (by decide) rfl rfl w1.c70 (Nat.le_of_ble_eq_true rfl) (by decide) rfl (Nat.le_of_ble_eq_true rfl) rfl (by decide) (Nat.le_of_ble_eq_true rfl) rfl rfl ?_
        refine S_X11_lets0 w1 (fun h2 g2 w2 => ?_)
        refine xRet_some ?_
        refine x_if_eqj (tgt := 72) (dT U_X11_reply 19 rfl) (by decide) (by decide) ?_
        refine x_iconst (dT U_X11_reply 38 rfl) ?_
        refine x_ireturn (dT U_X11_reply 39 rfl) rfl ?_
        exact e2 (by omega) (by omega) _ _ (Ag.tr (Ag.tr (Ag.rf 70 142 h) (g1.w (by omega))) (g2.w (by omega))) w2 (by unfold xr; omega)
    · refine xRet_some ?_
      refine x_if_eqj (tgt := 19) (dT U_X11_reply 6 rfl) (by decide) (by decide) ?_
      refine x_iconst (dT U_X11_reply 9 rfl) ?_
      refine x_iconst (dT U_X11_reply 10 rfl) ?_
      refine x_invokevirtual (rc' := rc) (rs' := rs) (rc2 := 0) (rs2 := 0) (As := [_, _]) (st := _) M_X11_lets K_X11_167 (dT U_X11_reply 11 rfl) rfl rfl (by decide) rfl rfl w.c70 (Nat.le_of_ble_eq_true rfl) (by decide) rfl (Nat.le_of_ble_eq_true rfl) rfl (by decide) (Nat.le_of_ble_eq_true rfl) rfl rfl ?_
      refine S_X11_lets0 w (fun h1 g1 w1 => ?_)
      refine xRet_some ?_
      refine x_if_eqj (tgt := 72) (dT U_X11_reply 12 rfl) (by decide) (by decide) ?_
      refine x_iconst (dT U_X11_reply 38 rfl) ?_
      refine x_ireturn (dT U_X11_reply 39 rfl) rfl ?_
      exact e1 (by omega) _ _ (Ag.tr (Ag.rf 70 142 h) (g1.w (by omega))) w1 (by unfold xr; omega)
  · refine xRet_some ?_
    refine x_if_eqj (tgt := 19) (dT U_X11_reply 3 rfl) (by decide) (by decide) ?_
    refine x_iconst (dT U_X11_reply 9 rfl) ?_
    refine x_iconst (dT U_X11_reply 10 rfl) ?_
    refine x_invokevirtual (rc' := rc) (rs' := rs) (rc2 := 0) (rs2 := 0) (As := [_, _]) (st := _) M_X11_lets K_X11_167 (dT U_X11_reply 11 rfl) rfl rfl (by decide) rfl rfl w.c70 (Nat.le_of_ble_eq_true rfl) (by decide) rfl (Nat.le_of_ble_eq_true rfl) rfl (by decide) (Nat.le_of_ble_eq_true rfl) rfl rfl ?_
    refine S_X11_lets0 w (fun h1 g1 w1 => ?_)
    refine xRet_some ?_
    refine x_if_eqj (tgt := 72) (dT U_X11_reply 12 rfl) (by decide) (by decide) ?_
    refine x_iconst (dT U_X11_reply 38 rfl) ?_
    refine x_ireturn (dT U_X11_reply 39 rfl) rfl ?_
    exact e1 (by omega) _ _ (Ag.tr (Ag.rf 70 142 h) (g1.w (by omega))) w1 (by unfold xr; omega)
