set_option maxRecDepth 20000 in
set_option maxHeartbeats 1000000 in
theorem S_X11_isTrue {G : xG} {d rc rs : Nat} {ex : Bool} {h : xH} {Q : xQ} {σ : St} {cc0 : Int} {rr : Nat} {ss : Int} (w : MX σ cc0 rr ss h) (v : INV σ) (k : ∀ h2 r2 s2, Ag 70 142 h h2 → MX σ 0 r2 s2 h2 → Q (.inl (some (vi 1))) ex h2) : X G m_X11_isTrue d rc rs ex 0 (xe m_X11_isTrue.2.2.1 [.ref 70]) [] h Q := by
  show X G m_X11_isTrue _ _ _ _ 0 [some (.ref 70)] [] h Q
  have hp := PRb v.p
  have hq := gq_b v.p
  refine x_aload_n (dT U_X11_isTrue 0 rfl) rfl ?_
  refine x_iconst (dT U_X11_isTrue 1 rfl) ?_
  refine x_putfield F_X11_122 (dT U_X11_isTrue 2 rfl) w.c70 (Nat.le_of_ble_eq_true rfl) (Nat.le_of_ble_eq_true rfl) rfl rfl ?_
  change X G _ _ _ _ _ _ _ _ (h.set 70 (mC 0 σ.p σ.G.n σ.g.b rr σ.g.c ss σ.g.z σ.g.o σ.L.n)) _
  have w1 := w.code (e := 0) (h2 := h.set 70 (mC 0 σ.p σ.G.n σ.g.b rr σ.g.c ss σ.g.z σ.g.o σ.L.n)) (fun a ha => hset_fr ha) (hset_eq w.c70)
  refine x_iconst (dT U_X11_isTrue 3 rfl) ?_
  refine x_zreturn (dT U_X11_isTrue 4 rfl) rfl (by omega) ?_
  exact k _ _ _ ((Ag.rf 70 142 h).set (by omega)) w1

theorem wo_rk0 : ∀ p ∈ PR, wo p 3 false = rkN p ∧ ((p ^ 3 : Nat) : Int) = (p : Int) * p * p := by decide +kernel

set_option maxRecDepth 20000 in
set_option maxHeartbeats 1000000 in
theorem S_X11_risk {G : xG} {d rc rs : Nat} {ex : Bool} {h : xH} {Q : xQ} {σ : St} {cc0 : Int} {rr : Nat} {ss : Int} {many : Int} (w : MX σ cc0 rr ss h) (v : INV σ) (h_many : xr many) (e1 : ¬ (1 ≤ many ∧ many ≤ 30) → ∀ h2 z, Ag 70 142 h h2 → MX σ 1 rr ss h2 → Q (.inl (some (.double z))) ex h2) (k : (1 ≤ many ∧ many ≤ 30) → ∀ h2 r2 s2, Ag 70 142 h h2 → MX σ 0 r2 s2 h2 → Q (.inl (some (.double (rkP σ.p many.toNat)))) ex h2) : X G m_X11_risk (d + 2) rc rs ex 0 (xe m_X11_risk.2.2.1 [.ref 70, vi many]) [] h Q := by
  show X G m_X11_risk _ _ _ _ 0 [some (.ref 70), some (vi many), none, none, none, none, none] [] h Q
  have hp := PRb v.p
  have hq := gq_b v.p
  refine x_aload_n (dT U_X11_risk 0 rfl) rfl ?_
  refine x_iload_n (dT U_X11_risk 1 rfl) rfl ?_
  refine x_iconst (dT U_X11_risk 2 rfl) ?_
  refine x_icmp_lt (tgt := 16) (dT U_X11_risk 3 rfl) (by decide) h_many (by unfold xr; omega) (fun c3 => ?_) (fun c3 => ?_)
  · skip
    refine x_iconst (dT U_X11_risk 9 rfl) ?_
    refine x_iconst (dT U_X11_risk 10 rfl) ?_
    refine x_invokevirtual (rc' := rc) (rs' := rs) (rc2 := 0) (rs2 := 0) (As := [_, _]) (st := _) M_X11_lets K_X11_167 (dT U_X11_risk 11 rfl) rfl rfl (by decide) rfl rfl w.c70 (Nat.le_of_ble_eq_true rfl) (by decide) rfl (Nat.le_of_ble_eq_true rfl) rfl (by decide) (Nat.le_of_ble_eq_true rfl) rfl rfl ?_
    refine S_X11_lets0 w (fun h1 g1 w1 => ?_)
    refine xRet_some ?_
    refine x_if_nen (tgt := 26) (dT U_X11_risk 12 rfl) (by decide) (by decide) ?_
    refine x_dconst0 (dT U_X11_risk 13 rfl) ?_
    refine x_dreturn (dT U_X11_risk 14 rfl) rfl ?_
    exact e1 (by omega) _ _ (Ag.tr (Ag.rf 70 142 h) (g1.w (by omega))) w1
  · skip
    refine x_iload_n (dT U_X11_risk 4 rfl) rfl ?_
    refine x_bipush (dT U_X11_risk 5 rfl) (by decide) ?_
    refine x_icmp_gt (tgt := 16) (dT U_X11_risk 6 rfl) (by decide) h_many (by unfold xr; omega) (fun c9 => ?_) (fun c9 => ?_)
    · skip
      refine x_iconst (dT U_X11_risk 9 rfl) ?_
      refine x_iconst (dT U_X11_risk 10 rfl) ?_
      refine x_invokevirtual (rc' := rc) (rs' := rs) (rc2 := 0) (rs2 := 0) (As := [_, _]) (st := _) M_X11_lets K_X11_167 (dT U_X11_risk 11 rfl) rfl rfl (by decide) rfl rfl w.c70 (Nat.le_of_ble_eq_true rfl) (by decide) rfl (Nat.le_of_ble_eq_true rfl) rfl (by decide) (Nat.le_of_ble_eq_true rfl) rfl rfl ?_
      refine S_X11_lets0 w (fun h1 g1 w1 => ?_)
      refine xRet_some ?_
      refine x_if_nen (tgt := 26) (dT U_X11_risk 12 rfl) (by decide) (by decide) ?_
      refine x_dconst0 (dT U_X11_risk 13 rfl) ?_
      refine x_dreturn (dT U_X11_risk 14 rfl) rfl ?_
      exact e1 (by omega) _ _ (Ag.tr (Ag.rf 70 142 h) (g1.w (by omega))) w1
    · skip
      refine x_iconst (dT U_X11_risk 7 rfl) ?_
      refine x_goto (tgt := 17) (dT U_X11_risk 8 rfl) (by decide) ?_
      refine x_iconst (dT U_X11_risk 10 rfl) ?_
      refine x_invokevirtual (rc' := rc) (rs' := rs) (rc2 := 0) (rs2 := 0) (As := [_, _]) (st := _) M_X11_lets K_X11_167 (dT U_X11_risk 11 rfl) rfl rfl (by decide) rfl rfl w.c70 (Nat.le_of_ble_eq_true rfl) (by decide) rfl (Nat.le_of_ble_eq_true rfl) rfl (by decide) (Nat.le_of_ble_eq_true rfl) rfl rfl ?_
      refine S_X11_lets1 w (fun h1 g1 w1 => ?_)
      refine xRet_some ?_
      refine x_if_nej (tgt := 26) (dT U_X11_risk 12 rfl) (by decide) (by decide) ?_
      refine x_aload_n (dT U_X11_risk 15 rfl) rfl ?_
      refine x_iconst (dT U_X11_risk 16 rfl) ?_
      refine x_iconst (dT U_X11_risk 17 rfl) ?_
      refine x_invokevirtual (rc' := rc) (rs' := rs) (rc2 := 0) (rs2 := 0) (As := [_, _]) (st := _) M_X11_winning K_X11_317 (dT U_X11_risk 18 rfl) rfl rfl (by decide) rfl rfl w1.c70 (Nat.le_of_ble_eq_true rfl) (by decide) rfl (Nat.le_of_ble_eq_true rfl) rfl (by decide) (Nat.le_of_ble_eq_true rfl) rfl rfl ?_
      refine S_X11_winning0 (t := 3) (w1.mp) v.p (by omega) ?_
      rw [(wo_rk0 σ.p v.p).1]
      refine xRet_some ?_
      refine x_i2d (dT U_X11_risk 19 rfl) ?_
      refine x_aload_n (dT U_X11_risk 20 rfl) rfl ?_
      refine x_getfield F_X11_130 (dT U_X11_risk 21 rfl) w1.c70 (Nat.le_of_ble_eq_true rfl) rfl ?_
      refine x_iconst (dT U_X11_risk 22 rfl) ?_
      refine x_invokestatic (rc' := rc) (rs' := rs) (rc2 := 0) (rs2 := 0) (As := [_, _]) (st := _) M_X11_powered K_X11_301 (dT U_X11_risk 23 rfl) rfl rfl rfl rfl (Nat.le_of_ble_eq_true rfl) rfl (by decide) (Nat.le_of_ble_eq_true rfl) rfl rfl ?_
      refine S_X11_powered (t := 3) (by omega) ?_
      rw [(wo_rk0 σ.p v.p).2]
      refine xRet_some ?_
      refine x_i2d (dT U_X11_risk 24 rfl) ?_
      refine x_ddiv (dT U_X11_risk 25 rfl) (vf_n64_dec _ (rk_ok0 σ.p v.p).1) ?_
      refine x_dstore_n (ls' := [some (.ref _), some (vi _), some (.double _), none, none, none, none]) (dT U_X11_risk 26 rfl) (by decide) rfl ?_
      refine x_dconst1 (dT U_X11_risk 27 rfl) ?_
      refine x_dstore (ls' := [some (.ref _), some (vi _), some (.double _), none, some (.double _), none, none]) (dT U_X11_risk 28 rfl) (by decide) rfl ?_
      refine x_iconst (dT U_X11_risk 29 rfl) ?_
      refine x_istore (ls' := [some (.ref _), some (vi _), some (.double _), none, some (.double _), none, some (vi _)]) (dT U_X11_risk 30 rfl) (by decide) rfl ?_
      have L : ∀ (n t : Nat), t + n = many.toNat → X G m_X11_risk (d + 2) rc rs ex 50 [some (.ref 70), some (vi many), some (.double (shr σ.p)), none, some (.double (rkP σ.p t)), none, some (vi (t : Int))] [] h1 Q := by
        intro n
        induction n with
        | zero =>
          intro t hi_ 
          refine x_iload (dT U_X11_risk 31 rfl) rfl ?_
          refine x_iload_n (dT U_X11_risk 32 rfl) rfl ?_
          refine x_icmp_ge (tgt := 68) (dT U_X11_risk 33 rfl) (by decide) (by unfold xr; omega) h_many (fun c53 => ?_) (fun c53 => ?_)
          · skip
            refine x_dload (dT U_X11_risk 40 rfl) rfl ?_
            refine x_dreturn (dT U_X11_risk 41 rfl) rfl ?_
            have e : t = many.toNat := by omega
            subst e
            exact k (by omega) _ _ _ (Ag.tr (Ag.rf 70 142 h) (g1.w (by omega))) w1
          · exfalso; omega
        | succ n ih =>
          intro t hi_ 
          refine x_iload (dT U_X11_risk 31 rfl) rfl ?_
          refine x_iload_n (dT U_X11_risk 32 rfl) rfl ?_
          refine x_icmp_ge (tgt := 68) (dT U_X11_risk 33 rfl) (by decide) (by unfold xr; omega) h_many (fun c53 => ?_) (fun c53 => ?_)
          · exfalso; omega
          · skip
            refine x_dload (dT U_X11_risk 34 rfl) rfl ?_
            refine x_dload_n (dT U_X11_risk 35 rfl) rfl ?_
            refine x_dmul (dT U_X11_risk 36 rfl) (vf_n64_dec _ (rk_ok1 σ.p v.p (t + 1) (List.mem_range.mpr (by omega))).1) ?_
            refine x_dstore (ls' := [some (.ref _), some (vi _), some (.double _), none, some (.double _), none, some (vi _)]) (dT U_X11_risk 37 rfl) (by decide) rfl ?_
            refine x_iinc (ls' := [some (.ref _), some (vi _), some (.double _), none, some (.double _), none, some (vi _)]) (dT U_X11_risk 38 rfl) (by decide) rfl rfl ?_
            refine x_goto (tgt := 50) (dT U_X11_risk 39 rfl) (by decide) ?_
            exact ih (t + 1) (by omega)
      exact L many.toNat 0 (by omega)

set_option maxRecDepth 20000 in
set_option maxHeartbeats 1000000 in
theorem S_mck1 {G : xG} {d rc rs a : Nat} {ex : Bool} {h : xH} {Q : xQ} {σ : St} {cc0 : Int} {rr : Nat} {ss : Int} (w : MX σ cc0 rr ss h) (v : INV σ) (ha : a < 8)
    (M : X G m_X11_checksum (d + 3) rc rs ex 56 [some (.ref 70), some (vl (rS σ (a + 1))), none, some (vi (a : Int)), some (vi ((8 : Nat) : Int))] [] h Q) : X G m_X11_checksum (d + 3) rc rs ex 26 [some (.ref 70), some (vl (rS σ a)), none, some (vi (a : Int)), some (vi 0)] [] h Q := by
  have hp := PRb v.p
  have la := v.rw a ha
  have L : ∀ (n b : Nat), b + n = 8 → X G m_X11_checksum (d + 3) rc rs ex 26 [some (.ref 70), some (vl (hs (gf (σ.rw a)) (rS σ a) b)), none, some (vi (a : Int)), some (vi (b : Int))] [] h Q := by
    intro n
    induction n with
    | zero =>
      intro b hi_ 
      refine x_iload (dT U_X11_checksum 16 rfl) rfl ?_
      refine x_bipush (dT U_X11_checksum 17 rfl) (by decide) ?_
      refine x_icmp_ge (tgt := 56) (dT U_X11_checksum 18 rfl) (by decide) (by unfold xr; omega) (by unfold xr at *; omega) (fun c30 => ?_) (fun c30 => ?_)
      · skip
        have e : b = 8 := by omega
        subst e
        exact M
      · exfalso; omega
    | succ n ih =>
      intro b hi_ 
      refine x_iload (dT U_X11_checksum 16 rfl) rfl ?_
      refine x_bipush (dT U_X11_checksum 17 rfl) (by decide) ?_
      refine x_icmp_ge (tgt := 56) (dT U_X11_checksum 18 rfl) (by decide) (by unfold xr; omega) (by unfold xr at *; omega) (fun c30 => ?_) (fun c30 => ?_)
      · exfalso; omega
      · skip
        refine x_ldc2 C_X11_344 (dT U_X11_checksum 19 rfl) ?_
        refine x_lload_n (dT U_X11_checksum 20 rfl) rfl ?_
        refine x_lmul (dT U_X11_checksum 21 rfl) ?_
        refine x_aload_n (dT U_X11_checksum 22 rfl) rfl ?_
        refine x_getfield F_X11_18 (dT U_X11_checksum 23 rfl) w.c70 (Nat.le_of_ble_eq_true rfl) rfl ?_
        refine x_iload_n (dT U_X11_checksum 24 rfl) rfl ?_
        refine x_aaload (a) (dT U_X11_checksum 25 rfl) w.c73 (Nat.le_of_ble_eq_true rfl) (by decide) rfl (mrL_get (by omega)) (Nat.le_of_ble_eq_true rfl) ?_
        refine x_iload (dT U_X11_checksum 26 rfl) rfl ?_
        refine x_iaload (b) (dT U_X11_checksum 27 rfl) (w.rows a ha) (by omega) rfl (by rw [(v.rw a ha).1]; omega) (by rw [(v.rw a ha).1]; omega) ?_
        refine x_i2l (dT U_X11_checksum 28 rfl) (by have := la.2 b; unfold xr; omega) ?_
        refine x_ladd (dT U_X11_checksum 29 rfl) ?_
        refine x_lstore_n (ls' := [some (.ref _), some (vl _), none, some (vi _), some (vi _)]) (dT U_X11_checksum 30 rfl) (by decide) rfl ?_
        refine x_iinc (ls' := [some (.ref _), some (vl _), none, some (vi _), some (vi _)]) (dT U_X11_checksum 31 rfl) (by decide) rfl rfl ?_
        refine x_goto (tgt := 26) (dT U_X11_checksum 32 rfl) (by decide) ?_
        exact ih (b + 1) (by omega)
  exact L 8 0 (by omega)

set_option maxRecDepth 20000 in
set_option maxHeartbeats 1000000 in
theorem S_mck2 {G : xG} {d rc rs a : Nat} {ex : Bool} {h : xH} {Q : xQ} {σ : St} {cc0 : Int} {rr : Nat} {ss : Int} (w : MX σ cc0 rr ss h) (v : INV σ) (ha : a < 4)
    (M : X G m_X11_checksum (d + 3) rc rs ex 100 [some (.ref 70), some (vl (uS σ (a + 1))), none, some (vi (a : Int)), some (vi ((6 : Nat) : Int))] [] h Q) : X G m_X11_checksum (d + 3) rc rs ex 72 [some (.ref 70), some (vl (uS σ a)), none, some (vi (a : Int)), some (vi 0)] [] h Q := by
  have hp := PRb v.p
  have L : ∀ (n b : Nat), b + n = 6 → X G m_X11_checksum (d + 3) rc rs ex 72 [some (.ref 70), some (vl (hs (fun j => (σ.R a).num σ.p j) (uS σ a) b)), none, some (vi (a : Int)), some (vi (b : Int))] [] h Q := by
    intro n
    induction n with
    | zero =>
      intro b hi_ 
      refine x_iload (dT U_X11_checksum 42 rfl) rfl ?_
      refine x_bipush (dT U_X11_checksum 43 rfl) (by decide) ?_
      refine x_icmp_ge (tgt := 100) (dT U_X11_checksum 44 rfl) (by decide) (by unfold xr; omega) (by unfold xr at *; omega) (fun c76 => ?_) (fun c76 => ?_)
      · skip
        have e : b = 6 := by omega
        subst e
        exact M
      · exfalso; omega
    | succ n ih =>
      intro b hi_ 
      refine x_iload (dT U_X11_checksum 42 rfl) rfl ?_
      refine x_bipush (dT U_X11_checksum 43 rfl) (by decide) ?_
      refine x_icmp_ge (tgt := 100) (dT U_X11_checksum 44 rfl) (by decide) (by unfold xr; omega) (by unfold xr at *; omega) (fun c76 => ?_) (fun c76 => ?_)
      · exfalso; omega
      · skip
        refine x_ldc2 C_X11_344 (dT U_X11_checksum 45 rfl) ?_
        refine x_lload_n (dT U_X11_checksum 46 rfl) rfl ?_
        refine x_lmul (dT U_X11_checksum 47 rfl) ?_
        refine x_aload_n (dT U_X11_checksum 48 rfl) rfl ?_
        refine x_iload_n (dT U_X11_checksum 49 rfl) rfl ?_
        refine x_iload (dT U_X11_checksum 50 rfl) rfl ?_
        refine x_invokevirtual (rc' := rc) (rs' := rs) (rc2 := 0) (rs2 := 0) (As := [_, _]) (st := _) M_X11_said K_X11_268 (dT U_X11_checksum 51 rfl) rfl rfl (by decide) rfl rfl w.c70 (Nat.le_of_ble_eq_true rfl) (by decide) rfl (Nat.le_of_ble_eq_true rfl) rfl (by decide) (Nat.le_of_ble_eq_true rfl) rfl rfl ?_
        refine S_said w v ha (by omega) ?_
        refine xRet_some ?_
        refine x_i2l (dT U_X11_checksum 52 rfl) (num_b v.p (v.R a ha).1 b) ?_
        refine x_ladd (dT U_X11_checksum 53 rfl) ?_
        refine x_lstore_n (ls' := [some (.ref _), some (vl _), none, some (vi _), some (vi _)]) (dT U_X11_checksum 54 rfl) (by decide) rfl ?_
        refine x_iinc (ls' := [some (.ref _), some (vl _), none, some (vi _), some (vi _)]) (dT U_X11_checksum 55 rfl) (by decide) rfl rfl ?_
        refine x_goto (tgt := 72) (dT U_X11_checksum 56 rfl) (by decide) ?_
        exact ih (b + 1) (by omega)
  exact L 6 0 (by omega)

set_option maxRecDepth 20000 in
set_option maxHeartbeats 1000000 in
theorem S_X11_checksum {G : xG} {d rc rs : Nat} {ex : Bool} {h : xH} {Q : xQ} {σ : St} {cc0 : Int} {rr : Nat} {ss : Int} (w : MX σ cc0 rr ss h) (v : INV σ) (k : ∀ h2 r2 s2, Ag 70 142 h h2 → MX σ 0 r2 s2 h2 → Q (.inl (some (vl (ckS σ)))) ex h2) : X G m_X11_checksum (d + 3) rc rs ex 0 (xe m_X11_checksum.2.2.1 [.ref 70]) [] h Q := by
  show X G m_X11_checksum _ _ _ _ 0 [some (.ref 70), none, none, none, none] [] h Q
  have hp := PRb v.p
  have hq := gq_b v.p
  obtain ⟨l1, l2, l3, l4, l5, l6, l7⟩ := v.L
  have gn := v.G.1
  refine x_aload_n (dT U_X11_checksum 0 rfl) rfl ?_
  refine x_iconst (dT U_X11_checksum 1 rfl) ?_
  refine x_putfield F_X11_122 (dT U_X11_checksum 2 rfl) w.c70 (Nat.le_of_ble_eq_true rfl) (Nat.le_of_ble_eq_true rfl) rfl rfl ?_
  change X G _ _ _ _ _ _ _ _ (h.set 70 (mC 0 σ.p σ.G.n σ.g.b rr σ.g.c ss σ.g.z σ.g.o σ.L.n)) _
  have w1 := w.code (e := 0) (h2 := h.set 70 (mC 0 σ.p σ.G.n σ.g.b rr σ.g.c ss σ.g.z σ.g.o σ.L.n)) (fun a ha => hset_fr ha) (hset_eq w.c70)
  refine x_ldc2 C_X11_342 (dT U_X11_checksum 3 rfl) ?_
  refine x_aload_n (dT U_X11_checksum 4 rfl) rfl ?_
  refine x_getfield F_X11_130 (dT U_X11_checksum 5 rfl) w1.c70 (Nat.le_of_ble_eq_true rfl) rfl ?_
  refine x_i2l (dT U_X11_checksum 6 rfl) (by unfold xr; omega) ?_
  refine x_ladd (dT U_X11_checksum 7 rfl) ?_
  refine x_lstore_n (ls' := [some (.ref _), some (vl _), none, none, none]) (dT U_X11_checksum 8 rfl) (by decide) rfl ?_
  refine x_iconst (dT U_X11_checksum 9 rfl) ?_
  refine x_istore_n (ls' := [some (.ref _), some (vl _), none, some (vi _), none]) (dT U_X11_checksum 10 rfl) (by decide) rfl ?_
  have L3 : ∀ (n a : Nat), a + n = σ.L.n → X G m_X11_checksum (d + 3) rc rs ex 108 [some (.ref 70), some (vl (hs (fun i => nv σ.p (σ.L.nn.getD i 0)) (uS σ 4) a)), none, some (vi (a : Int)), none] [] (h.set 70 (mC 0 σ.p σ.G.n σ.g.b rr σ.g.c ss σ.g.z σ.g.o σ.L.n)) Q := by
    intro n
    induction n with
    | zero =>
      intro a hi_ 
      refine x_iload_n (dT U_X11_checksum 61 rfl) rfl ?_
      refine x_aload_n (dT U_X11_checksum 62 rfl) rfl ?_
      refine x_getfield F_X11_143 (dT U_X11_checksum 63 rfl) w1.c70 (Nat.le_of_ble_eq_true rfl) rfl ?_
      refine x_icmp_ge (tgt := 135) (dT U_X11_checksum 64 rfl) (by decide) (by unfold xr; omega) (by unfold xr; omega) (fun c113 => ?_) (fun c113 => ?_)
      · skip
        have e : a = σ.L.n := by omega
        rw [e]
        refine x_ldc2 C_X11_344 (dT U_X11_checksum 76 rfl) ?_
        refine x_lload_n (dT U_X11_checksum 77 rfl) rfl ?_
        refine x_lmul (dT U_X11_checksum 78 rfl) ?_
        refine x_aload_n (dT U_X11_checksum 79 rfl) rfl ?_
        refine x_getfield F_X11_140 (dT U_X11_checksum 80 rfl) w1.c70 (Nat.le_of_ble_eq_true rfl) rfl ?_
        refine x_i2l (dT U_X11_checksum 81 rfl) (by unfold xr; omega) ?_
        refine x_ladd (dT U_X11_checksum 82 rfl) ?_
        refine x_lreturn (dT U_X11_checksum 83 rfl) rfl ?_
        exact k _ _ _ ((Ag.rf 70 142 h).set (by omega)) w1
      · exfalso; omega
    | succ n ih =>
      intro a hi_ 
      refine x_iload_n (dT U_X11_checksum 61 rfl) rfl ?_
      refine x_aload_n (dT U_X11_checksum 62 rfl) rfl ?_
      refine x_getfield F_X11_143 (dT U_X11_checksum 63 rfl) w1.c70 (Nat.le_of_ble_eq_true rfl) rfl ?_
      refine x_icmp_ge (tgt := 135) (dT U_X11_checksum 64 rfl) (by decide) (by unfold xr; omega) (by unfold xr; omega) (fun c113 => ?_) (fun c113 => ?_)
      · exfalso; omega
      · skip
        refine x_ldc2 C_X11_344 (dT U_X11_checksum 65 rfl) ?_
        refine x_lload_n (dT U_X11_checksum 66 rfl) rfl ?_
        refine x_lmul (dT U_X11_checksum 67 rfl) ?_
        refine x_aload_n (dT U_X11_checksum 68 rfl) rfl ?_
        refine x_iload_n (dT U_X11_checksum 69 rfl) rfl ?_
        refine x_invokevirtual (rc' := rc) (rs' := rs) (rc2 := 0) (rs2 := 0) (As := [_]) (st := _) M_X11_shown K_X11_336 (dT U_X11_checksum 70 rfl) rfl rfl (by decide) rfl rfl w1.c70 (Nat.le_of_ble_eq_true rfl) (by decide) rfl (Nat.le_of_ble_eq_true rfl) rfl (by decide) (Nat.le_of_ble_eq_true rfl) rfl rfl ?_
        refine S_X11_shown w1 v (by omega) ?_
        refine xRet_some ?_
        refine x_i2l (dT U_X11_checksum 71 rfl) (by have := (nv_b v.p (l4 a (by omega))).1; unfold xr; omega) ?_
        refine x_ladd (dT U_X11_checksum 72 rfl) ?_
        refine x_lstore_n (ls' := [some (.ref _), some (vl _), none, some (vi _), none]) (dT U_X11_checksum 73 rfl) (by decide) rfl ?_
        refine x_iinc (ls' := [some (.ref _), some (vl _), none, some (vi _), none]) (dT U_X11_checksum 74 rfl) (by decide) rfl rfl ?_
        refine x_goto (tgt := 108) (dT U_X11_checksum 75 rfl) (by decide) ?_
        exact ih (a + 1) (by omega)
  have L2 : ∀ (n a : Nat), a + n = 4 → X G m_X11_checksum (d + 3) rc rs ex 64 [some (.ref 70), some (vl (uS σ a)), none, some (vi (a : Int)), none] [] (h.set 70 (mC 0 σ.p σ.G.n σ.g.b rr σ.g.c ss σ.g.z σ.g.o σ.L.n)) Q := by
    intro n
    induction n with
    | zero =>
      intro a hi_ 
      refine x_iload_n (dT U_X11_checksum 37 rfl) rfl ?_
      refine x_iconst (dT U_X11_checksum 38 rfl) ?_
      refine x_icmp_ge (tgt := 106) (dT U_X11_checksum 39 rfl) (by decide) (by unfold xr; omega) (by unfold xr at *; omega) (fun c66 => ?_) (fun c66 => ?_)
      · skip
        refine x_iconst (dT U_X11_checksum 59 rfl) ?_
        refine x_istore_n (ls' := [some (.ref _), some (vl _), none, some (vi _), none]) (dT U_X11_checksum 60 rfl) (by decide) rfl ?_
        have e : a = 4 := by omega
        subst e
        exact L3 σ.L.n 0 (by omega)
      · exfalso; omega
    | succ n ih =>
      intro a hi_ 
      refine x_iload_n (dT U_X11_checksum 37 rfl) rfl ?_
      refine x_iconst (dT U_X11_checksum 38 rfl) ?_
      refine x_icmp_ge (tgt := 106) (dT U_X11_checksum 39 rfl) (by decide) (by unfold xr; omega) (by unfold xr at *; omega) (fun c66 => ?_) (fun c66 => ?_)
      · exfalso; omega
      · skip
        refine x_iconst (dT U_X11_checksum 40 rfl) ?_
        refine x_istore (ls' := [some (.ref _), some (vl _), none, some (vi _), some (vi _)]) (dT U_X11_checksum 41 rfl) (by decide) rfl ?_
        refine x_drop (ls' := [some (.ref 70), some (vl (uS σ a)), none, some (vi (a : Int)), some (vi 0)]) ?_ (S_mck2 w1 v (by omega) ?_)
        · repeat (first | exact trivial | refine ⟨rfl, ?_⟩ | refine ⟨trivial, ?_⟩)
        · refine x_iinc (ls' := [some (.ref _), some (vl _), none, some (vi _), some (vi _)]) (dT U_X11_checksum 57 rfl) (by decide) rfl rfl ?_
          refine x_goto (tgt := 64) (dT U_X11_checksum 58 rfl) (by decide) ?_
          refine x_drop ?_ (ih (a + 1) (by omega))
          repeat (first | exact trivial | refine ⟨rfl, ?_⟩ | refine ⟨trivial, ?_⟩)
  have L1 : ∀ (n a : Nat), a + n = 8 → X G m_X11_checksum (d + 3) rc rs ex 17 [some (.ref 70), some (vl (rS σ a)), none, some (vi (a : Int)), none] [] (h.set 70 (mC 0 σ.p σ.G.n σ.g.b rr σ.g.c ss σ.g.z σ.g.o σ.L.n)) Q := by
    intro n
    induction n with
    | zero =>
      intro a hi_ 
      refine x_iload_n (dT U_X11_checksum 11 rfl) rfl ?_
      refine x_bipush (dT U_X11_checksum 12 rfl) (by decide) ?_
      refine x_icmp_ge (tgt := 62) (dT U_X11_checksum 13 rfl) (by decide) (by unfold xr; omega) (by unfold xr at *; omega) (fun c20 => ?_) (fun c20 => ?_)
      · skip
        refine x_iconst (dT U_X11_checksum 35 rfl) ?_
        refine x_istore_n (ls' := [some (.ref _), some (vl _), none, some (vi _), none]) (dT U_X11_checksum 36 rfl) (by decide) rfl ?_
        have e : a = 8 := by omega
        subst e
        exact L2 4 0 (by omega)
      · exfalso; omega
    | succ n ih =>
      intro a hi_ 
      refine x_iload_n (dT U_X11_checksum 11 rfl) rfl ?_
      refine x_bipush (dT U_X11_checksum 12 rfl) (by decide) ?_
      refine x_icmp_ge (tgt := 62) (dT U_X11_checksum 13 rfl) (by decide) (by unfold xr; omega) (by unfold xr at *; omega) (fun c20 => ?_) (fun c20 => ?_)
      · exfalso; omega
      · skip
        refine x_iconst (dT U_X11_checksum 14 rfl) ?_
        refine x_istore (ls' := [some (.ref _), some (vl _), none, some (vi _), some (vi _)]) (dT U_X11_checksum 15 rfl) (by decide) rfl ?_
        refine x_drop (ls' := [some (.ref 70), some (vl (rS σ a)), none, some (vi (a : Int)), some (vi 0)]) ?_ (S_mck1 w1 v (by omega) ?_)
        · repeat (first | exact trivial | refine ⟨rfl, ?_⟩ | refine ⟨trivial, ?_⟩)
        · refine x_iinc (ls' := [some (.ref _), some (vl _), none, some (vi _), some (vi _)]) (dT U_X11_checksum 33 rfl) (by decide) rfl rfl ?_
          refine x_goto (tgt := 17) (dT U_X11_checksum 34 rfl) (by decide) ?_
          refine x_drop ?_ (ih (a + 1) (by omega))
          repeat (first | exact trivial | refine ⟨rfl, ?_⟩ | refine ⟨trivial, ?_⟩)
  exact L1 8 0 (by omega)

theorem brk_math {p : Nat} {l : List Int} {j : Nat} {b : Int} (hp : p ∈ PR) (hl : Fl (p : Int) l) (hj : j < 8) : ((cm p l b - wt p (l.set j ((l.getD j 0 + 1) % (p : Int)))) % (p : Int)) * (iv p (bs p 8) : Int) % (p : Int) = (b - ((bs p j : Int) * (iv p (bs p 8) : Int)) % (p : Int)) % (p : Int) := by
  have hb := PRb hp
  have h8 := bs_b hp (i := 8) (by omega)
  have hiv := iv_ok hp h8.2 h8.1
  have hiv1 : (bs p 8 : Int) * (iv p (bs p 8) : Int) % (p : Int) = 1 := by
    rw [← Int.natCast_mul, ← Int.natCast_emod, hiv.1]; rfl
  generalize (iv p (bs p 8) : Int) = w at *
  have e1 : wt p (l.set j ((l.getD j 0 + 1) % (p : Int))) = wt p l - (bs p j : Int) * l.getD j 0 + (bs p j : Int) * ((l.getD j 0 + 1) % (p : Int)) := by
    unfold wt
    rw [sm_upd (g := fun i => (bs p i : Int) * l.getD i 0) (k := j) 8 hj (fun i hi => by rw [gset_n hi]), gset_e (by rw [hl.1]; exact hj)]
  unfold cm
  rw [e1]
  obtain ⟨x, hx⟩ := emx (a := l.getD j 0 + 1) (p := (p : Int))
  obtain ⟨y, hy⟩ := emx (a := (bs p 8 : Int) * w) (p := (p : Int))
  rw [hiv1] at hy
  obtain ⟨z, hz⟩ := emx (a := wt p l + (bs p 8 : Int) * b) (p := (p : Int))
  rw [hx, hz, sm_r, ml_l]
  generalize wt p l = W at *
  generalize (bs p j : Int) = B at *
  generalize (bs p 8 : Int) = E at *
  generalize l.getD j 0 = c at *
  have e2 : E * w = 1 + p * y := by omega
  have e3 : (W + E * b - p * z - (W - B * c + B * (c + 1 - p * x))) * w - (b - B * w) = E * w * b - b + p * (B * x * w - z * w) := by grind
  exact emq (y * b + B * x * w - z * w) (by rw [e3, e2]; grind)

set_option maxRecDepth 20000 in
set_option maxHeartbeats 1000000 in
theorem S_X11_breaks {G : xG} {d rc rs : Nat} {ex : Bool} {h : xH} {Q : xQ} {σ : St} {cc0 : Int} {rr : Nat} {ss : Int} {row blind place to : Int} (w : MX σ cc0 rr ss h) (v : INV σ) (h_row : xr row) (h_blind : xr blind) (h_place : xr place) (h_to : xr to) (e1 : ¬ (inb row 8 ∧ inb place 8 ∧ inb to 8) → ∀ h2 z, Ag 70 142 h h2 → MX σ 1 rr ss h2 → xr z → Q (.inl (some (vi z))) ex h2) (e2 : (inb row 8 ∧ inb place 8 ∧ inb to 8) → ¬ (inb blind σ.p) → ∀ h2 z, Ag 70 142 h h2 → MX σ 2 rr ss h2 → xr z → Q (.inl (some (vi z))) ex h2) (k : (inb row 8 ∧ inb place 8 ∧ inb to 8) → (inb blind σ.p) → ∀ h2 r2 s2, Ag 70 142 h h2 → MX (σ.sRow to.toNat ((σ.rw row.toNat).set place.toNat (((σ.rw row.toNat).getD place.toNat 0 + 1) % (σ.p : Int)))) 0 r2 s2 h2 → Q (.inl (some (vi (((cm σ.p (σ.rw row.toNat) blind - wt σ.p ((σ.rw row.toNat).set place.toNat (((σ.rw row.toNat).getD place.toNat 0 + 1) % (σ.p : Int)))) % (σ.p : Int)) * (iv σ.p (bs σ.p 8) : Int) % (σ.p : Int))))) ex h2) : X G m_X11_breaks (d + 2) rc rs ex 0 (xe m_X11_breaks.2.2.1 [.ref 70, vi row, vi blind, vi place, vi to]) [] h Q := by
  show X G m_X11_breaks _ _ _ _ 0 [some (.ref 70), some (vi row), some (vi blind), some (vi place), some (vi to)] [] h Q
  have hp := PRb v.p
  have hq := gq_b v.p
  refine x_aload_n (dT U_X11_breaks 0 rfl) rfl ?_
  refine x_iload_n (dT U_X11_breaks 1 rfl) rfl ?_
  refine x_invokestatic (rc' := rc) (rs' := rs) (rc2 := 0) (rs2 := 0) (As := [_]) (st := _) M_X11_isRow K_X11_164 (dT U_X11_breaks 2 rfl) rfl rfl rfl rfl (Nat.le_of_ble_eq_true rfl) rfl (by decide) (Nat.le_of_ble_eq_true rfl) rfl rfl ?_
  refine S_X11_isRow h_row (fun q1 => ?_) (fun q1 => ?_)
  · refine xRet_some ?_
    refine x_if_eqn (tgt := 27) (dT U_X11_breaks 3 rfl) (by decide) (by decide) ?_
    refine x_iload_n (dT U_X11_breaks 4 rfl) rfl ?_
    refine x_invokestatic (rc' := rc) (rs' := rs) (rc2 := 0) (rs2 := 0) (As := [_]) (st := _) M_X11_isRow K_X11_164 (dT U_X11_breaks 5 rfl) rfl rfl rfl rfl (Nat.le_of_ble_eq_true rfl) rfl (by decide) (Nat.le_of_ble_eq_true rfl) rfl rfl ?_
    refine S_X11_isRow h_place (fun q2 => ?_) (fun q2 => ?_)
    · refine xRet_some ?_
      refine x_if_eqn (tgt := 27) (dT U_X11_breaks 6 rfl) (by decide) (by decide) ?_
      refine x_iload (dT U_X11_breaks 7 rfl) rfl ?_
      refine x_invokestatic (rc' := rc) (rs' := rs) (rc2 := 0) (rs2 := 0) (As := [_]) (st := _) M_X11_isRow K_X11_164 (dT U_X11_breaks 8 rfl) rfl rfl rfl rfl (Nat.le_of_ble_eq_true rfl) rfl (by decide) (Nat.le_of_ble_eq_true rfl) rfl rfl ?_
      refine S_X11_isRow h_to (fun q3 => ?_) (fun q3 => ?_)
      · refine xRet_some ?_
        refine x_if_eqn (tgt := 27) (dT U_X11_breaks 9 rfl) (by decide) (by decide) ?_
        refine x_iconst (dT U_X11_breaks 10 rfl) ?_
        refine x_goto (tgt := 28) (dT U_X11_breaks 11 rfl) (by decide) ?_
        refine x_iconst (dT U_X11_breaks 13 rfl) ?_
        refine x_invokevirtual (rc' := rc) (rs' := rs) (rc2 := 0) (rs2 := 0) (As := [_, _]) (st := _) M_X11_lets K_X11_167 (dT U_X11_breaks 14 rfl) rfl rfl (by decide) rfl rfl w.c70 (Nat.le_of_ble_eq_true rfl) (by decide) rfl (Nat.le_of_ble_eq_true rfl) rfl (by decide) (Nat.le_of_ble_eq_true rfl) rfl rfl ?_
        refine S_X11_lets1 w (fun h1 g1 w1 => ?_)
        refine xRet_some ?_
        obtain ⟨i, hi, rfl⟩ : ∃ j : Nat, j < 8 ∧ row = (j : Int) := ⟨row.toNat, by omega, by omega⟩
        try simp only [tnc] at e1 e2 k
        obtain ⟨j, hj, rfl⟩ : ∃ j : Nat, j < 8 ∧ place = (j : Int) := ⟨place.toNat, by omega, by omega⟩
        try simp only [tnc] at e1 e2 k
        obtain ⟨t, ht, rfl⟩ : ∃ j : Nat, j < 8 ∧ to = (j : Int) := ⟨to.toNat, by omega, by omega⟩
        try simp only [tnc] at e1 e2 k
        refine x_if_eqn (tgt := 48) (dT U_X11_breaks 15 rfl) (by decide) (by decide) ?_
        refine x_aload_n (dT U_X11_breaks 16 rfl) rfl ?_
        refine x_aload_n (dT U_X11_breaks 17 rfl) rfl ?_
        refine x_iload_n (dT U_X11_breaks 18 rfl) rfl ?_
        refine x_invokevirtual (rc' := rc) (rs' := rs) (rc2 := 0) (rs2 := 0) (As := [_]) (st := _) M_X11_isNumber K_X11_174 (dT U_X11_breaks 19 rfl) rfl rfl (by decide) rfl rfl w1.c70 (Nat.le_of_ble_eq_true rfl) (by decide) rfl (Nat.le_of_ble_eq_true rfl) rfl (by decide) (Nat.le_of_ble_eq_true rfl) rfl rfl ?_
        refine S_X11_isNumber (w1.mp) v.p h_blind (fun q4 => ?_) (fun q4 => ?_)
        · refine xRet_some ?_
          refine x_iconst (dT U_X11_breaks 20 rfl) ?_
          refine x_invokevirtual (rc' := rc) (rs' := rs) (rc2 := 0) (rs2 := 0) (As := [_, _]) (st := _) M_X11_lets K_X11_167 (dT U_X11_breaks 21 rfl) rfl rfl (by decide) rfl rfl w1.c70 (Nat.le_of_ble_eq_true rfl) (by decide) rfl (Nat.le_of_ble_eq_true rfl) rfl (by decide) (Nat.le_of_ble_eq_true rfl) rfl rfl ?_
          refine S_X11_lets1 w1 (fun h2 g2 w2 => ?_)
          refine xRet_some ?_
          refine x_if_nej (tgt := 50) (dT U_X11_breaks 22 rfl) (by decide) (by decide) ?_
          refine x_aload_n (dT U_X11_breaks 25 rfl) rfl ?_
          refine x_getfield F_X11_18 (dT U_X11_breaks 26 rfl) w2.c70 (Nat.le_of_ble_eq_true rfl) rfl ?_
          refine x_iload (dT U_X11_breaks 27 rfl) rfl ?_
          refine x_aaload (t) (dT U_X11_breaks 28 rfl) w2.c73 (Nat.le_of_ble_eq_true rfl) (by decide) rfl (mrL_get (by omega)) (Nat.le_of_ble_eq_true rfl) ?_
          refine x_aload_n (dT U_X11_breaks 29 rfl) rfl ?_
          refine x_getfield F_X11_18 (dT U_X11_breaks 30 rfl) w2.c70 (Nat.le_of_ble_eq_true rfl) rfl ?_
          refine x_iload_n (dT U_X11_breaks 31 rfl) rfl ?_
          refine x_aaload (i) (dT U_X11_breaks 32 rfl) w2.c73 (Nat.le_of_ble_eq_true rfl) (by decide) rfl (mrL_get (by omega)) (Nat.le_of_ble_eq_true rfl) ?_
          refine x_invokestatic (rc' := rc) (rs' := rs) (rc2 := 0) (rs2 := 0) (As := [_, _]) (st := _) M_X11_becomes K_X11_189 (dT U_X11_breaks 33 rfl) rfl rfl rfl rfl (Nat.le_of_ble_eq_true rfl) rfl (by decide) (Nat.le_of_ble_eq_true rfl) rfl rfl ?_
          refine S_becomes8 (w2.rows t ht) (by omega) (v.rw t ht).1 (w2.rows i hi) (by omega) (v.rw i hi).1 ?_
          refine xRet_none ?_
          refine x_aload_n (dT U_X11_breaks 34 rfl) rfl ?_
          refine x_getfield F_X11_18 (dT U_X11_breaks 35 rfl) (hset_ne (by omega) (w2.c70)) (Nat.le_of_ble_eq_true rfl) rfl ?_
          refine x_iload (dT U_X11_breaks 36 rfl) rfl ?_
          refine x_aaload (t) (dT U_X11_breaks 37 rfl) (hset_ne (by omega) (w2.c73)) (Nat.le_of_ble_eq_true rfl) (by decide) rfl (mrL_get (by omega)) (Nat.le_of_ble_eq_true rfl) ?_
          refine x_iload_n (dT U_X11_breaks 38 rfl) rfl ?_
          refine x_aload_n (dT U_X11_breaks 39 rfl) rfl ?_
          refine x_aload_n (dT U_X11_breaks 40 rfl) rfl ?_
          refine x_getfield F_X11_18 (dT U_X11_breaks 41 rfl) (hset_ne (by omega) (w2.c70)) (Nat.le_of_ble_eq_true rfl) rfl ?_
          refine x_iload (dT U_X11_breaks 42 rfl) rfl ?_
          refine x_aaload (t) (dT U_X11_breaks 43 rfl) (hset_ne (by omega) (w2.c73)) (Nat.le_of_ble_eq_true rfl) (by decide) rfl (mrL_get (by omega)) (Nat.le_of_ble_eq_true rfl) ?_
          refine x_iload_n (dT U_X11_breaks 44 rfl) rfl ?_
          refine x_iaload (j) (dT U_X11_breaks 45 rfl) (hset_eq (w2.rows t ht)) (by omega) rfl (by rw [(v.rw i hi).1]; omega) (by rw [(v.rw i hi).1]; omega) ?_
          refine x_i2l (dT U_X11_breaks 46 rfl) (by have := (v.rw i hi).2 j; unfold xr; omega) ?_
          refine x_lconst (z := 1) (dT U_X11_breaks 47 rfl) rfl ?_
          refine x_ladd (dT U_X11_breaks 48 rfl) ?_
          refine x_invokevirtual (rc' := rc) (rs' := rs) (rc2 := 0) (rs2 := 0) (As := [_]) (st := _) M_X11_f K_X11_156 (dT U_X11_breaks 49 rfl) rfl rfl (by decide) rfl rfl (hset_ne (by omega) (w2.c70)) (Nat.le_of_ble_eq_true rfl) (by decide) rfl (Nat.le_of_ble_eq_true rfl) rfl (by decide) (Nat.le_of_ble_eq_true rfl) rfl rfl ?_
          have rb := (v.rw i hi).2 j
          refine S_X11_f (MP.set (by omega) (w2.mp)) v.p (by unfold xrl; omega) ?_
          refine xRet_some ?_
          refine x_iastore (j) (dT U_X11_breaks 50 rfl) (hset_eq (w2.rows t ht)) (by omega) rfl (by rw [(v.rw i hi).1]; omega) (by rw [(v.rw i hi).1]; omega) ?_
          rw [List.set_set]
          refine x_aload_n (dT U_X11_breaks 51 rfl) rfl ?_
          refine x_iload_n (dT U_X11_breaks 52 rfl) rfl ?_
          refine x_i2l (dT U_X11_breaks 53 rfl) (by unfold xr; omega) ?_
          refine x_aload_n (dT U_X11_breaks 54 rfl) rfl ?_
          refine x_aload_n (dT U_X11_breaks 55 rfl) rfl ?_
          refine x_iload_n (dT U_X11_breaks 56 rfl) rfl ?_
          refine x_invokevirtual (rc' := rc) (rs' := rs) (rc2 := 0) (rs2 := 0) (As := [_]) (st := _) M_X11_of K_X11_160 (dT U_X11_breaks 57 rfl) rfl rfl (by decide) rfl rfl (hset_ne (by omega) (w2.c70)) (Nat.le_of_ble_eq_true rfl) (by decide) rfl (Nat.le_of_ble_eq_true rfl) rfl (by decide) (Nat.le_of_ble_eq_true rfl) rfl rfl ?_
          have bj := bs_b v.p (i := j) (by omega)
          refine S_X11_of (i := j) (MP.set (by omega) (w2.mp)) v.p (by omega) ?_
          refine xRet_some ?_
          refine x_aload_n (dT U_X11_breaks 58 rfl) rfl ?_
          refine x_bipush (dT U_X11_breaks 59 rfl) (by decide) ?_
          refine x_invokevirtual (rc' := rc) (rs' := rs) (rc2 := 0) (rs2 := 0) (As := [_]) (st := _) M_X11_of K_X11_160 (dT U_X11_breaks 60 rfl) rfl rfl (by decide) rfl rfl (hset_ne (by omega) (w2.c70)) (Nat.le_of_ble_eq_true rfl) (by decide) rfl (Nat.le_of_ble_eq_true rfl) rfl (by decide) (Nat.le_of_ble_eq_true rfl) rfl rfl ?_
          have bb8 := bs_b v.p (i := 8) (by omega)
          refine S_X11_of (i := 8) (MP.set (by omega) (w2.mp)) v.p (by omega) ?_
          refine xRet_some ?_
          refine x_invokevirtual (rc' := rc) (rs' := rs) (rc2 := 0) (rs2 := 0) (As := [_, _]) (st := _) M_X11_over K_X11_193 (dT U_X11_breaks 61 rfl) rfl rfl (by decide) rfl rfl (hset_ne (by omega) (w2.c70)) (Nat.le_of_ble_eq_true rfl) (by decide) rfl (Nat.le_of_ble_eq_true rfl) rfl (by decide) (Nat.le_of_ble_eq_true rfl) rfl rfl ?_
          have zo := modb (z := (bs σ.p j : Int) * (iv σ.p (bs σ.p 8) : Int)) (p := (σ.p : Int)) (by omega)
          refine S_overI (MP.set (by omega) (w2.mp)) v.p (by omega) (by omega) ?_
          rw [Int.toNat_natCast]
          refine xRet_some ?_
          refine x_i2l (dT U_X11_breaks 62 rfl) (by unfold xr; omega) ?_
          refine x_lsub (dT U_X11_breaks 63 rfl) ?_
          refine x_invokevirtual (rc' := rc) (rs' := rs) (rc2 := 0) (rs2 := 0) (As := [_]) (st := _) M_X11_f K_X11_156 (dT U_X11_breaks 64 rfl) rfl rfl (by decide) rfl rfl (hset_ne (by omega) (w2.c70)) (Nat.le_of_ble_eq_true rfl) (by decide) rfl (Nat.le_of_ble_eq_true rfl) rfl (by decide) (Nat.le_of_ble_eq_true rfl) rfl rfl ?_
          refine S_X11_f (MP.set (by omega) (w2.mp)) v.p (by unfold xrl; omega) ?_
          refine xRet_some ?_
          refine x_ireturn (dT U_X11_breaks 65 rfl) rfl ?_
          rw [← brk_math v.p (v.rw i hi) hj]
          exact k (by omega) (by omega) _ _ _ ((Ag.tr (Ag.tr (Ag.rf 70 142 h) (g1.w (by omega))) (g2.w (by omega))).set (by omega)) (w2.row (i := t) (l := ((σ.rw i).set j (((σ.rw i).getD j 0 + 1) % (σ.p : Int)))) (fun a ha => by rw [hset_fr (by omega)]) ht (hset_eq (w2.rows t ht)))
        · refine xRet_some ?_
          refine x_iconst (dT U_X11_breaks 20 rfl) ?_
          refine x_invokevirtual (rc' := rc) (rs' := rs) (rc2 := 0) (rs2 := 0) (As := [_, _]) (st := _) M_X11_lets K_X11_167 (dT U_X11_breaks 21 rfl) rfl rfl (by decide) rfl rfl w1.c70 (Nat.le_of_ble_eq_true rfl) (by decide) rfl (Nat.le_of_ble_eq_true rfl) rfl (by decide) (Nat.le_of_ble_eq_true rfl) rfl rfl ?_
          refine S_X11_lets0 w1 (fun h2 g2 w2 => ?_)
          refine xRet_some ?_
          refine x_if_nen (tgt := 50) (dT U_X11_breaks 22 rfl) (by decide) (by decide) ?_
          refine x_iconst (dT U_X11_breaks 23 rfl) ?_
          refine x_ireturn (dT U_X11_breaks 24 rfl) rfl ?_
          exact e2 (by omega) (by omega) _ _ (Ag.tr (Ag.tr (Ag.rf 70 142 h) (g1.w (by omega))) (g2.w (by omega))) w2 (by unfold xr; omega)
      · refine xRet_some ?_
        refine x_if_eqj (tgt := 27) (dT U_X11_breaks 9 rfl) (by decide) (by decide) ?_
        refine x_iconst (dT U_X11_breaks 12 rfl) ?_
        refine x_iconst (dT U_X11_breaks 13 rfl) ?_
        refine x_invokevirtual (rc' := rc) (rs' := rs) (rc2 := 0) (rs2 := 0) (As := [_, _]) (st := _) M_X11_lets K_X11_167 (dT U_X11_breaks 14 rfl) rfl rfl (by decide) rfl rfl w.c70 (Nat.le_of_ble_eq_true rfl) (by decide) rfl (Nat.le_of_ble_eq_true rfl) rfl (by decide) (Nat.le_of_ble_eq_true rfl) rfl rfl ?_
        refine S_X11_lets0 w (fun h1 g1 w1 => ?_)
        refine xRet_some ?_
        refine x_if_eqj (tgt := 48) (dT U_X11_breaks 15 rfl) (by decide) (by decide) ?_
        refine x_iconst (dT U_X11_breaks 23 rfl) ?_
        refine x_ireturn (dT U_X11_breaks 24 rfl) rfl ?_
        exact e1 (by omega) _ _ (Ag.tr (Ag.rf 70 142 h) (g1.w (by omega))) w1 (by unfold xr; omega)
    · refine xRet_some ?_
      refine x_if_eqj (tgt := 27) (dT U_X11_breaks 6 rfl) (by decide) (by decide) ?_
      refine x_iconst (dT U_X11_breaks 12 rfl) ?_
      refine x_iconst (dT U_X11_breaks 13 rfl) ?_
      refine x_invokevirtual (rc' := rc) (rs' := rs) (rc2 := 0) (rs2 := 0) (As := [_, _]) (st := _) M_X11_lets K_X11_167 (dT U_X11_breaks 14 rfl) rfl rfl (by decide) rfl rfl w.c70 (Nat.le_of_ble_eq_true rfl) (by decide) rfl (Nat.le_of_ble_eq_true rfl) rfl (by decide) (Nat.le_of_ble_eq_true rfl) rfl rfl ?_
      refine S_X11_lets0 w (fun h1 g1 w1 => ?_)
      refine xRet_some ?_
      refine x_if_eqj (tgt := 48) (dT U_X11_breaks 15 rfl) (by decide) (by decide) ?_
      refine x_iconst (dT U_X11_breaks 23 rfl) ?_
      refine x_ireturn (dT U_X11_breaks 24 rfl) rfl ?_
      exact e1 (by omega) _ _ (Ag.tr (Ag.rf 70 142 h) (g1.w (by omega))) w1 (by unfold xr; omega)
  · refine xRet_some ?_
    refine x_if_eqj (tgt := 27) (dT U_X11_breaks 3 rfl) (by decide) (by decide) ?_
    refine x_iconst (dT U_X11_breaks 12 rfl) ?_
    refine x_iconst (dT U_X11_breaks 13 rfl) ?_
    refine x_invokevirtual (rc' := rc) (rs' := rs) (rc2 := 0) (rs2 := 0) (As := [_, _]) (st := _) M_X11_lets K_X11_167 (dT U_X11_breaks 14 rfl) rfl rfl (by decide) rfl rfl w.c70 (Nat.le_of_ble_eq_true rfl) (by decide) rfl (Nat.le_of_ble_eq_true rfl) rfl (by decide) (Nat.le_of_ble_eq_true rfl) rfl rfl ?_
    refine S_X11_lets0 w (fun h1 g1 w1 => ?_)
    refine xRet_some ?_
    refine x_if_eqj (tgt := 48) (dT U_X11_breaks 15 rfl) (by decide) (by decide) ?_
    refine x_iconst (dT U_X11_breaks 23 rfl) ?_
    refine x_ireturn (dT U_X11_breaks 24 rfl) rfl ?_
    exact e1 (by omega) _ _ (Ag.tr (Ag.rf 70 142 h) (g1.w (by omega))) w1 (by unfold xr; omega)
