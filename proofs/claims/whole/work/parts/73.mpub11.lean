set_option maxRecDepth 20000 in
set_option maxHeartbeats 1000000 in
theorem S_X11_sumWith0 {G : xG} {d rc rs : Nat} {ex : Bool} {h : xH} {Q : xQ} {σ : St} {cc0 : Int} {rr : Nat} {ss : Int} {x : Int} (w : MX σ cc0 rr ss h) (v : INV σ) (hb : σ.g.b = 1) (k : ∀ h2, Ag 137 142 h h2 → MX σ cc0 rr ss h2 → Q (.inl (some (vi (cr σ.p σ.g.l σ.g.r)))) ex h2) : X G m_X11_sumWith (d + 2) rc rs ex 0 (xe m_X11_sumWith.2.2.1 [.ref 70, vi 0, vi x]) [] h Q := by
  show X G m_X11_sumWith _ _ _ _ 0 [some (.ref 70), some (vi 0), some (vi x), none] [] h Q
  have hp := PRb v.p
  have hq := gq_b v.p
  obtain ⟨g1, g2, g3, g4, g5, g6, g7, g8, g9, g10, g11, g12⟩ := v.g
  obtain ⟨y1, y2, y3, y4, y5, y6, y7, y8⟩ := g12 hb
  obtain ⟨l42, h42, q42⟩ := w.s142
  obtain ⟨e1, e2⟩ := w.gm.1 hb
  subst e1
  refine x_iconst (dT U_X11_sumWith 0 rfl) ?_
  refine x_istore_n (ls' := [some (.ref _), some (vi _), some (vi _), some (vi _)]) (dT U_X11_sumWith 1 rfl) (by decide) rfl ?_
  have L : ∀ (n u : Nat), u + n = σ.g.r → X G m_X11_sumWith (d + 2) rc rs ex 2 [some (.ref 70), some (vi 0), some (vi x), some (vi (u : Int))] [] (h.set 142 (cA 0 (fillL (gf σ.g.dr) l42 u))) Q := by
    intro n
    induction n with
    | zero =>
      intro u hi_ 
      refine x_iload_n (dT U_X11_sumWith 2 rfl) rfl ?_
      refine x_aload_n (dT U_X11_sumWith 3 rfl) rfl ?_
      refine x_getfield F_X11_153 (dT U_X11_sumWith 4 rfl) (hset_ne (by omega) (w.c70)) (Nat.le_of_ble_eq_true rfl) rfl ?_
      refine x_icmp_ge (tgt := 28) (dT U_X11_sumWith 5 rfl) (by decide) (by unfold xr; omega) (by unfold xr; omega) (fun c7 => ?_) (fun c7 => ?_)
      · skip
        have e : u = σ.g.r := by omega
        subst e
        refine x_iload_n (dT U_X11_sumWith 16 rfl) rfl ?_
        refine x_if_eqj (tgt := 42) (dT U_X11_sumWith 17 rfl) (by decide) (by decide) ?_
        have w5 : MX σ cc0 σ.g.r ss _ := w.t142 (l := (fillL (gf σ.g.dr) l42 σ.g.r)) (fun a ha => by rw [hset_fr (by omega)]) (hset_eq h42) (by rw [fillL_len]; exact q42)
        refine x_aload_n (dT U_X11_sumWith 24 rfl) rfl ?_
        refine x_aload_n (dT U_X11_sumWith 25 rfl) rfl ?_
        refine x_getfield F_X11_88 (dT U_X11_sumWith 26 rfl) (hset_ne (by omega) (w.c70)) (Nat.le_of_ble_eq_true rfl) rfl ?_
        refine x_iload_n (dT U_X11_sumWith 27 rfl) rfl ?_
        refine x_if_eqj (tgt := 60) (dT U_X11_sumWith 28 rfl) (by decide) (by decide) ?_
        refine x_aload_n (dT U_X11_sumWith 34 rfl) rfl ?_
        refine x_getfield F_X11_153 (dT U_X11_sumWith 35 rfl) (hset_ne (by omega) (w.c70)) (Nat.le_of_ble_eq_true rfl) rfl ?_
        refine x_invokevirtual (rc' := rc) (rs' := rs) (rc2 := 0) (rs2 := 0) (As := [_, _]) (st := _) M_X11_sumOf K_X11_298 (dT U_X11_sumWith 36 rfl) rfl rfl (by decide) rfl rfl w5.c70 (Nat.le_of_ble_eq_true rfl) (by decide) rfl (Nat.le_of_ble_eq_true rfl) rfl (by decide) (Nat.le_of_ble_eq_true rfl) rfl rfl ?_
        refine S_X11_sumOf (m9 := σ.g.r) w5 v w5.c133 (by omega) y3 (hset_eq h42) (by rw [fillL_len]; exact q42) (fun j hj => by rw [fillL_lt _ _ _ _ hj (by omega)]; exact y4 j hj) (by omega) (fun {l37} h37 q37 f37 => ?_)
        have e9 : bnds (σ.p : Int) σ.g.tbl (fillL (gf σ.g.dr) l42 σ.g.r) σ.g.r = σ.g.l := by rw [y5]; exact bnds_congr _ (fun j hj => fillL_lt _ _ _ _ hj (by omega))
        rw [mh_is (by omega) y3 (by omega), e9]
        refine xRet_some ?_
        refine x_ireturn (dT U_X11_sumWith 37 rfl) rfl ?_
        exact k _ (((Ag.rf 137 142 h).set (by omega)).set (by omega)) (w5.t137 (fun a ha => by rw [hset_fr (by omega)]) (hset_eq h37) q37)
      · exfalso; omega
    | succ n ih =>
      intro u hi_ 
      refine x_iload_n (dT U_X11_sumWith 2 rfl) rfl ?_
      refine x_aload_n (dT U_X11_sumWith 3 rfl) rfl ?_
      refine x_getfield F_X11_153 (dT U_X11_sumWith 4 rfl) (hset_ne (by omega) (w.c70)) (Nat.le_of_ble_eq_true rfl) rfl ?_
      refine x_icmp_ge (tgt := 28) (dT U_X11_sumWith 5 rfl) (by decide) (by unfold xr; omega) (by unfold xr; omega) (fun c7 => ?_) (fun c7 => ?_)
      · exfalso; omega
      · skip
        refine x_aload_n (dT U_X11_sumWith 6 rfl) rfl ?_
        refine x_getfield F_X11_115 (dT U_X11_sumWith 7 rfl) (hset_ne (by omega) (w.c70)) (Nat.le_of_ble_eq_true rfl) rfl ?_
        refine x_iload_n (dT U_X11_sumWith 8 rfl) rfl ?_
        refine x_aload_n (dT U_X11_sumWith 9 rfl) rfl ?_
        refine x_getfield F_X11_91 (dT U_X11_sumWith 10 rfl) (hset_ne (by omega) (w.c70)) (Nat.le_of_ble_eq_true rfl) rfl ?_
        refine x_iload_n (dT U_X11_sumWith 11 rfl) rfl ?_
        refine x_ialoadv (u) (dT U_X11_sumWith 12 rfl) (hset_ne (by omega) (w.c134)) (Nat.le_of_ble_eq_true rfl) rfl (by omega) (by omega) (show _ = gf σ.g.dr u from rfl) ?_
        refine x_iastore (u) (dT U_X11_sumWith 13 rfl) (hset_eq h42) (Nat.le_of_ble_eq_true rfl) rfl (by rw [fillL_len]; omega) (by rw [fillL_len]; omega) ?_
        rw [List.set_set]
        refine x_iinc (ls' := [some (.ref _), some (vi _), some (vi _), some (vi _)]) (dT U_X11_sumWith 14 rfl) (by decide) rfl rfl ?_
        refine x_goto (tgt := 2) (dT U_X11_sumWith 15 rfl) (by decide) ?_
        exact ih (u + 1) (by omega)
  have q := L σ.g.r 0 (by omega)
  rw [show fillL (gf σ.g.dr) l42 0 = l42 from rfl, hset_self h42] at q
  exact q

set_option maxRecDepth 20000 in
set_option maxHeartbeats 1000000 in
theorem S_X11_sumWith1 {G : xG} {d rc rs : Nat} {ex : Bool} {h : xH} {Q : xQ} {σ : St} {cc0 : Int} {rr : Nat} {ss : Int} {x : Int} (w : MX σ cc0 rr ss h) (v : INV σ) (hb : σ.g.b = 1) (hr : σ.g.r < 3) (hx : 0 ≤ x ∧ x < (σ.p : Int)) (k : ∀ h2, Ag 137 142 h h2 → MX σ cc0 rr ss h2 → Q (.inl (some (vi (ln σ.p (rz σ.p σ.g.l σ.g.r) (ro σ.p σ.g.l σ.g.r) x)))) ex h2) : X G m_X11_sumWith (d + 2) rc rs ex 0 (xe m_X11_sumWith.2.2.1 [.ref 70, vi 1, vi x]) [] h Q := by
  show X G m_X11_sumWith _ _ _ _ 0 [some (.ref 70), some (vi 1), some (vi x), none] [] h Q
  have hp := PRb v.p
  have hq := gq_b v.p
  obtain ⟨g1, g2, g3, g4, g5, g6, g7, g8, g9, g10, g11, g12⟩ := v.g
  obtain ⟨y1, y2, y3, y4, y5, y6, y7, y8⟩ := g12 hb
  obtain ⟨l42, h42, q42⟩ := w.s142
  obtain ⟨e1, e2⟩ := w.gm.1 hb
  subst e1
  refine x_iconst (dT U_X11_sumWith 0 rfl) ?_
  refine x_istore_n (ls' := [some (.ref _), some (vi _), some (vi _), some (vi _)]) (dT U_X11_sumWith 1 rfl) (by decide) rfl ?_
  have L : ∀ (n u : Nat), u + n = σ.g.r → X G m_X11_sumWith (d + 2) rc rs ex 2 [some (.ref 70), some (vi 1), some (vi x), some (vi (u : Int))] [] (h.set 142 (cA 0 (fillL (gf σ.g.dr) l42 u))) Q := by
    intro n
    induction n with
    | zero =>
      intro u hi_ 
      refine x_iload_n (dT U_X11_sumWith 2 rfl) rfl ?_
      refine x_aload_n (dT U_X11_sumWith 3 rfl) rfl ?_
      refine x_getfield F_X11_153 (dT U_X11_sumWith 4 rfl) (hset_ne (by omega) (w.c70)) (Nat.le_of_ble_eq_true rfl) rfl ?_
      refine x_icmp_ge (tgt := 28) (dT U_X11_sumWith 5 rfl) (by decide) (by unfold xr; omega) (by unfold xr; omega) (fun c7 => ?_) (fun c7 => ?_)
      · skip
        have e : u = σ.g.r := by omega
        subst e
        refine x_iload_n (dT U_X11_sumWith 16 rfl) rfl ?_
        refine x_if_eqn (tgt := 42) (dT U_X11_sumWith 17 rfl) (by decide) (by decide) ?_
        refine x_aload_n (dT U_X11_sumWith 18 rfl) rfl ?_
        refine x_getfield F_X11_115 (dT U_X11_sumWith 19 rfl) (hset_ne (by omega) (w.c70)) (Nat.le_of_ble_eq_true rfl) rfl ?_
        refine x_aload_n (dT U_X11_sumWith 20 rfl) rfl ?_
        refine x_getfield F_X11_153 (dT U_X11_sumWith 21 rfl) (hset_ne (by omega) (w.c70)) (Nat.le_of_ble_eq_true rfl) rfl ?_
        refine x_iload_n (dT U_X11_sumWith 22 rfl) rfl ?_
        refine x_iastore (σ.g.r) (dT U_X11_sumWith 23 rfl) (hset_eq h42) (Nat.le_of_ble_eq_true rfl) rfl (by rw [fillL_len]; omega) (by rw [fillL_len]; omega) ?_
        rw [List.set_set]
        have w5 : MX σ cc0 σ.g.r ss _ := w.t142 (l := ((fillL (gf σ.g.dr) l42 σ.g.r).set σ.g.r x)) (fun a ha => by rw [hset_fr (by omega)]) (hset_eq h42) (by rw [List.length_set, fillL_len]; exact q42)
        refine x_aload_n (dT U_X11_sumWith 24 rfl) rfl ?_
        refine x_aload_n (dT U_X11_sumWith 25 rfl) rfl ?_
        refine x_getfield F_X11_88 (dT U_X11_sumWith 26 rfl) (hset_ne (by omega) (w.c70)) (Nat.le_of_ble_eq_true rfl) rfl ?_
        refine x_iload_n (dT U_X11_sumWith 27 rfl) rfl ?_
        refine x_if_eqn (tgt := 60) (dT U_X11_sumWith 28 rfl) (by decide) (by decide) ?_
        refine x_aload_n (dT U_X11_sumWith 29 rfl) rfl ?_
        refine x_getfield F_X11_153 (dT U_X11_sumWith 30 rfl) (hset_ne (by omega) (w.c70)) (Nat.le_of_ble_eq_true rfl) rfl ?_
        refine x_iconst (dT U_X11_sumWith 31 rfl) ?_
        refine x_iadd (dT U_X11_sumWith 32 rfl) ?_
        refine x_goto (tgt := 64) (dT U_X11_sumWith 33 rfl) (by decide) ?_
        refine x_invokevirtual (rc' := rc) (rs' := rs) (rc2 := 0) (rs2 := 0) (As := [_, _]) (st := _) M_X11_sumOf K_X11_298 (dT U_X11_sumWith 36 rfl) rfl rfl (by decide) rfl rfl w5.c70 (Nat.le_of_ble_eq_true rfl) (by decide) rfl (Nat.le_of_ble_eq_true rfl) rfl (by decide) (Nat.le_of_ble_eq_true rfl) rfl rfl ?_
        refine S_X11_sumOf (m9 := (σ.g.r + 1)) w5 v w5.c133 (by omega) y3 (hset_eq h42) (by rw [List.length_set, fillL_len]; exact q42) (fun j hj => by
            by_cases e : j = σ.g.r
            · rw [e, gset_e (by rw [fillL_len]; omega)]; exact hx
            · rw [gset_n e, fillL_lt _ _ _ _ (by omega) (by omega)]; exact y4 j (by omega)) (by omega) (fun {l37} h37 q37 f37 => ?_)
        have e9 : bnds (σ.p : Int) σ.g.tbl ((fillL (gf σ.g.dr) l42 σ.g.r).set σ.g.r x) (σ.g.r + 1) = bnd σ.p σ.g.l σ.g.r x := by
          show bnd _ (bnds _ _ _ σ.g.r) σ.g.r _ = _
          rw [gset_e (by rw [fillL_len]; omega), bnds_congr (pt := ((fillL (gf σ.g.dr) l42 σ.g.r).set σ.g.r x)) (dr := σ.g.dr) σ.g.r (fun j hj => (gset_n (by omega)).trans (fillL_lt (gf σ.g.dr) l42 σ.g.r j hj (by omega))), ← y5]
        rw [mh_is (by omega) y3 (by omega), e9, cr_bnd g9 (by omega)]
        refine xRet_some ?_
        refine x_ireturn (dT U_X11_sumWith 37 rfl) rfl ?_
        exact k _ (((Ag.rf 137 142 h).set (by omega)).set (by omega)) (w5.t137 (fun a ha => by rw [hset_fr (by omega)]) (hset_eq h37) q37)
      · exfalso; omega
    | succ n ih =>
      intro u hi_ 
      refine x_iload_n (dT U_X11_sumWith 2 rfl) rfl ?_
      refine x_aload_n (dT U_X11_sumWith 3 rfl) rfl ?_
      refine x_getfield F_X11_153 (dT U_X11_sumWith 4 rfl) (hset_ne (by omega) (w.c70)) (Nat.le_of_ble_eq_true rfl) rfl ?_
      refine x_icmp_ge (tgt := 28) (dT U_X11_sumWith 5 rfl) (by decide) (by unfold xr; omega) (by unfold xr; omega) (fun c7 => ?_) (fun c7 => ?_)
      · exfalso; omega
      · skip
        refine x_aload_n (dT U_X11_sumWith 6 rfl) rfl ?_
        refine x_getfield F_X11_115 (dT U_X11_sumWith 7 rfl) (hset_ne (by omega) (w.c70)) (Nat.le_of_ble_eq_true rfl) rfl ?_
        refine x_iload_n (dT U_X11_sumWith 8 rfl) rfl ?_
        refine x_aload_n (dT U_X11_sumWith 9 rfl) rfl ?_
        refine x_getfield F_X11_91 (dT U_X11_sumWith 10 rfl) (hset_ne (by omega) (w.c70)) (Nat.le_of_ble_eq_true rfl) rfl ?_
        refine x_iload_n (dT U_X11_sumWith 11 rfl) rfl ?_
        refine x_ialoadv (u) (dT U_X11_sumWith 12 rfl) (hset_ne (by omega) (w.c134)) (Nat.le_of_ble_eq_true rfl) rfl (by omega) (by omega) (show _ = gf σ.g.dr u from rfl) ?_
        refine x_iastore (u) (dT U_X11_sumWith 13 rfl) (hset_eq h42) (Nat.le_of_ble_eq_true rfl) rfl (by rw [fillL_len]; omega) (by rw [fillL_len]; omega) ?_
        rw [List.set_set]
        refine x_iinc (ls' := [some (.ref _), some (vi _), some (vi _), some (vi _)]) (dT U_X11_sumWith 14 rfl) (by decide) rfl rfl ?_
        refine x_goto (tgt := 2) (dT U_X11_sumWith 15 rfl) (by decide) ?_
        exact ih (u + 1) (by omega)
  have q := L σ.g.r 0 (by omega)
  rw [show fillL (gf σ.g.dr) l42 0 = l42 from rfl, hset_self h42] at q
  exact q

set_option maxRecDepth 20000 in
set_option maxHeartbeats 1000000 in
theorem S_X11_chancesLeft {G : xG} {d rc rs : Nat} {ex : Bool} {h : xH} {Q : xQ} {σ : St} {cc0 : Int} {rr : Nat} {ss : Int} (w : MX σ cc0 rr ss h) (v : INV σ) (hb : σ.g.b = 1) (k : ∀ h2, Ag 137 142 h h2 → MX σ cc0 rr ss h2 → Q (.inl (some (vi (wnn σ.p σ.g.l σ.g.r σ.g.s σ.g.c σ.g.z σ.g.o)))) ex h2) : X G m_X11_chancesLeft (d + 3) rc rs ex 0 (xe m_X11_chancesLeft.2.2.1 [.ref 70]) [] h Q := by
  show X G m_X11_chancesLeft _ _ _ _ 0 [some (.ref 70), none, none] [] h Q
  have hp := PRb v.p
  have hq := gq_b v.p
  obtain ⟨g1, g2, g3, g4, g5, g6, g7, g8, g9, g10, g11, g12⟩ := v.g
  obtain ⟨y1, y2, y3, y4, y5, y6, y7, y8⟩ := g12 hb
  obtain ⟨e1, e2⟩ := w.gm.1 hb
  subst e1
  subst e2
  refine x_aload_n (dT U_X11_chancesLeft 0 rfl) rfl ?_
  refine x_getfield F_X11_150 (dT U_X11_chancesLeft 1 rfl) w.c70 (Nat.le_of_ble_eq_true rfl) rfl ?_
  refine x_if_ne (tgt := 36) (dT U_X11_chancesLeft 2 rfl) (by decide) (by unfold xr; omega) (fun c4 => ?_) (fun c4 => ?_)
  · skip
    refine x_iconst (dT U_X11_chancesLeft 20 rfl) ?_
    refine x_istore_n (ls' := [some (.ref _), some (vi _), none]) (dT U_X11_chancesLeft 21 rfl) (by decide) rfl ?_
    refine x_iconst (dT U_X11_chancesLeft 22 rfl) ?_
    refine x_istore_n (ls' := [some (.ref _), some (vi _), some (vi _)]) (dT U_X11_chancesLeft 23 rfl) (by decide) rfl ?_
    have s1 : σ.g.s = 1 := by omega
    have r3 : σ.g.r < 3 := by have := g5 s1; omega
    have L : ∀ (n u : Nat), u + n = σ.p → ∀ h0 : xH, Ag 137 142 h h0 → MX σ cc0 σ.g.r σ.g.s h0 → X G m_X11_chancesLeft (d + 3) rc rs ex 40 [some (.ref 70), some (vi (ww σ.p σ.g.l σ.g.r σ.g.z σ.g.o u)), some (vi (u : Int))] [] h0 Q := by
      intro n
      induction n with
      | zero =>
        intro u hi_ h0 g0 w0
        refine x_iload_n (dT U_X11_chancesLeft 24 rfl) rfl ?_
        refine x_aload_n (dT U_X11_chancesLeft 25 rfl) rfl ?_
        refine x_getfield F_X11_130 (dT U_X11_chancesLeft 26 rfl) w0.c70 (Nat.le_of_ble_eq_true rfl) rfl ?_
        refine x_icmp_ge (tgt := 86) (dT U_X11_chancesLeft 27 rfl) (by decide) (by unfold xr; omega) (by unfold xr; omega) (fun c45 => ?_) (fun c45 => ?_)
        · skip
          have e : u = σ.p := by omega
          rw [e, show ww σ.p σ.g.l σ.g.r σ.g.z σ.g.o σ.p = wnn σ.p σ.g.l σ.g.r σ.g.s σ.g.c σ.g.z σ.g.o from (if_pos s1).symm]
          refine x_iload_n (dT U_X11_chancesLeft 50 rfl) rfl ?_
          refine x_ireturn (dT U_X11_chancesLeft 51 rfl) rfl ?_
          exact k _ g0 w0
        · exfalso; omega
      | succ n ih =>
        intro u hi_ h0 g0 w0
        refine x_iload_n (dT U_X11_chancesLeft 24 rfl) rfl ?_
        refine x_aload_n (dT U_X11_chancesLeft 25 rfl) rfl ?_
        refine x_getfield F_X11_130 (dT U_X11_chancesLeft 26 rfl) w0.c70 (Nat.le_of_ble_eq_true rfl) rfl ?_
        refine x_icmp_ge (tgt := 86) (dT U_X11_chancesLeft 27 rfl) (by decide) (by unfold xr; omega) (by unfold xr; omega) (fun c45 => ?_) (fun c45 => ?_)
        · exfalso; omega
        · skip
          refine x_iload_n (dT U_X11_chancesLeft 28 rfl) rfl ?_
          refine x_aload_n (dT U_X11_chancesLeft 29 rfl) rfl ?_
          refine x_aload_n (dT U_X11_chancesLeft 30 rfl) rfl ?_
          refine x_iconst (dT U_X11_chancesLeft 31 rfl) ?_
          refine x_iload_n (dT U_X11_chancesLeft 32 rfl) rfl ?_
          refine x_invokevirtual (rc' := rc) (rs' := rs) (rc2 := 0) (rs2 := 0) (As := [_, _]) (st := _) M_X11_sumWith K_X11_310 (dT U_X11_chancesLeft 33 rfl) rfl rfl (by decide) rfl rfl w0.c70 (Nat.le_of_ble_eq_true rfl) (by decide) rfl (Nat.le_of_ble_eq_true rfl) rfl (by decide) (Nat.le_of_ble_eq_true rfl) rfl rfl ?_
          refine S_X11_sumWith1 w0 v hb r3 (by omega) (fun h6 g6 w6 => ?_)
          refine xRet_some ?_
          refine x_aload_n (dT U_X11_chancesLeft 34 rfl) rfl ?_
          refine x_iload_n (dT U_X11_chancesLeft 35 rfl) rfl ?_
          refine x_invokevirtual (rc' := rc) (rs' := rs) (rc2 := 0) (rs2 := 0) (As := [_]) (st := _) M_X11_sentAt K_X11_320 (dT U_X11_chancesLeft 36 rfl) rfl rfl (by decide) rfl rfl w6.c70 (Nat.le_of_ble_eq_true rfl) (by decide) rfl (Nat.le_of_ble_eq_true rfl) rfl (by decide) (Nat.le_of_ble_eq_true rfl) rfl rfl ?_
          refine S_X11_sentAt w6 v (by omega) ?_
          refine xRet_some ?_
          have b1 := modb (z := σ.g.z + (u : Int) * (σ.g.o - σ.g.z)) (p := (σ.p : Int)) (by omega)
          have b2 := modb (z := rz σ.p σ.g.l σ.g.r + (u : Int) * (ro σ.p σ.g.l σ.g.r - rz σ.p σ.g.l σ.g.r)) (p := (σ.p : Int)) (by omega)
          refine x_icmp_ne (tgt := 68) (dT U_X11_chancesLeft 37 rfl) (by decide) (by unfold ln xr; omega) (by unfold ln xr; omega) (fun c61 => ?_) (fun c61 => ?_)
          · skip
            have e3 : ww σ.p σ.g.l σ.g.r σ.g.z σ.g.o (u + 1) = ww σ.p σ.g.l σ.g.r σ.g.z σ.g.o u + wo σ.p (2 - σ.g.r) false := by show sm _ u + (if _ then _ else _) = _; rw [if_neg (fun z => c61 z.symm)]; rfl
            refine x_iconst (dT U_X11_chancesLeft 40 rfl) ?_
            refine x_iconst (dT U_X11_chancesLeft 41 rfl) ?_
            refine x_aload_n (dT U_X11_chancesLeft 42 rfl) rfl ?_
            refine x_getfield F_X11_153 (dT U_X11_chancesLeft 43 rfl) w6.c70 (Nat.le_of_ble_eq_true rfl) rfl ?_
            refine x_isub (dT U_X11_chancesLeft 44 rfl) ?_
            refine x_invokevirtual (rc' := rc) (rs' := rs) (rc2 := 0) (rs2 := 0) (As := [_, _]) (st := _) M_X11_winning K_X11_317 (dT U_X11_chancesLeft 45 rfl) rfl rfl (by decide) rfl rfl w6.c70 (Nat.le_of_ble_eq_true rfl) (by decide) rfl (Nat.le_of_ble_eq_true rfl) rfl (by decide) (Nat.le_of_ble_eq_true rfl) rfl rfl ?_
            rw [show (2 : Int) - (σ.g.r : Int) = ((2 - σ.g.r : Nat) : Int) by omega]
            first | refine S_X11_winning1 w6.mp v.p (by omega) ?_ | refine S_X11_winning0 w6.mp v.p (by omega) ?_
            refine xRet_some ?_
            refine x_iadd (dT U_X11_chancesLeft 46 rfl) ?_
            refine x_istore_n (ls' := [some (.ref _), some (vi _), some (vi _)]) (dT U_X11_chancesLeft 47 rfl) (by decide) rfl ?_
            refine x_iinc (ls' := [some (.ref _), some (vi _), some (vi _)]) (dT U_X11_chancesLeft 48 rfl) (by decide) rfl rfl ?_
            refine x_goto (tgt := 40) (dT U_X11_chancesLeft 49 rfl) (by decide) ?_
            have q := ih (u + 1) (by omega) _ (g0.tr g6) w6
            rw [e3] at q
            exact q
          · skip
            have e3 : ww σ.p σ.g.l σ.g.r σ.g.z σ.g.o (u + 1) = ww σ.p σ.g.l σ.g.r σ.g.z σ.g.o u + wo σ.p (2 - σ.g.r) true := by show sm _ u + (if _ then _ else _) = _; rw [if_pos c61.symm]; rfl
            refine x_iconst (dT U_X11_chancesLeft 38 rfl) ?_
            refine x_goto (tgt := 69) (dT U_X11_chancesLeft 39 rfl) (by decide) ?_
            refine x_iconst (dT U_X11_chancesLeft 41 rfl) ?_
            refine x_aload_n (dT U_X11_chancesLeft 42 rfl) rfl ?_
            refine x_getfield F_X11_153 (dT U_X11_chancesLeft 43 rfl) w6.c70 (Nat.le_of_ble_eq_true rfl) rfl ?_
            refine x_isub (dT U_X11_chancesLeft 44 rfl) ?_
            refine x_invokevirtual (rc' := rc) (rs' := rs) (rc2 := 0) (rs2 := 0) (As := [_, _]) (st := _) M_X11_winning K_X11_317 (dT U_X11_chancesLeft 45 rfl) rfl rfl (by decide) rfl rfl w6.c70 (Nat.le_of_ble_eq_true rfl) (by decide) rfl (Nat.le_of_ble_eq_true rfl) rfl (by decide) (Nat.le_of_ble_eq_true rfl) rfl rfl ?_
            rw [show (2 : Int) - (σ.g.r : Int) = ((2 - σ.g.r : Nat) : Int) by omega]
            first | refine S_X11_winning1 w6.mp v.p (by omega) ?_ | refine S_X11_winning0 w6.mp v.p (by omega) ?_
            refine xRet_some ?_
            refine x_iadd (dT U_X11_chancesLeft 46 rfl) ?_
            refine x_istore_n (ls' := [some (.ref _), some (vi _), some (vi _)]) (dT U_X11_chancesLeft 47 rfl) (by decide) rfl ?_
            refine x_iinc (ls' := [some (.ref _), some (vi _), some (vi _)]) (dT U_X11_chancesLeft 48 rfl) (by decide) rfl rfl ?_
            refine x_goto (tgt := 40) (dT U_X11_chancesLeft 49 rfl) (by decide) ?_
            have q := ih (u + 1) (by omega) _ (g0.tr g6) w6
            rw [e3] at q
            exact q
    exact L σ.p 0 (by omega) _ (Ag.rf 137 142 h) w
  · skip
    refine x_aload_n (dT U_X11_chancesLeft 3 rfl) rfl ?_
    refine x_aload_n (dT U_X11_chancesLeft 4 rfl) rfl ?_
    refine x_iconst (dT U_X11_chancesLeft 5 rfl) ?_
    refine x_iconst (dT U_X11_chancesLeft 6 rfl) ?_
    refine x_invokevirtual (rc' := rc) (rs' := rs) (rc2 := 0) (rs2 := 0) (As := [_, _]) (st := _) M_X11_sumWith K_X11_310 (dT U_X11_chancesLeft 7 rfl) rfl rfl (by decide) rfl rfl w.c70 (Nat.le_of_ble_eq_true rfl) (by decide) rfl (Nat.le_of_ble_eq_true rfl) rfl (by decide) (Nat.le_of_ble_eq_true rfl) rfl rfl ?_
    refine S_X11_sumWith0 w v hb (fun h5 g5 w5 => ?_)
    refine xRet_some ?_
    refine x_aload_n (dT U_X11_chancesLeft 8 rfl) rfl ?_
    refine x_getfield F_X11_314 (dT U_X11_chancesLeft 9 rfl) w5.c70 (Nat.le_of_ble_eq_true rfl) rfl ?_
    have b1 := modb (z := sm (gf σ.g.l) (8 / 2 ^ σ.g.r)) (p := (σ.p : Int)) (by omega)
    refine x_icmp_ne (tgt := 25) (dT U_X11_chancesLeft 10 rfl) (by decide) (by unfold cr xr; omega) (by unfold xr; omega) (fun c18 => ?_) (fun c18 => ?_)
    · skip
      refine x_iconst (dT U_X11_chancesLeft 13 rfl) ?_
      refine x_iconst (dT U_X11_chancesLeft 14 rfl) ?_
      refine x_aload_n (dT U_X11_chancesLeft 15 rfl) rfl ?_
      refine x_getfield F_X11_153 (dT U_X11_chancesLeft 16 rfl) w5.c70 (Nat.le_of_ble_eq_true rfl) rfl ?_
      refine x_isub (dT U_X11_chancesLeft 17 rfl) ?_
      refine x_invokevirtual (rc' := rc) (rs' := rs) (rc2 := 0) (rs2 := 0) (As := [_, _]) (st := _) M_X11_winning K_X11_317 (dT U_X11_chancesLeft 18 rfl) rfl rfl (by decide) rfl rfl w5.c70 (Nat.le_of_ble_eq_true rfl) (by decide) rfl (Nat.le_of_ble_eq_true rfl) rfl (by decide) (Nat.le_of_ble_eq_true rfl) rfl rfl ?_
      rw [show (3 : Int) - (σ.g.r : Int) = ((3 - σ.g.r : Nat) : Int) by omega]
      first | refine S_X11_winning1 w5.mp v.p (by omega) ?_ | refine S_X11_winning0 w5.mp v.p (by omega) ?_
      refine xRet_some ?_
      refine x_ireturn (dT U_X11_chancesLeft 19 rfl) rfl ?_
      have q := k _ g5 w5
      rw [show wnn σ.p σ.g.l σ.g.r σ.g.s σ.g.c σ.g.z σ.g.o = wo σ.p (3 - σ.g.r) (decide (σ.g.c = cr σ.p σ.g.l σ.g.r)) from if_neg (by omega)] at q
      first | (rw [decide_eq_true (show σ.g.c = cr σ.p σ.g.l σ.g.r from by first | exact (c18).symm | exact (Decidable.byContradiction (fun z => c18 (fun y => z y.symm)))) ] at q; exact q) | (rw [decide_eq_false (fun z => c18 z.symm)] at q; exact q)
    · skip
      refine x_iconst (dT U_X11_chancesLeft 11 rfl) ?_
      refine x_goto (tgt := 26) (dT U_X11_chancesLeft 12 rfl) (by decide) ?_
      refine x_iconst (dT U_X11_chancesLeft 14 rfl) ?_
      refine x_aload_n (dT U_X11_chancesLeft 15 rfl) rfl ?_
      refine x_getfield F_X11_153 (dT U_X11_chancesLeft 16 rfl) w5.c70 (Nat.le_of_ble_eq_true rfl) rfl ?_
      refine x_isub (dT U_X11_chancesLeft 17 rfl) ?_
      refine x_invokevirtual (rc' := rc) (rs' := rs) (rc2 := 0) (rs2 := 0) (As := [_, _]) (st := _) M_X11_winning K_X11_317 (dT U_X11_chancesLeft 18 rfl) rfl rfl (by decide) rfl rfl w5.c70 (Nat.le_of_ble_eq_true rfl) (by decide) rfl (Nat.le_of_ble_eq_true rfl) rfl (by decide) (Nat.le_of_ble_eq_true rfl) rfl rfl ?_
      rw [show (3 : Int) - (σ.g.r : Int) = ((3 - σ.g.r : Nat) : Int) by omega]
      first | refine S_X11_winning1 w5.mp v.p (by omega) ?_ | refine S_X11_winning0 w5.mp v.p (by omega) ?_
      refine xRet_some ?_
      refine x_ireturn (dT U_X11_chancesLeft 19 rfl) rfl ?_
      have q := k _ g5 w5
      rw [show wnn σ.p σ.g.l σ.g.r σ.g.s σ.g.c σ.g.z σ.g.o = wo σ.p (3 - σ.g.r) (decide (σ.g.c = cr σ.p σ.g.l σ.g.r)) from if_neg (by omega)] at q
      first | (rw [decide_eq_true (show σ.g.c = cr σ.p σ.g.l σ.g.r from by first | exact (c18).symm | exact (Decidable.byContradiction (fun z => c18 (fun y => z y.symm)))) ] at q; exact q) | (rw [decide_eq_false (fun z => c18 z.symm)] at q; exact q)

set_option maxRecDepth 20000 in
set_option maxHeartbeats 1000000 in
theorem S_X11_play {G : xG} {d rc rs : Nat} {ex : Bool} {h : xH} {Q : xQ} {σ : St} {cc0 : Int} {rr : Nat} {ss : Int} {row claim : Int} {i9 : Int} (w : MX σ cc0 rr ss h) (v : INV σ) (h_row : xr row) (h_claim : xr claim) (e1 : ¬ (inb row 8) → ∀ h2 z, Ag 70 142 h h2 → MX σ 1 rr ss h2 → xr z → Q (.inl (some (vi z))) ex h2) (e2 : (inb row 8) → ¬ (inb claim σ.p) → ∀ h2 z, Ag 70 142 h h2 → MX σ 2 rr ss h2 → xr z → Q (.inl (some (vi z))) ex h2) (k : (inb row 8) → (inb claim σ.p) → ∀ h2 r2 s2, Ag 70 142 h h2 → MX (σ.sg (1, 0, i9, claim, 0, σ.g.z, σ.g.o, σ.rw row.toNat, σ.rw row.toNat, σ.g.dr)) 0 r2 s2 h2 → Q (.inl (some (vi (wnn σ.p (σ.rw row.toNat) 0 0 claim σ.g.z σ.g.o)))) ex h2) : X G m_X11_play (d + 4) rc rs ex 0 (xe m_X11_play.2.2.1 [.ref 70, vi row, vi claim]) [] h Q := by
  show X G m_X11_play _ _ _ _ 0 [some (.ref 70), some (vi row), some (vi claim)] [] h Q
  have hp := PRb v.p
  have hq := gq_b v.p
  refine x_aload_n (dT U_X11_play 0 rfl) rfl ?_
  refine x_iload_n (dT U_X11_play 1 rfl) rfl ?_
  refine x_invokestatic (rc' := rc) (rs' := rs) (rc2 := 0) (rs2 := 0) (As := [_]) (st := _) M_X11_isRow K_X11_164 (dT U_X11_play 2 rfl) rfl rfl rfl rfl (Nat.le_of_ble_eq_true rfl) rfl (by decide) (Nat.le_of_ble_eq_true rfl) rfl rfl ?_
  refine S_X11_isRow h_row (fun q1 => ?_) (fun q1 => ?_)
  · refine xRet_some ?_
    refine x_iconst (dT U_X11_play 3 rfl) ?_
    refine x_invokevirtual (rc' := rc) (rs' := rs) (rc2 := 0) (rs2 := 0) (As := [_, _]) (st := _) M_X11_lets K_X11_167 (dT U_X11_play 4 rfl) rfl rfl (by decide) rfl rfl w.c70 (Nat.le_of_ble_eq_true rfl) (by decide) rfl (Nat.le_of_ble_eq_true rfl) rfl (by decide) (Nat.le_of_ble_eq_true rfl) rfl rfl ?_
    refine S_X11_lets1 w (fun h1 g1 w1 => ?_)
    refine xRet_some ?_
    obtain ⟨i, hi, rfl⟩ : ∃ j : Nat, j < 8 ∧ row = (j : Int) := ⟨row.toNat, by omega, by omega⟩
    try simp only [tnc] at e1 e2 k
    refine x_if_eqn (tgt := 25) (dT U_X11_play 5 rfl) (by decide) (by decide) ?_
    refine x_aload_n (dT U_X11_play 6 rfl) rfl ?_
    refine x_aload_n (dT U_X11_play 7 rfl) rfl ?_
    refine x_iload_n (dT U_X11_play 8 rfl) rfl ?_
    refine x_invokevirtual (rc' := rc) (rs' := rs) (rc2 := 0) (rs2 := 0) (As := [_]) (st := _) M_X11_isNumber K_X11_174 (dT U_X11_play 9 rfl) rfl rfl (by decide) rfl rfl w1.c70 (Nat.le_of_ble_eq_true rfl) (by decide) rfl (Nat.le_of_ble_eq_true rfl) rfl (by decide) (Nat.le_of_ble_eq_true rfl) rfl rfl ?_
    refine S_X11_isNumber (w1.mp) v.p h_claim (fun q2 => ?_) (fun q2 => ?_)
    · refine xRet_some ?_
      refine x_iconst (dT U_X11_play 10 rfl) ?_
      refine x_invokevirtual (rc' := rc) (rs' := rs) (rc2 := 0) (rs2 := 0) (As := [_, _]) (st := _) M_X11_lets K_X11_167 (dT U_X11_play 11 rfl) rfl rfl (by decide) rfl rfl w1.c70 (Nat.le_of_ble_eq_true rfl) (by decide) rfl (Nat.le_of_ble_eq_true rfl) rfl (by decide) (Nat.le_of_ble_eq_true rfl) rfl rfl ?_
      refine S_X11_lets1 w1 (fun h2 g2 w2 => ?_)
      refine xRet_some ?_
      refine x_if_nej (tgt := 27) (dT U_X11_play 12 rfl) (by decide) (by decide) ?_
      refine x_aload_n (dT U_X11_play 15 rfl) rfl ?_
      refine x_iconst (dT U_X11_play 16 rfl) ?_
      refine x_putfield F_X11_146 (dT U_X11_play 17 rfl) w2.c70 (Nat.le_of_ble_eq_true rfl) (Nat.le_of_ble_eq_true rfl) rfl rfl ?_
      change X G _ _ _ _ _ _ _ _ (List.set _ 70 (mC 0 σ.p σ.G.n 1 rr σ.g.c ss σ.g.z σ.g.o σ.L.n)) _
      refine x_aload_n (dT U_X11_play 18 rfl) rfl ?_
      refine x_getfield F_X11_88 (dT U_X11_play 19 rfl) (hset_eq w2.c70) (Nat.le_of_ble_eq_true rfl) rfl ?_
      refine x_aload_n (dT U_X11_play 20 rfl) rfl ?_
      refine x_getfield F_X11_18 (dT U_X11_play 21 rfl) (hset_eq w2.c70) (Nat.le_of_ble_eq_true rfl) rfl ?_
      refine x_iload_n (dT U_X11_play 22 rfl) rfl ?_
      refine x_aaload (i) (dT U_X11_play 23 rfl) (hset_ne (by omega) (w2.c73)) (Nat.le_of_ble_eq_true rfl) (by decide) rfl (mrL_get (by omega)) (Nat.le_of_ble_eq_true rfl) ?_
      refine x_invokestatic (rc' := rc) (rs' := rs) (rc2 := 0) (rs2 := 0) (As := [_, _]) (st := _) M_X11_becomes K_X11_189 (dT U_X11_play 24 rfl) rfl rfl rfl rfl (Nat.le_of_ble_eq_true rfl) rfl (by decide) (Nat.le_of_ble_eq_true rfl) rfl rfl ?_
      refine S_becomes8 (hset_ne (by omega) (w2.c133)) (by omega) v.g.2.2.2.2.2.2.2.2.2.1 (hset_ne (by omega) (w2.rows i hi)) (by omega) (v.rw i hi).1 ?_
      refine xRet_none ?_
      refine x_aload_n (dT U_X11_play 25 rfl) rfl ?_
      refine x_iconst (dT U_X11_play 26 rfl) ?_
      refine x_putfield F_X11_153 (dT U_X11_play 27 rfl) (hset_ne (by omega) (hset_eq w2.c70)) (Nat.le_of_ble_eq_true rfl) (Nat.le_of_ble_eq_true rfl) rfl rfl ?_
      change X G _ _ _ _ _ _ _ _ (List.set _ 70 (mC 0 σ.p σ.G.n 1 0 σ.g.c ss σ.g.z σ.g.o σ.L.n)) _
      refine x_aload_n (dT U_X11_play 28 rfl) rfl ?_
      refine x_iload_n (dT U_X11_play 29 rfl) rfl ?_
      refine x_putfield F_X11_314 (dT U_X11_play 30 rfl) (hset_eq (hset_ne (by omega) (hset_eq w2.c70))) (Nat.le_of_ble_eq_true rfl) (Nat.le_of_ble_eq_true rfl) rfl rfl ?_
      change X G _ _ _ _ _ _ _ _ (List.set _ 70 (mC 0 σ.p σ.G.n 1 0 claim ss σ.g.z σ.g.o σ.L.n)) _
      refine x_aload_n (dT U_X11_play 31 rfl) rfl ?_
      refine x_iconst (dT U_X11_play 32 rfl) ?_
      refine x_putfield F_X11_150 (dT U_X11_play 33 rfl) (hset_eq (hset_eq (hset_ne (by omega) (hset_eq w2.c70)))) (Nat.le_of_ble_eq_true rfl) (Nat.le_of_ble_eq_true rfl) rfl rfl ?_
      change X G _ _ _ _ _ _ _ _ (List.set _ 70 (mC 0 σ.p σ.G.n 1 0 claim 0 σ.g.z σ.g.o σ.L.n)) _
      refine x_aload_n (dT U_X11_play 34 rfl) rfl ?_
      refine x_invokevirtual (rc' := rc) (rs' := rs) (rc2 := 0) (rs2 := 0) (As := []) (st := _) M_X11_chancesLeft K_X11_323 (dT U_X11_play 35 rfl) rfl rfl (by decide) rfl rfl (hset_eq (hset_eq (hset_eq (hset_ne (by omega) (hset_eq w2.c70))))) (Nat.le_of_ble_eq_true rfl) (by decide) rfl (Nat.le_of_ble_eq_true rfl) rfl (by decide) (Nat.le_of_ble_eq_true rfl) rfl rfl ?_
      have v5 : INV (σ.sg (1, 0, 0, claim, 0, σ.g.z, σ.g.o, σ.rw i, σ.rw i, σ.g.dr)) := v.play hi (by omega) (Or.inr rfl)
      refine S_X11_chancesLeft (σ := (σ.sg (1, 0, 0, claim, 0, σ.g.z, σ.g.o, σ.rw i, σ.rw i, σ.g.dr))) (rr := 0) (ss := 0) (w2.game (g := (1, 0, 0, claim, 0, σ.g.z, σ.g.o, σ.rw i, σ.rw i, σ.g.dr)) (r2 := 0) (s2 := 0) (fun a9 ha => by rw [hset_fr (by omega), hset_fr (by omega), hset_fr (by omega), hset_fr (by omega), hset_fr (by omega)]) (hset_eq (hset_eq (hset_eq (hset_ne (by omega) (hset_eq w2.c70))))) (hset_ne (by omega) (hset_ne (by omega) (hset_ne (by omega) (hset_eq (hset_ne (by omega) w2.c133))))) (hset_ne (by omega) (hset_ne (by omega) (hset_ne (by omega) (hset_ne (by omega) (hset_ne (by omega) w2.c134))))) ⟨fun _ => ⟨rfl, rfl⟩, by omega, Or.inl rfl⟩) v5 rfl (fun h6 g6 w6 => ?_)
      refine xRet_some ?_
      refine x_ireturn (dT U_X11_play 36 rfl) rfl ?_
      exact k (by omega) (by omega) _ _ _ (Ag.tr ((((((Ag.tr (Ag.tr (Ag.rf 70 142 h) (g1.w (by omega))) (g2.w (by omega))).set (by omega)).set (by omega)).set (by omega)).set (by omega)).set (by omega)) (g6.w (by omega))) (show MX (σ.sg (1, 0, i9, claim, 0, σ.g.z, σ.g.o, σ.rw i, σ.rw i, σ.g.dr)) 0 0 0 h6 from w6)
    · refine xRet_some ?_
      refine x_iconst (dT U_X11_play 10 rfl) ?_
      refine x_invokevirtual (rc' := rc) (rs' := rs) (rc2 := 0) (rs2 := 0) (As := [_, _]) (st := _) M_X11_lets K_X11_167 (dT U_X11_play 11 rfl) rfl rfl (by decide) rfl rfl w1.c70 (Nat.le_of_ble_eq_true rfl) (by decide) rfl (Nat.le_of_ble_eq_true rfl) rfl (by decide) (Nat.le_of_ble_eq_true rfl) rfl rfl ?_
      refine S_X11_lets0 w1 (fun h2 g2 w2 => ?_)
      refine xRet_some ?_
      refine x_if_nen (tgt := 27) (dT U_X11_play 12 rfl) (by decide) (by decide) ?_
      refine x_iconst (dT U_X11_play 13 rfl) ?_
      refine x_ireturn (dT U_X11_play 14 rfl) rfl ?_
      exact e2 (by omega) (by omega) _ _ (Ag.tr (Ag.tr (Ag.rf 70 142 h) (g1.w (by omega))) (g2.w (by omega))) w2 (by unfold xr; omega)
  · refine xRet_some ?_
    refine x_iconst (dT U_X11_play 3 rfl) ?_
    refine x_invokevirtual (rc' := rc) (rs' := rs) (rc2 := 0) (rs2 := 0) (As := [_, _]) (st := _) M_X11_lets K_X11_167 (dT U_X11_play 4 rfl) rfl rfl (by decide) rfl rfl w.c70 (Nat.le_of_ble_eq_true rfl) (by decide) rfl (Nat.le_of_ble_eq_true rfl) rfl (by decide) (Nat.le_of_ble_eq_true rfl) rfl rfl ?_
    refine S_X11_lets0 w (fun h1 g1 w1 => ?_)
    refine xRet_some ?_
    refine x_if_eqj (tgt := 25) (dT U_X11_play 5 rfl) (by decide) (by decide) ?_
    refine x_iconst (dT U_X11_play 13 rfl) ?_
    refine x_ireturn (dT U_X11_play 14 rfl) rfl ?_
    exact e1 (by omega) _ _ (Ag.tr (Ag.rf 70 142 h) (g1.w (by omega))) w1 (by unfold xr; omega)

set_option maxRecDepth 20000 in
set_option maxHeartbeats 1000000 in
theorem S_X11_send {G : xG} {d rc rs : Nat} {ex : Bool} {h : xH} {Q : xQ} {σ : St} {cc0 : Int} {rr : Nat} {ss : Int} {zero one : Int} {i9 : Int} (w : MX σ cc0 rr ss h) (v : INV σ) (h_zero : xr zero) (h_one : xr one) (e1 : ¬ (inb zero σ.p ∧ inb one σ.p) → ∀ h2 z, Ag 70 142 h h2 → MX σ 1 rr ss h2 → xr z → Q (.inl (some (vi z))) ex h2) (e2 : (inb zero σ.p ∧ inb one σ.p) → ¬ (σ.g.b = 1 ∧ σ.g.s = 0 ∧ σ.g.r < 3) → ∀ h2 z, Ag 70 142 h h2 → MX σ 2 rr ss h2 → xr z → Q (.inl (some (vi z))) ex h2) (e3 : (inb zero σ.p ∧ inb one σ.p) → (σ.g.b = 1 ∧ σ.g.s = 0 ∧ σ.g.r < 3) → ¬ ((zero + one) % (σ.p : Int) = σ.g.c) → ∀ h2 z, Ag 70 142 h h2 → MX σ 3 rr ss h2 → xr z → Q (.inl (some (vi z))) ex h2) (k : (inb zero σ.p ∧ inb one σ.p) → (σ.g.b = 1 ∧ σ.g.s = 0 ∧ σ.g.r < 3) → ((zero + one) % (σ.p : Int) = σ.g.c) → ∀ h2 r2 s2, Ag 70 142 h h2 → MX (σ.sg (σ.g.b, 1, i9, σ.g.c, σ.g.r, zero, one, σ.g.l, σ.g.tbl, σ.g.dr)) 0 r2 s2 h2 → Q (.inl (some (vi (wnn σ.p σ.g.l σ.g.r 1 σ.g.c zero one)))) ex h2) : X G m_X11_send (d + 4) rc rs ex 0 (xe m_X11_send.2.2.1 [.ref 70, vi zero, vi one]) [] h Q := by
  show X G m_X11_send _ _ _ _ 0 [some (.ref 70), some (vi zero), some (vi one), none] [] h Q
  have hp := PRb v.p
  have hq := gq_b v.p
  obtain ⟨g1, g2, g3, g4, g5, g6, g7, g8, g9, g10, g11, g12⟩ := v.g
  have gm := w.gm
  refine x_aload_n (dT U_X11_send 0 rfl) rfl ?_
  refine x_getfield F_X11_146 (dT U_X11_send 1 rfl) w.c70 (Nat.le_of_ble_eq_true rfl) rfl ?_
  refine x_if_eq (tgt := 26) (dT U_X11_send 2 rfl) (by decide) (by unfold xr; omega) (fun c4 => ?_) (fun c4 => ?_)
  · skip
    refine x_iconst (dT U_X11_send 12 rfl) ?_
    refine x_istore_n (ls' := [some (.ref _), some (vi _), some (vi _), some (vi _)]) (dT U_X11_send 13 rfl) (by decide) rfl ?_
    refine x_aload_n (dT U_X11_send 14 rfl) rfl ?_
    refine x_aload_n (dT U_X11_send 15 rfl) rfl ?_
    refine x_iload_n (dT U_X11_send 16 rfl) rfl ?_
    refine x_invokevirtual (rc' := rc) (rs' := rs) (rc2 := 0) (rs2 := 0) (As := [_]) (st := _) M_X11_isNumber K_X11_174 (dT U_X11_send 17 rfl) rfl rfl (by decide) rfl rfl w.c70 (Nat.le_of_ble_eq_true rfl) (by decide) rfl (Nat.le_of_ble_eq_true rfl) rfl (by decide) (Nat.le_of_ble_eq_true rfl) rfl rfl ?_
    refine S_X11_isNumber (w.mp) v.p h_zero (fun q1 => ?_) (fun q1 => ?_)
    · refine xRet_some ?_
      refine x_if_eqn (tgt := 49) (dT U_X11_send 18 rfl) (by decide) (by decide) ?_
      refine x_aload_n (dT U_X11_send 19 rfl) rfl ?_
      refine x_iload_n (dT U_X11_send 20 rfl) rfl ?_
      refine x_invokevirtual (rc' := rc) (rs' := rs) (rc2 := 0) (rs2 := 0) (As := [_]) (st := _) M_X11_isNumber K_X11_174 (dT U_X11_send 21 rfl) rfl rfl (by decide) rfl rfl w.c70 (Nat.le_of_ble_eq_true rfl) (by decide) rfl (Nat.le_of_ble_eq_true rfl) rfl (by decide) (Nat.le_of_ble_eq_true rfl) rfl rfl ?_
      refine S_X11_isNumber (w.mp) v.p h_one (fun q2 => ?_) (fun q2 => ?_)
      · refine xRet_some ?_
        refine x_if_eqn (tgt := 49) (dT U_X11_send 22 rfl) (by decide) (by decide) ?_
        refine x_iconst (dT U_X11_send 23 rfl) ?_
        refine x_goto (tgt := 50) (dT U_X11_send 24 rfl) (by decide) ?_
        refine x_iconst (dT U_X11_send 26 rfl) ?_
        refine x_invokevirtual (rc' := rc) (rs' := rs) (rc2 := 0) (rs2 := 0) (As := [_, _]) (st := _) M_X11_lets K_X11_167 (dT U_X11_send 27 rfl) rfl rfl (by decide) rfl rfl w.c70 (Nat.le_of_ble_eq_true rfl) (by decide) rfl (Nat.le_of_ble_eq_true rfl) rfl (by decide) (Nat.le_of_ble_eq_true rfl) rfl rfl ?_
        refine S_X11_lets1 w (fun h1 g1 w1 => ?_)
        refine xRet_some ?_
        refine x_if_eqn (tgt := 95) (dT U_X11_send 28 rfl) (by decide) (by decide) ?_
        refine x_aload_n (dT U_X11_send 29 rfl) rfl ?_
        refine x_iload_n (dT U_X11_send 30 rfl) rfl ?_
        refine x_iconst (dT U_X11_send 31 rfl) ?_
        refine x_invokevirtual (rc' := rc) (rs' := rs) (rc2 := 0) (rs2 := 0) (As := [_, _]) (st := _) M_X11_lets K_X11_167 (dT U_X11_send 32 rfl) rfl rfl (by decide) rfl rfl w1.c70 (Nat.le_of_ble_eq_true rfl) (by decide) rfl (Nat.le_of_ble_eq_true rfl) rfl (by decide) (Nat.le_of_ble_eq_true rfl) rfl rfl ?_
        refine S_X11_lets0 w1 (fun h2 g2 w2 => ?_)
        refine xRet_some ?_
        refine x_if_eqj (tgt := 95) (dT U_X11_send 33 rfl) (by decide) (by decide) ?_
        refine x_iconst (dT U_X11_send 51 rfl) ?_
        refine x_ireturn (dT U_X11_send 52 rfl) rfl ?_
        exact e2 (by omega) (by omega) _ _ (Ag.tr (Ag.tr (Ag.rf 70 142 h) (g1.w (by omega))) (g2.w (by omega))) w2 (by unfold xr; omega)
      · refine xRet_some ?_
        refine x_if_eqj (tgt := 49) (dT U_X11_send 22 rfl) (by decide) (by decide) ?_
        refine x_iconst (dT U_X11_send 25 rfl) ?_
        refine x_iconst (dT U_X11_send 26 rfl) ?_
        refine x_invokevirtual (rc' := rc) (rs' := rs) (rc2 := 0) (rs2 := 0) (As := [_, _]) (st := _) M_X11_lets K_X11_167 (dT U_X11_send 27 rfl) rfl rfl (by decide) rfl rfl w.c70 (Nat.le_of_ble_eq_true rfl) (by decide) rfl (Nat.le_of_ble_eq_true rfl) rfl (by decide) (Nat.le_of_ble_eq_true rfl) rfl rfl ?_
        refine S_X11_lets0 w (fun h1 g1 w1 => ?_)
        refine xRet_some ?_
        refine x_if_eqj (tgt := 95) (dT U_X11_send 28 rfl) (by decide) (by decide) ?_
        refine x_iconst (dT U_X11_send 51 rfl) ?_
        refine x_ireturn (dT U_X11_send 52 rfl) rfl ?_
        exact e1 (by omega) _ _ (Ag.tr (Ag.rf 70 142 h) (g1.w (by omega))) w1 (by unfold xr; omega)
    · refine xRet_some ?_
      refine x_if_eqj (tgt := 49) (dT U_X11_send 18 rfl) (by decide) (by decide) ?_
      refine x_iconst (dT U_X11_send 25 rfl) ?_
      refine x_iconst (dT U_X11_send 26 rfl) ?_
      refine x_invokevirtual (rc' := rc) (rs' := rs) (rc2 := 0) (rs2 := 0) (As := [_, _]) (st := _) M_X11_lets K_X11_167 (dT U_X11_send 27 rfl) rfl rfl (by decide) rfl rfl w.c70 (Nat.le_of_ble_eq_true rfl) (by decide) rfl (Nat.le_of_ble_eq_true rfl) rfl (by decide) (Nat.le_of_ble_eq_true rfl) rfl rfl ?_
      refine S_X11_lets0 w (fun h1 g1 w1 => ?_)
      refine xRet_some ?_
      refine x_if_eqj (tgt := 95) (dT U_X11_send 28 rfl) (by decide) (by decide) ?_
      refine x_iconst (dT U_X11_send 51 rfl) ?_
      refine x_ireturn (dT U_X11_send 52 rfl) rfl ?_
      exact e1 (by omega) _ _ (Ag.tr (Ag.rf 70 142 h) (g1.w (by omega))) w1 (by unfold xr; omega)
  · skip
    refine x_aload_n (dT U_X11_send 3 rfl) rfl ?_
    refine x_getfield F_X11_150 (dT U_X11_send 4 rfl) w.c70 (Nat.le_of_ble_eq_true rfl) rfl ?_
    refine x_if_ne (tgt := 26) (dT U_X11_send 5 rfl) (by decide) (by unfold xr; omega) (fun c11 => ?_) (fun c11 => ?_)
    · skip
      refine x_iconst (dT U_X11_send 12 rfl) ?_
      refine x_istore_n (ls' := [some (.ref _), some (vi _), some (vi _), some (vi _)]) (dT U_X11_send 13 rfl) (by decide) rfl ?_
      refine x_aload_n (dT U_X11_send 14 rfl) rfl ?_
      refine x_aload_n (dT U_X11_send 15 rfl) rfl ?_
      refine x_iload_n (dT U_X11_send 16 rfl) rfl ?_
      refine x_invokevirtual (rc' := rc) (rs' := rs) (rc2 := 0) (rs2 := 0) (As := [_]) (st := _) M_X11_isNumber K_X11_174 (dT U_X11_send 17 rfl) rfl rfl (by decide) rfl rfl w.c70 (Nat.le_of_ble_eq_true rfl) (by decide) rfl (Nat.le_of_ble_eq_true rfl) rfl (by decide) (Nat.le_of_ble_eq_true rfl) rfl rfl ?_
      refine S_X11_isNumber (w.mp) v.p h_zero (fun q1 => ?_) (fun q1 => ?_)
      · refine xRet_some ?_
        refine x_if_eqn (tgt := 49) (dT U_X11_send 18 rfl) (by decide) (by decide) ?_
        refine x_aload_n (dT U_X11_send 19 rfl) rfl ?_
        refine x_iload_n (dT U_X11_send 20 rfl) rfl ?_
        refine x_invokevirtual (rc' := rc) (rs' := rs) (rc2 := 0) (rs2 := 0) (As := [_]) (st := _) M_X11_isNumber K_X11_174 (dT U_X11_send 21 rfl) rfl rfl (by decide) rfl rfl w.c70 (Nat.le_of_ble_eq_true rfl) (by decide) rfl (Nat.le_of_ble_eq_true rfl) rfl (by decide) (Nat.le_of_ble_eq_true rfl) rfl rfl ?_
        refine S_X11_isNumber (w.mp) v.p h_one (fun q2 => ?_) (fun q2 => ?_)
        · refine xRet_some ?_
          refine x_if_eqn (tgt := 49) (dT U_X11_send 22 rfl) (by decide) (by decide) ?_
          refine x_iconst (dT U_X11_send 23 rfl) ?_
          refine x_goto (tgt := 50) (dT U_X11_send 24 rfl) (by decide) ?_
          refine x_iconst (dT U_X11_send 26 rfl) ?_
          refine x_invokevirtual (rc' := rc) (rs' := rs) (rc2 := 0) (rs2 := 0) (As := [_, _]) (st := _) M_X11_lets K_X11_167 (dT U_X11_send 27 rfl) rfl rfl (by decide) rfl rfl w.c70 (Nat.le_of_ble_eq_true rfl) (by decide) rfl (Nat.le_of_ble_eq_true rfl) rfl (by decide) (Nat.le_of_ble_eq_true rfl) rfl rfl ?_
          refine S_X11_lets1 w (fun h1 g1 w1 => ?_)
          refine xRet_some ?_
          refine x_if_eqn (tgt := 95) (dT U_X11_send 28 rfl) (by decide) (by decide) ?_
          refine x_aload_n (dT U_X11_send 29 rfl) rfl ?_
          refine x_iload_n (dT U_X11_send 30 rfl) rfl ?_
          refine x_iconst (dT U_X11_send 31 rfl) ?_
          refine x_invokevirtual (rc' := rc) (rs' := rs) (rc2 := 0) (rs2 := 0) (As := [_, _]) (st := _) M_X11_lets K_X11_167 (dT U_X11_send 32 rfl) rfl rfl (by decide) rfl rfl w1.c70 (Nat.le_of_ble_eq_true rfl) (by decide) rfl (Nat.le_of_ble_eq_true rfl) rfl (by decide) (Nat.le_of_ble_eq_true rfl) rfl rfl ?_
          refine S_X11_lets0 w1 (fun h2 g2 w2 => ?_)
          refine xRet_some ?_
          refine x_if_eqj (tgt := 95) (dT U_X11_send 33 rfl) (by decide) (by decide) ?_
          refine x_iconst (dT U_X11_send 51 rfl) ?_
          refine x_ireturn (dT U_X11_send 52 rfl) rfl ?_
          exact e2 (by omega) (by omega) _ _ (Ag.tr (Ag.tr (Ag.rf 70 142 h) (g1.w (by omega))) (g2.w (by omega))) w2 (by unfold xr; omega)
        · refine xRet_some ?_
          refine x_if_eqj (tgt := 49) (dT U_X11_send 22 rfl) (by decide) (by decide) ?_
          refine x_iconst (dT U_X11_send 25 rfl) ?_
          refine x_iconst (dT U_X11_send 26 rfl) ?_
          refine x_invokevirtual (rc' := rc) (rs' := rs) (rc2 := 0) (rs2 := 0) (As := [_, _]) (st := _) M_X11_lets K_X11_167 (dT U_X11_send 27 rfl) rfl rfl (by decide) rfl rfl w.c70 (Nat.le_of_ble_eq_true rfl) (by decide) rfl (Nat.le_of_ble_eq_true rfl) rfl (by decide) (Nat.le_of_ble_eq_true rfl) rfl rfl ?_
          refine S_X11_lets0 w (fun h1 g1 w1 => ?_)
          refine xRet_some ?_
          refine x_if_eqj (tgt := 95) (dT U_X11_send 28 rfl) (by decide) (by decide) ?_
          refine x_iconst (dT U_X11_send 51 rfl) ?_
          refine x_ireturn (dT U_X11_send 52 rfl) rfl ?_
          exact e1 (by omega) _ _ (Ag.tr (Ag.rf 70 142 h) (g1.w (by omega))) w1 (by unfold xr; omega)
      · refine xRet_some ?_
        refine x_if_eqj (tgt := 49) (dT U_X11_send 18 rfl) (by decide) (by decide) ?_
        refine x_iconst (dT U_X11_send 25 rfl) ?_
        refine x_iconst (dT U_X11_send 26 rfl) ?_
        refine x_invokevirtual (rc' := rc) (rs' := rs) (rc2 := 0) (rs2 := 0) (As := [_, _]) (st := _) M_X11_lets K_X11_167 (dT U_X11_send 27 rfl) rfl rfl (by decide) rfl rfl w.c70 (Nat.le_of_ble_eq_true rfl) (by decide) rfl (Nat.le_of_ble_eq_true rfl) rfl (by decide) (Nat.le_of_ble_eq_true rfl) rfl rfl ?_
        refine S_X11_lets0 w (fun h1 g1 w1 => ?_)
        refine xRet_some ?_
        refine x_if_eqj (tgt := 95) (dT U_X11_send 28 rfl) (by decide) (by decide) ?_
        refine x_iconst (dT U_X11_send 51 rfl) ?_
        refine x_ireturn (dT U_X11_send 52 rfl) rfl ?_
        exact e1 (by omega) _ _ (Ag.tr (Ag.rf 70 142 h) (g1.w (by omega))) w1 (by unfold xr; omega)
    · skip
      refine x_aload_n (dT U_X11_send 6 rfl) rfl ?_
      refine x_getfield F_X11_153 (dT U_X11_send 7 rfl) w.c70 (Nat.le_of_ble_eq_true rfl) rfl ?_
      refine x_iconst (dT U_X11_send 8 rfl) ?_
      refine x_icmp_ge (tgt := 26) (dT U_X11_send 9 rfl) (by decide) (by unfold xr; omega) (by unfold xr; omega) (fun c19 => ?_) (fun c19 => ?_)
      · skip
        refine x_iconst (dT U_X11_send 12 rfl) ?_
        refine x_istore_n (ls' := [some (.ref _), some (vi _), some (vi _), some (vi _)]) (dT U_X11_send 13 rfl) (by decide) rfl ?_
        refine x_aload_n (dT U_X11_send 14 rfl) rfl ?_
        refine x_aload_n (dT U_X11_send 15 rfl) rfl ?_
        refine x_iload_n (dT U_X11_send 16 rfl) rfl ?_
        refine x_invokevirtual (rc' := rc) (rs' := rs) (rc2 := 0) (rs2 := 0) (As := [_]) (st := _) M_X11_isNumber K_X11_174 (dT U_X11_send 17 rfl) rfl rfl (by decide) rfl rfl w.c70 (Nat.le_of_ble_eq_true rfl) (by decide) rfl (Nat.le_of_ble_eq_true rfl) rfl (by decide) (Nat.le_of_ble_eq_true rfl) rfl rfl ?_
        refine S_X11_isNumber (w.mp) v.p h_zero (fun q1 => ?_) (fun q1 => ?_)
        · refine xRet_some ?_
          refine x_if_eqn (tgt := 49) (dT U_X11_send 18 rfl) (by decide) (by decide) ?_
          refine x_aload_n (dT U_X11_send 19 rfl) rfl ?_
          refine x_iload_n (dT U_X11_send 20 rfl) rfl ?_
          refine x_invokevirtual (rc' := rc) (rs' := rs) (rc2 := 0) (rs2 := 0) (As := [_]) (st := _) M_X11_isNumber K_X11_174 (dT U_X11_send 21 rfl) rfl rfl (by decide) rfl rfl w.c70 (Nat.le_of_ble_eq_true rfl) (by decide) rfl (Nat.le_of_ble_eq_true rfl) rfl (by decide) (Nat.le_of_ble_eq_true rfl) rfl rfl ?_
          refine S_X11_isNumber (w.mp) v.p h_one (fun q2 => ?_) (fun q2 => ?_)
          · refine xRet_some ?_
            refine x_if_eqn (tgt := 49) (dT U_X11_send 22 rfl) (by decide) (by decide) ?_
            refine x_iconst (dT U_X11_send 23 rfl) ?_
            refine x_goto (tgt := 50) (dT U_X11_send 24 rfl) (by decide) ?_
            refine x_iconst (dT U_X11_send 26 rfl) ?_
            refine x_invokevirtual (rc' := rc) (rs' := rs) (rc2 := 0) (rs2 := 0) (As := [_, _]) (st := _) M_X11_lets K_X11_167 (dT U_X11_send 27 rfl) rfl rfl (by decide) rfl rfl w.c70 (Nat.le_of_ble_eq_true rfl) (by decide) rfl (Nat.le_of_ble_eq_true rfl) rfl (by decide) (Nat.le_of_ble_eq_true rfl) rfl rfl ?_
            refine S_X11_lets1 w (fun h1 g1 w1 => ?_)
            refine xRet_some ?_
            refine x_if_eqn (tgt := 95) (dT U_X11_send 28 rfl) (by decide) (by decide) ?_
            refine x_aload_n (dT U_X11_send 29 rfl) rfl ?_
            refine x_iload_n (dT U_X11_send 30 rfl) rfl ?_
            refine x_iconst (dT U_X11_send 31 rfl) ?_
            refine x_invokevirtual (rc' := rc) (rs' := rs) (rc2 := 0) (rs2 := 0) (As := [_, _]) (st := _) M_X11_lets K_X11_167 (dT U_X11_send 32 rfl) rfl rfl (by decide) rfl rfl w1.c70 (Nat.le_of_ble_eq_true rfl) (by decide) rfl (Nat.le_of_ble_eq_true rfl) rfl (by decide) (Nat.le_of_ble_eq_true rfl) rfl rfl ?_
            refine S_X11_lets0 w1 (fun h2 g2 w2 => ?_)
            refine xRet_some ?_
            refine x_if_eqj (tgt := 95) (dT U_X11_send 33 rfl) (by decide) (by decide) ?_
            refine x_iconst (dT U_X11_send 51 rfl) ?_
            refine x_ireturn (dT U_X11_send 52 rfl) rfl ?_
            exact e2 (by omega) (by omega) _ _ (Ag.tr (Ag.tr (Ag.rf 70 142 h) (g1.w (by omega))) (g2.w (by omega))) w2 (by unfold xr; omega)
          · refine xRet_some ?_
            refine x_if_eqj (tgt := 49) (dT U_X11_send 22 rfl) (by decide) (by decide) ?_
            refine x_iconst (dT U_X11_send 25 rfl) ?_
            refine x_iconst (dT U_X11_send 26 rfl) ?_
            refine x_invokevirtual (rc' := rc) (rs' := rs) (rc2 := 0) (rs2 := 0) (As := [_, _]) (st := _) M_X11_lets K_X11_167 (dT U_X11_send 27 rfl) rfl rfl (by decide) rfl rfl w.c70 (Nat.le_of_ble_eq_true rfl) (by decide) rfl (Nat.le_of_ble_eq_true rfl) rfl (by decide) (Nat.le_of_ble_eq_true rfl) rfl rfl ?_
            refine S_X11_lets0 w (fun h1 g1 w1 => ?_)
            refine xRet_some ?_
            refine x_if_eqj (tgt := 95) (dT U_X11_send 28 rfl) (by decide) (by decide) ?_
            refine x_iconst (dT U_X11_send 51 rfl) ?_
            refine x_ireturn (dT U_X11_send 52 rfl) rfl ?_
            exact e1 (by omega) _ _ (Ag.tr (Ag.rf 70 142 h) (g1.w (by omega))) w1 (by unfold xr; omega)
        · refine xRet_some ?_
          refine x_if_eqj (tgt := 49) (dT U_X11_send 18 rfl) (by decide) (by decide) ?_
          refine x_iconst (dT U_X11_send 25 rfl) ?_
          refine x_iconst (dT U_X11_send 26 rfl) ?_
          refine x_invokevirtual (rc' := rc) (rs' := rs) (rc2 := 0) (rs2 := 0) (As := [_, _]) (st := _) M_X11_lets K_X11_167 (dT U_X11_send 27 rfl) rfl rfl (by decide) rfl rfl w.c70 (Nat.le_of_ble_eq_true rfl) (by decide) rfl (Nat.le_of_ble_eq_true rfl) rfl (by decide) (Nat.le_of_ble_eq_true rfl) rfl rfl ?_
          refine S_X11_lets0 w (fun h1 g1 w1 => ?_)
          refine xRet_some ?_
          refine x_if_eqj (tgt := 95) (dT U_X11_send 28 rfl) (by decide) (by decide) ?_
          refine x_iconst (dT U_X11_send 51 rfl) ?_
          refine x_ireturn (dT U_X11_send 52 rfl) rfl ?_
          exact e1 (by omega) _ _ (Ag.tr (Ag.rf 70 142 h) (g1.w (by omega))) w1 (by unfold xr; omega)
      · skip
        refine x_iconst (dT U_X11_send 10 rfl) ?_
        refine x_goto (tgt := 27) (dT U_X11_send 11 rfl) (by decide) ?_
        refine x_istore_n (ls' := [some (.ref _), some (vi _), some (vi _), some (vi _)]) (dT U_X11_send 13 rfl) (by decide) rfl ?_
        refine x_aload_n (dT U_X11_send 14 rfl) rfl ?_
        refine x_aload_n (dT U_X11_send 15 rfl) rfl ?_
        refine x_iload_n (dT U_X11_send 16 rfl) rfl ?_
        refine x_invokevirtual (rc' := rc) (rs' := rs) (rc2 := 0) (rs2 := 0) (As := [_]) (st := _) M_X11_isNumber K_X11_174 (dT U_X11_send 17 rfl) rfl rfl (by decide) rfl rfl w.c70 (Nat.le_of_ble_eq_true rfl) (by decide) rfl (Nat.le_of_ble_eq_true rfl) rfl (by decide) (Nat.le_of_ble_eq_true rfl) rfl rfl ?_
        refine S_X11_isNumber (w.mp) v.p h_zero (fun q1 => ?_) (fun q1 => ?_)
        · refine xRet_some ?_
          refine x_if_eqn (tgt := 49) (dT U_X11_send 18 rfl) (by decide) (by decide) ?_
          refine x_aload_n (dT U_X11_send 19 rfl) rfl ?_
          refine x_iload_n (dT U_X11_send 20 rfl) rfl ?_
          refine x_invokevirtual (rc' := rc) (rs' := rs) (rc2 := 0) (rs2 := 0) (As := [_]) (st := _) M_X11_isNumber K_X11_174 (dT U_X11_send 21 rfl) rfl rfl (by decide) rfl rfl w.c70 (Nat.le_of_ble_eq_true rfl) (by decide) rfl (Nat.le_of_ble_eq_true rfl) rfl (by decide) (Nat.le_of_ble_eq_true rfl) rfl rfl ?_
          refine S_X11_isNumber (w.mp) v.p h_one (fun q2 => ?_) (fun q2 => ?_)
          · refine xRet_some ?_
            refine x_if_eqn (tgt := 49) (dT U_X11_send 22 rfl) (by decide) (by decide) ?_
            refine x_iconst (dT U_X11_send 23 rfl) ?_
            refine x_goto (tgt := 50) (dT U_X11_send 24 rfl) (by decide) ?_
            refine x_iconst (dT U_X11_send 26 rfl) ?_
            refine x_invokevirtual (rc' := rc) (rs' := rs) (rc2 := 0) (rs2 := 0) (As := [_, _]) (st := _) M_X11_lets K_X11_167 (dT U_X11_send 27 rfl) rfl rfl (by decide) rfl rfl w.c70 (Nat.le_of_ble_eq_true rfl) (by decide) rfl (Nat.le_of_ble_eq_true rfl) rfl (by decide) (Nat.le_of_ble_eq_true rfl) rfl rfl ?_
            refine S_X11_lets1 w (fun h1 g1 w1 => ?_)
            refine xRet_some ?_
            refine x_if_eqn (tgt := 95) (dT U_X11_send 28 rfl) (by decide) (by decide) ?_
            refine x_aload_n (dT U_X11_send 29 rfl) rfl ?_
            refine x_iload_n (dT U_X11_send 30 rfl) rfl ?_
            refine x_iconst (dT U_X11_send 31 rfl) ?_
            refine x_invokevirtual (rc' := rc) (rs' := rs) (rc2 := 0) (rs2 := 0) (As := [_, _]) (st := _) M_X11_lets K_X11_167 (dT U_X11_send 32 rfl) rfl rfl (by decide) rfl rfl w1.c70 (Nat.le_of_ble_eq_true rfl) (by decide) rfl (Nat.le_of_ble_eq_true rfl) rfl (by decide) (Nat.le_of_ble_eq_true rfl) rfl rfl ?_
            refine S_X11_lets1 w1 (fun h2 g2 w2 => ?_)
            refine xRet_some ?_
            refine x_if_eqn (tgt := 95) (dT U_X11_send 33 rfl) (by decide) (by decide) ?_
            refine x_aload_n (dT U_X11_send 34 rfl) rfl ?_
            refine x_aload_n (dT U_X11_send 35 rfl) rfl ?_
            refine x_iload_n (dT U_X11_send 36 rfl) rfl ?_
            refine x_i2l (dT U_X11_send 37 rfl) (by unfold xr at *; omega) ?_
            refine x_iload_n (dT U_X11_send 38 rfl) rfl ?_
            refine x_i2l (dT U_X11_send 39 rfl) (by unfold xr at *; omega) ?_
            refine x_ladd (dT U_X11_send 40 rfl) ?_
            refine x_invokevirtual (rc' := rc) (rs' := rs) (rc2 := 0) (rs2 := 0) (As := [_]) (st := _) M_X11_f K_X11_156 (dT U_X11_send 41 rfl) rfl rfl (by decide) rfl rfl w2.c70 (Nat.le_of_ble_eq_true rfl) (by decide) rfl (Nat.le_of_ble_eq_true rfl) rfl (by decide) (Nat.le_of_ble_eq_true rfl) rfl rfl ?_
            refine S_X11_f (w2.mp) v.p (by unfold xrl; omega) ?_
            have zb := modb (z := zero + one) (p := (σ.p : Int)) (by omega)
            refine xRet_some ?_
            refine x_aload_n (dT U_X11_send 42 rfl) rfl ?_
            refine x_getfield F_X11_314 (dT U_X11_send 43 rfl) w2.c70 (Nat.le_of_ble_eq_true rfl) rfl ?_
            refine x_icmp_ne (tgt := 87) (dT U_X11_send 44 rfl) (by decide) (by unfold xr; omega) (by unfold xr; omega) (fun c80 => ?_) (fun c80 => ?_)
            · skip
              refine x_iconst (dT U_X11_send 47 rfl) ?_
              refine x_iconst (dT U_X11_send 48 rfl) ?_
              refine x_invokevirtual (rc' := rc) (rs' := rs) (rc2 := 0) (rs2 := 0) (As := [_, _]) (st := _) M_X11_lets K_X11_167 (dT U_X11_send 49 rfl) rfl rfl (by decide) rfl rfl w2.c70 (Nat.le_of_ble_eq_true rfl) (by decide) rfl (Nat.le_of_ble_eq_true rfl) rfl (by decide) (Nat.le_of_ble_eq_true rfl) rfl rfl ?_
              refine S_X11_lets0 w2 (fun h3 g3 w3 => ?_)
              refine xRet_some ?_
              refine x_if_nen (tgt := 97) (dT U_X11_send 50 rfl) (by decide) (by decide) ?_
              refine x_iconst (dT U_X11_send 51 rfl) ?_
              refine x_ireturn (dT U_X11_send 52 rfl) rfl ?_
              exact e3 (by omega) (by omega) (by omega) _ _ (Ag.tr (Ag.tr (Ag.tr (Ag.rf 70 142 h) (g1.w (by omega))) (g2.w (by omega))) (g3.w (by omega))) w3 (by unfold xr; omega)
            · skip
              refine x_iconst (dT U_X11_send 45 rfl) ?_
              refine x_goto (tgt := 88) (dT U_X11_send 46 rfl) (by decide) ?_
              refine x_iconst (dT U_X11_send 48 rfl) ?_
              refine x_invokevirtual (rc' := rc) (rs' := rs) (rc2 := 0) (rs2 := 0) (As := [_, _]) (st := _) M_X11_lets K_X11_167 (dT U_X11_send 49 rfl) rfl rfl (by decide) rfl rfl w2.c70 (Nat.le_of_ble_eq_true rfl) (by decide) rfl (Nat.le_of_ble_eq_true rfl) rfl (by decide) (Nat.le_of_ble_eq_true rfl) rfl rfl ?_
              refine S_X11_lets1 w2 (fun h3 g3 w3 => ?_)
              refine xRet_some ?_
              refine x_if_nej (tgt := 97) (dT U_X11_send 50 rfl) (by decide) (by decide) ?_
              have b1 : σ.g.b = 1 := by omega
              have b2 := gm.1 b1
              refine x_aload_n (dT U_X11_send 53 rfl) rfl ?_
              refine x_iload_n (dT U_X11_send 54 rfl) rfl ?_
              refine x_putfield F_X11_304 (dT U_X11_send 55 rfl) w3.c70 (Nat.le_of_ble_eq_true rfl) (Nat.le_of_ble_eq_true rfl) rfl rfl ?_
              change X G _ _ _ _ _ _ _ _ (List.set _ 70 (mC 0 σ.p σ.G.n σ.g.b rr σ.g.c ss zero σ.g.o σ.L.n)) _
              refine x_aload_n (dT U_X11_send 56 rfl) rfl ?_
              refine x_iload_n (dT U_X11_send 57 rfl) rfl ?_
              refine x_putfield F_X11_307 (dT U_X11_send 58 rfl) (hset_eq w3.c70) (Nat.le_of_ble_eq_true rfl) (Nat.le_of_ble_eq_true rfl) rfl rfl ?_
              change X G _ _ _ _ _ _ _ _ (List.set _ 70 (mC 0 σ.p σ.G.n σ.g.b rr σ.g.c ss zero one σ.L.n)) _
              refine x_aload_n (dT U_X11_send 59 rfl) rfl ?_
              refine x_iconst (dT U_X11_send 60 rfl) ?_
              refine x_putfield F_X11_150 (dT U_X11_send 61 rfl) (hset_eq (hset_eq w3.c70)) (Nat.le_of_ble_eq_true rfl) (Nat.le_of_ble_eq_true rfl) rfl rfl ?_
              change X G _ _ _ _ _ _ _ _ (List.set _ 70 (mC 0 σ.p σ.G.n σ.g.b rr σ.g.c 1 zero one σ.L.n)) _
              refine x_aload_n (dT U_X11_send 62 rfl) rfl ?_
              refine x_invokevirtual (rc' := rc) (rs' := rs) (rc2 := 0) (rs2 := 0) (As := []) (st := _) M_X11_chancesLeft K_X11_323 (dT U_X11_send 63 rfl) rfl rfl (by decide) rfl rfl (hset_eq (hset_eq (hset_eq w3.c70))) (Nat.le_of_ble_eq_true rfl) (by decide) rfl (Nat.le_of_ble_eq_true rfl) rfl (by decide) (Nat.le_of_ble_eq_true rfl) rfl rfl ?_
              have v5 : INV (σ.sg (σ.g.b, 1, 0, σ.g.c, σ.g.r, zero, one, σ.g.l, σ.g.tbl, σ.g.dr)) := v.send ⟨b1, by omega, by omega⟩ (by omega) (by omega) (Or.inr rfl)
              refine S_X11_chancesLeft (σ := (σ.sg (σ.g.b, 1, 0, σ.g.c, σ.g.r, zero, one, σ.g.l, σ.g.tbl, σ.g.dr))) (rr := rr) (ss := 1) (w3.game (g := (σ.g.b, 1, 0, σ.g.c, σ.g.r, zero, one, σ.g.l, σ.g.tbl, σ.g.dr)) (r2 := rr) (s2 := 1) (fun a9 ha => by rw [hset_fr (by omega), hset_fr (by omega), hset_fr (by omega)]) (hset_eq (hset_eq (hset_eq w3.c70))) (hset_ne (by omega) (hset_ne (by omega) (hset_ne (by omega) (w3.c133)))) (hset_ne (by omega) (hset_ne (by omega) (hset_ne (by omega) (w3.c134)))) ⟨fun _ => ⟨(gm.1 b1).1, rfl⟩, by omega, Or.inr rfl⟩) v5 b1 (fun h6 g6 w6 => ?_)
              refine xRet_some ?_
              refine x_ireturn (dT U_X11_send 64 rfl) rfl ?_
              exact k (by omega) ⟨b1, by omega, by omega⟩ (by omega) _ _ _ (Ag.tr ((((Ag.tr (Ag.tr (Ag.tr (Ag.rf 70 142 h) (g1.w (by omega))) (g2.w (by omega))) (g3.w (by omega))).set (by omega)).set (by omega)).set (by omega)) (g6.w (by omega))) (show MX (σ.sg (σ.g.b, 1, i9, σ.g.c, σ.g.r, zero, one, σ.g.l, σ.g.tbl, σ.g.dr)) 0 rr 1 h6 from w6)
          · refine xRet_some ?_
            refine x_if_eqj (tgt := 49) (dT U_X11_send 22 rfl) (by decide) (by decide) ?_
            refine x_iconst (dT U_X11_send 25 rfl) ?_
            refine x_iconst (dT U_X11_send 26 rfl) ?_
            refine x_invokevirtual (rc' := rc) (rs' := rs) (rc2 := 0) (rs2 := 0) (As := [_, _]) (st := _) M_X11_lets K_X11_167 (dT U_X11_send 27 rfl) rfl rfl (by decide) rfl rfl w.c70 (Nat.le_of_ble_eq_true rfl) (by decide) rfl (Nat.le_of_ble_eq_true rfl) rfl (by decide) (Nat.le_of_ble_eq_true rfl) rfl rfl ?_
            refine S_X11_lets0 w (fun h1 g1 w1 => ?_)
            refine xRet_some ?_
            refine x_if_eqj (tgt := 95) (dT U_X11_send 28 rfl) (by decide) (by decide) ?_
            refine x_iconst (dT U_X11_send 51 rfl) ?_
            refine x_ireturn (dT U_X11_send 52 rfl) rfl ?_
            exact e1 (by omega) _ _ (Ag.tr (Ag.rf 70 142 h) (g1.w (by omega))) w1 (by unfold xr; omega)
        · refine xRet_some ?_
          refine x_if_eqj (tgt := 49) (dT U_X11_send 18 rfl) (by decide) (by decide) ?_
          refine x_iconst (dT U_X11_send 25 rfl) ?_
          refine x_iconst (dT U_X11_send 26 rfl) ?_
          refine x_invokevirtual (rc' := rc) (rs' := rs) (rc2 := 0) (rs2 := 0) (As := [_, _]) (st := _) M_X11_lets K_X11_167 (dT U_X11_send 27 rfl) rfl rfl (by decide) rfl rfl w.c70 (Nat.le_of_ble_eq_true rfl) (by decide) rfl (Nat.le_of_ble_eq_true rfl) rfl (by decide) (Nat.le_of_ble_eq_true rfl) rfl rfl ?_
          refine S_X11_lets0 w (fun h1 g1 w1 => ?_)
          refine xRet_some ?_
          refine x_if_eqj (tgt := 95) (dT U_X11_send 28 rfl) (by decide) (by decide) ?_
          refine x_iconst (dT U_X11_send 51 rfl) ?_
          refine x_ireturn (dT U_X11_send 52 rfl) rfl ?_
          exact e1 (by omega) _ _ (Ag.tr (Ag.rf 70 142 h) (g1.w (by omega))) w1 (by unfold xr; omega)

set_option maxRecDepth 20000 in
set_option maxHeartbeats 1000000 in
theorem S_X11_draw {G : xG} {d rc rs : Nat} {ex : Bool} {h : xH} {Q : xQ} {σ : St} {cc0 : Int} {rr : Nat} {ss : Int} {c : Int} (w : MX σ cc0 rr ss h) (v : INV σ) (h_c : xr c) (e1 : ¬ (inb c σ.p) → ∀ h2 z, Ag 70 142 h h2 → MX σ 1 rr ss h2 → xr z → Q (.inl (some (vi z))) ex h2) (e2 : (inb c σ.p) → ¬ (σ.g.b = 1 ∧ σ.g.s = 1) → ∀ h2 z, Ag 70 142 h h2 → MX σ 2 rr ss h2 → xr z → Q (.inl (some (vi z))) ex h2) (k : (inb c σ.p) → (σ.g.b = 1 ∧ σ.g.s = 1) → ∀ h2 r2 s2, Ag 70 142 h h2 → MX (σ.sg (σ.g.b, 0, σ.g.i, ln σ.p σ.g.z σ.g.o c, σ.g.r + 1, σ.g.z, σ.g.o, bnd σ.p σ.g.l σ.g.r c, σ.g.tbl, σ.g.dr.set σ.g.r c)) 0 r2 s2 h2 → Q (.inl (some (vi (ln σ.p σ.g.z σ.g.o c)))) ex h2) : X G m_X11_draw (d + 2) rc rs ex 0 (xe m_X11_draw.2.2.1 [.ref 70, vi c]) [] h Q := by
  show X G m_X11_draw _ _ _ _ 0 [some (.ref 70), some (vi c)] [] h Q
  have hp := PRb v.p
  have hq := gq_b v.p
  obtain ⟨g1, g2, g3, g4, g5, g6, g7, g8, g9, g10, g11, g12⟩ := v.g
  have gm := w.gm
  refine x_aload_n (dT U_X11_draw 0 rfl) rfl ?_
  refine x_aload_n (dT U_X11_draw 1 rfl) rfl ?_
  refine x_iload_n (dT U_X11_draw 2 rfl) rfl ?_
  refine x_invokevirtual (rc' := rc) (rs' := rs) (rc2 := 0) (rs2 := 0) (As := [_]) (st := _) M_X11_isNumber K_X11_174 (dT U_X11_draw 3 rfl) rfl rfl (by decide) rfl rfl w.c70 (Nat.le_of_ble_eq_true rfl) (by decide) rfl (Nat.le_of_ble_eq_true rfl) rfl (by decide) (Nat.le_of_ble_eq_true rfl) rfl rfl ?_
  refine S_X11_isNumber (w.mp) v.p h_c (fun q1 => ?_) (fun q1 => ?_)
  · refine xRet_some ?_
    refine x_iconst (dT U_X11_draw 4 rfl) ?_
    refine x_invokevirtual (rc' := rc) (rs' := rs) (rc2 := 0) (rs2 := 0) (As := [_, _]) (st := _) M_X11_lets K_X11_167 (dT U_X11_draw 5 rfl) rfl rfl (by decide) rfl rfl w.c70 (Nat.le_of_ble_eq_true rfl) (by decide) rfl (Nat.le_of_ble_eq_true rfl) rfl (by decide) (Nat.le_of_ble_eq_true rfl) rfl rfl ?_
    refine S_X11_lets1 w (fun h1 g1 w1 => ?_)
    refine xRet_some ?_
    refine x_if_eqn (tgt := 40) (dT U_X11_draw 6 rfl) (by decide) (by decide) ?_
    refine x_aload_n (dT U_X11_draw 7 rfl) rfl ?_
    refine x_aload_n (dT U_X11_draw 8 rfl) rfl ?_
    refine x_getfield F_X11_146 (dT U_X11_draw 9 rfl) w1.c70 (Nat.le_of_ble_eq_true rfl) rfl ?_
    refine x_if_eq (tgt := 32) (dT U_X11_draw 10 rfl) (by decide) (by unfold xr; omega) (fun c18 => ?_) (fun c18 => ?_)
    · skip
      refine x_iconst (dT U_X11_draw 16 rfl) ?_
      refine x_iconst (dT U_X11_draw 17 rfl) ?_
      refine x_invokevirtual (rc' := rc) (rs' := rs) (rc2 := 0) (rs2 := 0) (As := [_, _]) (st := _) M_X11_lets K_X11_167 (dT U_X11_draw 18 rfl) rfl rfl (by decide) rfl rfl w1.c70 (Nat.le_of_ble_eq_true rfl) (by decide) rfl (Nat.le_of_ble_eq_true rfl) rfl (by decide) (Nat.le_of_ble_eq_true rfl) rfl rfl ?_
      refine S_X11_lets0 w1 (fun h2 g2 w2 => ?_)
      refine xRet_some ?_
      refine x_if_nen (tgt := 42) (dT U_X11_draw 19 rfl) (by decide) (by decide) ?_
      refine x_iconst (dT U_X11_draw 20 rfl) ?_
      refine x_ireturn (dT U_X11_draw 21 rfl) rfl ?_
      exact e2 (by omega) (by omega) _ _ (Ag.tr (Ag.tr (Ag.rf 70 142 h) (g1.w (by omega))) (g2.w (by omega))) w2 (by unfold xr; omega)
    · skip
      refine x_aload_n (dT U_X11_draw 11 rfl) rfl ?_
      refine x_getfield F_X11_150 (dT U_X11_draw 12 rfl) w1.c70 (Nat.le_of_ble_eq_true rfl) rfl ?_
      refine x_if_eq (tgt := 32) (dT U_X11_draw 13 rfl) (by decide) (by unfold xr; omega) (fun c25 => ?_) (fun c25 => ?_)
      · skip
        refine x_iconst (dT U_X11_draw 16 rfl) ?_
        refine x_iconst (dT U_X11_draw 17 rfl) ?_
        refine x_invokevirtual (rc' := rc) (rs' := rs) (rc2 := 0) (rs2 := 0) (As := [_, _]) (st := _) M_X11_lets K_X11_167 (dT U_X11_draw 18 rfl) rfl rfl (by decide) rfl rfl w1.c70 (Nat.le_of_ble_eq_true rfl) (by decide) rfl (Nat.le_of_ble_eq_true rfl) rfl (by decide) (Nat.le_of_ble_eq_true rfl) rfl rfl ?_
        refine S_X11_lets0 w1 (fun h2 g2 w2 => ?_)
        refine xRet_some ?_
        refine x_if_nen (tgt := 42) (dT U_X11_draw 19 rfl) (by decide) (by decide) ?_
        refine x_iconst (dT U_X11_draw 20 rfl) ?_
        refine x_ireturn (dT U_X11_draw 21 rfl) rfl ?_
        exact e2 (by omega) (by omega) _ _ (Ag.tr (Ag.tr (Ag.rf 70 142 h) (g1.w (by omega))) (g2.w (by omega))) w2 (by unfold xr; omega)
      · skip
        refine x_iconst (dT U_X11_draw 14 rfl) ?_
        refine x_goto (tgt := 33) (dT U_X11_draw 15 rfl) (by decide) ?_
        refine x_iconst (dT U_X11_draw 17 rfl) ?_
        refine x_invokevirtual (rc' := rc) (rs' := rs) (rc2 := 0) (rs2 := 0) (As := [_, _]) (st := _) M_X11_lets K_X11_167 (dT U_X11_draw 18 rfl) rfl rfl (by decide) rfl rfl w1.c70 (Nat.le_of_ble_eq_true rfl) (by decide) rfl (Nat.le_of_ble_eq_true rfl) rfl (by decide) (Nat.le_of_ble_eq_true rfl) rfl rfl ?_
        refine S_X11_lets1 w1 (fun h2 g2 w2 => ?_)
        refine xRet_some ?_
        refine x_if_nej (tgt := 42) (dT U_X11_draw 19 rfl) (by decide) (by decide) ?_
        have b1 : σ.g.b = 1 := by omega
        have b2 := gm.1 b1
        have r2 := g5 (by omega)
        refine x_aload_n (dT U_X11_draw 22 rfl) rfl ?_
        refine x_aload_n (dT U_X11_draw 23 rfl) rfl ?_
        refine x_iload_n (dT U_X11_draw 24 rfl) rfl ?_
        refine x_invokevirtual (rc' := rc) (rs' := rs) (rc2 := 0) (rs2 := 0) (As := [_]) (st := _) M_X11_sentAt K_X11_320 (dT U_X11_draw 25 rfl) rfl rfl (by decide) rfl rfl w2.c70 (Nat.le_of_ble_eq_true rfl) (by decide) rfl (Nat.le_of_ble_eq_true rfl) rfl (by decide) (Nat.le_of_ble_eq_true rfl) rfl rfl ?_
        refine S_X11_sentAt w2 v (by omega) ?_
        refine xRet_some ?_
        refine x_putfield F_X11_314 (dT U_X11_draw 26 rfl) w2.c70 (Nat.le_of_ble_eq_true rfl) (Nat.le_of_ble_eq_true rfl) rfl rfl ?_
        change X G _ _ _ _ _ _ _ _ (List.set _ 70 (mC 0 σ.p σ.G.n σ.g.b rr (ln σ.p σ.g.z σ.g.o c) ss σ.g.z σ.g.o σ.L.n)) _
        refine x_aload_n (dT U_X11_draw 27 rfl) rfl ?_
        refine x_getfield F_X11_91 (dT U_X11_draw 28 rfl) (hset_eq w2.c70) (Nat.le_of_ble_eq_true rfl) rfl ?_
        refine x_aload_n (dT U_X11_draw 29 rfl) rfl ?_
        refine x_getfield F_X11_153 (dT U_X11_draw 30 rfl) (hset_eq w2.c70) (Nat.le_of_ble_eq_true rfl) rfl ?_
        refine x_iload_n (dT U_X11_draw 31 rfl) rfl ?_
        refine x_iastore (rr) (dT U_X11_draw 32 rfl) (hset_ne (by omega) (w2.c134)) (Nat.le_of_ble_eq_true rfl) rfl (by omega) (by omega) ?_
        refine x_aload_n (dT U_X11_draw 33 rfl) rfl ?_
        refine x_dup (dT U_X11_draw 34 rfl) rfl ?_
        refine x_getfield F_X11_153 (dT U_X11_draw 35 rfl) (hset_ne (by omega) (hset_eq w2.c70)) (Nat.le_of_ble_eq_true rfl) rfl ?_
        refine x_iconst (dT U_X11_draw 36 rfl) ?_
        refine x_iadd (dT U_X11_draw 37 rfl) ?_
        refine x_putfield F_X11_153 (dT U_X11_draw 38 rfl) (hset_ne (by omega) (hset_eq w2.c70)) (Nat.le_of_ble_eq_true rfl) (Nat.le_of_ble_eq_true rfl) rfl rfl ?_
        change X G _ _ _ _ _ _ _ _ (List.set _ 70 (mC 0 σ.p σ.G.n σ.g.b (rr + 1) (ln σ.p σ.g.z σ.g.o c) ss σ.g.z σ.g.o σ.L.n)) _
        refine x_aload_n (dT U_X11_draw 39 rfl) rfl ?_
        refine x_iconst (dT U_X11_draw 40 rfl) ?_
        refine x_putfield F_X11_150 (dT U_X11_draw 41 rfl) (hset_eq (hset_ne (by omega) (hset_eq w2.c70))) (Nat.le_of_ble_eq_true rfl) (Nat.le_of_ble_eq_true rfl) rfl rfl ?_
        change X G _ _ _ _ _ _ _ _ (List.set _ 70 (mC 0 σ.p σ.G.n σ.g.b (rr + 1) (ln σ.p σ.g.z σ.g.o c) 0 σ.g.z σ.g.o σ.L.n)) _
        refine x_aload_n (dT U_X11_draw 42 rfl) rfl ?_
        refine x_getfield F_X11_314 (dT U_X11_draw 43 rfl) (hset_eq (hset_eq (hset_ne (by omega) (hset_eq w2.c70)))) (Nat.le_of_ble_eq_true rfl) rfl ?_
        refine x_ireturn (dT U_X11_draw 44 rfl) rfl ?_
        exact k (by omega) ⟨b1, by omega⟩ _ _ _ (((((Ag.tr (Ag.tr (Ag.rf 70 142 h) (g1.w (by omega))) (g2.w (by omega))).set (by omega)).set (by omega)).set (by omega)).set (by omega)) (w2.game (g := (σ.g.b, 0, σ.g.i, ln σ.p σ.g.z σ.g.o c, σ.g.r + 1, σ.g.z, σ.g.o, bnd σ.p σ.g.l σ.g.r c, σ.g.tbl, σ.g.dr.set σ.g.r c)) (r2 := rr + 1) (s2 := 0) (fun a9 ha => by rw [hset_fr (by omega), hset_fr (by omega), hset_fr (by omega), hset_fr (by omega)]) (hset_eq (hset_eq (hset_ne (by omega) (hset_eq w2.c70)))) (hset_ne (by omega) (hset_ne (by omega) (hset_ne (by omega) (hset_ne (by omega) (w2.c133))))) (b2.1 ▸ (hset_ne (by omega) (hset_ne (by omega) (hset_eq (hset_ne (by omega) (w2.c134)))))) ⟨fun _ => ⟨by show rr + 1 = σ.g.r + 1; omega, rfl⟩, by omega, Or.inl rfl⟩)
  · refine xRet_some ?_
    refine x_iconst (dT U_X11_draw 4 rfl) ?_
    refine x_invokevirtual (rc' := rc) (rs' := rs) (rc2 := 0) (rs2 := 0) (As := [_, _]) (st := _) M_X11_lets K_X11_167 (dT U_X11_draw 5 rfl) rfl rfl (by decide) rfl rfl w.c70 (Nat.le_of_ble_eq_true rfl) (by decide) rfl (Nat.le_of_ble_eq_true rfl) rfl (by decide) (Nat.le_of_ble_eq_true rfl) rfl rfl ?_
    refine S_X11_lets0 w (fun h1 g1 w1 => ?_)
    refine xRet_some ?_
    refine x_if_eqj (tgt := 40) (dT U_X11_draw 6 rfl) (by decide) (by decide) ?_
    refine x_iconst (dT U_X11_draw 20 rfl) ?_
    refine x_ireturn (dT U_X11_draw 21 rfl) rfl ?_
    exact e1 (by omega) _ _ (Ag.tr (Ag.rf 70 142 h) (g1.w (by omega))) w1 (by unfold xr; omega)

set_option maxRecDepth 20000 in
set_option maxHeartbeats 1000000 in
theorem S_X11_honest {G : xG} {d rc rs : Nat} {ex : Bool} {h : xH} {Q : xQ} {σ : St} {cc0 : Int} {rr : Nat} {ss : Int} (w : MX σ cc0 rr ss h) (v : INV σ) (e1 : ¬ (σ.g.b = 1 ∧ σ.g.s = 0 ∧ σ.g.r < 3) → ∀ h2 z, Ag 70 142 h h2 → MX σ 1 rr ss h2 → xr z → Q (.inl (some (vi z))) ex h2) (k : (σ.g.b = 1 ∧ σ.g.s = 0 ∧ σ.g.r < 3) → ∀ h2 r2 s2, Ag 70 142 h h2 → MX σ 0 r2 s2 h2 → Q (.inl (some (vi (32 * rz σ.p σ.g.l σ.g.r + ro σ.p σ.g.l σ.g.r)))) ex h2) : X G m_X11_honest (d + 3) rc rs ex 0 (xe m_X11_honest.2.2.1 [.ref 70]) [] h Q := by
  show X G m_X11_honest _ _ _ _ 0 [some (.ref 70)] [] h Q
  have hp := PRb v.p
  have hq := gq_b v.p
  obtain ⟨g1, g2, g3, g4, g5, g6, g7, g8, g9, g10, g11, g12⟩ := v.g
  have gm := w.gm
  refine x_aload_n (dT U_X11_honest 0 rfl) rfl ?_
  refine x_aload_n (dT U_X11_honest 1 rfl) rfl ?_
  refine x_getfield F_X11_146 (dT U_X11_honest 2 rfl) w.c70 (Nat.le_of_ble_eq_true rfl) rfl ?_
  refine x_if_eq (tgt := 27) (dT U_X11_honest 3 rfl) (by decide) (by unfold xr; omega) (fun c5 => ?_) (fun c5 => ?_)
  · skip
    refine x_iconst (dT U_X11_honest 13 rfl) ?_
    refine x_iconst (dT U_X11_honest 14 rfl) ?_
    refine x_invokevirtual (rc' := rc) (rs' := rs) (rc2 := 0) (rs2 := 0) (As := [_, _]) (st := _) M_X11_lets K_X11_167 (dT U_X11_honest 15 rfl) rfl rfl (by decide) rfl rfl w.c70 (Nat.le_of_ble_eq_true rfl) (by decide) rfl (Nat.le_of_ble_eq_true rfl) rfl (by decide) (Nat.le_of_ble_eq_true rfl) rfl rfl ?_
    refine S_X11_lets0 w (fun h1 g1 w1 => ?_)
    refine xRet_some ?_
    refine x_if_eqj (tgt := 54) (dT U_X11_honest 16 rfl) (by decide) (by decide) ?_
    refine x_iconst (dT U_X11_honest 29 rfl) ?_
    refine x_ireturn (dT U_X11_honest 30 rfl) rfl ?_
    exact e1 (by omega) _ _ (Ag.tr (Ag.rf 70 142 h) (g1.w (by omega))) w1 (by unfold xr; omega)
  · skip
    refine x_aload_n (dT U_X11_honest 4 rfl) rfl ?_
    refine x_getfield F_X11_150 (dT U_X11_honest 5 rfl) w.c70 (Nat.le_of_ble_eq_true rfl) rfl ?_
    refine x_if_ne (tgt := 27) (dT U_X11_honest 6 rfl) (by decide) (by unfold xr; omega) (fun c12 => ?_) (fun c12 => ?_)
    · skip
      refine x_iconst (dT U_X11_honest 13 rfl) ?_
      refine x_iconst (dT U_X11_honest 14 rfl) ?_
      refine x_invokevirtual (rc' := rc) (rs' := rs) (rc2 := 0) (rs2 := 0) (As := [_, _]) (st := _) M_X11_lets K_X11_167 (dT U_X11_honest 15 rfl) rfl rfl (by decide) rfl rfl w.c70 (Nat.le_of_ble_eq_true rfl) (by decide) rfl (Nat.le_of_ble_eq_true rfl) rfl (by decide) (Nat.le_of_ble_eq_true rfl) rfl rfl ?_
      refine S_X11_lets0 w (fun h1 g1 w1 => ?_)
      refine xRet_some ?_
      refine x_if_eqj (tgt := 54) (dT U_X11_honest 16 rfl) (by decide) (by decide) ?_
      refine x_iconst (dT U_X11_honest 29 rfl) ?_
      refine x_ireturn (dT U_X11_honest 30 rfl) rfl ?_
      exact e1 (by omega) _ _ (Ag.tr (Ag.rf 70 142 h) (g1.w (by omega))) w1 (by unfold xr; omega)
    · skip
      refine x_aload_n (dT U_X11_honest 7 rfl) rfl ?_
      refine x_getfield F_X11_153 (dT U_X11_honest 8 rfl) w.c70 (Nat.le_of_ble_eq_true rfl) rfl ?_
      refine x_iconst (dT U_X11_honest 9 rfl) ?_
      refine x_icmp_ge (tgt := 27) (dT U_X11_honest 10 rfl) (by decide) (by unfold xr; omega) (by unfold xr; omega) (fun c20 => ?_) (fun c20 => ?_)
      · skip
        refine x_iconst (dT U_X11_honest 13 rfl) ?_
        refine x_iconst (dT U_X11_honest 14 rfl) ?_
        refine x_invokevirtual (rc' := rc) (rs' := rs) (rc2 := 0) (rs2 := 0) (As := [_, _]) (st := _) M_X11_lets K_X11_167 (dT U_X11_honest 15 rfl) rfl rfl (by decide) rfl rfl w.c70 (Nat.le_of_ble_eq_true rfl) (by decide) rfl (Nat.le_of_ble_eq_true rfl) rfl (by decide) (Nat.le_of_ble_eq_true rfl) rfl rfl ?_
        refine S_X11_lets0 w (fun h1 g1 w1 => ?_)
        refine xRet_some ?_
        refine x_if_eqj (tgt := 54) (dT U_X11_honest 16 rfl) (by decide) (by decide) ?_
        refine x_iconst (dT U_X11_honest 29 rfl) ?_
        refine x_ireturn (dT U_X11_honest 30 rfl) rfl ?_
        exact e1 (by omega) _ _ (Ag.tr (Ag.rf 70 142 h) (g1.w (by omega))) w1 (by unfold xr; omega)
      · skip
        refine x_iconst (dT U_X11_honest 11 rfl) ?_
        refine x_goto (tgt := 28) (dT U_X11_honest 12 rfl) (by decide) ?_
        refine x_iconst (dT U_X11_honest 14 rfl) ?_
        refine x_invokevirtual (rc' := rc) (rs' := rs) (rc2 := 0) (rs2 := 0) (As := [_, _]) (st := _) M_X11_lets K_X11_167 (dT U_X11_honest 15 rfl) rfl rfl (by decide) rfl rfl w.c70 (Nat.le_of_ble_eq_true rfl) (by decide) rfl (Nat.le_of_ble_eq_true rfl) rfl (by decide) (Nat.le_of_ble_eq_true rfl) rfl rfl ?_
        refine S_X11_lets1 w (fun h1 g1 w1 => ?_)
        refine xRet_some ?_
        refine x_if_eqn (tgt := 54) (dT U_X11_honest 16 rfl) (by decide) (by decide) ?_
        have b1 : σ.g.b = 1 := by omega
        have b2 := gm.1 b1
        have hb := b1
        refine x_bipush (dT U_X11_honest 17 rfl) (by decide) ?_
        refine x_aload_n (dT U_X11_honest 18 rfl) rfl ?_
        refine x_iconst (dT U_X11_honest 19 rfl) ?_
        refine x_iconst (dT U_X11_honest 20 rfl) ?_
        refine x_invokevirtual (rc' := rc) (rs' := rs) (rc2 := 0) (rs2 := 0) (As := [_, _]) (st := _) M_X11_sumWith K_X11_310 (dT U_X11_honest 21 rfl) rfl rfl (by decide) rfl rfl w1.c70 (Nat.le_of_ble_eq_true rfl) (by decide) rfl (Nat.le_of_ble_eq_true rfl) rfl (by decide) (Nat.le_of_ble_eq_true rfl) rfl rfl ?_
        refine S_X11_sumWith1 w1 v hb (by omega) (by omega) (fun h6 g6 w6 => ?_)
        rw [ln_0 (show 0 ≤ rz (σ.p : Int) σ.g.l σ.g.r ∧ rz (σ.p : Int) σ.g.l σ.g.r < (σ.p : Int) from modb (by omega))]
        refine xRet_some ?_
        refine x_imul (dT U_X11_honest 22 rfl) ?_
        refine x_aload_n (dT U_X11_honest 23 rfl) rfl ?_
        refine x_iconst (dT U_X11_honest 24 rfl) ?_
        refine x_iconst (dT U_X11_honest 25 rfl) ?_
        refine x_invokevirtual (rc' := rc) (rs' := rs) (rc2 := 0) (rs2 := 0) (As := [_, _]) (st := _) M_X11_sumWith K_X11_310 (dT U_X11_honest 26 rfl) rfl rfl (by decide) rfl rfl w6.c70 (Nat.le_of_ble_eq_true rfl) (by decide) rfl (Nat.le_of_ble_eq_true rfl) rfl (by decide) (Nat.le_of_ble_eq_true rfl) rfl rfl ?_
        refine S_X11_sumWith1 w6 v hb (by omega) (by omega) (fun h7 g7 w7 => ?_)
        rw [ln_1 (show 0 ≤ ro (σ.p : Int) σ.g.l σ.g.r ∧ ro (σ.p : Int) σ.g.l σ.g.r < (σ.p : Int) from modb (by omega))]
        refine xRet_some ?_
        refine x_iadd (dT U_X11_honest 27 rfl) ?_
        refine x_goto (tgt := 55) (dT U_X11_honest 28 rfl) (by decide) ?_
        refine x_ireturn (dT U_X11_honest 30 rfl) rfl ?_
        exact k ⟨b1, by omega, by omega⟩ _ _ _ (Ag.tr (Ag.tr (Ag.rf 70 142 h) (g1.w (by omega))) ((g6.tr g7).w (by omega))) w7

set_option maxRecDepth 20000 in
set_option maxHeartbeats 1000000 in
theorem S_X11_isWon {G : xG} {d rc rs : Nat} {ex : Bool} {h : xH} {Q : xQ} {σ : St} {cc0 : Int} {rr : Nat} {ss : Int} (w : MX σ cc0 rr ss h) (v : INV σ) (e1 : ¬ (σ.g.b = 1) → ∀ h2 z, Ag 70 142 h h2 → MX σ 1 rr ss h2 → xr z → Q (.inl (some (vi z))) ex h2) (k1 : (σ.g.b = 1) → σ.g.r = 3 ∧ σ.g.c = cr σ.p σ.g.l σ.g.r → ∀ h2 r2 s2, Ag 70 142 h h2 → MX σ 0 r2 s2 h2 → Q (.inl (some (vi 1))) ex h2) (k0 : (σ.g.b = 1) → ¬ (σ.g.r = 3 ∧ σ.g.c = cr σ.p σ.g.l σ.g.r) → ∀ h2 r2 s2, Ag 70 142 h h2 → MX σ 0 r2 s2 h2 → Q (.inl (some (vi 0))) ex h2) : X G m_X11_isWon (d + 3) rc rs ex 0 (xe m_X11_isWon.2.2.1 [.ref 70]) [] h Q := by
  show X G m_X11_isWon _ _ _ _ 0 [some (.ref 70)] [] h Q
  have hp := PRb v.p
  have hq := gq_b v.p
  obtain ⟨g1, g2, g3, g4, g5, g6, g7, g8, g9, g10, g11, g12⟩ := v.g
  have gm := w.gm
  rcases g1 with b0 | b1
  · skip
    refine x_aload_n (dT U_X11_isWon 0 rfl) rfl ?_
    refine x_aload_n (dT U_X11_isWon 1 rfl) rfl ?_
    refine x_getfield F_X11_146 (dT U_X11_isWon 2 rfl) w.c70 (Nat.le_of_ble_eq_true rfl) rfl ?_
    refine x_iconst (dT U_X11_isWon 3 rfl) ?_
    refine x_invokevirtual (rc' := rc) (rs' := rs) (rc2 := 0) (rs2 := 0) (As := [_, _]) (st := _) M_X11_lets K_X11_167 (dT U_X11_isWon 4 rfl) rfl rfl (by decide) rfl rfl w.c70 (Nat.le_of_ble_eq_true rfl) (by decide) rfl (Nat.le_of_ble_eq_true rfl) rfl (by decide) (Nat.le_of_ble_eq_true rfl) rfl rfl ?_
    rw [b0]
    refine S_X11_lets0 w (fun h1 g1 w1 => ?_)
    refine xRet_some ?_
    refine x_if_eqj (tgt := 37) (dT U_X11_isWon 5 rfl) (by decide) (by decide) ?_
    refine x_iconst (dT U_X11_isWon 19 rfl) ?_
    refine x_zreturn (dT U_X11_isWon 20 rfl) rfl (by omega) ?_
    exact e1 (by omega) _ _ (Ag.tr (Ag.rf 70 142 h) (g1.w (by omega))) w1 (by unfold xr; omega)
  · skip
    refine x_aload_n (dT U_X11_isWon 0 rfl) rfl ?_
    refine x_aload_n (dT U_X11_isWon 1 rfl) rfl ?_
    refine x_getfield F_X11_146 (dT U_X11_isWon 2 rfl) w.c70 (Nat.le_of_ble_eq_true rfl) rfl ?_
    refine x_iconst (dT U_X11_isWon 3 rfl) ?_
    refine x_invokevirtual (rc' := rc) (rs' := rs) (rc2 := 0) (rs2 := 0) (As := [_, _]) (st := _) M_X11_lets K_X11_167 (dT U_X11_isWon 4 rfl) rfl rfl (by decide) rfl rfl w.c70 (Nat.le_of_ble_eq_true rfl) (by decide) rfl (Nat.le_of_ble_eq_true rfl) rfl (by decide) (Nat.le_of_ble_eq_true rfl) rfl rfl ?_
    rw [b1]
    refine S_X11_lets1 w (fun h1 g1 w1 => ?_)
    refine xRet_some ?_
    refine x_if_eqn (tgt := 37) (dT U_X11_isWon 5 rfl) (by decide) (by decide) ?_
    refine x_aload_n (dT U_X11_isWon 6 rfl) rfl ?_
    refine x_getfield F_X11_153 (dT U_X11_isWon 7 rfl) w1.c70 (Nat.le_of_ble_eq_true rfl) rfl ?_
    refine x_iconst (dT U_X11_isWon 8 rfl) ?_
    have b2 := gm.1 b1
    refine x_icmp_ne (tgt := 37) (dT U_X11_isWon 9 rfl) (by decide) (by unfold xr; omega) (by unfold xr; omega) (fun c17 => ?_) (fun c17 => ?_)
    · skip
      refine x_iconst (dT U_X11_isWon 19 rfl) ?_
      refine x_zreturn (dT U_X11_isWon 20 rfl) rfl (by omega) ?_
      first | exact k0 b1 (by omega) _ _ _ (Ag.tr (Ag.rf 70 142 h) (g1.w (by omega))) w1 | exact k1 b1 ⟨by omega, by unfold cr at *; omega⟩ _ _ _ (Ag.tr (Ag.tr (Ag.rf 70 142 h) (g1.w (by omega))) (g6.w (by omega))) w6 | exact k0 b1 (fun z => c30 z.2.symm) _ _ _ (Ag.tr (Ag.tr (Ag.rf 70 142 h) (g1.w (by omega))) (g6.w (by omega))) w6
    · skip
      refine x_aload_n (dT U_X11_isWon 10 rfl) rfl ?_
      refine x_iconst (dT U_X11_isWon 11 rfl) ?_
      refine x_iconst (dT U_X11_isWon 12 rfl) ?_
      refine x_invokevirtual (rc' := rc) (rs' := rs) (rc2 := 0) (rs2 := 0) (As := [_, _]) (st := _) M_X11_sumWith K_X11_310 (dT U_X11_isWon 13 rfl) rfl rfl (by decide) rfl rfl w1.c70 (Nat.le_of_ble_eq_true rfl) (by decide) rfl (Nat.le_of_ble_eq_true rfl) rfl (by decide) (Nat.le_of_ble_eq_true rfl) rfl rfl ?_
      refine S_X11_sumWith0 w1 v b1 (fun h6 g6 w6 => ?_)
      have zc := modb (z := sm (gf σ.g.l) (8 / 2 ^ σ.g.r)) (p := (σ.p : Int)) (by omega)
      refine xRet_some ?_
      refine x_aload_n (dT U_X11_isWon 14 rfl) rfl ?_
      refine x_getfield F_X11_314 (dT U_X11_isWon 15 rfl) w6.c70 (Nat.le_of_ble_eq_true rfl) rfl ?_
      refine x_icmp_ne (tgt := 37) (dT U_X11_isWon 16 rfl) (by decide) (by unfold cr xr; omega) (by unfold xr; omega) (fun c30 => ?_) (fun c30 => ?_)
      · skip
        refine x_iconst (dT U_X11_isWon 19 rfl) ?_
        refine x_zreturn (dT U_X11_isWon 20 rfl) rfl (by omega) ?_
        first | exact k0 b1 (by omega) _ _ _ (Ag.tr (Ag.rf 70 142 h) (g1.w (by omega))) w6 | exact k1 b1 ⟨by omega, by unfold cr at *; omega⟩ _ _ _ (Ag.tr (Ag.tr (Ag.rf 70 142 h) (g1.w (by omega))) (g6.w (by omega))) w6 | exact k0 b1 (fun z => c30 z.2.symm) _ _ _ (Ag.tr (Ag.tr (Ag.rf 70 142 h) (g1.w (by omega))) (g6.w (by omega))) w6
      · skip
        refine x_iconst (dT U_X11_isWon 17 rfl) ?_
        refine x_goto (tgt := 38) (dT U_X11_isWon 18 rfl) (by decide) ?_
        refine x_zreturn (dT U_X11_isWon 20 rfl) rfl (by omega) ?_
        first | exact k0 b1 (by omega) _ _ _ (Ag.tr (Ag.rf 70 142 h) (g1.w (by omega))) w6 | exact k1 b1 ⟨by omega, by unfold cr at *; omega⟩ _ _ _ (Ag.tr (Ag.tr (Ag.rf 70 142 h) (g1.w (by omega))) (g6.w (by omega))) w6 | exact k0 b1 (fun z => c30 z.2.symm) _ _ _ (Ag.tr (Ag.tr (Ag.rf 70 142 h) (g1.w (by omega))) (g6.w (by omega))) w6

set_option maxRecDepth 20000 in
set_option maxHeartbeats 1000000 in
theorem S_X11_chances {G : xG} {d rc rs : Nat} {ex : Bool} {h : xH} {Q : xQ} {σ : St} {cc0 : Int} {rr : Nat} {ss : Int} (w : MX σ cc0 rr ss h) (v : INV σ) (e1 : ¬ (σ.g.b = 1) → ∀ h2 z, Ag 70 142 h h2 → MX σ 1 rr ss h2 → xr z → Q (.inl (some (vi z))) ex h2) (k : (σ.g.b = 1) → ∀ h2 r2 s2, Ag 70 142 h h2 → MX σ 0 r2 s2 h2 → Q (.inl (some (vi (wnn σ.p σ.g.l σ.g.r σ.g.s σ.g.c σ.g.z σ.g.o)))) ex h2) : X G m_X11_chances (d + 4) rc rs ex 0 (xe m_X11_chances.2.2.1 [.ref 70]) [] h Q := by
  show X G m_X11_chances _ _ _ _ 0 [some (.ref 70)] [] h Q
  have hp := PRb v.p
  have hq := gq_b v.p
  obtain ⟨g1, g2, g3, g4, g5, g6, g7, g8, g9, g10, g11, g12⟩ := v.g
  have gm := w.gm
  rcases g1 with b0 | b1
  · skip
    refine x_aload_n (dT U_X11_chances 0 rfl) rfl ?_
    refine x_aload_n (dT U_X11_chances 1 rfl) rfl ?_
    refine x_getfield F_X11_146 (dT U_X11_chances 2 rfl) w.c70 (Nat.le_of_ble_eq_true rfl) rfl ?_
    refine x_iconst (dT U_X11_chances 3 rfl) ?_
    refine x_invokevirtual (rc' := rc) (rs' := rs) (rc2 := 0) (rs2 := 0) (As := [_, _]) (st := _) M_X11_lets K_X11_167 (dT U_X11_chances 4 rfl) rfl rfl (by decide) rfl rfl w.c70 (Nat.le_of_ble_eq_true rfl) (by decide) rfl (Nat.le_of_ble_eq_true rfl) rfl (by decide) (Nat.le_of_ble_eq_true rfl) rfl rfl ?_
    rw [b0]
    refine S_X11_lets0 w (fun h1 g1 w1 => ?_)
    refine xRet_some ?_
    refine x_if_eqj (tgt := 19) (dT U_X11_chances 5 rfl) (by decide) (by decide) ?_
    refine x_iconst (dT U_X11_chances 9 rfl) ?_
    refine x_ireturn (dT U_X11_chances 10 rfl) rfl ?_
    exact e1 (by omega) _ _ (Ag.tr (Ag.rf 70 142 h) (g1.w (by omega))) w1 (by unfold xr; omega)
  · skip
    refine x_aload_n (dT U_X11_chances 0 rfl) rfl ?_
    refine x_aload_n (dT U_X11_chances 1 rfl) rfl ?_
    refine x_getfield F_X11_146 (dT U_X11_chances 2 rfl) w.c70 (Nat.le_of_ble_eq_true rfl) rfl ?_
    refine x_iconst (dT U_X11_chances 3 rfl) ?_
    refine x_invokevirtual (rc' := rc) (rs' := rs) (rc2 := 0) (rs2 := 0) (As := [_, _]) (st := _) M_X11_lets K_X11_167 (dT U_X11_chances 4 rfl) rfl rfl (by decide) rfl rfl w.c70 (Nat.le_of_ble_eq_true rfl) (by decide) rfl (Nat.le_of_ble_eq_true rfl) rfl (by decide) (Nat.le_of_ble_eq_true rfl) rfl rfl ?_
    rw [b1]
    refine S_X11_lets1 w (fun h1 g1 w1 => ?_)
    refine xRet_some ?_
    refine x_if_eqn (tgt := 19) (dT U_X11_chances 5 rfl) (by decide) (by decide) ?_
    refine x_aload_n (dT U_X11_chances 6 rfl) rfl ?_
    refine x_invokevirtual (rc' := rc) (rs' := rs) (rc2 := 0) (rs2 := 0) (As := []) (st := _) M_X11_chancesLeft K_X11_323 (dT U_X11_chances 7 rfl) rfl rfl (by decide) rfl rfl w1.c70 (Nat.le_of_ble_eq_true rfl) (by decide) rfl (Nat.le_of_ble_eq_true rfl) rfl (by decide) (Nat.le_of_ble_eq_true rfl) rfl rfl ?_
    refine S_X11_chancesLeft w1 v b1 (fun h6 g6 w6 => ?_)
    refine xRet_some ?_
    refine x_goto (tgt := 20) (dT U_X11_chances 8 rfl) (by decide) ?_
    refine x_ireturn (dT U_X11_chances 10 rfl) rfl ?_
    exact k b1 _ _ _ (Ag.tr (Ag.tr (Ag.rf 70 142 h) (g1.w (by omega))) (g6.w (by omega))) w6
