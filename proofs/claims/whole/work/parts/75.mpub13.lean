theorem gs_top2 {l : List Int} {t : Nat} (ht : t < 8) : sl (l.getD (7 - t) 0) (15 - (t : Int) - 8) = gs (gf l) (15 - t) := by
  rw [show (15 : Int) - (t : Int) - 8 = ((7 - t : Nat) : Int) by omega, show 15 - t = 8 + (7 - t) by omega, gs_top (gf l) (show 7 - t < 8 by omega)]
  rfl

set_option maxRecDepth 20000 in
set_option maxHeartbeats 1000000 in
theorem S_X11_grow {G : xG} {d rc rs : Nat} {ex : Bool} {h : xH} {Q : xQ} {σ : St} {cc0 : Int} {rr : Nat} {ss : Int} {r : Nat} (w : MX σ cc0 rr ss h) (v : INV σ) (hr : r < 8) (k : ∀ {l0 : List Int}, h[139]? = some (cA 0 l0) → ∀ l : List Int, l.length = 16 → (∀ j, 1 ≤ j → j < 16 → l.getD j 0 = (gs (gf (σ.rw r))) j) → Q (.inl none) ex (h.set 139 (cA 0 l))) : X G m_X11_grow (d + 1) rc rs ex 0 (xe m_X11_grow.2.2.1 [.ref 70, vi (r : Int)]) [] h Q := by
  show X G m_X11_grow _ _ _ _ 0 [some (.ref 70), some (vi (r : Int)), none] [] h Q
  have hp := PRb v.p
  have hq := gq_b v.p
  obtain ⟨l39, h39, ll39⟩ := w.s139
  have L : ∀ (n t : Nat), t + n = 15 → ∀ l : List Int, l.length = 16 → (∀ j, 15 - t < j → j < 16 → l.getD j 0 = (gs (gf (σ.rw r))) j) → X G m_X11_grow (d + 1) rc rs ex 3 [some (.ref 70), some (vi (r : Int)), some (vi (15 - (t : Int)))] [] (h.set 139 (cA 0 l)) Q := by
    intro n
    induction n with
    | zero =>
      intro t hi_ l ll lv
      refine x_iload_n (dT U_X11_grow 2 rfl) rfl ?_
      refine x_iconst (dT U_X11_grow 3 rfl) ?_
      refine x_icmp_lt (tgt := 68) (dT U_X11_grow 4 rfl) (by decide) (by unfold xr; omega) (by unfold xr; omega) (fun c5 => ?_) (fun c5 => ?_)
      · skip
        refine x_return (dT U_X11_grow 42 rfl) rfl ?_
        exact k h39 l ll (fun j h1 h2 => lv j (by omega) h2)
      · exfalso; omega
    | succ n ih =>
      intro t hi_ l ll lv
      refine x_iload_n (dT U_X11_grow 2 rfl) rfl ?_
      refine x_iconst (dT U_X11_grow 3 rfl) ?_
      refine x_icmp_lt (tgt := 68) (dT U_X11_grow 4 rfl) (by decide) (by unfold xr; omega) (by unfold xr; omega) (fun c5 => ?_) (fun c5 => ?_)
      · exfalso; omega
      · skip
        refine x_aload_n (dT U_X11_grow 5 rfl) rfl ?_
        refine x_getfield F_X11_106 (dT U_X11_grow 6 rfl) (hset_ne (by omega) (w.c70)) (Nat.le_of_ble_eq_true rfl) rfl ?_
        refine x_iload_n (dT U_X11_grow 7 rfl) rfl ?_
        refine x_iload_n (dT U_X11_grow 8 rfl) rfl ?_
        refine x_bipush (dT U_X11_grow 9 rfl) (by decide) ?_
        refine x_icmp_lt (tgt := 40) (dT U_X11_grow 10 rfl) (by decide) (by unfold xr; omega) (by unfold xr; omega) (fun c16 => ?_) (fun c16 => ?_)
        · skip
          refine x_aload_n (dT U_X11_grow 24 rfl) rfl ?_
          refine x_getfield F_X11_106 (dT U_X11_grow 25 rfl) (hset_ne (by omega) (w.c70)) (Nat.le_of_ble_eq_true rfl) rfl ?_
          refine x_iconst (dT U_X11_grow 26 rfl) ?_
          refine x_iload_n (dT U_X11_grow 27 rfl) rfl ?_
          refine x_imul (dT U_X11_grow 28 rfl) ?_
          refine x_ialoadv (2 * (15 - t)) (dT U_X11_grow 29 rfl) (hset_eq h39) (Nat.le_of_ble_eq_true rfl) (by omega) (by omega) (by omega) (lv _ (by omega) (by omega)) ?_
          refine x_aload_n (dT U_X11_grow 30 rfl) rfl ?_
          refine x_getfield F_X11_106 (dT U_X11_grow 31 rfl) (hset_ne (by omega) (w.c70)) (Nat.le_of_ble_eq_true rfl) rfl ?_
          refine x_iconst (dT U_X11_grow 32 rfl) ?_
          refine x_iload_n (dT U_X11_grow 33 rfl) rfl ?_
          refine x_imul (dT U_X11_grow 34 rfl) ?_
          refine x_iconst (dT U_X11_grow 35 rfl) ?_
          refine x_iadd (dT U_X11_grow 36 rfl) ?_
          refine x_ialoadv (2 * (15 - t) + 1) (dT U_X11_grow 37 rfl) (hset_eq h39) (Nat.le_of_ble_eq_true rfl) (by omega) (by omega) (by omega) (lv _ (by omega) (by omega)) ?_
          refine x_invokestatic (rc' := rc) (rs' := rs) (rc2 := 0) (rs2 := 0) (As := [_, _]) (st := _) M_X11_sealed K_X11_224 (dT U_X11_grow 38 rfl) rfl rfl rfl rfl (Nat.le_of_ble_eq_true rfl) rfl (by decide) (Nat.le_of_ble_eq_true rfl) rfl rfl ?_
          refine S_X11_sealed (gs_b _ _) (gs_b _ _) ?_
          rw [← gs_step (gf (σ.rw r)) (n := 15 - t) (by omega)]
          refine xRet_some ?_
          refine x_iastore (15 - t) (dT U_X11_grow 39 rfl) (hset_eq h39) (Nat.le_of_ble_eq_true rfl) (by omega) (by omega) (by omega) ?_
          rw [List.set_set]
          refine x_iinc (ls' := [some (.ref _), some (vi _), some (vi _)]) (dT U_X11_grow 40 rfl) (by decide) rfl rfl ?_
          refine x_goto (tgt := 3) (dT U_X11_grow 41 rfl) (by decide) ?_
          have q := ih (t + 1) (by omega) (l.set (15 - t) ((gs (gf (σ.rw r))) (15 - t))) (by rw [List.length_set]; exact ll) (fun j h1 h2 => by
            by_cases q : j = 15 - t
            · rw [q, gset_e (by omega)]
            · rw [gset_n q]; exact lv j (by omega) h2)
          rw [show (15 : Int) - ((t + 1 : Nat) : Int) = 15 - (t : Int) + -1 by omega] at q
          exact q
        · skip
          refine x_aload_n (dT U_X11_grow 11 rfl) rfl ?_
          refine x_getfield F_X11_18 (dT U_X11_grow 12 rfl) (hset_ne (by omega) (w.c70)) (Nat.le_of_ble_eq_true rfl) rfl ?_
          refine x_iload_n (dT U_X11_grow 13 rfl) rfl ?_
          refine x_aaload (r) (dT U_X11_grow 14 rfl) (hset_ne (by omega) (w.c73)) (Nat.le_of_ble_eq_true rfl) (by decide) rfl (mrL_get (by omega)) (Nat.le_of_ble_eq_true rfl) ?_
          refine x_iload_n (dT U_X11_grow 15 rfl) rfl ?_
          refine x_bipush (dT U_X11_grow 16 rfl) (by decide) ?_
          refine x_isub (dT U_X11_grow 17 rfl) ?_
          refine x_iaload (7 - t) (dT U_X11_grow 18 rfl) (hset_ne (by omega) (w.rows r hr)) (by omega) (by omega) (by rw [(v.rw r hr).1]; omega) (by rw [(v.rw r hr).1]; omega) ?_
          refine x_iload_n (dT U_X11_grow 19 rfl) rfl ?_
          refine x_bipush (dT U_X11_grow 20 rfl) (by decide) ?_
          refine x_isub (dT U_X11_grow 21 rfl) ?_
          refine x_invokestatic (rc' := rc) (rs' := rs) (rc2 := 0) (rs2 := 0) (As := [_, _]) (st := _) M_X11_sealed K_X11_224 (dT U_X11_grow 22 rfl) rfl rfl rfl rfl (Nat.le_of_ble_eq_true rfl) rfl (by decide) (Nat.le_of_ble_eq_true rfl) rfl rfl ?_
          have rb := (v.rw r hr).2 (7 - t)
          have eA := gs_top2 (l := σ.rw r) (t := t) (by omega)
          refine S_X11_sealed (by omega) (by omega) ?_
          rw [eA]
          refine xRet_some ?_
          refine x_goto (tgt := 61) (dT U_X11_grow 23 rfl) (by decide) ?_
          refine x_iastore (15 - t) (dT U_X11_grow 39 rfl) (hset_eq h39) (Nat.le_of_ble_eq_true rfl) (by omega) (by omega) (by omega) ?_
          rw [List.set_set]
          refine x_iinc (ls' := [some (.ref _), some (vi _), some (vi _)]) (dT U_X11_grow 40 rfl) (by decide) rfl rfl ?_
          refine x_goto (tgt := 3) (dT U_X11_grow 41 rfl) (by decide) ?_
          have q := ih (t + 1) (by omega) (l.set (15 - t) ((gs (gf (σ.rw r))) (15 - t))) (by rw [List.length_set]; exact ll) (fun j h1 h2 => by
            by_cases q : j = 15 - t
            · rw [q, gset_e (by omega)]
            · rw [gset_n q]; exact lv j (by omega) h2)
          rw [show (15 : Int) - ((t + 1 : Nat) : Int) = 15 - (t : Int) + -1 by omega] at q
          exact q
  refine x_bipush (dT U_X11_grow 0 rfl) (by decide) ?_
  refine x_istore_n (ls' := [some (.ref _), some (vi _), some (vi _)]) (dT U_X11_grow 1 rfl) (by decide) rfl ?_
  have q := L 15 0 (by omega) l39 ll39 (fun j h1 h2 => absurd h1 (by omega))
  rw [hset_self h39, show (15 : Int) - ((0 : Nat) : Int) = 15 by omega] at q
  exact q

set_option maxRecDepth 20000 in
set_option maxHeartbeats 1000000 in
theorem S_X11_root {G : xG} {d rc rs : Nat} {ex : Bool} {h : xH} {Q : xQ} {σ : St} {cc0 : Int} {rr : Nat} {ss : Int} {row : Int} (w : MX σ cc0 rr ss h) (v : INV σ) (h_row : xr row) (e1 : ¬ (inb row 8) → ∀ h2 z, Ag 70 142 h h2 → MX σ 1 rr ss h2 → xr z → Q (.inl (some (vi z))) ex h2) (k : (inb row 8) → ∀ h2 r2 s2, Ag 70 142 h h2 → MX σ 0 r2 s2 h2 → Q (.inl (some (vi (gs (gf (σ.rw row.toNat)) 1)))) ex h2) : X G m_X11_root (d + 2) rc rs ex 0 (xe m_X11_root.2.2.1 [.ref 70, vi row]) [] h Q := by
  show X G m_X11_root _ _ _ _ 0 [some (.ref 70), some (vi row)] [] h Q
  have hp := PRb v.p
  have hq := gq_b v.p
  refine x_aload_n (dT U_X11_root 0 rfl) rfl ?_
  refine x_iload_n (dT U_X11_root 1 rfl) rfl ?_
  refine x_invokestatic (rc' := rc) (rs' := rs) (rc2 := 0) (rs2 := 0) (As := [_]) (st := _) M_X11_isRow K_X11_164 (dT U_X11_root 2 rfl) rfl rfl rfl rfl (Nat.le_of_ble_eq_true rfl) rfl (by decide) (Nat.le_of_ble_eq_true rfl) rfl rfl ?_
  refine S_X11_isRow h_row (fun q1 => ?_) (fun q1 => ?_)
  · refine xRet_some ?_
    refine x_iconst (dT U_X11_root 3 rfl) ?_
    refine x_invokevirtual (rc' := rc) (rs' := rs) (rc2 := 0) (rs2 := 0) (As := [_, _]) (st := _) M_X11_lets K_X11_167 (dT U_X11_root 4 rfl) rfl rfl (by decide) rfl rfl w.c70 (Nat.le_of_ble_eq_true rfl) (by decide) rfl (Nat.le_of_ble_eq_true rfl) rfl (by decide) (Nat.le_of_ble_eq_true rfl) rfl rfl ?_
    refine S_X11_lets1 w (fun h1 g1 w1 => ?_)
    refine xRet_some ?_
    obtain ⟨i, hi, rfl⟩ : ∃ j : Nat, j < 8 ∧ row = (j : Int) := ⟨row.toNat, by omega, by omega⟩
    try simp only [tnc] at e1 k
    refine x_if_nej (tgt := 14) (dT U_X11_root 5 rfl) (by decide) (by decide) ?_
    refine x_aload_n (dT U_X11_root 8 rfl) rfl ?_
    refine x_iload_n (dT U_X11_root 9 rfl) rfl ?_
    refine x_invokevirtual (rc' := rc) (rs' := rs) (rc2 := 0) (rs2 := 0) (As := [_]) (st := _) M_X11_grow K_X11_233 (dT U_X11_root 10 rfl) rfl rfl (by decide) rfl rfl w1.c70 (Nat.le_of_ble_eq_true rfl) (by decide) rfl (Nat.le_of_ble_eq_true rfl) rfl (by decide) (Nat.le_of_ble_eq_true rfl) rfl rfl ?_
    refine S_X11_grow w1 v hi (fun {l0} h39 l ll lv => ?_)
    refine xRet_none ?_
    refine x_aload_n (dT U_X11_root 11 rfl) rfl ?_
    refine x_getfield F_X11_106 (dT U_X11_root 12 rfl) (hset_ne (by omega) (w1.c70)) (Nat.le_of_ble_eq_true rfl) rfl ?_
    refine x_iconst (dT U_X11_root 13 rfl) ?_
    refine x_ialoadv (1) (dT U_X11_root 14 rfl) (hset_eq h39) (Nat.le_of_ble_eq_true rfl) rfl (by omega) (by omega) (lv 1 (by omega) (by omega)) ?_
    refine x_ireturn (dT U_X11_root 15 rfl) rfl ?_
    exact k (by omega) _ _ _ ((Ag.tr (Ag.rf 70 142 h) (g1.w (by omega))).set (by omega)) (w1.t139 (fun a ha => by rw [hset_fr (by omega)]) (hset_eq h39) ll)
  · refine xRet_some ?_
    refine x_iconst (dT U_X11_root 3 rfl) ?_
    refine x_invokevirtual (rc' := rc) (rs' := rs) (rc2 := 0) (rs2 := 0) (As := [_, _]) (st := _) M_X11_lets K_X11_167 (dT U_X11_root 4 rfl) rfl rfl (by decide) rfl rfl w.c70 (Nat.le_of_ble_eq_true rfl) (by decide) rfl (Nat.le_of_ble_eq_true rfl) rfl (by decide) (Nat.le_of_ble_eq_true rfl) rfl rfl ?_
    refine S_X11_lets0 w (fun h1 g1 w1 => ?_)
    refine xRet_some ?_
    refine x_if_nen (tgt := 14) (dT U_X11_root 5 rfl) (by decide) (by decide) ?_
    refine x_iconst (dT U_X11_root 6 rfl) ?_
    refine x_ireturn (dT U_X11_root 7 rfl) rfl ?_
    exact e1 (by omega) _ _ (Ag.tr (Ag.rf 70 142 h) (g1.w (by omega))) w1 (by unfold xr; omega)

set_option maxRecDepth 20000 in
set_option maxHeartbeats 1000000 in
theorem S_X11_beside {G : xG} {d rc rs : Nat} {ex : Bool} {h : xH} {Q : xQ} {σ : St} {cc0 : Int} {rr : Nat} {ss : Int} {row place step : Int} (w : MX σ cc0 rr ss h) (v : INV σ) (h_row : xr row) (h_place : xr place) (h_step : xr step) (e1 : ¬ (inb row 8 ∧ inb place 8 ∧ inb step 3) → ∀ h2 z, Ag 70 142 h h2 → MX σ 1 rr ss h2 → xr z → Q (.inl (some (vi z))) ex h2) (k : (inb row 8 ∧ inb place 8 ∧ inb step 3) → ∀ h2 r2 s2, Ag 70 142 h h2 → MX σ 0 r2 s2 h2 → Q (.inl (some (vi (gs (gf (σ.rw row.toNat)) (bsd place.toNat step.toNat))))) ex h2) : X G m_X11_beside (d + 2) rc rs ex 0 (xe m_X11_beside.2.2.1 [.ref 70, vi row, vi place, vi step]) [] h Q := by
  show X G m_X11_beside _ _ _ _ 0 [some (.ref 70), some (vi row), some (vi place), some (vi step)] [] h Q
  have hp := PRb v.p
  have hq := gq_b v.p
  refine x_aload_n (dT U_X11_beside 0 rfl) rfl ?_
  refine x_iload_n (dT U_X11_beside 1 rfl) rfl ?_
  refine x_invokestatic (rc' := rc) (rs' := rs) (rc2 := 0) (rs2 := 0) (As := [_]) (st := _) M_X11_isRow K_X11_164 (dT U_X11_beside 2 rfl) rfl rfl rfl rfl (Nat.le_of_ble_eq_true rfl) rfl (by decide) (Nat.le_of_ble_eq_true rfl) rfl rfl ?_
  refine S_X11_isRow h_row (fun q1 => ?_) (fun q1 => ?_)
  · refine xRet_some ?_
    refine x_if_eqn (tgt := 27) (dT U_X11_beside 3 rfl) (by decide) (by decide) ?_
    refine x_iload_n (dT U_X11_beside 4 rfl) rfl ?_
    refine x_invokestatic (rc' := rc) (rs' := rs) (rc2 := 0) (rs2 := 0) (As := [_]) (st := _) M_X11_isRow K_X11_164 (dT U_X11_beside 5 rfl) rfl rfl rfl rfl (Nat.le_of_ble_eq_true rfl) rfl (by decide) (Nat.le_of_ble_eq_true rfl) rfl rfl ?_
    refine S_X11_isRow h_place (fun q2 => ?_) (fun q2 => ?_)
    · refine xRet_some ?_
      refine x_if_eqn (tgt := 27) (dT U_X11_beside 6 rfl) (by decide) (by decide) ?_
      refine x_iload_n (dT U_X11_beside 7 rfl) rfl ?_
      refine x_iconst (dT U_X11_beside 8 rfl) ?_
      refine x_invokestatic (rc' := rc) (rs' := rs) (rc2 := 0) (rs2 := 0) (As := [_, _]) (st := _) M_X11_in K_X11_126 (dT U_X11_beside 9 rfl) rfl rfl rfl rfl (Nat.le_of_ble_eq_true rfl) rfl (by decide) (Nat.le_of_ble_eq_true rfl) rfl rfl ?_
      refine S_X11_in h_step (by unfold xr; omega) (fun q3 => ?_) (fun q3 => ?_)
      · refine xRet_some ?_
        refine x_if_eqn (tgt := 27) (dT U_X11_beside 10 rfl) (by decide) (by decide) ?_
        refine x_iconst (dT U_X11_beside 11 rfl) ?_
        refine x_goto (tgt := 28) (dT U_X11_beside 12 rfl) (by decide) ?_
        refine x_iconst (dT U_X11_beside 14 rfl) ?_
        refine x_invokevirtual (rc' := rc) (rs' := rs) (rc2 := 0) (rs2 := 0) (As := [_, _]) (st := _) M_X11_lets K_X11_167 (dT U_X11_beside 15 rfl) rfl rfl (by decide) rfl rfl w.c70 (Nat.le_of_ble_eq_true rfl) (by decide) rfl (Nat.le_of_ble_eq_true rfl) rfl (by decide) (Nat.le_of_ble_eq_true rfl) rfl rfl ?_
        refine S_X11_lets1 w (fun h1 g1 w1 => ?_)
        refine xRet_some ?_
        obtain ⟨i, hi, rfl⟩ : ∃ j : Nat, j < 8 ∧ row = (j : Int) := ⟨row.toNat, by omega, by omega⟩
        try simp only [tnc] at e1 k
        obtain ⟨j, hj, rfl⟩ : ∃ j : Nat, j < 8 ∧ place = (j : Int) := ⟨place.toNat, by omega, by omega⟩
        try simp only [tnc] at e1 k
        obtain ⟨s, hs, rfl⟩ : ∃ j : Nat, j < 3 ∧ step = (j : Int) := ⟨step.toNat, by omega, by omega⟩
        try simp only [tnc] at e1 k
        refine x_if_nej (tgt := 37) (dT U_X11_beside 16 rfl) (by decide) (by decide) ?_
        refine x_aload_n (dT U_X11_beside 19 rfl) rfl ?_
        refine x_iload_n (dT U_X11_beside 20 rfl) rfl ?_
        refine x_invokevirtual (rc' := rc) (rs' := rs) (rc2 := 0) (rs2 := 0) (As := [_]) (st := _) M_X11_grow K_X11_233 (dT U_X11_beside 21 rfl) rfl rfl (by decide) rfl rfl w1.c70 (Nat.le_of_ble_eq_true rfl) (by decide) rfl (Nat.le_of_ble_eq_true rfl) rfl (by decide) (Nat.le_of_ble_eq_true rfl) rfl rfl ?_
        refine S_X11_grow w1 v hi (fun {l0} h39 l ll lv => ?_)
        refine xRet_none ?_
        refine x_aload_n (dT U_X11_beside 22 rfl) rfl ?_
        refine x_getfield F_X11_106 (dT U_X11_beside 23 rfl) (hset_ne (by omega) (w1.c70)) (Nat.le_of_ble_eq_true rfl) rfl ?_
        refine x_bipush (dT U_X11_beside 24 rfl) (by decide) ?_
        refine x_iload_n (dT U_X11_beside 25 rfl) rfl ?_
        refine x_iadd (dT U_X11_beside 26 rfl) ?_
        refine x_iload_n (dT U_X11_beside 27 rfl) rfl ?_
        refine x_ishr (r := (((8 + j) / 2 ^ s : Nat) : Int)) (dT U_X11_beside 28 rfl) (shr_ok (a := 8 + j) (s := s) (by omega) (by omega)) ?_
        refine x_iconst (dT U_X11_beside 29 rfl) ?_
        have bb := bsd_b (i := j) (s := s) hj hs
        refine x_ixor (r := (nx ((8 + j) / 2 ^ s) : Int)) (dT U_X11_beside 30 rfl) (xor_ok bb.2.2) ?_
        refine x_ialoadv (bsd j s) (dT U_X11_beside 31 rfl) (hset_eq h39) (Nat.le_of_ble_eq_true rfl) rfl (by omega) (by omega) (lv _ bb.1 bb.2.1) ?_
        refine x_ireturn (dT U_X11_beside 32 rfl) rfl ?_
        exact k (by omega) _ _ _ ((Ag.tr (Ag.rf 70 142 h) (g1.w (by omega))).set (by omega)) (w1.t139 (fun a ha => by rw [hset_fr (by omega)]) (hset_eq h39) ll)
      · refine xRet_some ?_
        refine x_if_eqj (tgt := 27) (dT U_X11_beside 10 rfl) (by decide) (by decide) ?_
        refine x_iconst (dT U_X11_beside 13 rfl) ?_
        refine x_iconst (dT U_X11_beside 14 rfl) ?_
        refine x_invokevirtual (rc' := rc) (rs' := rs) (rc2 := 0) (rs2 := 0) (As := [_, _]) (st := _) M_X11_lets K_X11_167 (dT U_X11_beside 15 rfl) rfl rfl (by decide) rfl rfl w.c70 (Nat.le_of_ble_eq_true rfl) (by decide) rfl (Nat.le_of_ble_eq_true rfl) rfl (by decide) (Nat.le_of_ble_eq_true rfl) rfl rfl ?_
        refine S_X11_lets0 w (fun h1 g1 w1 => ?_)
        refine xRet_some ?_
        refine x_if_nen (tgt := 37) (dT U_X11_beside 16 rfl) (by decide) (by decide) ?_
        refine x_iconst (dT U_X11_beside 17 rfl) ?_
        refine x_ireturn (dT U_X11_beside 18 rfl) rfl ?_
        exact e1 (by omega) _ _ (Ag.tr (Ag.rf 70 142 h) (g1.w (by omega))) w1 (by unfold xr; omega)
    · refine xRet_some ?_
      refine x_if_eqj (tgt := 27) (dT U_X11_beside 6 rfl) (by decide) (by decide) ?_
      refine x_iconst (dT U_X11_beside 13 rfl) ?_
      refine x_iconst (dT U_X11_beside 14 rfl) ?_
      refine x_invokevirtual (rc' := rc) (rs' := rs) (rc2 := 0) (rs2 := 0) (As := [_, _]) (st := _) M_X11_lets K_X11_167 (dT U_X11_beside 15 rfl) rfl rfl (by decide) rfl rfl w.c70 (Nat.le_of_ble_eq_true rfl) (by decide) rfl (Nat.le_of_ble_eq_true rfl) rfl (by decide) (Nat.le_of_ble_eq_true rfl) rfl rfl ?_
      refine S_X11_lets0 w (fun h1 g1 w1 => ?_)
      refine xRet_some ?_
      refine x_if_nen (tgt := 37) (dT U_X11_beside 16 rfl) (by decide) (by decide) ?_
      refine x_iconst (dT U_X11_beside 17 rfl) ?_
      refine x_ireturn (dT U_X11_beside 18 rfl) rfl ?_
      exact e1 (by omega) _ _ (Ag.tr (Ag.rf 70 142 h) (g1.w (by omega))) w1 (by unfold xr; omega)
  · refine xRet_some ?_
    refine x_if_eqj (tgt := 27) (dT U_X11_beside 3 rfl) (by decide) (by decide) ?_
    refine x_iconst (dT U_X11_beside 13 rfl) ?_
    refine x_iconst (dT U_X11_beside 14 rfl) ?_
    refine x_invokevirtual (rc' := rc) (rs' := rs) (rc2 := 0) (rs2 := 0) (As := [_, _]) (st := _) M_X11_lets K_X11_167 (dT U_X11_beside 15 rfl) rfl rfl (by decide) rfl rfl w.c70 (Nat.le_of_ble_eq_true rfl) (by decide) rfl (Nat.le_of_ble_eq_true rfl) rfl (by decide) (Nat.le_of_ble_eq_true rfl) rfl rfl ?_
    refine S_X11_lets0 w (fun h1 g1 w1 => ?_)
    refine xRet_some ?_
    refine x_if_nen (tgt := 37) (dT U_X11_beside 16 rfl) (by decide) (by decide) ?_
    refine x_iconst (dT U_X11_beside 17 rfl) ?_
    refine x_ireturn (dT U_X11_beside 18 rfl) rfl ?_
    exact e1 (by omega) _ _ (Ag.tr (Ag.rf 70 142 h) (g1.w (by omega))) w1 (by unfold xr; omega)

def WN (i : Nat) (v a b c : Int) (k : Nat) : Int := 251 * (wq i v a b c k).1 + (wq i v a b c k).2
theorem WN_r {i : Nat} {v a b c : Int} {k : Nat} (h : ¬ i / 2 ^ k % 2 = 0) : 251 * (if k = 0 then a else if k = 1 then b else c) + ws i v a b c k = WN i v a b c (k + 1) := by
  unfold WN
  simp only [wq]
  rw [if_neg h]
  rfl
theorem WN_l {i : Nat} {v a b c : Int} {k : Nat} (h : i / 2 ^ k % 2 = 0) : 251 * ws i v a b c k + (if k = 0 then a else if k = 1 then b else c) = WN i v a b c (k + 1) := by
  unfold WN
  simp only [wq]
  rw [if_pos h]
  rfl
theorem S_sealedP {G : xG} {d rc rs : Nat} {ex : Bool} {h : xH} {Q : xQ} {x y : Int} (hx : 0 ≤ x ∧ x < 251) (hy : 0 ≤ y ∧ y < 251) (k : Q (.inl (some (vi (sl x y)))) ex h) : X G m_X11_sealed_ (d + 1) rc rs ex 0 (xe m_X11_sealed_.2.2.1 [vi (251 * x + y)]) [] h Q := by
  obtain ⟨x', rfl⟩ := Int.eq_ofNat_of_zero_le hx.1
  obtain ⟨y', rfl⟩ := Int.eq_ofNat_of_zero_le hy.1
  have q := S_X11_sealed_ (G := G) (d := d) (rc := rc) (rs := rs) (ex := ex) (h := h) (Q := Q) (n0 := 251 * x' + y') (by omega) (by rw [show (251 * x' + y') / 251 = x' by omega, show (251 * x' + y') % 251 = y' by omega]; exact k)
  rw [show ((251 * x' + y' : Nat) : Int) = 251 * (x' : Int) + (y' : Int) by omega] at q
  exact q

set_option maxRecDepth 20000 in
set_option maxHeartbeats 1000000 in
theorem S_X11_goUp {G : xG} {d rc rs : Nat} {ex : Bool} {h : xH} {Q : xQ} {ta i : Nat} {v a b c : Int} {l : List Int} (ht : h[ta]? = some (cA 0 l)) (t3 : 3 ≤ ta) (ll : l.length = 5) (hi : i < 8) (hv : 0 ≤ v ∧ v < 251) (ha : 0 ≤ a ∧ a < 251) (hb : 0 ≤ b ∧ b < 251) (hc : 0 ≤ c ∧ c < 251) (k : ∀ l2 : List Int, l2.length = 5 → l2.getD 0 0 = (WN i v a b c 0) → l2.getD 1 0 = (WN i v a b c 1) → l2.getD 2 0 = (WN i v a b c 2) → l2.getD 3 0 = (WN i v a b c 3) → l2.getD 4 0 = (ws i v a b c 3) → Q (.inl none) ex (h.set ta (cA 0 l2))) : X G m_X11_goUp (d + 2) rc rs ex 0 (xe m_X11_goUp.2.2.1 [.ref ta, vi (i : Int), vi v, vi a, vi b, vi c]) [] h Q := by
  show X G m_X11_goUp _ _ _ _ 0 [some (.ref ta), some (vi (i : Int)), some (vi v), some (vi a), some (vi b), some (vi c), none, none, none] [] h Q
  refine x_aload_n (dT U_X11_goUp 0 rfl) rfl ?_
  refine x_iconst (dT U_X11_goUp 1 rfl) ?_
  refine x_sipush (dT U_X11_goUp 2 rfl) (by decide) ?_
  refine x_iload_n (dT U_X11_goUp 3 rfl) rfl ?_
  refine x_imul (dT U_X11_goUp 4 rfl) ?_
  refine x_iload_n (dT U_X11_goUp 5 rfl) rfl ?_
  refine x_iadd (dT U_X11_goUp 6 rfl) ?_
  rw [show (251 : Int) * v + (i : Int) = (WN i v a b c 0) from rfl]
  refine x_iastore (0) (dT U_X11_goUp 7 rfl) ht t3 rfl (by omega) (by omega) ?_
  refine x_iconst (dT U_X11_goUp 8 rfl) ?_
  refine x_istore (ls' := [some (.ref _), some (vi _), some (vi _), some (vi _), some (vi _), some (vi _), some (vi _), none, none]) (dT U_X11_goUp 9 rfl) (by decide) rfl ?_
  refine x_iload (dT U_X11_goUp 10 rfl) rfl ?_
  refine x_iconst (dT U_X11_goUp 11 rfl) ?_
  refine x_icmp_ge (tgt := 95) (dT U_X11_goUp 12 rfl) (by decide) (by unfold xr; omega) (by unfold xr; omega) (fun c16 => (by exfalso; omega)) (fun c16 => ?_)
  refine x_aload_n (dT U_X11_goUp 13 rfl) rfl ?_
  refine x_iload (dT U_X11_goUp 14 rfl) rfl ?_
  refine x_ialoadv (0) (dT U_X11_goUp 15 rfl) (hset_eq ht) t3 rfl (by rw [List.length_set, ll]; omega) (by rw [List.length_set, ll]; omega) (gset_e (by rw [ll]; omega)) ?_
  refine x_invokestatic (rc' := rc) (rs' := rs) (rc2 := 0) (rs2 := 0) (As := [_]) (st := _) M_X11_sealed_ K_X11_231 (dT U_X11_goUp 16 rfl) rfl rfl rfl rfl (Nat.le_of_ble_eq_true rfl) rfl (by decide) (Nat.le_of_ble_eq_true rfl) rfl rfl ?_
  have b0 := wq_b (i := i) (v := v) (a := a) (b := b) (c := c) hi hv ha hb hc 0
  refine S_sealedP (x := (wq i v a b c 0).1) (y := (wq i v a b c 0).2) b0.1 b0.2 ?_
  change xRet _ _ _ _ _ _ _ _ _ _ (.inl (some (vi (ws i v a b c 0)))) _ _
  refine xRet_some ?_
  refine x_istore (ls' := [some (.ref _), some (vi _), some (vi _), some (vi _), some (vi _), some (vi _), some (vi _), some (vi _), none]) (dT U_X11_goUp 17 rfl) (by decide) rfl ?_
  refine x_iload (dT U_X11_goUp 18 rfl) rfl ?_
  refine x_if_nen (tgt := 37) (dT U_X11_goUp 19 rfl) (by decide) (by decide) ?_
  refine x_iload_n (dT U_X11_goUp 20 rfl) rfl ?_
  refine x_goto (tgt := 50) (dT U_X11_goUp 21 rfl) (by decide) ?_
  refine x_istore (ls' := [some (.ref _), some (vi _), some (vi _), some (vi _), some (vi _), some (vi _), some (vi _), some (vi _), some (vi _)]) (dT U_X11_goUp 28 rfl) (by decide) rfl ?_
  refine x_aload_n (dT U_X11_goUp 29 rfl) rfl ?_
  refine x_iload (dT U_X11_goUp 30 rfl) rfl ?_
  refine x_iconst (dT U_X11_goUp 31 rfl) ?_
  refine x_iadd (dT U_X11_goUp 32 rfl) ?_
  refine x_iload_n (dT U_X11_goUp 33 rfl) rfl ?_
  refine x_iload (dT U_X11_goUp 34 rfl) rfl ?_
  refine x_ishr (r := ((i / 2 ^ 0 : Nat) : Int)) (dT U_X11_goUp 35 rfl) (shr_ok (a := i) (s := 0) (by omega) (by omega)) ?_
  refine x_iconst (dT U_X11_goUp 36 rfl) ?_
  refine x_iand (r := ((i / 2 ^ 0 % 2 : Nat) : Int)) (dT U_X11_goUp 37 rfl) (and_ok (a := i / 2 ^ 0) (by omega)) ?_
  refine x_iconst (dT U_X11_goUp 38 rfl) ?_
  refine x_icmp_ne (tgt := 79) (dT U_X11_goUp 39 rfl) (by decide) (by unfold xr; omega) (by unfold xr; omega) (fun c64 => ?_) (fun c64 => ?_)
  · skip
    refine x_sipush (dT U_X11_goUp 46 rfl) (by decide) ?_
    refine x_iload (dT U_X11_goUp 47 rfl) rfl ?_
    refine x_imul (dT U_X11_goUp 48 rfl) ?_
    refine x_iload (dT U_X11_goUp 49 rfl) rfl ?_
    refine x_iadd (dT U_X11_goUp 50 rfl) ?_
    first | rw [show 251 * a + (ws i v a b c 0) = (WN i v a b c 1) from WN_r (k := 0) (by omega)] | rw [show 251 * (ws i v a b c 0) + a = (WN i v a b c 1) from WN_l (k := 0) (by omega)]
    refine x_iastore (1) (dT U_X11_goUp 51 rfl) (hset_eq ht) t3 rfl (by rw [List.length_set, ll]; omega) (by rw [List.length_set, ll]; omega) ?_
    rw [List.set_set]
    refine x_iinc (ls' := [some (.ref _), some (vi _), some (vi _), some (vi _), some (vi _), some (vi _), some (vi _), some (vi _), some (vi _)]) (dT U_X11_goUp 52 rfl) (by decide) rfl rfl ?_
    refine x_goto (tgt := 13) (dT U_X11_goUp 53 rfl) (by decide) ?_
    refine x_iload (dT U_X11_goUp 10 rfl) rfl ?_
    refine x_iconst (dT U_X11_goUp 11 rfl) ?_
    refine x_icmp_ge (tgt := 95) (dT U_X11_goUp 12 rfl) (by decide) (by unfold xr; omega) (by unfold xr; omega) (fun c16 => (by exfalso; omega)) (fun c16 => ?_)
    refine x_aload_n (dT U_X11_goUp 13 rfl) rfl ?_
    refine x_iload (dT U_X11_goUp 14 rfl) rfl ?_
    refine x_ialoadv (1) (dT U_X11_goUp 15 rfl) (hset_eq ht) t3 rfl (by rw [List.length_set, List.length_set, ll]; omega) (by rw [List.length_set, List.length_set, ll]; omega) (gset_e (by rw [List.length_set, ll]; omega)) ?_
    refine x_invokestatic (rc' := rc) (rs' := rs) (rc2 := 0) (rs2 := 0) (As := [_]) (st := _) M_X11_sealed_ K_X11_231 (dT U_X11_goUp 16 rfl) rfl rfl rfl rfl (Nat.le_of_ble_eq_true rfl) rfl (by decide) (Nat.le_of_ble_eq_true rfl) rfl rfl ?_
    have b1 := wq_b (i := i) (v := v) (a := a) (b := b) (c := c) hi hv ha hb hc 1
    refine S_sealedP (x := (wq i v a b c 1).1) (y := (wq i v a b c 1).2) b1.1 b1.2 ?_
    change xRet _ _ _ _ _ _ _ _ _ _ (.inl (some (vi (ws i v a b c 1)))) _ _
    refine xRet_some ?_
    refine x_istore (ls' := [some (.ref _), some (vi _), some (vi _), some (vi _), some (vi _), some (vi _), some (vi _), some (vi _), some (vi _)]) (dT U_X11_goUp 17 rfl) (by decide) rfl ?_
    refine x_iload (dT U_X11_goUp 18 rfl) rfl ?_
    refine x_if_nej (tgt := 37) (dT U_X11_goUp 19 rfl) (by decide) (by decide) ?_
    refine x_iload (dT U_X11_goUp 22 rfl) rfl ?_
    refine x_iconst (dT U_X11_goUp 23 rfl) ?_
    refine x_icmp_ne (tgt := 48) (dT U_X11_goUp 24 rfl) (by decide) (by unfold xr; omega) (by unfold xr; omega) (fun c40 => (by exfalso; omega)) (fun c40 => ?_)
    refine x_iload (dT U_X11_goUp 25 rfl) rfl ?_
    refine x_goto (tgt := 50) (dT U_X11_goUp 26 rfl) (by decide) ?_
    refine x_istore (ls' := [some (.ref _), some (vi _), some (vi _), some (vi _), some (vi _), some (vi _), some (vi _), some (vi _), some (vi _)]) (dT U_X11_goUp 28 rfl) (by decide) rfl ?_
    refine x_aload_n (dT U_X11_goUp 29 rfl) rfl ?_
    refine x_iload (dT U_X11_goUp 30 rfl) rfl ?_
    refine x_iconst (dT U_X11_goUp 31 rfl) ?_
    refine x_iadd (dT U_X11_goUp 32 rfl) ?_
    refine x_iload_n (dT U_X11_goUp 33 rfl) rfl ?_
    refine x_iload (dT U_X11_goUp 34 rfl) rfl ?_
    refine x_ishr (r := ((i / 2 ^ 1 : Nat) : Int)) (dT U_X11_goUp 35 rfl) (shr_ok (a := i) (s := 1) (by omega) (by omega)) ?_
    refine x_iconst (dT U_X11_goUp 36 rfl) ?_
    refine x_iand (r := ((i / 2 ^ 1 % 2 : Nat) : Int)) (dT U_X11_goUp 37 rfl) (and_ok (a := i / 2 ^ 1) (by omega)) ?_
    refine x_iconst (dT U_X11_goUp 38 rfl) ?_
    refine x_icmp_ne (tgt := 79) (dT U_X11_goUp 39 rfl) (by decide) (by unfold xr; omega) (by unfold xr; omega) (fun c64 => ?_) (fun c64 => ?_)
    · skip
      refine x_sipush (dT U_X11_goUp 46 rfl) (by decide) ?_
      refine x_iload (dT U_X11_goUp 47 rfl) rfl ?_
      refine x_imul (dT U_X11_goUp 48 rfl) ?_
      refine x_iload (dT U_X11_goUp 49 rfl) rfl ?_
      refine x_iadd (dT U_X11_goUp 50 rfl) ?_
      first | rw [show 251 * b + (ws i v a b c 1) = (WN i v a b c 2) from WN_r (k := 1) (by omega)] | rw [show 251 * (ws i v a b c 1) + b = (WN i v a b c 2) from WN_l (k := 1) (by omega)]
      refine x_iastore (2) (dT U_X11_goUp 51 rfl) (hset_eq ht) t3 rfl (by rw [List.length_set, List.length_set, ll]; omega) (by rw [List.length_set, List.length_set, ll]; omega) ?_
      rw [List.set_set]
      refine x_iinc (ls' := [some (.ref _), some (vi _), some (vi _), some (vi _), some (vi _), some (vi _), some (vi _), some (vi _), some (vi _)]) (dT U_X11_goUp 52 rfl) (by decide) rfl rfl ?_
      refine x_goto (tgt := 13) (dT U_X11_goUp 53 rfl) (by decide) ?_
      refine x_iload (dT U_X11_goUp 10 rfl) rfl ?_
      refine x_iconst (dT U_X11_goUp 11 rfl) ?_
      refine x_icmp_ge (tgt := 95) (dT U_X11_goUp 12 rfl) (by decide) (by unfold xr; omega) (by unfold xr; omega) (fun c16 => (by exfalso; omega)) (fun c16 => ?_)
      refine x_aload_n (dT U_X11_goUp 13 rfl) rfl ?_
      refine x_iload (dT U_X11_goUp 14 rfl) rfl ?_
      refine x_ialoadv (2) (dT U_X11_goUp 15 rfl) (hset_eq ht) t3 rfl (by rw [List.length_set, List.length_set, List.length_set, ll]; omega) (by rw [List.length_set, List.length_set, List.length_set, ll]; omega) (gset_e (by rw [List.length_set, List.length_set, ll]; omega)) ?_
      refine x_invokestatic (rc' := rc) (rs' := rs) (rc2 := 0) (rs2 := 0) (As := [_]) (st := _) M_X11_sealed_ K_X11_231 (dT U_X11_goUp 16 rfl) rfl rfl rfl rfl (Nat.le_of_ble_eq_true rfl) rfl (by decide) (Nat.le_of_ble_eq_true rfl) rfl rfl ?_
      have b2 := wq_b (i := i) (v := v) (a := a) (b := b) (c := c) hi hv ha hb hc 2
      refine S_sealedP (x := (wq i v a b c 2).1) (y := (wq i v a b c 2).2) b2.1 b2.2 ?_
      change xRet _ _ _ _ _ _ _ _ _ _ (.inl (some (vi (ws i v a b c 2)))) _ _
      refine xRet_some ?_
      refine x_istore (ls' := [some (.ref _), some (vi _), some (vi _), some (vi _), some (vi _), some (vi _), some (vi _), some (vi _), some (vi _)]) (dT U_X11_goUp 17 rfl) (by decide) rfl ?_
      refine x_iload (dT U_X11_goUp 18 rfl) rfl ?_
      refine x_if_ne (tgt := 37) (dT U_X11_goUp 19 rfl) (by decide) (by unfold xr; omega) (fun c30 => ?_) (fun c30 => (by exfalso; omega))
      refine x_iload (dT U_X11_goUp 22 rfl) rfl ?_
      refine x_iconst (dT U_X11_goUp 23 rfl) ?_
      refine x_icmp_ne (tgt := 48) (dT U_X11_goUp 24 rfl) (by decide) (by unfold xr; omega) (by unfold xr; omega) (fun c40 => ?_) (fun c40 => (by exfalso; omega))
      refine x_iload (dT U_X11_goUp 27 rfl) rfl ?_
      refine x_istore (ls' := [some (.ref _), some (vi _), some (vi _), some (vi _), some (vi _), some (vi _), some (vi _), some (vi _), some (vi _)]) (dT U_X11_goUp 28 rfl) (by decide) rfl ?_
      refine x_aload_n (dT U_X11_goUp 29 rfl) rfl ?_
      refine x_iload (dT U_X11_goUp 30 rfl) rfl ?_
      refine x_iconst (dT U_X11_goUp 31 rfl) ?_
      refine x_iadd (dT U_X11_goUp 32 rfl) ?_
      refine x_iload_n (dT U_X11_goUp 33 rfl) rfl ?_
      refine x_iload (dT U_X11_goUp 34 rfl) rfl ?_
      refine x_ishr (r := ((i / 2 ^ 2 : Nat) : Int)) (dT U_X11_goUp 35 rfl) (shr_ok (a := i) (s := 2) (by omega) (by omega)) ?_
      refine x_iconst (dT U_X11_goUp 36 rfl) ?_
      refine x_iand (r := ((i / 2 ^ 2 % 2 : Nat) : Int)) (dT U_X11_goUp 37 rfl) (and_ok (a := i / 2 ^ 2) (by omega)) ?_
      refine x_iconst (dT U_X11_goUp 38 rfl) ?_
      refine x_icmp_ne (tgt := 79) (dT U_X11_goUp 39 rfl) (by decide) (by unfold xr; omega) (by unfold xr; omega) (fun c64 => ?_) (fun c64 => ?_)
      · skip
        refine x_sipush (dT U_X11_goUp 46 rfl) (by decide) ?_
        refine x_iload (dT U_X11_goUp 47 rfl) rfl ?_
        refine x_imul (dT U_X11_goUp 48 rfl) ?_
        refine x_iload (dT U_X11_goUp 49 rfl) rfl ?_
        refine x_iadd (dT U_X11_goUp 50 rfl) ?_
        first | rw [show 251 * c + (ws i v a b c 2) = (WN i v a b c 3) from WN_r (k := 2) (by omega)] | rw [show 251 * (ws i v a b c 2) + c = (WN i v a b c 3) from WN_l (k := 2) (by omega)]
        refine x_iastore (3) (dT U_X11_goUp 51 rfl) (hset_eq ht) t3 rfl (by rw [List.length_set, List.length_set, List.length_set, ll]; omega) (by rw [List.length_set, List.length_set, List.length_set, ll]; omega) ?_
        rw [List.set_set]
        refine x_iinc (ls' := [some (.ref _), some (vi _), some (vi _), some (vi _), some (vi _), some (vi _), some (vi _), some (vi _), some (vi _)]) (dT U_X11_goUp 52 rfl) (by decide) rfl rfl ?_
        refine x_goto (tgt := 13) (dT U_X11_goUp 53 rfl) (by decide) ?_
        refine x_iload (dT U_X11_goUp 10 rfl) rfl ?_
        refine x_iconst (dT U_X11_goUp 11 rfl) ?_
        refine x_icmp_ge (tgt := 95) (dT U_X11_goUp 12 rfl) (by decide) (by unfold xr; omega) (by unfold xr; omega) (fun c16 => ?_) (fun c16 => (by exfalso; omega))
        refine x_aload_n (dT U_X11_goUp 54 rfl) rfl ?_
        refine x_iconst (dT U_X11_goUp 55 rfl) ?_
        refine x_aload_n (dT U_X11_goUp 56 rfl) rfl ?_
        refine x_iconst (dT U_X11_goUp 57 rfl) ?_
        refine x_ialoadv (3) (dT U_X11_goUp 58 rfl) (hset_eq ht) t3 rfl (by rw [List.length_set, List.length_set, List.length_set, List.length_set, ll]; omega) (by rw [List.length_set, List.length_set, List.length_set, List.length_set, ll]; omega) (gset_e (by rw [List.length_set, List.length_set, List.length_set, ll]; omega)) ?_
        refine x_invokestatic (rc' := rc) (rs' := rs) (rc2 := 0) (rs2 := 0) (As := [_]) (st := _) M_X11_sealed_ K_X11_231 (dT U_X11_goUp 59 rfl) rfl rfl rfl rfl (Nat.le_of_ble_eq_true rfl) rfl (by decide) (Nat.le_of_ble_eq_true rfl) rfl rfl ?_
        have b3 := wq_b (i := i) (v := v) (a := a) (b := b) (c := c) hi hv ha hb hc 3
        refine S_sealedP (x := (wq i v a b c 3).1) (y := (wq i v a b c 3).2) b3.1 b3.2 ?_
        change xRet _ _ _ _ _ _ _ _ _ _ (.inl (some (vi (ws i v a b c 3)))) _ _
        have g0 : (((((l.set 0 (WN i v a b c 0)).set 1 (WN i v a b c 1)).set 2 (WN i v a b c 2)).set 3 (WN i v a b c 3)).set 4 (ws i v a b c 3)).getD 0 0 = (WN i v a b c 0) := by rw [gset_n (by omega), gset_n (by omega), gset_n (by omega), gset_n (by omega)]; exact gset_e (by rw [ll]; omega)
        have g1 : (((((l.set 0 (WN i v a b c 0)).set 1 (WN i v a b c 1)).set 2 (WN i v a b c 2)).set 3 (WN i v a b c 3)).set 4 (ws i v a b c 3)).getD 1 0 = (WN i v a b c 1) := by rw [gset_n (by omega), gset_n (by omega), gset_n (by omega)]; exact gset_e (by rw [List.length_set, ll]; omega)
        have g2 : (((((l.set 0 (WN i v a b c 0)).set 1 (WN i v a b c 1)).set 2 (WN i v a b c 2)).set 3 (WN i v a b c 3)).set 4 (ws i v a b c 3)).getD 2 0 = (WN i v a b c 2) := by rw [gset_n (by omega), gset_n (by omega)]; exact gset_e (by rw [List.length_set, List.length_set, ll]; omega)
        have g3 : (((((l.set 0 (WN i v a b c 0)).set 1 (WN i v a b c 1)).set 2 (WN i v a b c 2)).set 3 (WN i v a b c 3)).set 4 (ws i v a b c 3)).getD 3 0 = (WN i v a b c 3) := by rw [gset_n (by omega)]; exact gset_e (by rw [List.length_set, List.length_set, List.length_set, ll]; omega)
        refine xRet_some ?_
        refine x_iastore (4) (dT U_X11_goUp 60 rfl) (hset_eq ht) t3 rfl (by rw [List.length_set, List.length_set, List.length_set, List.length_set, ll]; omega) (by rw [List.length_set, List.length_set, List.length_set, List.length_set, ll]; omega) ?_
        rw [List.set_set]
        refine x_return (dT U_X11_goUp 61 rfl) rfl ?_
        exact k _ (by rw [List.length_set, List.length_set, List.length_set, List.length_set, List.length_set]; exact ll) g0 g1 g2 g3 (gset_e (by rw [List.length_set, List.length_set, List.length_set, List.length_set, ll]; omega))
      · skip
        refine x_sipush (dT U_X11_goUp 40 rfl) (by decide) ?_
        refine x_iload (dT U_X11_goUp 41 rfl) rfl ?_
        refine x_imul (dT U_X11_goUp 42 rfl) ?_
        refine x_iload (dT U_X11_goUp 43 rfl) rfl ?_
        refine x_iadd (dT U_X11_goUp 44 rfl) ?_
        refine x_goto (tgt := 88) (dT U_X11_goUp 45 rfl) (by decide) ?_
        first | rw [show 251 * c + (ws i v a b c 2) = (WN i v a b c 3) from WN_r (k := 2) (by omega)] | rw [show 251 * (ws i v a b c 2) + c = (WN i v a b c 3) from WN_l (k := 2) (by omega)]
        refine x_iastore (3) (dT U_X11_goUp 51 rfl) (hset_eq ht) t3 rfl (by rw [List.length_set, List.length_set, List.length_set, ll]; omega) (by rw [List.length_set, List.length_set, List.length_set, ll]; omega) ?_
        rw [List.set_set]
        refine x_iinc (ls' := [some (.ref _), some (vi _), some (vi _), some (vi _), some (vi _), some (vi _), some (vi _), some (vi _), some (vi _)]) (dT U_X11_goUp 52 rfl) (by decide) rfl rfl ?_
        refine x_goto (tgt := 13) (dT U_X11_goUp 53 rfl) (by decide) ?_
        refine x_iload (dT U_X11_goUp 10 rfl) rfl ?_
        refine x_iconst (dT U_X11_goUp 11 rfl) ?_
        refine x_icmp_ge (tgt := 95) (dT U_X11_goUp 12 rfl) (by decide) (by unfold xr; omega) (by unfold xr; omega) (fun c16 => ?_) (fun c16 => (by exfalso; omega))
        refine x_aload_n (dT U_X11_goUp 54 rfl) rfl ?_
        refine x_iconst (dT U_X11_goUp 55 rfl) ?_
        refine x_aload_n (dT U_X11_goUp 56 rfl) rfl ?_
        refine x_iconst (dT U_X11_goUp 57 rfl) ?_
        refine x_ialoadv (3) (dT U_X11_goUp 58 rfl) (hset_eq ht) t3 rfl (by rw [List.length_set, List.length_set, List.length_set, List.length_set, ll]; omega) (by rw [List.length_set, List.length_set, List.length_set, List.length_set, ll]; omega) (gset_e (by rw [List.length_set, List.length_set, List.length_set, ll]; omega)) ?_
        refine x_invokestatic (rc' := rc) (rs' := rs) (rc2 := 0) (rs2 := 0) (As := [_]) (st := _) M_X11_sealed_ K_X11_231 (dT U_X11_goUp 59 rfl) rfl rfl rfl rfl (Nat.le_of_ble_eq_true rfl) rfl (by decide) (Nat.le_of_ble_eq_true rfl) rfl rfl ?_
        have b3 := wq_b (i := i) (v := v) (a := a) (b := b) (c := c) hi hv ha hb hc 3
        refine S_sealedP (x := (wq i v a b c 3).1) (y := (wq i v a b c 3).2) b3.1 b3.2 ?_
        change xRet _ _ _ _ _ _ _ _ _ _ (.inl (some (vi (ws i v a b c 3)))) _ _
        have g0 : (((((l.set 0 (WN i v a b c 0)).set 1 (WN i v a b c 1)).set 2 (WN i v a b c 2)).set 3 (WN i v a b c 3)).set 4 (ws i v a b c 3)).getD 0 0 = (WN i v a b c 0) := by rw [gset_n (by omega), gset_n (by omega), gset_n (by omega), gset_n (by omega)]; exact gset_e (by rw [ll]; omega)
        have g1 : (((((l.set 0 (WN i v a b c 0)).set 1 (WN i v a b c 1)).set 2 (WN i v a b c 2)).set 3 (WN i v a b c 3)).set 4 (ws i v a b c 3)).getD 1 0 = (WN i v a b c 1) := by rw [gset_n (by omega), gset_n (by omega), gset_n (by omega)]; exact gset_e (by rw [List.length_set, ll]; omega)
        have g2 : (((((l.set 0 (WN i v a b c 0)).set 1 (WN i v a b c 1)).set 2 (WN i v a b c 2)).set 3 (WN i v a b c 3)).set 4 (ws i v a b c 3)).getD 2 0 = (WN i v a b c 2) := by rw [gset_n (by omega), gset_n (by omega)]; exact gset_e (by rw [List.length_set, List.length_set, ll]; omega)
        have g3 : (((((l.set 0 (WN i v a b c 0)).set 1 (WN i v a b c 1)).set 2 (WN i v a b c 2)).set 3 (WN i v a b c 3)).set 4 (ws i v a b c 3)).getD 3 0 = (WN i v a b c 3) := by rw [gset_n (by omega)]; exact gset_e (by rw [List.length_set, List.length_set, List.length_set, ll]; omega)
        refine xRet_some ?_
        refine x_iastore (4) (dT U_X11_goUp 60 rfl) (hset_eq ht) t3 rfl (by rw [List.length_set, List.length_set, List.length_set, List.length_set, ll]; omega) (by rw [List.length_set, List.length_set, List.length_set, List.length_set, ll]; omega) ?_
        rw [List.set_set]
        refine x_return (dT U_X11_goUp 61 rfl) rfl ?_
        exact k _ (by rw [List.length_set, List.length_set, List.length_set, List.length_set, List.length_set]; exact ll) g0 g1 g2 g3 (gset_e (by rw [List.length_set, List.length_set, List.length_set, List.length_set, ll]; omega))
    · skip
      refine x_sipush (dT U_X11_goUp 40 rfl) (by decide) ?_
      refine x_iload (dT U_X11_goUp 41 rfl) rfl ?_
      refine x_imul (dT U_X11_goUp 42 rfl) ?_
      refine x_iload (dT U_X11_goUp 43 rfl) rfl ?_
      refine x_iadd (dT U_X11_goUp 44 rfl) ?_
      refine x_goto (tgt := 88) (dT U_X11_goUp 45 rfl) (by decide) ?_
      first | rw [show 251 * b + (ws i v a b c 1) = (WN i v a b c 2) from WN_r (k := 1) (by omega)] | rw [show 251 * (ws i v a b c 1) + b = (WN i v a b c 2) from WN_l (k := 1) (by omega)]
      refine x_iastore (2) (dT U_X11_goUp 51 rfl) (hset_eq ht) t3 rfl (by rw [List.length_set, List.length_set, ll]; omega) (by rw [List.length_set, List.length_set, ll]; omega) ?_
      rw [List.set_set]
      refine x_iinc (ls' := [some (.ref _), some (vi _), some (vi _), some (vi _), some (vi _), some (vi _), some (vi _), some (vi _), some (vi _)]) (dT U_X11_goUp 52 rfl) (by decide) rfl rfl ?_
      refine x_goto (tgt := 13) (dT U_X11_goUp 53 rfl) (by decide) ?_
      refine x_iload (dT U_X11_goUp 10 rfl) rfl ?_
      refine x_iconst (dT U_X11_goUp 11 rfl) ?_
      refine x_icmp_ge (tgt := 95) (dT U_X11_goUp 12 rfl) (by decide) (by unfold xr; omega) (by unfold xr; omega) (fun c16 => (by exfalso; omega)) (fun c16 => ?_)
      refine x_aload_n (dT U_X11_goUp 13 rfl) rfl ?_
      refine x_iload (dT U_X11_goUp 14 rfl) rfl ?_
      refine x_ialoadv (2) (dT U_X11_goUp 15 rfl) (hset_eq ht) t3 rfl (by rw [List.length_set, List.length_set, List.length_set, ll]; omega) (by rw [List.length_set, List.length_set, List.length_set, ll]; omega) (gset_e (by rw [List.length_set, List.length_set, ll]; omega)) ?_
      refine x_invokestatic (rc' := rc) (rs' := rs) (rc2 := 0) (rs2 := 0) (As := [_]) (st := _) M_X11_sealed_ K_X11_231 (dT U_X11_goUp 16 rfl) rfl rfl rfl rfl (Nat.le_of_ble_eq_true rfl) rfl (by decide) (Nat.le_of_ble_eq_true rfl) rfl rfl ?_
      have b2 := wq_b (i := i) (v := v) (a := a) (b := b) (c := c) hi hv ha hb hc 2
      refine S_sealedP (x := (wq i v a b c 2).1) (y := (wq i v a b c 2).2) b2.1 b2.2 ?_
      change xRet _ _ _ _ _ _ _ _ _ _ (.inl (some (vi (ws i v a b c 2)))) _ _
      refine xRet_some ?_
      refine x_istore (ls' := [some (.ref _), some (vi _), some (vi _), some (vi _), some (vi _), some (vi _), some (vi _), some (vi _), some (vi _)]) (dT U_X11_goUp 17 rfl) (by decide) rfl ?_
      refine x_iload (dT U_X11_goUp 18 rfl) rfl ?_
      refine x_if_ne (tgt := 37) (dT U_X11_goUp 19 rfl) (by decide) (by unfold xr; omega) (fun c30 => ?_) (fun c30 => (by exfalso; omega))
      refine x_iload (dT U_X11_goUp 22 rfl) rfl ?_
      refine x_iconst (dT U_X11_goUp 23 rfl) ?_
      refine x_icmp_ne (tgt := 48) (dT U_X11_goUp 24 rfl) (by decide) (by unfold xr; omega) (by unfold xr; omega) (fun c40 => ?_) (fun c40 => (by exfalso; omega))
      refine x_iload (dT U_X11_goUp 27 rfl) rfl ?_
      refine x_istore (ls' := [some (.ref _), some (vi _), some (vi _), some (vi _), some (vi _), some (vi _), some (vi _), some (vi _), some (vi _)]) (dT U_X11_goUp 28 rfl) (by decide) rfl ?_
      refine x_aload_n (dT U_X11_goUp 29 rfl) rfl ?_
      refine x_iload (dT U_X11_goUp 30 rfl) rfl ?_
      refine x_iconst (dT U_X11_goUp 31 rfl) ?_
      refine x_iadd (dT U_X11_goUp 32 rfl) ?_
      refine x_iload_n (dT U_X11_goUp 33 rfl) rfl ?_
      refine x_iload (dT U_X11_goUp 34 rfl) rfl ?_
      refine x_ishr (r := ((i / 2 ^ 2 : Nat) : Int)) (dT U_X11_goUp 35 rfl) (shr_ok (a := i) (s := 2) (by omega) (by omega)) ?_
      refine x_iconst (dT U_X11_goUp 36 rfl) ?_
      refine x_iand (r := ((i / 2 ^ 2 % 2 : Nat) : Int)) (dT U_X11_goUp 37 rfl) (and_ok (a := i / 2 ^ 2) (by omega)) ?_
      refine x_iconst (dT U_X11_goUp 38 rfl) ?_
      refine x_icmp_ne (tgt := 79) (dT U_X11_goUp 39 rfl) (by decide) (by unfold xr; omega) (by unfold xr; omega) (fun c64 => ?_) (fun c64 => ?_)
      · skip
        refine x_sipush (dT U_X11_goUp 46 rfl) (by decide) ?_
        refine x_iload (dT U_X11_goUp 47 rfl) rfl ?_
        refine x_imul (dT U_X11_goUp 48 rfl) ?_
        refine x_iload (dT U_X11_goUp 49 rfl) rfl ?_
        refine x_iadd (dT U_X11_goUp 50 rfl) ?_
        first | rw [show 251 * c + (ws i v a b c 2) = (WN i v a b c 3) from WN_r (k := 2) (by omega)] | rw [show 251 * (ws i v a b c 2) + c = (WN i v a b c 3) from WN_l (k := 2) (by omega)]
        refine x_iastore (3) (dT U_X11_goUp 51 rfl) (hset_eq ht) t3 rfl (by rw [List.length_set, List.length_set, List.length_set, ll]; omega) (by rw [List.length_set, List.length_set, List.length_set, ll]; omega) ?_
        rw [List.set_set]
        refine x_iinc (ls' := [some (.ref _), some (vi _), some (vi _), some (vi _), some (vi _), some (vi _), some (vi _), some (vi _), some (vi _)]) (dT U_X11_goUp 52 rfl) (by decide) rfl rfl ?_
        refine x_goto (tgt := 13) (dT U_X11_goUp 53 rfl) (by decide) ?_
        refine x_iload (dT U_X11_goUp 10 rfl) rfl ?_
        refine x_iconst (dT U_X11_goUp 11 rfl) ?_
        refine x_icmp_ge (tgt := 95) (dT U_X11_goUp 12 rfl) (by decide) (by unfold xr; omega) (by unfold xr; omega) (fun c16 => ?_) (fun c16 => (by exfalso; omega))
        refine x_aload_n (dT U_X11_goUp 54 rfl) rfl ?_
        refine x_iconst (dT U_X11_goUp 55 rfl) ?_
        refine x_aload_n (dT U_X11_goUp 56 rfl) rfl ?_
        refine x_iconst (dT U_X11_goUp 57 rfl) ?_
        refine x_ialoadv (3) (dT U_X11_goUp 58 rfl) (hset_eq ht) t3 rfl (by rw [List.length_set, List.length_set, List.length_set, List.length_set, ll]; omega) (by rw [List.length_set, List.length_set, List.length_set, List.length_set, ll]; omega) (gset_e (by rw [List.length_set, List.length_set, List.length_set, ll]; omega)) ?_
        refine x_invokestatic (rc' := rc) (rs' := rs) (rc2 := 0) (rs2 := 0) (As := [_]) (st := _) M_X11_sealed_ K_X11_231 (dT U_X11_goUp 59 rfl) rfl rfl rfl rfl (Nat.le_of_ble_eq_true rfl) rfl (by decide) (Nat.le_of_ble_eq_true rfl) rfl rfl ?_
        have b3 := wq_b (i := i) (v := v) (a := a) (b := b) (c := c) hi hv ha hb hc 3
        refine S_sealedP (x := (wq i v a b c 3).1) (y := (wq i v a b c 3).2) b3.1 b3.2 ?_
        change xRet _ _ _ _ _ _ _ _ _ _ (.inl (some (vi (ws i v a b c 3)))) _ _
        have g0 : (((((l.set 0 (WN i v a b c 0)).set 1 (WN i v a b c 1)).set 2 (WN i v a b c 2)).set 3 (WN i v a b c 3)).set 4 (ws i v a b c 3)).getD 0 0 = (WN i v a b c 0) := by rw [gset_n (by omega), gset_n (by omega), gset_n (by omega), gset_n (by omega)]; exact gset_e (by rw [ll]; omega)
        have g1 : (((((l.set 0 (WN i v a b c 0)).set 1 (WN i v a b c 1)).set 2 (WN i v a b c 2)).set 3 (WN i v a b c 3)).set 4 (ws i v a b c 3)).getD 1 0 = (WN i v a b c 1) := by rw [gset_n (by omega), gset_n (by omega), gset_n (by omega)]; exact gset_e (by rw [List.length_set, ll]; omega)
        have g2 : (((((l.set 0 (WN i v a b c 0)).set 1 (WN i v a b c 1)).set 2 (WN i v a b c 2)).set 3 (WN i v a b c 3)).set 4 (ws i v a b c 3)).getD 2 0 = (WN i v a b c 2) := by rw [gset_n (by omega), gset_n (by omega)]; exact gset_e (by rw [List.length_set, List.length_set, ll]; omega)
        have g3 : (((((l.set 0 (WN i v a b c 0)).set 1 (WN i v a b c 1)).set 2 (WN i v a b c 2)).set 3 (WN i v a b c 3)).set 4 (ws i v a b c 3)).getD 3 0 = (WN i v a b c 3) := by rw [gset_n (by omega)]; exact gset_e (by rw [List.length_set, List.length_set, List.length_set, ll]; omega)
        refine xRet_some ?_
        refine x_iastore (4) (dT U_X11_goUp 60 rfl) (hset_eq ht) t3 rfl (by rw [List.length_set, List.length_set, List.length_set, List.length_set, ll]; omega) (by rw [List.length_set, List.length_set, List.length_set, List.length_set, ll]; omega) ?_
        rw [List.set_set]
        refine x_return (dT U_X11_goUp 61 rfl) rfl ?_
        exact k _ (by rw [List.length_set, List.length_set, List.length_set, List.length_set, List.length_set]; exact ll) g0 g1 g2 g3 (gset_e (by rw [List.length_set, List.length_set, List.length_set, List.length_set, ll]; omega))
      · skip
        refine x_sipush (dT U_X11_goUp 40 rfl) (by decide) ?_
        refine x_iload (dT U_X11_goUp 41 rfl) rfl ?_
        refine x_imul (dT U_X11_goUp 42 rfl) ?_
        refine x_iload (dT U_X11_goUp 43 rfl) rfl ?_
        refine x_iadd (dT U_X11_goUp 44 rfl) ?_
        refine x_goto (tgt := 88) (dT U_X11_goUp 45 rfl) (by decide) ?_
        first | rw [show 251 * c + (ws i v a b c 2) = (WN i v a b c 3) from WN_r (k := 2) (by omega)] | rw [show 251 * (ws i v a b c 2) + c = (WN i v a b c 3) from WN_l (k := 2) (by omega)]
        refine x_iastore (3) (dT U_X11_goUp 51 rfl) (hset_eq ht) t3 rfl (by rw [List.length_set, List.length_set, List.length_set, ll]; omega) (by rw [List.length_set, List.length_set, List.length_set, ll]; omega) ?_
        rw [List.set_set]
        refine x_iinc (ls' := [some (.ref _), some (vi _), some (vi _), some (vi _), some (vi _), some (vi _), some (vi _), some (vi _), some (vi _)]) (dT U_X11_goUp 52 rfl) (by decide) rfl rfl ?_
        refine x_goto (tgt := 13) (dT U_X11_goUp 53 rfl) (by decide) ?_
        refine x_iload (dT U_X11_goUp 10 rfl) rfl ?_
        refine x_iconst (dT U_X11_goUp 11 rfl) ?_
        refine x_icmp_ge (tgt := 95) (dT U_X11_goUp 12 rfl) (by decide) (by unfold xr; omega) (by unfold xr; omega) (fun c16 => ?_) (fun c16 => (by exfalso; omega))
        refine x_aload_n (dT U_X11_goUp 54 rfl) rfl ?_
        refine x_iconst (dT U_X11_goUp 55 rfl) ?_
        refine x_aload_n (dT U_X11_goUp 56 rfl) rfl ?_
        refine x_iconst (dT U_X11_goUp 57 rfl) ?_
        refine x_ialoadv (3) (dT U_X11_goUp 58 rfl) (hset_eq ht) t3 rfl (by rw [List.length_set, List.length_set, List.length_set, List.length_set, ll]; omega) (by rw [List.length_set, List.length_set, List.length_set, List.length_set, ll]; omega) (gset_e (by rw [List.length_set, List.length_set, List.length_set, ll]; omega)) ?_
        refine x_invokestatic (rc' := rc) (rs' := rs) (rc2 := 0) (rs2 := 0) (As := [_]) (st := _) M_X11_sealed_ K_X11_231 (dT U_X11_goUp 59 rfl) rfl rfl rfl rfl (Nat.le_of_ble_eq_true rfl) rfl (by decide) (Nat.le_of_ble_eq_true rfl) rfl rfl ?_
        have b3 := wq_b (i := i) (v := v) (a := a) (b := b) (c := c) hi hv ha hb hc 3
        refine S_sealedP (x := (wq i v a b c 3).1) (y := (wq i v a b c 3).2) b3.1 b3.2 ?_
        change xRet _ _ _ _ _ _ _ _ _ _ (.inl (some (vi (ws i v a b c 3)))) _ _
        have g0 : (((((l.set 0 (WN i v a b c 0)).set 1 (WN i v a b c 1)).set 2 (WN i v a b c 2)).set 3 (WN i v a b c 3)).set 4 (ws i v a b c 3)).getD 0 0 = (WN i v a b c 0) := by rw [gset_n (by omega), gset_n (by omega), gset_n (by omega), gset_n (by omega)]; exact gset_e (by rw [ll]; omega)
        have g1 : (((((l.set 0 (WN i v a b c 0)).set 1 (WN i v a b c 1)).set 2 (WN i v a b c 2)).set 3 (WN i v a b c 3)).set 4 (ws i v a b c 3)).getD 1 0 = (WN i v a b c 1) := by rw [gset_n (by omega), gset_n (by omega), gset_n (by omega)]; exact gset_e (by rw [List.length_set, ll]; omega)
        have g2 : (((((l.set 0 (WN i v a b c 0)).set 1 (WN i v a b c 1)).set 2 (WN i v a b c 2)).set 3 (WN i v a b c 3)).set 4 (ws i v a b c 3)).getD 2 0 = (WN i v a b c 2) := by rw [gset_n (by omega), gset_n (by omega)]; exact gset_e (by rw [List.length_set, List.length_set, ll]; omega)
        have g3 : (((((l.set 0 (WN i v a b c 0)).set 1 (WN i v a b c 1)).set 2 (WN i v a b c 2)).set 3 (WN i v a b c 3)).set 4 (ws i v a b c 3)).getD 3 0 = (WN i v a b c 3) := by rw [gset_n (by omega)]; exact gset_e (by rw [List.length_set, List.length_set, List.length_set, ll]; omega)
        refine xRet_some ?_
        refine x_iastore (4) (dT U_X11_goUp 60 rfl) (hset_eq ht) t3 rfl (by rw [List.length_set, List.length_set, List.length_set, List.length_set, ll]; omega) (by rw [List.length_set, List.length_set, List.length_set, List.length_set, ll]; omega) ?_
        rw [List.set_set]
        refine x_return (dT U_X11_goUp 61 rfl) rfl ?_
        exact k _ (by rw [List.length_set, List.length_set, List.length_set, List.length_set, List.length_set]; exact ll) g0 g1 g2 g3 (gset_e (by rw [List.length_set, List.length_set, List.length_set, List.length_set, ll]; omega))
  · skip
    refine x_sipush (dT U_X11_goUp 40 rfl) (by decide) ?_
    refine x_iload (dT U_X11_goUp 41 rfl) rfl ?_
    refine x_imul (dT U_X11_goUp 42 rfl) ?_
    refine x_iload (dT U_X11_goUp 43 rfl) rfl ?_
    refine x_iadd (dT U_X11_goUp 44 rfl) ?_
    refine x_goto (tgt := 88) (dT U_X11_goUp 45 rfl) (by decide) ?_
    first | rw [show 251 * a + (ws i v a b c 0) = (WN i v a b c 1) from WN_r (k := 0) (by omega)] | rw [show 251 * (ws i v a b c 0) + a = (WN i v a b c 1) from WN_l (k := 0) (by omega)]
    refine x_iastore (1) (dT U_X11_goUp 51 rfl) (hset_eq ht) t3 rfl (by rw [List.length_set, ll]; omega) (by rw [List.length_set, ll]; omega) ?_
    rw [List.set_set]
    refine x_iinc (ls' := [some (.ref _), some (vi _), some (vi _), some (vi _), some (vi _), some (vi _), some (vi _), some (vi _), some (vi _)]) (dT U_X11_goUp 52 rfl) (by decide) rfl rfl ?_
    refine x_goto (tgt := 13) (dT U_X11_goUp 53 rfl) (by decide) ?_
    refine x_iload (dT U_X11_goUp 10 rfl) rfl ?_
    refine x_iconst (dT U_X11_goUp 11 rfl) ?_
    refine x_icmp_ge (tgt := 95) (dT U_X11_goUp 12 rfl) (by decide) (by unfold xr; omega) (by unfold xr; omega) (fun c16 => (by exfalso; omega)) (fun c16 => ?_)
    refine x_aload_n (dT U_X11_goUp 13 rfl) rfl ?_
    refine x_iload (dT U_X11_goUp 14 rfl) rfl ?_
    refine x_ialoadv (1) (dT U_X11_goUp 15 rfl) (hset_eq ht) t3 rfl (by rw [List.length_set, List.length_set, ll]; omega) (by rw [List.length_set, List.length_set, ll]; omega) (gset_e (by rw [List.length_set, ll]; omega)) ?_
    refine x_invokestatic (rc' := rc) (rs' := rs) (rc2 := 0) (rs2 := 0) (As := [_]) (st := _) M_X11_sealed_ K_X11_231 (dT U_X11_goUp 16 rfl) rfl rfl rfl rfl (Nat.le_of_ble_eq_true rfl) rfl (by decide) (Nat.le_of_ble_eq_true rfl) rfl rfl ?_
    have b1 := wq_b (i := i) (v := v) (a := a) (b := b) (c := c) hi hv ha hb hc 1
    refine S_sealedP (x := (wq i v a b c 1).1) (y := (wq i v a b c 1).2) b1.1 b1.2 ?_
    change xRet _ _ _ _ _ _ _ _ _ _ (.inl (some (vi (ws i v a b c 1)))) _ _
    refine xRet_some ?_
    refine x_istore (ls' := [some (.ref _), some (vi _), some (vi _), some (vi _), some (vi _), some (vi _), some (vi _), some (vi _), some (vi _)]) (dT U_X11_goUp 17 rfl) (by decide) rfl ?_
    refine x_iload (dT U_X11_goUp 18 rfl) rfl ?_
    refine x_if_nej (tgt := 37) (dT U_X11_goUp 19 rfl) (by decide) (by decide) ?_
    refine x_iload (dT U_X11_goUp 22 rfl) rfl ?_
    refine x_iconst (dT U_X11_goUp 23 rfl) ?_
    refine x_icmp_ne (tgt := 48) (dT U_X11_goUp 24 rfl) (by decide) (by unfold xr; omega) (by unfold xr; omega) (fun c40 => (by exfalso; omega)) (fun c40 => ?_)
    refine x_iload (dT U_X11_goUp 25 rfl) rfl ?_
    refine x_goto (tgt := 50) (dT U_X11_goUp 26 rfl) (by decide) ?_
    refine x_istore (ls' := [some (.ref _), some (vi _), some (vi _), some (vi _), some (vi _), some (vi _), some (vi _), some (vi _), some (vi _)]) (dT U_X11_goUp 28 rfl) (by decide) rfl ?_
    refine x_aload_n (dT U_X11_goUp 29 rfl) rfl ?_
    refine x_iload (dT U_X11_goUp 30 rfl) rfl ?_
    refine x_iconst (dT U_X11_goUp 31 rfl) ?_
    refine x_iadd (dT U_X11_goUp 32 rfl) ?_
    refine x_iload_n (dT U_X11_goUp 33 rfl) rfl ?_
    refine x_iload (dT U_X11_goUp 34 rfl) rfl ?_
    refine x_ishr (r := ((i / 2 ^ 1 : Nat) : Int)) (dT U_X11_goUp 35 rfl) (shr_ok (a := i) (s := 1) (by omega) (by omega)) ?_
    refine x_iconst (dT U_X11_goUp 36 rfl) ?_
    refine x_iand (r := ((i / 2 ^ 1 % 2 : Nat) : Int)) (dT U_X11_goUp 37 rfl) (and_ok (a := i / 2 ^ 1) (by omega)) ?_
    refine x_iconst (dT U_X11_goUp 38 rfl) ?_
    refine x_icmp_ne (tgt := 79) (dT U_X11_goUp 39 rfl) (by decide) (by unfold xr; omega) (by unfold xr; omega) (fun c64 => ?_) (fun c64 => ?_)
    · skip
      refine x_sipush (dT U_X11_goUp 46 rfl) (by decide) ?_
      refine x_iload (dT U_X11_goUp 47 rfl) rfl ?_
      refine x_imul (dT U_X11_goUp 48 rfl) ?_
      refine x_iload (dT U_X11_goUp 49 rfl) rfl ?_
      refine x_iadd (dT U_X11_goUp 50 rfl) ?_
      first | rw [show 251 * b + (ws i v a b c 1) = (WN i v a b c 2) from WN_r (k := 1) (by omega)] | rw [show 251 * (ws i v a b c 1) + b = (WN i v a b c 2) from WN_l (k := 1) (by omega)]
      refine x_iastore (2) (dT U_X11_goUp 51 rfl) (hset_eq ht) t3 rfl (by rw [List.length_set, List.length_set, ll]; omega) (by rw [List.length_set, List.length_set, ll]; omega) ?_
      rw [List.set_set]
      refine x_iinc (ls' := [some (.ref _), some (vi _), some (vi _), some (vi _), some (vi _), some (vi _), some (vi _), some (vi _), some (vi _)]) (dT U_X11_goUp 52 rfl) (by decide) rfl rfl ?_
      refine x_goto (tgt := 13) (dT U_X11_goUp 53 rfl) (by decide) ?_
      refine x_iload (dT U_X11_goUp 10 rfl) rfl ?_
      refine x_iconst (dT U_X11_goUp 11 rfl) ?_
      refine x_icmp_ge (tgt := 95) (dT U_X11_goUp 12 rfl) (by decide) (by unfold xr; omega) (by unfold xr; omega) (fun c16 => (by exfalso; omega)) (fun c16 => ?_)
      refine x_aload_n (dT U_X11_goUp 13 rfl) rfl ?_
      refine x_iload (dT U_X11_goUp 14 rfl) rfl ?_
      refine x_ialoadv (2) (dT U_X11_goUp 15 rfl) (hset_eq ht) t3 rfl (by rw [List.length_set, List.length_set, List.length_set, ll]; omega) (by rw [List.length_set, List.length_set, List.length_set, ll]; omega) (gset_e (by rw [List.length_set, List.length_set, ll]; omega)) ?_
      refine x_invokestatic (rc' := rc) (rs' := rs) (rc2 := 0) (rs2 := 0) (As := [_]) (st := _) M_X11_sealed_ K_X11_231 (dT U_X11_goUp 16 rfl) rfl rfl rfl rfl (Nat.le_of_ble_eq_true rfl) rfl (by decide) (Nat.le_of_ble_eq_true rfl) rfl rfl ?_
      have b2 := wq_b (i := i) (v := v) (a := a) (b := b) (c := c) hi hv ha hb hc 2
      refine S_sealedP (x := (wq i v a b c 2).1) (y := (wq i v a b c 2).2) b2.1 b2.2 ?_
      change xRet _ _ _ _ _ _ _ _ _ _ (.inl (some (vi (ws i v a b c 2)))) _ _
      refine xRet_some ?_
      refine x_istore (ls' := [some (.ref _), some (vi _), some (vi _), some (vi _), some (vi _), some (vi _), some (vi _), some (vi _), some (vi _)]) (dT U_X11_goUp 17 rfl) (by decide) rfl ?_
      refine x_iload (dT U_X11_goUp 18 rfl) rfl ?_
      refine x_if_ne (tgt := 37) (dT U_X11_goUp 19 rfl) (by decide) (by unfold xr; omega) (fun c30 => ?_) (fun c30 => (by exfalso; omega))
      refine x_iload (dT U_X11_goUp 22 rfl) rfl ?_
      refine x_iconst (dT U_X11_goUp 23 rfl) ?_
      refine x_icmp_ne (tgt := 48) (dT U_X11_goUp 24 rfl) (by decide) (by unfold xr; omega) (by unfold xr; omega) (fun c40 => ?_) (fun c40 => (by exfalso; omega))
      refine x_iload (dT U_X11_goUp 27 rfl) rfl ?_
      refine x_istore (ls' := [some (.ref _), some (vi _), some (vi _), some (vi _), some (vi _), some (vi _), some (vi _), some (vi _), some (vi _)]) (dT U_X11_goUp 28 rfl) (by decide) rfl ?_
      refine x_aload_n (dT U_X11_goUp 29 rfl) rfl ?_
      refine x_iload (dT U_X11_goUp 30 rfl) rfl ?_
      refine x_iconst (dT U_X11_goUp 31 rfl) ?_
      refine x_iadd (dT U_X11_goUp 32 rfl) ?_
      refine x_iload_n (dT U_X11_goUp 33 rfl) rfl ?_
      refine x_iload (dT U_X11_goUp 34 rfl) rfl ?_
      refine x_ishr (r := ((i / 2 ^ 2 : Nat) : Int)) (dT U_X11_goUp 35 rfl) (shr_ok (a := i) (s := 2) (by omega) (by omega)) ?_
      refine x_iconst (dT U_X11_goUp 36 rfl) ?_
      refine x_iand (r := ((i / 2 ^ 2 % 2 : Nat) : Int)) (dT U_X11_goUp 37 rfl) (and_ok (a := i / 2 ^ 2) (by omega)) ?_
      refine x_iconst (dT U_X11_goUp 38 rfl) ?_
      refine x_icmp_ne (tgt := 79) (dT U_X11_goUp 39 rfl) (by decide) (by unfold xr; omega) (by unfold xr; omega) (fun c64 => ?_) (fun c64 => ?_)
      · skip
        refine x_sipush (dT U_X11_goUp 46 rfl) (by decide) ?_
        refine x_iload (dT U_X11_goUp 47 rfl) rfl ?_
        refine x_imul (dT U_X11_goUp 48 rfl) ?_
        refine x_iload (dT U_X11_goUp 49 rfl) rfl ?_
        refine x_iadd (dT U_X11_goUp 50 rfl) ?_
        first | rw [show 251 * c + (ws i v a b c 2) = (WN i v a b c 3) from WN_r (k := 2) (by omega)] | rw [show 251 * (ws i v a b c 2) + c = (WN i v a b c 3) from WN_l (k := 2) (by omega)]
        refine x_iastore (3) (dT U_X11_goUp 51 rfl) (hset_eq ht) t3 rfl (by rw [List.length_set, List.length_set, List.length_set, ll]; omega) (by rw [List.length_set, List.length_set, List.length_set, ll]; omega) ?_
        rw [List.set_set]
        refine x_iinc (ls' := [some (.ref _), some (vi _), some (vi _), some (vi _), some (vi _), some (vi _), some (vi _), some (vi _), some (vi _)]) (dT U_X11_goUp 52 rfl) (by decide) rfl rfl ?_
        refine x_goto (tgt := 13) (dT U_X11_goUp 53 rfl) (by decide) ?_
        refine x_iload (dT U_X11_goUp 10 rfl) rfl ?_
        refine x_iconst (dT U_X11_goUp 11 rfl) ?_
        refine x_icmp_ge (tgt := 95) (dT U_X11_goUp 12 rfl) (by decide) (by unfold xr; omega) (by unfold xr; omega) (fun c16 => ?_) (fun c16 => (by exfalso; omega))
        refine x_aload_n (dT U_X11_goUp 54 rfl) rfl ?_
        refine x_iconst (dT U_X11_goUp 55 rfl) ?_
        refine x_aload_n (dT U_X11_goUp 56 rfl) rfl ?_
        refine x_iconst (dT U_X11_goUp 57 rfl) ?_
        refine x_ialoadv (3) (dT U_X11_goUp 58 rfl) (hset_eq ht) t3 rfl (by rw [List.length_set, List.length_set, List.length_set, List.length_set, ll]; omega) (by rw [List.length_set, List.length_set, List.length_set, List.length_set, ll]; omega) (gset_e (by rw [List.length_set, List.length_set, List.length_set, ll]; omega)) ?_
        refine x_invokestatic (rc' := rc) (rs' := rs) (rc2 := 0) (rs2 := 0) (As := [_]) (st := _) M_X11_sealed_ K_X11_231 (dT U_X11_goUp 59 rfl) rfl rfl rfl rfl (Nat.le_of_ble_eq_true rfl) rfl (by decide) (Nat.le_of_ble_eq_true rfl) rfl rfl ?_
        have b3 := wq_b (i := i) (v := v) (a := a) (b := b) (c := c) hi hv ha hb hc 3
        refine S_sealedP (x := (wq i v a b c 3).1) (y := (wq i v a b c 3).2) b3.1 b3.2 ?_
        change xRet _ _ _ _ _ _ _ _ _ _ (.inl (some (vi (ws i v a b c 3)))) _ _
        have g0 : (((((l.set 0 (WN i v a b c 0)).set 1 (WN i v a b c 1)).set 2 (WN i v a b c 2)).set 3 (WN i v a b c 3)).set 4 (ws i v a b c 3)).getD 0 0 = (WN i v a b c 0) := by rw [gset_n (by omega), gset_n (by omega), gset_n (by omega), gset_n (by omega)]; exact gset_e (by rw [ll]; omega)
        have g1 : (((((l.set 0 (WN i v a b c 0)).set 1 (WN i v a b c 1)).set 2 (WN i v a b c 2)).set 3 (WN i v a b c 3)).set 4 (ws i v a b c 3)).getD 1 0 = (WN i v a b c 1) := by rw [gset_n (by omega), gset_n (by omega), gset_n (by omega)]; exact gset_e (by rw [List.length_set, ll]; omega)
        have g2 : (((((l.set 0 (WN i v a b c 0)).set 1 (WN i v a b c 1)).set 2 (WN i v a b c 2)).set 3 (WN i v a b c 3)).set 4 (ws i v a b c 3)).getD 2 0 = (WN i v a b c 2) := by rw [gset_n (by omega), gset_n (by omega)]; exact gset_e (by rw [List.length_set, List.length_set, ll]; omega)
        have g3 : (((((l.set 0 (WN i v a b c 0)).set 1 (WN i v a b c 1)).set 2 (WN i v a b c 2)).set 3 (WN i v a b c 3)).set 4 (ws i v a b c 3)).getD 3 0 = (WN i v a b c 3) := by rw [gset_n (by omega)]; exact gset_e (by rw [List.length_set, List.length_set, List.length_set, ll]; omega)
        refine xRet_some ?_
        refine x_iastore (4) (dT U_X11_goUp 60 rfl) (hset_eq ht) t3 rfl (by rw [List.length_set, List.length_set, List.length_set, List.length_set, ll]; omega) (by rw [List.length_set, List.length_set, List.length_set, List.length_set, ll]; omega) ?_
        rw [List.set_set]
        refine x_return (dT U_X11_goUp 61 rfl) rfl ?_
        exact k _ (by rw [List.length_set, List.length_set, List.length_set, List.length_set, List.length_set]; exact ll) g0 g1 g2 g3 (gset_e (by rw [List.length_set, List.length_set, List.length_set, List.length_set, ll]; omega))
      · skip
        refine x_sipush (dT U_X11_goUp 40 rfl) (by decide) ?_
        refine x_iload (dT U_X11_goUp 41 rfl) rfl ?_
        refine x_imul (dT U_X11_goUp 42 rfl) ?_
        refine x_iload (dT U_X11_goUp 43 rfl) rfl ?_
        refine x_iadd (dT U_X11_goUp 44 rfl) ?_
        refine x_goto (tgt := 88) (dT U_X11_goUp 45 rfl) (by decide) ?_
        first | rw [show 251 * c + (ws i v a b c 2) = (WN i v a b c 3) from WN_r (k := 2) (by omega)] | rw [show 251 * (ws i v a b c 2) + c = (WN i v a b c 3) from WN_l (k := 2) (by omega)]
        refine x_iastore (3) (dT U_X11_goUp 51 rfl) (hset_eq ht) t3 rfl (by rw [List.length_set, List.length_set, List.length_set, ll]; omega) (by rw [List.length_set, List.length_set, List.length_set, ll]; omega) ?_
        rw [List.set_set]
        refine x_iinc (ls' := [some (.ref _), some (vi _), some (vi _), some (vi _), some (vi _), some (vi _), some (vi _), some (vi _), some (vi _)]) (dT U_X11_goUp 52 rfl) (by decide) rfl rfl ?_
        refine x_goto (tgt := 13) (dT U_X11_goUp 53 rfl) (by decide) ?_
        refine x_iload (dT U_X11_goUp 10 rfl) rfl ?_
        refine x_iconst (dT U_X11_goUp 11 rfl) ?_
        refine x_icmp_ge (tgt := 95) (dT U_X11_goUp 12 rfl) (by decide) (by unfold xr; omega) (by unfold xr; omega) (fun c16 => ?_) (fun c16 => (by exfalso; omega))
        refine x_aload_n (dT U_X11_goUp 54 rfl) rfl ?_
        refine x_iconst (dT U_X11_goUp 55 rfl) ?_
        refine x_aload_n (dT U_X11_goUp 56 rfl) rfl ?_
        refine x_iconst (dT U_X11_goUp 57 rfl) ?_
        refine x_ialoadv (3) (dT U_X11_goUp 58 rfl) (hset_eq ht) t3 rfl (by rw [List.length_set, List.length_set, List.length_set, List.length_set, ll]; omega) (by rw [List.length_set, List.length_set, List.length_set, List.length_set, ll]; omega) (gset_e (by rw [List.length_set, List.length_set, List.length_set, ll]; omega)) ?_
        refine x_invokestatic (rc' := rc) (rs' := rs) (rc2 := 0) (rs2 := 0) (As := [_]) (st := _) M_X11_sealed_ K_X11_231 (dT U_X11_goUp 59 rfl) rfl rfl rfl rfl (Nat.le_of_ble_eq_true rfl) rfl (by decide) (Nat.le_of_ble_eq_true rfl) rfl rfl ?_
        have b3 := wq_b (i := i) (v := v) (a := a) (b := b) (c := c) hi hv ha hb hc 3
        refine S_sealedP (x := (wq i v a b c 3).1) (y := (wq i v a b c 3).2) b3.1 b3.2 ?_
        change xRet _ _ _ _ _ _ _ _ _ _ (.inl (some (vi (ws i v a b c 3)))) _ _
        have g0 : (((((l.set 0 (WN i v a b c 0)).set 1 (WN i v a b c 1)).set 2 (WN i v a b c 2)).set 3 (WN i v a b c 3)).set 4 (ws i v a b c 3)).getD 0 0 = (WN i v a b c 0) := by rw [gset_n (by omega), gset_n (by omega), gset_n (by omega), gset_n (by omega)]; exact gset_e (by rw [ll]; omega)
        have g1 : (((((l.set 0 (WN i v a b c 0)).set 1 (WN i v a b c 1)).set 2 (WN i v a b c 2)).set 3 (WN i v a b c 3)).set 4 (ws i v a b c 3)).getD 1 0 = (WN i v a b c 1) := by rw [gset_n (by omega), gset_n (by omega), gset_n (by omega)]; exact gset_e (by rw [List.length_set, ll]; omega)
        have g2 : (((((l.set 0 (WN i v a b c 0)).set 1 (WN i v a b c 1)).set 2 (WN i v a b c 2)).set 3 (WN i v a b c 3)).set 4 (ws i v a b c 3)).getD 2 0 = (WN i v a b c 2) := by rw [gset_n (by omega), gset_n (by omega)]; exact gset_e (by rw [List.length_set, List.length_set, ll]; omega)
        have g3 : (((((l.set 0 (WN i v a b c 0)).set 1 (WN i v a b c 1)).set 2 (WN i v a b c 2)).set 3 (WN i v a b c 3)).set 4 (ws i v a b c 3)).getD 3 0 = (WN i v a b c 3) := by rw [gset_n (by omega)]; exact gset_e (by rw [List.length_set, List.length_set, List.length_set, ll]; omega)
        refine xRet_some ?_
        refine x_iastore (4) (dT U_X11_goUp 60 rfl) (hset_eq ht) t3 rfl (by rw [List.length_set, List.length_set, List.length_set, List.length_set, ll]; omega) (by rw [List.length_set, List.length_set, List.length_set, List.length_set, ll]; omega) ?_
        rw [List.set_set]
        refine x_return (dT U_X11_goUp 61 rfl) rfl ?_
        exact k _ (by rw [List.length_set, List.length_set, List.length_set, List.length_set, List.length_set]; exact ll) g0 g1 g2 g3 (gset_e (by rw [List.length_set, List.length_set, List.length_set, List.length_set, ll]; omega))
    · skip
      refine x_sipush (dT U_X11_goUp 40 rfl) (by decide) ?_
      refine x_iload (dT U_X11_goUp 41 rfl) rfl ?_
      refine x_imul (dT U_X11_goUp 42 rfl) ?_
      refine x_iload (dT U_X11_goUp 43 rfl) rfl ?_
      refine x_iadd (dT U_X11_goUp 44 rfl) ?_
      refine x_goto (tgt := 88) (dT U_X11_goUp 45 rfl) (by decide) ?_
      first | rw [show 251 * b + (ws i v a b c 1) = (WN i v a b c 2) from WN_r (k := 1) (by omega)] | rw [show 251 * (ws i v a b c 1) + b = (WN i v a b c 2) from WN_l (k := 1) (by omega)]
      refine x_iastore (2) (dT U_X11_goUp 51 rfl) (hset_eq ht) t3 rfl (by rw [List.length_set, List.length_set, ll]; omega) (by rw [List.length_set, List.length_set, ll]; omega) ?_
      rw [List.set_set]
      refine x_iinc (ls' := [some (.ref _), some (vi _), some (vi _), some (vi _), some (vi _), some (vi _), some (vi _), some (vi _), some (vi _)]) (dT U_X11_goUp 52 rfl) (by decide) rfl rfl ?_
      refine x_goto (tgt := 13) (dT U_X11_goUp 53 rfl) (by decide) ?_
      refine x_iload (dT U_X11_goUp 10 rfl) rfl ?_
      refine x_iconst (dT U_X11_goUp 11 rfl) ?_
      refine x_icmp_ge (tgt := 95) (dT U_X11_goUp 12 rfl) (by decide) (by unfold xr; omega) (by unfold xr; omega) (fun c16 => (by exfalso; omega)) (fun c16 => ?_)
      refine x_aload_n (dT U_X11_goUp 13 rfl) rfl ?_
      refine x_iload (dT U_X11_goUp 14 rfl) rfl ?_
      refine x_ialoadv (2) (dT U_X11_goUp 15 rfl) (hset_eq ht) t3 rfl (by rw [List.length_set, List.length_set, List.length_set, ll]; omega) (by rw [List.length_set, List.length_set, List.length_set, ll]; omega) (gset_e (by rw [List.length_set, List.length_set, ll]; omega)) ?_
      refine x_invokestatic (rc' := rc) (rs' := rs) (rc2 := 0) (rs2 := 0) (As := [_]) (st := _) M_X11_sealed_ K_X11_231 (dT U_X11_goUp 16 rfl) rfl rfl rfl rfl (Nat.le_of_ble_eq_true rfl) rfl (by decide) (Nat.le_of_ble_eq_true rfl) rfl rfl ?_
      have b2 := wq_b (i := i) (v := v) (a := a) (b := b) (c := c) hi hv ha hb hc 2
      refine S_sealedP (x := (wq i v a b c 2).1) (y := (wq i v a b c 2).2) b2.1 b2.2 ?_
      change xRet _ _ _ _ _ _ _ _ _ _ (.inl (some (vi (ws i v a b c 2)))) _ _
      refine xRet_some ?_
      refine x_istore (ls' := [some (.ref _), some (vi _), some (vi _), some (vi _), some (vi _), some (vi _), some (vi _), some (vi _), some (vi _)]) (dT U_X11_goUp 17 rfl) (by decide) rfl ?_
      refine x_iload (dT U_X11_goUp 18 rfl) rfl ?_
      refine x_if_ne (tgt := 37) (dT U_X11_goUp 19 rfl) (by decide) (by unfold xr; omega) (fun c30 => ?_) (fun c30 => (by exfalso; omega))
      refine x_iload (dT U_X11_goUp 22 rfl) rfl ?_
      refine x_iconst (dT U_X11_goUp 23 rfl) ?_
      refine x_icmp_ne (tgt := 48) (dT U_X11_goUp 24 rfl) (by decide) (by unfold xr; omega) (by unfold xr; omega) (fun c40 => ?_) (fun c40 => (by exfalso; omega))
      refine x_iload (dT U_X11_goUp 27 rfl) rfl ?_
      refine x_istore (ls' := [some (.ref _), some (vi _), some (vi _), some (vi _), some (vi _), some (vi _), some (vi _), some (vi _), some (vi _)]) (dT U_X11_goUp 28 rfl) (by decide) rfl ?_
      refine x_aload_n (dT U_X11_goUp 29 rfl) rfl ?_
      refine x_iload (dT U_X11_goUp 30 rfl) rfl ?_
      refine x_iconst (dT U_X11_goUp 31 rfl) ?_
      refine x_iadd (dT U_X11_goUp 32 rfl) ?_
      refine x_iload_n (dT U_X11_goUp 33 rfl) rfl ?_
      refine x_iload (dT U_X11_goUp 34 rfl) rfl ?_
      refine x_ishr (r := ((i / 2 ^ 2 : Nat) : Int)) (dT U_X11_goUp 35 rfl) (shr_ok (a := i) (s := 2) (by omega) (by omega)) ?_
      refine x_iconst (dT U_X11_goUp 36 rfl) ?_
      refine x_iand (r := ((i / 2 ^ 2 % 2 : Nat) : Int)) (dT U_X11_goUp 37 rfl) (and_ok (a := i / 2 ^ 2) (by omega)) ?_
      refine x_iconst (dT U_X11_goUp 38 rfl) ?_
      refine x_icmp_ne (tgt := 79) (dT U_X11_goUp 39 rfl) (by decide) (by unfold xr; omega) (by unfold xr; omega) (fun c64 => ?_) (fun c64 => ?_)
      · skip
        refine x_sipush (dT U_X11_goUp 46 rfl) (by decide) ?_
        refine x_iload (dT U_X11_goUp 47 rfl) rfl ?_
        refine x_imul (dT U_X11_goUp 48 rfl) ?_
        refine x_iload (dT U_X11_goUp 49 rfl) rfl ?_
        refine x_iadd (dT U_X11_goUp 50 rfl) ?_
        first | rw [show 251 * c + (ws i v a b c 2) = (WN i v a b c 3) from WN_r (k := 2) (by omega)] | rw [show 251 * (ws i v a b c 2) + c = (WN i v a b c 3) from WN_l (k := 2) (by omega)]
        refine x_iastore (3) (dT U_X11_goUp 51 rfl) (hset_eq ht) t3 rfl (by rw [List.length_set, List.length_set, List.length_set, ll]; omega) (by rw [List.length_set, List.length_set, List.length_set, ll]; omega) ?_
        rw [List.set_set]
        refine x_iinc (ls' := [some (.ref _), some (vi _), some (vi _), some (vi _), some (vi _), some (vi _), some (vi _), some (vi _), some (vi _)]) (dT U_X11_goUp 52 rfl) (by decide) rfl rfl ?_
        refine x_goto (tgt := 13) (dT U_X11_goUp 53 rfl) (by decide) ?_
        refine x_iload (dT U_X11_goUp 10 rfl) rfl ?_
        refine x_iconst (dT U_X11_goUp 11 rfl) ?_
        refine x_icmp_ge (tgt := 95) (dT U_X11_goUp 12 rfl) (by decide) (by unfold xr; omega) (by unfold xr; omega) (fun c16 => ?_) (fun c16 => (by exfalso; omega))
        refine x_aload_n (dT U_X11_goUp 54 rfl) rfl ?_
        refine x_iconst (dT U_X11_goUp 55 rfl) ?_
        refine x_aload_n (dT U_X11_goUp 56 rfl) rfl ?_
        refine x_iconst (dT U_X11_goUp 57 rfl) ?_
        refine x_ialoadv (3) (dT U_X11_goUp 58 rfl) (hset_eq ht) t3 rfl (by rw [List.length_set, List.length_set, List.length_set, List.length_set, ll]; omega) (by rw [List.length_set, List.length_set, List.length_set, List.length_set, ll]; omega) (gset_e (by rw [List.length_set, List.length_set, List.length_set, ll]; omega)) ?_
        refine x_invokestatic (rc' := rc) (rs' := rs) (rc2 := 0) (rs2 := 0) (As := [_]) (st := _) M_X11_sealed_ K_X11_231 (dT U_X11_goUp 59 rfl) rfl rfl rfl rfl (Nat.le_of_ble_eq_true rfl) rfl (by decide) (Nat.le_of_ble_eq_true rfl) rfl rfl ?_
        have b3 := wq_b (i := i) (v := v) (a := a) (b := b) (c := c) hi hv ha hb hc 3
        refine S_sealedP (x := (wq i v a b c 3).1) (y := (wq i v a b c 3).2) b3.1 b3.2 ?_
        change xRet _ _ _ _ _ _ _ _ _ _ (.inl (some (vi (ws i v a b c 3)))) _ _
        have g0 : (((((l.set 0 (WN i v a b c 0)).set 1 (WN i v a b c 1)).set 2 (WN i v a b c 2)).set 3 (WN i v a b c 3)).set 4 (ws i v a b c 3)).getD 0 0 = (WN i v a b c 0) := by rw [gset_n (by omega), gset_n (by omega), gset_n (by omega), gset_n (by omega)]; exact gset_e (by rw [ll]; omega)
        have g1 : (((((l.set 0 (WN i v a b c 0)).set 1 (WN i v a b c 1)).set 2 (WN i v a b c 2)).set 3 (WN i v a b c 3)).set 4 (ws i v a b c 3)).getD 1 0 = (WN i v a b c 1) := by rw [gset_n (by omega), gset_n (by omega), gset_n (by omega)]; exact gset_e (by rw [List.length_set, ll]; omega)
        have g2 : (((((l.set 0 (WN i v a b c 0)).set 1 (WN i v a b c 1)).set 2 (WN i v a b c 2)).set 3 (WN i v a b c 3)).set 4 (ws i v a b c 3)).getD 2 0 = (WN i v a b c 2) := by rw [gset_n (by omega), gset_n (by omega)]; exact gset_e (by rw [List.length_set, List.length_set, ll]; omega)
        have g3 : (((((l.set 0 (WN i v a b c 0)).set 1 (WN i v a b c 1)).set 2 (WN i v a b c 2)).set 3 (WN i v a b c 3)).set 4 (ws i v a b c 3)).getD 3 0 = (WN i v a b c 3) := by rw [gset_n (by omega)]; exact gset_e (by rw [List.length_set, List.length_set, List.length_set, ll]; omega)
        refine xRet_some ?_
        refine x_iastore (4) (dT U_X11_goUp 60 rfl) (hset_eq ht) t3 rfl (by rw [List.length_set, List.length_set, List.length_set, List.length_set, ll]; omega) (by rw [List.length_set, List.length_set, List.length_set, List.length_set, ll]; omega) ?_
        rw [List.set_set]
        refine x_return (dT U_X11_goUp 61 rfl) rfl ?_
        exact k _ (by rw [List.length_set, List.length_set, List.length_set, List.length_set, List.length_set]; exact ll) g0 g1 g2 g3 (gset_e (by rw [List.length_set, List.length_set, List.length_set, List.length_set, ll]; omega))
      · skip
        refine x_sipush (dT U_X11_goUp 40 rfl) (by decide) ?_
        refine x_iload (dT U_X11_goUp 41 rfl) rfl ?_
        refine x_imul (dT U_X11_goUp 42 rfl) ?_
        refine x_iload (dT U_X11_goUp 43 rfl) rfl ?_
        refine x_iadd (dT U_X11_goUp 44 rfl) ?_
        refine x_goto (tgt := 88) (dT U_X11_goUp 45 rfl) (by decide) ?_
        first | rw [show 251 * c + (ws i v a b c 2) = (WN i v a b c 3) from WN_r (k := 2) (by omega)] | rw [show 251 * (ws i v a b c 2) + c = (WN i v a b c 3) from WN_l (k := 2) (by omega)]
        refine x_iastore (3) (dT U_X11_goUp 51 rfl) (hset_eq ht) t3 rfl (by rw [List.length_set, List.length_set, List.length_set, ll]; omega) (by rw [List.length_set, List.length_set, List.length_set, ll]; omega) ?_
        rw [List.set_set]
        refine x_iinc (ls' := [some (.ref _), some (vi _), some (vi _), some (vi _), some (vi _), some (vi _), some (vi _), some (vi _), some (vi _)]) (dT U_X11_goUp 52 rfl) (by decide) rfl rfl ?_
        refine x_goto (tgt := 13) (dT U_X11_goUp 53 rfl) (by decide) ?_
        refine x_iload (dT U_X11_goUp 10 rfl) rfl ?_
        refine x_iconst (dT U_X11_goUp 11 rfl) ?_
        refine x_icmp_ge (tgt := 95) (dT U_X11_goUp 12 rfl) (by decide) (by unfold xr; omega) (by unfold xr; omega) (fun c16 => ?_) (fun c16 => (by exfalso; omega))
        refine x_aload_n (dT U_X11_goUp 54 rfl) rfl ?_
        refine x_iconst (dT U_X11_goUp 55 rfl) ?_
        refine x_aload_n (dT U_X11_goUp 56 rfl) rfl ?_
        refine x_iconst (dT U_X11_goUp 57 rfl) ?_
        refine x_ialoadv (3) (dT U_X11_goUp 58 rfl) (hset_eq ht) t3 rfl (by rw [List.length_set, List.length_set, List.length_set, List.length_set, ll]; omega) (by rw [List.length_set, List.length_set, List.length_set, List.length_set, ll]; omega) (gset_e (by rw [List.length_set, List.length_set, List.length_set, ll]; omega)) ?_
        refine x_invokestatic (rc' := rc) (rs' := rs) (rc2 := 0) (rs2 := 0) (As := [_]) (st := _) M_X11_sealed_ K_X11_231 (dT U_X11_goUp 59 rfl) rfl rfl rfl rfl (Nat.le_of_ble_eq_true rfl) rfl (by decide) (Nat.le_of_ble_eq_true rfl) rfl rfl ?_
        have b3 := wq_b (i := i) (v := v) (a := a) (b := b) (c := c) hi hv ha hb hc 3
        refine S_sealedP (x := (wq i v a b c 3).1) (y := (wq i v a b c 3).2) b3.1 b3.2 ?_
        change xRet _ _ _ _ _ _ _ _ _ _ (.inl (some (vi (ws i v a b c 3)))) _ _
        have g0 : (((((l.set 0 (WN i v a b c 0)).set 1 (WN i v a b c 1)).set 2 (WN i v a b c 2)).set 3 (WN i v a b c 3)).set 4 (ws i v a b c 3)).getD 0 0 = (WN i v a b c 0) := by rw [gset_n (by omega), gset_n (by omega), gset_n (by omega), gset_n (by omega)]; exact gset_e (by rw [ll]; omega)
        have g1 : (((((l.set 0 (WN i v a b c 0)).set 1 (WN i v a b c 1)).set 2 (WN i v a b c 2)).set 3 (WN i v a b c 3)).set 4 (ws i v a b c 3)).getD 1 0 = (WN i v a b c 1) := by rw [gset_n (by omega), gset_n (by omega), gset_n (by omega)]; exact gset_e (by rw [List.length_set, ll]; omega)
        have g2 : (((((l.set 0 (WN i v a b c 0)).set 1 (WN i v a b c 1)).set 2 (WN i v a b c 2)).set 3 (WN i v a b c 3)).set 4 (ws i v a b c 3)).getD 2 0 = (WN i v a b c 2) := by rw [gset_n (by omega), gset_n (by omega)]; exact gset_e (by rw [List.length_set, List.length_set, ll]; omega)
        have g3 : (((((l.set 0 (WN i v a b c 0)).set 1 (WN i v a b c 1)).set 2 (WN i v a b c 2)).set 3 (WN i v a b c 3)).set 4 (ws i v a b c 3)).getD 3 0 = (WN i v a b c 3) := by rw [gset_n (by omega)]; exact gset_e (by rw [List.length_set, List.length_set, List.length_set, ll]; omega)
        refine xRet_some ?_
        refine x_iastore (4) (dT U_X11_goUp 60 rfl) (hset_eq ht) t3 rfl (by rw [List.length_set, List.length_set, List.length_set, List.length_set, ll]; omega) (by rw [List.length_set, List.length_set, List.length_set, List.length_set, ll]; omega) ?_
        rw [List.set_set]
        refine x_return (dT U_X11_goUp 61 rfl) rfl ?_
        exact k _ (by rw [List.length_set, List.length_set, List.length_set, List.length_set, List.length_set]; exact ll) g0 g1 g2 g3 (gset_e (by rw [List.length_set, List.length_set, List.length_set, List.length_set, ll]; omega))

set_option maxRecDepth 20000 in
set_option maxHeartbeats 1000000 in
theorem S_X11_isWay {G : xG} {d rc rs : Nat} {ex : Bool} {h : xH} {Q : xQ} {p : Nat} {value a b c : Int} (w : MP p h) (hp5 : p ∈ PR) (h_value : xr value) (h_a : xr a) (h_b : xr b) (h_c : xr c) (k1 : inb value p ∧ inb a 251 ∧ inb b 251 ∧ inb c 251 → Q (.inl (some (vi 1))) ex h) (k0 : ¬ (inb value p ∧ inb a 251 ∧ inb b 251 ∧ inb c 251) → Q (.inl (some (vi 0))) ex h) : X G m_X11_isWay (d + 2) rc rs ex 0 (xe m_X11_isWay.2.2.1 [.ref 70, vi value, vi a, vi b, vi c]) [] h Q := by
  show X G m_X11_isWay _ _ _ _ 0 [some (.ref 70), some (vi value), some (vi a), some (vi b), some (vi c)] [] h Q
  have hp := PRb hp5
  obtain ⟨c_, gc_, gb_, rr_, gcl_, ss_, gz_, go_, nc_, w70⟩ := id w
  refine x_aload_n (dT U_X11_isWay 0 rfl) rfl ?_
  refine x_iload_n (dT U_X11_isWay 1 rfl) rfl ?_
  refine x_invokevirtual (rc' := rc) (rs' := rs) (rc2 := 0) (rs2 := 0) (As := [_]) (st := _) M_X11_isNumber K_X11_174 (dT U_X11_isWay 2 rfl) rfl rfl (by decide) rfl rfl w70 (Nat.le_of_ble_eq_true rfl) (by decide) rfl (Nat.le_of_ble_eq_true rfl) rfl (by decide) (Nat.le_of_ble_eq_true rfl) rfl rfl ?_
  refine S_X11_isNumber w hp5 h_value (fun q1 => ?_) (fun q1 => ?_)
  · refine xRet_some ?_
    refine x_if_eqn (tgt := 34) (dT U_X11_isWay 3 rfl) (by decide) (by decide) ?_
    refine x_iload_n (dT U_X11_isWay 4 rfl) rfl ?_
    refine x_invokestatic (rc' := rc) (rs' := rs) (rc2 := 0) (rs2 := 0) (As := [_]) (st := _) M_X11_isSeal K_X11_227 (dT U_X11_isWay 5 rfl) rfl rfl rfl rfl (Nat.le_of_ble_eq_true rfl) rfl (by decide) (Nat.le_of_ble_eq_true rfl) rfl rfl ?_
    refine S_X11_isSeal h_a (fun q1 => ?_) (fun q1 => ?_)
    · refine xRet_some ?_
      refine x_if_eqn (tgt := 34) (dT U_X11_isWay 6 rfl) (by decide) (by decide) ?_
      refine x_iload_n (dT U_X11_isWay 7 rfl) rfl ?_
      refine x_invokestatic (rc' := rc) (rs' := rs) (rc2 := 0) (rs2 := 0) (As := [_]) (st := _) M_X11_isSeal K_X11_227 (dT U_X11_isWay 8 rfl) rfl rfl rfl rfl (Nat.le_of_ble_eq_true rfl) rfl (by decide) (Nat.le_of_ble_eq_true rfl) rfl rfl ?_
      refine S_X11_isSeal h_b (fun q2 => ?_) (fun q2 => ?_)
      · refine xRet_some ?_
        refine x_if_eqn (tgt := 34) (dT U_X11_isWay 9 rfl) (by decide) (by decide) ?_
        refine x_iload (dT U_X11_isWay 10 rfl) rfl ?_
        refine x_invokestatic (rc' := rc) (rs' := rs) (rc2 := 0) (rs2 := 0) (As := [_]) (st := _) M_X11_isSeal K_X11_227 (dT U_X11_isWay 11 rfl) rfl rfl rfl rfl (Nat.le_of_ble_eq_true rfl) rfl (by decide) (Nat.le_of_ble_eq_true rfl) rfl rfl ?_
        refine S_X11_isSeal h_c (fun q3 => ?_) (fun q3 => ?_)
        · refine xRet_some ?_
          refine x_if_eqn (tgt := 34) (dT U_X11_isWay 12 rfl) (by decide) (by decide) ?_
          refine x_iconst (dT U_X11_isWay 13 rfl) ?_
          refine x_goto (tgt := 35) (dT U_X11_isWay 14 rfl) (by decide) ?_
          refine x_zreturn (dT U_X11_isWay 16 rfl) rfl (by omega) ?_
          first | exact k1 (by omega) | exact k0 (by omega)
        · refine xRet_some ?_
          refine x_if_eqj (tgt := 34) (dT U_X11_isWay 12 rfl) (by decide) (by decide) ?_
          refine x_iconst (dT U_X11_isWay 15 rfl) ?_
          refine x_zreturn (dT U_X11_isWay 16 rfl) rfl (by omega) ?_
          first | exact k1 (by omega) | exact k0 (by omega)
      · refine xRet_some ?_
        refine x_if_eqj (tgt := 34) (dT U_X11_isWay 9 rfl) (by decide) (by decide) ?_
        refine x_iconst (dT U_X11_isWay 15 rfl) ?_
        refine x_zreturn (dT U_X11_isWay 16 rfl) rfl (by omega) ?_
        first | exact k1 (by omega) | exact k0 (by omega)
    · refine xRet_some ?_
      refine x_if_eqj (tgt := 34) (dT U_X11_isWay 6 rfl) (by decide) (by decide) ?_
      refine x_iconst (dT U_X11_isWay 15 rfl) ?_
      refine x_zreturn (dT U_X11_isWay 16 rfl) rfl (by omega) ?_
      first | exact k1 (by omega) | exact k0 (by omega)
  · refine xRet_some ?_
    refine x_if_eqj (tgt := 34) (dT U_X11_isWay 3 rfl) (by decide) (by decide) ?_
    refine x_iconst (dT U_X11_isWay 15 rfl) ?_
    refine x_zreturn (dT U_X11_isWay 16 rfl) rfl (by omega) ?_
    first | exact k1 (by omega) | exact k0 (by omega)

set_option maxRecDepth 20000 in
set_option maxHeartbeats 1000000 in
theorem S_X11_climb {G : xG} {d rc rs : Nat} {ex : Bool} {h : xH} {Q : xQ} {σ : St} {cc0 : Int} {rr : Nat} {ss : Int} {place value a b c : Int} (w : MX σ cc0 rr ss h) (v : INV σ) (h_place : xr place) (h_value : xr value) (h_a : xr a) (h_b : xr b) (h_c : xr c) (e1 : ¬ (inb place 8) → ∀ h2 z, Ag 70 142 h h2 → MX σ 1 rr ss h2 → xr z → Q (.inl (some (vi z))) ex h2) (e2 : (inb place 8) → ¬ ((inb value σ.p ∧ inb a 251 ∧ inb b 251 ∧ inb c 251)) → ∀ h2 z, Ag 70 142 h h2 → MX σ 2 rr ss h2 → xr z → Q (.inl (some (vi z))) ex h2) (k : (inb place 8) → ((inb value σ.p ∧ inb a 251 ∧ inb b 251 ∧ inb c 251)) → ∀ h2 r2 s2, Ag 70 142 h h2 → MX σ 0 r2 s2 h2 → Q (.inl (some (vi (ws place.toNat value a b c 3)))) ex h2) : X G m_X11_climb (d + 3) rc rs ex 0 (xe m_X11_climb.2.2.1 [.ref 70, vi place, vi value, vi a, vi b, vi c]) [] h Q := by
  show X G m_X11_climb _ _ _ _ 0 [some (.ref 70), some (vi place), some (vi value), some (vi a), some (vi b), some (vi c)] [] h Q
  have hp := PRb v.p
  have hq := gq_b v.p
  refine x_aload_n (dT U_X11_climb 0 rfl) rfl ?_
  refine x_iload_n (dT U_X11_climb 1 rfl) rfl ?_
  refine x_invokestatic (rc' := rc) (rs' := rs) (rc2 := 0) (rs2 := 0) (As := [_]) (st := _) M_X11_isRow K_X11_164 (dT U_X11_climb 2 rfl) rfl rfl rfl rfl (Nat.le_of_ble_eq_true rfl) rfl (by decide) (Nat.le_of_ble_eq_true rfl) rfl rfl ?_
  refine S_X11_isRow h_place (fun q1 => ?_) (fun q1 => ?_)
  · refine xRet_some ?_
    refine x_iconst (dT U_X11_climb 3 rfl) ?_
    refine x_invokevirtual (rc' := rc) (rs' := rs) (rc2 := 0) (rs2 := 0) (As := [_, _]) (st := _) M_X11_lets K_X11_167 (dT U_X11_climb 4 rfl) rfl rfl (by decide) rfl rfl w.c70 (Nat.le_of_ble_eq_true rfl) (by decide) rfl (Nat.le_of_ble_eq_true rfl) rfl (by decide) (Nat.le_of_ble_eq_true rfl) rfl rfl ?_
    refine S_X11_lets1 w (fun h1 g1 w1 => ?_)
    refine xRet_some ?_
    obtain ⟨j, hj, rfl⟩ : ∃ j : Nat, j < 8 ∧ place = (j : Int) := ⟨place.toNat, by omega, by omega⟩
    try simp only [tnc] at e1 e2 k
    refine x_if_eqn (tgt := 30) (dT U_X11_climb 5 rfl) (by decide) (by decide) ?_
    refine x_aload_n (dT U_X11_climb 6 rfl) rfl ?_
    refine x_aload_n (dT U_X11_climb 7 rfl) rfl ?_
    refine x_iload_n (dT U_X11_climb 8 rfl) rfl ?_
    refine x_iload_n (dT U_X11_climb 9 rfl) rfl ?_
    refine x_iload (dT U_X11_climb 10 rfl) rfl ?_
    refine x_iload (dT U_X11_climb 11 rfl) rfl ?_
    refine x_invokevirtual (rc' := rc) (rs' := rs) (rc2 := 0) (rs2 := 0) (As := [_, _, _, _]) (st := _) M_X11_isWay K_X11_236 (dT U_X11_climb 12 rfl) rfl rfl (by decide) rfl rfl w1.c70 (Nat.le_of_ble_eq_true rfl) (by decide) rfl (Nat.le_of_ble_eq_true rfl) rfl (by decide) (Nat.le_of_ble_eq_true rfl) rfl rfl ?_
    refine S_X11_isWay (w1.mp) v.p h_value h_a h_b h_c (fun q2 => ?_) (fun q2 => ?_)
    · refine xRet_some ?_
      refine x_iconst (dT U_X11_climb 13 rfl) ?_
      refine x_invokevirtual (rc' := rc) (rs' := rs) (rc2 := 0) (rs2 := 0) (As := [_, _]) (st := _) M_X11_lets K_X11_167 (dT U_X11_climb 14 rfl) rfl rfl (by decide) rfl rfl w1.c70 (Nat.le_of_ble_eq_true rfl) (by decide) rfl (Nat.le_of_ble_eq_true rfl) rfl (by decide) (Nat.le_of_ble_eq_true rfl) rfl rfl ?_
      refine S_X11_lets1 w1 (fun h2 g2 w2 => ?_)
      refine xRet_some ?_
      refine x_if_nej (tgt := 32) (dT U_X11_climb 15 rfl) (by decide) (by decide) ?_
      refine x_aload_n (dT U_X11_climb 18 rfl) rfl ?_
      refine x_getfield F_X11_109 (dT U_X11_climb 19 rfl) w2.c70 (Nat.le_of_ble_eq_true rfl) rfl ?_
      refine x_iload_n (dT U_X11_climb 20 rfl) rfl ?_
      refine x_iload_n (dT U_X11_climb 21 rfl) rfl ?_
      refine x_iload_n (dT U_X11_climb 22 rfl) rfl ?_
      refine x_iload (dT U_X11_climb 23 rfl) rfl ?_
      refine x_iload (dT U_X11_climb 24 rfl) rfl ?_
      refine x_invokestatic (rc' := rc) (rs' := rs) (rc2 := 0) (rs2 := 0) (As := [_, _, _, _, _, _]) (st := _) M_X11_goUp K_X11_240 (dT U_X11_climb 25 rfl) rfl rfl rfl rfl (Nat.le_of_ble_eq_true rfl) rfl (by decide) (Nat.le_of_ble_eq_true rfl) rfl rfl ?_
      obtain ⟨y0, hy, ly⟩ := w2.s140
      refine S_X11_goUp (hy) (by omega) ly hj (by omega) (by omega) (by omega) (by omega) (fun y2 my yg0 yg1 yg2 yg3 yg4 => ?_)
      refine xRet_none ?_
      refine x_aload_n (dT U_X11_climb 26 rfl) rfl ?_
      refine x_getfield F_X11_109 (dT U_X11_climb 27 rfl) (hset_ne (by omega) (w2.c70)) (Nat.le_of_ble_eq_true rfl) rfl ?_
      refine x_iconst (dT U_X11_climb 28 rfl) ?_
      refine x_ialoadv (4) (dT U_X11_climb 29 rfl) (hset_eq hy) (Nat.le_of_ble_eq_true rfl) rfl (by omega) (by omega) yg4 ?_
      refine x_ireturn (dT U_X11_climb 30 rfl) rfl ?_
      exact k (by omega) (by omega) _ _ _ ((Ag.tr (Ag.tr (Ag.rf 70 142 h) (g1.w (by omega))) (g2.w (by omega))).set (by omega)) (w2.t140 (fun a ha => by rw [hset_fr (by omega)]) (hset_eq hy) my)
    · refine xRet_some ?_
      refine x_iconst (dT U_X11_climb 13 rfl) ?_
      refine x_invokevirtual (rc' := rc) (rs' := rs) (rc2 := 0) (rs2 := 0) (As := [_, _]) (st := _) M_X11_lets K_X11_167 (dT U_X11_climb 14 rfl) rfl rfl (by decide) rfl rfl w1.c70 (Nat.le_of_ble_eq_true rfl) (by decide) rfl (Nat.le_of_ble_eq_true rfl) rfl (by decide) (Nat.le_of_ble_eq_true rfl) rfl rfl ?_
      refine S_X11_lets0 w1 (fun h2 g2 w2 => ?_)
      refine xRet_some ?_
      refine x_if_nen (tgt := 32) (dT U_X11_climb 15 rfl) (by decide) (by decide) ?_
      refine x_iconst (dT U_X11_climb 16 rfl) ?_
      refine x_ireturn (dT U_X11_climb 17 rfl) rfl ?_
      exact e2 (by omega) (by omega) _ _ (Ag.tr (Ag.tr (Ag.rf 70 142 h) (g1.w (by omega))) (g2.w (by omega))) w2 (by unfold xr; omega)
  · refine xRet_some ?_
    refine x_iconst (dT U_X11_climb 3 rfl) ?_
    refine x_invokevirtual (rc' := rc) (rs' := rs) (rc2 := 0) (rs2 := 0) (As := [_, _]) (st := _) M_X11_lets K_X11_167 (dT U_X11_climb 4 rfl) rfl rfl (by decide) rfl rfl w.c70 (Nat.le_of_ble_eq_true rfl) (by decide) rfl (Nat.le_of_ble_eq_true rfl) rfl (by decide) (Nat.le_of_ble_eq_true rfl) rfl rfl ?_
    refine S_X11_lets0 w (fun h1 g1 w1 => ?_)
    refine xRet_some ?_
    refine x_if_eqj (tgt := 30) (dT U_X11_climb 5 rfl) (by decide) (by decide) ?_
    refine x_iconst (dT U_X11_climb 16 rfl) ?_
    refine x_ireturn (dT U_X11_climb 17 rfl) rfl ?_
    exact e1 (by omega) _ _ (Ag.tr (Ag.rf 70 142 h) (g1.w (by omega))) w1 (by unfold xr; omega)

set_option maxRecDepth 20000 in
set_option maxHeartbeats 1000000 in
theorem S_X11_parts {G : xG} {d rc rs : Nat} {ex : Bool} {h : xH} {Q : xQ} {σ : St} {cc0 : Int} {rr : Nat} {ss : Int} {place value a b c value2 a2 b2 c2 : Int} (w : MX σ cc0 rr ss h) (v : INV σ) (h_place : xr place) (h_value : xr value) (h_a : xr a) (h_b : xr b) (h_c : xr c) (h_value2 : xr value2) (h_a2 : xr a2) (h_b2 : xr b2) (h_c2 : xr c2) (e1 : ¬ (inb place 8) → ∀ h2 z, Ag 70 142 h h2 → MX σ 1 rr ss h2 → xr z → Q (.inl (some (vi z))) ex h2) (e2 : (inb place 8) → ¬ ((inb value σ.p ∧ inb a 251 ∧ inb b 251 ∧ inb c 251) ∧ (inb value2 σ.p ∧ inb a2 251 ∧ inb b2 251 ∧ inb c2 251)) → ∀ h2 z, Ag 70 142 h h2 → MX σ 2 rr ss h2 → xr z → Q (.inl (some (vi z))) ex h2) (k : (inb place 8) → ((inb value σ.p ∧ inb a 251 ∧ inb b 251 ∧ inb c 251) ∧ (inb value2 σ.p ∧ inb a2 251 ∧ inb b2 251 ∧ inb c2 251)) → ∀ h2 r2 s2, Ag 70 142 h h2 → MX σ 0 r2 s2 h2 → Q (.inl (some (vi (if ws place.toNat value a b c 3 = ws place.toNat value2 a2 b2 c2 3 then ff (fun j => ws place.toNat value a b c j = ws place.toNat value2 a2 b2 c2 j ∧ ¬ ((wq place.toNat value a b c j).1 = (wq place.toNat value2 a2 b2 c2 j).1 ∧ (wq place.toNat value a b c j).2 = (wq place.toNat value2 a2 b2 c2 j).2)) 0 4 else -1)))) ex h2) : X G m_X11_parts (d + 3) rc rs ex 0 (xe m_X11_parts.2.2.1 [.ref 70, vi place, vi value, vi a, vi b, vi c, vi value2, vi a2, vi b2, vi c2]) [] h Q := by
  show X G m_X11_parts _ _ _ _ 0 [some (.ref 70), some (vi place), some (vi value), some (vi a), some (vi b), some (vi c), some (vi value2), some (vi a2), some (vi b2), some (vi c2), none] [] h Q
  have hp := PRb v.p
  have hq := gq_b v.p
  refine x_aload_n (dT U_X11_parts 0 rfl) rfl ?_
  refine x_iload_n (dT U_X11_parts 1 rfl) rfl ?_
  refine x_invokestatic (rc' := rc) (rs' := rs) (rc2 := 0) (rs2 := 0) (As := [_]) (st := _) M_X11_isRow K_X11_164 (dT U_X11_parts 2 rfl) rfl rfl rfl rfl (Nat.le_of_ble_eq_true rfl) rfl (by decide) (Nat.le_of_ble_eq_true rfl) rfl rfl ?_
  refine S_X11_isRow h_place (fun q1 => ?_) (fun q1 => ?_)
  · refine xRet_some ?_
    refine x_iconst (dT U_X11_parts 3 rfl) ?_
    refine x_invokevirtual (rc' := rc) (rs' := rs) (rc2 := 0) (rs2 := 0) (As := [_, _]) (st := _) M_X11_lets K_X11_167 (dT U_X11_parts 4 rfl) rfl rfl (by decide) rfl rfl w.c70 (Nat.le_of_ble_eq_true rfl) (by decide) rfl (Nat.le_of_ble_eq_true rfl) rfl (by decide) (Nat.le_of_ble_eq_true rfl) rfl rfl ?_
    refine S_X11_lets1 w (fun h1 g1 w1 => ?_)
    refine xRet_some ?_
    obtain ⟨j, hj, rfl⟩ : ∃ j : Nat, j < 8 ∧ place = (j : Int) := ⟨place.toNat, by omega, by omega⟩
    try simp only [tnc] at e1 e2 k
    refine x_if_eqn (tgt := 53) (dT U_X11_parts 5 rfl) (by decide) (by decide) ?_
    refine x_aload_n (dT U_X11_parts 6 rfl) rfl ?_
    refine x_aload_n (dT U_X11_parts 7 rfl) rfl ?_
    refine x_iload_n (dT U_X11_parts 8 rfl) rfl ?_
    refine x_iload_n (dT U_X11_parts 9 rfl) rfl ?_
    refine x_iload (dT U_X11_parts 10 rfl) rfl ?_
    refine x_iload (dT U_X11_parts 11 rfl) rfl ?_
    refine x_invokevirtual (rc' := rc) (rs' := rs) (rc2 := 0) (rs2 := 0) (As := [_, _, _, _]) (st := _) M_X11_isWay K_X11_236 (dT U_X11_parts 12 rfl) rfl rfl (by decide) rfl rfl w1.c70 (Nat.le_of_ble_eq_true rfl) (by decide) rfl (Nat.le_of_ble_eq_true rfl) rfl (by decide) (Nat.le_of_ble_eq_true rfl) rfl rfl ?_
    refine S_X11_isWay (w1.mp) v.p h_value h_a h_b h_c (fun q2 => ?_) (fun q2 => ?_)
    · refine xRet_some ?_
      refine x_if_eqn (tgt := 45) (dT U_X11_parts 13 rfl) (by decide) (by decide) ?_
      refine x_aload_n (dT U_X11_parts 14 rfl) rfl ?_
      refine x_iload (dT U_X11_parts 15 rfl) rfl ?_
      refine x_iload (dT U_X11_parts 16 rfl) rfl ?_
      refine x_iload (dT U_X11_parts 17 rfl) rfl ?_
      refine x_iload (dT U_X11_parts 18 rfl) rfl ?_
      refine x_invokevirtual (rc' := rc) (rs' := rs) (rc2 := 0) (rs2 := 0) (As := [_, _, _, _]) (st := _) M_X11_isWay K_X11_236 (dT U_X11_parts 19 rfl) rfl rfl (by decide) rfl rfl w1.c70 (Nat.le_of_ble_eq_true rfl) (by decide) rfl (Nat.le_of_ble_eq_true rfl) rfl (by decide) (Nat.le_of_ble_eq_true rfl) rfl rfl ?_
      refine S_X11_isWay (w1.mp) v.p h_value2 h_a2 h_b2 h_c2 (fun q3 => ?_) (fun q3 => ?_)
      · refine xRet_some ?_
        refine x_if_eqn (tgt := 45) (dT U_X11_parts 20 rfl) (by decide) (by decide) ?_
        refine x_iconst (dT U_X11_parts 21 rfl) ?_
        refine x_goto (tgt := 46) (dT U_X11_parts 22 rfl) (by decide) ?_
        refine x_iconst (dT U_X11_parts 24 rfl) ?_
        refine x_invokevirtual (rc' := rc) (rs' := rs) (rc2 := 0) (rs2 := 0) (As := [_, _]) (st := _) M_X11_lets K_X11_167 (dT U_X11_parts 25 rfl) rfl rfl (by decide) rfl rfl w1.c70 (Nat.le_of_ble_eq_true rfl) (by decide) rfl (Nat.le_of_ble_eq_true rfl) rfl (by decide) (Nat.le_of_ble_eq_true rfl) rfl rfl ?_
        refine S_X11_lets1 w1 (fun h2 g2 w2 => ?_)
        refine xRet_some ?_
        refine x_if_nej (tgt := 55) (dT U_X11_parts 26 rfl) (by decide) (by decide) ?_
        refine x_aload_n (dT U_X11_parts 29 rfl) rfl ?_
        refine x_getfield F_X11_109 (dT U_X11_parts 30 rfl) w2.c70 (Nat.le_of_ble_eq_true rfl) rfl ?_
        refine x_iload_n (dT U_X11_parts 31 rfl) rfl ?_
        refine x_iload_n (dT U_X11_parts 32 rfl) rfl ?_
        refine x_iload_n (dT U_X11_parts 33 rfl) rfl ?_
        refine x_iload (dT U_X11_parts 34 rfl) rfl ?_
        refine x_iload (dT U_X11_parts 35 rfl) rfl ?_
        refine x_invokestatic (rc' := rc) (rs' := rs) (rc2 := 0) (rs2 := 0) (As := [_, _, _, _, _, _]) (st := _) M_X11_goUp K_X11_240 (dT U_X11_parts 36 rfl) rfl rfl rfl rfl (Nat.le_of_ble_eq_true rfl) rfl (by decide) (Nat.le_of_ble_eq_true rfl) rfl rfl ?_
        obtain ⟨y0, hy, ly⟩ := w2.s140
        refine S_X11_goUp (hy) (by omega) ly hj (by omega) (by omega) (by omega) (by omega) (fun y2 my yg0 yg1 yg2 yg3 yg4 => ?_)
        refine xRet_none ?_
        refine x_aload_n (dT U_X11_parts 37 rfl) rfl ?_
        refine x_getfield F_X11_112 (dT U_X11_parts 38 rfl) (hset_ne (by omega) (w2.c70)) (Nat.le_of_ble_eq_true rfl) rfl ?_
        refine x_iload_n (dT U_X11_parts 39 rfl) rfl ?_
        refine x_iload (dT U_X11_parts 40 rfl) rfl ?_
        refine x_iload (dT U_X11_parts 41 rfl) rfl ?_
        refine x_iload (dT U_X11_parts 42 rfl) rfl ?_
        refine x_iload (dT U_X11_parts 43 rfl) rfl ?_
        refine x_invokestatic (rc' := rc) (rs' := rs) (rc2 := 0) (rs2 := 0) (As := [_, _, _, _, _, _]) (st := _) M_X11_goUp K_X11_240 (dT U_X11_parts 44 rfl) rfl rfl rfl rfl (Nat.le_of_ble_eq_true rfl) rfl (by decide) (Nat.le_of_ble_eq_true rfl) rfl rfl ?_
        obtain ⟨z0, hz90, lz9⟩ := w2.s141
        have hz9 := hset_ne (a := 140) (c := cA 0 y2) (by omega) hz90
        refine S_X11_goUp hz9 (by omega) lz9 hj (by omega) (by omega) (by omega) (by omega) (fun z2 mz9 zg0 zg1 zg2 zg3 zg4 => ?_)
        refine xRet_none ?_
        refine x_iconst (dT U_X11_parts 45 rfl) ?_
        refine x_istore (ls' := [some (.ref _), some (vi _), some (vi _), some (vi _), some (vi _), some (vi _), some (vi _), some (vi _), some (vi _), some (vi _), some (vi _)]) (dT U_X11_parts 46 rfl) (by decide) rfl ?_
        refine x_iload (dT U_X11_parts 47 rfl) rfl ?_
        refine x_iconst (dT U_X11_parts 48 rfl) ?_
        refine x_icmp_ge (tgt := 158) (dT U_X11_parts 49 rfl) (by decide) (by unfold xr; omega) (by unfold xr; omega) (fun c91 => (by exfalso; omega)) (fun c91 => ?_)
        refine x_aload_n (dT U_X11_parts 50 rfl) rfl ?_
        refine x_getfield F_X11_109 (dT U_X11_parts 51 rfl) (hset_ne (by omega) (hset_ne (by omega) (w2.c70))) (Nat.le_of_ble_eq_true rfl) rfl ?_
        refine x_iconst (dT U_X11_parts 52 rfl) ?_
        refine x_ialoadv (4) (dT U_X11_parts 53 rfl) (hset_ne (by omega) (hset_eq hy)) (Nat.le_of_ble_eq_true rfl) rfl (by omega) (by omega) yg4 ?_
        refine x_aload_n (dT U_X11_parts 54 rfl) rfl ?_
        refine x_getfield F_X11_112 (dT U_X11_parts 55 rfl) (hset_ne (by omega) (hset_ne (by omega) (w2.c70))) (Nat.le_of_ble_eq_true rfl) rfl ?_
        refine x_iconst (dT U_X11_parts 56 rfl) ?_
        refine x_ialoadv (4) (dT U_X11_parts 57 rfl) (hset_eq hz9) (Nat.le_of_ble_eq_true rfl) rfl (by omega) (by omega) zg4 ?_
        have sA : 0 ≤ (ws j value a b c 3) ∧ (ws j value a b c 3) < 251 := sl_b _ _
        have sB : 0 ≤ (ws j value2 a2 b2 c2 3) ∧ (ws j value2 a2 b2 c2 3) < 251 := sl_b _ _
        refine x_icmp_ne (tgt := 158) (dT U_X11_parts 58 rfl) (by decide) (by unfold xr; omega) (by unfold xr; omega) (fun c106 => ?_) (fun c106 => ?_)
        · skip
          refine x_iconst (dT U_X11_parts 83 rfl) ?_
          refine x_ireturn (dT U_X11_parts 84 rfl) rfl ?_
          first
            | (rw [if_pos (show ws j value a b c 3 = ws j value2 a2 b2 c2 3 by omega), ff_y (P := (fun j9 => ws j value a b c j9 = ws j value2 a2 b2 c2 j9 ∧ ¬ ((wq j value a b c j9).1 = (wq j value2 a2 b2 c2 j9).1 ∧ (wq j value a b c j9).2 = (wq j value2 a2 b2 c2 j9).2))) yes0] at k; exact k (by omega) (by omega) _ _ _ (((Ag.tr (Ag.tr (Ag.rf 70 142 h) (g1.w (by omega))) (g2.w (by omega))).set (by omega)).set (by omega)) ((w2.t140 (h2 := List.set _ 140 (cA 0 y2)) (fun a ha => by rw [hset_fr (by omega)]) (hset_eq hy) my).t141 (fun a ha => by rw [hset_fr (by omega)]) (hset_eq hz9) mz9))
            | (rw [if_pos (show ws j value a b c 3 = ws j value2 a2 b2 c2 3 by omega), ff_n n0, ff_y (P := (fun j9 => ws j value a b c j9 = ws j value2 a2 b2 c2 j9 ∧ ¬ ((wq j value a b c j9).1 = (wq j value2 a2 b2 c2 j9).1 ∧ (wq j value a b c j9).2 = (wq j value2 a2 b2 c2 j9).2))) yes1] at k; exact k (by omega) (by omega) _ _ _ (((Ag.tr (Ag.tr (Ag.rf 70 142 h) (g1.w (by omega))) (g2.w (by omega))).set (by omega)).set (by omega)) ((w2.t140 (h2 := List.set _ 140 (cA 0 y2)) (fun a ha => by rw [hset_fr (by omega)]) (hset_eq hy) my).t141 (fun a ha => by rw [hset_fr (by omega)]) (hset_eq hz9) mz9))
            | (rw [if_pos (show ws j value a b c 3 = ws j value2 a2 b2 c2 3 by omega), ff_n n0, ff_n n1, ff_y (P := (fun j9 => ws j value a b c j9 = ws j value2 a2 b2 c2 j9 ∧ ¬ ((wq j value a b c j9).1 = (wq j value2 a2 b2 c2 j9).1 ∧ (wq j value a b c j9).2 = (wq j value2 a2 b2 c2 j9).2))) yes2] at k; exact k (by omega) (by omega) _ _ _ (((Ag.tr (Ag.tr (Ag.rf 70 142 h) (g1.w (by omega))) (g2.w (by omega))).set (by omega)).set (by omega)) ((w2.t140 (h2 := List.set _ 140 (cA 0 y2)) (fun a ha => by rw [hset_fr (by omega)]) (hset_eq hy) my).t141 (fun a ha => by rw [hset_fr (by omega)]) (hset_eq hz9) mz9))
            | (rw [if_pos (show ws j value a b c 3 = ws j value2 a2 b2 c2 3 by omega), ff_n n0, ff_n n1, ff_n n2, ff_y (P := (fun j9 => ws j value a b c j9 = ws j value2 a2 b2 c2 j9 ∧ ¬ ((wq j value a b c j9).1 = (wq j value2 a2 b2 c2 j9).1 ∧ (wq j value a b c j9).2 = (wq j value2 a2 b2 c2 j9).2))) yes3] at k; exact k (by omega) (by omega) _ _ _ (((Ag.tr (Ag.tr (Ag.rf 70 142 h) (g1.w (by omega))) (g2.w (by omega))).set (by omega)).set (by omega)) ((w2.t140 (h2 := List.set _ 140 (cA 0 y2)) (fun a ha => by rw [hset_fr (by omega)]) (hset_eq hy) my).t141 (fun a ha => by rw [hset_fr (by omega)]) (hset_eq hz9) mz9))
            | (rw [if_pos (show ws j value a b c 3 = ws j value2 a2 b2 c2 3 by omega), ff_n n0, ff_n n1, ff_n n2, ff_n n3] at k; exact k (by omega) (by omega) _ _ _ (((Ag.tr (Ag.tr (Ag.rf 70 142 h) (g1.w (by omega))) (g2.w (by omega))).set (by omega)).set (by omega)) ((w2.t140 (h2 := List.set _ 140 (cA 0 y2)) (fun a ha => by rw [hset_fr (by omega)]) (hset_eq hy) my).t141 (fun a ha => by rw [hset_fr (by omega)]) (hset_eq hz9) mz9))
            | (rw [if_neg (show ¬ ws j value a b c 3 = ws j value2 a2 b2 c2 3 by omega)] at k; exact k (by omega) (by omega) _ _ _ (((Ag.tr (Ag.tr (Ag.rf 70 142 h) (g1.w (by omega))) (g2.w (by omega))).set (by omega)).set (by omega)) ((w2.t140 (h2 := List.set _ 140 (cA 0 y2)) (fun a ha => by rw [hset_fr (by omega)]) (hset_eq hy) my).t141 (fun a ha => by rw [hset_fr (by omega)]) (hset_eq hz9) mz9))
        · skip
          refine x_aload_n (dT U_X11_parts 59 rfl) rfl ?_
          refine x_getfield F_X11_109 (dT U_X11_parts 60 rfl) (hset_ne (by omega) (hset_ne (by omega) (w2.c70))) (Nat.le_of_ble_eq_true rfl) rfl ?_
          refine x_iload (dT U_X11_parts 61 rfl) rfl ?_
          refine x_ialoadv (0) (dT U_X11_parts 62 rfl) (hset_ne (by omega) (hset_eq hy)) (Nat.le_of_ble_eq_true rfl) rfl (by omega) (by omega) yg0 ?_
          refine x_aload_n (dT U_X11_parts 63 rfl) rfl ?_
          refine x_getfield F_X11_112 (dT U_X11_parts 64 rfl) (hset_ne (by omega) (hset_ne (by omega) (w2.c70))) (Nat.le_of_ble_eq_true rfl) rfl ?_
          refine x_iload (dT U_X11_parts 65 rfl) rfl ?_
          refine x_ialoadv (0) (dT U_X11_parts 66 rfl) (hset_eq hz9) (Nat.le_of_ble_eq_true rfl) rfl (by omega) (by omega) zg0 ?_
          have ba0 := wq_b (i := j) (v := value) (a := a) (b := b) (c := c) hj (by omega) (by omega) (by omega) (by omega) 0
          have bb0 := wq_b (i := j) (v := value2) (a := a2) (b := b2) (c := c2) hj (by omega) (by omega) (by omega) (by omega) 0
          have ua0 : WN j value a b c 0 = 251 * (wq j value a b c 0).1 + (wq j value a b c 0).2 := rfl
          have ub0 : WN j value2 a2 b2 c2 0 = 251 * (wq j value2 a2 b2 c2 0).1 + (wq j value2 a2 b2 c2 0).2 := rfl
          refine x_icmp_eq (tgt := 152) (dT U_X11_parts 67 rfl) (by decide) (by unfold xr; omega) (by unfold xr; omega) (fun c123 => ?_) (fun c123 => ?_)
          · skip
            have n0 : ¬ (fun j9 => ws j value a b c j9 = ws j value2 a2 b2 c2 j9 ∧ ¬ ((wq j value a b c j9).1 = (wq j value2 a2 b2 c2 j9).1 ∧ (wq j value a b c j9).2 = (wq j value2 a2 b2 c2 j9).2)) 0 := fun z => z.2 (by omega)
            refine x_iinc (ls' := [some (.ref _), some (vi _), some (vi _), some (vi _), some (vi _), some (vi _), some (vi _), some (vi _), some (vi _), some (vi _), some (vi _)]) (dT U_X11_parts 81 rfl) (by decide) rfl rfl ?_
            refine x_goto (tgt := 88) (dT U_X11_parts 82 rfl) (by decide) ?_
            refine x_iload (dT U_X11_parts 47 rfl) rfl ?_
            refine x_iconst (dT U_X11_parts 48 rfl) ?_
            refine x_icmp_ge (tgt := 158) (dT U_X11_parts 49 rfl) (by decide) (by unfold xr; omega) (by unfold xr; omega) (fun c91 => (by exfalso; omega)) (fun c91 => ?_)
            refine x_aload_n (dT U_X11_parts 50 rfl) rfl ?_
            refine x_getfield F_X11_109 (dT U_X11_parts 51 rfl) (hset_ne (by omega) (hset_ne (by omega) (w2.c70))) (Nat.le_of_ble_eq_true rfl) rfl ?_
            refine x_iconst (dT U_X11_parts 52 rfl) ?_
            refine x_ialoadv (4) (dT U_X11_parts 53 rfl) (hset_ne (by omega) (hset_eq hy)) (Nat.le_of_ble_eq_true rfl) rfl (by omega) (by omega) yg4 ?_
            refine x_aload_n (dT U_X11_parts 54 rfl) rfl ?_
            refine x_getfield F_X11_112 (dT U_X11_parts 55 rfl) (hset_ne (by omega) (hset_ne (by omega) (w2.c70))) (Nat.le_of_ble_eq_true rfl) rfl ?_
            refine x_iconst (dT U_X11_parts 56 rfl) ?_
            refine x_ialoadv (4) (dT U_X11_parts 57 rfl) (hset_eq hz9) (Nat.le_of_ble_eq_true rfl) rfl (by omega) (by omega) zg4 ?_
            have sA : 0 ≤ (ws j value a b c 3) ∧ (ws j value a b c 3) < 251 := sl_b _ _
            have sB : 0 ≤ (ws j value2 a2 b2 c2 3) ∧ (ws j value2 a2 b2 c2 3) < 251 := sl_b _ _
            refine x_icmp_ne (tgt := 158) (dT U_X11_parts 58 rfl) (by decide) (by unfold xr; omega) (by unfold xr; omega) (fun c106 => ?_) (fun c106 => ?_)
            · skip
              refine x_iconst (dT U_X11_parts 83 rfl) ?_
              refine x_ireturn (dT U_X11_parts 84 rfl) rfl ?_
              first
                | (rw [if_pos (show ws j value a b c 3 = ws j value2 a2 b2 c2 3 by omega), ff_y (P := (fun j9 => ws j value a b c j9 = ws j value2 a2 b2 c2 j9 ∧ ¬ ((wq j value a b c j9).1 = (wq j value2 a2 b2 c2 j9).1 ∧ (wq j value a b c j9).2 = (wq j value2 a2 b2 c2 j9).2))) yes0] at k; exact k (by omega) (by omega) _ _ _ (((Ag.tr (Ag.tr (Ag.rf 70 142 h) (g1.w (by omega))) (g2.w (by omega))).set (by omega)).set (by omega)) ((w2.t140 (h2 := List.set _ 140 (cA 0 y2)) (fun a ha => by rw [hset_fr (by omega)]) (hset_eq hy) my).t141 (fun a ha => by rw [hset_fr (by omega)]) (hset_eq hz9) mz9))
                | (rw [if_pos (show ws j value a b c 3 = ws j value2 a2 b2 c2 3 by omega), ff_n n0, ff_y (P := (fun j9 => ws j value a b c j9 = ws j value2 a2 b2 c2 j9 ∧ ¬ ((wq j value a b c j9).1 = (wq j value2 a2 b2 c2 j9).1 ∧ (wq j value a b c j9).2 = (wq j value2 a2 b2 c2 j9).2))) yes1] at k; exact k (by omega) (by omega) _ _ _ (((Ag.tr (Ag.tr (Ag.rf 70 142 h) (g1.w (by omega))) (g2.w (by omega))).set (by omega)).set (by omega)) ((w2.t140 (h2 := List.set _ 140 (cA 0 y2)) (fun a ha => by rw [hset_fr (by omega)]) (hset_eq hy) my).t141 (fun a ha => by rw [hset_fr (by omega)]) (hset_eq hz9) mz9))
                | (rw [if_pos (show ws j value a b c 3 = ws j value2 a2 b2 c2 3 by omega), ff_n n0, ff_n n1, ff_y (P := (fun j9 => ws j value a b c j9 = ws j value2 a2 b2 c2 j9 ∧ ¬ ((wq j value a b c j9).1 = (wq j value2 a2 b2 c2 j9).1 ∧ (wq j value a b c j9).2 = (wq j value2 a2 b2 c2 j9).2))) yes2] at k; exact k (by omega) (by omega) _ _ _ (((Ag.tr (Ag.tr (Ag.rf 70 142 h) (g1.w (by omega))) (g2.w (by omega))).set (by omega)).set (by omega)) ((w2.t140 (h2 := List.set _ 140 (cA 0 y2)) (fun a ha => by rw [hset_fr (by omega)]) (hset_eq hy) my).t141 (fun a ha => by rw [hset_fr (by omega)]) (hset_eq hz9) mz9))
                | (rw [if_pos (show ws j value a b c 3 = ws j value2 a2 b2 c2 3 by omega), ff_n n0, ff_n n1, ff_n n2, ff_y (P := (fun j9 => ws j value a b c j9 = ws j value2 a2 b2 c2 j9 ∧ ¬ ((wq j value a b c j9).1 = (wq j value2 a2 b2 c2 j9).1 ∧ (wq j value a b c j9).2 = (wq j value2 a2 b2 c2 j9).2))) yes3] at k; exact k (by omega) (by omega) _ _ _ (((Ag.tr (Ag.tr (Ag.rf 70 142 h) (g1.w (by omega))) (g2.w (by omega))).set (by omega)).set (by omega)) ((w2.t140 (h2 := List.set _ 140 (cA 0 y2)) (fun a ha => by rw [hset_fr (by omega)]) (hset_eq hy) my).t141 (fun a ha => by rw [hset_fr (by omega)]) (hset_eq hz9) mz9))
                | (rw [if_pos (show ws j value a b c 3 = ws j value2 a2 b2 c2 3 by omega), ff_n n0, ff_n n1, ff_n n2, ff_n n3] at k; exact k (by omega) (by omega) _ _ _ (((Ag.tr (Ag.tr (Ag.rf 70 142 h) (g1.w (by omega))) (g2.w (by omega))).set (by omega)).set (by omega)) ((w2.t140 (h2 := List.set _ 140 (cA 0 y2)) (fun a ha => by rw [hset_fr (by omega)]) (hset_eq hy) my).t141 (fun a ha => by rw [hset_fr (by omega)]) (hset_eq hz9) mz9))
                | (rw [if_neg (show ¬ ws j value a b c 3 = ws j value2 a2 b2 c2 3 by omega)] at k; exact k (by omega) (by omega) _ _ _ (((Ag.tr (Ag.tr (Ag.rf 70 142 h) (g1.w (by omega))) (g2.w (by omega))).set (by omega)).set (by omega)) ((w2.t140 (h2 := List.set _ 140 (cA 0 y2)) (fun a ha => by rw [hset_fr (by omega)]) (hset_eq hy) my).t141 (fun a ha => by rw [hset_fr (by omega)]) (hset_eq hz9) mz9))
            · skip
              refine x_aload_n (dT U_X11_parts 59 rfl) rfl ?_
              refine x_getfield F_X11_109 (dT U_X11_parts 60 rfl) (hset_ne (by omega) (hset_ne (by omega) (w2.c70))) (Nat.le_of_ble_eq_true rfl) rfl ?_
              refine x_iload (dT U_X11_parts 61 rfl) rfl ?_
              refine x_ialoadv (1) (dT U_X11_parts 62 rfl) (hset_ne (by omega) (hset_eq hy)) (Nat.le_of_ble_eq_true rfl) rfl (by omega) (by omega) yg1 ?_
              refine x_aload_n (dT U_X11_parts 63 rfl) rfl ?_
              refine x_getfield F_X11_112 (dT U_X11_parts 64 rfl) (hset_ne (by omega) (hset_ne (by omega) (w2.c70))) (Nat.le_of_ble_eq_true rfl) rfl ?_
              refine x_iload (dT U_X11_parts 65 rfl) rfl ?_
              refine x_ialoadv (1) (dT U_X11_parts 66 rfl) (hset_eq hz9) (Nat.le_of_ble_eq_true rfl) rfl (by omega) (by omega) zg1 ?_
              have ba1 := wq_b (i := j) (v := value) (a := a) (b := b) (c := c) hj (by omega) (by omega) (by omega) (by omega) 1
              have bb1 := wq_b (i := j) (v := value2) (a := a2) (b := b2) (c := c2) hj (by omega) (by omega) (by omega) (by omega) 1
              have ua1 : WN j value a b c 1 = 251 * (wq j value a b c 1).1 + (wq j value a b c 1).2 := rfl
              have ub1 : WN j value2 a2 b2 c2 1 = 251 * (wq j value2 a2 b2 c2 1).1 + (wq j value2 a2 b2 c2 1).2 := rfl
              refine x_icmp_eq (tgt := 152) (dT U_X11_parts 67 rfl) (by decide) (by unfold xr; omega) (by unfold xr; omega) (fun c123 => ?_) (fun c123 => ?_)
              · skip
                have n1 : ¬ (fun j9 => ws j value a b c j9 = ws j value2 a2 b2 c2 j9 ∧ ¬ ((wq j value a b c j9).1 = (wq j value2 a2 b2 c2 j9).1 ∧ (wq j value a b c j9).2 = (wq j value2 a2 b2 c2 j9).2)) 1 := fun z => z.2 (by omega)
                refine x_iinc (ls' := [some (.ref _), some (vi _), some (vi _), some (vi _), some (vi _), some (vi _), some (vi _), some (vi _), some (vi _), some (vi _), some (vi _)]) (dT U_X11_parts 81 rfl) (by decide) rfl rfl ?_
                refine x_goto (tgt := 88) (dT U_X11_parts 82 rfl) (by decide) ?_
                refine x_iload (dT U_X11_parts 47 rfl) rfl ?_
                refine x_iconst (dT U_X11_parts 48 rfl) ?_
                refine x_icmp_ge (tgt := 158) (dT U_X11_parts 49 rfl) (by decide) (by unfold xr; omega) (by unfold xr; omega) (fun c91 => (by exfalso; omega)) (fun c91 => ?_)
                refine x_aload_n (dT U_X11_parts 50 rfl) rfl ?_
                refine x_getfield F_X11_109 (dT U_X11_parts 51 rfl) (hset_ne (by omega) (hset_ne (by omega) (w2.c70))) (Nat.le_of_ble_eq_true rfl) rfl ?_
                refine x_iconst (dT U_X11_parts 52 rfl) ?_
                refine x_ialoadv (4) (dT U_X11_parts 53 rfl) (hset_ne (by omega) (hset_eq hy)) (Nat.le_of_ble_eq_true rfl) rfl (by omega) (by omega) yg4 ?_
                refine x_aload_n (dT U_X11_parts 54 rfl) rfl ?_
                refine x_getfield F_X11_112 (dT U_X11_parts 55 rfl) (hset_ne (by omega) (hset_ne (by omega) (w2.c70))) (Nat.le_of_ble_eq_true rfl) rfl ?_
                refine x_iconst (dT U_X11_parts 56 rfl) ?_
                refine x_ialoadv (4) (dT U_X11_parts 57 rfl) (hset_eq hz9) (Nat.le_of_ble_eq_true rfl) rfl (by omega) (by omega) zg4 ?_
                have sA : 0 ≤ (ws j value a b c 3) ∧ (ws j value a b c 3) < 251 := sl_b _ _
                have sB : 0 ≤ (ws j value2 a2 b2 c2 3) ∧ (ws j value2 a2 b2 c2 3) < 251 := sl_b _ _
                refine x_icmp_ne (tgt := 158) (dT U_X11_parts 58 rfl) (by decide) (by unfold xr; omega) (by unfold xr; omega) (fun c106 => ?_) (fun c106 => ?_)
                · skip
                  refine x_iconst (dT U_X11_parts 83 rfl) ?_
                  refine x_ireturn (dT U_X11_parts 84 rfl) rfl ?_
                  first
                    | (rw [if_pos (show ws j value a b c 3 = ws j value2 a2 b2 c2 3 by omega), ff_y (P := (fun j9 => ws j value a b c j9 = ws j value2 a2 b2 c2 j9 ∧ ¬ ((wq j value a b c j9).1 = (wq j value2 a2 b2 c2 j9).1 ∧ (wq j value a b c j9).2 = (wq j value2 a2 b2 c2 j9).2))) yes0] at k; exact k (by omega) (by omega) _ _ _ (((Ag.tr (Ag.tr (Ag.rf 70 142 h) (g1.w (by omega))) (g2.w (by omega))).set (by omega)).set (by omega)) ((w2.t140 (h2 := List.set _ 140 (cA 0 y2)) (fun a ha => by rw [hset_fr (by omega)]) (hset_eq hy) my).t141 (fun a ha => by rw [hset_fr (by omega)]) (hset_eq hz9) mz9))
                    | (rw [if_pos (show ws j value a b c 3 = ws j value2 a2 b2 c2 3 by omega), ff_n n0, ff_y (P := (fun j9 => ws j value a b c j9 = ws j value2 a2 b2 c2 j9 ∧ ¬ ((wq j value a b c j9).1 = (wq j value2 a2 b2 c2 j9).1 ∧ (wq j value a b c j9).2 = (wq j value2 a2 b2 c2 j9).2))) yes1] at k; exact k (by omega) (by omega) _ _ _ (((Ag.tr (Ag.tr (Ag.rf 70 142 h) (g1.w (by omega))) (g2.w (by omega))).set (by omega)).set (by omega)) ((w2.t140 (h2 := List.set _ 140 (cA 0 y2)) (fun a ha => by rw [hset_fr (by omega)]) (hset_eq hy) my).t141 (fun a ha => by rw [hset_fr (by omega)]) (hset_eq hz9) mz9))
                    | (rw [if_pos (show ws j value a b c 3 = ws j value2 a2 b2 c2 3 by omega), ff_n n0, ff_n n1, ff_y (P := (fun j9 => ws j value a b c j9 = ws j value2 a2 b2 c2 j9 ∧ ¬ ((wq j value a b c j9).1 = (wq j value2 a2 b2 c2 j9).1 ∧ (wq j value a b c j9).2 = (wq j value2 a2 b2 c2 j9).2))) yes2] at k; exact k (by omega) (by omega) _ _ _ (((Ag.tr (Ag.tr (Ag.rf 70 142 h) (g1.w (by omega))) (g2.w (by omega))).set (by omega)).set (by omega)) ((w2.t140 (h2 := List.set _ 140 (cA 0 y2)) (fun a ha => by rw [hset_fr (by omega)]) (hset_eq hy) my).t141 (fun a ha => by rw [hset_fr (by omega)]) (hset_eq hz9) mz9))
                    | (rw [if_pos (show ws j value a b c 3 = ws j value2 a2 b2 c2 3 by omega), ff_n n0, ff_n n1, ff_n n2, ff_y (P := (fun j9 => ws j value a b c j9 = ws j value2 a2 b2 c2 j9 ∧ ¬ ((wq j value a b c j9).1 = (wq j value2 a2 b2 c2 j9).1 ∧ (wq j value a b c j9).2 = (wq j value2 a2 b2 c2 j9).2))) yes3] at k; exact k (by omega) (by omega) _ _ _ (((Ag.tr (Ag.tr (Ag.rf 70 142 h) (g1.w (by omega))) (g2.w (by omega))).set (by omega)).set (by omega)) ((w2.t140 (h2 := List.set _ 140 (cA 0 y2)) (fun a ha => by rw [hset_fr (by omega)]) (hset_eq hy) my).t141 (fun a ha => by rw [hset_fr (by omega)]) (hset_eq hz9) mz9))
                    | (rw [if_pos (show ws j value a b c 3 = ws j value2 a2 b2 c2 3 by omega), ff_n n0, ff_n n1, ff_n n2, ff_n n3] at k; exact k (by omega) (by omega) _ _ _ (((Ag.tr (Ag.tr (Ag.rf 70 142 h) (g1.w (by omega))) (g2.w (by omega))).set (by omega)).set (by omega)) ((w2.t140 (h2 := List.set _ 140 (cA 0 y2)) (fun a ha => by rw [hset_fr (by omega)]) (hset_eq hy) my).t141 (fun a ha => by rw [hset_fr (by omega)]) (hset_eq hz9) mz9))
                    | (rw [if_neg (show ¬ ws j value a b c 3 = ws j value2 a2 b2 c2 3 by omega)] at k; exact k (by omega) (by omega) _ _ _ (((Ag.tr (Ag.tr (Ag.rf 70 142 h) (g1.w (by omega))) (g2.w (by omega))).set (by omega)).set (by omega)) ((w2.t140 (h2 := List.set _ 140 (cA 0 y2)) (fun a ha => by rw [hset_fr (by omega)]) (hset_eq hy) my).t141 (fun a ha => by rw [hset_fr (by omega)]) (hset_eq hz9) mz9))
                · skip
                  refine x_aload_n (dT U_X11_parts 59 rfl) rfl ?_
                  refine x_getfield F_X11_109 (dT U_X11_parts 60 rfl) (hset_ne (by omega) (hset_ne (by omega) (w2.c70))) (Nat.le_of_ble_eq_true rfl) rfl ?_
                  refine x_iload (dT U_X11_parts 61 rfl) rfl ?_
                  refine x_ialoadv (2) (dT U_X11_parts 62 rfl) (hset_ne (by omega) (hset_eq hy)) (Nat.le_of_ble_eq_true rfl) rfl (by omega) (by omega) yg2 ?_
                  refine x_aload_n (dT U_X11_parts 63 rfl) rfl ?_
                  refine x_getfield F_X11_112 (dT U_X11_parts 64 rfl) (hset_ne (by omega) (hset_ne (by omega) (w2.c70))) (Nat.le_of_ble_eq_true rfl) rfl ?_
                  refine x_iload (dT U_X11_parts 65 rfl) rfl ?_
                  refine x_ialoadv (2) (dT U_X11_parts 66 rfl) (hset_eq hz9) (Nat.le_of_ble_eq_true rfl) rfl (by omega) (by omega) zg2 ?_
                  have ba2 := wq_b (i := j) (v := value) (a := a) (b := b) (c := c) hj (by omega) (by omega) (by omega) (by omega) 2
                  have bb2 := wq_b (i := j) (v := value2) (a := a2) (b := b2) (c := c2) hj (by omega) (by omega) (by omega) (by omega) 2
                  have ua2 : WN j value a b c 2 = 251 * (wq j value a b c 2).1 + (wq j value a b c 2).2 := rfl
                  have ub2 : WN j value2 a2 b2 c2 2 = 251 * (wq j value2 a2 b2 c2 2).1 + (wq j value2 a2 b2 c2 2).2 := rfl
                  refine x_icmp_eq (tgt := 152) (dT U_X11_parts 67 rfl) (by decide) (by unfold xr; omega) (by unfold xr; omega) (fun c123 => ?_) (fun c123 => ?_)
                  · skip
                    have n2 : ¬ (fun j9 => ws j value a b c j9 = ws j value2 a2 b2 c2 j9 ∧ ¬ ((wq j value a b c j9).1 = (wq j value2 a2 b2 c2 j9).1 ∧ (wq j value a b c j9).2 = (wq j value2 a2 b2 c2 j9).2)) 2 := fun z => z.2 (by omega)
                    refine x_iinc (ls' := [some (.ref _), some (vi _), some (vi _), some (vi _), some (vi _), some (vi _), some (vi _), some (vi _), some (vi _), some (vi _), some (vi _)]) (dT U_X11_parts 81 rfl) (by decide) rfl rfl ?_
                    refine x_goto (tgt := 88) (dT U_X11_parts 82 rfl) (by decide) ?_
                    refine x_iload (dT U_X11_parts 47 rfl) rfl ?_
                    refine x_iconst (dT U_X11_parts 48 rfl) ?_
                    refine x_icmp_ge (tgt := 158) (dT U_X11_parts 49 rfl) (by decide) (by unfold xr; omega) (by unfold xr; omega) (fun c91 => (by exfalso; omega)) (fun c91 => ?_)
                    refine x_aload_n (dT U_X11_parts 50 rfl) rfl ?_
                    refine x_getfield F_X11_109 (dT U_X11_parts 51 rfl) (hset_ne (by omega) (hset_ne (by omega) (w2.c70))) (Nat.le_of_ble_eq_true rfl) rfl ?_
                    refine x_iconst (dT U_X11_parts 52 rfl) ?_
                    refine x_ialoadv (4) (dT U_X11_parts 53 rfl) (hset_ne (by omega) (hset_eq hy)) (Nat.le_of_ble_eq_true rfl) rfl (by omega) (by omega) yg4 ?_
                    refine x_aload_n (dT U_X11_parts 54 rfl) rfl ?_
                    refine x_getfield F_X11_112 (dT U_X11_parts 55 rfl) (hset_ne (by omega) (hset_ne (by omega) (w2.c70))) (Nat.le_of_ble_eq_true rfl) rfl ?_
                    refine x_iconst (dT U_X11_parts 56 rfl) ?_
                    refine x_ialoadv (4) (dT U_X11_parts 57 rfl) (hset_eq hz9) (Nat.le_of_ble_eq_true rfl) rfl (by omega) (by omega) zg4 ?_
                    have sA : 0 ≤ (ws j value a b c 3) ∧ (ws j value a b c 3) < 251 := sl_b _ _
                    have sB : 0 ≤ (ws j value2 a2 b2 c2 3) ∧ (ws j value2 a2 b2 c2 3) < 251 := sl_b _ _
                    refine x_icmp_ne (tgt := 158) (dT U_X11_parts 58 rfl) (by decide) (by unfold xr; omega) (by unfold xr; omega) (fun c106 => ?_) (fun c106 => ?_)
                    · skip
                      refine x_iconst (dT U_X11_parts 83 rfl) ?_
                      refine x_ireturn (dT U_X11_parts 84 rfl) rfl ?_
                      first
                        | (rw [if_pos (show ws j value a b c 3 = ws j value2 a2 b2 c2 3 by omega), ff_y (P := (fun j9 => ws j value a b c j9 = ws j value2 a2 b2 c2 j9 ∧ ¬ ((wq j value a b c j9).1 = (wq j value2 a2 b2 c2 j9).1 ∧ (wq j value a b c j9).2 = (wq j value2 a2 b2 c2 j9).2))) yes0] at k; exact k (by omega) (by omega) _ _ _ (((Ag.tr (Ag.tr (Ag.rf 70 142 h) (g1.w (by omega))) (g2.w (by omega))).set (by omega)).set (by omega)) ((w2.t140 (h2 := List.set _ 140 (cA 0 y2)) (fun a ha => by rw [hset_fr (by omega)]) (hset_eq hy) my).t141 (fun a ha => by rw [hset_fr (by omega)]) (hset_eq hz9) mz9))
                        | (rw [if_pos (show ws j value a b c 3 = ws j value2 a2 b2 c2 3 by omega), ff_n n0, ff_y (P := (fun j9 => ws j value a b c j9 = ws j value2 a2 b2 c2 j9 ∧ ¬ ((wq j value a b c j9).1 = (wq j value2 a2 b2 c2 j9).1 ∧ (wq j value a b c j9).2 = (wq j value2 a2 b2 c2 j9).2))) yes1] at k; exact k (by omega) (by omega) _ _ _ (((Ag.tr (Ag.tr (Ag.rf 70 142 h) (g1.w (by omega))) (g2.w (by omega))).set (by omega)).set (by omega)) ((w2.t140 (h2 := List.set _ 140 (cA 0 y2)) (fun a ha => by rw [hset_fr (by omega)]) (hset_eq hy) my).t141 (fun a ha => by rw [hset_fr (by omega)]) (hset_eq hz9) mz9))
                        | (rw [if_pos (show ws j value a b c 3 = ws j value2 a2 b2 c2 3 by omega), ff_n n0, ff_n n1, ff_y (P := (fun j9 => ws j value a b c j9 = ws j value2 a2 b2 c2 j9 ∧ ¬ ((wq j value a b c j9).1 = (wq j value2 a2 b2 c2 j9).1 ∧ (wq j value a b c j9).2 = (wq j value2 a2 b2 c2 j9).2))) yes2] at k; exact k (by omega) (by omega) _ _ _ (((Ag.tr (Ag.tr (Ag.rf 70 142 h) (g1.w (by omega))) (g2.w (by omega))).set (by omega)).set (by omega)) ((w2.t140 (h2 := List.set _ 140 (cA 0 y2)) (fun a ha => by rw [hset_fr (by omega)]) (hset_eq hy) my).t141 (fun a ha => by rw [hset_fr (by omega)]) (hset_eq hz9) mz9))
                        | (rw [if_pos (show ws j value a b c 3 = ws j value2 a2 b2 c2 3 by omega), ff_n n0, ff_n n1, ff_n n2, ff_y (P := (fun j9 => ws j value a b c j9 = ws j value2 a2 b2 c2 j9 ∧ ¬ ((wq j value a b c j9).1 = (wq j value2 a2 b2 c2 j9).1 ∧ (wq j value a b c j9).2 = (wq j value2 a2 b2 c2 j9).2))) yes3] at k; exact k (by omega) (by omega) _ _ _ (((Ag.tr (Ag.tr (Ag.rf 70 142 h) (g1.w (by omega))) (g2.w (by omega))).set (by omega)).set (by omega)) ((w2.t140 (h2 := List.set _ 140 (cA 0 y2)) (fun a ha => by rw [hset_fr (by omega)]) (hset_eq hy) my).t141 (fun a ha => by rw [hset_fr (by omega)]) (hset_eq hz9) mz9))
                        | (rw [if_pos (show ws j value a b c 3 = ws j value2 a2 b2 c2 3 by omega), ff_n n0, ff_n n1, ff_n n2, ff_n n3] at k; exact k (by omega) (by omega) _ _ _ (((Ag.tr (Ag.tr (Ag.rf 70 142 h) (g1.w (by omega))) (g2.w (by omega))).set (by omega)).set (by omega)) ((w2.t140 (h2 := List.set _ 140 (cA 0 y2)) (fun a ha => by rw [hset_fr (by omega)]) (hset_eq hy) my).t141 (fun a ha => by rw [hset_fr (by omega)]) (hset_eq hz9) mz9))
                        | (rw [if_neg (show ¬ ws j value a b c 3 = ws j value2 a2 b2 c2 3 by omega)] at k; exact k (by omega) (by omega) _ _ _ (((Ag.tr (Ag.tr (Ag.rf 70 142 h) (g1.w (by omega))) (g2.w (by omega))).set (by omega)).set (by omega)) ((w2.t140 (h2 := List.set _ 140 (cA 0 y2)) (fun a ha => by rw [hset_fr (by omega)]) (hset_eq hy) my).t141 (fun a ha => by rw [hset_fr (by omega)]) (hset_eq hz9) mz9))
                    · skip
                      refine x_aload_n (dT U_X11_parts 59 rfl) rfl ?_
                      refine x_getfield F_X11_109 (dT U_X11_parts 60 rfl) (hset_ne (by omega) (hset_ne (by omega) (w2.c70))) (Nat.le_of_ble_eq_true rfl) rfl ?_
                      refine x_iload (dT U_X11_parts 61 rfl) rfl ?_
                      refine x_ialoadv (3) (dT U_X11_parts 62 rfl) (hset_ne (by omega) (hset_eq hy)) (Nat.le_of_ble_eq_true rfl) rfl (by omega) (by omega) yg3 ?_
                      refine x_aload_n (dT U_X11_parts 63 rfl) rfl ?_
                      refine x_getfield F_X11_112 (dT U_X11_parts 64 rfl) (hset_ne (by omega) (hset_ne (by omega) (w2.c70))) (Nat.le_of_ble_eq_true rfl) rfl ?_
                      refine x_iload (dT U_X11_parts 65 rfl) rfl ?_
                      refine x_ialoadv (3) (dT U_X11_parts 66 rfl) (hset_eq hz9) (Nat.le_of_ble_eq_true rfl) rfl (by omega) (by omega) zg3 ?_
                      have ba3 := wq_b (i := j) (v := value) (a := a) (b := b) (c := c) hj (by omega) (by omega) (by omega) (by omega) 3
                      have bb3 := wq_b (i := j) (v := value2) (a := a2) (b := b2) (c := c2) hj (by omega) (by omega) (by omega) (by omega) 3
                      have ua3 : WN j value a b c 3 = 251 * (wq j value a b c 3).1 + (wq j value a b c 3).2 := rfl
                      have ub3 : WN j value2 a2 b2 c2 3 = 251 * (wq j value2 a2 b2 c2 3).1 + (wq j value2 a2 b2 c2 3).2 := rfl
                      refine x_icmp_eq (tgt := 152) (dT U_X11_parts 67 rfl) (by decide) (by unfold xr; omega) (by unfold xr; omega) (fun c123 => ?_) (fun c123 => ?_)
                      · skip
                        have n3 : ¬ (fun j9 => ws j value a b c j9 = ws j value2 a2 b2 c2 j9 ∧ ¬ ((wq j value a b c j9).1 = (wq j value2 a2 b2 c2 j9).1 ∧ (wq j value a b c j9).2 = (wq j value2 a2 b2 c2 j9).2)) 3 := fun z => z.2 (by omega)
                        refine x_iinc (ls' := [some (.ref _), some (vi _), some (vi _), some (vi _), some (vi _), some (vi _), some (vi _), some (vi _), some (vi _), some (vi _), some (vi _)]) (dT U_X11_parts 81 rfl) (by decide) rfl rfl ?_
                        refine x_goto (tgt := 88) (dT U_X11_parts 82 rfl) (by decide) ?_
                        refine x_iload (dT U_X11_parts 47 rfl) rfl ?_
                        refine x_iconst (dT U_X11_parts 48 rfl) ?_
                        refine x_icmp_ge (tgt := 158) (dT U_X11_parts 49 rfl) (by decide) (by unfold xr; omega) (by unfold xr; omega) (fun c91 => ?_) (fun c91 => (by exfalso; omega))
                        refine x_iconst (dT U_X11_parts 83 rfl) ?_
                        refine x_ireturn (dT U_X11_parts 84 rfl) rfl ?_
                        first
                          | (rw [if_pos (show ws j value a b c 3 = ws j value2 a2 b2 c2 3 by omega), ff_y (P := (fun j9 => ws j value a b c j9 = ws j value2 a2 b2 c2 j9 ∧ ¬ ((wq j value a b c j9).1 = (wq j value2 a2 b2 c2 j9).1 ∧ (wq j value a b c j9).2 = (wq j value2 a2 b2 c2 j9).2))) yes0] at k; exact k (by omega) (by omega) _ _ _ (((Ag.tr (Ag.tr (Ag.rf 70 142 h) (g1.w (by omega))) (g2.w (by omega))).set (by omega)).set (by omega)) ((w2.t140 (h2 := List.set _ 140 (cA 0 y2)) (fun a ha => by rw [hset_fr (by omega)]) (hset_eq hy) my).t141 (fun a ha => by rw [hset_fr (by omega)]) (hset_eq hz9) mz9))
                          | (rw [if_pos (show ws j value a b c 3 = ws j value2 a2 b2 c2 3 by omega), ff_n n0, ff_y (P := (fun j9 => ws j value a b c j9 = ws j value2 a2 b2 c2 j9 ∧ ¬ ((wq j value a b c j9).1 = (wq j value2 a2 b2 c2 j9).1 ∧ (wq j value a b c j9).2 = (wq j value2 a2 b2 c2 j9).2))) yes1] at k; exact k (by omega) (by omega) _ _ _ (((Ag.tr (Ag.tr (Ag.rf 70 142 h) (g1.w (by omega))) (g2.w (by omega))).set (by omega)).set (by omega)) ((w2.t140 (h2 := List.set _ 140 (cA 0 y2)) (fun a ha => by rw [hset_fr (by omega)]) (hset_eq hy) my).t141 (fun a ha => by rw [hset_fr (by omega)]) (hset_eq hz9) mz9))
                          | (rw [if_pos (show ws j value a b c 3 = ws j value2 a2 b2 c2 3 by omega), ff_n n0, ff_n n1, ff_y (P := (fun j9 => ws j value a b c j9 = ws j value2 a2 b2 c2 j9 ∧ ¬ ((wq j value a b c j9).1 = (wq j value2 a2 b2 c2 j9).1 ∧ (wq j value a b c j9).2 = (wq j value2 a2 b2 c2 j9).2))) yes2] at k; exact k (by omega) (by omega) _ _ _ (((Ag.tr (Ag.tr (Ag.rf 70 142 h) (g1.w (by omega))) (g2.w (by omega))).set (by omega)).set (by omega)) ((w2.t140 (h2 := List.set _ 140 (cA 0 y2)) (fun a ha => by rw [hset_fr (by omega)]) (hset_eq hy) my).t141 (fun a ha => by rw [hset_fr (by omega)]) (hset_eq hz9) mz9))
                          | (rw [if_pos (show ws j value a b c 3 = ws j value2 a2 b2 c2 3 by omega), ff_n n0, ff_n n1, ff_n n2, ff_y (P := (fun j9 => ws j value a b c j9 = ws j value2 a2 b2 c2 j9 ∧ ¬ ((wq j value a b c j9).1 = (wq j value2 a2 b2 c2 j9).1 ∧ (wq j value a b c j9).2 = (wq j value2 a2 b2 c2 j9).2))) yes3] at k; exact k (by omega) (by omega) _ _ _ (((Ag.tr (Ag.tr (Ag.rf 70 142 h) (g1.w (by omega))) (g2.w (by omega))).set (by omega)).set (by omega)) ((w2.t140 (h2 := List.set _ 140 (cA 0 y2)) (fun a ha => by rw [hset_fr (by omega)]) (hset_eq hy) my).t141 (fun a ha => by rw [hset_fr (by omega)]) (hset_eq hz9) mz9))
                          | (rw [if_pos (show ws j value a b c 3 = ws j value2 a2 b2 c2 3 by omega), ff_n n0, ff_n n1, ff_n n2, ff_n n3] at k; exact k (by omega) (by omega) _ _ _ (((Ag.tr (Ag.tr (Ag.rf 70 142 h) (g1.w (by omega))) (g2.w (by omega))).set (by omega)).set (by omega)) ((w2.t140 (h2 := List.set _ 140 (cA 0 y2)) (fun a ha => by rw [hset_fr (by omega)]) (hset_eq hy) my).t141 (fun a ha => by rw [hset_fr (by omega)]) (hset_eq hz9) mz9))
                          | (rw [if_neg (show ¬ ws j value a b c 3 = ws j value2 a2 b2 c2 3 by omega)] at k; exact k (by omega) (by omega) _ _ _ (((Ag.tr (Ag.tr (Ag.rf 70 142 h) (g1.w (by omega))) (g2.w (by omega))).set (by omega)).set (by omega)) ((w2.t140 (h2 := List.set _ 140 (cA 0 y2)) (fun a ha => by rw [hset_fr (by omega)]) (hset_eq hy) my).t141 (fun a ha => by rw [hset_fr (by omega)]) (hset_eq hz9) mz9))
                      · skip
                        refine x_aload_n (dT U_X11_parts 68 rfl) rfl ?_
                        refine x_getfield F_X11_109 (dT U_X11_parts 69 rfl) (hset_ne (by omega) (hset_ne (by omega) (w2.c70))) (Nat.le_of_ble_eq_true rfl) rfl ?_
                        refine x_iload (dT U_X11_parts 70 rfl) rfl ?_
                        refine x_ialoadv (3) (dT U_X11_parts 71 rfl) (hset_ne (by omega) (hset_eq hy)) (Nat.le_of_ble_eq_true rfl) rfl (by omega) (by omega) yg3 ?_
                        refine x_invokestatic (rc' := rc) (rs' := rs) (rc2 := 0) (rs2 := 0) (As := [_]) (st := _) M_X11_sealed_ K_X11_231 (dT U_X11_parts 72 rfl) rfl rfl rfl rfl (Nat.le_of_ble_eq_true rfl) rfl (by decide) (Nat.le_of_ble_eq_true rfl) rfl rfl ?_
                        refine S_sealedP (x := (wq j value a b c 3).1) (y := (wq j value a b c 3).2) ba3.1 ba3.2 ?_
                        change xRet _ _ _ _ _ _ _ _ _ _ (.inl (some (vi (ws j value a b c 3)))) _ _
                        refine xRet_some ?_
                        refine x_aload_n (dT U_X11_parts 73 rfl) rfl ?_
                        refine x_getfield F_X11_112 (dT U_X11_parts 74 rfl) (hset_ne (by omega) (hset_ne (by omega) (w2.c70))) (Nat.le_of_ble_eq_true rfl) rfl ?_
                        refine x_iload (dT U_X11_parts 75 rfl) rfl ?_
                        refine x_ialoadv (3) (dT U_X11_parts 76 rfl) (hset_eq hz9) (Nat.le_of_ble_eq_true rfl) rfl (by omega) (by omega) zg3 ?_
                        refine x_invokestatic (rc' := rc) (rs' := rs) (rc2 := 0) (rs2 := 0) (As := [_]) (st := _) M_X11_sealed_ K_X11_231 (dT U_X11_parts 77 rfl) rfl rfl rfl rfl (Nat.le_of_ble_eq_true rfl) rfl (by decide) (Nat.le_of_ble_eq_true rfl) rfl rfl ?_
                        refine S_sealedP (x := (wq j value2 a2 b2 c2 3).1) (y := (wq j value2 a2 b2 c2 3).2) bb3.1 bb3.2 ?_
                        change xRet _ _ _ _ _ _ _ _ _ _ (.inl (some (vi (ws j value2 a2 b2 c2 3)))) _ _
                        have sA3 : 0 ≤ (ws j value a b c 3) ∧ (ws j value a b c 3) < 251 := sl_b _ _
                        have sB3 : 0 ≤ (ws j value2 a2 b2 c2 3) ∧ (ws j value2 a2 b2 c2 3) < 251 := sl_b _ _
                        refine xRet_some ?_
                        refine x_icmp_ne (tgt := 152) (dT U_X11_parts 78 rfl) (by decide) (by unfold xr; omega) (by unfold xr; omega) (fun c146 => ?_) (fun c146 => ?_)
                        · skip
                          have n3 : ¬ (fun j9 => ws j value a b c j9 = ws j value2 a2 b2 c2 j9 ∧ ¬ ((wq j value a b c j9).1 = (wq j value2 a2 b2 c2 j9).1 ∧ (wq j value a b c j9).2 = (wq j value2 a2 b2 c2 j9).2)) 3 := fun z => by have := z.1; omega
                          refine x_iinc (ls' := [some (.ref _), some (vi _), some (vi _), some (vi _), some (vi _), some (vi _), some (vi _), some (vi _), some (vi _), some (vi _), some (vi _)]) (dT U_X11_parts 81 rfl) (by decide) rfl rfl ?_
                          refine x_goto (tgt := 88) (dT U_X11_parts 82 rfl) (by decide) ?_
                          refine x_iload (dT U_X11_parts 47 rfl) rfl ?_
                          refine x_iconst (dT U_X11_parts 48 rfl) ?_
                          refine x_icmp_ge (tgt := 158) (dT U_X11_parts 49 rfl) (by decide) (by unfold xr; omega) (by unfold xr; omega) (fun c91 => ?_) (fun c91 => (by exfalso; omega))
                          refine x_iconst (dT U_X11_parts 83 rfl) ?_
                          refine x_ireturn (dT U_X11_parts 84 rfl) rfl ?_
                          first
                            | (rw [if_pos (show ws j value a b c 3 = ws j value2 a2 b2 c2 3 by omega), ff_y (P := (fun j9 => ws j value a b c j9 = ws j value2 a2 b2 c2 j9 ∧ ¬ ((wq j value a b c j9).1 = (wq j value2 a2 b2 c2 j9).1 ∧ (wq j value a b c j9).2 = (wq j value2 a2 b2 c2 j9).2))) yes0] at k; exact k (by omega) (by omega) _ _ _ (((Ag.tr (Ag.tr (Ag.rf 70 142 h) (g1.w (by omega))) (g2.w (by omega))).set (by omega)).set (by omega)) ((w2.t140 (h2 := List.set _ 140 (cA 0 y2)) (fun a ha => by rw [hset_fr (by omega)]) (hset_eq hy) my).t141 (fun a ha => by rw [hset_fr (by omega)]) (hset_eq hz9) mz9))
                            | (rw [if_pos (show ws j value a b c 3 = ws j value2 a2 b2 c2 3 by omega), ff_n n0, ff_y (P := (fun j9 => ws j value a b c j9 = ws j value2 a2 b2 c2 j9 ∧ ¬ ((wq j value a b c j9).1 = (wq j value2 a2 b2 c2 j9).1 ∧ (wq j value a b c j9).2 = (wq j value2 a2 b2 c2 j9).2))) yes1] at k; exact k (by omega) (by omega) _ _ _ (((Ag.tr (Ag.tr (Ag.rf 70 142 h) (g1.w (by omega))) (g2.w (by omega))).set (by omega)).set (by omega)) ((w2.t140 (h2 := List.set _ 140 (cA 0 y2)) (fun a ha => by rw [hset_fr (by omega)]) (hset_eq hy) my).t141 (fun a ha => by rw [hset_fr (by omega)]) (hset_eq hz9) mz9))
                            | (rw [if_pos (show ws j value a b c 3 = ws j value2 a2 b2 c2 3 by omega), ff_n n0, ff_n n1, ff_y (P := (fun j9 => ws j value a b c j9 = ws j value2 a2 b2 c2 j9 ∧ ¬ ((wq j value a b c j9).1 = (wq j value2 a2 b2 c2 j9).1 ∧ (wq j value a b c j9).2 = (wq j value2 a2 b2 c2 j9).2))) yes2] at k; exact k (by omega) (by omega) _ _ _ (((Ag.tr (Ag.tr (Ag.rf 70 142 h) (g1.w (by omega))) (g2.w (by omega))).set (by omega)).set (by omega)) ((w2.t140 (h2 := List.set _ 140 (cA 0 y2)) (fun a ha => by rw [hset_fr (by omega)]) (hset_eq hy) my).t141 (fun a ha => by rw [hset_fr (by omega)]) (hset_eq hz9) mz9))
                            | (rw [if_pos (show ws j value a b c 3 = ws j value2 a2 b2 c2 3 by omega), ff_n n0, ff_n n1, ff_n n2, ff_y (P := (fun j9 => ws j value a b c j9 = ws j value2 a2 b2 c2 j9 ∧ ¬ ((wq j value a b c j9).1 = (wq j value2 a2 b2 c2 j9).1 ∧ (wq j value a b c j9).2 = (wq j value2 a2 b2 c2 j9).2))) yes3] at k; exact k (by omega) (by omega) _ _ _ (((Ag.tr (Ag.tr (Ag.rf 70 142 h) (g1.w (by omega))) (g2.w (by omega))).set (by omega)).set (by omega)) ((w2.t140 (h2 := List.set _ 140 (cA 0 y2)) (fun a ha => by rw [hset_fr (by omega)]) (hset_eq hy) my).t141 (fun a ha => by rw [hset_fr (by omega)]) (hset_eq hz9) mz9))
                            | (rw [if_pos (show ws j value a b c 3 = ws j value2 a2 b2 c2 3 by omega), ff_n n0, ff_n n1, ff_n n2, ff_n n3] at k; exact k (by omega) (by omega) _ _ _ (((Ag.tr (Ag.tr (Ag.rf 70 142 h) (g1.w (by omega))) (g2.w (by omega))).set (by omega)).set (by omega)) ((w2.t140 (h2 := List.set _ 140 (cA 0 y2)) (fun a ha => by rw [hset_fr (by omega)]) (hset_eq hy) my).t141 (fun a ha => by rw [hset_fr (by omega)]) (hset_eq hz9) mz9))
                            | (rw [if_neg (show ¬ ws j value a b c 3 = ws j value2 a2 b2 c2 3 by omega)] at k; exact k (by omega) (by omega) _ _ _ (((Ag.tr (Ag.tr (Ag.rf 70 142 h) (g1.w (by omega))) (g2.w (by omega))).set (by omega)).set (by omega)) ((w2.t140 (h2 := List.set _ 140 (cA 0 y2)) (fun a ha => by rw [hset_fr (by omega)]) (hset_eq hy) my).t141 (fun a ha => by rw [hset_fr (by omega)]) (hset_eq hz9) mz9))
                        · skip
                          have yes3 : (fun j9 => ws j value a b c j9 = ws j value2 a2 b2 c2 j9 ∧ ¬ ((wq j value a b c j9).1 = (wq j value2 a2 b2 c2 j9).1 ∧ (wq j value a b c j9).2 = (wq j value2 a2 b2 c2 j9).2)) 3 := ⟨by omega, fun z => by omega⟩
                          refine x_iload (dT U_X11_parts 79 rfl) rfl ?_
                          refine x_ireturn (dT U_X11_parts 80 rfl) rfl ?_
                          first
                            | (rw [if_pos (show ws j value a b c 3 = ws j value2 a2 b2 c2 3 by omega), ff_y (P := (fun j9 => ws j value a b c j9 = ws j value2 a2 b2 c2 j9 ∧ ¬ ((wq j value a b c j9).1 = (wq j value2 a2 b2 c2 j9).1 ∧ (wq j value a b c j9).2 = (wq j value2 a2 b2 c2 j9).2))) yes0] at k; exact k (by omega) (by omega) _ _ _ (((Ag.tr (Ag.tr (Ag.rf 70 142 h) (g1.w (by omega))) (g2.w (by omega))).set (by omega)).set (by omega)) ((w2.t140 (h2 := List.set _ 140 (cA 0 y2)) (fun a ha => by rw [hset_fr (by omega)]) (hset_eq hy) my).t141 (fun a ha => by rw [hset_fr (by omega)]) (hset_eq hz9) mz9))
                            | (rw [if_pos (show ws j value a b c 3 = ws j value2 a2 b2 c2 3 by omega), ff_n n0, ff_y (P := (fun j9 => ws j value a b c j9 = ws j value2 a2 b2 c2 j9 ∧ ¬ ((wq j value a b c j9).1 = (wq j value2 a2 b2 c2 j9).1 ∧ (wq j value a b c j9).2 = (wq j value2 a2 b2 c2 j9).2))) yes1] at k; exact k (by omega) (by omega) _ _ _ (((Ag.tr (Ag.tr (Ag.rf 70 142 h) (g1.w (by omega))) (g2.w (by omega))).set (by omega)).set (by omega)) ((w2.t140 (h2 := List.set _ 140 (cA 0 y2)) (fun a ha => by rw [hset_fr (by omega)]) (hset_eq hy) my).t141 (fun a ha => by rw [hset_fr (by omega)]) (hset_eq hz9) mz9))
                            | (rw [if_pos (show ws j value a b c 3 = ws j value2 a2 b2 c2 3 by omega), ff_n n0, ff_n n1, ff_y (P := (fun j9 => ws j value a b c j9 = ws j value2 a2 b2 c2 j9 ∧ ¬ ((wq j value a b c j9).1 = (wq j value2 a2 b2 c2 j9).1 ∧ (wq j value a b c j9).2 = (wq j value2 a2 b2 c2 j9).2))) yes2] at k; exact k (by omega) (by omega) _ _ _ (((Ag.tr (Ag.tr (Ag.rf 70 142 h) (g1.w (by omega))) (g2.w (by omega))).set (by omega)).set (by omega)) ((w2.t140 (h2 := List.set _ 140 (cA 0 y2)) (fun a ha => by rw [hset_fr (by omega)]) (hset_eq hy) my).t141 (fun a ha => by rw [hset_fr (by omega)]) (hset_eq hz9) mz9))
                            | (rw [if_pos (show ws j value a b c 3 = ws j value2 a2 b2 c2 3 by omega), ff_n n0, ff_n n1, ff_n n2, ff_y (P := (fun j9 => ws j value a b c j9 = ws j value2 a2 b2 c2 j9 ∧ ¬ ((wq j value a b c j9).1 = (wq j value2 a2 b2 c2 j9).1 ∧ (wq j value a b c j9).2 = (wq j value2 a2 b2 c2 j9).2))) yes3] at k; exact k (by omega) (by omega) _ _ _ (((Ag.tr (Ag.tr (Ag.rf 70 142 h) (g1.w (by omega))) (g2.w (by omega))).set (by omega)).set (by omega)) ((w2.t140 (h2 := List.set _ 140 (cA 0 y2)) (fun a ha => by rw [hset_fr (by omega)]) (hset_eq hy) my).t141 (fun a ha => by rw [hset_fr (by omega)]) (hset_eq hz9) mz9))
                            | (rw [if_pos (show ws j value a b c 3 = ws j value2 a2 b2 c2 3 by omega), ff_n n0, ff_n n1, ff_n n2, ff_n n3] at k; exact k (by omega) (by omega) _ _ _ (((Ag.tr (Ag.tr (Ag.rf 70 142 h) (g1.w (by omega))) (g2.w (by omega))).set (by omega)).set (by omega)) ((w2.t140 (h2 := List.set _ 140 (cA 0 y2)) (fun a ha => by rw [hset_fr (by omega)]) (hset_eq hy) my).t141 (fun a ha => by rw [hset_fr (by omega)]) (hset_eq hz9) mz9))
                            | (rw [if_neg (show ¬ ws j value a b c 3 = ws j value2 a2 b2 c2 3 by omega)] at k; exact k (by omega) (by omega) _ _ _ (((Ag.tr (Ag.tr (Ag.rf 70 142 h) (g1.w (by omega))) (g2.w (by omega))).set (by omega)).set (by omega)) ((w2.t140 (h2 := List.set _ 140 (cA 0 y2)) (fun a ha => by rw [hset_fr (by omega)]) (hset_eq hy) my).t141 (fun a ha => by rw [hset_fr (by omega)]) (hset_eq hz9) mz9))
                  · skip
                    refine x_aload_n (dT U_X11_parts 68 rfl) rfl ?_
                    refine x_getfield F_X11_109 (dT U_X11_parts 69 rfl) (hset_ne (by omega) (hset_ne (by omega) (w2.c70))) (Nat.le_of_ble_eq_true rfl) rfl ?_
                    refine x_iload (dT U_X11_parts 70 rfl) rfl ?_
                    refine x_ialoadv (2) (dT U_X11_parts 71 rfl) (hset_ne (by omega) (hset_eq hy)) (Nat.le_of_ble_eq_true rfl) rfl (by omega) (by omega) yg2 ?_
                    refine x_invokestatic (rc' := rc) (rs' := rs) (rc2 := 0) (rs2 := 0) (As := [_]) (st := _) M_X11_sealed_ K_X11_231 (dT U_X11_parts 72 rfl) rfl rfl rfl rfl (Nat.le_of_ble_eq_true rfl) rfl (by decide) (Nat.le_of_ble_eq_true rfl) rfl rfl ?_
                    refine S_sealedP (x := (wq j value a b c 2).1) (y := (wq j value a b c 2).2) ba2.1 ba2.2 ?_
                    change xRet _ _ _ _ _ _ _ _ _ _ (.inl (some (vi (ws j value a b c 2)))) _ _
                    refine xRet_some ?_
                    refine x_aload_n (dT U_X11_parts 73 rfl) rfl ?_
                    refine x_getfield F_X11_112 (dT U_X11_parts 74 rfl) (hset_ne (by omega) (hset_ne (by omega) (w2.c70))) (Nat.le_of_ble_eq_true rfl) rfl ?_
                    refine x_iload (dT U_X11_parts 75 rfl) rfl ?_
                    refine x_ialoadv (2) (dT U_X11_parts 76 rfl) (hset_eq hz9) (Nat.le_of_ble_eq_true rfl) rfl (by omega) (by omega) zg2 ?_
                    refine x_invokestatic (rc' := rc) (rs' := rs) (rc2 := 0) (rs2 := 0) (As := [_]) (st := _) M_X11_sealed_ K_X11_231 (dT U_X11_parts 77 rfl) rfl rfl rfl rfl (Nat.le_of_ble_eq_true rfl) rfl (by decide) (Nat.le_of_ble_eq_true rfl) rfl rfl ?_
                    refine S_sealedP (x := (wq j value2 a2 b2 c2 2).1) (y := (wq j value2 a2 b2 c2 2).2) bb2.1 bb2.2 ?_
                    change xRet _ _ _ _ _ _ _ _ _ _ (.inl (some (vi (ws j value2 a2 b2 c2 2)))) _ _
                    have sA2 : 0 ≤ (ws j value a b c 2) ∧ (ws j value a b c 2) < 251 := sl_b _ _
                    have sB2 : 0 ≤ (ws j value2 a2 b2 c2 2) ∧ (ws j value2 a2 b2 c2 2) < 251 := sl_b _ _
                    refine xRet_some ?_
                    refine x_icmp_ne (tgt := 152) (dT U_X11_parts 78 rfl) (by decide) (by unfold xr; omega) (by unfold xr; omega) (fun c146 => ?_) (fun c146 => ?_)
                    · skip
                      have n2 : ¬ (fun j9 => ws j value a b c j9 = ws j value2 a2 b2 c2 j9 ∧ ¬ ((wq j value a b c j9).1 = (wq j value2 a2 b2 c2 j9).1 ∧ (wq j value a b c j9).2 = (wq j value2 a2 b2 c2 j9).2)) 2 := fun z => by have := z.1; omega
                      refine x_iinc (ls' := [some (.ref _), some (vi _), some (vi _), some (vi _), some (vi _), some (vi _), some (vi _), some (vi _), some (vi _), some (vi _), some (vi _)]) (dT U_X11_parts 81 rfl) (by decide) rfl rfl ?_
                      refine x_goto (tgt := 88) (dT U_X11_parts 82 rfl) (by decide) ?_
                      refine x_iload (dT U_X11_parts 47 rfl) rfl ?_
                      refine x_iconst (dT U_X11_parts 48 rfl) ?_
                      refine x_icmp_ge (tgt := 158) (dT U_X11_parts 49 rfl) (by decide) (by unfold xr; omega) (by unfold xr; omega) (fun c91 => (by exfalso; omega)) (fun c91 => ?_)
                      refine x_aload_n (dT U_X11_parts 50 rfl) rfl ?_
                      refine x_getfield F_X11_109 (dT U_X11_parts 51 rfl) (hset_ne (by omega) (hset_ne (by omega) (w2.c70))) (Nat.le_of_ble_eq_true rfl) rfl ?_
                      refine x_iconst (dT U_X11_parts 52 rfl) ?_
                      refine x_ialoadv (4) (dT U_X11_parts 53 rfl) (hset_ne (by omega) (hset_eq hy)) (Nat.le_of_ble_eq_true rfl) rfl (by omega) (by omega) yg4 ?_
                      refine x_aload_n (dT U_X11_parts 54 rfl) rfl ?_
                      refine x_getfield F_X11_112 (dT U_X11_parts 55 rfl) (hset_ne (by omega) (hset_ne (by omega) (w2.c70))) (Nat.le_of_ble_eq_true rfl) rfl ?_
                      refine x_iconst (dT U_X11_parts 56 rfl) ?_
                      refine x_ialoadv (4) (dT U_X11_parts 57 rfl) (hset_eq hz9) (Nat.le_of_ble_eq_true rfl) rfl (by omega) (by omega) zg4 ?_
                      have sA : 0 ≤ (ws j value a b c 3) ∧ (ws j value a b c 3) < 251 := sl_b _ _
                      have sB : 0 ≤ (ws j value2 a2 b2 c2 3) ∧ (ws j value2 a2 b2 c2 3) < 251 := sl_b _ _
                      refine x_icmp_ne (tgt := 158) (dT U_X11_parts 58 rfl) (by decide) (by unfold xr; omega) (by unfold xr; omega) (fun c106 => ?_) (fun c106 => ?_)
                      · skip
                        refine x_iconst (dT U_X11_parts 83 rfl) ?_
                        refine x_ireturn (dT U_X11_parts 84 rfl) rfl ?_
                        first
                          | (rw [if_pos (show ws j value a b c 3 = ws j value2 a2 b2 c2 3 by omega), ff_y (P := (fun j9 => ws j value a b c j9 = ws j value2 a2 b2 c2 j9 ∧ ¬ ((wq j value a b c j9).1 = (wq j value2 a2 b2 c2 j9).1 ∧ (wq j value a b c j9).2 = (wq j value2 a2 b2 c2 j9).2))) yes0] at k; exact k (by omega) (by omega) _ _ _ (((Ag.tr (Ag.tr (Ag.rf 70 142 h) (g1.w (by omega))) (g2.w (by omega))).set (by omega)).set (by omega)) ((w2.t140 (h2 := List.set _ 140 (cA 0 y2)) (fun a ha => by rw [hset_fr (by omega)]) (hset_eq hy) my).t141 (fun a ha => by rw [hset_fr (by omega)]) (hset_eq hz9) mz9))
                          | (rw [if_pos (show ws j value a b c 3 = ws j value2 a2 b2 c2 3 by omega), ff_n n0, ff_y (P := (fun j9 => ws j value a b c j9 = ws j value2 a2 b2 c2 j9 ∧ ¬ ((wq j value a b c j9).1 = (wq j value2 a2 b2 c2 j9).1 ∧ (wq j value a b c j9).2 = (wq j value2 a2 b2 c2 j9).2))) yes1] at k; exact k (by omega) (by omega) _ _ _ (((Ag.tr (Ag.tr (Ag.rf 70 142 h) (g1.w (by omega))) (g2.w (by omega))).set (by omega)).set (by omega)) ((w2.t140 (h2 := List.set _ 140 (cA 0 y2)) (fun a ha => by rw [hset_fr (by omega)]) (hset_eq hy) my).t141 (fun a ha => by rw [hset_fr (by omega)]) (hset_eq hz9) mz9))
                          | (rw [if_pos (show ws j value a b c 3 = ws j value2 a2 b2 c2 3 by omega), ff_n n0, ff_n n1, ff_y (P := (fun j9 => ws j value a b c j9 = ws j value2 a2 b2 c2 j9 ∧ ¬ ((wq j value a b c j9).1 = (wq j value2 a2 b2 c2 j9).1 ∧ (wq j value a b c j9).2 = (wq j value2 a2 b2 c2 j9).2))) yes2] at k; exact k (by omega) (by omega) _ _ _ (((Ag.tr (Ag.tr (Ag.rf 70 142 h) (g1.w (by omega))) (g2.w (by omega))).set (by omega)).set (by omega)) ((w2.t140 (h2 := List.set _ 140 (cA 0 y2)) (fun a ha => by rw [hset_fr (by omega)]) (hset_eq hy) my).t141 (fun a ha => by rw [hset_fr (by omega)]) (hset_eq hz9) mz9))
                          | (rw [if_pos (show ws j value a b c 3 = ws j value2 a2 b2 c2 3 by omega), ff_n n0, ff_n n1, ff_n n2, ff_y (P := (fun j9 => ws j value a b c j9 = ws j value2 a2 b2 c2 j9 ∧ ¬ ((wq j value a b c j9).1 = (wq j value2 a2 b2 c2 j9).1 ∧ (wq j value a b c j9).2 = (wq j value2 a2 b2 c2 j9).2))) yes3] at k; exact k (by omega) (by omega) _ _ _ (((Ag.tr (Ag.tr (Ag.rf 70 142 h) (g1.w (by omega))) (g2.w (by omega))).set (by omega)).set (by omega)) ((w2.t140 (h2 := List.set _ 140 (cA 0 y2)) (fun a ha => by rw [hset_fr (by omega)]) (hset_eq hy) my).t141 (fun a ha => by rw [hset_fr (by omega)]) (hset_eq hz9) mz9))
                          | (rw [if_pos (show ws j value a b c 3 = ws j value2 a2 b2 c2 3 by omega), ff_n n0, ff_n n1, ff_n n2, ff_n n3] at k; exact k (by omega) (by omega) _ _ _ (((Ag.tr (Ag.tr (Ag.rf 70 142 h) (g1.w (by omega))) (g2.w (by omega))).set (by omega)).set (by omega)) ((w2.t140 (h2 := List.set _ 140 (cA 0 y2)) (fun a ha => by rw [hset_fr (by omega)]) (hset_eq hy) my).t141 (fun a ha => by rw [hset_fr (by omega)]) (hset_eq hz9) mz9))
                          | (rw [if_neg (show ¬ ws j value a b c 3 = ws j value2 a2 b2 c2 3 by omega)] at k; exact k (by omega) (by omega) _ _ _ (((Ag.tr (Ag.tr (Ag.rf 70 142 h) (g1.w (by omega))) (g2.w (by omega))).set (by omega)).set (by omega)) ((w2.t140 (h2 := List.set _ 140 (cA 0 y2)) (fun a ha => by rw [hset_fr (by omega)]) (hset_eq hy) my).t141 (fun a ha => by rw [hset_fr (by omega)]) (hset_eq hz9) mz9))
                      · skip
                        refine x_aload_n (dT U_X11_parts 59 rfl) rfl ?_
                        refine x_getfield F_X11_109 (dT U_X11_parts 60 rfl) (hset_ne (by omega) (hset_ne (by omega) (w2.c70))) (Nat.le_of_ble_eq_true rfl) rfl ?_
                        refine x_iload (dT U_X11_parts 61 rfl) rfl ?_
                        refine x_ialoadv (3) (dT U_X11_parts 62 rfl) (hset_ne (by omega) (hset_eq hy)) (Nat.le_of_ble_eq_true rfl) rfl (by omega) (by omega) yg3 ?_
                        refine x_aload_n (dT U_X11_parts 63 rfl) rfl ?_
                        refine x_getfield F_X11_112 (dT U_X11_parts 64 rfl) (hset_ne (by omega) (hset_ne (by omega) (w2.c70))) (Nat.le_of_ble_eq_true rfl) rfl ?_
                        refine x_iload (dT U_X11_parts 65 rfl) rfl ?_
                        refine x_ialoadv (3) (dT U_X11_parts 66 rfl) (hset_eq hz9) (Nat.le_of_ble_eq_true rfl) rfl (by omega) (by omega) zg3 ?_
                        have ba3 := wq_b (i := j) (v := value) (a := a) (b := b) (c := c) hj (by omega) (by omega) (by omega) (by omega) 3
                        have bb3 := wq_b (i := j) (v := value2) (a := a2) (b := b2) (c := c2) hj (by omega) (by omega) (by omega) (by omega) 3
                        have ua3 : WN j value a b c 3 = 251 * (wq j value a b c 3).1 + (wq j value a b c 3).2 := rfl
                        have ub3 : WN j value2 a2 b2 c2 3 = 251 * (wq j value2 a2 b2 c2 3).1 + (wq j value2 a2 b2 c2 3).2 := rfl
                        refine x_icmp_eq (tgt := 152) (dT U_X11_parts 67 rfl) (by decide) (by unfold xr; omega) (by unfold xr; omega) (fun c123 => ?_) (fun c123 => ?_)
                        · skip
                          have n3 : ¬ (fun j9 => ws j value a b c j9 = ws j value2 a2 b2 c2 j9 ∧ ¬ ((wq j value a b c j9).1 = (wq j value2 a2 b2 c2 j9).1 ∧ (wq j value a b c j9).2 = (wq j value2 a2 b2 c2 j9).2)) 3 := fun z => z.2 (by omega)
                          refine x_iinc (ls' := [some (.ref _), some (vi _), some (vi _), some (vi _), some (vi _), some (vi _), some (vi _), some (vi _), some (vi _), some (vi _), some (vi _)]) (dT U_X11_parts 81 rfl) (by decide) rfl rfl ?_
                          refine x_goto (tgt := 88) (dT U_X11_parts 82 rfl) (by decide) ?_
                          refine x_iload (dT U_X11_parts 47 rfl) rfl ?_
                          refine x_iconst (dT U_X11_parts 48 rfl) ?_
                          refine x_icmp_ge (tgt := 158) (dT U_X11_parts 49 rfl) (by decide) (by unfold xr; omega) (by unfold xr; omega) (fun c91 => ?_) (fun c91 => (by exfalso; omega))
                          refine x_iconst (dT U_X11_parts 83 rfl) ?_
                          refine x_ireturn (dT U_X11_parts 84 rfl) rfl ?_
                          first
                            | (rw [if_pos (show ws j value a b c 3 = ws j value2 a2 b2 c2 3 by omega), ff_y (P := (fun j9 => ws j value a b c j9 = ws j value2 a2 b2 c2 j9 ∧ ¬ ((wq j value a b c j9).1 = (wq j value2 a2 b2 c2 j9).1 ∧ (wq j value a b c j9).2 = (wq j value2 a2 b2 c2 j9).2))) yes0] at k; exact k (by omega) (by omega) _ _ _ (((Ag.tr (Ag.tr (Ag.rf 70 142 h) (g1.w (by omega))) (g2.w (by omega))).set (by omega)).set (by omega)) ((w2.t140 (h2 := List.set _ 140 (cA 0 y2)) (fun a ha => by rw [hset_fr (by omega)]) (hset_eq hy) my).t141 (fun a ha => by rw [hset_fr (by omega)]) (hset_eq hz9) mz9))
                            | (rw [if_pos (show ws j value a b c 3 = ws j value2 a2 b2 c2 3 by omega), ff_n n0, ff_y (P := (fun j9 => ws j value a b c j9 = ws j value2 a2 b2 c2 j9 ∧ ¬ ((wq j value a b c j9).1 = (wq j value2 a2 b2 c2 j9).1 ∧ (wq j value a b c j9).2 = (wq j value2 a2 b2 c2 j9).2))) yes1] at k; exact k (by omega) (by omega) _ _ _ (((Ag.tr (Ag.tr (Ag.rf 70 142 h) (g1.w (by omega))) (g2.w (by omega))).set (by omega)).set (by omega)) ((w2.t140 (h2 := List.set _ 140 (cA 0 y2)) (fun a ha => by rw [hset_fr (by omega)]) (hset_eq hy) my).t141 (fun a ha => by rw [hset_fr (by omega)]) (hset_eq hz9) mz9))
                            | (rw [if_pos (show ws j value a b c 3 = ws j value2 a2 b2 c2 3 by omega), ff_n n0, ff_n n1, ff_y (P := (fun j9 => ws j value a b c j9 = ws j value2 a2 b2 c2 j9 ∧ ¬ ((wq j value a b c j9).1 = (wq j value2 a2 b2 c2 j9).1 ∧ (wq j value a b c j9).2 = (wq j value2 a2 b2 c2 j9).2))) yes2] at k; exact k (by omega) (by omega) _ _ _ (((Ag.tr (Ag.tr (Ag.rf 70 142 h) (g1.w (by omega))) (g2.w (by omega))).set (by omega)).set (by omega)) ((w2.t140 (h2 := List.set _ 140 (cA 0 y2)) (fun a ha => by rw [hset_fr (by omega)]) (hset_eq hy) my).t141 (fun a ha => by rw [hset_fr (by omega)]) (hset_eq hz9) mz9))
                            | (rw [if_pos (show ws j value a b c 3 = ws j value2 a2 b2 c2 3 by omega), ff_n n0, ff_n n1, ff_n n2, ff_y (P := (fun j9 => ws j value a b c j9 = ws j value2 a2 b2 c2 j9 ∧ ¬ ((wq j value a b c j9).1 = (wq j value2 a2 b2 c2 j9).1 ∧ (wq j value a b c j9).2 = (wq j value2 a2 b2 c2 j9).2))) yes3] at k; exact k (by omega) (by omega) _ _ _ (((Ag.tr (Ag.tr (Ag.rf 70 142 h) (g1.w (by omega))) (g2.w (by omega))).set (by omega)).set (by omega)) ((w2.t140 (h2 := List.set _ 140 (cA 0 y2)) (fun a ha => by rw [hset_fr (by omega)]) (hset_eq hy) my).t141 (fun a ha => by rw [hset_fr (by omega)]) (hset_eq hz9) mz9))
                            | (rw [if_pos (show ws j value a b c 3 = ws j value2 a2 b2 c2 3 by omega), ff_n n0, ff_n n1, ff_n n2, ff_n n3] at k; exact k (by omega) (by omega) _ _ _ (((Ag.tr (Ag.tr (Ag.rf 70 142 h) (g1.w (by omega))) (g2.w (by omega))).set (by omega)).set (by omega)) ((w2.t140 (h2 := List.set _ 140 (cA 0 y2)) (fun a ha => by rw [hset_fr (by omega)]) (hset_eq hy) my).t141 (fun a ha => by rw [hset_fr (by omega)]) (hset_eq hz9) mz9))
                            | (rw [if_neg (show ¬ ws j value a b c 3 = ws j value2 a2 b2 c2 3 by omega)] at k; exact k (by omega) (by omega) _ _ _ (((Ag.tr (Ag.tr (Ag.rf 70 142 h) (g1.w (by omega))) (g2.w (by omega))).set (by omega)).set (by omega)) ((w2.t140 (h2 := List.set _ 140 (cA 0 y2)) (fun a ha => by rw [hset_fr (by omega)]) (hset_eq hy) my).t141 (fun a ha => by rw [hset_fr (by omega)]) (hset_eq hz9) mz9))
                        · skip
                          refine x_aload_n (dT U_X11_parts 68 rfl) rfl ?_
                          refine x_getfield F_X11_109 (dT U_X11_parts 69 rfl) (hset_ne (by omega) (hset_ne (by omega) (w2.c70))) (Nat.le_of_ble_eq_true rfl) rfl ?_
                          refine x_iload (dT U_X11_parts 70 rfl) rfl ?_
                          refine x_ialoadv (3) (dT U_X11_parts 71 rfl) (hset_ne (by omega) (hset_eq hy)) (Nat.le_of_ble_eq_true rfl) rfl (by omega) (by omega) yg3 ?_
                          refine x_invokestatic (rc' := rc) (rs' := rs) (rc2 := 0) (rs2 := 0) (As := [_]) (st := _) M_X11_sealed_ K_X11_231 (dT U_X11_parts 72 rfl) rfl rfl rfl rfl (Nat.le_of_ble_eq_true rfl) rfl (by decide) (Nat.le_of_ble_eq_true rfl) rfl rfl ?_
                          refine S_sealedP (x := (wq j value a b c 3).1) (y := (wq j value a b c 3).2) ba3.1 ba3.2 ?_
                          change xRet _ _ _ _ _ _ _ _ _ _ (.inl (some (vi (ws j value a b c 3)))) _ _
                          refine xRet_some ?_
                          refine x_aload_n (dT U_X11_parts 73 rfl) rfl ?_
                          refine x_getfield F_X11_112 (dT U_X11_parts 74 rfl) (hset_ne (by omega) (hset_ne (by omega) (w2.c70))) (Nat.le_of_ble_eq_true rfl) rfl ?_
                          refine x_iload (dT U_X11_parts 75 rfl) rfl ?_
                          refine x_ialoadv (3) (dT U_X11_parts 76 rfl) (hset_eq hz9) (Nat.le_of_ble_eq_true rfl) rfl (by omega) (by omega) zg3 ?_
                          refine x_invokestatic (rc' := rc) (rs' := rs) (rc2 := 0) (rs2 := 0) (As := [_]) (st := _) M_X11_sealed_ K_X11_231 (dT U_X11_parts 77 rfl) rfl rfl rfl rfl (Nat.le_of_ble_eq_true rfl) rfl (by decide) (Nat.le_of_ble_eq_true rfl) rfl rfl ?_
                          refine S_sealedP (x := (wq j value2 a2 b2 c2 3).1) (y := (wq j value2 a2 b2 c2 3).2) bb3.1 bb3.2 ?_
                          change xRet _ _ _ _ _ _ _ _ _ _ (.inl (some (vi (ws j value2 a2 b2 c2 3)))) _ _
                          have sA3 : 0 ≤ (ws j value a b c 3) ∧ (ws j value a b c 3) < 251 := sl_b _ _
                          have sB3 : 0 ≤ (ws j value2 a2 b2 c2 3) ∧ (ws j value2 a2 b2 c2 3) < 251 := sl_b _ _
                          refine xRet_some ?_
                          refine x_icmp_ne (tgt := 152) (dT U_X11_parts 78 rfl) (by decide) (by unfold xr; omega) (by unfold xr; omega) (fun c146 => ?_) (fun c146 => ?_)
                          · skip
                            have n3 : ¬ (fun j9 => ws j value a b c j9 = ws j value2 a2 b2 c2 j9 ∧ ¬ ((wq j value a b c j9).1 = (wq j value2 a2 b2 c2 j9).1 ∧ (wq j value a b c j9).2 = (wq j value2 a2 b2 c2 j9).2)) 3 := fun z => by have := z.1; omega
                            refine x_iinc (ls' := [some (.ref _), some (vi _), some (vi _), some (vi _), some (vi _), some (vi _), some (vi _), some (vi _), some (vi _), some (vi _), some (vi _)]) (dT U_X11_parts 81 rfl) (by decide) rfl rfl ?_
                            refine x_goto (tgt := 88) (dT U_X11_parts 82 rfl) (by decide) ?_
                            refine x_iload (dT U_X11_parts 47 rfl) rfl ?_
                            refine x_iconst (dT U_X11_parts 48 rfl) ?_
                            refine x_icmp_ge (tgt := 158) (dT U_X11_parts 49 rfl) (by decide) (by unfold xr; omega) (by unfold xr; omega) (fun c91 => ?_) (fun c91 => (by exfalso; omega))
                            refine x_iconst (dT U_X11_parts 83 rfl) ?_
                            refine x_ireturn (dT U_X11_parts 84 rfl) rfl ?_
                            first
                              | (rw [if_pos (show ws j value a b c 3 = ws j value2 a2 b2 c2 3 by omega), ff_y (P := (fun j9 => ws j value a b c j9 = ws j value2 a2 b2 c2 j9 ∧ ¬ ((wq j value a b c j9).1 = (wq j value2 a2 b2 c2 j9).1 ∧ (wq j value a b c j9).2 = (wq j value2 a2 b2 c2 j9).2))) yes0] at k; exact k (by omega) (by omega) _ _ _ (((Ag.tr (Ag.tr (Ag.rf 70 142 h) (g1.w (by omega))) (g2.w (by omega))).set (by omega)).set (by omega)) ((w2.t140 (h2 := List.set _ 140 (cA 0 y2)) (fun a ha => by rw [hset_fr (by omega)]) (hset_eq hy) my).t141 (fun a ha => by rw [hset_fr (by omega)]) (hset_eq hz9) mz9))
                              | (rw [if_pos (show ws j value a b c 3 = ws j value2 a2 b2 c2 3 by omega), ff_n n0, ff_y (P := (fun j9 => ws j value a b c j9 = ws j value2 a2 b2 c2 j9 ∧ ¬ ((wq j value a b c j9).1 = (wq j value2 a2 b2 c2 j9).1 ∧ (wq j value a b c j9).2 = (wq j value2 a2 b2 c2 j9).2))) yes1] at k; exact k (by omega) (by omega) _ _ _ (((Ag.tr (Ag.tr (Ag.rf 70 142 h) (g1.w (by omega))) (g2.w (by omega))).set (by omega)).set (by omega)) ((w2.t140 (h2 := List.set _ 140 (cA 0 y2)) (fun a ha => by rw [hset_fr (by omega)]) (hset_eq hy) my).t141 (fun a ha => by rw [hset_fr (by omega)]) (hset_eq hz9) mz9))
                              | (rw [if_pos (show ws j value a b c 3 = ws j value2 a2 b2 c2 3 by omega), ff_n n0, ff_n n1, ff_y (P := (fun j9 => ws j value a b c j9 = ws j value2 a2 b2 c2 j9 ∧ ¬ ((wq j value a b c j9).1 = (wq j value2 a2 b2 c2 j9).1 ∧ (wq j value a b c j9).2 = (wq j value2 a2 b2 c2 j9).2))) yes2] at k; exact k (by omega) (by omega) _ _ _ (((Ag.tr (Ag.tr (Ag.rf 70 142 h) (g1.w (by omega))) (g2.w (by omega))).set (by omega)).set (by omega)) ((w2.t140 (h2 := List.set _ 140 (cA 0 y2)) (fun a ha => by rw [hset_fr (by omega)]) (hset_eq hy) my).t141 (fun a ha => by rw [hset_fr (by omega)]) (hset_eq hz9) mz9))
                              | (rw [if_pos (show ws j value a b c 3 = ws j value2 a2 b2 c2 3 by omega), ff_n n0, ff_n n1, ff_n n2, ff_y (P := (fun j9 => ws j value a b c j9 = ws j value2 a2 b2 c2 j9 ∧ ¬ ((wq j value a b c j9).1 = (wq j value2 a2 b2 c2 j9).1 ∧ (wq j value a b c j9).2 = (wq j value2 a2 b2 c2 j9).2))) yes3] at k; exact k (by omega) (by omega) _ _ _ (((Ag.tr (Ag.tr (Ag.rf 70 142 h) (g1.w (by omega))) (g2.w (by omega))).set (by omega)).set (by omega)) ((w2.t140 (h2 := List.set _ 140 (cA 0 y2)) (fun a ha => by rw [hset_fr (by omega)]) (hset_eq hy) my).t141 (fun a ha => by rw [hset_fr (by omega)]) (hset_eq hz9) mz9))
                              | (rw [if_pos (show ws j value a b c 3 = ws j value2 a2 b2 c2 3 by omega), ff_n n0, ff_n n1, ff_n n2, ff_n n3] at k; exact k (by omega) (by omega) _ _ _ (((Ag.tr (Ag.tr (Ag.rf 70 142 h) (g1.w (by omega))) (g2.w (by omega))).set (by omega)).set (by omega)) ((w2.t140 (h2 := List.set _ 140 (cA 0 y2)) (fun a ha => by rw [hset_fr (by omega)]) (hset_eq hy) my).t141 (fun a ha => by rw [hset_fr (by omega)]) (hset_eq hz9) mz9))
                              | (rw [if_neg (show ¬ ws j value a b c 3 = ws j value2 a2 b2 c2 3 by omega)] at k; exact k (by omega) (by omega) _ _ _ (((Ag.tr (Ag.tr (Ag.rf 70 142 h) (g1.w (by omega))) (g2.w (by omega))).set (by omega)).set (by omega)) ((w2.t140 (h2 := List.set _ 140 (cA 0 y2)) (fun a ha => by rw [hset_fr (by omega)]) (hset_eq hy) my).t141 (fun a ha => by rw [hset_fr (by omega)]) (hset_eq hz9) mz9))
                          · skip
                            have yes3 : (fun j9 => ws j value a b c j9 = ws j value2 a2 b2 c2 j9 ∧ ¬ ((wq j value a b c j9).1 = (wq j value2 a2 b2 c2 j9).1 ∧ (wq j value a b c j9).2 = (wq j value2 a2 b2 c2 j9).2)) 3 := ⟨by omega, fun z => by omega⟩
                            refine x_iload (dT U_X11_parts 79 rfl) rfl ?_
                            refine x_ireturn (dT U_X11_parts 80 rfl) rfl ?_
                            first
                              | (rw [if_pos (show ws j value a b c 3 = ws j value2 a2 b2 c2 3 by omega), ff_y (P := (fun j9 => ws j value a b c j9 = ws j value2 a2 b2 c2 j9 ∧ ¬ ((wq j value a b c j9).1 = (wq j value2 a2 b2 c2 j9).1 ∧ (wq j value a b c j9).2 = (wq j value2 a2 b2 c2 j9).2))) yes0] at k; exact k (by omega) (by omega) _ _ _ (((Ag.tr (Ag.tr (Ag.rf 70 142 h) (g1.w (by omega))) (g2.w (by omega))).set (by omega)).set (by omega)) ((w2.t140 (h2 := List.set _ 140 (cA 0 y2)) (fun a ha => by rw [hset_fr (by omega)]) (hset_eq hy) my).t141 (fun a ha => by rw [hset_fr (by omega)]) (hset_eq hz9) mz9))
                              | (rw [if_pos (show ws j value a b c 3 = ws j value2 a2 b2 c2 3 by omega), ff_n n0, ff_y (P := (fun j9 => ws j value a b c j9 = ws j value2 a2 b2 c2 j9 ∧ ¬ ((wq j value a b c j9).1 = (wq j value2 a2 b2 c2 j9).1 ∧ (wq j value a b c j9).2 = (wq j value2 a2 b2 c2 j9).2))) yes1] at k; exact k (by omega) (by omega) _ _ _ (((Ag.tr (Ag.tr (Ag.rf 70 142 h) (g1.w (by omega))) (g2.w (by omega))).set (by omega)).set (by omega)) ((w2.t140 (h2 := List.set _ 140 (cA 0 y2)) (fun a ha => by rw [hset_fr (by omega)]) (hset_eq hy) my).t141 (fun a ha => by rw [hset_fr (by omega)]) (hset_eq hz9) mz9))
                              | (rw [if_pos (show ws j value a b c 3 = ws j value2 a2 b2 c2 3 by omega), ff_n n0, ff_n n1, ff_y (P := (fun j9 => ws j value a b c j9 = ws j value2 a2 b2 c2 j9 ∧ ¬ ((wq j value a b c j9).1 = (wq j value2 a2 b2 c2 j9).1 ∧ (wq j value a b c j9).2 = (wq j value2 a2 b2 c2 j9).2))) yes2] at k; exact k (by omega) (by omega) _ _ _ (((Ag.tr (Ag.tr (Ag.rf 70 142 h) (g1.w (by omega))) (g2.w (by omega))).set (by omega)).set (by omega)) ((w2.t140 (h2 := List.set _ 140 (cA 0 y2)) (fun a ha => by rw [hset_fr (by omega)]) (hset_eq hy) my).t141 (fun a ha => by rw [hset_fr (by omega)]) (hset_eq hz9) mz9))
                              | (rw [if_pos (show ws j value a b c 3 = ws j value2 a2 b2 c2 3 by omega), ff_n n0, ff_n n1, ff_n n2, ff_y (P := (fun j9 => ws j value a b c j9 = ws j value2 a2 b2 c2 j9 ∧ ¬ ((wq j value a b c j9).1 = (wq j value2 a2 b2 c2 j9).1 ∧ (wq j value a b c j9).2 = (wq j value2 a2 b2 c2 j9).2))) yes3] at k; exact k (by omega) (by omega) _ _ _ (((Ag.tr (Ag.tr (Ag.rf 70 142 h) (g1.w (by omega))) (g2.w (by omega))).set (by omega)).set (by omega)) ((w2.t140 (h2 := List.set _ 140 (cA 0 y2)) (fun a ha => by rw [hset_fr (by omega)]) (hset_eq hy) my).t141 (fun a ha => by rw [hset_fr (by omega)]) (hset_eq hz9) mz9))
                              | (rw [if_pos (show ws j value a b c 3 = ws j value2 a2 b2 c2 3 by omega), ff_n n0, ff_n n1, ff_n n2, ff_n n3] at k; exact k (by omega) (by omega) _ _ _ (((Ag.tr (Ag.tr (Ag.rf 70 142 h) (g1.w (by omega))) (g2.w (by omega))).set (by omega)).set (by omega)) ((w2.t140 (h2 := List.set _ 140 (cA 0 y2)) (fun a ha => by rw [hset_fr (by omega)]) (hset_eq hy) my).t141 (fun a ha => by rw [hset_fr (by omega)]) (hset_eq hz9) mz9))
                              | (rw [if_neg (show ¬ ws j value a b c 3 = ws j value2 a2 b2 c2 3 by omega)] at k; exact k (by omega) (by omega) _ _ _ (((Ag.tr (Ag.tr (Ag.rf 70 142 h) (g1.w (by omega))) (g2.w (by omega))).set (by omega)).set (by omega)) ((w2.t140 (h2 := List.set _ 140 (cA 0 y2)) (fun a ha => by rw [hset_fr (by omega)]) (hset_eq hy) my).t141 (fun a ha => by rw [hset_fr (by omega)]) (hset_eq hz9) mz9))
                    · skip
                      have yes2 : (fun j9 => ws j value a b c j9 = ws j value2 a2 b2 c2 j9 ∧ ¬ ((wq j value a b c j9).1 = (wq j value2 a2 b2 c2 j9).1 ∧ (wq j value a b c j9).2 = (wq j value2 a2 b2 c2 j9).2)) 2 := ⟨by omega, fun z => by omega⟩
                      refine x_iload (dT U_X11_parts 79 rfl) rfl ?_
                      refine x_ireturn (dT U_X11_parts 80 rfl) rfl ?_
                      first
                        | (rw [if_pos (show ws j value a b c 3 = ws j value2 a2 b2 c2 3 by omega), ff_y (P := (fun j9 => ws j value a b c j9 = ws j value2 a2 b2 c2 j9 ∧ ¬ ((wq j value a b c j9).1 = (wq j value2 a2 b2 c2 j9).1 ∧ (wq j value a b c j9).2 = (wq j value2 a2 b2 c2 j9).2))) yes0] at k; exact k (by omega) (by omega) _ _ _ (((Ag.tr (Ag.tr (Ag.rf 70 142 h) (g1.w (by omega))) (g2.w (by omega))).set (by omega)).set (by omega)) ((w2.t140 (h2 := List.set _ 140 (cA 0 y2)) (fun a ha => by rw [hset_fr (by omega)]) (hset_eq hy) my).t141 (fun a ha => by rw [hset_fr (by omega)]) (hset_eq hz9) mz9))
                        | (rw [if_pos (show ws j value a b c 3 = ws j value2 a2 b2 c2 3 by omega), ff_n n0, ff_y (P := (fun j9 => ws j value a b c j9 = ws j value2 a2 b2 c2 j9 ∧ ¬ ((wq j value a b c j9).1 = (wq j value2 a2 b2 c2 j9).1 ∧ (wq j value a b c j9).2 = (wq j value2 a2 b2 c2 j9).2))) yes1] at k; exact k (by omega) (by omega) _ _ _ (((Ag.tr (Ag.tr (Ag.rf 70 142 h) (g1.w (by omega))) (g2.w (by omega))).set (by omega)).set (by omega)) ((w2.t140 (h2 := List.set _ 140 (cA 0 y2)) (fun a ha => by rw [hset_fr (by omega)]) (hset_eq hy) my).t141 (fun a ha => by rw [hset_fr (by omega)]) (hset_eq hz9) mz9))
                        | (rw [if_pos (show ws j value a b c 3 = ws j value2 a2 b2 c2 3 by omega), ff_n n0, ff_n n1, ff_y (P := (fun j9 => ws j value a b c j9 = ws j value2 a2 b2 c2 j9 ∧ ¬ ((wq j value a b c j9).1 = (wq j value2 a2 b2 c2 j9).1 ∧ (wq j value a b c j9).2 = (wq j value2 a2 b2 c2 j9).2))) yes2] at k; exact k (by omega) (by omega) _ _ _ (((Ag.tr (Ag.tr (Ag.rf 70 142 h) (g1.w (by omega))) (g2.w (by omega))).set (by omega)).set (by omega)) ((w2.t140 (h2 := List.set _ 140 (cA 0 y2)) (fun a ha => by rw [hset_fr (by omega)]) (hset_eq hy) my).t141 (fun a ha => by rw [hset_fr (by omega)]) (hset_eq hz9) mz9))
                        | (rw [if_pos (show ws j value a b c 3 = ws j value2 a2 b2 c2 3 by omega), ff_n n0, ff_n n1, ff_n n2, ff_y (P := (fun j9 => ws j value a b c j9 = ws j value2 a2 b2 c2 j9 ∧ ¬ ((wq j value a b c j9).1 = (wq j value2 a2 b2 c2 j9).1 ∧ (wq j value a b c j9).2 = (wq j value2 a2 b2 c2 j9).2))) yes3] at k; exact k (by omega) (by omega) _ _ _ (((Ag.tr (Ag.tr (Ag.rf 70 142 h) (g1.w (by omega))) (g2.w (by omega))).set (by omega)).set (by omega)) ((w2.t140 (h2 := List.set _ 140 (cA 0 y2)) (fun a ha => by rw [hset_fr (by omega)]) (hset_eq hy) my).t141 (fun a ha => by rw [hset_fr (by omega)]) (hset_eq hz9) mz9))
                        | (rw [if_pos (show ws j value a b c 3 = ws j value2 a2 b2 c2 3 by omega), ff_n n0, ff_n n1, ff_n n2, ff_n n3] at k; exact k (by omega) (by omega) _ _ _ (((Ag.tr (Ag.tr (Ag.rf 70 142 h) (g1.w (by omega))) (g2.w (by omega))).set (by omega)).set (by omega)) ((w2.t140 (h2 := List.set _ 140 (cA 0 y2)) (fun a ha => by rw [hset_fr (by omega)]) (hset_eq hy) my).t141 (fun a ha => by rw [hset_fr (by omega)]) (hset_eq hz9) mz9))
                        | (rw [if_neg (show ¬ ws j value a b c 3 = ws j value2 a2 b2 c2 3 by omega)] at k; exact k (by omega) (by omega) _ _ _ (((Ag.tr (Ag.tr (Ag.rf 70 142 h) (g1.w (by omega))) (g2.w (by omega))).set (by omega)).set (by omega)) ((w2.t140 (h2 := List.set _ 140 (cA 0 y2)) (fun a ha => by rw [hset_fr (by omega)]) (hset_eq hy) my).t141 (fun a ha => by rw [hset_fr (by omega)]) (hset_eq hz9) mz9))
              · skip
                refine x_aload_n (dT U_X11_parts 68 rfl) rfl ?_
                refine x_getfield F_X11_109 (dT U_X11_parts 69 rfl) (hset_ne (by omega) (hset_ne (by omega) (w2.c70))) (Nat.le_of_ble_eq_true rfl) rfl ?_
                refine x_iload (dT U_X11_parts 70 rfl) rfl ?_
                refine x_ialoadv (1) (dT U_X11_parts 71 rfl) (hset_ne (by omega) (hset_eq hy)) (Nat.le_of_ble_eq_true rfl) rfl (by omega) (by omega) yg1 ?_
                refine x_invokestatic (rc' := rc) (rs' := rs) (rc2 := 0) (rs2 := 0) (As := [_]) (st := _) M_X11_sealed_ K_X11_231 (dT U_X11_parts 72 rfl) rfl rfl rfl rfl (Nat.le_of_ble_eq_true rfl) rfl (by decide) (Nat.le_of_ble_eq_true rfl) rfl rfl ?_
                refine S_sealedP (x := (wq j value a b c 1).1) (y := (wq j value a b c 1).2) ba1.1 ba1.2 ?_
                change xRet _ _ _ _ _ _ _ _ _ _ (.inl (some (vi (ws j value a b c 1)))) _ _
                refine xRet_some ?_
                refine x_aload_n (dT U_X11_parts 73 rfl) rfl ?_
                refine x_getfield F_X11_112 (dT U_X11_parts 74 rfl) (hset_ne (by omega) (hset_ne (by omega) (w2.c70))) (Nat.le_of_ble_eq_true rfl) rfl ?_
                refine x_iload (dT U_X11_parts 75 rfl) rfl ?_
                refine x_ialoadv (1) (dT U_X11_parts 76 rfl) (hset_eq hz9) (Nat.le_of_ble_eq_true rfl) rfl (by omega) (by omega) zg1 ?_
                refine x_invokestatic (rc' := rc) (rs' := rs) (rc2 := 0) (rs2 := 0) (As := [_]) (st := _) M_X11_sealed_ K_X11_231 (dT U_X11_parts 77 rfl) rfl rfl rfl rfl (Nat.le_of_ble_eq_true rfl) rfl (by decide) (Nat.le_of_ble_eq_true rfl) rfl rfl ?_
                refine S_sealedP (x := (wq j value2 a2 b2 c2 1).1) (y := (wq j value2 a2 b2 c2 1).2) bb1.1 bb1.2 ?_
                change xRet _ _ _ _ _ _ _ _ _ _ (.inl (some (vi (ws j value2 a2 b2 c2 1)))) _ _
                have sA1 : 0 ≤ (ws j value a b c 1) ∧ (ws j value a b c 1) < 251 := sl_b _ _
                have sB1 : 0 ≤ (ws j value2 a2 b2 c2 1) ∧ (ws j value2 a2 b2 c2 1) < 251 := sl_b _ _
                refine xRet_some ?_
                refine x_icmp_ne (tgt := 152) (dT U_X11_parts 78 rfl) (by decide) (by unfold xr; omega) (by unfold xr; omega) (fun c146 => ?_) (fun c146 => ?_)
                · skip
                  have n1 : ¬ (fun j9 => ws j value a b c j9 = ws j value2 a2 b2 c2 j9 ∧ ¬ ((wq j value a b c j9).1 = (wq j value2 a2 b2 c2 j9).1 ∧ (wq j value a b c j9).2 = (wq j value2 a2 b2 c2 j9).2)) 1 := fun z => by have := z.1; omega
                  refine x_iinc (ls' := [some (.ref _), some (vi _), some (vi _), some (vi _), some (vi _), some (vi _), some (vi _), some (vi _), some (vi _), some (vi _), some (vi _)]) (dT U_X11_parts 81 rfl) (by decide) rfl rfl ?_
                  refine x_goto (tgt := 88) (dT U_X11_parts 82 rfl) (by decide) ?_
                  refine x_iload (dT U_X11_parts 47 rfl) rfl ?_
                  refine x_iconst (dT U_X11_parts 48 rfl) ?_
                  refine x_icmp_ge (tgt := 158) (dT U_X11_parts 49 rfl) (by decide) (by unfold xr; omega) (by unfold xr; omega) (fun c91 => (by exfalso; omega)) (fun c91 => ?_)
                  refine x_aload_n (dT U_X11_parts 50 rfl) rfl ?_
                  refine x_getfield F_X11_109 (dT U_X11_parts 51 rfl) (hset_ne (by omega) (hset_ne (by omega) (w2.c70))) (Nat.le_of_ble_eq_true rfl) rfl ?_
                  refine x_iconst (dT U_X11_parts 52 rfl) ?_
                  refine x_ialoadv (4) (dT U_X11_parts 53 rfl) (hset_ne (by omega) (hset_eq hy)) (Nat.le_of_ble_eq_true rfl) rfl (by omega) (by omega) yg4 ?_
                  refine x_aload_n (dT U_X11_parts 54 rfl) rfl ?_
                  refine x_getfield F_X11_112 (dT U_X11_parts 55 rfl) (hset_ne (by omega) (hset_ne (by omega) (w2.c70))) (Nat.le_of_ble_eq_true rfl) rfl ?_
                  refine x_iconst (dT U_X11_parts 56 rfl) ?_
                  refine x_ialoadv (4) (dT U_X11_parts 57 rfl) (hset_eq hz9) (Nat.le_of_ble_eq_true rfl) rfl (by omega) (by omega) zg4 ?_
                  have sA : 0 ≤ (ws j value a b c 3) ∧ (ws j value a b c 3) < 251 := sl_b _ _
                  have sB : 0 ≤ (ws j value2 a2 b2 c2 3) ∧ (ws j value2 a2 b2 c2 3) < 251 := sl_b _ _
                  refine x_icmp_ne (tgt := 158) (dT U_X11_parts 58 rfl) (by decide) (by unfold xr; omega) (by unfold xr; omega) (fun c106 => ?_) (fun c106 => ?_)
                  · skip
                    refine x_iconst (dT U_X11_parts 83 rfl) ?_
                    refine x_ireturn (dT U_X11_parts 84 rfl) rfl ?_
                    first
                      | (rw [if_pos (show ws j value a b c 3 = ws j value2 a2 b2 c2 3 by omega), ff_y (P := (fun j9 => ws j value a b c j9 = ws j value2 a2 b2 c2 j9 ∧ ¬ ((wq j value a b c j9).1 = (wq j value2 a2 b2 c2 j9).1 ∧ (wq j value a b c j9).2 = (wq j value2 a2 b2 c2 j9).2))) yes0] at k; exact k (by omega) (by omega) _ _ _ (((Ag.tr (Ag.tr (Ag.rf 70 142 h) (g1.w (by omega))) (g2.w (by omega))).set (by omega)).set (by omega)) ((w2.t140 (h2 := List.set _ 140 (cA 0 y2)) (fun a ha => by rw [hset_fr (by omega)]) (hset_eq hy) my).t141 (fun a ha => by rw [hset_fr (by omega)]) (hset_eq hz9) mz9))
                      | (rw [if_pos (show ws j value a b c 3 = ws j value2 a2 b2 c2 3 by omega), ff_n n0, ff_y (P := (fun j9 => ws j value a b c j9 = ws j value2 a2 b2 c2 j9 ∧ ¬ ((wq j value a b c j9).1 = (wq j value2 a2 b2 c2 j9).1 ∧ (wq j value a b c j9).2 = (wq j value2 a2 b2 c2 j9).2))) yes1] at k; exact k (by omega) (by omega) _ _ _ (((Ag.tr (Ag.tr (Ag.rf 70 142 h) (g1.w (by omega))) (g2.w (by omega))).set (by omega)).set (by omega)) ((w2.t140 (h2 := List.set _ 140 (cA 0 y2)) (fun a ha => by rw [hset_fr (by omega)]) (hset_eq hy) my).t141 (fun a ha => by rw [hset_fr (by omega)]) (hset_eq hz9) mz9))
                      | (rw [if_pos (show ws j value a b c 3 = ws j value2 a2 b2 c2 3 by omega), ff_n n0, ff_n n1, ff_y (P := (fun j9 => ws j value a b c j9 = ws j value2 a2 b2 c2 j9 ∧ ¬ ((wq j value a b c j9).1 = (wq j value2 a2 b2 c2 j9).1 ∧ (wq j value a b c j9).2 = (wq j value2 a2 b2 c2 j9).2))) yes2] at k; exact k (by omega) (by omega) _ _ _ (((Ag.tr (Ag.tr (Ag.rf 70 142 h) (g1.w (by omega))) (g2.w (by omega))).set (by omega)).set (by omega)) ((w2.t140 (h2 := List.set _ 140 (cA 0 y2)) (fun a ha => by rw [hset_fr (by omega)]) (hset_eq hy) my).t141 (fun a ha => by rw [hset_fr (by omega)]) (hset_eq hz9) mz9))
                      | (rw [if_pos (show ws j value a b c 3 = ws j value2 a2 b2 c2 3 by omega), ff_n n0, ff_n n1, ff_n n2, ff_y (P := (fun j9 => ws j value a b c j9 = ws j value2 a2 b2 c2 j9 ∧ ¬ ((wq j value a b c j9).1 = (wq j value2 a2 b2 c2 j9).1 ∧ (wq j value a b c j9).2 = (wq j value2 a2 b2 c2 j9).2))) yes3] at k; exact k (by omega) (by omega) _ _ _ (((Ag.tr (Ag.tr (Ag.rf 70 142 h) (g1.w (by omega))) (g2.w (by omega))).set (by omega)).set (by omega)) ((w2.t140 (h2 := List.set _ 140 (cA 0 y2)) (fun a ha => by rw [hset_fr (by omega)]) (hset_eq hy) my).t141 (fun a ha => by rw [hset_fr (by omega)]) (hset_eq hz9) mz9))
                      | (rw [if_pos (show ws j value a b c 3 = ws j value2 a2 b2 c2 3 by omega), ff_n n0, ff_n n1, ff_n n2, ff_n n3] at k; exact k (by omega) (by omega) _ _ _ (((Ag.tr (Ag.tr (Ag.rf 70 142 h) (g1.w (by omega))) (g2.w (by omega))).set (by omega)).set (by omega)) ((w2.t140 (h2 := List.set _ 140 (cA 0 y2)) (fun a ha => by rw [hset_fr (by omega)]) (hset_eq hy) my).t141 (fun a ha => by rw [hset_fr (by omega)]) (hset_eq hz9) mz9))
                      | (rw [if_neg (show ¬ ws j value a b c 3 = ws j value2 a2 b2 c2 3 by omega)] at k; exact k (by omega) (by omega) _ _ _ (((Ag.tr (Ag.tr (Ag.rf 70 142 h) (g1.w (by omega))) (g2.w (by omega))).set (by omega)).set (by omega)) ((w2.t140 (h2 := List.set _ 140 (cA 0 y2)) (fun a ha => by rw [hset_fr (by omega)]) (hset_eq hy) my).t141 (fun a ha => by rw [hset_fr (by omega)]) (hset_eq hz9) mz9))
                  · skip
                    refine x_aload_n (dT U_X11_parts 59 rfl) rfl ?_
                    refine x_getfield F_X11_109 (dT U_X11_parts 60 rfl) (hset_ne (by omega) (hset_ne (by omega) (w2.c70))) (Nat.le_of_ble_eq_true rfl) rfl ?_
                    refine x_iload (dT U_X11_parts 61 rfl) rfl ?_
                    refine x_ialoadv (2) (dT U_X11_parts 62 rfl) (hset_ne (by omega) (hset_eq hy)) (Nat.le_of_ble_eq_true rfl) rfl (by omega) (by omega) yg2 ?_
                    refine x_aload_n (dT U_X11_parts 63 rfl) rfl ?_
                    refine x_getfield F_X11_112 (dT U_X11_parts 64 rfl) (hset_ne (by omega) (hset_ne (by omega) (w2.c70))) (Nat.le_of_ble_eq_true rfl) rfl ?_
                    refine x_iload (dT U_X11_parts 65 rfl) rfl ?_
                    refine x_ialoadv (2) (dT U_X11_parts 66 rfl) (hset_eq hz9) (Nat.le_of_ble_eq_true rfl) rfl (by omega) (by omega) zg2 ?_
                    have ba2 := wq_b (i := j) (v := value) (a := a) (b := b) (c := c) hj (by omega) (by omega) (by omega) (by omega) 2
                    have bb2 := wq_b (i := j) (v := value2) (a := a2) (b := b2) (c := c2) hj (by omega) (by omega) (by omega) (by omega) 2
                    have ua2 : WN j value a b c 2 = 251 * (wq j value a b c 2).1 + (wq j value a b c 2).2 := rfl
                    have ub2 : WN j value2 a2 b2 c2 2 = 251 * (wq j value2 a2 b2 c2 2).1 + (wq j value2 a2 b2 c2 2).2 := rfl
                    refine x_icmp_eq (tgt := 152) (dT U_X11_parts 67 rfl) (by decide) (by unfold xr; omega) (by unfold xr; omega) (fun c123 => ?_) (fun c123 => ?_)
                    · skip
                      have n2 : ¬ (fun j9 => ws j value a b c j9 = ws j value2 a2 b2 c2 j9 ∧ ¬ ((wq j value a b c j9).1 = (wq j value2 a2 b2 c2 j9).1 ∧ (wq j value a b c j9).2 = (wq j value2 a2 b2 c2 j9).2)) 2 := fun z => z.2 (by omega)
                      refine x_iinc (ls' := [some (.ref _), some (vi _), some (vi _), some (vi _), some (vi _), some (vi _), some (vi _), some (vi _), some (vi _), some (vi _), some (vi _)]) (dT U_X11_parts 81 rfl) (by decide) rfl rfl ?_
                      refine x_goto (tgt := 88) (dT U_X11_parts 82 rfl) (by decide) ?_
                      refine x_iload (dT U_X11_parts 47 rfl) rfl ?_
                      refine x_iconst (dT U_X11_parts 48 rfl) ?_
                      refine x_icmp_ge (tgt := 158) (dT U_X11_parts 49 rfl) (by decide) (by unfold xr; omega) (by unfold xr; omega) (fun c91 => (by exfalso; omega)) (fun c91 => ?_)
                      refine x_aload_n (dT U_X11_parts 50 rfl) rfl ?_
                      refine x_getfield F_X11_109 (dT U_X11_parts 51 rfl) (hset_ne (by omega) (hset_ne (by omega) (w2.c70))) (Nat.le_of_ble_eq_true rfl) rfl ?_
                      refine x_iconst (dT U_X11_parts 52 rfl) ?_
                      refine x_ialoadv (4) (dT U_X11_parts 53 rfl) (hset_ne (by omega) (hset_eq hy)) (Nat.le_of_ble_eq_true rfl) rfl (by omega) (by omega) yg4 ?_
                      refine x_aload_n (dT U_X11_parts 54 rfl) rfl ?_
                      refine x_getfield F_X11_112 (dT U_X11_parts 55 rfl) (hset_ne (by omega) (hset_ne (by omega) (w2.c70))) (Nat.le_of_ble_eq_true rfl) rfl ?_
                      refine x_iconst (dT U_X11_parts 56 rfl) ?_
                      refine x_ialoadv (4) (dT U_X11_parts 57 rfl) (hset_eq hz9) (Nat.le_of_ble_eq_true rfl) rfl (by omega) (by omega) zg4 ?_
                      have sA : 0 ≤ (ws j value a b c 3) ∧ (ws j value a b c 3) < 251 := sl_b _ _
                      have sB : 0 ≤ (ws j value2 a2 b2 c2 3) ∧ (ws j value2 a2 b2 c2 3) < 251 := sl_b _ _
                      refine x_icmp_ne (tgt := 158) (dT U_X11_parts 58 rfl) (by decide) (by unfold xr; omega) (by unfold xr; omega) (fun c106 => ?_) (fun c106 => ?_)
                      · skip
                        refine x_iconst (dT U_X11_parts 83 rfl) ?_
                        refine x_ireturn (dT U_X11_parts 84 rfl) rfl ?_
                        first
                          | (rw [if_pos (show ws j value a b c 3 = ws j value2 a2 b2 c2 3 by omega), ff_y (P := (fun j9 => ws j value a b c j9 = ws j value2 a2 b2 c2 j9 ∧ ¬ ((wq j value a b c j9).1 = (wq j value2 a2 b2 c2 j9).1 ∧ (wq j value a b c j9).2 = (wq j value2 a2 b2 c2 j9).2))) yes0] at k; exact k (by omega) (by omega) _ _ _ (((Ag.tr (Ag.tr (Ag.rf 70 142 h) (g1.w (by omega))) (g2.w (by omega))).set (by omega)).set (by omega)) ((w2.t140 (h2 := List.set _ 140 (cA 0 y2)) (fun a ha => by rw [hset_fr (by omega)]) (hset_eq hy) my).t141 (fun a ha => by rw [hset_fr (by omega)]) (hset_eq hz9) mz9))
                          | (rw [if_pos (show ws j value a b c 3 = ws j value2 a2 b2 c2 3 by omega), ff_n n0, ff_y (P := (fun j9 => ws j value a b c j9 = ws j value2 a2 b2 c2 j9 ∧ ¬ ((wq j value a b c j9).1 = (wq j value2 a2 b2 c2 j9).1 ∧ (wq j value a b c j9).2 = (wq j value2 a2 b2 c2 j9).2))) yes1] at k; exact k (by omega) (by omega) _ _ _ (((Ag.tr (Ag.tr (Ag.rf 70 142 h) (g1.w (by omega))) (g2.w (by omega))).set (by omega)).set (by omega)) ((w2.t140 (h2 := List.set _ 140 (cA 0 y2)) (fun a ha => by rw [hset_fr (by omega)]) (hset_eq hy) my).t141 (fun a ha => by rw [hset_fr (by omega)]) (hset_eq hz9) mz9))
                          | (rw [if_pos (show ws j value a b c 3 = ws j value2 a2 b2 c2 3 by omega), ff_n n0, ff_n n1, ff_y (P := (fun j9 => ws j value a b c j9 = ws j value2 a2 b2 c2 j9 ∧ ¬ ((wq j value a b c j9).1 = (wq j value2 a2 b2 c2 j9).1 ∧ (wq j value a b c j9).2 = (wq j value2 a2 b2 c2 j9).2))) yes2] at k; exact k (by omega) (by omega) _ _ _ (((Ag.tr (Ag.tr (Ag.rf 70 142 h) (g1.w (by omega))) (g2.w (by omega))).set (by omega)).set (by omega)) ((w2.t140 (h2 := List.set _ 140 (cA 0 y2)) (fun a ha => by rw [hset_fr (by omega)]) (hset_eq hy) my).t141 (fun a ha => by rw [hset_fr (by omega)]) (hset_eq hz9) mz9))
                          | (rw [if_pos (show ws j value a b c 3 = ws j value2 a2 b2 c2 3 by omega), ff_n n0, ff_n n1, ff_n n2, ff_y (P := (fun j9 => ws j value a b c j9 = ws j value2 a2 b2 c2 j9 ∧ ¬ ((wq j value a b c j9).1 = (wq j value2 a2 b2 c2 j9).1 ∧ (wq j value a b c j9).2 = (wq j value2 a2 b2 c2 j9).2))) yes3] at k; exact k (by omega) (by omega) _ _ _ (((Ag.tr (Ag.tr (Ag.rf 70 142 h) (g1.w (by omega))) (g2.w (by omega))).set (by omega)).set (by omega)) ((w2.t140 (h2 := List.set _ 140 (cA 0 y2)) (fun a ha => by rw [hset_fr (by omega)]) (hset_eq hy) my).t141 (fun a ha => by rw [hset_fr (by omega)]) (hset_eq hz9) mz9))
                          | (rw [if_pos (show ws j value a b c 3 = ws j value2 a2 b2 c2 3 by omega), ff_n n0, ff_n n1, ff_n n2, ff_n n3] at k; exact k (by omega) (by omega) _ _ _ (((Ag.tr (Ag.tr (Ag.rf 70 142 h) (g1.w (by omega))) (g2.w (by omega))).set (by omega)).set (by omega)) ((w2.t140 (h2 := List.set _ 140 (cA 0 y2)) (fun a ha => by rw [hset_fr (by omega)]) (hset_eq hy) my).t141 (fun a ha => by rw [hset_fr (by omega)]) (hset_eq hz9) mz9))
                          | (rw [if_neg (show ¬ ws j value a b c 3 = ws j value2 a2 b2 c2 3 by omega)] at k; exact k (by omega) (by omega) _ _ _ (((Ag.tr (Ag.tr (Ag.rf 70 142 h) (g1.w (by omega))) (g2.w (by omega))).set (by omega)).set (by omega)) ((w2.t140 (h2 := List.set _ 140 (cA 0 y2)) (fun a ha => by rw [hset_fr (by omega)]) (hset_eq hy) my).t141 (fun a ha => by rw [hset_fr (by omega)]) (hset_eq hz9) mz9))
                      · skip
                        refine x_aload_n (dT U_X11_parts 59 rfl) rfl ?_
                        refine x_getfield F_X11_109 (dT U_X11_parts 60 rfl) (hset_ne (by omega) (hset_ne (by omega) (w2.c70))) (Nat.le_of_ble_eq_true rfl) rfl ?_
                        refine x_iload (dT U_X11_parts 61 rfl) rfl ?_
                        refine x_ialoadv (3) (dT U_X11_parts 62 rfl) (hset_ne (by omega) (hset_eq hy)) (Nat.le_of_ble_eq_true rfl) rfl (by omega) (by omega) yg3 ?_
                        refine x_aload_n (dT U_X11_parts 63 rfl) rfl ?_
                        refine x_getfield F_X11_112 (dT U_X11_parts 64 rfl) (hset_ne (by omega) (hset_ne (by omega) (w2.c70))) (Nat.le_of_ble_eq_true rfl) rfl ?_
                        refine x_iload (dT U_X11_parts 65 rfl) rfl ?_
                        refine x_ialoadv (3) (dT U_X11_parts 66 rfl) (hset_eq hz9) (Nat.le_of_ble_eq_true rfl) rfl (by omega) (by omega) zg3 ?_
                        have ba3 := wq_b (i := j) (v := value) (a := a) (b := b) (c := c) hj (by omega) (by omega) (by omega) (by omega) 3
                        have bb3 := wq_b (i := j) (v := value2) (a := a2) (b := b2) (c := c2) hj (by omega) (by omega) (by omega) (by omega) 3
                        have ua3 : WN j value a b c 3 = 251 * (wq j value a b c 3).1 + (wq j value a b c 3).2 := rfl
                        have ub3 : WN j value2 a2 b2 c2 3 = 251 * (wq j value2 a2 b2 c2 3).1 + (wq j value2 a2 b2 c2 3).2 := rfl
                        refine x_icmp_eq (tgt := 152) (dT U_X11_parts 67 rfl) (by decide) (by unfold xr; omega) (by unfold xr; omega) (fun c123 => ?_) (fun c123 => ?_)
                        · skip
                          have n3 : ¬ (fun j9 => ws j value a b c j9 = ws j value2 a2 b2 c2 j9 ∧ ¬ ((wq j value a b c j9).1 = (wq j value2 a2 b2 c2 j9).1 ∧ (wq j value a b c j9).2 = (wq j value2 a2 b2 c2 j9).2)) 3 := fun z => z.2 (by omega)
                          refine x_iinc (ls' := [some (.ref _), some (vi _), some (vi _), some (vi _), some (vi _), some (vi _), some (vi _), some (vi _), some (vi _), some (vi _), some (vi _)]) (dT U_X11_parts 81 rfl) (by decide) rfl rfl ?_
                          refine x_goto (tgt := 88) (dT U_X11_parts 82 rfl) (by decide) ?_
                          refine x_iload (dT U_X11_parts 47 rfl) rfl ?_
                          refine x_iconst (dT U_X11_parts 48 rfl) ?_
                          refine x_icmp_ge (tgt := 158) (dT U_X11_parts 49 rfl) (by decide) (by unfold xr; omega) (by unfold xr; omega) (fun c91 => ?_) (fun c91 => (by exfalso; omega))
                          refine x_iconst (dT U_X11_parts 83 rfl) ?_
                          refine x_ireturn (dT U_X11_parts 84 rfl) rfl ?_
                          first
                            | (rw [if_pos (show ws j value a b c 3 = ws j value2 a2 b2 c2 3 by omega), ff_y (P := (fun j9 => ws j value a b c j9 = ws j value2 a2 b2 c2 j9 ∧ ¬ ((wq j value a b c j9).1 = (wq j value2 a2 b2 c2 j9).1 ∧ (wq j value a b c j9).2 = (wq j value2 a2 b2 c2 j9).2))) yes0] at k; exact k (by omega) (by omega) _ _ _ (((Ag.tr (Ag.tr (Ag.rf 70 142 h) (g1.w (by omega))) (g2.w (by omega))).set (by omega)).set (by omega)) ((w2.t140 (h2 := List.set _ 140 (cA 0 y2)) (fun a ha => by rw [hset_fr (by omega)]) (hset_eq hy) my).t141 (fun a ha => by rw [hset_fr (by omega)]) (hset_eq hz9) mz9))
                            | (rw [if_pos (show ws j value a b c 3 = ws j value2 a2 b2 c2 3 by omega), ff_n n0, ff_y (P := (fun j9 => ws j value a b c j9 = ws j value2 a2 b2 c2 j9 ∧ ¬ ((wq j value a b c j9).1 = (wq j value2 a2 b2 c2 j9).1 ∧ (wq j value a b c j9).2 = (wq j value2 a2 b2 c2 j9).2))) yes1] at k; exact k (by omega) (by omega) _ _ _ (((Ag.tr (Ag.tr (Ag.rf 70 142 h) (g1.w (by omega))) (g2.w (by omega))).set (by omega)).set (by omega)) ((w2.t140 (h2 := List.set _ 140 (cA 0 y2)) (fun a ha => by rw [hset_fr (by omega)]) (hset_eq hy) my).t141 (fun a ha => by rw [hset_fr (by omega)]) (hset_eq hz9) mz9))
                            | (rw [if_pos (show ws j value a b c 3 = ws j value2 a2 b2 c2 3 by omega), ff_n n0, ff_n n1, ff_y (P := (fun j9 => ws j value a b c j9 = ws j value2 a2 b2 c2 j9 ∧ ¬ ((wq j value a b c j9).1 = (wq j value2 a2 b2 c2 j9).1 ∧ (wq j value a b c j9).2 = (wq j value2 a2 b2 c2 j9).2))) yes2] at k; exact k (by omega) (by omega) _ _ _ (((Ag.tr (Ag.tr (Ag.rf 70 142 h) (g1.w (by omega))) (g2.w (by omega))).set (by omega)).set (by omega)) ((w2.t140 (h2 := List.set _ 140 (cA 0 y2)) (fun a ha => by rw [hset_fr (by omega)]) (hset_eq hy) my).t141 (fun a ha => by rw [hset_fr (by omega)]) (hset_eq hz9) mz9))
                            | (rw [if_pos (show ws j value a b c 3 = ws j value2 a2 b2 c2 3 by omega), ff_n n0, ff_n n1, ff_n n2, ff_y (P := (fun j9 => ws j value a b c j9 = ws j value2 a2 b2 c2 j9 ∧ ¬ ((wq j value a b c j9).1 = (wq j value2 a2 b2 c2 j9).1 ∧ (wq j value a b c j9).2 = (wq j value2 a2 b2 c2 j9).2))) yes3] at k; exact k (by omega) (by omega) _ _ _ (((Ag.tr (Ag.tr (Ag.rf 70 142 h) (g1.w (by omega))) (g2.w (by omega))).set (by omega)).set (by omega)) ((w2.t140 (h2 := List.set _ 140 (cA 0 y2)) (fun a ha => by rw [hset_fr (by omega)]) (hset_eq hy) my).t141 (fun a ha => by rw [hset_fr (by omega)]) (hset_eq hz9) mz9))
                            | (rw [if_pos (show ws j value a b c 3 = ws j value2 a2 b2 c2 3 by omega), ff_n n0, ff_n n1, ff_n n2, ff_n n3] at k; exact k (by omega) (by omega) _ _ _ (((Ag.tr (Ag.tr (Ag.rf 70 142 h) (g1.w (by omega))) (g2.w (by omega))).set (by omega)).set (by omega)) ((w2.t140 (h2 := List.set _ 140 (cA 0 y2)) (fun a ha => by rw [hset_fr (by omega)]) (hset_eq hy) my).t141 (fun a ha => by rw [hset_fr (by omega)]) (hset_eq hz9) mz9))
                            | (rw [if_neg (show ¬ ws j value a b c 3 = ws j value2 a2 b2 c2 3 by omega)] at k; exact k (by omega) (by omega) _ _ _ (((Ag.tr (Ag.tr (Ag.rf 70 142 h) (g1.w (by omega))) (g2.w (by omega))).set (by omega)).set (by omega)) ((w2.t140 (h2 := List.set _ 140 (cA 0 y2)) (fun a ha => by rw [hset_fr (by omega)]) (hset_eq hy) my).t141 (fun a ha => by rw [hset_fr (by omega)]) (hset_eq hz9) mz9))
                        · skip
                          refine x_aload_n (dT U_X11_parts 68 rfl) rfl ?_
                          refine x_getfield F_X11_109 (dT U_X11_parts 69 rfl) (hset_ne (by omega) (hset_ne (by omega) (w2.c70))) (Nat.le_of_ble_eq_true rfl) rfl ?_
                          refine x_iload (dT U_X11_parts 70 rfl) rfl ?_
                          refine x_ialoadv (3) (dT U_X11_parts 71 rfl) (hset_ne (by omega) (hset_eq hy)) (Nat.le_of_ble_eq_true rfl) rfl (by omega) (by omega) yg3 ?_
                          refine x_invokestatic (rc' := rc) (rs' := rs) (rc2 := 0) (rs2 := 0) (As := [_]) (st := _) M_X11_sealed_ K_X11_231 (dT U_X11_parts 72 rfl) rfl rfl rfl rfl (Nat.le_of_ble_eq_true rfl) rfl (by decide) (Nat.le_of_ble_eq_true rfl) rfl rfl ?_
                          refine S_sealedP (x := (wq j value a b c 3).1) (y := (wq j value a b c 3).2) ba3.1 ba3.2 ?_
                          change xRet _ _ _ _ _ _ _ _ _ _ (.inl (some (vi (ws j value a b c 3)))) _ _
                          refine xRet_some ?_
                          refine x_aload_n (dT U_X11_parts 73 rfl) rfl ?_
                          refine x_getfield F_X11_112 (dT U_X11_parts 74 rfl) (hset_ne (by omega) (hset_ne (by omega) (w2.c70))) (Nat.le_of_ble_eq_true rfl) rfl ?_
                          refine x_iload (dT U_X11_parts 75 rfl) rfl ?_
                          refine x_ialoadv (3) (dT U_X11_parts 76 rfl) (hset_eq hz9) (Nat.le_of_ble_eq_true rfl) rfl (by omega) (by omega) zg3 ?_
                          refine x_invokestatic (rc' := rc) (rs' := rs) (rc2 := 0) (rs2 := 0) (As := [_]) (st := _) M_X11_sealed_ K_X11_231 (dT U_X11_parts 77 rfl) rfl rfl rfl rfl (Nat.le_of_ble_eq_true rfl) rfl (by decide) (Nat.le_of_ble_eq_true rfl) rfl rfl ?_
                          refine S_sealedP (x := (wq j value2 a2 b2 c2 3).1) (y := (wq j value2 a2 b2 c2 3).2) bb3.1 bb3.2 ?_
                          change xRet _ _ _ _ _ _ _ _ _ _ (.inl (some (vi (ws j value2 a2 b2 c2 3)))) _ _
                          have sA3 : 0 ≤ (ws j value a b c 3) ∧ (ws j value a b c 3) < 251 := sl_b _ _
                          have sB3 : 0 ≤ (ws j value2 a2 b2 c2 3) ∧ (ws j value2 a2 b2 c2 3) < 251 := sl_b _ _
                          refine xRet_some ?_
                          refine x_icmp_ne (tgt := 152) (dT U_X11_parts 78 rfl) (by decide) (by unfold xr; omega) (by unfold xr; omega) (fun c146 => ?_) (fun c146 => ?_)
                          · skip
                            have n3 : ¬ (fun j9 => ws j value a b c j9 = ws j value2 a2 b2 c2 j9 ∧ ¬ ((wq j value a b c j9).1 = (wq j value2 a2 b2 c2 j9).1 ∧ (wq j value a b c j9).2 = (wq j value2 a2 b2 c2 j9).2)) 3 := fun z => by have := z.1; omega
                            refine x_iinc (ls' := [some (.ref _), some (vi _), some (vi _), some (vi _), some (vi _), some (vi _), some (vi _), some (vi _), some (vi _), some (vi _), some (vi _)]) (dT U_X11_parts 81 rfl) (by decide) rfl rfl ?_
                            refine x_goto (tgt := 88) (dT U_X11_parts 82 rfl) (by decide) ?_
                            refine x_iload (dT U_X11_parts 47 rfl) rfl ?_
                            refine x_iconst (dT U_X11_parts 48 rfl) ?_
                            refine x_icmp_ge (tgt := 158) (dT U_X11_parts 49 rfl) (by decide) (by unfold xr; omega) (by unfold xr; omega) (fun c91 => ?_) (fun c91 => (by exfalso; omega))
                            refine x_iconst (dT U_X11_parts 83 rfl) ?_
                            refine x_ireturn (dT U_X11_parts 84 rfl) rfl ?_
                            first
                              | (rw [if_pos (show ws j value a b c 3 = ws j value2 a2 b2 c2 3 by omega), ff_y (P := (fun j9 => ws j value a b c j9 = ws j value2 a2 b2 c2 j9 ∧ ¬ ((wq j value a b c j9).1 = (wq j value2 a2 b2 c2 j9).1 ∧ (wq j value a b c j9).2 = (wq j value2 a2 b2 c2 j9).2))) yes0] at k; exact k (by omega) (by omega) _ _ _ (((Ag.tr (Ag.tr (Ag.rf 70 142 h) (g1.w (by omega))) (g2.w (by omega))).set (by omega)).set (by omega)) ((w2.t140 (h2 := List.set _ 140 (cA 0 y2)) (fun a ha => by rw [hset_fr (by omega)]) (hset_eq hy) my).t141 (fun a ha => by rw [hset_fr (by omega)]) (hset_eq hz9) mz9))
                              | (rw [if_pos (show ws j value a b c 3 = ws j value2 a2 b2 c2 3 by omega), ff_n n0, ff_y (P := (fun j9 => ws j value a b c j9 = ws j value2 a2 b2 c2 j9 ∧ ¬ ((wq j value a b c j9).1 = (wq j value2 a2 b2 c2 j9).1 ∧ (wq j value a b c j9).2 = (wq j value2 a2 b2 c2 j9).2))) yes1] at k; exact k (by omega) (by omega) _ _ _ (((Ag.tr (Ag.tr (Ag.rf 70 142 h) (g1.w (by omega))) (g2.w (by omega))).set (by omega)).set (by omega)) ((w2.t140 (h2 := List.set _ 140 (cA 0 y2)) (fun a ha => by rw [hset_fr (by omega)]) (hset_eq hy) my).t141 (fun a ha => by rw [hset_fr (by omega)]) (hset_eq hz9) mz9))
                              | (rw [if_pos (show ws j value a b c 3 = ws j value2 a2 b2 c2 3 by omega), ff_n n0, ff_n n1, ff_y (P := (fun j9 => ws j value a b c j9 = ws j value2 a2 b2 c2 j9 ∧ ¬ ((wq j value a b c j9).1 = (wq j value2 a2 b2 c2 j9).1 ∧ (wq j value a b c j9).2 = (wq j value2 a2 b2 c2 j9).2))) yes2] at k; exact k (by omega) (by omega) _ _ _ (((Ag.tr (Ag.tr (Ag.rf 70 142 h) (g1.w (by omega))) (g2.w (by omega))).set (by omega)).set (by omega)) ((w2.t140 (h2 := List.set _ 140 (cA 0 y2)) (fun a ha => by rw [hset_fr (by omega)]) (hset_eq hy) my).t141 (fun a ha => by rw [hset_fr (by omega)]) (hset_eq hz9) mz9))
                              | (rw [if_pos (show ws j value a b c 3 = ws j value2 a2 b2 c2 3 by omega), ff_n n0, ff_n n1, ff_n n2, ff_y (P := (fun j9 => ws j value a b c j9 = ws j value2 a2 b2 c2 j9 ∧ ¬ ((wq j value a b c j9).1 = (wq j value2 a2 b2 c2 j9).1 ∧ (wq j value a b c j9).2 = (wq j value2 a2 b2 c2 j9).2))) yes3] at k; exact k (by omega) (by omega) _ _ _ (((Ag.tr (Ag.tr (Ag.rf 70 142 h) (g1.w (by omega))) (g2.w (by omega))).set (by omega)).set (by omega)) ((w2.t140 (h2 := List.set _ 140 (cA 0 y2)) (fun a ha => by rw [hset_fr (by omega)]) (hset_eq hy) my).t141 (fun a ha => by rw [hset_fr (by omega)]) (hset_eq hz9) mz9))
                              | (rw [if_pos (show ws j value a b c 3 = ws j value2 a2 b2 c2 3 by omega), ff_n n0, ff_n n1, ff_n n2, ff_n n3] at k; exact k (by omega) (by omega) _ _ _ (((Ag.tr (Ag.tr (Ag.rf 70 142 h) (g1.w (by omega))) (g2.w (by omega))).set (by omega)).set (by omega)) ((w2.t140 (h2 := List.set _ 140 (cA 0 y2)) (fun a ha => by rw [hset_fr (by omega)]) (hset_eq hy) my).t141 (fun a ha => by rw [hset_fr (by omega)]) (hset_eq hz9) mz9))
                              | (rw [if_neg (show ¬ ws j value a b c 3 = ws j value2 a2 b2 c2 3 by omega)] at k; exact k (by omega) (by omega) _ _ _ (((Ag.tr (Ag.tr (Ag.rf 70 142 h) (g1.w (by omega))) (g2.w (by omega))).set (by omega)).set (by omega)) ((w2.t140 (h2 := List.set _ 140 (cA 0 y2)) (fun a ha => by rw [hset_fr (by omega)]) (hset_eq hy) my).t141 (fun a ha => by rw [hset_fr (by omega)]) (hset_eq hz9) mz9))
                          · skip
                            have yes3 : (fun j9 => ws j value a b c j9 = ws j value2 a2 b2 c2 j9 ∧ ¬ ((wq j value a b c j9).1 = (wq j value2 a2 b2 c2 j9).1 ∧ (wq j value a b c j9).2 = (wq j value2 a2 b2 c2 j9).2)) 3 := ⟨by omega, fun z => by omega⟩
                            refine x_iload (dT U_X11_parts 79 rfl) rfl ?_
                            refine x_ireturn (dT U_X11_parts 80 rfl) rfl ?_
                            first
                              | (rw [if_pos (show ws j value a b c 3 = ws j value2 a2 b2 c2 3 by omega), ff_y (P := (fun j9 => ws j value a b c j9 = ws j value2 a2 b2 c2 j9 ∧ ¬ ((wq j value a b c j9).1 = (wq j value2 a2 b2 c2 j9).1 ∧ (wq j value a b c j9).2 = (wq j value2 a2 b2 c2 j9).2))) yes0] at k; exact k (by omega) (by omega) _ _ _ (((Ag.tr (Ag.tr (Ag.rf 70 142 h) (g1.w (by omega))) (g2.w (by omega))).set (by omega)).set (by omega)) ((w2.t140 (h2 := List.set _ 140 (cA 0 y2)) (fun a ha => by rw [hset_fr (by omega)]) (hset_eq hy) my).t141 (fun a ha => by rw [hset_fr (by omega)]) (hset_eq hz9) mz9))
                              | (rw [if_pos (show ws j value a b c 3 = ws j value2 a2 b2 c2 3 by omega), ff_n n0, ff_y (P := (fun j9 => ws j value a b c j9 = ws j value2 a2 b2 c2 j9 ∧ ¬ ((wq j value a b c j9).1 = (wq j value2 a2 b2 c2 j9).1 ∧ (wq j value a b c j9).2 = (wq j value2 a2 b2 c2 j9).2))) yes1] at k; exact k (by omega) (by omega) _ _ _ (((Ag.tr (Ag.tr (Ag.rf 70 142 h) (g1.w (by omega))) (g2.w (by omega))).set (by omega)).set (by omega)) ((w2.t140 (h2 := List.set _ 140 (cA 0 y2)) (fun a ha => by rw [hset_fr (by omega)]) (hset_eq hy) my).t141 (fun a ha => by rw [hset_fr (by omega)]) (hset_eq hz9) mz9))
                              | (rw [if_pos (show ws j value a b c 3 = ws j value2 a2 b2 c2 3 by omega), ff_n n0, ff_n n1, ff_y (P := (fun j9 => ws j value a b c j9 = ws j value2 a2 b2 c2 j9 ∧ ¬ ((wq j value a b c j9).1 = (wq j value2 a2 b2 c2 j9).1 ∧ (wq j value a b c j9).2 = (wq j value2 a2 b2 c2 j9).2))) yes2] at k; exact k (by omega) (by omega) _ _ _ (((Ag.tr (Ag.tr (Ag.rf 70 142 h) (g1.w (by omega))) (g2.w (by omega))).set (by omega)).set (by omega)) ((w2.t140 (h2 := List.set _ 140 (cA 0 y2)) (fun a ha => by rw [hset_fr (by omega)]) (hset_eq hy) my).t141 (fun a ha => by rw [hset_fr (by omega)]) (hset_eq hz9) mz9))
                              | (rw [if_pos (show ws j value a b c 3 = ws j value2 a2 b2 c2 3 by omega), ff_n n0, ff_n n1, ff_n n2, ff_y (P := (fun j9 => ws j value a b c j9 = ws j value2 a2 b2 c2 j9 ∧ ¬ ((wq j value a b c j9).1 = (wq j value2 a2 b2 c2 j9).1 ∧ (wq j value a b c j9).2 = (wq j value2 a2 b2 c2 j9).2))) yes3] at k; exact k (by omega) (by omega) _ _ _ (((Ag.tr (Ag.tr (Ag.rf 70 142 h) (g1.w (by omega))) (g2.w (by omega))).set (by omega)).set (by omega)) ((w2.t140 (h2 := List.set _ 140 (cA 0 y2)) (fun a ha => by rw [hset_fr (by omega)]) (hset_eq hy) my).t141 (fun a ha => by rw [hset_fr (by omega)]) (hset_eq hz9) mz9))
                              | (rw [if_pos (show ws j value a b c 3 = ws j value2 a2 b2 c2 3 by omega), ff_n n0, ff_n n1, ff_n n2, ff_n n3] at k; exact k (by omega) (by omega) _ _ _ (((Ag.tr (Ag.tr (Ag.rf 70 142 h) (g1.w (by omega))) (g2.w (by omega))).set (by omega)).set (by omega)) ((w2.t140 (h2 := List.set _ 140 (cA 0 y2)) (fun a ha => by rw [hset_fr (by omega)]) (hset_eq hy) my).t141 (fun a ha => by rw [hset_fr (by omega)]) (hset_eq hz9) mz9))
                              | (rw [if_neg (show ¬ ws j value a b c 3 = ws j value2 a2 b2 c2 3 by omega)] at k; exact k (by omega) (by omega) _ _ _ (((Ag.tr (Ag.tr (Ag.rf 70 142 h) (g1.w (by omega))) (g2.w (by omega))).set (by omega)).set (by omega)) ((w2.t140 (h2 := List.set _ 140 (cA 0 y2)) (fun a ha => by rw [hset_fr (by omega)]) (hset_eq hy) my).t141 (fun a ha => by rw [hset_fr (by omega)]) (hset_eq hz9) mz9))
                    · skip
                      refine x_aload_n (dT U_X11_parts 68 rfl) rfl ?_
                      refine x_getfield F_X11_109 (dT U_X11_parts 69 rfl) (hset_ne (by omega) (hset_ne (by omega) (w2.c70))) (Nat.le_of_ble_eq_true rfl) rfl ?_
                      refine x_iload (dT U_X11_parts 70 rfl) rfl ?_
                      refine x_ialoadv (2) (dT U_X11_parts 71 rfl) (hset_ne (by omega) (hset_eq hy)) (Nat.le_of_ble_eq_true rfl) rfl (by omega) (by omega) yg2 ?_
                      refine x_invokestatic (rc' := rc) (rs' := rs) (rc2 := 0) (rs2 := 0) (As := [_]) (st := _) M_X11_sealed_ K_X11_231 (dT U_X11_parts 72 rfl) rfl rfl rfl rfl (Nat.le_of_ble_eq_true rfl) rfl (by decide) (Nat.le_of_ble_eq_true rfl) rfl rfl ?_
                      refine S_sealedP (x := (wq j value a b c 2).1) (y := (wq j value a b c 2).2) ba2.1 ba2.2 ?_
                      change xRet _ _ _ _ _ _ _ _ _ _ (.inl (some (vi (ws j value a b c 2)))) _ _
                      refine xRet_some ?_
                      refine x_aload_n (dT U_X11_parts 73 rfl) rfl ?_
                      refine x_getfield F_X11_112 (dT U_X11_parts 74 rfl) (hset_ne (by omega) (hset_ne (by omega) (w2.c70))) (Nat.le_of_ble_eq_true rfl) rfl ?_
                      refine x_iload (dT U_X11_parts 75 rfl) rfl ?_
                      refine x_ialoadv (2) (dT U_X11_parts 76 rfl) (hset_eq hz9) (Nat.le_of_ble_eq_true rfl) rfl (by omega) (by omega) zg2 ?_
                      refine x_invokestatic (rc' := rc) (rs' := rs) (rc2 := 0) (rs2 := 0) (As := [_]) (st := _) M_X11_sealed_ K_X11_231 (dT U_X11_parts 77 rfl) rfl rfl rfl rfl (Nat.le_of_ble_eq_true rfl) rfl (by decide) (Nat.le_of_ble_eq_true rfl) rfl rfl ?_
                      refine S_sealedP (x := (wq j value2 a2 b2 c2 2).1) (y := (wq j value2 a2 b2 c2 2).2) bb2.1 bb2.2 ?_
                      change xRet _ _ _ _ _ _ _ _ _ _ (.inl (some (vi (ws j value2 a2 b2 c2 2)))) _ _
                      have sA2 : 0 ≤ (ws j value a b c 2) ∧ (ws j value a b c 2) < 251 := sl_b _ _
                      have sB2 : 0 ≤ (ws j value2 a2 b2 c2 2) ∧ (ws j value2 a2 b2 c2 2) < 251 := sl_b _ _
                      refine xRet_some ?_
                      refine x_icmp_ne (tgt := 152) (dT U_X11_parts 78 rfl) (by decide) (by unfold xr; omega) (by unfold xr; omega) (fun c146 => ?_) (fun c146 => ?_)
                      · skip
                        have n2 : ¬ (fun j9 => ws j value a b c j9 = ws j value2 a2 b2 c2 j9 ∧ ¬ ((wq j value a b c j9).1 = (wq j value2 a2 b2 c2 j9).1 ∧ (wq j value a b c j9).2 = (wq j value2 a2 b2 c2 j9).2)) 2 := fun z => by have := z.1; omega
                        refine x_iinc (ls' := [some (.ref _), some (vi _), some (vi _), some (vi _), some (vi _), some (vi _), some (vi _), some (vi _), some (vi _), some (vi _), some (vi _)]) (dT U_X11_parts 81 rfl) (by decide) rfl rfl ?_
                        refine x_goto (tgt := 88) (dT U_X11_parts 82 rfl) (by decide) ?_
                        refine x_iload (dT U_X11_parts 47 rfl) rfl ?_
                        refine x_iconst (dT U_X11_parts 48 rfl) ?_
                        refine x_icmp_ge (tgt := 158) (dT U_X11_parts 49 rfl) (by decide) (by unfold xr; omega) (by unfold xr; omega) (fun c91 => (by exfalso; omega)) (fun c91 => ?_)
                        refine x_aload_n (dT U_X11_parts 50 rfl) rfl ?_
                        refine x_getfield F_X11_109 (dT U_X11_parts 51 rfl) (hset_ne (by omega) (hset_ne (by omega) (w2.c70))) (Nat.le_of_ble_eq_true rfl) rfl ?_
                        refine x_iconst (dT U_X11_parts 52 rfl) ?_
                        refine x_ialoadv (4) (dT U_X11_parts 53 rfl) (hset_ne (by omega) (hset_eq hy)) (Nat.le_of_ble_eq_true rfl) rfl (by omega) (by omega) yg4 ?_
                        refine x_aload_n (dT U_X11_parts 54 rfl) rfl ?_
                        refine x_getfield F_X11_112 (dT U_X11_parts 55 rfl) (hset_ne (by omega) (hset_ne (by omega) (w2.c70))) (Nat.le_of_ble_eq_true rfl) rfl ?_
                        refine x_iconst (dT U_X11_parts 56 rfl) ?_
                        refine x_ialoadv (4) (dT U_X11_parts 57 rfl) (hset_eq hz9) (Nat.le_of_ble_eq_true rfl) rfl (by omega) (by omega) zg4 ?_
                        have sA : 0 ≤ (ws j value a b c 3) ∧ (ws j value a b c 3) < 251 := sl_b _ _
                        have sB : 0 ≤ (ws j value2 a2 b2 c2 3) ∧ (ws j value2 a2 b2 c2 3) < 251 := sl_b _ _
                        refine x_icmp_ne (tgt := 158) (dT U_X11_parts 58 rfl) (by decide) (by unfold xr; omega) (by unfold xr; omega) (fun c106 => ?_) (fun c106 => ?_)
                        · skip
                          refine x_iconst (dT U_X11_parts 83 rfl) ?_
                          refine x_ireturn (dT U_X11_parts 84 rfl) rfl ?_
                          first
                            | (rw [if_pos (show ws j value a b c 3 = ws j value2 a2 b2 c2 3 by omega), ff_y (P := (fun j9 => ws j value a b c j9 = ws j value2 a2 b2 c2 j9 ∧ ¬ ((wq j value a b c j9).1 = (wq j value2 a2 b2 c2 j9).1 ∧ (wq j value a b c j9).2 = (wq j value2 a2 b2 c2 j9).2))) yes0] at k; exact k (by omega) (by omega) _ _ _ (((Ag.tr (Ag.tr (Ag.rf 70 142 h) (g1.w (by omega))) (g2.w (by omega))).set (by omega)).set (by omega)) ((w2.t140 (h2 := List.set _ 140 (cA 0 y2)) (fun a ha => by rw [hset_fr (by omega)]) (hset_eq hy) my).t141 (fun a ha => by rw [hset_fr (by omega)]) (hset_eq hz9) mz9))
                            | (rw [if_pos (show ws j value a b c 3 = ws j value2 a2 b2 c2 3 by omega), ff_n n0, ff_y (P := (fun j9 => ws j value a b c j9 = ws j value2 a2 b2 c2 j9 ∧ ¬ ((wq j value a b c j9).1 = (wq j value2 a2 b2 c2 j9).1 ∧ (wq j value a b c j9).2 = (wq j value2 a2 b2 c2 j9).2))) yes1] at k; exact k (by omega) (by omega) _ _ _ (((Ag.tr (Ag.tr (Ag.rf 70 142 h) (g1.w (by omega))) (g2.w (by omega))).set (by omega)).set (by omega)) ((w2.t140 (h2 := List.set _ 140 (cA 0 y2)) (fun a ha => by rw [hset_fr (by omega)]) (hset_eq hy) my).t141 (fun a ha => by rw [hset_fr (by omega)]) (hset_eq hz9) mz9))
                            | (rw [if_pos (show ws j value a b c 3 = ws j value2 a2 b2 c2 3 by omega), ff_n n0, ff_n n1, ff_y (P := (fun j9 => ws j value a b c j9 = ws j value2 a2 b2 c2 j9 ∧ ¬ ((wq j value a b c j9).1 = (wq j value2 a2 b2 c2 j9).1 ∧ (wq j value a b c j9).2 = (wq j value2 a2 b2 c2 j9).2))) yes2] at k; exact k (by omega) (by omega) _ _ _ (((Ag.tr (Ag.tr (Ag.rf 70 142 h) (g1.w (by omega))) (g2.w (by omega))).set (by omega)).set (by omega)) ((w2.t140 (h2 := List.set _ 140 (cA 0 y2)) (fun a ha => by rw [hset_fr (by omega)]) (hset_eq hy) my).t141 (fun a ha => by rw [hset_fr (by omega)]) (hset_eq hz9) mz9))
                            | (rw [if_pos (show ws j value a b c 3 = ws j value2 a2 b2 c2 3 by omega), ff_n n0, ff_n n1, ff_n n2, ff_y (P := (fun j9 => ws j value a b c j9 = ws j value2 a2 b2 c2 j9 ∧ ¬ ((wq j value a b c j9).1 = (wq j value2 a2 b2 c2 j9).1 ∧ (wq j value a b c j9).2 = (wq j value2 a2 b2 c2 j9).2))) yes3] at k; exact k (by omega) (by omega) _ _ _ (((Ag.tr (Ag.tr (Ag.rf 70 142 h) (g1.w (by omega))) (g2.w (by omega))).set (by omega)).set (by omega)) ((w2.t140 (h2 := List.set _ 140 (cA 0 y2)) (fun a ha => by rw [hset_fr (by omega)]) (hset_eq hy) my).t141 (fun a ha => by rw [hset_fr (by omega)]) (hset_eq hz9) mz9))
                            | (rw [if_pos (show ws j value a b c 3 = ws j value2 a2 b2 c2 3 by omega), ff_n n0, ff_n n1, ff_n n2, ff_n n3] at k; exact k (by omega) (by omega) _ _ _ (((Ag.tr (Ag.tr (Ag.rf 70 142 h) (g1.w (by omega))) (g2.w (by omega))).set (by omega)).set (by omega)) ((w2.t140 (h2 := List.set _ 140 (cA 0 y2)) (fun a ha => by rw [hset_fr (by omega)]) (hset_eq hy) my).t141 (fun a ha => by rw [hset_fr (by omega)]) (hset_eq hz9) mz9))
                            | (rw [if_neg (show ¬ ws j value a b c 3 = ws j value2 a2 b2 c2 3 by omega)] at k; exact k (by omega) (by omega) _ _ _ (((Ag.tr (Ag.tr (Ag.rf 70 142 h) (g1.w (by omega))) (g2.w (by omega))).set (by omega)).set (by omega)) ((w2.t140 (h2 := List.set _ 140 (cA 0 y2)) (fun a ha => by rw [hset_fr (by omega)]) (hset_eq hy) my).t141 (fun a ha => by rw [hset_fr (by omega)]) (hset_eq hz9) mz9))
                        · skip
                          refine x_aload_n (dT U_X11_parts 59 rfl) rfl ?_
                          refine x_getfield F_X11_109 (dT U_X11_parts 60 rfl) (hset_ne (by omega) (hset_ne (by omega) (w2.c70))) (Nat.le_of_ble_eq_true rfl) rfl ?_
                          refine x_iload (dT U_X11_parts 61 rfl) rfl ?_
                          refine x_ialoadv (3) (dT U_X11_parts 62 rfl) (hset_ne (by omega) (hset_eq hy)) (Nat.le_of_ble_eq_true rfl) rfl (by omega) (by omega) yg3 ?_
                          refine x_aload_n (dT U_X11_parts 63 rfl) rfl ?_
                          refine x_getfield F_X11_112 (dT U_X11_parts 64 rfl) (hset_ne (by omega) (hset_ne (by omega) (w2.c70))) (Nat.le_of_ble_eq_true rfl) rfl ?_
                          refine x_iload (dT U_X11_parts 65 rfl) rfl ?_
                          refine x_ialoadv (3) (dT U_X11_parts 66 rfl) (hset_eq hz9) (Nat.le_of_ble_eq_true rfl) rfl (by omega) (by omega) zg3 ?_
                          have ba3 := wq_b (i := j) (v := value) (a := a) (b := b) (c := c) hj (by omega) (by omega) (by omega) (by omega) 3
                          have bb3 := wq_b (i := j) (v := value2) (a := a2) (b := b2) (c := c2) hj (by omega) (by omega) (by omega) (by omega) 3
                          have ua3 : WN j value a b c 3 = 251 * (wq j value a b c 3).1 + (wq j value a b c 3).2 := rfl
                          have ub3 : WN j value2 a2 b2 c2 3 = 251 * (wq j value2 a2 b2 c2 3).1 + (wq j value2 a2 b2 c2 3).2 := rfl
                          refine x_icmp_eq (tgt := 152) (dT U_X11_parts 67 rfl) (by decide) (by unfold xr; omega) (by unfold xr; omega) (fun c123 => ?_) (fun c123 => ?_)
                          · skip
                            have n3 : ¬ (fun j9 => ws j value a b c j9 = ws j value2 a2 b2 c2 j9 ∧ ¬ ((wq j value a b c j9).1 = (wq j value2 a2 b2 c2 j9).1 ∧ (wq j value a b c j9).2 = (wq j value2 a2 b2 c2 j9).2)) 3 := fun z => z.2 (by omega)
                            refine x_iinc (ls' := [some (.ref _), some (vi _), some (vi _), some (vi _), some (vi _), some (vi _), some (vi _), some (vi _), some (vi _), some (vi _), some (vi _)]) (dT U_X11_parts 81 rfl) (by decide) rfl rfl ?_
                            refine x_goto (tgt := 88) (dT U_X11_parts 82 rfl) (by decide) ?_
                            refine x_iload (dT U_X11_parts 47 rfl) rfl ?_
                            refine x_iconst (dT U_X11_parts 48 rfl) ?_
                            refine x_icmp_ge (tgt := 158) (dT U_X11_parts 49 rfl) (by decide) (by unfold xr; omega) (by unfold xr; omega) (fun c91 => ?_) (fun c91 => (by exfalso; omega))
                            refine x_iconst (dT U_X11_parts 83 rfl) ?_
                            refine x_ireturn (dT U_X11_parts 84 rfl) rfl ?_
                            first
                              | (rw [if_pos (show ws j value a b c 3 = ws j value2 a2 b2 c2 3 by omega), ff_y (P := (fun j9 => ws j value a b c j9 = ws j value2 a2 b2 c2 j9 ∧ ¬ ((wq j value a b c j9).1 = (wq j value2 a2 b2 c2 j9).1 ∧ (wq j value a b c j9).2 = (wq j value2 a2 b2 c2 j9).2))) yes0] at k; exact k (by omega) (by omega) _ _ _ (((Ag.tr (Ag.tr (Ag.rf 70 142 h) (g1.w (by omega))) (g2.w (by omega))).set (by omega)).set (by omega)) ((w2.t140 (h2 := List.set _ 140 (cA 0 y2)) (fun a ha => by rw [hset_fr (by omega)]) (hset_eq hy) my).t141 (fun a ha => by rw [hset_fr (by omega)]) (hset_eq hz9) mz9))
                              | (rw [if_pos (show ws j value a b c 3 = ws j value2 a2 b2 c2 3 by omega), ff_n n0, ff_y (P := (fun j9 => ws j value a b c j9 = ws j value2 a2 b2 c2 j9 ∧ ¬ ((wq j value a b c j9).1 = (wq j value2 a2 b2 c2 j9).1 ∧ (wq j value a b c j9).2 = (wq j value2 a2 b2 c2 j9).2))) yes1] at k; exact k (by omega) (by omega) _ _ _ (((Ag.tr (Ag.tr (Ag.rf 70 142 h) (g1.w (by omega))) (g2.w (by omega))).set (by omega)).set (by omega)) ((w2.t140 (h2 := List.set _ 140 (cA 0 y2)) (fun a ha => by rw [hset_fr (by omega)]) (hset_eq hy) my).t141 (fun a ha => by rw [hset_fr (by omega)]) (hset_eq hz9) mz9))
                              | (rw [if_pos (show ws j value a b c 3 = ws j value2 a2 b2 c2 3 by omega), ff_n n0, ff_n n1, ff_y (P := (fun j9 => ws j value a b c j9 = ws j value2 a2 b2 c2 j9 ∧ ¬ ((wq j value a b c j9).1 = (wq j value2 a2 b2 c2 j9).1 ∧ (wq j value a b c j9).2 = (wq j value2 a2 b2 c2 j9).2))) yes2] at k; exact k (by omega) (by omega) _ _ _ (((Ag.tr (Ag.tr (Ag.rf 70 142 h) (g1.w (by omega))) (g2.w (by omega))).set (by omega)).set (by omega)) ((w2.t140 (h2 := List.set _ 140 (cA 0 y2)) (fun a ha => by rw [hset_fr (by omega)]) (hset_eq hy) my).t141 (fun a ha => by rw [hset_fr (by omega)]) (hset_eq hz9) mz9))
                              | (rw [if_pos (show ws j value a b c 3 = ws j value2 a2 b2 c2 3 by omega), ff_n n0, ff_n n1, ff_n n2, ff_y (P := (fun j9 => ws j value a b c j9 = ws j value2 a2 b2 c2 j9 ∧ ¬ ((wq j value a b c j9).1 = (wq j value2 a2 b2 c2 j9).1 ∧ (wq j value a b c j9).2 = (wq j value2 a2 b2 c2 j9).2))) yes3] at k; exact k (by omega) (by omega) _ _ _ (((Ag.tr (Ag.tr (Ag.rf 70 142 h) (g1.w (by omega))) (g2.w (by omega))).set (by omega)).set (by omega)) ((w2.t140 (h2 := List.set _ 140 (cA 0 y2)) (fun a ha => by rw [hset_fr (by omega)]) (hset_eq hy) my).t141 (fun a ha => by rw [hset_fr (by omega)]) (hset_eq hz9) mz9))
                              | (rw [if_pos (show ws j value a b c 3 = ws j value2 a2 b2 c2 3 by omega), ff_n n0, ff_n n1, ff_n n2, ff_n n3] at k; exact k (by omega) (by omega) _ _ _ (((Ag.tr (Ag.tr (Ag.rf 70 142 h) (g1.w (by omega))) (g2.w (by omega))).set (by omega)).set (by omega)) ((w2.t140 (h2 := List.set _ 140 (cA 0 y2)) (fun a ha => by rw [hset_fr (by omega)]) (hset_eq hy) my).t141 (fun a ha => by rw [hset_fr (by omega)]) (hset_eq hz9) mz9))
                              | (rw [if_neg (show ¬ ws j value a b c 3 = ws j value2 a2 b2 c2 3 by omega)] at k; exact k (by omega) (by omega) _ _ _ (((Ag.tr (Ag.tr (Ag.rf 70 142 h) (g1.w (by omega))) (g2.w (by omega))).set (by omega)).set (by omega)) ((w2.t140 (h2 := List.set _ 140 (cA 0 y2)) (fun a ha => by rw [hset_fr (by omega)]) (hset_eq hy) my).t141 (fun a ha => by rw [hset_fr (by omega)]) (hset_eq hz9) mz9))
                          · skip
                            refine x_aload_n (dT U_X11_parts 68 rfl) rfl ?_
                            refine x_getfield F_X11_109 (dT U_X11_parts 69 rfl) (hset_ne (by omega) (hset_ne (by omega) (w2.c70))) (Nat.le_of_ble_eq_true rfl) rfl ?_
                            refine x_iload (dT U_X11_parts 70 rfl) rfl ?_
                            refine x_ialoadv (3) (dT U_X11_parts 71 rfl) (hset_ne (by omega) (hset_eq hy)) (Nat.le_of_ble_eq_true rfl) rfl (by omega) (by omega) yg3 ?_
                            refine x_invokestatic (rc' := rc) (rs' := rs) (rc2 := 0) (rs2 := 0) (As := [_]) (st := _) M_X11_sealed_ K_X11_231 (dT U_X11_parts 72 rfl) rfl rfl rfl rfl (Nat.le_of_ble_eq_true rfl) rfl (by decide) (Nat.le_of_ble_eq_true rfl) rfl rfl ?_
                            refine S_sealedP (x := (wq j value a b c 3).1) (y := (wq j value a b c 3).2) ba3.1 ba3.2 ?_
                            change xRet _ _ _ _ _ _ _ _ _ _ (.inl (some (vi (ws j value a b c 3)))) _ _
                            refine xRet_some ?_
                            refine x_aload_n (dT U_X11_parts 73 rfl) rfl ?_
                            refine x_getfield F_X11_112 (dT U_X11_parts 74 rfl) (hset_ne (by omega) (hset_ne (by omega) (w2.c70))) (Nat.le_of_ble_eq_true rfl) rfl ?_
                            refine x_iload (dT U_X11_parts 75 rfl) rfl ?_
                            refine x_ialoadv (3) (dT U_X11_parts 76 rfl) (hset_eq hz9) (Nat.le_of_ble_eq_true rfl) rfl (by omega) (by omega) zg3 ?_
                            refine x_invokestatic (rc' := rc) (rs' := rs) (rc2 := 0) (rs2 := 0) (As := [_]) (st := _) M_X11_sealed_ K_X11_231 (dT U_X11_parts 77 rfl) rfl rfl rfl rfl (Nat.le_of_ble_eq_true rfl) rfl (by decide) (Nat.le_of_ble_eq_true rfl) rfl rfl ?_
                            refine S_sealedP (x := (wq j value2 a2 b2 c2 3).1) (y := (wq j value2 a2 b2 c2 3).2) bb3.1 bb3.2 ?_
                            change xRet _ _ _ _ _ _ _ _ _ _ (.inl (some (vi (ws j value2 a2 b2 c2 3)))) _ _
                            have sA3 : 0 ≤ (ws j value a b c 3) ∧ (ws j value a b c 3) < 251 := sl_b _ _
                            have sB3 : 0 ≤ (ws j value2 a2 b2 c2 3) ∧ (ws j value2 a2 b2 c2 3) < 251 := sl_b _ _
                            refine xRet_some ?_
                            refine x_icmp_ne (tgt := 152) (dT U_X11_parts 78 rfl) (by decide) (by unfold xr; omega) (by unfold xr; omega) (fun c146 => ?_) (fun c146 => ?_)
                            · skip
                              have n3 : ¬ (fun j9 => ws j value a b c j9 = ws j value2 a2 b2 c2 j9 ∧ ¬ ((wq j value a b c j9).1 = (wq j value2 a2 b2 c2 j9).1 ∧ (wq j value a b c j9).2 = (wq j value2 a2 b2 c2 j9).2)) 3 := fun z => by have := z.1; omega
                              refine x_iinc (ls' := [some (.ref _), some (vi _), some (vi _), some (vi _), some (vi _), some (vi _), some (vi _), some (vi _), some (vi _), some (vi _), some (vi _)]) (dT U_X11_parts 81 rfl) (by decide) rfl rfl ?_
                              refine x_goto (tgt := 88) (dT U_X11_parts 82 rfl) (by decide) ?_
                              refine x_iload (dT U_X11_parts 47 rfl) rfl ?_
                              refine x_iconst (dT U_X11_parts 48 rfl) ?_
                              refine x_icmp_ge (tgt := 158) (dT U_X11_parts 49 rfl) (by decide) (by unfold xr; omega) (by unfold xr; omega) (fun c91 => ?_) (fun c91 => (by exfalso; omega))
                              refine x_iconst (dT U_X11_parts 83 rfl) ?_
                              refine x_ireturn (dT U_X11_parts 84 rfl) rfl ?_
                              first
                                | (rw [if_pos (show ws j value a b c 3 = ws j value2 a2 b2 c2 3 by omega), ff_y (P := (fun j9 => ws j value a b c j9 = ws j value2 a2 b2 c2 j9 ∧ ¬ ((wq j value a b c j9).1 = (wq j value2 a2 b2 c2 j9).1 ∧ (wq j value a b c j9).2 = (wq j value2 a2 b2 c2 j9).2))) yes0] at k; exact k (by omega) (by omega) _ _ _ (((Ag.tr (Ag.tr (Ag.rf 70 142 h) (g1.w (by omega))) (g2.w (by omega))).set (by omega)).set (by omega)) ((w2.t140 (h2 := List.set _ 140 (cA 0 y2)) (fun a ha => by rw [hset_fr (by omega)]) (hset_eq hy) my).t141 (fun a ha => by rw [hset_fr (by omega)]) (hset_eq hz9) mz9))
                                | (rw [if_pos (show ws j value a b c 3 = ws j value2 a2 b2 c2 3 by omega), ff_n n0, ff_y (P := (fun j9 => ws j value a b c j9 = ws j value2 a2 b2 c2 j9 ∧ ¬ ((wq j value a b c j9).1 = (wq j value2 a2 b2 c2 j9).1 ∧ (wq j value a b c j9).2 = (wq j value2 a2 b2 c2 j9).2))) yes1] at k; exact k (by omega) (by omega) _ _ _ (((Ag.tr (Ag.tr (Ag.rf 70 142 h) (g1.w (by omega))) (g2.w (by omega))).set (by omega)).set (by omega)) ((w2.t140 (h2 := List.set _ 140 (cA 0 y2)) (fun a ha => by rw [hset_fr (by omega)]) (hset_eq hy) my).t141 (fun a ha => by rw [hset_fr (by omega)]) (hset_eq hz9) mz9))
                                | (rw [if_pos (show ws j value a b c 3 = ws j value2 a2 b2 c2 3 by omega), ff_n n0, ff_n n1, ff_y (P := (fun j9 => ws j value a b c j9 = ws j value2 a2 b2 c2 j9 ∧ ¬ ((wq j value a b c j9).1 = (wq j value2 a2 b2 c2 j9).1 ∧ (wq j value a b c j9).2 = (wq j value2 a2 b2 c2 j9).2))) yes2] at k; exact k (by omega) (by omega) _ _ _ (((Ag.tr (Ag.tr (Ag.rf 70 142 h) (g1.w (by omega))) (g2.w (by omega))).set (by omega)).set (by omega)) ((w2.t140 (h2 := List.set _ 140 (cA 0 y2)) (fun a ha => by rw [hset_fr (by omega)]) (hset_eq hy) my).t141 (fun a ha => by rw [hset_fr (by omega)]) (hset_eq hz9) mz9))
                                | (rw [if_pos (show ws j value a b c 3 = ws j value2 a2 b2 c2 3 by omega), ff_n n0, ff_n n1, ff_n n2, ff_y (P := (fun j9 => ws j value a b c j9 = ws j value2 a2 b2 c2 j9 ∧ ¬ ((wq j value a b c j9).1 = (wq j value2 a2 b2 c2 j9).1 ∧ (wq j value a b c j9).2 = (wq j value2 a2 b2 c2 j9).2))) yes3] at k; exact k (by omega) (by omega) _ _ _ (((Ag.tr (Ag.tr (Ag.rf 70 142 h) (g1.w (by omega))) (g2.w (by omega))).set (by omega)).set (by omega)) ((w2.t140 (h2 := List.set _ 140 (cA 0 y2)) (fun a ha => by rw [hset_fr (by omega)]) (hset_eq hy) my).t141 (fun a ha => by rw [hset_fr (by omega)]) (hset_eq hz9) mz9))
                                | (rw [if_pos (show ws j value a b c 3 = ws j value2 a2 b2 c2 3 by omega), ff_n n0, ff_n n1, ff_n n2, ff_n n3] at k; exact k (by omega) (by omega) _ _ _ (((Ag.tr (Ag.tr (Ag.rf 70 142 h) (g1.w (by omega))) (g2.w (by omega))).set (by omega)).set (by omega)) ((w2.t140 (h2 := List.set _ 140 (cA 0 y2)) (fun a ha => by rw [hset_fr (by omega)]) (hset_eq hy) my).t141 (fun a ha => by rw [hset_fr (by omega)]) (hset_eq hz9) mz9))
                                | (rw [if_neg (show ¬ ws j value a b c 3 = ws j value2 a2 b2 c2 3 by omega)] at k; exact k (by omega) (by omega) _ _ _ (((Ag.tr (Ag.tr (Ag.rf 70 142 h) (g1.w (by omega))) (g2.w (by omega))).set (by omega)).set (by omega)) ((w2.t140 (h2 := List.set _ 140 (cA 0 y2)) (fun a ha => by rw [hset_fr (by omega)]) (hset_eq hy) my).t141 (fun a ha => by rw [hset_fr (by omega)]) (hset_eq hz9) mz9))
                            · skip
                              have yes3 : (fun j9 => ws j value a b c j9 = ws j value2 a2 b2 c2 j9 ∧ ¬ ((wq j value a b c j9).1 = (wq j value2 a2 b2 c2 j9).1 ∧ (wq j value a b c j9).2 = (wq j value2 a2 b2 c2 j9).2)) 3 := ⟨by omega, fun z => by omega⟩
                              refine x_iload (dT U_X11_parts 79 rfl) rfl ?_
                              refine x_ireturn (dT U_X11_parts 80 rfl) rfl ?_
                              first
                                | (rw [if_pos (show ws j value a b c 3 = ws j value2 a2 b2 c2 3 by omega), ff_y (P := (fun j9 => ws j value a b c j9 = ws j value2 a2 b2 c2 j9 ∧ ¬ ((wq j value a b c j9).1 = (wq j value2 a2 b2 c2 j9).1 ∧ (wq j value a b c j9).2 = (wq j value2 a2 b2 c2 j9).2))) yes0] at k; exact k (by omega) (by omega) _ _ _ (((Ag.tr (Ag.tr (Ag.rf 70 142 h) (g1.w (by omega))) (g2.w (by omega))).set (by omega)).set (by omega)) ((w2.t140 (h2 := List.set _ 140 (cA 0 y2)) (fun a ha => by rw [hset_fr (by omega)]) (hset_eq hy) my).t141 (fun a ha => by rw [hset_fr (by omega)]) (hset_eq hz9) mz9))
                                | (rw [if_pos (show ws j value a b c 3 = ws j value2 a2 b2 c2 3 by omega), ff_n n0, ff_y (P := (fun j9 => ws j value a b c j9 = ws j value2 a2 b2 c2 j9 ∧ ¬ ((wq j value a b c j9).1 = (wq j value2 a2 b2 c2 j9).1 ∧ (wq j value a b c j9).2 = (wq j value2 a2 b2 c2 j9).2))) yes1] at k; exact k (by omega) (by omega) _ _ _ (((Ag.tr (Ag.tr (Ag.rf 70 142 h) (g1.w (by omega))) (g2.w (by omega))).set (by omega)).set (by omega)) ((w2.t140 (h2 := List.set _ 140 (cA 0 y2)) (fun a ha => by rw [hset_fr (by omega)]) (hset_eq hy) my).t141 (fun a ha => by rw [hset_fr (by omega)]) (hset_eq hz9) mz9))
                                | (rw [if_pos (show ws j value a b c 3 = ws j value2 a2 b2 c2 3 by omega), ff_n n0, ff_n n1, ff_y (P := (fun j9 => ws j value a b c j9 = ws j value2 a2 b2 c2 j9 ∧ ¬ ((wq j value a b c j9).1 = (wq j value2 a2 b2 c2 j9).1 ∧ (wq j value a b c j9).2 = (wq j value2 a2 b2 c2 j9).2))) yes2] at k; exact k (by omega) (by omega) _ _ _ (((Ag.tr (Ag.tr (Ag.rf 70 142 h) (g1.w (by omega))) (g2.w (by omega))).set (by omega)).set (by omega)) ((w2.t140 (h2 := List.set _ 140 (cA 0 y2)) (fun a ha => by rw [hset_fr (by omega)]) (hset_eq hy) my).t141 (fun a ha => by rw [hset_fr (by omega)]) (hset_eq hz9) mz9))
                                | (rw [if_pos (show ws j value a b c 3 = ws j value2 a2 b2 c2 3 by omega), ff_n n0, ff_n n1, ff_n n2, ff_y (P := (fun j9 => ws j value a b c j9 = ws j value2 a2 b2 c2 j9 ∧ ¬ ((wq j value a b c j9).1 = (wq j value2 a2 b2 c2 j9).1 ∧ (wq j value a b c j9).2 = (wq j value2 a2 b2 c2 j9).2))) yes3] at k; exact k (by omega) (by omega) _ _ _ (((Ag.tr (Ag.tr (Ag.rf 70 142 h) (g1.w (by omega))) (g2.w (by omega))).set (by omega)).set (by omega)) ((w2.t140 (h2 := List.set _ 140 (cA 0 y2)) (fun a ha => by rw [hset_fr (by omega)]) (hset_eq hy) my).t141 (fun a ha => by rw [hset_fr (by omega)]) (hset_eq hz9) mz9))
                                | (rw [if_pos (show ws j value a b c 3 = ws j value2 a2 b2 c2 3 by omega), ff_n n0, ff_n n1, ff_n n2, ff_n n3] at k; exact k (by omega) (by omega) _ _ _ (((Ag.tr (Ag.tr (Ag.rf 70 142 h) (g1.w (by omega))) (g2.w (by omega))).set (by omega)).set (by omega)) ((w2.t140 (h2 := List.set _ 140 (cA 0 y2)) (fun a ha => by rw [hset_fr (by omega)]) (hset_eq hy) my).t141 (fun a ha => by rw [hset_fr (by omega)]) (hset_eq hz9) mz9))
                                | (rw [if_neg (show ¬ ws j value a b c 3 = ws j value2 a2 b2 c2 3 by omega)] at k; exact k (by omega) (by omega) _ _ _ (((Ag.tr (Ag.tr (Ag.rf 70 142 h) (g1.w (by omega))) (g2.w (by omega))).set (by omega)).set (by omega)) ((w2.t140 (h2 := List.set _ 140 (cA 0 y2)) (fun a ha => by rw [hset_fr (by omega)]) (hset_eq hy) my).t141 (fun a ha => by rw [hset_fr (by omega)]) (hset_eq hz9) mz9))
                      · skip
                        have yes2 : (fun j9 => ws j value a b c j9 = ws j value2 a2 b2 c2 j9 ∧ ¬ ((wq j value a b c j9).1 = (wq j value2 a2 b2 c2 j9).1 ∧ (wq j value a b c j9).2 = (wq j value2 a2 b2 c2 j9).2)) 2 := ⟨by omega, fun z => by omega⟩
                        refine x_iload (dT U_X11_parts 79 rfl) rfl ?_
                        refine x_ireturn (dT U_X11_parts 80 rfl) rfl ?_
                        first
                          | (rw [if_pos (show ws j value a b c 3 = ws j value2 a2 b2 c2 3 by omega), ff_y (P := (fun j9 => ws j value a b c j9 = ws j value2 a2 b2 c2 j9 ∧ ¬ ((wq j value a b c j9).1 = (wq j value2 a2 b2 c2 j9).1 ∧ (wq j value a b c j9).2 = (wq j value2 a2 b2 c2 j9).2))) yes0] at k; exact k (by omega) (by omega) _ _ _ (((Ag.tr (Ag.tr (Ag.rf 70 142 h) (g1.w (by omega))) (g2.w (by omega))).set (by omega)).set (by omega)) ((w2.t140 (h2 := List.set _ 140 (cA 0 y2)) (fun a ha => by rw [hset_fr (by omega)]) (hset_eq hy) my).t141 (fun a ha => by rw [hset_fr (by omega)]) (hset_eq hz9) mz9))
                          | (rw [if_pos (show ws j value a b c 3 = ws j value2 a2 b2 c2 3 by omega), ff_n n0, ff_y (P := (fun j9 => ws j value a b c j9 = ws j value2 a2 b2 c2 j9 ∧ ¬ ((wq j value a b c j9).1 = (wq j value2 a2 b2 c2 j9).1 ∧ (wq j value a b c j9).2 = (wq j value2 a2 b2 c2 j9).2))) yes1] at k; exact k (by omega) (by omega) _ _ _ (((Ag.tr (Ag.tr (Ag.rf 70 142 h) (g1.w (by omega))) (g2.w (by omega))).set (by omega)).set (by omega)) ((w2.t140 (h2 := List.set _ 140 (cA 0 y2)) (fun a ha => by rw [hset_fr (by omega)]) (hset_eq hy) my).t141 (fun a ha => by rw [hset_fr (by omega)]) (hset_eq hz9) mz9))
                          | (rw [if_pos (show ws j value a b c 3 = ws j value2 a2 b2 c2 3 by omega), ff_n n0, ff_n n1, ff_y (P := (fun j9 => ws j value a b c j9 = ws j value2 a2 b2 c2 j9 ∧ ¬ ((wq j value a b c j9).1 = (wq j value2 a2 b2 c2 j9).1 ∧ (wq j value a b c j9).2 = (wq j value2 a2 b2 c2 j9).2))) yes2] at k; exact k (by omega) (by omega) _ _ _ (((Ag.tr (Ag.tr (Ag.rf 70 142 h) (g1.w (by omega))) (g2.w (by omega))).set (by omega)).set (by omega)) ((w2.t140 (h2 := List.set _ 140 (cA 0 y2)) (fun a ha => by rw [hset_fr (by omega)]) (hset_eq hy) my).t141 (fun a ha => by rw [hset_fr (by omega)]) (hset_eq hz9) mz9))
                          | (rw [if_pos (show ws j value a b c 3 = ws j value2 a2 b2 c2 3 by omega), ff_n n0, ff_n n1, ff_n n2, ff_y (P := (fun j9 => ws j value a b c j9 = ws j value2 a2 b2 c2 j9 ∧ ¬ ((wq j value a b c j9).1 = (wq j value2 a2 b2 c2 j9).1 ∧ (wq j value a b c j9).2 = (wq j value2 a2 b2 c2 j9).2))) yes3] at k; exact k (by omega) (by omega) _ _ _ (((Ag.tr (Ag.tr (Ag.rf 70 142 h) (g1.w (by omega))) (g2.w (by omega))).set (by omega)).set (by omega)) ((w2.t140 (h2 := List.set _ 140 (cA 0 y2)) (fun a ha => by rw [hset_fr (by omega)]) (hset_eq hy) my).t141 (fun a ha => by rw [hset_fr (by omega)]) (hset_eq hz9) mz9))
                          | (rw [if_pos (show ws j value a b c 3 = ws j value2 a2 b2 c2 3 by omega), ff_n n0, ff_n n1, ff_n n2, ff_n n3] at k; exact k (by omega) (by omega) _ _ _ (((Ag.tr (Ag.tr (Ag.rf 70 142 h) (g1.w (by omega))) (g2.w (by omega))).set (by omega)).set (by omega)) ((w2.t140 (h2 := List.set _ 140 (cA 0 y2)) (fun a ha => by rw [hset_fr (by omega)]) (hset_eq hy) my).t141 (fun a ha => by rw [hset_fr (by omega)]) (hset_eq hz9) mz9))
                          | (rw [if_neg (show ¬ ws j value a b c 3 = ws j value2 a2 b2 c2 3 by omega)] at k; exact k (by omega) (by omega) _ _ _ (((Ag.tr (Ag.tr (Ag.rf 70 142 h) (g1.w (by omega))) (g2.w (by omega))).set (by omega)).set (by omega)) ((w2.t140 (h2 := List.set _ 140 (cA 0 y2)) (fun a ha => by rw [hset_fr (by omega)]) (hset_eq hy) my).t141 (fun a ha => by rw [hset_fr (by omega)]) (hset_eq hz9) mz9))
                · skip
                  have yes1 : (fun j9 => ws j value a b c j9 = ws j value2 a2 b2 c2 j9 ∧ ¬ ((wq j value a b c j9).1 = (wq j value2 a2 b2 c2 j9).1 ∧ (wq j value a b c j9).2 = (wq j value2 a2 b2 c2 j9).2)) 1 := ⟨by omega, fun z => by omega⟩
                  refine x_iload (dT U_X11_parts 79 rfl) rfl ?_
                  refine x_ireturn (dT U_X11_parts 80 rfl) rfl ?_
                  first
                    | (rw [if_pos (show ws j value a b c 3 = ws j value2 a2 b2 c2 3 by omega), ff_y (P := (fun j9 => ws j value a b c j9 = ws j value2 a2 b2 c2 j9 ∧ ¬ ((wq j value a b c j9).1 = (wq j value2 a2 b2 c2 j9).1 ∧ (wq j value a b c j9).2 = (wq j value2 a2 b2 c2 j9).2))) yes0] at k; exact k (by omega) (by omega) _ _ _ (((Ag.tr (Ag.tr (Ag.rf 70 142 h) (g1.w (by omega))) (g2.w (by omega))).set (by omega)).set (by omega)) ((w2.t140 (h2 := List.set _ 140 (cA 0 y2)) (fun a ha => by rw [hset_fr (by omega)]) (hset_eq hy) my).t141 (fun a ha => by rw [hset_fr (by omega)]) (hset_eq hz9) mz9))
                    | (rw [if_pos (show ws j value a b c 3 = ws j value2 a2 b2 c2 3 by omega), ff_n n0, ff_y (P := (fun j9 => ws j value a b c j9 = ws j value2 a2 b2 c2 j9 ∧ ¬ ((wq j value a b c j9).1 = (wq j value2 a2 b2 c2 j9).1 ∧ (wq j value a b c j9).2 = (wq j value2 a2 b2 c2 j9).2))) yes1] at k; exact k (by omega) (by omega) _ _ _ (((Ag.tr (Ag.tr (Ag.rf 70 142 h) (g1.w (by omega))) (g2.w (by omega))).set (by omega)).set (by omega)) ((w2.t140 (h2 := List.set _ 140 (cA 0 y2)) (fun a ha => by rw [hset_fr (by omega)]) (hset_eq hy) my).t141 (fun a ha => by rw [hset_fr (by omega)]) (hset_eq hz9) mz9))
                    | (rw [if_pos (show ws j value a b c 3 = ws j value2 a2 b2 c2 3 by omega), ff_n n0, ff_n n1, ff_y (P := (fun j9 => ws j value a b c j9 = ws j value2 a2 b2 c2 j9 ∧ ¬ ((wq j value a b c j9).1 = (wq j value2 a2 b2 c2 j9).1 ∧ (wq j value a b c j9).2 = (wq j value2 a2 b2 c2 j9).2))) yes2] at k; exact k (by omega) (by omega) _ _ _ (((Ag.tr (Ag.tr (Ag.rf 70 142 h) (g1.w (by omega))) (g2.w (by omega))).set (by omega)).set (by omega)) ((w2.t140 (h2 := List.set _ 140 (cA 0 y2)) (fun a ha => by rw [hset_fr (by omega)]) (hset_eq hy) my).t141 (fun a ha => by rw [hset_fr (by omega)]) (hset_eq hz9) mz9))
                    | (rw [if_pos (show ws j value a b c 3 = ws j value2 a2 b2 c2 3 by omega), ff_n n0, ff_n n1, ff_n n2, ff_y (P := (fun j9 => ws j value a b c j9 = ws j value2 a2 b2 c2 j9 ∧ ¬ ((wq j value a b c j9).1 = (wq j value2 a2 b2 c2 j9).1 ∧ (wq j value a b c j9).2 = (wq j value2 a2 b2 c2 j9).2))) yes3] at k; exact k (by omega) (by omega) _ _ _ (((Ag.tr (Ag.tr (Ag.rf 70 142 h) (g1.w (by omega))) (g2.w (by omega))).set (by omega)).set (by omega)) ((w2.t140 (h2 := List.set _ 140 (cA 0 y2)) (fun a ha => by rw [hset_fr (by omega)]) (hset_eq hy) my).t141 (fun a ha => by rw [hset_fr (by omega)]) (hset_eq hz9) mz9))
                    | (rw [if_pos (show ws j value a b c 3 = ws j value2 a2 b2 c2 3 by omega), ff_n n0, ff_n n1, ff_n n2, ff_n n3] at k; exact k (by omega) (by omega) _ _ _ (((Ag.tr (Ag.tr (Ag.rf 70 142 h) (g1.w (by omega))) (g2.w (by omega))).set (by omega)).set (by omega)) ((w2.t140 (h2 := List.set _ 140 (cA 0 y2)) (fun a ha => by rw [hset_fr (by omega)]) (hset_eq hy) my).t141 (fun a ha => by rw [hset_fr (by omega)]) (hset_eq hz9) mz9))
                    | (rw [if_neg (show ¬ ws j value a b c 3 = ws j value2 a2 b2 c2 3 by omega)] at k; exact k (by omega) (by omega) _ _ _ (((Ag.tr (Ag.tr (Ag.rf 70 142 h) (g1.w (by omega))) (g2.w (by omega))).set (by omega)).set (by omega)) ((w2.t140 (h2 := List.set _ 140 (cA 0 y2)) (fun a ha => by rw [hset_fr (by omega)]) (hset_eq hy) my).t141 (fun a ha => by rw [hset_fr (by omega)]) (hset_eq hz9) mz9))
          · skip
            refine x_aload_n (dT U_X11_parts 68 rfl) rfl ?_
            refine x_getfield F_X11_109 (dT U_X11_parts 69 rfl) (hset_ne (by omega) (hset_ne (by omega) (w2.c70))) (Nat.le_of_ble_eq_true rfl) rfl ?_
            refine x_iload (dT U_X11_parts 70 rfl) rfl ?_
            refine x_ialoadv (0) (dT U_X11_parts 71 rfl) (hset_ne (by omega) (hset_eq hy)) (Nat.le_of_ble_eq_true rfl) rfl (by omega) (by omega) yg0 ?_
            refine x_invokestatic (rc' := rc) (rs' := rs) (rc2 := 0) (rs2 := 0) (As := [_]) (st := _) M_X11_sealed_ K_X11_231 (dT U_X11_parts 72 rfl) rfl rfl rfl rfl (Nat.le_of_ble_eq_true rfl) rfl (by decide) (Nat.le_of_ble_eq_true rfl) rfl rfl ?_
            refine S_sealedP (x := (wq j value a b c 0).1) (y := (wq j value a b c 0).2) ba0.1 ba0.2 ?_
            change xRet _ _ _ _ _ _ _ _ _ _ (.inl (some (vi (ws j value a b c 0)))) _ _
            refine xRet_some ?_
            refine x_aload_n (dT U_X11_parts 73 rfl) rfl ?_
            refine x_getfield F_X11_112 (dT U_X11_parts 74 rfl) (hset_ne (by omega) (hset_ne (by omega) (w2.c70))) (Nat.le_of_ble_eq_true rfl) rfl ?_
            refine x_iload (dT U_X11_parts 75 rfl) rfl ?_
            refine x_ialoadv (0) (dT U_X11_parts 76 rfl) (hset_eq hz9) (Nat.le_of_ble_eq_true rfl) rfl (by omega) (by omega) zg0 ?_
            refine x_invokestatic (rc' := rc) (rs' := rs) (rc2 := 0) (rs2 := 0) (As := [_]) (st := _) M_X11_sealed_ K_X11_231 (dT U_X11_parts 77 rfl) rfl rfl rfl rfl (Nat.le_of_ble_eq_true rfl) rfl (by decide) (Nat.le_of_ble_eq_true rfl) rfl rfl ?_
            refine S_sealedP (x := (wq j value2 a2 b2 c2 0).1) (y := (wq j value2 a2 b2 c2 0).2) bb0.1 bb0.2 ?_
            change xRet _ _ _ _ _ _ _ _ _ _ (.inl (some (vi (ws j value2 a2 b2 c2 0)))) _ _
            have sA0 : 0 ≤ (ws j value a b c 0) ∧ (ws j value a b c 0) < 251 := sl_b _ _
            have sB0 : 0 ≤ (ws j value2 a2 b2 c2 0) ∧ (ws j value2 a2 b2 c2 0) < 251 := sl_b _ _
            refine xRet_some ?_
            refine x_icmp_ne (tgt := 152) (dT U_X11_parts 78 rfl) (by decide) (by unfold xr; omega) (by unfold xr; omega) (fun c146 => ?_) (fun c146 => ?_)
            · skip
              have n0 : ¬ (fun j9 => ws j value a b c j9 = ws j value2 a2 b2 c2 j9 ∧ ¬ ((wq j value a b c j9).1 = (wq j value2 a2 b2 c2 j9).1 ∧ (wq j value a b c j9).2 = (wq j value2 a2 b2 c2 j9).2)) 0 := fun z => by have := z.1; omega
              refine x_iinc (ls' := [some (.ref _), some (vi _), some (vi _), some (vi _), some (vi _), some (vi _), some (vi _), some (vi _), some (vi _), some (vi _), some (vi _)]) (dT U_X11_parts 81 rfl) (by decide) rfl rfl ?_
              refine x_goto (tgt := 88) (dT U_X11_parts 82 rfl) (by decide) ?_
              refine x_iload (dT U_X11_parts 47 rfl) rfl ?_
              refine x_iconst (dT U_X11_parts 48 rfl) ?_
              refine x_icmp_ge (tgt := 158) (dT U_X11_parts 49 rfl) (by decide) (by unfold xr; omega) (by unfold xr; omega) (fun c91 => (by exfalso; omega)) (fun c91 => ?_)
              refine x_aload_n (dT U_X11_parts 50 rfl) rfl ?_
              refine x_getfield F_X11_109 (dT U_X11_parts 51 rfl) (hset_ne (by omega) (hset_ne (by omega) (w2.c70))) (Nat.le_of_ble_eq_true rfl) rfl ?_
              refine x_iconst (dT U_X11_parts 52 rfl) ?_
              refine x_ialoadv (4) (dT U_X11_parts 53 rfl) (hset_ne (by omega) (hset_eq hy)) (Nat.le_of_ble_eq_true rfl) rfl (by omega) (by omega) yg4 ?_
              refine x_aload_n (dT U_X11_parts 54 rfl) rfl ?_
              refine x_getfield F_X11_112 (dT U_X11_parts 55 rfl) (hset_ne (by omega) (hset_ne (by omega) (w2.c70))) (Nat.le_of_ble_eq_true rfl) rfl ?_
              refine x_iconst (dT U_X11_parts 56 rfl) ?_
              refine x_ialoadv (4) (dT U_X11_parts 57 rfl) (hset_eq hz9) (Nat.le_of_ble_eq_true rfl) rfl (by omega) (by omega) zg4 ?_
              have sA : 0 ≤ (ws j value a b c 3) ∧ (ws j value a b c 3) < 251 := sl_b _ _
              have sB : 0 ≤ (ws j value2 a2 b2 c2 3) ∧ (ws j value2 a2 b2 c2 3) < 251 := sl_b _ _
              refine x_icmp_ne (tgt := 158) (dT U_X11_parts 58 rfl) (by decide) (by unfold xr; omega) (by unfold xr; omega) (fun c106 => ?_) (fun c106 => ?_)
              · skip
                refine x_iconst (dT U_X11_parts 83 rfl) ?_
                refine x_ireturn (dT U_X11_parts 84 rfl) rfl ?_
                first
                  | (rw [if_pos (show ws j value a b c 3 = ws j value2 a2 b2 c2 3 by omega), ff_y (P := (fun j9 => ws j value a b c j9 = ws j value2 a2 b2 c2 j9 ∧ ¬ ((wq j value a b c j9).1 = (wq j value2 a2 b2 c2 j9).1 ∧ (wq j value a b c j9).2 = (wq j value2 a2 b2 c2 j9).2))) yes0] at k; exact k (by omega) (by omega) _ _ _ (((Ag.tr (Ag.tr (Ag.rf 70 142 h) (g1.w (by omega))) (g2.w (by omega))).set (by omega)).set (by omega)) ((w2.t140 (h2 := List.set _ 140 (cA 0 y2)) (fun a ha => by rw [hset_fr (by omega)]) (hset_eq hy) my).t141 (fun a ha => by rw [hset_fr (by omega)]) (hset_eq hz9) mz9))
                  | (rw [if_pos (show ws j value a b c 3 = ws j value2 a2 b2 c2 3 by omega), ff_n n0, ff_y (P := (fun j9 => ws j value a b c j9 = ws j value2 a2 b2 c2 j9 ∧ ¬ ((wq j value a b c j9).1 = (wq j value2 a2 b2 c2 j9).1 ∧ (wq j value a b c j9).2 = (wq j value2 a2 b2 c2 j9).2))) yes1] at k; exact k (by omega) (by omega) _ _ _ (((Ag.tr (Ag.tr (Ag.rf 70 142 h) (g1.w (by omega))) (g2.w (by omega))).set (by omega)).set (by omega)) ((w2.t140 (h2 := List.set _ 140 (cA 0 y2)) (fun a ha => by rw [hset_fr (by omega)]) (hset_eq hy) my).t141 (fun a ha => by rw [hset_fr (by omega)]) (hset_eq hz9) mz9))
                  | (rw [if_pos (show ws j value a b c 3 = ws j value2 a2 b2 c2 3 by omega), ff_n n0, ff_n n1, ff_y (P := (fun j9 => ws j value a b c j9 = ws j value2 a2 b2 c2 j9 ∧ ¬ ((wq j value a b c j9).1 = (wq j value2 a2 b2 c2 j9).1 ∧ (wq j value a b c j9).2 = (wq j value2 a2 b2 c2 j9).2))) yes2] at k; exact k (by omega) (by omega) _ _ _ (((Ag.tr (Ag.tr (Ag.rf 70 142 h) (g1.w (by omega))) (g2.w (by omega))).set (by omega)).set (by omega)) ((w2.t140 (h2 := List.set _ 140 (cA 0 y2)) (fun a ha => by rw [hset_fr (by omega)]) (hset_eq hy) my).t141 (fun a ha => by rw [hset_fr (by omega)]) (hset_eq hz9) mz9))
                  | (rw [if_pos (show ws j value a b c 3 = ws j value2 a2 b2 c2 3 by omega), ff_n n0, ff_n n1, ff_n n2, ff_y (P := (fun j9 => ws j value a b c j9 = ws j value2 a2 b2 c2 j9 ∧ ¬ ((wq j value a b c j9).1 = (wq j value2 a2 b2 c2 j9).1 ∧ (wq j value a b c j9).2 = (wq j value2 a2 b2 c2 j9).2))) yes3] at k; exact k (by omega) (by omega) _ _ _ (((Ag.tr (Ag.tr (Ag.rf 70 142 h) (g1.w (by omega))) (g2.w (by omega))).set (by omega)).set (by omega)) ((w2.t140 (h2 := List.set _ 140 (cA 0 y2)) (fun a ha => by rw [hset_fr (by omega)]) (hset_eq hy) my).t141 (fun a ha => by rw [hset_fr (by omega)]) (hset_eq hz9) mz9))
                  | (rw [if_pos (show ws j value a b c 3 = ws j value2 a2 b2 c2 3 by omega), ff_n n0, ff_n n1, ff_n n2, ff_n n3] at k; exact k (by omega) (by omega) _ _ _ (((Ag.tr (Ag.tr (Ag.rf 70 142 h) (g1.w (by omega))) (g2.w (by omega))).set (by omega)).set (by omega)) ((w2.t140 (h2 := List.set _ 140 (cA 0 y2)) (fun a ha => by rw [hset_fr (by omega)]) (hset_eq hy) my).t141 (fun a ha => by rw [hset_fr (by omega)]) (hset_eq hz9) mz9))
                  | (rw [if_neg (show ¬ ws j value a b c 3 = ws j value2 a2 b2 c2 3 by omega)] at k; exact k (by omega) (by omega) _ _ _ (((Ag.tr (Ag.tr (Ag.rf 70 142 h) (g1.w (by omega))) (g2.w (by omega))).set (by omega)).set (by omega)) ((w2.t140 (h2 := List.set _ 140 (cA 0 y2)) (fun a ha => by rw [hset_fr (by omega)]) (hset_eq hy) my).t141 (fun a ha => by rw [hset_fr (by omega)]) (hset_eq hz9) mz9))
              · skip
                refine x_aload_n (dT U_X11_parts 59 rfl) rfl ?_
                refine x_getfield F_X11_109 (dT U_X11_parts 60 rfl) (hset_ne (by omega) (hset_ne (by omega) (w2.c70))) (Nat.le_of_ble_eq_true rfl) rfl ?_
                refine x_iload (dT U_X11_parts 61 rfl) rfl ?_
                refine x_ialoadv (1) (dT U_X11_parts 62 rfl) (hset_ne (by omega) (hset_eq hy)) (Nat.le_of_ble_eq_true rfl) rfl (by omega) (by omega) yg1 ?_
                refine x_aload_n (dT U_X11_parts 63 rfl) rfl ?_
                refine x_getfield F_X11_112 (dT U_X11_parts 64 rfl) (hset_ne (by omega) (hset_ne (by omega) (w2.c70))) (Nat.le_of_ble_eq_true rfl) rfl ?_
                refine x_iload (dT U_X11_parts 65 rfl) rfl ?_
                refine x_ialoadv (1) (dT U_X11_parts 66 rfl) (hset_eq hz9) (Nat.le_of_ble_eq_true rfl) rfl (by omega) (by omega) zg1 ?_
                have ba1 := wq_b (i := j) (v := value) (a := a) (b := b) (c := c) hj (by omega) (by omega) (by omega) (by omega) 1
                have bb1 := wq_b (i := j) (v := value2) (a := a2) (b := b2) (c := c2) hj (by omega) (by omega) (by omega) (by omega) 1
                have ua1 : WN j value a b c 1 = 251 * (wq j value a b c 1).1 + (wq j value a b c 1).2 := rfl
                have ub1 : WN j value2 a2 b2 c2 1 = 251 * (wq j value2 a2 b2 c2 1).1 + (wq j value2 a2 b2 c2 1).2 := rfl
                refine x_icmp_eq (tgt := 152) (dT U_X11_parts 67 rfl) (by decide) (by unfold xr; omega) (by unfold xr; omega) (fun c123 => ?_) (fun c123 => ?_)
                · skip
                  have n1 : ¬ (fun j9 => ws j value a b c j9 = ws j value2 a2 b2 c2 j9 ∧ ¬ ((wq j value a b c j9).1 = (wq j value2 a2 b2 c2 j9).1 ∧ (wq j value a b c j9).2 = (wq j value2 a2 b2 c2 j9).2)) 1 := fun z => z.2 (by omega)
                  refine x_iinc (ls' := [some (.ref _), some (vi _), some (vi _), some (vi _), some (vi _), some (vi _), some (vi _), some (vi _), some (vi _), some (vi _), some (vi _)]) (dT U_X11_parts 81 rfl) (by decide) rfl rfl ?_
                  refine x_goto (tgt := 88) (dT U_X11_parts 82 rfl) (by decide) ?_
                  refine x_iload (dT U_X11_parts 47 rfl) rfl ?_
                  refine x_iconst (dT U_X11_parts 48 rfl) ?_
                  refine x_icmp_ge (tgt := 158) (dT U_X11_parts 49 rfl) (by decide) (by unfold xr; omega) (by unfold xr; omega) (fun c91 => (by exfalso; omega)) (fun c91 => ?_)
                  refine x_aload_n (dT U_X11_parts 50 rfl) rfl ?_
                  refine x_getfield F_X11_109 (dT U_X11_parts 51 rfl) (hset_ne (by omega) (hset_ne (by omega) (w2.c70))) (Nat.le_of_ble_eq_true rfl) rfl ?_
                  refine x_iconst (dT U_X11_parts 52 rfl) ?_
                  refine x_ialoadv (4) (dT U_X11_parts 53 rfl) (hset_ne (by omega) (hset_eq hy)) (Nat.le_of_ble_eq_true rfl) rfl (by omega) (by omega) yg4 ?_
                  refine x_aload_n (dT U_X11_parts 54 rfl) rfl ?_
                  refine x_getfield F_X11_112 (dT U_X11_parts 55 rfl) (hset_ne (by omega) (hset_ne (by omega) (w2.c70))) (Nat.le_of_ble_eq_true rfl) rfl ?_
                  refine x_iconst (dT U_X11_parts 56 rfl) ?_
                  refine x_ialoadv (4) (dT U_X11_parts 57 rfl) (hset_eq hz9) (Nat.le_of_ble_eq_true rfl) rfl (by omega) (by omega) zg4 ?_
                  have sA : 0 ≤ (ws j value a b c 3) ∧ (ws j value a b c 3) < 251 := sl_b _ _
                  have sB : 0 ≤ (ws j value2 a2 b2 c2 3) ∧ (ws j value2 a2 b2 c2 3) < 251 := sl_b _ _
                  refine x_icmp_ne (tgt := 158) (dT U_X11_parts 58 rfl) (by decide) (by unfold xr; omega) (by unfold xr; omega) (fun c106 => ?_) (fun c106 => ?_)
                  · skip
                    refine x_iconst (dT U_X11_parts 83 rfl) ?_
                    refine x_ireturn (dT U_X11_parts 84 rfl) rfl ?_
                    first
                      | (rw [if_pos (show ws j value a b c 3 = ws j value2 a2 b2 c2 3 by omega), ff_y (P := (fun j9 => ws j value a b c j9 = ws j value2 a2 b2 c2 j9 ∧ ¬ ((wq j value a b c j9).1 = (wq j value2 a2 b2 c2 j9).1 ∧ (wq j value a b c j9).2 = (wq j value2 a2 b2 c2 j9).2))) yes0] at k; exact k (by omega) (by omega) _ _ _ (((Ag.tr (Ag.tr (Ag.rf 70 142 h) (g1.w (by omega))) (g2.w (by omega))).set (by omega)).set (by omega)) ((w2.t140 (h2 := List.set _ 140 (cA 0 y2)) (fun a ha => by rw [hset_fr (by omega)]) (hset_eq hy) my).t141 (fun a ha => by rw [hset_fr (by omega)]) (hset_eq hz9) mz9))
                      | (rw [if_pos (show ws j value a b c 3 = ws j value2 a2 b2 c2 3 by omega), ff_n n0, ff_y (P := (fun j9 => ws j value a b c j9 = ws j value2 a2 b2 c2 j9 ∧ ¬ ((wq j value a b c j9).1 = (wq j value2 a2 b2 c2 j9).1 ∧ (wq j value a b c j9).2 = (wq j value2 a2 b2 c2 j9).2))) yes1] at k; exact k (by omega) (by omega) _ _ _ (((Ag.tr (Ag.tr (Ag.rf 70 142 h) (g1.w (by omega))) (g2.w (by omega))).set (by omega)).set (by omega)) ((w2.t140 (h2 := List.set _ 140 (cA 0 y2)) (fun a ha => by rw [hset_fr (by omega)]) (hset_eq hy) my).t141 (fun a ha => by rw [hset_fr (by omega)]) (hset_eq hz9) mz9))
                      | (rw [if_pos (show ws j value a b c 3 = ws j value2 a2 b2 c2 3 by omega), ff_n n0, ff_n n1, ff_y (P := (fun j9 => ws j value a b c j9 = ws j value2 a2 b2 c2 j9 ∧ ¬ ((wq j value a b c j9).1 = (wq j value2 a2 b2 c2 j9).1 ∧ (wq j value a b c j9).2 = (wq j value2 a2 b2 c2 j9).2))) yes2] at k; exact k (by omega) (by omega) _ _ _ (((Ag.tr (Ag.tr (Ag.rf 70 142 h) (g1.w (by omega))) (g2.w (by omega))).set (by omega)).set (by omega)) ((w2.t140 (h2 := List.set _ 140 (cA 0 y2)) (fun a ha => by rw [hset_fr (by omega)]) (hset_eq hy) my).t141 (fun a ha => by rw [hset_fr (by omega)]) (hset_eq hz9) mz9))
                      | (rw [if_pos (show ws j value a b c 3 = ws j value2 a2 b2 c2 3 by omega), ff_n n0, ff_n n1, ff_n n2, ff_y (P := (fun j9 => ws j value a b c j9 = ws j value2 a2 b2 c2 j9 ∧ ¬ ((wq j value a b c j9).1 = (wq j value2 a2 b2 c2 j9).1 ∧ (wq j value a b c j9).2 = (wq j value2 a2 b2 c2 j9).2))) yes3] at k; exact k (by omega) (by omega) _ _ _ (((Ag.tr (Ag.tr (Ag.rf 70 142 h) (g1.w (by omega))) (g2.w (by omega))).set (by omega)).set (by omega)) ((w2.t140 (h2 := List.set _ 140 (cA 0 y2)) (fun a ha => by rw [hset_fr (by omega)]) (hset_eq hy) my).t141 (fun a ha => by rw [hset_fr (by omega)]) (hset_eq hz9) mz9))
                      | (rw [if_pos (show ws j value a b c 3 = ws j value2 a2 b2 c2 3 by omega), ff_n n0, ff_n n1, ff_n n2, ff_n n3] at k; exact k (by omega) (by omega) _ _ _ (((Ag.tr (Ag.tr (Ag.rf 70 142 h) (g1.w (by omega))) (g2.w (by omega))).set (by omega)).set (by omega)) ((w2.t140 (h2 := List.set _ 140 (cA 0 y2)) (fun a ha => by rw [hset_fr (by omega)]) (hset_eq hy) my).t141 (fun a ha => by rw [hset_fr (by omega)]) (hset_eq hz9) mz9))
                      | (rw [if_neg (show ¬ ws j value a b c 3 = ws j value2 a2 b2 c2 3 by omega)] at k; exact k (by omega) (by omega) _ _ _ (((Ag.tr (Ag.tr (Ag.rf 70 142 h) (g1.w (by omega))) (g2.w (by omega))).set (by omega)).set (by omega)) ((w2.t140 (h2 := List.set _ 140 (cA 0 y2)) (fun a ha => by rw [hset_fr (by omega)]) (hset_eq hy) my).t141 (fun a ha => by rw [hset_fr (by omega)]) (hset_eq hz9) mz9))
                  · skip
                    refine x_aload_n (dT U_X11_parts 59 rfl) rfl ?_
                    refine x_getfield F_X11_109 (dT U_X11_parts 60 rfl) (hset_ne (by omega) (hset_ne (by omega) (w2.c70))) (Nat.le_of_ble_eq_true rfl) rfl ?_
                    refine x_iload (dT U_X11_parts 61 rfl) rfl ?_
                    refine x_ialoadv (2) (dT U_X11_parts 62 rfl) (hset_ne (by omega) (hset_eq hy)) (Nat.le_of_ble_eq_true rfl) rfl (by omega) (by omega) yg2 ?_
                    refine x_aload_n (dT U_X11_parts 63 rfl) rfl ?_
                    refine x_getfield F_X11_112 (dT U_X11_parts 64 rfl) (hset_ne (by omega) (hset_ne (by omega) (w2.c70))) (Nat.le_of_ble_eq_true rfl) rfl ?_
                    refine x_iload (dT U_X11_parts 65 rfl) rfl ?_
                    refine x_ialoadv (2) (dT U_X11_parts 66 rfl) (hset_eq hz9) (Nat.le_of_ble_eq_true rfl) rfl (by omega) (by omega) zg2 ?_
                    have ba2 := wq_b (i := j) (v := value) (a := a) (b := b) (c := c) hj (by omega) (by omega) (by omega) (by omega) 2
                    have bb2 := wq_b (i := j) (v := value2) (a := a2) (b := b2) (c := c2) hj (by omega) (by omega) (by omega) (by omega) 2
                    have ua2 : WN j value a b c 2 = 251 * (wq j value a b c 2).1 + (wq j value a b c 2).2 := rfl
                    have ub2 : WN j value2 a2 b2 c2 2 = 251 * (wq j value2 a2 b2 c2 2).1 + (wq j value2 a2 b2 c2 2).2 := rfl
                    refine x_icmp_eq (tgt := 152) (dT U_X11_parts 67 rfl) (by decide) (by unfold xr; omega) (by unfold xr; omega) (fun c123 => ?_) (fun c123 => ?_)
                    · skip
                      have n2 : ¬ (fun j9 => ws j value a b c j9 = ws j value2 a2 b2 c2 j9 ∧ ¬ ((wq j value a b c j9).1 = (wq j value2 a2 b2 c2 j9).1 ∧ (wq j value a b c j9).2 = (wq j value2 a2 b2 c2 j9).2)) 2 := fun z => z.2 (by omega)
                      refine x_iinc (ls' := [some (.ref _), some (vi _), some (vi _), some (vi _), some (vi _), some (vi _), some (vi _), some (vi _), some (vi _), some (vi _), some (vi _)]) (dT U_X11_parts 81 rfl) (by decide) rfl rfl ?_
                      refine x_goto (tgt := 88) (dT U_X11_parts 82 rfl) (by decide) ?_
                      refine x_iload (dT U_X11_parts 47 rfl) rfl ?_
                      refine x_iconst (dT U_X11_parts 48 rfl) ?_
                      refine x_icmp_ge (tgt := 158) (dT U_X11_parts 49 rfl) (by decide) (by unfold xr; omega) (by unfold xr; omega) (fun c91 => (by exfalso; omega)) (fun c91 => ?_)
                      refine x_aload_n (dT U_X11_parts 50 rfl) rfl ?_
                      refine x_getfield F_X11_109 (dT U_X11_parts 51 rfl) (hset_ne (by omega) (hset_ne (by omega) (w2.c70))) (Nat.le_of_ble_eq_true rfl) rfl ?_
                      refine x_iconst (dT U_X11_parts 52 rfl) ?_
                      refine x_ialoadv (4) (dT U_X11_parts 53 rfl) (hset_ne (by omega) (hset_eq hy)) (Nat.le_of_ble_eq_true rfl) rfl (by omega) (by omega) yg4 ?_
                      refine x_aload_n (dT U_X11_parts 54 rfl) rfl ?_
                      refine x_getfield F_X11_112 (dT U_X11_parts 55 rfl) (hset_ne (by omega) (hset_ne (by omega) (w2.c70))) (Nat.le_of_ble_eq_true rfl) rfl ?_
                      refine x_iconst (dT U_X11_parts 56 rfl) ?_
                      refine x_ialoadv (4) (dT U_X11_parts 57 rfl) (hset_eq hz9) (Nat.le_of_ble_eq_true rfl) rfl (by omega) (by omega) zg4 ?_
                      have sA : 0 ≤ (ws j value a b c 3) ∧ (ws j value a b c 3) < 251 := sl_b _ _
                      have sB : 0 ≤ (ws j value2 a2 b2 c2 3) ∧ (ws j value2 a2 b2 c2 3) < 251 := sl_b _ _
                      refine x_icmp_ne (tgt := 158) (dT U_X11_parts 58 rfl) (by decide) (by unfold xr; omega) (by unfold xr; omega) (fun c106 => ?_) (fun c106 => ?_)
                      · skip
                        refine x_iconst (dT U_X11_parts 83 rfl) ?_
                        refine x_ireturn (dT U_X11_parts 84 rfl) rfl ?_
                        first
                          | (rw [if_pos (show ws j value a b c 3 = ws j value2 a2 b2 c2 3 by omega), ff_y (P := (fun j9 => ws j value a b c j9 = ws j value2 a2 b2 c2 j9 ∧ ¬ ((wq j value a b c j9).1 = (wq j value2 a2 b2 c2 j9).1 ∧ (wq j value a b c j9).2 = (wq j value2 a2 b2 c2 j9).2))) yes0] at k; exact k (by omega) (by omega) _ _ _ (((Ag.tr (Ag.tr (Ag.rf 70 142 h) (g1.w (by omega))) (g2.w (by omega))).set (by omega)).set (by omega)) ((w2.t140 (h2 := List.set _ 140 (cA 0 y2)) (fun a ha => by rw [hset_fr (by omega)]) (hset_eq hy) my).t141 (fun a ha => by rw [hset_fr (by omega)]) (hset_eq hz9) mz9))
                          | (rw [if_pos (show ws j value a b c 3 = ws j value2 a2 b2 c2 3 by omega), ff_n n0, ff_y (P := (fun j9 => ws j value a b c j9 = ws j value2 a2 b2 c2 j9 ∧ ¬ ((wq j value a b c j9).1 = (wq j value2 a2 b2 c2 j9).1 ∧ (wq j value a b c j9).2 = (wq j value2 a2 b2 c2 j9).2))) yes1] at k; exact k (by omega) (by omega) _ _ _ (((Ag.tr (Ag.tr (Ag.rf 70 142 h) (g1.w (by omega))) (g2.w (by omega))).set (by omega)).set (by omega)) ((w2.t140 (h2 := List.set _ 140 (cA 0 y2)) (fun a ha => by rw [hset_fr (by omega)]) (hset_eq hy) my).t141 (fun a ha => by rw [hset_fr (by omega)]) (hset_eq hz9) mz9))
                          | (rw [if_pos (show ws j value a b c 3 = ws j value2 a2 b2 c2 3 by omega), ff_n n0, ff_n n1, ff_y (P := (fun j9 => ws j value a b c j9 = ws j value2 a2 b2 c2 j9 ∧ ¬ ((wq j value a b c j9).1 = (wq j value2 a2 b2 c2 j9).1 ∧ (wq j value a b c j9).2 = (wq j value2 a2 b2 c2 j9).2))) yes2] at k; exact k (by omega) (by omega) _ _ _ (((Ag.tr (Ag.tr (Ag.rf 70 142 h) (g1.w (by omega))) (g2.w (by omega))).set (by omega)).set (by omega)) ((w2.t140 (h2 := List.set _ 140 (cA 0 y2)) (fun a ha => by rw [hset_fr (by omega)]) (hset_eq hy) my).t141 (fun a ha => by rw [hset_fr (by omega)]) (hset_eq hz9) mz9))
                          | (rw [if_pos (show ws j value a b c 3 = ws j value2 a2 b2 c2 3 by omega), ff_n n0, ff_n n1, ff_n n2, ff_y (P := (fun j9 => ws j value a b c j9 = ws j value2 a2 b2 c2 j9 ∧ ¬ ((wq j value a b c j9).1 = (wq j value2 a2 b2 c2 j9).1 ∧ (wq j value a b c j9).2 = (wq j value2 a2 b2 c2 j9).2))) yes3] at k; exact k (by omega) (by omega) _ _ _ (((Ag.tr (Ag.tr (Ag.rf 70 142 h) (g1.w (by omega))) (g2.w (by omega))).set (by omega)).set (by omega)) ((w2.t140 (h2 := List.set _ 140 (cA 0 y2)) (fun a ha => by rw [hset_fr (by omega)]) (hset_eq hy) my).t141 (fun a ha => by rw [hset_fr (by omega)]) (hset_eq hz9) mz9))
                          | (rw [if_pos (show ws j value a b c 3 = ws j value2 a2 b2 c2 3 by omega), ff_n n0, ff_n n1, ff_n n2, ff_n n3] at k; exact k (by omega) (by omega) _ _ _ (((Ag.tr (Ag.tr (Ag.rf 70 142 h) (g1.w (by omega))) (g2.w (by omega))).set (by omega)).set (by omega)) ((w2.t140 (h2 := List.set _ 140 (cA 0 y2)) (fun a ha => by rw [hset_fr (by omega)]) (hset_eq hy) my).t141 (fun a ha => by rw [hset_fr (by omega)]) (hset_eq hz9) mz9))
                          | (rw [if_neg (show ¬ ws j value a b c 3 = ws j value2 a2 b2 c2 3 by omega)] at k; exact k (by omega) (by omega) _ _ _ (((Ag.tr (Ag.tr (Ag.rf 70 142 h) (g1.w (by omega))) (g2.w (by omega))).set (by omega)).set (by omega)) ((w2.t140 (h2 := List.set _ 140 (cA 0 y2)) (fun a ha => by rw [hset_fr (by omega)]) (hset_eq hy) my).t141 (fun a ha => by rw [hset_fr (by omega)]) (hset_eq hz9) mz9))
                      · skip
                        refine x_aload_n (dT U_X11_parts 59 rfl) rfl ?_
                        refine x_getfield F_X11_109 (dT U_X11_parts 60 rfl) (hset_ne (by omega) (hset_ne (by omega) (w2.c70))) (Nat.le_of_ble_eq_true rfl) rfl ?_
                        refine x_iload (dT U_X11_parts 61 rfl) rfl ?_
                        refine x_ialoadv (3) (dT U_X11_parts 62 rfl) (hset_ne (by omega) (hset_eq hy)) (Nat.le_of_ble_eq_true rfl) rfl (by omega) (by omega) yg3 ?_
                        refine x_aload_n (dT U_X11_parts 63 rfl) rfl ?_
                        refine x_getfield F_X11_112 (dT U_X11_parts 64 rfl) (hset_ne (by omega) (hset_ne (by omega) (w2.c70))) (Nat.le_of_ble_eq_true rfl) rfl ?_
                        refine x_iload (dT U_X11_parts 65 rfl) rfl ?_
                        refine x_ialoadv (3) (dT U_X11_parts 66 rfl) (hset_eq hz9) (Nat.le_of_ble_eq_true rfl) rfl (by omega) (by omega) zg3 ?_
                        have ba3 := wq_b (i := j) (v := value) (a := a) (b := b) (c := c) hj (by omega) (by omega) (by omega) (by omega) 3
                        have bb3 := wq_b (i := j) (v := value2) (a := a2) (b := b2) (c := c2) hj (by omega) (by omega) (by omega) (by omega) 3
                        have ua3 : WN j value a b c 3 = 251 * (wq j value a b c 3).1 + (wq j value a b c 3).2 := rfl
                        have ub3 : WN j value2 a2 b2 c2 3 = 251 * (wq j value2 a2 b2 c2 3).1 + (wq j value2 a2 b2 c2 3).2 := rfl
                        refine x_icmp_eq (tgt := 152) (dT U_X11_parts 67 rfl) (by decide) (by unfold xr; omega) (by unfold xr; omega) (fun c123 => ?_) (fun c123 => ?_)
                        · skip
                          have n3 : ¬ (fun j9 => ws j value a b c j9 = ws j value2 a2 b2 c2 j9 ∧ ¬ ((wq j value a b c j9).1 = (wq j value2 a2 b2 c2 j9).1 ∧ (wq j value a b c j9).2 = (wq j value2 a2 b2 c2 j9).2)) 3 := fun z => z.2 (by omega)
                          refine x_iinc (ls' := [some (.ref _), some (vi _), some (vi _), some (vi _), some (vi _), some (vi _), some (vi _), some (vi _), some (vi _), some (vi _), some (vi _)]) (dT U_X11_parts 81 rfl) (by decide) rfl rfl ?_
                          refine x_goto (tgt := 88) (dT U_X11_parts 82 rfl) (by decide) ?_
                          refine x_iload (dT U_X11_parts 47 rfl) rfl ?_
                          refine x_iconst (dT U_X11_parts 48 rfl) ?_
                          refine x_icmp_ge (tgt := 158) (dT U_X11_parts 49 rfl) (by decide) (by unfold xr; omega) (by unfold xr; omega) (fun c91 => ?_) (fun c91 => (by exfalso; omega))
                          refine x_iconst (dT U_X11_parts 83 rfl) ?_
                          refine x_ireturn (dT U_X11_parts 84 rfl) rfl ?_
                          first
                            | (rw [if_pos (show ws j value a b c 3 = ws j value2 a2 b2 c2 3 by omega), ff_y (P := (fun j9 => ws j value a b c j9 = ws j value2 a2 b2 c2 j9 ∧ ¬ ((wq j value a b c j9).1 = (wq j value2 a2 b2 c2 j9).1 ∧ (wq j value a b c j9).2 = (wq j value2 a2 b2 c2 j9).2))) yes0] at k; exact k (by omega) (by omega) _ _ _ (((Ag.tr (Ag.tr (Ag.rf 70 142 h) (g1.w (by omega))) (g2.w (by omega))).set (by omega)).set (by omega)) ((w2.t140 (h2 := List.set _ 140 (cA 0 y2)) (fun a ha => by rw [hset_fr (by omega)]) (hset_eq hy) my).t141 (fun a ha => by rw [hset_fr (by omega)]) (hset_eq hz9) mz9))
                            | (rw [if_pos (show ws j value a b c 3 = ws j value2 a2 b2 c2 3 by omega), ff_n n0, ff_y (P := (fun j9 => ws j value a b c j9 = ws j value2 a2 b2 c2 j9 ∧ ¬ ((wq j value a b c j9).1 = (wq j value2 a2 b2 c2 j9).1 ∧ (wq j value a b c j9).2 = (wq j value2 a2 b2 c2 j9).2))) yes1] at k; exact k (by omega) (by omega) _ _ _ (((Ag.tr (Ag.tr (Ag.rf 70 142 h) (g1.w (by omega))) (g2.w (by omega))).set (by omega)).set (by omega)) ((w2.t140 (h2 := List.set _ 140 (cA 0 y2)) (fun a ha => by rw [hset_fr (by omega)]) (hset_eq hy) my).t141 (fun a ha => by rw [hset_fr (by omega)]) (hset_eq hz9) mz9))
                            | (rw [if_pos (show ws j value a b c 3 = ws j value2 a2 b2 c2 3 by omega), ff_n n0, ff_n n1, ff_y (P := (fun j9 => ws j value a b c j9 = ws j value2 a2 b2 c2 j9 ∧ ¬ ((wq j value a b c j9).1 = (wq j value2 a2 b2 c2 j9).1 ∧ (wq j value a b c j9).2 = (wq j value2 a2 b2 c2 j9).2))) yes2] at k; exact k (by omega) (by omega) _ _ _ (((Ag.tr (Ag.tr (Ag.rf 70 142 h) (g1.w (by omega))) (g2.w (by omega))).set (by omega)).set (by omega)) ((w2.t140 (h2 := List.set _ 140 (cA 0 y2)) (fun a ha => by rw [hset_fr (by omega)]) (hset_eq hy) my).t141 (fun a ha => by rw [hset_fr (by omega)]) (hset_eq hz9) mz9))
                            | (rw [if_pos (show ws j value a b c 3 = ws j value2 a2 b2 c2 3 by omega), ff_n n0, ff_n n1, ff_n n2, ff_y (P := (fun j9 => ws j value a b c j9 = ws j value2 a2 b2 c2 j9 ∧ ¬ ((wq j value a b c j9).1 = (wq j value2 a2 b2 c2 j9).1 ∧ (wq j value a b c j9).2 = (wq j value2 a2 b2 c2 j9).2))) yes3] at k; exact k (by omega) (by omega) _ _ _ (((Ag.tr (Ag.tr (Ag.rf 70 142 h) (g1.w (by omega))) (g2.w (by omega))).set (by omega)).set (by omega)) ((w2.t140 (h2 := List.set _ 140 (cA 0 y2)) (fun a ha => by rw [hset_fr (by omega)]) (hset_eq hy) my).t141 (fun a ha => by rw [hset_fr (by omega)]) (hset_eq hz9) mz9))
                            | (rw [if_pos (show ws j value a b c 3 = ws j value2 a2 b2 c2 3 by omega), ff_n n0, ff_n n1, ff_n n2, ff_n n3] at k; exact k (by omega) (by omega) _ _ _ (((Ag.tr (Ag.tr (Ag.rf 70 142 h) (g1.w (by omega))) (g2.w (by omega))).set (by omega)).set (by omega)) ((w2.t140 (h2 := List.set _ 140 (cA 0 y2)) (fun a ha => by rw [hset_fr (by omega)]) (hset_eq hy) my).t141 (fun a ha => by rw [hset_fr (by omega)]) (hset_eq hz9) mz9))
                            | (rw [if_neg (show ¬ ws j value a b c 3 = ws j value2 a2 b2 c2 3 by omega)] at k; exact k (by omega) (by omega) _ _ _ (((Ag.tr (Ag.tr (Ag.rf 70 142 h) (g1.w (by omega))) (g2.w (by omega))).set (by omega)).set (by omega)) ((w2.t140 (h2 := List.set _ 140 (cA 0 y2)) (fun a ha => by rw [hset_fr (by omega)]) (hset_eq hy) my).t141 (fun a ha => by rw [hset_fr (by omega)]) (hset_eq hz9) mz9))
                        · skip
                          refine x_aload_n (dT U_X11_parts 68 rfl) rfl ?_
                          refine x_getfield F_X11_109 (dT U_X11_parts 69 rfl) (hset_ne (by omega) (hset_ne (by omega) (w2.c70))) (Nat.le_of_ble_eq_true rfl) rfl ?_
                          refine x_iload (dT U_X11_parts 70 rfl) rfl ?_
                          refine x_ialoadv (3) (dT U_X11_parts 71 rfl) (hset_ne (by omega) (hset_eq hy)) (Nat.le_of_ble_eq_true rfl) rfl (by omega) (by omega) yg3 ?_
                          refine x_invokestatic (rc' := rc) (rs' := rs) (rc2 := 0) (rs2 := 0) (As := [_]) (st := _) M_X11_sealed_ K_X11_231 (dT U_X11_parts 72 rfl) rfl rfl rfl rfl (Nat.le_of_ble_eq_true rfl) rfl (by decide) (Nat.le_of_ble_eq_true rfl) rfl rfl ?_
                          refine S_sealedP (x := (wq j value a b c 3).1) (y := (wq j value a b c 3).2) ba3.1 ba3.2 ?_
                          change xRet _ _ _ _ _ _ _ _ _ _ (.inl (some (vi (ws j value a b c 3)))) _ _
                          refine xRet_some ?_
                          refine x_aload_n (dT U_X11_parts 73 rfl) rfl ?_
                          refine x_getfield F_X11_112 (dT U_X11_parts 74 rfl) (hset_ne (by omega) (hset_ne (by omega) (w2.c70))) (Nat.le_of_ble_eq_true rfl) rfl ?_
                          refine x_iload (dT U_X11_parts 75 rfl) rfl ?_
                          refine x_ialoadv (3) (dT U_X11_parts 76 rfl) (hset_eq hz9) (Nat.le_of_ble_eq_true rfl) rfl (by omega) (by omega) zg3 ?_
                          refine x_invokestatic (rc' := rc) (rs' := rs) (rc2 := 0) (rs2 := 0) (As := [_]) (st := _) M_X11_sealed_ K_X11_231 (dT U_X11_parts 77 rfl) rfl rfl rfl rfl (Nat.le_of_ble_eq_true rfl) rfl (by decide) (Nat.le_of_ble_eq_true rfl) rfl rfl ?_
                          refine S_sealedP (x := (wq j value2 a2 b2 c2 3).1) (y := (wq j value2 a2 b2 c2 3).2) bb3.1 bb3.2 ?_
                          change xRet _ _ _ _ _ _ _ _ _ _ (.inl (some (vi (ws j value2 a2 b2 c2 3)))) _ _
                          have sA3 : 0 ≤ (ws j value a b c 3) ∧ (ws j value a b c 3) < 251 := sl_b _ _
                          have sB3 : 0 ≤ (ws j value2 a2 b2 c2 3) ∧ (ws j value2 a2 b2 c2 3) < 251 := sl_b _ _
                          refine xRet_some ?_
                          refine x_icmp_ne (tgt := 152) (dT U_X11_parts 78 rfl) (by decide) (by unfold xr; omega) (by unfold xr; omega) (fun c146 => ?_) (fun c146 => ?_)
                          · skip
                            have n3 : ¬ (fun j9 => ws j value a b c j9 = ws j value2 a2 b2 c2 j9 ∧ ¬ ((wq j value a b c j9).1 = (wq j value2 a2 b2 c2 j9).1 ∧ (wq j value a b c j9).2 = (wq j value2 a2 b2 c2 j9).2)) 3 := fun z => by have := z.1; omega
                            refine x_iinc (ls' := [some (.ref _), some (vi _), some (vi _), some (vi _), some (vi _), some (vi _), some (vi _), some (vi _), some (vi _), some (vi _), some (vi _)]) (dT U_X11_parts 81 rfl) (by decide) rfl rfl ?_
                            refine x_goto (tgt := 88) (dT U_X11_parts 82 rfl) (by decide) ?_
                            refine x_iload (dT U_X11_parts 47 rfl) rfl ?_
                            refine x_iconst (dT U_X11_parts 48 rfl) ?_
                            refine x_icmp_ge (tgt := 158) (dT U_X11_parts 49 rfl) (by decide) (by unfold xr; omega) (by unfold xr; omega) (fun c91 => ?_) (fun c91 => (by exfalso; omega))
                            refine x_iconst (dT U_X11_parts 83 rfl) ?_
                            refine x_ireturn (dT U_X11_parts 84 rfl) rfl ?_
                            first
                              | (rw [if_pos (show ws j value a b c 3 = ws j value2 a2 b2 c2 3 by omega), ff_y (P := (fun j9 => ws j value a b c j9 = ws j value2 a2 b2 c2 j9 ∧ ¬ ((wq j value a b c j9).1 = (wq j value2 a2 b2 c2 j9).1 ∧ (wq j value a b c j9).2 = (wq j value2 a2 b2 c2 j9).2))) yes0] at k; exact k (by omega) (by omega) _ _ _ (((Ag.tr (Ag.tr (Ag.rf 70 142 h) (g1.w (by omega))) (g2.w (by omega))).set (by omega)).set (by omega)) ((w2.t140 (h2 := List.set _ 140 (cA 0 y2)) (fun a ha => by rw [hset_fr (by omega)]) (hset_eq hy) my).t141 (fun a ha => by rw [hset_fr (by omega)]) (hset_eq hz9) mz9))
                              | (rw [if_pos (show ws j value a b c 3 = ws j value2 a2 b2 c2 3 by omega), ff_n n0, ff_y (P := (fun j9 => ws j value a b c j9 = ws j value2 a2 b2 c2 j9 ∧ ¬ ((wq j value a b c j9).1 = (wq j value2 a2 b2 c2 j9).1 ∧ (wq j value a b c j9).2 = (wq j value2 a2 b2 c2 j9).2))) yes1] at k; exact k (by omega) (by omega) _ _ _ (((Ag.tr (Ag.tr (Ag.rf 70 142 h) (g1.w (by omega))) (g2.w (by omega))).set (by omega)).set (by omega)) ((w2.t140 (h2 := List.set _ 140 (cA 0 y2)) (fun a ha => by rw [hset_fr (by omega)]) (hset_eq hy) my).t141 (fun a ha => by rw [hset_fr (by omega)]) (hset_eq hz9) mz9))
                              | (rw [if_pos (show ws j value a b c 3 = ws j value2 a2 b2 c2 3 by omega), ff_n n0, ff_n n1, ff_y (P := (fun j9 => ws j value a b c j9 = ws j value2 a2 b2 c2 j9 ∧ ¬ ((wq j value a b c j9).1 = (wq j value2 a2 b2 c2 j9).1 ∧ (wq j value a b c j9).2 = (wq j value2 a2 b2 c2 j9).2))) yes2] at k; exact k (by omega) (by omega) _ _ _ (((Ag.tr (Ag.tr (Ag.rf 70 142 h) (g1.w (by omega))) (g2.w (by omega))).set (by omega)).set (by omega)) ((w2.t140 (h2 := List.set _ 140 (cA 0 y2)) (fun a ha => by rw [hset_fr (by omega)]) (hset_eq hy) my).t141 (fun a ha => by rw [hset_fr (by omega)]) (hset_eq hz9) mz9))
                              | (rw [if_pos (show ws j value a b c 3 = ws j value2 a2 b2 c2 3 by omega), ff_n n0, ff_n n1, ff_n n2, ff_y (P := (fun j9 => ws j value a b c j9 = ws j value2 a2 b2 c2 j9 ∧ ¬ ((wq j value a b c j9).1 = (wq j value2 a2 b2 c2 j9).1 ∧ (wq j value a b c j9).2 = (wq j value2 a2 b2 c2 j9).2))) yes3] at k; exact k (by omega) (by omega) _ _ _ (((Ag.tr (Ag.tr (Ag.rf 70 142 h) (g1.w (by omega))) (g2.w (by omega))).set (by omega)).set (by omega)) ((w2.t140 (h2 := List.set _ 140 (cA 0 y2)) (fun a ha => by rw [hset_fr (by omega)]) (hset_eq hy) my).t141 (fun a ha => by rw [hset_fr (by omega)]) (hset_eq hz9) mz9))
                              | (rw [if_pos (show ws j value a b c 3 = ws j value2 a2 b2 c2 3 by omega), ff_n n0, ff_n n1, ff_n n2, ff_n n3] at k; exact k (by omega) (by omega) _ _ _ (((Ag.tr (Ag.tr (Ag.rf 70 142 h) (g1.w (by omega))) (g2.w (by omega))).set (by omega)).set (by omega)) ((w2.t140 (h2 := List.set _ 140 (cA 0 y2)) (fun a ha => by rw [hset_fr (by omega)]) (hset_eq hy) my).t141 (fun a ha => by rw [hset_fr (by omega)]) (hset_eq hz9) mz9))
                              | (rw [if_neg (show ¬ ws j value a b c 3 = ws j value2 a2 b2 c2 3 by omega)] at k; exact k (by omega) (by omega) _ _ _ (((Ag.tr (Ag.tr (Ag.rf 70 142 h) (g1.w (by omega))) (g2.w (by omega))).set (by omega)).set (by omega)) ((w2.t140 (h2 := List.set _ 140 (cA 0 y2)) (fun a ha => by rw [hset_fr (by omega)]) (hset_eq hy) my).t141 (fun a ha => by rw [hset_fr (by omega)]) (hset_eq hz9) mz9))
                          · skip
                            have yes3 : (fun j9 => ws j value a b c j9 = ws j value2 a2 b2 c2 j9 ∧ ¬ ((wq j value a b c j9).1 = (wq j value2 a2 b2 c2 j9).1 ∧ (wq j value a b c j9).2 = (wq j value2 a2 b2 c2 j9).2)) 3 := ⟨by omega, fun z => by omega⟩
                            refine x_iload (dT U_X11_parts 79 rfl) rfl ?_
                            refine x_ireturn (dT U_X11_parts 80 rfl) rfl ?_
                            first
                              | (rw [if_pos (show ws j value a b c 3 = ws j value2 a2 b2 c2 3 by omega), ff_y (P := (fun j9 => ws j value a b c j9 = ws j value2 a2 b2 c2 j9 ∧ ¬ ((wq j value a b c j9).1 = (wq j value2 a2 b2 c2 j9).1 ∧ (wq j value a b c j9).2 = (wq j value2 a2 b2 c2 j9).2))) yes0] at k; exact k (by omega) (by omega) _ _ _ (((Ag.tr (Ag.tr (Ag.rf 70 142 h) (g1.w (by omega))) (g2.w (by omega))).set (by omega)).set (by omega)) ((w2.t140 (h2 := List.set _ 140 (cA 0 y2)) (fun a ha => by rw [hset_fr (by omega)]) (hset_eq hy) my).t141 (fun a ha => by rw [hset_fr (by omega)]) (hset_eq hz9) mz9))
                              | (rw [if_pos (show ws j value a b c 3 = ws j value2 a2 b2 c2 3 by omega), ff_n n0, ff_y (P := (fun j9 => ws j value a b c j9 = ws j value2 a2 b2 c2 j9 ∧ ¬ ((wq j value a b c j9).1 = (wq j value2 a2 b2 c2 j9).1 ∧ (wq j value a b c j9).2 = (wq j value2 a2 b2 c2 j9).2))) yes1] at k; exact k (by omega) (by omega) _ _ _ (((Ag.tr (Ag.tr (Ag.rf 70 142 h) (g1.w (by omega))) (g2.w (by omega))).set (by omega)).set (by omega)) ((w2.t140 (h2 := List.set _ 140 (cA 0 y2)) (fun a ha => by rw [hset_fr (by omega)]) (hset_eq hy) my).t141 (fun a ha => by rw [hset_fr (by omega)]) (hset_eq hz9) mz9))
                              | (rw [if_pos (show ws j value a b c 3 = ws j value2 a2 b2 c2 3 by omega), ff_n n0, ff_n n1, ff_y (P := (fun j9 => ws j value a b c j9 = ws j value2 a2 b2 c2 j9 ∧ ¬ ((wq j value a b c j9).1 = (wq j value2 a2 b2 c2 j9).1 ∧ (wq j value a b c j9).2 = (wq j value2 a2 b2 c2 j9).2))) yes2] at k; exact k (by omega) (by omega) _ _ _ (((Ag.tr (Ag.tr (Ag.rf 70 142 h) (g1.w (by omega))) (g2.w (by omega))).set (by omega)).set (by omega)) ((w2.t140 (h2 := List.set _ 140 (cA 0 y2)) (fun a ha => by rw [hset_fr (by omega)]) (hset_eq hy) my).t141 (fun a ha => by rw [hset_fr (by omega)]) (hset_eq hz9) mz9))
                              | (rw [if_pos (show ws j value a b c 3 = ws j value2 a2 b2 c2 3 by omega), ff_n n0, ff_n n1, ff_n n2, ff_y (P := (fun j9 => ws j value a b c j9 = ws j value2 a2 b2 c2 j9 ∧ ¬ ((wq j value a b c j9).1 = (wq j value2 a2 b2 c2 j9).1 ∧ (wq j value a b c j9).2 = (wq j value2 a2 b2 c2 j9).2))) yes3] at k; exact k (by omega) (by omega) _ _ _ (((Ag.tr (Ag.tr (Ag.rf 70 142 h) (g1.w (by omega))) (g2.w (by omega))).set (by omega)).set (by omega)) ((w2.t140 (h2 := List.set _ 140 (cA 0 y2)) (fun a ha => by rw [hset_fr (by omega)]) (hset_eq hy) my).t141 (fun a ha => by rw [hset_fr (by omega)]) (hset_eq hz9) mz9))
                              | (rw [if_pos (show ws j value a b c 3 = ws j value2 a2 b2 c2 3 by omega), ff_n n0, ff_n n1, ff_n n2, ff_n n3] at k; exact k (by omega) (by omega) _ _ _ (((Ag.tr (Ag.tr (Ag.rf 70 142 h) (g1.w (by omega))) (g2.w (by omega))).set (by omega)).set (by omega)) ((w2.t140 (h2 := List.set _ 140 (cA 0 y2)) (fun a ha => by rw [hset_fr (by omega)]) (hset_eq hy) my).t141 (fun a ha => by rw [hset_fr (by omega)]) (hset_eq hz9) mz9))
                              | (rw [if_neg (show ¬ ws j value a b c 3 = ws j value2 a2 b2 c2 3 by omega)] at k; exact k (by omega) (by omega) _ _ _ (((Ag.tr (Ag.tr (Ag.rf 70 142 h) (g1.w (by omega))) (g2.w (by omega))).set (by omega)).set (by omega)) ((w2.t140 (h2 := List.set _ 140 (cA 0 y2)) (fun a ha => by rw [hset_fr (by omega)]) (hset_eq hy) my).t141 (fun a ha => by rw [hset_fr (by omega)]) (hset_eq hz9) mz9))
                    · skip
                      refine x_aload_n (dT U_X11_parts 68 rfl) rfl ?_
                      refine x_getfield F_X11_109 (dT U_X11_parts 69 rfl) (hset_ne (by omega) (hset_ne (by omega) (w2.c70))) (Nat.le_of_ble_eq_true rfl) rfl ?_
                      refine x_iload (dT U_X11_parts 70 rfl) rfl ?_
                      refine x_ialoadv (2) (dT U_X11_parts 71 rfl) (hset_ne (by omega) (hset_eq hy)) (Nat.le_of_ble_eq_true rfl) rfl (by omega) (by omega) yg2 ?_
                      refine x_invokestatic (rc' := rc) (rs' := rs) (rc2 := 0) (rs2 := 0) (As := [_]) (st := _) M_X11_sealed_ K_X11_231 (dT U_X11_parts 72 rfl) rfl rfl rfl rfl (Nat.le_of_ble_eq_true rfl) rfl (by decide) (Nat.le_of_ble_eq_true rfl) rfl rfl ?_
                      refine S_sealedP (x := (wq j value a b c 2).1) (y := (wq j value a b c 2).2) ba2.1 ba2.2 ?_
                      change xRet _ _ _ _ _ _ _ _ _ _ (.inl (some (vi (ws j value a b c 2)))) _ _
                      refine xRet_some ?_
                      refine x_aload_n (dT U_X11_parts 73 rfl) rfl ?_
                      refine x_getfield F_X11_112 (dT U_X11_parts 74 rfl) (hset_ne (by omega) (hset_ne (by omega) (w2.c70))) (Nat.le_of_ble_eq_true rfl) rfl ?_
                      refine x_iload (dT U_X11_parts 75 rfl) rfl ?_
                      refine x_ialoadv (2) (dT U_X11_parts 76 rfl) (hset_eq hz9) (Nat.le_of_ble_eq_true rfl) rfl (by omega) (by omega) zg2 ?_
                      refine x_invokestatic (rc' := rc) (rs' := rs) (rc2 := 0) (rs2 := 0) (As := [_]) (st := _) M_X11_sealed_ K_X11_231 (dT U_X11_parts 77 rfl) rfl rfl rfl rfl (Nat.le_of_ble_eq_true rfl) rfl (by decide) (Nat.le_of_ble_eq_true rfl) rfl rfl ?_
                      refine S_sealedP (x := (wq j value2 a2 b2 c2 2).1) (y := (wq j value2 a2 b2 c2 2).2) bb2.1 bb2.2 ?_
                      change xRet _ _ _ _ _ _ _ _ _ _ (.inl (some (vi (ws j value2 a2 b2 c2 2)))) _ _
                      have sA2 : 0 ≤ (ws j value a b c 2) ∧ (ws j value a b c 2) < 251 := sl_b _ _
                      have sB2 : 0 ≤ (ws j value2 a2 b2 c2 2) ∧ (ws j value2 a2 b2 c2 2) < 251 := sl_b _ _
                      refine xRet_some ?_
                      refine x_icmp_ne (tgt := 152) (dT U_X11_parts 78 rfl) (by decide) (by unfold xr; omega) (by unfold xr; omega) (fun c146 => ?_) (fun c146 => ?_)
                      · skip
                        have n2 : ¬ (fun j9 => ws j value a b c j9 = ws j value2 a2 b2 c2 j9 ∧ ¬ ((wq j value a b c j9).1 = (wq j value2 a2 b2 c2 j9).1 ∧ (wq j value a b c j9).2 = (wq j value2 a2 b2 c2 j9).2)) 2 := fun z => by have := z.1; omega
                        refine x_iinc (ls' := [some (.ref _), some (vi _), some (vi _), some (vi _), some (vi _), some (vi _), some (vi _), some (vi _), some (vi _), some (vi _), some (vi _)]) (dT U_X11_parts 81 rfl) (by decide) rfl rfl ?_
                        refine x_goto (tgt := 88) (dT U_X11_parts 82 rfl) (by decide) ?_
                        refine x_iload (dT U_X11_parts 47 rfl) rfl ?_
                        refine x_iconst (dT U_X11_parts 48 rfl) ?_
                        refine x_icmp_ge (tgt := 158) (dT U_X11_parts 49 rfl) (by decide) (by unfold xr; omega) (by unfold xr; omega) (fun c91 => (by exfalso; omega)) (fun c91 => ?_)
                        refine x_aload_n (dT U_X11_parts 50 rfl) rfl ?_
                        refine x_getfield F_X11_109 (dT U_X11_parts 51 rfl) (hset_ne (by omega) (hset_ne (by omega) (w2.c70))) (Nat.le_of_ble_eq_true rfl) rfl ?_
                        refine x_iconst (dT U_X11_parts 52 rfl) ?_
                        refine x_ialoadv (4) (dT U_X11_parts 53 rfl) (hset_ne (by omega) (hset_eq hy)) (Nat.le_of_ble_eq_true rfl) rfl (by omega) (by omega) yg4 ?_
                        refine x_aload_n (dT U_X11_parts 54 rfl) rfl ?_
                        refine x_getfield F_X11_112 (dT U_X11_parts 55 rfl) (hset_ne (by omega) (hset_ne (by omega) (w2.c70))) (Nat.le_of_ble_eq_true rfl) rfl ?_
                        refine x_iconst (dT U_X11_parts 56 rfl) ?_
                        refine x_ialoadv (4) (dT U_X11_parts 57 rfl) (hset_eq hz9) (Nat.le_of_ble_eq_true rfl) rfl (by omega) (by omega) zg4 ?_
                        have sA : 0 ≤ (ws j value a b c 3) ∧ (ws j value a b c 3) < 251 := sl_b _ _
                        have sB : 0 ≤ (ws j value2 a2 b2 c2 3) ∧ (ws j value2 a2 b2 c2 3) < 251 := sl_b _ _
                        refine x_icmp_ne (tgt := 158) (dT U_X11_parts 58 rfl) (by decide) (by unfold xr; omega) (by unfold xr; omega) (fun c106 => ?_) (fun c106 => ?_)
                        · skip
                          refine x_iconst (dT U_X11_parts 83 rfl) ?_
                          refine x_ireturn (dT U_X11_parts 84 rfl) rfl ?_
                          first
                            | (rw [if_pos (show ws j value a b c 3 = ws j value2 a2 b2 c2 3 by omega), ff_y (P := (fun j9 => ws j value a b c j9 = ws j value2 a2 b2 c2 j9 ∧ ¬ ((wq j value a b c j9).1 = (wq j value2 a2 b2 c2 j9).1 ∧ (wq j value a b c j9).2 = (wq j value2 a2 b2 c2 j9).2))) yes0] at k; exact k (by omega) (by omega) _ _ _ (((Ag.tr (Ag.tr (Ag.rf 70 142 h) (g1.w (by omega))) (g2.w (by omega))).set (by omega)).set (by omega)) ((w2.t140 (h2 := List.set _ 140 (cA 0 y2)) (fun a ha => by rw [hset_fr (by omega)]) (hset_eq hy) my).t141 (fun a ha => by rw [hset_fr (by omega)]) (hset_eq hz9) mz9))
                            | (rw [if_pos (show ws j value a b c 3 = ws j value2 a2 b2 c2 3 by omega), ff_n n0, ff_y (P := (fun j9 => ws j value a b c j9 = ws j value2 a2 b2 c2 j9 ∧ ¬ ((wq j value a b c j9).1 = (wq j value2 a2 b2 c2 j9).1 ∧ (wq j value a b c j9).2 = (wq j value2 a2 b2 c2 j9).2))) yes1] at k; exact k (by omega) (by omega) _ _ _ (((Ag.tr (Ag.tr (Ag.rf 70 142 h) (g1.w (by omega))) (g2.w (by omega))).set (by omega)).set (by omega)) ((w2.t140 (h2 := List.set _ 140 (cA 0 y2)) (fun a ha => by rw [hset_fr (by omega)]) (hset_eq hy) my).t141 (fun a ha => by rw [hset_fr (by omega)]) (hset_eq hz9) mz9))
                            | (rw [if_pos (show ws j value a b c 3 = ws j value2 a2 b2 c2 3 by omega), ff_n n0, ff_n n1, ff_y (P := (fun j9 => ws j value a b c j9 = ws j value2 a2 b2 c2 j9 ∧ ¬ ((wq j value a b c j9).1 = (wq j value2 a2 b2 c2 j9).1 ∧ (wq j value a b c j9).2 = (wq j value2 a2 b2 c2 j9).2))) yes2] at k; exact k (by omega) (by omega) _ _ _ (((Ag.tr (Ag.tr (Ag.rf 70 142 h) (g1.w (by omega))) (g2.w (by omega))).set (by omega)).set (by omega)) ((w2.t140 (h2 := List.set _ 140 (cA 0 y2)) (fun a ha => by rw [hset_fr (by omega)]) (hset_eq hy) my).t141 (fun a ha => by rw [hset_fr (by omega)]) (hset_eq hz9) mz9))
                            | (rw [if_pos (show ws j value a b c 3 = ws j value2 a2 b2 c2 3 by omega), ff_n n0, ff_n n1, ff_n n2, ff_y (P := (fun j9 => ws j value a b c j9 = ws j value2 a2 b2 c2 j9 ∧ ¬ ((wq j value a b c j9).1 = (wq j value2 a2 b2 c2 j9).1 ∧ (wq j value a b c j9).2 = (wq j value2 a2 b2 c2 j9).2))) yes3] at k; exact k (by omega) (by omega) _ _ _ (((Ag.tr (Ag.tr (Ag.rf 70 142 h) (g1.w (by omega))) (g2.w (by omega))).set (by omega)).set (by omega)) ((w2.t140 (h2 := List.set _ 140 (cA 0 y2)) (fun a ha => by rw [hset_fr (by omega)]) (hset_eq hy) my).t141 (fun a ha => by rw [hset_fr (by omega)]) (hset_eq hz9) mz9))
                            | (rw [if_pos (show ws j value a b c 3 = ws j value2 a2 b2 c2 3 by omega), ff_n n0, ff_n n1, ff_n n2, ff_n n3] at k; exact k (by omega) (by omega) _ _ _ (((Ag.tr (Ag.tr (Ag.rf 70 142 h) (g1.w (by omega))) (g2.w (by omega))).set (by omega)).set (by omega)) ((w2.t140 (h2 := List.set _ 140 (cA 0 y2)) (fun a ha => by rw [hset_fr (by omega)]) (hset_eq hy) my).t141 (fun a ha => by rw [hset_fr (by omega)]) (hset_eq hz9) mz9))
                            | (rw [if_neg (show ¬ ws j value a b c 3 = ws j value2 a2 b2 c2 3 by omega)] at k; exact k (by omega) (by omega) _ _ _ (((Ag.tr (Ag.tr (Ag.rf 70 142 h) (g1.w (by omega))) (g2.w (by omega))).set (by omega)).set (by omega)) ((w2.t140 (h2 := List.set _ 140 (cA 0 y2)) (fun a ha => by rw [hset_fr (by omega)]) (hset_eq hy) my).t141 (fun a ha => by rw [hset_fr (by omega)]) (hset_eq hz9) mz9))
                        · skip
                          refine x_aload_n (dT U_X11_parts 59 rfl) rfl ?_
                          refine x_getfield F_X11_109 (dT U_X11_parts 60 rfl) (hset_ne (by omega) (hset_ne (by omega) (w2.c70))) (Nat.le_of_ble_eq_true rfl) rfl ?_
                          refine x_iload (dT U_X11_parts 61 rfl) rfl ?_
                          refine x_ialoadv (3) (dT U_X11_parts 62 rfl) (hset_ne (by omega) (hset_eq hy)) (Nat.le_of_ble_eq_true rfl) rfl (by omega) (by omega) yg3 ?_
                          refine x_aload_n (dT U_X11_parts 63 rfl) rfl ?_
                          refine x_getfield F_X11_112 (dT U_X11_parts 64 rfl) (hset_ne (by omega) (hset_ne (by omega) (w2.c70))) (Nat.le_of_ble_eq_true rfl) rfl ?_
                          refine x_iload (dT U_X11_parts 65 rfl) rfl ?_
                          refine x_ialoadv (3) (dT U_X11_parts 66 rfl) (hset_eq hz9) (Nat.le_of_ble_eq_true rfl) rfl (by omega) (by omega) zg3 ?_
                          have ba3 := wq_b (i := j) (v := value) (a := a) (b := b) (c := c) hj (by omega) (by omega) (by omega) (by omega) 3
                          have bb3 := wq_b (i := j) (v := value2) (a := a2) (b := b2) (c := c2) hj (by omega) (by omega) (by omega) (by omega) 3
                          have ua3 : WN j value a b c 3 = 251 * (wq j value a b c 3).1 + (wq j value a b c 3).2 := rfl
                          have ub3 : WN j value2 a2 b2 c2 3 = 251 * (wq j value2 a2 b2 c2 3).1 + (wq j value2 a2 b2 c2 3).2 := rfl
                          refine x_icmp_eq (tgt := 152) (dT U_X11_parts 67 rfl) (by decide) (by unfold xr; omega) (by unfold xr; omega) (fun c123 => ?_) (fun c123 => ?_)
                          · skip
                            have n3 : ¬ (fun j9 => ws j value a b c j9 = ws j value2 a2 b2 c2 j9 ∧ ¬ ((wq j value a b c j9).1 = (wq j value2 a2 b2 c2 j9).1 ∧ (wq j value a b c j9).2 = (wq j value2 a2 b2 c2 j9).2)) 3 := fun z => z.2 (by omega)
                            refine x_iinc (ls' := [some (.ref _), some (vi _), some (vi _), some (vi _), some (vi _), some (vi _), some (vi _), some (vi _), some (vi _), some (vi _), some (vi _)]) (dT U_X11_parts 81 rfl) (by decide) rfl rfl ?_
                            refine x_goto (tgt := 88) (dT U_X11_parts 82 rfl) (by decide) ?_
                            refine x_iload (dT U_X11_parts 47 rfl) rfl ?_
                            refine x_iconst (dT U_X11_parts 48 rfl) ?_
                            refine x_icmp_ge (tgt := 158) (dT U_X11_parts 49 rfl) (by decide) (by unfold xr; omega) (by unfold xr; omega) (fun c91 => ?_) (fun c91 => (by exfalso; omega))
                            refine x_iconst (dT U_X11_parts 83 rfl) ?_
                            refine x_ireturn (dT U_X11_parts 84 rfl) rfl ?_
                            first
                              | (rw [if_pos (show ws j value a b c 3 = ws j value2 a2 b2 c2 3 by omega), ff_y (P := (fun j9 => ws j value a b c j9 = ws j value2 a2 b2 c2 j9 ∧ ¬ ((wq j value a b c j9).1 = (wq j value2 a2 b2 c2 j9).1 ∧ (wq j value a b c j9).2 = (wq j value2 a2 b2 c2 j9).2))) yes0] at k; exact k (by omega) (by omega) _ _ _ (((Ag.tr (Ag.tr (Ag.rf 70 142 h) (g1.w (by omega))) (g2.w (by omega))).set (by omega)).set (by omega)) ((w2.t140 (h2 := List.set _ 140 (cA 0 y2)) (fun a ha => by rw [hset_fr (by omega)]) (hset_eq hy) my).t141 (fun a ha => by rw [hset_fr (by omega)]) (hset_eq hz9) mz9))
                              | (rw [if_pos (show ws j value a b c 3 = ws j value2 a2 b2 c2 3 by omega), ff_n n0, ff_y (P := (fun j9 => ws j value a b c j9 = ws j value2 a2 b2 c2 j9 ∧ ¬ ((wq j value a b c j9).1 = (wq j value2 a2 b2 c2 j9).1 ∧ (wq j value a b c j9).2 = (wq j value2 a2 b2 c2 j9).2))) yes1] at k; exact k (by omega) (by omega) _ _ _ (((Ag.tr (Ag.tr (Ag.rf 70 142 h) (g1.w (by omega))) (g2.w (by omega))).set (by omega)).set (by omega)) ((w2.t140 (h2 := List.set _ 140 (cA 0 y2)) (fun a ha => by rw [hset_fr (by omega)]) (hset_eq hy) my).t141 (fun a ha => by rw [hset_fr (by omega)]) (hset_eq hz9) mz9))
                              | (rw [if_pos (show ws j value a b c 3 = ws j value2 a2 b2 c2 3 by omega), ff_n n0, ff_n n1, ff_y (P := (fun j9 => ws j value a b c j9 = ws j value2 a2 b2 c2 j9 ∧ ¬ ((wq j value a b c j9).1 = (wq j value2 a2 b2 c2 j9).1 ∧ (wq j value a b c j9).2 = (wq j value2 a2 b2 c2 j9).2))) yes2] at k; exact k (by omega) (by omega) _ _ _ (((Ag.tr (Ag.tr (Ag.rf 70 142 h) (g1.w (by omega))) (g2.w (by omega))).set (by omega)).set (by omega)) ((w2.t140 (h2 := List.set _ 140 (cA 0 y2)) (fun a ha => by rw [hset_fr (by omega)]) (hset_eq hy) my).t141 (fun a ha => by rw [hset_fr (by omega)]) (hset_eq hz9) mz9))
                              | (rw [if_pos (show ws j value a b c 3 = ws j value2 a2 b2 c2 3 by omega), ff_n n0, ff_n n1, ff_n n2, ff_y (P := (fun j9 => ws j value a b c j9 = ws j value2 a2 b2 c2 j9 ∧ ¬ ((wq j value a b c j9).1 = (wq j value2 a2 b2 c2 j9).1 ∧ (wq j value a b c j9).2 = (wq j value2 a2 b2 c2 j9).2))) yes3] at k; exact k (by omega) (by omega) _ _ _ (((Ag.tr (Ag.tr (Ag.rf 70 142 h) (g1.w (by omega))) (g2.w (by omega))).set (by omega)).set (by omega)) ((w2.t140 (h2 := List.set _ 140 (cA 0 y2)) (fun a ha => by rw [hset_fr (by omega)]) (hset_eq hy) my).t141 (fun a ha => by rw [hset_fr (by omega)]) (hset_eq hz9) mz9))
                              | (rw [if_pos (show ws j value a b c 3 = ws j value2 a2 b2 c2 3 by omega), ff_n n0, ff_n n1, ff_n n2, ff_n n3] at k; exact k (by omega) (by omega) _ _ _ (((Ag.tr (Ag.tr (Ag.rf 70 142 h) (g1.w (by omega))) (g2.w (by omega))).set (by omega)).set (by omega)) ((w2.t140 (h2 := List.set _ 140 (cA 0 y2)) (fun a ha => by rw [hset_fr (by omega)]) (hset_eq hy) my).t141 (fun a ha => by rw [hset_fr (by omega)]) (hset_eq hz9) mz9))
                              | (rw [if_neg (show ¬ ws j value a b c 3 = ws j value2 a2 b2 c2 3 by omega)] at k; exact k (by omega) (by omega) _ _ _ (((Ag.tr (Ag.tr (Ag.rf 70 142 h) (g1.w (by omega))) (g2.w (by omega))).set (by omega)).set (by omega)) ((w2.t140 (h2 := List.set _ 140 (cA 0 y2)) (fun a ha => by rw [hset_fr (by omega)]) (hset_eq hy) my).t141 (fun a ha => by rw [hset_fr (by omega)]) (hset_eq hz9) mz9))
                          · skip
                            refine x_aload_n (dT U_X11_parts 68 rfl) rfl ?_
                            refine x_getfield F_X11_109 (dT U_X11_parts 69 rfl) (hset_ne (by omega) (hset_ne (by omega) (w2.c70))) (Nat.le_of_ble_eq_true rfl) rfl ?_
                            refine x_iload (dT U_X11_parts 70 rfl) rfl ?_
                            refine x_ialoadv (3) (dT U_X11_parts 71 rfl) (hset_ne (by omega) (hset_eq hy)) (Nat.le_of_ble_eq_true rfl) rfl (by omega) (by omega) yg3 ?_
                            refine x_invokestatic (rc' := rc) (rs' := rs) (rc2 := 0) (rs2 := 0) (As := [_]) (st := _) M_X11_sealed_ K_X11_231 (dT U_X11_parts 72 rfl) rfl rfl rfl rfl (Nat.le_of_ble_eq_true rfl) rfl (by decide) (Nat.le_of_ble_eq_true rfl) rfl rfl ?_
                            refine S_sealedP (x := (wq j value a b c 3).1) (y := (wq j value a b c 3).2) ba3.1 ba3.2 ?_
                            change xRet _ _ _ _ _ _ _ _ _ _ (.inl (some (vi (ws j value a b c 3)))) _ _
                            refine xRet_some ?_
                            refine x_aload_n (dT U_X11_parts 73 rfl) rfl ?_
                            refine x_getfield F_X11_112 (dT U_X11_parts 74 rfl) (hset_ne (by omega) (hset_ne (by omega) (w2.c70))) (Nat.le_of_ble_eq_true rfl) rfl ?_
                            refine x_iload (dT U_X11_parts 75 rfl) rfl ?_
                            refine x_ialoadv (3) (dT U_X11_parts 76 rfl) (hset_eq hz9) (Nat.le_of_ble_eq_true rfl) rfl (by omega) (by omega) zg3 ?_
                            refine x_invokestatic (rc' := rc) (rs' := rs) (rc2 := 0) (rs2 := 0) (As := [_]) (st := _) M_X11_sealed_ K_X11_231 (dT U_X11_parts 77 rfl) rfl rfl rfl rfl (Nat.le_of_ble_eq_true rfl) rfl (by decide) (Nat.le_of_ble_eq_true rfl) rfl rfl ?_
                            refine S_sealedP (x := (wq j value2 a2 b2 c2 3).1) (y := (wq j value2 a2 b2 c2 3).2) bb3.1 bb3.2 ?_
                            change xRet _ _ _ _ _ _ _ _ _ _ (.inl (some (vi (ws j value2 a2 b2 c2 3)))) _ _
                            have sA3 : 0 ≤ (ws j value a b c 3) ∧ (ws j value a b c 3) < 251 := sl_b _ _
                            have sB3 : 0 ≤ (ws j value2 a2 b2 c2 3) ∧ (ws j value2 a2 b2 c2 3) < 251 := sl_b _ _
                            refine xRet_some ?_
                            refine x_icmp_ne (tgt := 152) (dT U_X11_parts 78 rfl) (by decide) (by unfold xr; omega) (by unfold xr; omega) (fun c146 => ?_) (fun c146 => ?_)
                            · skip
                              have n3 : ¬ (fun j9 => ws j value a b c j9 = ws j value2 a2 b2 c2 j9 ∧ ¬ ((wq j value a b c j9).1 = (wq j value2 a2 b2 c2 j9).1 ∧ (wq j value a b c j9).2 = (wq j value2 a2 b2 c2 j9).2)) 3 := fun z => by have := z.1; omega
                              refine x_iinc (ls' := [some (.ref _), some (vi _), some (vi _), some (vi _), some (vi _), some (vi _), some (vi _), some (vi _), some (vi _), some (vi _), some (vi _)]) (dT U_X11_parts 81 rfl) (by decide) rfl rfl ?_
                              refine x_goto (tgt := 88) (dT U_X11_parts 82 rfl) (by decide) ?_
                              refine x_iload (dT U_X11_parts 47 rfl) rfl ?_
                              refine x_iconst (dT U_X11_parts 48 rfl) ?_
                              refine x_icmp_ge (tgt := 158) (dT U_X11_parts 49 rfl) (by decide) (by unfold xr; omega) (by unfold xr; omega) (fun c91 => ?_) (fun c91 => (by exfalso; omega))
                              refine x_iconst (dT U_X11_parts 83 rfl) ?_
                              refine x_ireturn (dT U_X11_parts 84 rfl) rfl ?_
                              first
                                | (rw [if_pos (show ws j value a b c 3 = ws j value2 a2 b2 c2 3 by omega), ff_y (P := (fun j9 => ws j value a b c j9 = ws j value2 a2 b2 c2 j9 ∧ ¬ ((wq j value a b c j9).1 = (wq j value2 a2 b2 c2 j9).1 ∧ (wq j value a b c j9).2 = (wq j value2 a2 b2 c2 j9).2))) yes0] at k; exact k (by omega) (by omega) _ _ _ (((Ag.tr (Ag.tr (Ag.rf 70 142 h) (g1.w (by omega))) (g2.w (by omega))).set (by omega)).set (by omega)) ((w2.t140 (h2 := List.set _ 140 (cA 0 y2)) (fun a ha => by rw [hset_fr (by omega)]) (hset_eq hy) my).t141 (fun a ha => by rw [hset_fr (by omega)]) (hset_eq hz9) mz9))
                                | (rw [if_pos (show ws j value a b c 3 = ws j value2 a2 b2 c2 3 by omega), ff_n n0, ff_y (P := (fun j9 => ws j value a b c j9 = ws j value2 a2 b2 c2 j9 ∧ ¬ ((wq j value a b c j9).1 = (wq j value2 a2 b2 c2 j9).1 ∧ (wq j value a b c j9).2 = (wq j value2 a2 b2 c2 j9).2))) yes1] at k; exact k (by omega) (by omega) _ _ _ (((Ag.tr (Ag.tr (Ag.rf 70 142 h) (g1.w (by omega))) (g2.w (by omega))).set (by omega)).set (by omega)) ((w2.t140 (h2 := List.set _ 140 (cA 0 y2)) (fun a ha => by rw [hset_fr (by omega)]) (hset_eq hy) my).t141 (fun a ha => by rw [hset_fr (by omega)]) (hset_eq hz9) mz9))
                                | (rw [if_pos (show ws j value a b c 3 = ws j value2 a2 b2 c2 3 by omega), ff_n n0, ff_n n1, ff_y (P := (fun j9 => ws j value a b c j9 = ws j value2 a2 b2 c2 j9 ∧ ¬ ((wq j value a b c j9).1 = (wq j value2 a2 b2 c2 j9).1 ∧ (wq j value a b c j9).2 = (wq j value2 a2 b2 c2 j9).2))) yes2] at k; exact k (by omega) (by omega) _ _ _ (((Ag.tr (Ag.tr (Ag.rf 70 142 h) (g1.w (by omega))) (g2.w (by omega))).set (by omega)).set (by omega)) ((w2.t140 (h2 := List.set _ 140 (cA 0 y2)) (fun a ha => by rw [hset_fr (by omega)]) (hset_eq hy) my).t141 (fun a ha => by rw [hset_fr (by omega)]) (hset_eq hz9) mz9))
                                | (rw [if_pos (show ws j value a b c 3 = ws j value2 a2 b2 c2 3 by omega), ff_n n0, ff_n n1, ff_n n2, ff_y (P := (fun j9 => ws j value a b c j9 = ws j value2 a2 b2 c2 j9 ∧ ¬ ((wq j value a b c j9).1 = (wq j value2 a2 b2 c2 j9).1 ∧ (wq j value a b c j9).2 = (wq j value2 a2 b2 c2 j9).2))) yes3] at k; exact k (by omega) (by omega) _ _ _ (((Ag.tr (Ag.tr (Ag.rf 70 142 h) (g1.w (by omega))) (g2.w (by omega))).set (by omega)).set (by omega)) ((w2.t140 (h2 := List.set _ 140 (cA 0 y2)) (fun a ha => by rw [hset_fr (by omega)]) (hset_eq hy) my).t141 (fun a ha => by rw [hset_fr (by omega)]) (hset_eq hz9) mz9))
                                | (rw [if_pos (show ws j value a b c 3 = ws j value2 a2 b2 c2 3 by omega), ff_n n0, ff_n n1, ff_n n2, ff_n n3] at k; exact k (by omega) (by omega) _ _ _ (((Ag.tr (Ag.tr (Ag.rf 70 142 h) (g1.w (by omega))) (g2.w (by omega))).set (by omega)).set (by omega)) ((w2.t140 (h2 := List.set _ 140 (cA 0 y2)) (fun a ha => by rw [hset_fr (by omega)]) (hset_eq hy) my).t141 (fun a ha => by rw [hset_fr (by omega)]) (hset_eq hz9) mz9))
                                | (rw [if_neg (show ¬ ws j value a b c 3 = ws j value2 a2 b2 c2 3 by omega)] at k; exact k (by omega) (by omega) _ _ _ (((Ag.tr (Ag.tr (Ag.rf 70 142 h) (g1.w (by omega))) (g2.w (by omega))).set (by omega)).set (by omega)) ((w2.t140 (h2 := List.set _ 140 (cA 0 y2)) (fun a ha => by rw [hset_fr (by omega)]) (hset_eq hy) my).t141 (fun a ha => by rw [hset_fr (by omega)]) (hset_eq hz9) mz9))
                            · skip
                              have yes3 : (fun j9 => ws j value a b c j9 = ws j value2 a2 b2 c2 j9 ∧ ¬ ((wq j value a b c j9).1 = (wq j value2 a2 b2 c2 j9).1 ∧ (wq j value a b c j9).2 = (wq j value2 a2 b2 c2 j9).2)) 3 := ⟨by omega, fun z => by omega⟩
                              refine x_iload (dT U_X11_parts 79 rfl) rfl ?_
                              refine x_ireturn (dT U_X11_parts 80 rfl) rfl ?_
                              first
                                | (rw [if_pos (show ws j value a b c 3 = ws j value2 a2 b2 c2 3 by omega), ff_y (P := (fun j9 => ws j value a b c j9 = ws j value2 a2 b2 c2 j9 ∧ ¬ ((wq j value a b c j9).1 = (wq j value2 a2 b2 c2 j9).1 ∧ (wq j value a b c j9).2 = (wq j value2 a2 b2 c2 j9).2))) yes0] at k; exact k (by omega) (by omega) _ _ _ (((Ag.tr (Ag.tr (Ag.rf 70 142 h) (g1.w (by omega))) (g2.w (by omega))).set (by omega)).set (by omega)) ((w2.t140 (h2 := List.set _ 140 (cA 0 y2)) (fun a ha => by rw [hset_fr (by omega)]) (hset_eq hy) my).t141 (fun a ha => by rw [hset_fr (by omega)]) (hset_eq hz9) mz9))
                                | (rw [if_pos (show ws j value a b c 3 = ws j value2 a2 b2 c2 3 by omega), ff_n n0, ff_y (P := (fun j9 => ws j value a b c j9 = ws j value2 a2 b2 c2 j9 ∧ ¬ ((wq j value a b c j9).1 = (wq j value2 a2 b2 c2 j9).1 ∧ (wq j value a b c j9).2 = (wq j value2 a2 b2 c2 j9).2))) yes1] at k; exact k (by omega) (by omega) _ _ _ (((Ag.tr (Ag.tr (Ag.rf 70 142 h) (g1.w (by omega))) (g2.w (by omega))).set (by omega)).set (by omega)) ((w2.t140 (h2 := List.set _ 140 (cA 0 y2)) (fun a ha => by rw [hset_fr (by omega)]) (hset_eq hy) my).t141 (fun a ha => by rw [hset_fr (by omega)]) (hset_eq hz9) mz9))
                                | (rw [if_pos (show ws j value a b c 3 = ws j value2 a2 b2 c2 3 by omega), ff_n n0, ff_n n1, ff_y (P := (fun j9 => ws j value a b c j9 = ws j value2 a2 b2 c2 j9 ∧ ¬ ((wq j value a b c j9).1 = (wq j value2 a2 b2 c2 j9).1 ∧ (wq j value a b c j9).2 = (wq j value2 a2 b2 c2 j9).2))) yes2] at k; exact k (by omega) (by omega) _ _ _ (((Ag.tr (Ag.tr (Ag.rf 70 142 h) (g1.w (by omega))) (g2.w (by omega))).set (by omega)).set (by omega)) ((w2.t140 (h2 := List.set _ 140 (cA 0 y2)) (fun a ha => by rw [hset_fr (by omega)]) (hset_eq hy) my).t141 (fun a ha => by rw [hset_fr (by omega)]) (hset_eq hz9) mz9))
                                | (rw [if_pos (show ws j value a b c 3 = ws j value2 a2 b2 c2 3 by omega), ff_n n0, ff_n n1, ff_n n2, ff_y (P := (fun j9 => ws j value a b c j9 = ws j value2 a2 b2 c2 j9 ∧ ¬ ((wq j value a b c j9).1 = (wq j value2 a2 b2 c2 j9).1 ∧ (wq j value a b c j9).2 = (wq j value2 a2 b2 c2 j9).2))) yes3] at k; exact k (by omega) (by omega) _ _ _ (((Ag.tr (Ag.tr (Ag.rf 70 142 h) (g1.w (by omega))) (g2.w (by omega))).set (by omega)).set (by omega)) ((w2.t140 (h2 := List.set _ 140 (cA 0 y2)) (fun a ha => by rw [hset_fr (by omega)]) (hset_eq hy) my).t141 (fun a ha => by rw [hset_fr (by omega)]) (hset_eq hz9) mz9))
                                | (rw [if_pos (show ws j value a b c 3 = ws j value2 a2 b2 c2 3 by omega), ff_n n0, ff_n n1, ff_n n2, ff_n n3] at k; exact k (by omega) (by omega) _ _ _ (((Ag.tr (Ag.tr (Ag.rf 70 142 h) (g1.w (by omega))) (g2.w (by omega))).set (by omega)).set (by omega)) ((w2.t140 (h2 := List.set _ 140 (cA 0 y2)) (fun a ha => by rw [hset_fr (by omega)]) (hset_eq hy) my).t141 (fun a ha => by rw [hset_fr (by omega)]) (hset_eq hz9) mz9))
                                | (rw [if_neg (show ¬ ws j value a b c 3 = ws j value2 a2 b2 c2 3 by omega)] at k; exact k (by omega) (by omega) _ _ _ (((Ag.tr (Ag.tr (Ag.rf 70 142 h) (g1.w (by omega))) (g2.w (by omega))).set (by omega)).set (by omega)) ((w2.t140 (h2 := List.set _ 140 (cA 0 y2)) (fun a ha => by rw [hset_fr (by omega)]) (hset_eq hy) my).t141 (fun a ha => by rw [hset_fr (by omega)]) (hset_eq hz9) mz9))
                      · skip
                        have yes2 : (fun j9 => ws j value a b c j9 = ws j value2 a2 b2 c2 j9 ∧ ¬ ((wq j value a b c j9).1 = (wq j value2 a2 b2 c2 j9).1 ∧ (wq j value a b c j9).2 = (wq j value2 a2 b2 c2 j9).2)) 2 := ⟨by omega, fun z => by omega⟩
                        refine x_iload (dT U_X11_parts 79 rfl) rfl ?_
                        refine x_ireturn (dT U_X11_parts 80 rfl) rfl ?_
                        first
                          | (rw [if_pos (show ws j value a b c 3 = ws j value2 a2 b2 c2 3 by omega), ff_y (P := (fun j9 => ws j value a b c j9 = ws j value2 a2 b2 c2 j9 ∧ ¬ ((wq j value a b c j9).1 = (wq j value2 a2 b2 c2 j9).1 ∧ (wq j value a b c j9).2 = (wq j value2 a2 b2 c2 j9).2))) yes0] at k; exact k (by omega) (by omega) _ _ _ (((Ag.tr (Ag.tr (Ag.rf 70 142 h) (g1.w (by omega))) (g2.w (by omega))).set (by omega)).set (by omega)) ((w2.t140 (h2 := List.set _ 140 (cA 0 y2)) (fun a ha => by rw [hset_fr (by omega)]) (hset_eq hy) my).t141 (fun a ha => by rw [hset_fr (by omega)]) (hset_eq hz9) mz9))
                          | (rw [if_pos (show ws j value a b c 3 = ws j value2 a2 b2 c2 3 by omega), ff_n n0, ff_y (P := (fun j9 => ws j value a b c j9 = ws j value2 a2 b2 c2 j9 ∧ ¬ ((wq j value a b c j9).1 = (wq j value2 a2 b2 c2 j9).1 ∧ (wq j value a b c j9).2 = (wq j value2 a2 b2 c2 j9).2))) yes1] at k; exact k (by omega) (by omega) _ _ _ (((Ag.tr (Ag.tr (Ag.rf 70 142 h) (g1.w (by omega))) (g2.w (by omega))).set (by omega)).set (by omega)) ((w2.t140 (h2 := List.set _ 140 (cA 0 y2)) (fun a ha => by rw [hset_fr (by omega)]) (hset_eq hy) my).t141 (fun a ha => by rw [hset_fr (by omega)]) (hset_eq hz9) mz9))
                          | (rw [if_pos (show ws j value a b c 3 = ws j value2 a2 b2 c2 3 by omega), ff_n n0, ff_n n1, ff_y (P := (fun j9 => ws j value a b c j9 = ws j value2 a2 b2 c2 j9 ∧ ¬ ((wq j value a b c j9).1 = (wq j value2 a2 b2 c2 j9).1 ∧ (wq j value a b c j9).2 = (wq j value2 a2 b2 c2 j9).2))) yes2] at k; exact k (by omega) (by omega) _ _ _ (((Ag.tr (Ag.tr (Ag.rf 70 142 h) (g1.w (by omega))) (g2.w (by omega))).set (by omega)).set (by omega)) ((w2.t140 (h2 := List.set _ 140 (cA 0 y2)) (fun a ha => by rw [hset_fr (by omega)]) (hset_eq hy) my).t141 (fun a ha => by rw [hset_fr (by omega)]) (hset_eq hz9) mz9))
                          | (rw [if_pos (show ws j value a b c 3 = ws j value2 a2 b2 c2 3 by omega), ff_n n0, ff_n n1, ff_n n2, ff_y (P := (fun j9 => ws j value a b c j9 = ws j value2 a2 b2 c2 j9 ∧ ¬ ((wq j value a b c j9).1 = (wq j value2 a2 b2 c2 j9).1 ∧ (wq j value a b c j9).2 = (wq j value2 a2 b2 c2 j9).2))) yes3] at k; exact k (by omega) (by omega) _ _ _ (((Ag.tr (Ag.tr (Ag.rf 70 142 h) (g1.w (by omega))) (g2.w (by omega))).set (by omega)).set (by omega)) ((w2.t140 (h2 := List.set _ 140 (cA 0 y2)) (fun a ha => by rw [hset_fr (by omega)]) (hset_eq hy) my).t141 (fun a ha => by rw [hset_fr (by omega)]) (hset_eq hz9) mz9))
                          | (rw [if_pos (show ws j value a b c 3 = ws j value2 a2 b2 c2 3 by omega), ff_n n0, ff_n n1, ff_n n2, ff_n n3] at k; exact k (by omega) (by omega) _ _ _ (((Ag.tr (Ag.tr (Ag.rf 70 142 h) (g1.w (by omega))) (g2.w (by omega))).set (by omega)).set (by omega)) ((w2.t140 (h2 := List.set _ 140 (cA 0 y2)) (fun a ha => by rw [hset_fr (by omega)]) (hset_eq hy) my).t141 (fun a ha => by rw [hset_fr (by omega)]) (hset_eq hz9) mz9))
                          | (rw [if_neg (show ¬ ws j value a b c 3 = ws j value2 a2 b2 c2 3 by omega)] at k; exact k (by omega) (by omega) _ _ _ (((Ag.tr (Ag.tr (Ag.rf 70 142 h) (g1.w (by omega))) (g2.w (by omega))).set (by omega)).set (by omega)) ((w2.t140 (h2 := List.set _ 140 (cA 0 y2)) (fun a ha => by rw [hset_fr (by omega)]) (hset_eq hy) my).t141 (fun a ha => by rw [hset_fr (by omega)]) (hset_eq hz9) mz9))
                · skip
                  refine x_aload_n (dT U_X11_parts 68 rfl) rfl ?_
                  refine x_getfield F_X11_109 (dT U_X11_parts 69 rfl) (hset_ne (by omega) (hset_ne (by omega) (w2.c70))) (Nat.le_of_ble_eq_true rfl) rfl ?_
                  refine x_iload (dT U_X11_parts 70 rfl) rfl ?_
                  refine x_ialoadv (1) (dT U_X11_parts 71 rfl) (hset_ne (by omega) (hset_eq hy)) (Nat.le_of_ble_eq_true rfl) rfl (by omega) (by omega) yg1 ?_
                  refine x_invokestatic (rc' := rc) (rs' := rs) (rc2 := 0) (rs2 := 0) (As := [_]) (st := _) M_X11_sealed_ K_X11_231 (dT U_X11_parts 72 rfl) rfl rfl rfl rfl (Nat.le_of_ble_eq_true rfl) rfl (by decide) (Nat.le_of_ble_eq_true rfl) rfl rfl ?_
                  refine S_sealedP (x := (wq j value a b c 1).1) (y := (wq j value a b c 1).2) ba1.1 ba1.2 ?_
                  change xRet _ _ _ _ _ _ _ _ _ _ (.inl (some (vi (ws j value a b c 1)))) _ _
                  refine xRet_some ?_
                  refine x_aload_n (dT U_X11_parts 73 rfl) rfl ?_
                  refine x_getfield F_X11_112 (dT U_X11_parts 74 rfl) (hset_ne (by omega) (hset_ne (by omega) (w2.c70))) (Nat.le_of_ble_eq_true rfl) rfl ?_
                  refine x_iload (dT U_X11_parts 75 rfl) rfl ?_
                  refine x_ialoadv (1) (dT U_X11_parts 76 rfl) (hset_eq hz9) (Nat.le_of_ble_eq_true rfl) rfl (by omega) (by omega) zg1 ?_
                  refine x_invokestatic (rc' := rc) (rs' := rs) (rc2 := 0) (rs2 := 0) (As := [_]) (st := _) M_X11_sealed_ K_X11_231 (dT U_X11_parts 77 rfl) rfl rfl rfl rfl (Nat.le_of_ble_eq_true rfl) rfl (by decide) (Nat.le_of_ble_eq_true rfl) rfl rfl ?_
                  refine S_sealedP (x := (wq j value2 a2 b2 c2 1).1) (y := (wq j value2 a2 b2 c2 1).2) bb1.1 bb1.2 ?_
                  change xRet _ _ _ _ _ _ _ _ _ _ (.inl (some (vi (ws j value2 a2 b2 c2 1)))) _ _
                  have sA1 : 0 ≤ (ws j value a b c 1) ∧ (ws j value a b c 1) < 251 := sl_b _ _
                  have sB1 : 0 ≤ (ws j value2 a2 b2 c2 1) ∧ (ws j value2 a2 b2 c2 1) < 251 := sl_b _ _
                  refine xRet_some ?_
                  refine x_icmp_ne (tgt := 152) (dT U_X11_parts 78 rfl) (by decide) (by unfold xr; omega) (by unfold xr; omega) (fun c146 => ?_) (fun c146 => ?_)
                  · skip
                    have n1 : ¬ (fun j9 => ws j value a b c j9 = ws j value2 a2 b2 c2 j9 ∧ ¬ ((wq j value a b c j9).1 = (wq j value2 a2 b2 c2 j9).1 ∧ (wq j value a b c j9).2 = (wq j value2 a2 b2 c2 j9).2)) 1 := fun z => by have := z.1; omega
                    refine x_iinc (ls' := [some (.ref _), some (vi _), some (vi _), some (vi _), some (vi _), some (vi _), some (vi _), some (vi _), some (vi _), some (vi _), some (vi _)]) (dT U_X11_parts 81 rfl) (by decide) rfl rfl ?_
                    refine x_goto (tgt := 88) (dT U_X11_parts 82 rfl) (by decide) ?_
                    refine x_iload (dT U_X11_parts 47 rfl) rfl ?_
                    refine x_iconst (dT U_X11_parts 48 rfl) ?_
                    refine x_icmp_ge (tgt := 158) (dT U_X11_parts 49 rfl) (by decide) (by unfold xr; omega) (by unfold xr; omega) (fun c91 => (by exfalso; omega)) (fun c91 => ?_)
                    refine x_aload_n (dT U_X11_parts 50 rfl) rfl ?_
                    refine x_getfield F_X11_109 (dT U_X11_parts 51 rfl) (hset_ne (by omega) (hset_ne (by omega) (w2.c70))) (Nat.le_of_ble_eq_true rfl) rfl ?_
                    refine x_iconst (dT U_X11_parts 52 rfl) ?_
                    refine x_ialoadv (4) (dT U_X11_parts 53 rfl) (hset_ne (by omega) (hset_eq hy)) (Nat.le_of_ble_eq_true rfl) rfl (by omega) (by omega) yg4 ?_
                    refine x_aload_n (dT U_X11_parts 54 rfl) rfl ?_
                    refine x_getfield F_X11_112 (dT U_X11_parts 55 rfl) (hset_ne (by omega) (hset_ne (by omega) (w2.c70))) (Nat.le_of_ble_eq_true rfl) rfl ?_
                    refine x_iconst (dT U_X11_parts 56 rfl) ?_
                    refine x_ialoadv (4) (dT U_X11_parts 57 rfl) (hset_eq hz9) (Nat.le_of_ble_eq_true rfl) rfl (by omega) (by omega) zg4 ?_
                    have sA : 0 ≤ (ws j value a b c 3) ∧ (ws j value a b c 3) < 251 := sl_b _ _
                    have sB : 0 ≤ (ws j value2 a2 b2 c2 3) ∧ (ws j value2 a2 b2 c2 3) < 251 := sl_b _ _
                    refine x_icmp_ne (tgt := 158) (dT U_X11_parts 58 rfl) (by decide) (by unfold xr; omega) (by unfold xr; omega) (fun c106 => ?_) (fun c106 => ?_)
                    · skip
                      refine x_iconst (dT U_X11_parts 83 rfl) ?_
                      refine x_ireturn (dT U_X11_parts 84 rfl) rfl ?_
                      first
                        | (rw [if_pos (show ws j value a b c 3 = ws j value2 a2 b2 c2 3 by omega), ff_y (P := (fun j9 => ws j value a b c j9 = ws j value2 a2 b2 c2 j9 ∧ ¬ ((wq j value a b c j9).1 = (wq j value2 a2 b2 c2 j9).1 ∧ (wq j value a b c j9).2 = (wq j value2 a2 b2 c2 j9).2))) yes0] at k; exact k (by omega) (by omega) _ _ _ (((Ag.tr (Ag.tr (Ag.rf 70 142 h) (g1.w (by omega))) (g2.w (by omega))).set (by omega)).set (by omega)) ((w2.t140 (h2 := List.set _ 140 (cA 0 y2)) (fun a ha => by rw [hset_fr (by omega)]) (hset_eq hy) my).t141 (fun a ha => by rw [hset_fr (by omega)]) (hset_eq hz9) mz9))
                        | (rw [if_pos (show ws j value a b c 3 = ws j value2 a2 b2 c2 3 by omega), ff_n n0, ff_y (P := (fun j9 => ws j value a b c j9 = ws j value2 a2 b2 c2 j9 ∧ ¬ ((wq j value a b c j9).1 = (wq j value2 a2 b2 c2 j9).1 ∧ (wq j value a b c j9).2 = (wq j value2 a2 b2 c2 j9).2))) yes1] at k; exact k (by omega) (by omega) _ _ _ (((Ag.tr (Ag.tr (Ag.rf 70 142 h) (g1.w (by omega))) (g2.w (by omega))).set (by omega)).set (by omega)) ((w2.t140 (h2 := List.set _ 140 (cA 0 y2)) (fun a ha => by rw [hset_fr (by omega)]) (hset_eq hy) my).t141 (fun a ha => by rw [hset_fr (by omega)]) (hset_eq hz9) mz9))
                        | (rw [if_pos (show ws j value a b c 3 = ws j value2 a2 b2 c2 3 by omega), ff_n n0, ff_n n1, ff_y (P := (fun j9 => ws j value a b c j9 = ws j value2 a2 b2 c2 j9 ∧ ¬ ((wq j value a b c j9).1 = (wq j value2 a2 b2 c2 j9).1 ∧ (wq j value a b c j9).2 = (wq j value2 a2 b2 c2 j9).2))) yes2] at k; exact k (by omega) (by omega) _ _ _ (((Ag.tr (Ag.tr (Ag.rf 70 142 h) (g1.w (by omega))) (g2.w (by omega))).set (by omega)).set (by omega)) ((w2.t140 (h2 := List.set _ 140 (cA 0 y2)) (fun a ha => by rw [hset_fr (by omega)]) (hset_eq hy) my).t141 (fun a ha => by rw [hset_fr (by omega)]) (hset_eq hz9) mz9))
                        | (rw [if_pos (show ws j value a b c 3 = ws j value2 a2 b2 c2 3 by omega), ff_n n0, ff_n n1, ff_n n2, ff_y (P := (fun j9 => ws j value a b c j9 = ws j value2 a2 b2 c2 j9 ∧ ¬ ((wq j value a b c j9).1 = (wq j value2 a2 b2 c2 j9).1 ∧ (wq j value a b c j9).2 = (wq j value2 a2 b2 c2 j9).2))) yes3] at k; exact k (by omega) (by omega) _ _ _ (((Ag.tr (Ag.tr (Ag.rf 70 142 h) (g1.w (by omega))) (g2.w (by omega))).set (by omega)).set (by omega)) ((w2.t140 (h2 := List.set _ 140 (cA 0 y2)) (fun a ha => by rw [hset_fr (by omega)]) (hset_eq hy) my).t141 (fun a ha => by rw [hset_fr (by omega)]) (hset_eq hz9) mz9))
                        | (rw [if_pos (show ws j value a b c 3 = ws j value2 a2 b2 c2 3 by omega), ff_n n0, ff_n n1, ff_n n2, ff_n n3] at k; exact k (by omega) (by omega) _ _ _ (((Ag.tr (Ag.tr (Ag.rf 70 142 h) (g1.w (by omega))) (g2.w (by omega))).set (by omega)).set (by omega)) ((w2.t140 (h2 := List.set _ 140 (cA 0 y2)) (fun a ha => by rw [hset_fr (by omega)]) (hset_eq hy) my).t141 (fun a ha => by rw [hset_fr (by omega)]) (hset_eq hz9) mz9))
                        | (rw [if_neg (show ¬ ws j value a b c 3 = ws j value2 a2 b2 c2 3 by omega)] at k; exact k (by omega) (by omega) _ _ _ (((Ag.tr (Ag.tr (Ag.rf 70 142 h) (g1.w (by omega))) (g2.w (by omega))).set (by omega)).set (by omega)) ((w2.t140 (h2 := List.set _ 140 (cA 0 y2)) (fun a ha => by rw [hset_fr (by omega)]) (hset_eq hy) my).t141 (fun a ha => by rw [hset_fr (by omega)]) (hset_eq hz9) mz9))
                    · skip
                      refine x_aload_n (dT U_X11_parts 59 rfl) rfl ?_
                      refine x_getfield F_X11_109 (dT U_X11_parts 60 rfl) (hset_ne (by omega) (hset_ne (by omega) (w2.c70))) (Nat.le_of_ble_eq_true rfl) rfl ?_
                      refine x_iload (dT U_X11_parts 61 rfl) rfl ?_
                      refine x_ialoadv (2) (dT U_X11_parts 62 rfl) (hset_ne (by omega) (hset_eq hy)) (Nat.le_of_ble_eq_true rfl) rfl (by omega) (by omega) yg2 ?_
                      refine x_aload_n (dT U_X11_parts 63 rfl) rfl ?_
                      refine x_getfield F_X11_112 (dT U_X11_parts 64 rfl) (hset_ne (by omega) (hset_ne (by omega) (w2.c70))) (Nat.le_of_ble_eq_true rfl) rfl ?_
                      refine x_iload (dT U_X11_parts 65 rfl) rfl ?_
                      refine x_ialoadv (2) (dT U_X11_parts 66 rfl) (hset_eq hz9) (Nat.le_of_ble_eq_true rfl) rfl (by omega) (by omega) zg2 ?_
                      have ba2 := wq_b (i := j) (v := value) (a := a) (b := b) (c := c) hj (by omega) (by omega) (by omega) (by omega) 2
                      have bb2 := wq_b (i := j) (v := value2) (a := a2) (b := b2) (c := c2) hj (by omega) (by omega) (by omega) (by omega) 2
                      have ua2 : WN j value a b c 2 = 251 * (wq j value a b c 2).1 + (wq j value a b c 2).2 := rfl
                      have ub2 : WN j value2 a2 b2 c2 2 = 251 * (wq j value2 a2 b2 c2 2).1 + (wq j value2 a2 b2 c2 2).2 := rfl
                      refine x_icmp_eq (tgt := 152) (dT U_X11_parts 67 rfl) (by decide) (by unfold xr; omega) (by unfold xr; omega) (fun c123 => ?_) (fun c123 => ?_)
                      · skip
                        have n2 : ¬ (fun j9 => ws j value a b c j9 = ws j value2 a2 b2 c2 j9 ∧ ¬ ((wq j value a b c j9).1 = (wq j value2 a2 b2 c2 j9).1 ∧ (wq j value a b c j9).2 = (wq j value2 a2 b2 c2 j9).2)) 2 := fun z => z.2 (by omega)
                        refine x_iinc (ls' := [some (.ref _), some (vi _), some (vi _), some (vi _), some (vi _), some (vi _), some (vi _), some (vi _), some (vi _), some (vi _), some (vi _)]) (dT U_X11_parts 81 rfl) (by decide) rfl rfl ?_
                        refine x_goto (tgt := 88) (dT U_X11_parts 82 rfl) (by decide) ?_
                        refine x_iload (dT U_X11_parts 47 rfl) rfl ?_
                        refine x_iconst (dT U_X11_parts 48 rfl) ?_
                        refine x_icmp_ge (tgt := 158) (dT U_X11_parts 49 rfl) (by decide) (by unfold xr; omega) (by unfold xr; omega) (fun c91 => (by exfalso; omega)) (fun c91 => ?_)
                        refine x_aload_n (dT U_X11_parts 50 rfl) rfl ?_
                        refine x_getfield F_X11_109 (dT U_X11_parts 51 rfl) (hset_ne (by omega) (hset_ne (by omega) (w2.c70))) (Nat.le_of_ble_eq_true rfl) rfl ?_
                        refine x_iconst (dT U_X11_parts 52 rfl) ?_
                        refine x_ialoadv (4) (dT U_X11_parts 53 rfl) (hset_ne (by omega) (hset_eq hy)) (Nat.le_of_ble_eq_true rfl) rfl (by omega) (by omega) yg4 ?_
                        refine x_aload_n (dT U_X11_parts 54 rfl) rfl ?_
                        refine x_getfield F_X11_112 (dT U_X11_parts 55 rfl) (hset_ne (by omega) (hset_ne (by omega) (w2.c70))) (Nat.le_of_ble_eq_true rfl) rfl ?_
                        refine x_iconst (dT U_X11_parts 56 rfl) ?_
                        refine x_ialoadv (4) (dT U_X11_parts 57 rfl) (hset_eq hz9) (Nat.le_of_ble_eq_true rfl) rfl (by omega) (by omega) zg4 ?_
                        have sA : 0 ≤ (ws j value a b c 3) ∧ (ws j value a b c 3) < 251 := sl_b _ _
                        have sB : 0 ≤ (ws j value2 a2 b2 c2 3) ∧ (ws j value2 a2 b2 c2 3) < 251 := sl_b _ _
                        refine x_icmp_ne (tgt := 158) (dT U_X11_parts 58 rfl) (by decide) (by unfold xr; omega) (by unfold xr; omega) (fun c106 => ?_) (fun c106 => ?_)
                        · skip
                          refine x_iconst (dT U_X11_parts 83 rfl) ?_
                          refine x_ireturn (dT U_X11_parts 84 rfl) rfl ?_
                          first
                            | (rw [if_pos (show ws j value a b c 3 = ws j value2 a2 b2 c2 3 by omega), ff_y (P := (fun j9 => ws j value a b c j9 = ws j value2 a2 b2 c2 j9 ∧ ¬ ((wq j value a b c j9).1 = (wq j value2 a2 b2 c2 j9).1 ∧ (wq j value a b c j9).2 = (wq j value2 a2 b2 c2 j9).2))) yes0] at k; exact k (by omega) (by omega) _ _ _ (((Ag.tr (Ag.tr (Ag.rf 70 142 h) (g1.w (by omega))) (g2.w (by omega))).set (by omega)).set (by omega)) ((w2.t140 (h2 := List.set _ 140 (cA 0 y2)) (fun a ha => by rw [hset_fr (by omega)]) (hset_eq hy) my).t141 (fun a ha => by rw [hset_fr (by omega)]) (hset_eq hz9) mz9))
                            | (rw [if_pos (show ws j value a b c 3 = ws j value2 a2 b2 c2 3 by omega), ff_n n0, ff_y (P := (fun j9 => ws j value a b c j9 = ws j value2 a2 b2 c2 j9 ∧ ¬ ((wq j value a b c j9).1 = (wq j value2 a2 b2 c2 j9).1 ∧ (wq j value a b c j9).2 = (wq j value2 a2 b2 c2 j9).2))) yes1] at k; exact k (by omega) (by omega) _ _ _ (((Ag.tr (Ag.tr (Ag.rf 70 142 h) (g1.w (by omega))) (g2.w (by omega))).set (by omega)).set (by omega)) ((w2.t140 (h2 := List.set _ 140 (cA 0 y2)) (fun a ha => by rw [hset_fr (by omega)]) (hset_eq hy) my).t141 (fun a ha => by rw [hset_fr (by omega)]) (hset_eq hz9) mz9))
                            | (rw [if_pos (show ws j value a b c 3 = ws j value2 a2 b2 c2 3 by omega), ff_n n0, ff_n n1, ff_y (P := (fun j9 => ws j value a b c j9 = ws j value2 a2 b2 c2 j9 ∧ ¬ ((wq j value a b c j9).1 = (wq j value2 a2 b2 c2 j9).1 ∧ (wq j value a b c j9).2 = (wq j value2 a2 b2 c2 j9).2))) yes2] at k; exact k (by omega) (by omega) _ _ _ (((Ag.tr (Ag.tr (Ag.rf 70 142 h) (g1.w (by omega))) (g2.w (by omega))).set (by omega)).set (by omega)) ((w2.t140 (h2 := List.set _ 140 (cA 0 y2)) (fun a ha => by rw [hset_fr (by omega)]) (hset_eq hy) my).t141 (fun a ha => by rw [hset_fr (by omega)]) (hset_eq hz9) mz9))
                            | (rw [if_pos (show ws j value a b c 3 = ws j value2 a2 b2 c2 3 by omega), ff_n n0, ff_n n1, ff_n n2, ff_y (P := (fun j9 => ws j value a b c j9 = ws j value2 a2 b2 c2 j9 ∧ ¬ ((wq j value a b c j9).1 = (wq j value2 a2 b2 c2 j9).1 ∧ (wq j value a b c j9).2 = (wq j value2 a2 b2 c2 j9).2))) yes3] at k; exact k (by omega) (by omega) _ _ _ (((Ag.tr (Ag.tr (Ag.rf 70 142 h) (g1.w (by omega))) (g2.w (by omega))).set (by omega)).set (by omega)) ((w2.t140 (h2 := List.set _ 140 (cA 0 y2)) (fun a ha => by rw [hset_fr (by omega)]) (hset_eq hy) my).t141 (fun a ha => by rw [hset_fr (by omega)]) (hset_eq hz9) mz9))
                            | (rw [if_pos (show ws j value a b c 3 = ws j value2 a2 b2 c2 3 by omega), ff_n n0, ff_n n1, ff_n n2, ff_n n3] at k; exact k (by omega) (by omega) _ _ _ (((Ag.tr (Ag.tr (Ag.rf 70 142 h) (g1.w (by omega))) (g2.w (by omega))).set (by omega)).set (by omega)) ((w2.t140 (h2 := List.set _ 140 (cA 0 y2)) (fun a ha => by rw [hset_fr (by omega)]) (hset_eq hy) my).t141 (fun a ha => by rw [hset_fr (by omega)]) (hset_eq hz9) mz9))
                            | (rw [if_neg (show ¬ ws j value a b c 3 = ws j value2 a2 b2 c2 3 by omega)] at k; exact k (by omega) (by omega) _ _ _ (((Ag.tr (Ag.tr (Ag.rf 70 142 h) (g1.w (by omega))) (g2.w (by omega))).set (by omega)).set (by omega)) ((w2.t140 (h2 := List.set _ 140 (cA 0 y2)) (fun a ha => by rw [hset_fr (by omega)]) (hset_eq hy) my).t141 (fun a ha => by rw [hset_fr (by omega)]) (hset_eq hz9) mz9))
                        · skip
                          refine x_aload_n (dT U_X11_parts 59 rfl) rfl ?_
                          refine x_getfield F_X11_109 (dT U_X11_parts 60 rfl) (hset_ne (by omega) (hset_ne (by omega) (w2.c70))) (Nat.le_of_ble_eq_true rfl) rfl ?_
                          refine x_iload (dT U_X11_parts 61 rfl) rfl ?_
                          refine x_ialoadv (3) (dT U_X11_parts 62 rfl) (hset_ne (by omega) (hset_eq hy)) (Nat.le_of_ble_eq_true rfl) rfl (by omega) (by omega) yg3 ?_
                          refine x_aload_n (dT U_X11_parts 63 rfl) rfl ?_
                          refine x_getfield F_X11_112 (dT U_X11_parts 64 rfl) (hset_ne (by omega) (hset_ne (by omega) (w2.c70))) (Nat.le_of_ble_eq_true rfl) rfl ?_
                          refine x_iload (dT U_X11_parts 65 rfl) rfl ?_
                          refine x_ialoadv (3) (dT U_X11_parts 66 rfl) (hset_eq hz9) (Nat.le_of_ble_eq_true rfl) rfl (by omega) (by omega) zg3 ?_
                          have ba3 := wq_b (i := j) (v := value) (a := a) (b := b) (c := c) hj (by omega) (by omega) (by omega) (by omega) 3
                          have bb3 := wq_b (i := j) (v := value2) (a := a2) (b := b2) (c := c2) hj (by omega) (by omega) (by omega) (by omega) 3
                          have ua3 : WN j value a b c 3 = 251 * (wq j value a b c 3).1 + (wq j value a b c 3).2 := rfl
                          have ub3 : WN j value2 a2 b2 c2 3 = 251 * (wq j value2 a2 b2 c2 3).1 + (wq j value2 a2 b2 c2 3).2 := rfl
                          refine x_icmp_eq (tgt := 152) (dT U_X11_parts 67 rfl) (by decide) (by unfold xr; omega) (by unfold xr; omega) (fun c123 => ?_) (fun c123 => ?_)
                          · skip
                            have n3 : ¬ (fun j9 => ws j value a b c j9 = ws j value2 a2 b2 c2 j9 ∧ ¬ ((wq j value a b c j9).1 = (wq j value2 a2 b2 c2 j9).1 ∧ (wq j value a b c j9).2 = (wq j value2 a2 b2 c2 j9).2)) 3 := fun z => z.2 (by omega)
                            refine x_iinc (ls' := [some (.ref _), some (vi _), some (vi _), some (vi _), some (vi _), some (vi _), some (vi _), some (vi _), some (vi _), some (vi _), some (vi _)]) (dT U_X11_parts 81 rfl) (by decide) rfl rfl ?_
                            refine x_goto (tgt := 88) (dT U_X11_parts 82 rfl) (by decide) ?_
                            refine x_iload (dT U_X11_parts 47 rfl) rfl ?_
                            refine x_iconst (dT U_X11_parts 48 rfl) ?_
                            refine x_icmp_ge (tgt := 158) (dT U_X11_parts 49 rfl) (by decide) (by unfold xr; omega) (by unfold xr; omega) (fun c91 => ?_) (fun c91 => (by exfalso; omega))
                            refine x_iconst (dT U_X11_parts 83 rfl) ?_
                            refine x_ireturn (dT U_X11_parts 84 rfl) rfl ?_
                            first
                              | (rw [if_pos (show ws j value a b c 3 = ws j value2 a2 b2 c2 3 by omega), ff_y (P := (fun j9 => ws j value a b c j9 = ws j value2 a2 b2 c2 j9 ∧ ¬ ((wq j value a b c j9).1 = (wq j value2 a2 b2 c2 j9).1 ∧ (wq j value a b c j9).2 = (wq j value2 a2 b2 c2 j9).2))) yes0] at k; exact k (by omega) (by omega) _ _ _ (((Ag.tr (Ag.tr (Ag.rf 70 142 h) (g1.w (by omega))) (g2.w (by omega))).set (by omega)).set (by omega)) ((w2.t140 (h2 := List.set _ 140 (cA 0 y2)) (fun a ha => by rw [hset_fr (by omega)]) (hset_eq hy) my).t141 (fun a ha => by rw [hset_fr (by omega)]) (hset_eq hz9) mz9))
                              | (rw [if_pos (show ws j value a b c 3 = ws j value2 a2 b2 c2 3 by omega), ff_n n0, ff_y (P := (fun j9 => ws j value a b c j9 = ws j value2 a2 b2 c2 j9 ∧ ¬ ((wq j value a b c j9).1 = (wq j value2 a2 b2 c2 j9).1 ∧ (wq j value a b c j9).2 = (wq j value2 a2 b2 c2 j9).2))) yes1] at k; exact k (by omega) (by omega) _ _ _ (((Ag.tr (Ag.tr (Ag.rf 70 142 h) (g1.w (by omega))) (g2.w (by omega))).set (by omega)).set (by omega)) ((w2.t140 (h2 := List.set _ 140 (cA 0 y2)) (fun a ha => by rw [hset_fr (by omega)]) (hset_eq hy) my).t141 (fun a ha => by rw [hset_fr (by omega)]) (hset_eq hz9) mz9))
                              | (rw [if_pos (show ws j value a b c 3 = ws j value2 a2 b2 c2 3 by omega), ff_n n0, ff_n n1, ff_y (P := (fun j9 => ws j value a b c j9 = ws j value2 a2 b2 c2 j9 ∧ ¬ ((wq j value a b c j9).1 = (wq j value2 a2 b2 c2 j9).1 ∧ (wq j value a b c j9).2 = (wq j value2 a2 b2 c2 j9).2))) yes2] at k; exact k (by omega) (by omega) _ _ _ (((Ag.tr (Ag.tr (Ag.rf 70 142 h) (g1.w (by omega))) (g2.w (by omega))).set (by omega)).set (by omega)) ((w2.t140 (h2 := List.set _ 140 (cA 0 y2)) (fun a ha => by rw [hset_fr (by omega)]) (hset_eq hy) my).t141 (fun a ha => by rw [hset_fr (by omega)]) (hset_eq hz9) mz9))
                              | (rw [if_pos (show ws j value a b c 3 = ws j value2 a2 b2 c2 3 by omega), ff_n n0, ff_n n1, ff_n n2, ff_y (P := (fun j9 => ws j value a b c j9 = ws j value2 a2 b2 c2 j9 ∧ ¬ ((wq j value a b c j9).1 = (wq j value2 a2 b2 c2 j9).1 ∧ (wq j value a b c j9).2 = (wq j value2 a2 b2 c2 j9).2))) yes3] at k; exact k (by omega) (by omega) _ _ _ (((Ag.tr (Ag.tr (Ag.rf 70 142 h) (g1.w (by omega))) (g2.w (by omega))).set (by omega)).set (by omega)) ((w2.t140 (h2 := List.set _ 140 (cA 0 y2)) (fun a ha => by rw [hset_fr (by omega)]) (hset_eq hy) my).t141 (fun a ha => by rw [hset_fr (by omega)]) (hset_eq hz9) mz9))
                              | (rw [if_pos (show ws j value a b c 3 = ws j value2 a2 b2 c2 3 by omega), ff_n n0, ff_n n1, ff_n n2, ff_n n3] at k; exact k (by omega) (by omega) _ _ _ (((Ag.tr (Ag.tr (Ag.rf 70 142 h) (g1.w (by omega))) (g2.w (by omega))).set (by omega)).set (by omega)) ((w2.t140 (h2 := List.set _ 140 (cA 0 y2)) (fun a ha => by rw [hset_fr (by omega)]) (hset_eq hy) my).t141 (fun a ha => by rw [hset_fr (by omega)]) (hset_eq hz9) mz9))
                              | (rw [if_neg (show ¬ ws j value a b c 3 = ws j value2 a2 b2 c2 3 by omega)] at k; exact k (by omega) (by omega) _ _ _ (((Ag.tr (Ag.tr (Ag.rf 70 142 h) (g1.w (by omega))) (g2.w (by omega))).set (by omega)).set (by omega)) ((w2.t140 (h2 := List.set _ 140 (cA 0 y2)) (fun a ha => by rw [hset_fr (by omega)]) (hset_eq hy) my).t141 (fun a ha => by rw [hset_fr (by omega)]) (hset_eq hz9) mz9))
                          · skip
                            refine x_aload_n (dT U_X11_parts 68 rfl) rfl ?_
                            refine x_getfield F_X11_109 (dT U_X11_parts 69 rfl) (hset_ne (by omega) (hset_ne (by omega) (w2.c70))) (Nat.le_of_ble_eq_true rfl) rfl ?_
                            refine x_iload (dT U_X11_parts 70 rfl) rfl ?_
                            refine x_ialoadv (3) (dT U_X11_parts 71 rfl) (hset_ne (by omega) (hset_eq hy)) (Nat.le_of_ble_eq_true rfl) rfl (by omega) (by omega) yg3 ?_
                            refine x_invokestatic (rc' := rc) (rs' := rs) (rc2 := 0) (rs2 := 0) (As := [_]) (st := _) M_X11_sealed_ K_X11_231 (dT U_X11_parts 72 rfl) rfl rfl rfl rfl (Nat.le_of_ble_eq_true rfl) rfl (by decide) (Nat.le_of_ble_eq_true rfl) rfl rfl ?_
                            refine S_sealedP (x := (wq j value a b c 3).1) (y := (wq j value a b c 3).2) ba3.1 ba3.2 ?_
                            change xRet _ _ _ _ _ _ _ _ _ _ (.inl (some (vi (ws j value a b c 3)))) _ _
                            refine xRet_some ?_
                            refine x_aload_n (dT U_X11_parts 73 rfl) rfl ?_
                            refine x_getfield F_X11_112 (dT U_X11_parts 74 rfl) (hset_ne (by omega) (hset_ne (by omega) (w2.c70))) (Nat.le_of_ble_eq_true rfl) rfl ?_
                            refine x_iload (dT U_X11_parts 75 rfl) rfl ?_
                            refine x_ialoadv (3) (dT U_X11_parts 76 rfl) (hset_eq hz9) (Nat.le_of_ble_eq_true rfl) rfl (by omega) (by omega) zg3 ?_
                            refine x_invokestatic (rc' := rc) (rs' := rs) (rc2 := 0) (rs2 := 0) (As := [_]) (st := _) M_X11_sealed_ K_X11_231 (dT U_X11_parts 77 rfl) rfl rfl rfl rfl (Nat.le_of_ble_eq_true rfl) rfl (by decide) (Nat.le_of_ble_eq_true rfl) rfl rfl ?_
                            refine S_sealedP (x := (wq j value2 a2 b2 c2 3).1) (y := (wq j value2 a2 b2 c2 3).2) bb3.1 bb3.2 ?_
                            change xRet _ _ _ _ _ _ _ _ _ _ (.inl (some (vi (ws j value2 a2 b2 c2 3)))) _ _
                            have sA3 : 0 ≤ (ws j value a b c 3) ∧ (ws j value a b c 3) < 251 := sl_b _ _
                            have sB3 : 0 ≤ (ws j value2 a2 b2 c2 3) ∧ (ws j value2 a2 b2 c2 3) < 251 := sl_b _ _
                            refine xRet_some ?_
                            refine x_icmp_ne (tgt := 152) (dT U_X11_parts 78 rfl) (by decide) (by unfold xr; omega) (by unfold xr; omega) (fun c146 => ?_) (fun c146 => ?_)
                            · skip
                              have n3 : ¬ (fun j9 => ws j value a b c j9 = ws j value2 a2 b2 c2 j9 ∧ ¬ ((wq j value a b c j9).1 = (wq j value2 a2 b2 c2 j9).1 ∧ (wq j value a b c j9).2 = (wq j value2 a2 b2 c2 j9).2)) 3 := fun z => by have := z.1; omega
                              refine x_iinc (ls' := [some (.ref _), some (vi _), some (vi _), some (vi _), some (vi _), some (vi _), some (vi _), some (vi _), some (vi _), some (vi _), some (vi _)]) (dT U_X11_parts 81 rfl) (by decide) rfl rfl ?_
                              refine x_goto (tgt := 88) (dT U_X11_parts 82 rfl) (by decide) ?_
                              refine x_iload (dT U_X11_parts 47 rfl) rfl ?_
                              refine x_iconst (dT U_X11_parts 48 rfl) ?_
                              refine x_icmp_ge (tgt := 158) (dT U_X11_parts 49 rfl) (by decide) (by unfold xr; omega) (by unfold xr; omega) (fun c91 => ?_) (fun c91 => (by exfalso; omega))
                              refine x_iconst (dT U_X11_parts 83 rfl) ?_
                              refine x_ireturn (dT U_X11_parts 84 rfl) rfl ?_
                              first
                                | (rw [if_pos (show ws j value a b c 3 = ws j value2 a2 b2 c2 3 by omega), ff_y (P := (fun j9 => ws j value a b c j9 = ws j value2 a2 b2 c2 j9 ∧ ¬ ((wq j value a b c j9).1 = (wq j value2 a2 b2 c2 j9).1 ∧ (wq j value a b c j9).2 = (wq j value2 a2 b2 c2 j9).2))) yes0] at k; exact k (by omega) (by omega) _ _ _ (((Ag.tr (Ag.tr (Ag.rf 70 142 h) (g1.w (by omega))) (g2.w (by omega))).set (by omega)).set (by omega)) ((w2.t140 (h2 := List.set _ 140 (cA 0 y2)) (fun a ha => by rw [hset_fr (by omega)]) (hset_eq hy) my).t141 (fun a ha => by rw [hset_fr (by omega)]) (hset_eq hz9) mz9))
                                | (rw [if_pos (show ws j value a b c 3 = ws j value2 a2 b2 c2 3 by omega), ff_n n0, ff_y (P := (fun j9 => ws j value a b c j9 = ws j value2 a2 b2 c2 j9 ∧ ¬ ((wq j value a b c j9).1 = (wq j value2 a2 b2 c2 j9).1 ∧ (wq j value a b c j9).2 = (wq j value2 a2 b2 c2 j9).2))) yes1] at k; exact k (by omega) (by omega) _ _ _ (((Ag.tr (Ag.tr (Ag.rf 70 142 h) (g1.w (by omega))) (g2.w (by omega))).set (by omega)).set (by omega)) ((w2.t140 (h2 := List.set _ 140 (cA 0 y2)) (fun a ha => by rw [hset_fr (by omega)]) (hset_eq hy) my).t141 (fun a ha => by rw [hset_fr (by omega)]) (hset_eq hz9) mz9))
                                | (rw [if_pos (show ws j value a b c 3 = ws j value2 a2 b2 c2 3 by omega), ff_n n0, ff_n n1, ff_y (P := (fun j9 => ws j value a b c j9 = ws j value2 a2 b2 c2 j9 ∧ ¬ ((wq j value a b c j9).1 = (wq j value2 a2 b2 c2 j9).1 ∧ (wq j value a b c j9).2 = (wq j value2 a2 b2 c2 j9).2))) yes2] at k; exact k (by omega) (by omega) _ _ _ (((Ag.tr (Ag.tr (Ag.rf 70 142 h) (g1.w (by omega))) (g2.w (by omega))).set (by omega)).set (by omega)) ((w2.t140 (h2 := List.set _ 140 (cA 0 y2)) (fun a ha => by rw [hset_fr (by omega)]) (hset_eq hy) my).t141 (fun a ha => by rw [hset_fr (by omega)]) (hset_eq hz9) mz9))
                                | (rw [if_pos (show ws j value a b c 3 = ws j value2 a2 b2 c2 3 by omega), ff_n n0, ff_n n1, ff_n n2, ff_y (P := (fun j9 => ws j value a b c j9 = ws j value2 a2 b2 c2 j9 ∧ ¬ ((wq j value a b c j9).1 = (wq j value2 a2 b2 c2 j9).1 ∧ (wq j value a b c j9).2 = (wq j value2 a2 b2 c2 j9).2))) yes3] at k; exact k (by omega) (by omega) _ _ _ (((Ag.tr (Ag.tr (Ag.rf 70 142 h) (g1.w (by omega))) (g2.w (by omega))).set (by omega)).set (by omega)) ((w2.t140 (h2 := List.set _ 140 (cA 0 y2)) (fun a ha => by rw [hset_fr (by omega)]) (hset_eq hy) my).t141 (fun a ha => by rw [hset_fr (by omega)]) (hset_eq hz9) mz9))
                                | (rw [if_pos (show ws j value a b c 3 = ws j value2 a2 b2 c2 3 by omega), ff_n n0, ff_n n1, ff_n n2, ff_n n3] at k; exact k (by omega) (by omega) _ _ _ (((Ag.tr (Ag.tr (Ag.rf 70 142 h) (g1.w (by omega))) (g2.w (by omega))).set (by omega)).set (by omega)) ((w2.t140 (h2 := List.set _ 140 (cA 0 y2)) (fun a ha => by rw [hset_fr (by omega)]) (hset_eq hy) my).t141 (fun a ha => by rw [hset_fr (by omega)]) (hset_eq hz9) mz9))
                                | (rw [if_neg (show ¬ ws j value a b c 3 = ws j value2 a2 b2 c2 3 by omega)] at k; exact k (by omega) (by omega) _ _ _ (((Ag.tr (Ag.tr (Ag.rf 70 142 h) (g1.w (by omega))) (g2.w (by omega))).set (by omega)).set (by omega)) ((w2.t140 (h2 := List.set _ 140 (cA 0 y2)) (fun a ha => by rw [hset_fr (by omega)]) (hset_eq hy) my).t141 (fun a ha => by rw [hset_fr (by omega)]) (hset_eq hz9) mz9))
                            · skip
                              have yes3 : (fun j9 => ws j value a b c j9 = ws j value2 a2 b2 c2 j9 ∧ ¬ ((wq j value a b c j9).1 = (wq j value2 a2 b2 c2 j9).1 ∧ (wq j value a b c j9).2 = (wq j value2 a2 b2 c2 j9).2)) 3 := ⟨by omega, fun z => by omega⟩
                              refine x_iload (dT U_X11_parts 79 rfl) rfl ?_
                              refine x_ireturn (dT U_X11_parts 80 rfl) rfl ?_
                              first
                                | (rw [if_pos (show ws j value a b c 3 = ws j value2 a2 b2 c2 3 by omega), ff_y (P := (fun j9 => ws j value a b c j9 = ws j value2 a2 b2 c2 j9 ∧ ¬ ((wq j value a b c j9).1 = (wq j value2 a2 b2 c2 j9).1 ∧ (wq j value a b c j9).2 = (wq j value2 a2 b2 c2 j9).2))) yes0] at k; exact k (by omega) (by omega) _ _ _ (((Ag.tr (Ag.tr (Ag.rf 70 142 h) (g1.w (by omega))) (g2.w (by omega))).set (by omega)).set (by omega)) ((w2.t140 (h2 := List.set _ 140 (cA 0 y2)) (fun a ha => by rw [hset_fr (by omega)]) (hset_eq hy) my).t141 (fun a ha => by rw [hset_fr (by omega)]) (hset_eq hz9) mz9))
                                | (rw [if_pos (show ws j value a b c 3 = ws j value2 a2 b2 c2 3 by omega), ff_n n0, ff_y (P := (fun j9 => ws j value a b c j9 = ws j value2 a2 b2 c2 j9 ∧ ¬ ((wq j value a b c j9).1 = (wq j value2 a2 b2 c2 j9).1 ∧ (wq j value a b c j9).2 = (wq j value2 a2 b2 c2 j9).2))) yes1] at k; exact k (by omega) (by omega) _ _ _ (((Ag.tr (Ag.tr (Ag.rf 70 142 h) (g1.w (by omega))) (g2.w (by omega))).set (by omega)).set (by omega)) ((w2.t140 (h2 := List.set _ 140 (cA 0 y2)) (fun a ha => by rw [hset_fr (by omega)]) (hset_eq hy) my).t141 (fun a ha => by rw [hset_fr (by omega)]) (hset_eq hz9) mz9))
                                | (rw [if_pos (show ws j value a b c 3 = ws j value2 a2 b2 c2 3 by omega), ff_n n0, ff_n n1, ff_y (P := (fun j9 => ws j value a b c j9 = ws j value2 a2 b2 c2 j9 ∧ ¬ ((wq j value a b c j9).1 = (wq j value2 a2 b2 c2 j9).1 ∧ (wq j value a b c j9).2 = (wq j value2 a2 b2 c2 j9).2))) yes2] at k; exact k (by omega) (by omega) _ _ _ (((Ag.tr (Ag.tr (Ag.rf 70 142 h) (g1.w (by omega))) (g2.w (by omega))).set (by omega)).set (by omega)) ((w2.t140 (h2 := List.set _ 140 (cA 0 y2)) (fun a ha => by rw [hset_fr (by omega)]) (hset_eq hy) my).t141 (fun a ha => by rw [hset_fr (by omega)]) (hset_eq hz9) mz9))
                                | (rw [if_pos (show ws j value a b c 3 = ws j value2 a2 b2 c2 3 by omega), ff_n n0, ff_n n1, ff_n n2, ff_y (P := (fun j9 => ws j value a b c j9 = ws j value2 a2 b2 c2 j9 ∧ ¬ ((wq j value a b c j9).1 = (wq j value2 a2 b2 c2 j9).1 ∧ (wq j value a b c j9).2 = (wq j value2 a2 b2 c2 j9).2))) yes3] at k; exact k (by omega) (by omega) _ _ _ (((Ag.tr (Ag.tr (Ag.rf 70 142 h) (g1.w (by omega))) (g2.w (by omega))).set (by omega)).set (by omega)) ((w2.t140 (h2 := List.set _ 140 (cA 0 y2)) (fun a ha => by rw [hset_fr (by omega)]) (hset_eq hy) my).t141 (fun a ha => by rw [hset_fr (by omega)]) (hset_eq hz9) mz9))
                                | (rw [if_pos (show ws j value a b c 3 = ws j value2 a2 b2 c2 3 by omega), ff_n n0, ff_n n1, ff_n n2, ff_n n3] at k; exact k (by omega) (by omega) _ _ _ (((Ag.tr (Ag.tr (Ag.rf 70 142 h) (g1.w (by omega))) (g2.w (by omega))).set (by omega)).set (by omega)) ((w2.t140 (h2 := List.set _ 140 (cA 0 y2)) (fun a ha => by rw [hset_fr (by omega)]) (hset_eq hy) my).t141 (fun a ha => by rw [hset_fr (by omega)]) (hset_eq hz9) mz9))
                                | (rw [if_neg (show ¬ ws j value a b c 3 = ws j value2 a2 b2 c2 3 by omega)] at k; exact k (by omega) (by omega) _ _ _ (((Ag.tr (Ag.tr (Ag.rf 70 142 h) (g1.w (by omega))) (g2.w (by omega))).set (by omega)).set (by omega)) ((w2.t140 (h2 := List.set _ 140 (cA 0 y2)) (fun a ha => by rw [hset_fr (by omega)]) (hset_eq hy) my).t141 (fun a ha => by rw [hset_fr (by omega)]) (hset_eq hz9) mz9))
                      · skip
                        refine x_aload_n (dT U_X11_parts 68 rfl) rfl ?_
                        refine x_getfield F_X11_109 (dT U_X11_parts 69 rfl) (hset_ne (by omega) (hset_ne (by omega) (w2.c70))) (Nat.le_of_ble_eq_true rfl) rfl ?_
                        refine x_iload (dT U_X11_parts 70 rfl) rfl ?_
                        refine x_ialoadv (2) (dT U_X11_parts 71 rfl) (hset_ne (by omega) (hset_eq hy)) (Nat.le_of_ble_eq_true rfl) rfl (by omega) (by omega) yg2 ?_
                        refine x_invokestatic (rc' := rc) (rs' := rs) (rc2 := 0) (rs2 := 0) (As := [_]) (st := _) M_X11_sealed_ K_X11_231 (dT U_X11_parts 72 rfl) rfl rfl rfl rfl (Nat.le_of_ble_eq_true rfl) rfl (by decide) (Nat.le_of_ble_eq_true rfl) rfl rfl ?_
                        refine S_sealedP (x := (wq j value a b c 2).1) (y := (wq j value a b c 2).2) ba2.1 ba2.2 ?_
                        change xRet _ _ _ _ _ _ _ _ _ _ (.inl (some (vi (ws j value a b c 2)))) _ _
                        refine xRet_some ?_
                        refine x_aload_n (dT U_X11_parts 73 rfl) rfl ?_
                        refine x_getfield F_X11_112 (dT U_X11_parts 74 rfl) (hset_ne (by omega) (hset_ne (by omega) (w2.c70))) (Nat.le_of_ble_eq_true rfl) rfl ?_
                        refine x_iload (dT U_X11_parts 75 rfl) rfl ?_
                        refine x_ialoadv (2) (dT U_X11_parts 76 rfl) (hset_eq hz9) (Nat.le_of_ble_eq_true rfl) rfl (by omega) (by omega) zg2 ?_
                        refine x_invokestatic (rc' := rc) (rs' := rs) (rc2 := 0) (rs2 := 0) (As := [_]) (st := _) M_X11_sealed_ K_X11_231 (dT U_X11_parts 77 rfl) rfl rfl rfl rfl (Nat.le_of_ble_eq_true rfl) rfl (by decide) (Nat.le_of_ble_eq_true rfl) rfl rfl ?_
                        refine S_sealedP (x := (wq j value2 a2 b2 c2 2).1) (y := (wq j value2 a2 b2 c2 2).2) bb2.1 bb2.2 ?_
                        change xRet _ _ _ _ _ _ _ _ _ _ (.inl (some (vi (ws j value2 a2 b2 c2 2)))) _ _
                        have sA2 : 0 ≤ (ws j value a b c 2) ∧ (ws j value a b c 2) < 251 := sl_b _ _
                        have sB2 : 0 ≤ (ws j value2 a2 b2 c2 2) ∧ (ws j value2 a2 b2 c2 2) < 251 := sl_b _ _
                        refine xRet_some ?_
                        refine x_icmp_ne (tgt := 152) (dT U_X11_parts 78 rfl) (by decide) (by unfold xr; omega) (by unfold xr; omega) (fun c146 => ?_) (fun c146 => ?_)
                        · skip
                          have n2 : ¬ (fun j9 => ws j value a b c j9 = ws j value2 a2 b2 c2 j9 ∧ ¬ ((wq j value a b c j9).1 = (wq j value2 a2 b2 c2 j9).1 ∧ (wq j value a b c j9).2 = (wq j value2 a2 b2 c2 j9).2)) 2 := fun z => by have := z.1; omega
                          refine x_iinc (ls' := [some (.ref _), some (vi _), some (vi _), some (vi _), some (vi _), some (vi _), some (vi _), some (vi _), some (vi _), some (vi _), some (vi _)]) (dT U_X11_parts 81 rfl) (by decide) rfl rfl ?_
                          refine x_goto (tgt := 88) (dT U_X11_parts 82 rfl) (by decide) ?_
                          refine x_iload (dT U_X11_parts 47 rfl) rfl ?_
                          refine x_iconst (dT U_X11_parts 48 rfl) ?_
                          refine x_icmp_ge (tgt := 158) (dT U_X11_parts 49 rfl) (by decide) (by unfold xr; omega) (by unfold xr; omega) (fun c91 => (by exfalso; omega)) (fun c91 => ?_)
                          refine x_aload_n (dT U_X11_parts 50 rfl) rfl ?_
                          refine x_getfield F_X11_109 (dT U_X11_parts 51 rfl) (hset_ne (by omega) (hset_ne (by omega) (w2.c70))) (Nat.le_of_ble_eq_true rfl) rfl ?_
                          refine x_iconst (dT U_X11_parts 52 rfl) ?_
                          refine x_ialoadv (4) (dT U_X11_parts 53 rfl) (hset_ne (by omega) (hset_eq hy)) (Nat.le_of_ble_eq_true rfl) rfl (by omega) (by omega) yg4 ?_
                          refine x_aload_n (dT U_X11_parts 54 rfl) rfl ?_
                          refine x_getfield F_X11_112 (dT U_X11_parts 55 rfl) (hset_ne (by omega) (hset_ne (by omega) (w2.c70))) (Nat.le_of_ble_eq_true rfl) rfl ?_
                          refine x_iconst (dT U_X11_parts 56 rfl) ?_
                          refine x_ialoadv (4) (dT U_X11_parts 57 rfl) (hset_eq hz9) (Nat.le_of_ble_eq_true rfl) rfl (by omega) (by omega) zg4 ?_
                          have sA : 0 ≤ (ws j value a b c 3) ∧ (ws j value a b c 3) < 251 := sl_b _ _
                          have sB : 0 ≤ (ws j value2 a2 b2 c2 3) ∧ (ws j value2 a2 b2 c2 3) < 251 := sl_b _ _
                          refine x_icmp_ne (tgt := 158) (dT U_X11_parts 58 rfl) (by decide) (by unfold xr; omega) (by unfold xr; omega) (fun c106 => ?_) (fun c106 => ?_)
                          · skip
                            refine x_iconst (dT U_X11_parts 83 rfl) ?_
                            refine x_ireturn (dT U_X11_parts 84 rfl) rfl ?_
                            first
                              | (rw [if_pos (show ws j value a b c 3 = ws j value2 a2 b2 c2 3 by omega), ff_y (P := (fun j9 => ws j value a b c j9 = ws j value2 a2 b2 c2 j9 ∧ ¬ ((wq j value a b c j9).1 = (wq j value2 a2 b2 c2 j9).1 ∧ (wq j value a b c j9).2 = (wq j value2 a2 b2 c2 j9).2))) yes0] at k; exact k (by omega) (by omega) _ _ _ (((Ag.tr (Ag.tr (Ag.rf 70 142 h) (g1.w (by omega))) (g2.w (by omega))).set (by omega)).set (by omega)) ((w2.t140 (h2 := List.set _ 140 (cA 0 y2)) (fun a ha => by rw [hset_fr (by omega)]) (hset_eq hy) my).t141 (fun a ha => by rw [hset_fr (by omega)]) (hset_eq hz9) mz9))
                              | (rw [if_pos (show ws j value a b c 3 = ws j value2 a2 b2 c2 3 by omega), ff_n n0, ff_y (P := (fun j9 => ws j value a b c j9 = ws j value2 a2 b2 c2 j9 ∧ ¬ ((wq j value a b c j9).1 = (wq j value2 a2 b2 c2 j9).1 ∧ (wq j value a b c j9).2 = (wq j value2 a2 b2 c2 j9).2))) yes1] at k; exact k (by omega) (by omega) _ _ _ (((Ag.tr (Ag.tr (Ag.rf 70 142 h) (g1.w (by omega))) (g2.w (by omega))).set (by omega)).set (by omega)) ((w2.t140 (h2 := List.set _ 140 (cA 0 y2)) (fun a ha => by rw [hset_fr (by omega)]) (hset_eq hy) my).t141 (fun a ha => by rw [hset_fr (by omega)]) (hset_eq hz9) mz9))
                              | (rw [if_pos (show ws j value a b c 3 = ws j value2 a2 b2 c2 3 by omega), ff_n n0, ff_n n1, ff_y (P := (fun j9 => ws j value a b c j9 = ws j value2 a2 b2 c2 j9 ∧ ¬ ((wq j value a b c j9).1 = (wq j value2 a2 b2 c2 j9).1 ∧ (wq j value a b c j9).2 = (wq j value2 a2 b2 c2 j9).2))) yes2] at k; exact k (by omega) (by omega) _ _ _ (((Ag.tr (Ag.tr (Ag.rf 70 142 h) (g1.w (by omega))) (g2.w (by omega))).set (by omega)).set (by omega)) ((w2.t140 (h2 := List.set _ 140 (cA 0 y2)) (fun a ha => by rw [hset_fr (by omega)]) (hset_eq hy) my).t141 (fun a ha => by rw [hset_fr (by omega)]) (hset_eq hz9) mz9))
                              | (rw [if_pos (show ws j value a b c 3 = ws j value2 a2 b2 c2 3 by omega), ff_n n0, ff_n n1, ff_n n2, ff_y (P := (fun j9 => ws j value a b c j9 = ws j value2 a2 b2 c2 j9 ∧ ¬ ((wq j value a b c j9).1 = (wq j value2 a2 b2 c2 j9).1 ∧ (wq j value a b c j9).2 = (wq j value2 a2 b2 c2 j9).2))) yes3] at k; exact k (by omega) (by omega) _ _ _ (((Ag.tr (Ag.tr (Ag.rf 70 142 h) (g1.w (by omega))) (g2.w (by omega))).set (by omega)).set (by omega)) ((w2.t140 (h2 := List.set _ 140 (cA 0 y2)) (fun a ha => by rw [hset_fr (by omega)]) (hset_eq hy) my).t141 (fun a ha => by rw [hset_fr (by omega)]) (hset_eq hz9) mz9))
                              | (rw [if_pos (show ws j value a b c 3 = ws j value2 a2 b2 c2 3 by omega), ff_n n0, ff_n n1, ff_n n2, ff_n n3] at k; exact k (by omega) (by omega) _ _ _ (((Ag.tr (Ag.tr (Ag.rf 70 142 h) (g1.w (by omega))) (g2.w (by omega))).set (by omega)).set (by omega)) ((w2.t140 (h2 := List.set _ 140 (cA 0 y2)) (fun a ha => by rw [hset_fr (by omega)]) (hset_eq hy) my).t141 (fun a ha => by rw [hset_fr (by omega)]) (hset_eq hz9) mz9))
                              | (rw [if_neg (show ¬ ws j value a b c 3 = ws j value2 a2 b2 c2 3 by omega)] at k; exact k (by omega) (by omega) _ _ _ (((Ag.tr (Ag.tr (Ag.rf 70 142 h) (g1.w (by omega))) (g2.w (by omega))).set (by omega)).set (by omega)) ((w2.t140 (h2 := List.set _ 140 (cA 0 y2)) (fun a ha => by rw [hset_fr (by omega)]) (hset_eq hy) my).t141 (fun a ha => by rw [hset_fr (by omega)]) (hset_eq hz9) mz9))
                          · skip
                            refine x_aload_n (dT U_X11_parts 59 rfl) rfl ?_
                            refine x_getfield F_X11_109 (dT U_X11_parts 60 rfl) (hset_ne (by omega) (hset_ne (by omega) (w2.c70))) (Nat.le_of_ble_eq_true rfl) rfl ?_
                            refine x_iload (dT U_X11_parts 61 rfl) rfl ?_
                            refine x_ialoadv (3) (dT U_X11_parts 62 rfl) (hset_ne (by omega) (hset_eq hy)) (Nat.le_of_ble_eq_true rfl) rfl (by omega) (by omega) yg3 ?_
                            refine x_aload_n (dT U_X11_parts 63 rfl) rfl ?_
                            refine x_getfield F_X11_112 (dT U_X11_parts 64 rfl) (hset_ne (by omega) (hset_ne (by omega) (w2.c70))) (Nat.le_of_ble_eq_true rfl) rfl ?_
                            refine x_iload (dT U_X11_parts 65 rfl) rfl ?_
                            refine x_ialoadv (3) (dT U_X11_parts 66 rfl) (hset_eq hz9) (Nat.le_of_ble_eq_true rfl) rfl (by omega) (by omega) zg3 ?_
                            have ba3 := wq_b (i := j) (v := value) (a := a) (b := b) (c := c) hj (by omega) (by omega) (by omega) (by omega) 3
                            have bb3 := wq_b (i := j) (v := value2) (a := a2) (b := b2) (c := c2) hj (by omega) (by omega) (by omega) (by omega) 3
                            have ua3 : WN j value a b c 3 = 251 * (wq j value a b c 3).1 + (wq j value a b c 3).2 := rfl
                            have ub3 : WN j value2 a2 b2 c2 3 = 251 * (wq j value2 a2 b2 c2 3).1 + (wq j value2 a2 b2 c2 3).2 := rfl
                            refine x_icmp_eq (tgt := 152) (dT U_X11_parts 67 rfl) (by decide) (by unfold xr; omega) (by unfold xr; omega) (fun c123 => ?_) (fun c123 => ?_)
                            · skip
                              have n3 : ¬ (fun j9 => ws j value a b c j9 = ws j value2 a2 b2 c2 j9 ∧ ¬ ((wq j value a b c j9).1 = (wq j value2 a2 b2 c2 j9).1 ∧ (wq j value a b c j9).2 = (wq j value2 a2 b2 c2 j9).2)) 3 := fun z => z.2 (by omega)
                              refine x_iinc (ls' := [some (.ref _), some (vi _), some (vi _), some (vi _), some (vi _), some (vi _), some (vi _), some (vi _), some (vi _), some (vi _), some (vi _)]) (dT U_X11_parts 81 rfl) (by decide) rfl rfl ?_
                              refine x_goto (tgt := 88) (dT U_X11_parts 82 rfl) (by decide) ?_
                              refine x_iload (dT U_X11_parts 47 rfl) rfl ?_
                              refine x_iconst (dT U_X11_parts 48 rfl) ?_
                              refine x_icmp_ge (tgt := 158) (dT U_X11_parts 49 rfl) (by decide) (by unfold xr; omega) (by unfold xr; omega) (fun c91 => ?_) (fun c91 => (by exfalso; omega))
                              refine x_iconst (dT U_X11_parts 83 rfl) ?_
                              refine x_ireturn (dT U_X11_parts 84 rfl) rfl ?_
                              first
                                | (rw [if_pos (show ws j value a b c 3 = ws j value2 a2 b2 c2 3 by omega), ff_y (P := (fun j9 => ws j value a b c j9 = ws j value2 a2 b2 c2 j9 ∧ ¬ ((wq j value a b c j9).1 = (wq j value2 a2 b2 c2 j9).1 ∧ (wq j value a b c j9).2 = (wq j value2 a2 b2 c2 j9).2))) yes0] at k; exact k (by omega) (by omega) _ _ _ (((Ag.tr (Ag.tr (Ag.rf 70 142 h) (g1.w (by omega))) (g2.w (by omega))).set (by omega)).set (by omega)) ((w2.t140 (h2 := List.set _ 140 (cA 0 y2)) (fun a ha => by rw [hset_fr (by omega)]) (hset_eq hy) my).t141 (fun a ha => by rw [hset_fr (by omega)]) (hset_eq hz9) mz9))
                                | (rw [if_pos (show ws j value a b c 3 = ws j value2 a2 b2 c2 3 by omega), ff_n n0, ff_y (P := (fun j9 => ws j value a b c j9 = ws j value2 a2 b2 c2 j9 ∧ ¬ ((wq j value a b c j9).1 = (wq j value2 a2 b2 c2 j9).1 ∧ (wq j value a b c j9).2 = (wq j value2 a2 b2 c2 j9).2))) yes1] at k; exact k (by omega) (by omega) _ _ _ (((Ag.tr (Ag.tr (Ag.rf 70 142 h) (g1.w (by omega))) (g2.w (by omega))).set (by omega)).set (by omega)) ((w2.t140 (h2 := List.set _ 140 (cA 0 y2)) (fun a ha => by rw [hset_fr (by omega)]) (hset_eq hy) my).t141 (fun a ha => by rw [hset_fr (by omega)]) (hset_eq hz9) mz9))
                                | (rw [if_pos (show ws j value a b c 3 = ws j value2 a2 b2 c2 3 by omega), ff_n n0, ff_n n1, ff_y (P := (fun j9 => ws j value a b c j9 = ws j value2 a2 b2 c2 j9 ∧ ¬ ((wq j value a b c j9).1 = (wq j value2 a2 b2 c2 j9).1 ∧ (wq j value a b c j9).2 = (wq j value2 a2 b2 c2 j9).2))) yes2] at k; exact k (by omega) (by omega) _ _ _ (((Ag.tr (Ag.tr (Ag.rf 70 142 h) (g1.w (by omega))) (g2.w (by omega))).set (by omega)).set (by omega)) ((w2.t140 (h2 := List.set _ 140 (cA 0 y2)) (fun a ha => by rw [hset_fr (by omega)]) (hset_eq hy) my).t141 (fun a ha => by rw [hset_fr (by omega)]) (hset_eq hz9) mz9))
                                | (rw [if_pos (show ws j value a b c 3 = ws j value2 a2 b2 c2 3 by omega), ff_n n0, ff_n n1, ff_n n2, ff_y (P := (fun j9 => ws j value a b c j9 = ws j value2 a2 b2 c2 j9 ∧ ¬ ((wq j value a b c j9).1 = (wq j value2 a2 b2 c2 j9).1 ∧ (wq j value a b c j9).2 = (wq j value2 a2 b2 c2 j9).2))) yes3] at k; exact k (by omega) (by omega) _ _ _ (((Ag.tr (Ag.tr (Ag.rf 70 142 h) (g1.w (by omega))) (g2.w (by omega))).set (by omega)).set (by omega)) ((w2.t140 (h2 := List.set _ 140 (cA 0 y2)) (fun a ha => by rw [hset_fr (by omega)]) (hset_eq hy) my).t141 (fun a ha => by rw [hset_fr (by omega)]) (hset_eq hz9) mz9))
                                | (rw [if_pos (show ws j value a b c 3 = ws j value2 a2 b2 c2 3 by omega), ff_n n0, ff_n n1, ff_n n2, ff_n n3] at k; exact k (by omega) (by omega) _ _ _ (((Ag.tr (Ag.tr (Ag.rf 70 142 h) (g1.w (by omega))) (g2.w (by omega))).set (by omega)).set (by omega)) ((w2.t140 (h2 := List.set _ 140 (cA 0 y2)) (fun a ha => by rw [hset_fr (by omega)]) (hset_eq hy) my).t141 (fun a ha => by rw [hset_fr (by omega)]) (hset_eq hz9) mz9))
                                | (rw [if_neg (show ¬ ws j value a b c 3 = ws j value2 a2 b2 c2 3 by omega)] at k; exact k (by omega) (by omega) _ _ _ (((Ag.tr (Ag.tr (Ag.rf 70 142 h) (g1.w (by omega))) (g2.w (by omega))).set (by omega)).set (by omega)) ((w2.t140 (h2 := List.set _ 140 (cA 0 y2)) (fun a ha => by rw [hset_fr (by omega)]) (hset_eq hy) my).t141 (fun a ha => by rw [hset_fr (by omega)]) (hset_eq hz9) mz9))
                            · skip
                              refine x_aload_n (dT U_X11_parts 68 rfl) rfl ?_
                              refine x_getfield F_X11_109 (dT U_X11_parts 69 rfl) (hset_ne (by omega) (hset_ne (by omega) (w2.c70))) (Nat.le_of_ble_eq_true rfl) rfl ?_
                              refine x_iload (dT U_X11_parts 70 rfl) rfl ?_
                              refine x_ialoadv (3) (dT U_X11_parts 71 rfl) (hset_ne (by omega) (hset_eq hy)) (Nat.le_of_ble_eq_true rfl) rfl (by omega) (by omega) yg3 ?_
                              refine x_invokestatic (rc' := rc) (rs' := rs) (rc2 := 0) (rs2 := 0) (As := [_]) (st := _) M_X11_sealed_ K_X11_231 (dT U_X11_parts 72 rfl) rfl rfl rfl rfl (Nat.le_of_ble_eq_true rfl) rfl (by decide) (Nat.le_of_ble_eq_true rfl) rfl rfl ?_
                              refine S_sealedP (x := (wq j value a b c 3).1) (y := (wq j value a b c 3).2) ba3.1 ba3.2 ?_
                              change xRet _ _ _ _ _ _ _ _ _ _ (.inl (some (vi (ws j value a b c 3)))) _ _
                              refine xRet_some ?_
                              refine x_aload_n (dT U_X11_parts 73 rfl) rfl ?_
                              refine x_getfield F_X11_112 (dT U_X11_parts 74 rfl) (hset_ne (by omega) (hset_ne (by omega) (w2.c70))) (Nat.le_of_ble_eq_true rfl) rfl ?_
                              refine x_iload (dT U_X11_parts 75 rfl) rfl ?_
                              refine x_ialoadv (3) (dT U_X11_parts 76 rfl) (hset_eq hz9) (Nat.le_of_ble_eq_true rfl) rfl (by omega) (by omega) zg3 ?_
                              refine x_invokestatic (rc' := rc) (rs' := rs) (rc2 := 0) (rs2 := 0) (As := [_]) (st := _) M_X11_sealed_ K_X11_231 (dT U_X11_parts 77 rfl) rfl rfl rfl rfl (Nat.le_of_ble_eq_true rfl) rfl (by decide) (Nat.le_of_ble_eq_true rfl) rfl rfl ?_
                              refine S_sealedP (x := (wq j value2 a2 b2 c2 3).1) (y := (wq j value2 a2 b2 c2 3).2) bb3.1 bb3.2 ?_
                              change xRet _ _ _ _ _ _ _ _ _ _ (.inl (some (vi (ws j value2 a2 b2 c2 3)))) _ _
                              have sA3 : 0 ≤ (ws j value a b c 3) ∧ (ws j value a b c 3) < 251 := sl_b _ _
                              have sB3 : 0 ≤ (ws j value2 a2 b2 c2 3) ∧ (ws j value2 a2 b2 c2 3) < 251 := sl_b _ _
                              refine xRet_some ?_
                              refine x_icmp_ne (tgt := 152) (dT U_X11_parts 78 rfl) (by decide) (by unfold xr; omega) (by unfold xr; omega) (fun c146 => ?_) (fun c146 => ?_)
                              · skip
                                have n3 : ¬ (fun j9 => ws j value a b c j9 = ws j value2 a2 b2 c2 j9 ∧ ¬ ((wq j value a b c j9).1 = (wq j value2 a2 b2 c2 j9).1 ∧ (wq j value a b c j9).2 = (wq j value2 a2 b2 c2 j9).2)) 3 := fun z => by have := z.1; omega
                                refine x_iinc (ls' := [some (.ref _), some (vi _), some (vi _), some (vi _), some (vi _), some (vi _), some (vi _), some (vi _), some (vi _), some (vi _), some (vi _)]) (dT U_X11_parts 81 rfl) (by decide) rfl rfl ?_
                                refine x_goto (tgt := 88) (dT U_X11_parts 82 rfl) (by decide) ?_
                                refine x_iload (dT U_X11_parts 47 rfl) rfl ?_
                                refine x_iconst (dT U_X11_parts 48 rfl) ?_
                                refine x_icmp_ge (tgt := 158) (dT U_X11_parts 49 rfl) (by decide) (by unfold xr; omega) (by unfold xr; omega) (fun c91 => ?_) (fun c91 => (by exfalso; omega))
                                refine x_iconst (dT U_X11_parts 83 rfl) ?_
                                refine x_ireturn (dT U_X11_parts 84 rfl) rfl ?_
                                first
                                  | (rw [if_pos (show ws j value a b c 3 = ws j value2 a2 b2 c2 3 by omega), ff_y (P := (fun j9 => ws j value a b c j9 = ws j value2 a2 b2 c2 j9 ∧ ¬ ((wq j value a b c j9).1 = (wq j value2 a2 b2 c2 j9).1 ∧ (wq j value a b c j9).2 = (wq j value2 a2 b2 c2 j9).2))) yes0] at k; exact k (by omega) (by omega) _ _ _ (((Ag.tr (Ag.tr (Ag.rf 70 142 h) (g1.w (by omega))) (g2.w (by omega))).set (by omega)).set (by omega)) ((w2.t140 (h2 := List.set _ 140 (cA 0 y2)) (fun a ha => by rw [hset_fr (by omega)]) (hset_eq hy) my).t141 (fun a ha => by rw [hset_fr (by omega)]) (hset_eq hz9) mz9))
                                  | (rw [if_pos (show ws j value a b c 3 = ws j value2 a2 b2 c2 3 by omega), ff_n n0, ff_y (P := (fun j9 => ws j value a b c j9 = ws j value2 a2 b2 c2 j9 ∧ ¬ ((wq j value a b c j9).1 = (wq j value2 a2 b2 c2 j9).1 ∧ (wq j value a b c j9).2 = (wq j value2 a2 b2 c2 j9).2))) yes1] at k; exact k (by omega) (by omega) _ _ _ (((Ag.tr (Ag.tr (Ag.rf 70 142 h) (g1.w (by omega))) (g2.w (by omega))).set (by omega)).set (by omega)) ((w2.t140 (h2 := List.set _ 140 (cA 0 y2)) (fun a ha => by rw [hset_fr (by omega)]) (hset_eq hy) my).t141 (fun a ha => by rw [hset_fr (by omega)]) (hset_eq hz9) mz9))
                                  | (rw [if_pos (show ws j value a b c 3 = ws j value2 a2 b2 c2 3 by omega), ff_n n0, ff_n n1, ff_y (P := (fun j9 => ws j value a b c j9 = ws j value2 a2 b2 c2 j9 ∧ ¬ ((wq j value a b c j9).1 = (wq j value2 a2 b2 c2 j9).1 ∧ (wq j value a b c j9).2 = (wq j value2 a2 b2 c2 j9).2))) yes2] at k; exact k (by omega) (by omega) _ _ _ (((Ag.tr (Ag.tr (Ag.rf 70 142 h) (g1.w (by omega))) (g2.w (by omega))).set (by omega)).set (by omega)) ((w2.t140 (h2 := List.set _ 140 (cA 0 y2)) (fun a ha => by rw [hset_fr (by omega)]) (hset_eq hy) my).t141 (fun a ha => by rw [hset_fr (by omega)]) (hset_eq hz9) mz9))
                                  | (rw [if_pos (show ws j value a b c 3 = ws j value2 a2 b2 c2 3 by omega), ff_n n0, ff_n n1, ff_n n2, ff_y (P := (fun j9 => ws j value a b c j9 = ws j value2 a2 b2 c2 j9 ∧ ¬ ((wq j value a b c j9).1 = (wq j value2 a2 b2 c2 j9).1 ∧ (wq j value a b c j9).2 = (wq j value2 a2 b2 c2 j9).2))) yes3] at k; exact k (by omega) (by omega) _ _ _ (((Ag.tr (Ag.tr (Ag.rf 70 142 h) (g1.w (by omega))) (g2.w (by omega))).set (by omega)).set (by omega)) ((w2.t140 (h2 := List.set _ 140 (cA 0 y2)) (fun a ha => by rw [hset_fr (by omega)]) (hset_eq hy) my).t141 (fun a ha => by rw [hset_fr (by omega)]) (hset_eq hz9) mz9))
                                  | (rw [if_pos (show ws j value a b c 3 = ws j value2 a2 b2 c2 3 by omega), ff_n n0, ff_n n1, ff_n n2, ff_n n3] at k; exact k (by omega) (by omega) _ _ _ (((Ag.tr (Ag.tr (Ag.rf 70 142 h) (g1.w (by omega))) (g2.w (by omega))).set (by omega)).set (by omega)) ((w2.t140 (h2 := List.set _ 140 (cA 0 y2)) (fun a ha => by rw [hset_fr (by omega)]) (hset_eq hy) my).t141 (fun a ha => by rw [hset_fr (by omega)]) (hset_eq hz9) mz9))
                                  | (rw [if_neg (show ¬ ws j value a b c 3 = ws j value2 a2 b2 c2 3 by omega)] at k; exact k (by omega) (by omega) _ _ _ (((Ag.tr (Ag.tr (Ag.rf 70 142 h) (g1.w (by omega))) (g2.w (by omega))).set (by omega)).set (by omega)) ((w2.t140 (h2 := List.set _ 140 (cA 0 y2)) (fun a ha => by rw [hset_fr (by omega)]) (hset_eq hy) my).t141 (fun a ha => by rw [hset_fr (by omega)]) (hset_eq hz9) mz9))
                              · skip
                                have yes3 : (fun j9 => ws j value a b c j9 = ws j value2 a2 b2 c2 j9 ∧ ¬ ((wq j value a b c j9).1 = (wq j value2 a2 b2 c2 j9).1 ∧ (wq j value a b c j9).2 = (wq j value2 a2 b2 c2 j9).2)) 3 := ⟨by omega, fun z => by omega⟩
                                refine x_iload (dT U_X11_parts 79 rfl) rfl ?_
                                refine x_ireturn (dT U_X11_parts 80 rfl) rfl ?_
                                first
                                  | (rw [if_pos (show ws j value a b c 3 = ws j value2 a2 b2 c2 3 by omega), ff_y (P := (fun j9 => ws j value a b c j9 = ws j value2 a2 b2 c2 j9 ∧ ¬ ((wq j value a b c j9).1 = (wq j value2 a2 b2 c2 j9).1 ∧ (wq j value a b c j9).2 = (wq j value2 a2 b2 c2 j9).2))) yes0] at k; exact k (by omega) (by omega) _ _ _ (((Ag.tr (Ag.tr (Ag.rf 70 142 h) (g1.w (by omega))) (g2.w (by omega))).set (by omega)).set (by omega)) ((w2.t140 (h2 := List.set _ 140 (cA 0 y2)) (fun a ha => by rw [hset_fr (by omega)]) (hset_eq hy) my).t141 (fun a ha => by rw [hset_fr (by omega)]) (hset_eq hz9) mz9))
                                  | (rw [if_pos (show ws j value a b c 3 = ws j value2 a2 b2 c2 3 by omega), ff_n n0, ff_y (P := (fun j9 => ws j value a b c j9 = ws j value2 a2 b2 c2 j9 ∧ ¬ ((wq j value a b c j9).1 = (wq j value2 a2 b2 c2 j9).1 ∧ (wq j value a b c j9).2 = (wq j value2 a2 b2 c2 j9).2))) yes1] at k; exact k (by omega) (by omega) _ _ _ (((Ag.tr (Ag.tr (Ag.rf 70 142 h) (g1.w (by omega))) (g2.w (by omega))).set (by omega)).set (by omega)) ((w2.t140 (h2 := List.set _ 140 (cA 0 y2)) (fun a ha => by rw [hset_fr (by omega)]) (hset_eq hy) my).t141 (fun a ha => by rw [hset_fr (by omega)]) (hset_eq hz9) mz9))
                                  | (rw [if_pos (show ws j value a b c 3 = ws j value2 a2 b2 c2 3 by omega), ff_n n0, ff_n n1, ff_y (P := (fun j9 => ws j value a b c j9 = ws j value2 a2 b2 c2 j9 ∧ ¬ ((wq j value a b c j9).1 = (wq j value2 a2 b2 c2 j9).1 ∧ (wq j value a b c j9).2 = (wq j value2 a2 b2 c2 j9).2))) yes2] at k; exact k (by omega) (by omega) _ _ _ (((Ag.tr (Ag.tr (Ag.rf 70 142 h) (g1.w (by omega))) (g2.w (by omega))).set (by omega)).set (by omega)) ((w2.t140 (h2 := List.set _ 140 (cA 0 y2)) (fun a ha => by rw [hset_fr (by omega)]) (hset_eq hy) my).t141 (fun a ha => by rw [hset_fr (by omega)]) (hset_eq hz9) mz9))
                                  | (rw [if_pos (show ws j value a b c 3 = ws j value2 a2 b2 c2 3 by omega), ff_n n0, ff_n n1, ff_n n2, ff_y (P := (fun j9 => ws j value a b c j9 = ws j value2 a2 b2 c2 j9 ∧ ¬ ((wq j value a b c j9).1 = (wq j value2 a2 b2 c2 j9).1 ∧ (wq j value a b c j9).2 = (wq j value2 a2 b2 c2 j9).2))) yes3] at k; exact k (by omega) (by omega) _ _ _ (((Ag.tr (Ag.tr (Ag.rf 70 142 h) (g1.w (by omega))) (g2.w (by omega))).set (by omega)).set (by omega)) ((w2.t140 (h2 := List.set _ 140 (cA 0 y2)) (fun a ha => by rw [hset_fr (by omega)]) (hset_eq hy) my).t141 (fun a ha => by rw [hset_fr (by omega)]) (hset_eq hz9) mz9))
                                  | (rw [if_pos (show ws j value a b c 3 = ws j value2 a2 b2 c2 3 by omega), ff_n n0, ff_n n1, ff_n n2, ff_n n3] at k; exact k (by omega) (by omega) _ _ _ (((Ag.tr (Ag.tr (Ag.rf 70 142 h) (g1.w (by omega))) (g2.w (by omega))).set (by omega)).set (by omega)) ((w2.t140 (h2 := List.set _ 140 (cA 0 y2)) (fun a ha => by rw [hset_fr (by omega)]) (hset_eq hy) my).t141 (fun a ha => by rw [hset_fr (by omega)]) (hset_eq hz9) mz9))
                                  | (rw [if_neg (show ¬ ws j value a b c 3 = ws j value2 a2 b2 c2 3 by omega)] at k; exact k (by omega) (by omega) _ _ _ (((Ag.tr (Ag.tr (Ag.rf 70 142 h) (g1.w (by omega))) (g2.w (by omega))).set (by omega)).set (by omega)) ((w2.t140 (h2 := List.set _ 140 (cA 0 y2)) (fun a ha => by rw [hset_fr (by omega)]) (hset_eq hy) my).t141 (fun a ha => by rw [hset_fr (by omega)]) (hset_eq hz9) mz9))
                        · skip
                          have yes2 : (fun j9 => ws j value a b c j9 = ws j value2 a2 b2 c2 j9 ∧ ¬ ((wq j value a b c j9).1 = (wq j value2 a2 b2 c2 j9).1 ∧ (wq j value a b c j9).2 = (wq j value2 a2 b2 c2 j9).2)) 2 := ⟨by omega, fun z => by omega⟩
                          refine x_iload (dT U_X11_parts 79 rfl) rfl ?_
                          refine x_ireturn (dT U_X11_parts 80 rfl) rfl ?_
                          first
                            | (rw [if_pos (show ws j value a b c 3 = ws j value2 a2 b2 c2 3 by omega), ff_y (P := (fun j9 => ws j value a b c j9 = ws j value2 a2 b2 c2 j9 ∧ ¬ ((wq j value a b c j9).1 = (wq j value2 a2 b2 c2 j9).1 ∧ (wq j value a b c j9).2 = (wq j value2 a2 b2 c2 j9).2))) yes0] at k; exact k (by omega) (by omega) _ _ _ (((Ag.tr (Ag.tr (Ag.rf 70 142 h) (g1.w (by omega))) (g2.w (by omega))).set (by omega)).set (by omega)) ((w2.t140 (h2 := List.set _ 140 (cA 0 y2)) (fun a ha => by rw [hset_fr (by omega)]) (hset_eq hy) my).t141 (fun a ha => by rw [hset_fr (by omega)]) (hset_eq hz9) mz9))
                            | (rw [if_pos (show ws j value a b c 3 = ws j value2 a2 b2 c2 3 by omega), ff_n n0, ff_y (P := (fun j9 => ws j value a b c j9 = ws j value2 a2 b2 c2 j9 ∧ ¬ ((wq j value a b c j9).1 = (wq j value2 a2 b2 c2 j9).1 ∧ (wq j value a b c j9).2 = (wq j value2 a2 b2 c2 j9).2))) yes1] at k; exact k (by omega) (by omega) _ _ _ (((Ag.tr (Ag.tr (Ag.rf 70 142 h) (g1.w (by omega))) (g2.w (by omega))).set (by omega)).set (by omega)) ((w2.t140 (h2 := List.set _ 140 (cA 0 y2)) (fun a ha => by rw [hset_fr (by omega)]) (hset_eq hy) my).t141 (fun a ha => by rw [hset_fr (by omega)]) (hset_eq hz9) mz9))
                            | (rw [if_pos (show ws j value a b c 3 = ws j value2 a2 b2 c2 3 by omega), ff_n n0, ff_n n1, ff_y (P := (fun j9 => ws j value a b c j9 = ws j value2 a2 b2 c2 j9 ∧ ¬ ((wq j value a b c j9).1 = (wq j value2 a2 b2 c2 j9).1 ∧ (wq j value a b c j9).2 = (wq j value2 a2 b2 c2 j9).2))) yes2] at k; exact k (by omega) (by omega) _ _ _ (((Ag.tr (Ag.tr (Ag.rf 70 142 h) (g1.w (by omega))) (g2.w (by omega))).set (by omega)).set (by omega)) ((w2.t140 (h2 := List.set _ 140 (cA 0 y2)) (fun a ha => by rw [hset_fr (by omega)]) (hset_eq hy) my).t141 (fun a ha => by rw [hset_fr (by omega)]) (hset_eq hz9) mz9))
                            | (rw [if_pos (show ws j value a b c 3 = ws j value2 a2 b2 c2 3 by omega), ff_n n0, ff_n n1, ff_n n2, ff_y (P := (fun j9 => ws j value a b c j9 = ws j value2 a2 b2 c2 j9 ∧ ¬ ((wq j value a b c j9).1 = (wq j value2 a2 b2 c2 j9).1 ∧ (wq j value a b c j9).2 = (wq j value2 a2 b2 c2 j9).2))) yes3] at k; exact k (by omega) (by omega) _ _ _ (((Ag.tr (Ag.tr (Ag.rf 70 142 h) (g1.w (by omega))) (g2.w (by omega))).set (by omega)).set (by omega)) ((w2.t140 (h2 := List.set _ 140 (cA 0 y2)) (fun a ha => by rw [hset_fr (by omega)]) (hset_eq hy) my).t141 (fun a ha => by rw [hset_fr (by omega)]) (hset_eq hz9) mz9))
                            | (rw [if_pos (show ws j value a b c 3 = ws j value2 a2 b2 c2 3 by omega), ff_n n0, ff_n n1, ff_n n2, ff_n n3] at k; exact k (by omega) (by omega) _ _ _ (((Ag.tr (Ag.tr (Ag.rf 70 142 h) (g1.w (by omega))) (g2.w (by omega))).set (by omega)).set (by omega)) ((w2.t140 (h2 := List.set _ 140 (cA 0 y2)) (fun a ha => by rw [hset_fr (by omega)]) (hset_eq hy) my).t141 (fun a ha => by rw [hset_fr (by omega)]) (hset_eq hz9) mz9))
                            | (rw [if_neg (show ¬ ws j value a b c 3 = ws j value2 a2 b2 c2 3 by omega)] at k; exact k (by omega) (by omega) _ _ _ (((Ag.tr (Ag.tr (Ag.rf 70 142 h) (g1.w (by omega))) (g2.w (by omega))).set (by omega)).set (by omega)) ((w2.t140 (h2 := List.set _ 140 (cA 0 y2)) (fun a ha => by rw [hset_fr (by omega)]) (hset_eq hy) my).t141 (fun a ha => by rw [hset_fr (by omega)]) (hset_eq hz9) mz9))
                  · skip
                    have yes1 : (fun j9 => ws j value a b c j9 = ws j value2 a2 b2 c2 j9 ∧ ¬ ((wq j value a b c j9).1 = (wq j value2 a2 b2 c2 j9).1 ∧ (wq j value a b c j9).2 = (wq j value2 a2 b2 c2 j9).2)) 1 := ⟨by omega, fun z => by omega⟩
                    refine x_iload (dT U_X11_parts 79 rfl) rfl ?_
                    refine x_ireturn (dT U_X11_parts 80 rfl) rfl ?_
                    first
                      | (rw [if_pos (show ws j value a b c 3 = ws j value2 a2 b2 c2 3 by omega), ff_y (P := (fun j9 => ws j value a b c j9 = ws j value2 a2 b2 c2 j9 ∧ ¬ ((wq j value a b c j9).1 = (wq j value2 a2 b2 c2 j9).1 ∧ (wq j value a b c j9).2 = (wq j value2 a2 b2 c2 j9).2))) yes0] at k; exact k (by omega) (by omega) _ _ _ (((Ag.tr (Ag.tr (Ag.rf 70 142 h) (g1.w (by omega))) (g2.w (by omega))).set (by omega)).set (by omega)) ((w2.t140 (h2 := List.set _ 140 (cA 0 y2)) (fun a ha => by rw [hset_fr (by omega)]) (hset_eq hy) my).t141 (fun a ha => by rw [hset_fr (by omega)]) (hset_eq hz9) mz9))
                      | (rw [if_pos (show ws j value a b c 3 = ws j value2 a2 b2 c2 3 by omega), ff_n n0, ff_y (P := (fun j9 => ws j value a b c j9 = ws j value2 a2 b2 c2 j9 ∧ ¬ ((wq j value a b c j9).1 = (wq j value2 a2 b2 c2 j9).1 ∧ (wq j value a b c j9).2 = (wq j value2 a2 b2 c2 j9).2))) yes1] at k; exact k (by omega) (by omega) _ _ _ (((Ag.tr (Ag.tr (Ag.rf 70 142 h) (g1.w (by omega))) (g2.w (by omega))).set (by omega)).set (by omega)) ((w2.t140 (h2 := List.set _ 140 (cA 0 y2)) (fun a ha => by rw [hset_fr (by omega)]) (hset_eq hy) my).t141 (fun a ha => by rw [hset_fr (by omega)]) (hset_eq hz9) mz9))
                      | (rw [if_pos (show ws j value a b c 3 = ws j value2 a2 b2 c2 3 by omega), ff_n n0, ff_n n1, ff_y (P := (fun j9 => ws j value a b c j9 = ws j value2 a2 b2 c2 j9 ∧ ¬ ((wq j value a b c j9).1 = (wq j value2 a2 b2 c2 j9).1 ∧ (wq j value a b c j9).2 = (wq j value2 a2 b2 c2 j9).2))) yes2] at k; exact k (by omega) (by omega) _ _ _ (((Ag.tr (Ag.tr (Ag.rf 70 142 h) (g1.w (by omega))) (g2.w (by omega))).set (by omega)).set (by omega)) ((w2.t140 (h2 := List.set _ 140 (cA 0 y2)) (fun a ha => by rw [hset_fr (by omega)]) (hset_eq hy) my).t141 (fun a ha => by rw [hset_fr (by omega)]) (hset_eq hz9) mz9))
                      | (rw [if_pos (show ws j value a b c 3 = ws j value2 a2 b2 c2 3 by omega), ff_n n0, ff_n n1, ff_n n2, ff_y (P := (fun j9 => ws j value a b c j9 = ws j value2 a2 b2 c2 j9 ∧ ¬ ((wq j value a b c j9).1 = (wq j value2 a2 b2 c2 j9).1 ∧ (wq j value a b c j9).2 = (wq j value2 a2 b2 c2 j9).2))) yes3] at k; exact k (by omega) (by omega) _ _ _ (((Ag.tr (Ag.tr (Ag.rf 70 142 h) (g1.w (by omega))) (g2.w (by omega))).set (by omega)).set (by omega)) ((w2.t140 (h2 := List.set _ 140 (cA 0 y2)) (fun a ha => by rw [hset_fr (by omega)]) (hset_eq hy) my).t141 (fun a ha => by rw [hset_fr (by omega)]) (hset_eq hz9) mz9))
                      | (rw [if_pos (show ws j value a b c 3 = ws j value2 a2 b2 c2 3 by omega), ff_n n0, ff_n n1, ff_n n2, ff_n n3] at k; exact k (by omega) (by omega) _ _ _ (((Ag.tr (Ag.tr (Ag.rf 70 142 h) (g1.w (by omega))) (g2.w (by omega))).set (by omega)).set (by omega)) ((w2.t140 (h2 := List.set _ 140 (cA 0 y2)) (fun a ha => by rw [hset_fr (by omega)]) (hset_eq hy) my).t141 (fun a ha => by rw [hset_fr (by omega)]) (hset_eq hz9) mz9))
                      | (rw [if_neg (show ¬ ws j value a b c 3 = ws j value2 a2 b2 c2 3 by omega)] at k; exact k (by omega) (by omega) _ _ _ (((Ag.tr (Ag.tr (Ag.rf 70 142 h) (g1.w (by omega))) (g2.w (by omega))).set (by omega)).set (by omega)) ((w2.t140 (h2 := List.set _ 140 (cA 0 y2)) (fun a ha => by rw [hset_fr (by omega)]) (hset_eq hy) my).t141 (fun a ha => by rw [hset_fr (by omega)]) (hset_eq hz9) mz9))
            · skip
              have yes0 : (fun j9 => ws j value a b c j9 = ws j value2 a2 b2 c2 j9 ∧ ¬ ((wq j value a b c j9).1 = (wq j value2 a2 b2 c2 j9).1 ∧ (wq j value a b c j9).2 = (wq j value2 a2 b2 c2 j9).2)) 0 := ⟨by omega, fun z => by omega⟩
              refine x_iload (dT U_X11_parts 79 rfl) rfl ?_
              refine x_ireturn (dT U_X11_parts 80 rfl) rfl ?_
              first
                | (rw [if_pos (show ws j value a b c 3 = ws j value2 a2 b2 c2 3 by omega), ff_y (P := (fun j9 => ws j value a b c j9 = ws j value2 a2 b2 c2 j9 ∧ ¬ ((wq j value a b c j9).1 = (wq j value2 a2 b2 c2 j9).1 ∧ (wq j value a b c j9).2 = (wq j value2 a2 b2 c2 j9).2))) yes0] at k; exact k (by omega) (by omega) _ _ _ (((Ag.tr (Ag.tr (Ag.rf 70 142 h) (g1.w (by omega))) (g2.w (by omega))).set (by omega)).set (by omega)) ((w2.t140 (h2 := List.set _ 140 (cA 0 y2)) (fun a ha => by rw [hset_fr (by omega)]) (hset_eq hy) my).t141 (fun a ha => by rw [hset_fr (by omega)]) (hset_eq hz9) mz9))
                | (rw [if_pos (show ws j value a b c 3 = ws j value2 a2 b2 c2 3 by omega), ff_n n0, ff_y (P := (fun j9 => ws j value a b c j9 = ws j value2 a2 b2 c2 j9 ∧ ¬ ((wq j value a b c j9).1 = (wq j value2 a2 b2 c2 j9).1 ∧ (wq j value a b c j9).2 = (wq j value2 a2 b2 c2 j9).2))) yes1] at k; exact k (by omega) (by omega) _ _ _ (((Ag.tr (Ag.tr (Ag.rf 70 142 h) (g1.w (by omega))) (g2.w (by omega))).set (by omega)).set (by omega)) ((w2.t140 (h2 := List.set _ 140 (cA 0 y2)) (fun a ha => by rw [hset_fr (by omega)]) (hset_eq hy) my).t141 (fun a ha => by rw [hset_fr (by omega)]) (hset_eq hz9) mz9))
                | (rw [if_pos (show ws j value a b c 3 = ws j value2 a2 b2 c2 3 by omega), ff_n n0, ff_n n1, ff_y (P := (fun j9 => ws j value a b c j9 = ws j value2 a2 b2 c2 j9 ∧ ¬ ((wq j value a b c j9).1 = (wq j value2 a2 b2 c2 j9).1 ∧ (wq j value a b c j9).2 = (wq j value2 a2 b2 c2 j9).2))) yes2] at k; exact k (by omega) (by omega) _ _ _ (((Ag.tr (Ag.tr (Ag.rf 70 142 h) (g1.w (by omega))) (g2.w (by omega))).set (by omega)).set (by omega)) ((w2.t140 (h2 := List.set _ 140 (cA 0 y2)) (fun a ha => by rw [hset_fr (by omega)]) (hset_eq hy) my).t141 (fun a ha => by rw [hset_fr (by omega)]) (hset_eq hz9) mz9))
                | (rw [if_pos (show ws j value a b c 3 = ws j value2 a2 b2 c2 3 by omega), ff_n n0, ff_n n1, ff_n n2, ff_y (P := (fun j9 => ws j value a b c j9 = ws j value2 a2 b2 c2 j9 ∧ ¬ ((wq j value a b c j9).1 = (wq j value2 a2 b2 c2 j9).1 ∧ (wq j value a b c j9).2 = (wq j value2 a2 b2 c2 j9).2))) yes3] at k; exact k (by omega) (by omega) _ _ _ (((Ag.tr (Ag.tr (Ag.rf 70 142 h) (g1.w (by omega))) (g2.w (by omega))).set (by omega)).set (by omega)) ((w2.t140 (h2 := List.set _ 140 (cA 0 y2)) (fun a ha => by rw [hset_fr (by omega)]) (hset_eq hy) my).t141 (fun a ha => by rw [hset_fr (by omega)]) (hset_eq hz9) mz9))
                | (rw [if_pos (show ws j value a b c 3 = ws j value2 a2 b2 c2 3 by omega), ff_n n0, ff_n n1, ff_n n2, ff_n n3] at k; exact k (by omega) (by omega) _ _ _ (((Ag.tr (Ag.tr (Ag.rf 70 142 h) (g1.w (by omega))) (g2.w (by omega))).set (by omega)).set (by omega)) ((w2.t140 (h2 := List.set _ 140 (cA 0 y2)) (fun a ha => by rw [hset_fr (by omega)]) (hset_eq hy) my).t141 (fun a ha => by rw [hset_fr (by omega)]) (hset_eq hz9) mz9))
                | (rw [if_neg (show ¬ ws j value a b c 3 = ws j value2 a2 b2 c2 3 by omega)] at k; exact k (by omega) (by omega) _ _ _ (((Ag.tr (Ag.tr (Ag.rf 70 142 h) (g1.w (by omega))) (g2.w (by omega))).set (by omega)).set (by omega)) ((w2.t140 (h2 := List.set _ 140 (cA 0 y2)) (fun a ha => by rw [hset_fr (by omega)]) (hset_eq hy) my).t141 (fun a ha => by rw [hset_fr (by omega)]) (hset_eq hz9) mz9))
      · refine xRet_some ?_
        refine x_if_eqj (tgt := 45) (dT U_X11_parts 20 rfl) (by decide) (by decide) ?_
        refine x_iconst (dT U_X11_parts 23 rfl) ?_
        refine x_iconst (dT U_X11_parts 24 rfl) ?_
        refine x_invokevirtual (rc' := rc) (rs' := rs) (rc2 := 0) (rs2 := 0) (As := [_, _]) (st := _) M_X11_lets K_X11_167 (dT U_X11_parts 25 rfl) rfl rfl (by decide) rfl rfl w1.c70 (Nat.le_of_ble_eq_true rfl) (by decide) rfl (Nat.le_of_ble_eq_true rfl) rfl (by decide) (Nat.le_of_ble_eq_true rfl) rfl rfl ?_
        refine S_X11_lets0 w1 (fun h2 g2 w2 => ?_)
        refine xRet_some ?_
        refine x_if_nen (tgt := 55) (dT U_X11_parts 26 rfl) (by decide) (by decide) ?_
        refine x_iconst (dT U_X11_parts 27 rfl) ?_
        refine x_ireturn (dT U_X11_parts 28 rfl) rfl ?_
        exact e2 (by omega) (by omega) _ _ (Ag.tr (Ag.tr (Ag.rf 70 142 h) (g1.w (by omega))) (g2.w (by omega))) w2 (by unfold xr; omega)
    · refine xRet_some ?_
      refine x_if_eqj (tgt := 45) (dT U_X11_parts 13 rfl) (by decide) (by decide) ?_
      refine x_iconst (dT U_X11_parts 23 rfl) ?_
      refine x_iconst (dT U_X11_parts 24 rfl) ?_
      refine x_invokevirtual (rc' := rc) (rs' := rs) (rc2 := 0) (rs2 := 0) (As := [_, _]) (st := _) M_X11_lets K_X11_167 (dT U_X11_parts 25 rfl) rfl rfl (by decide) rfl rfl w1.c70 (Nat.le_of_ble_eq_true rfl) (by decide) rfl (Nat.le_of_ble_eq_true rfl) rfl (by decide) (Nat.le_of_ble_eq_true rfl) rfl rfl ?_
      refine S_X11_lets0 w1 (fun h2 g2 w2 => ?_)
      refine xRet_some ?_
      refine x_if_nen (tgt := 55) (dT U_X11_parts 26 rfl) (by decide) (by decide) ?_
      refine x_iconst (dT U_X11_parts 27 rfl) ?_
      refine x_ireturn (dT U_X11_parts 28 rfl) rfl ?_
      exact e2 (by omega) (by omega) _ _ (Ag.tr (Ag.tr (Ag.rf 70 142 h) (g1.w (by omega))) (g2.w (by omega))) w2 (by unfold xr; omega)
  · refine xRet_some ?_
    refine x_iconst (dT U_X11_parts 3 rfl) ?_
    refine x_invokevirtual (rc' := rc) (rs' := rs) (rc2 := 0) (rs2 := 0) (As := [_, _]) (st := _) M_X11_lets K_X11_167 (dT U_X11_parts 4 rfl) rfl rfl (by decide) rfl rfl w.c70 (Nat.le_of_ble_eq_true rfl) (by decide) rfl (Nat.le_of_ble_eq_true rfl) rfl (by decide) (Nat.le_of_ble_eq_true rfl) rfl rfl ?_
    refine S_X11_lets0 w (fun h1 g1 w1 => ?_)
    refine xRet_some ?_
    refine x_if_eqj (tgt := 53) (dT U_X11_parts 5 rfl) (by decide) (by decide) ?_
    refine x_iconst (dT U_X11_parts 27 rfl) ?_
    refine x_ireturn (dT U_X11_parts 28 rfl) rfl ?_
    exact e1 (by omega) _ _ (Ag.tr (Ag.rf 70 142 h) (g1.w (by omega))) w1 (by unfold xr; omega)
