theorem S_topF {G : xG} {d rc rs a : Nat} {p : Int} {ex : Bool} {h : xH} {Q : xQ} {l : List Int} (hh : h[a]? = some (cA 0 l)) (h3 : 3 ≤ a) (hl : Fl p l) (hp : p < 24) (k : Q (.inl (some (vi (dg (gf l) 8)))) ex h) : X G m_X11_top d rc rs ex 0 (xe m_X11_top.2.2.1 [.ref a]) [] h Q :=
  S_X11_top hh h3 (by rw [hl.1]; omega) (fun t => by have := hl.2 t; unfold xr; omega) (by rw [hl.1]; exact k)

set_option maxRecDepth 20000 in
set_option maxHeartbeats 1000000 in
theorem S_X11_modulus {G : xG} {d rc rs : Nat} {ex : Bool} {h : xH} {Q : xQ} {σ : St} {cc0 : Int} {rr : Nat} {ss : Int} (w : MX σ cc0 rr ss h) (v : INV σ) (k : ∀ h2 r2 s2, Ag 70 142 h h2 → MX σ 0 r2 s2 h2 → Q (.inl (some (vi ((gq σ.p : Int))))) ex h2) : X G m_X11_modulus d rc rs ex 0 (xe m_X11_modulus.2.2.1 [.ref 70]) [] h Q := by
  show X G m_X11_modulus _ _ _ _ 0 [some (.ref 70)] [] h Q
  have hp := PRb v.p
  have hq := gq_b v.p
  refine x_aload_n (dT U_X11_modulus 0 rfl) rfl ?_
  refine x_iconst (dT U_X11_modulus 1 rfl) ?_
  refine x_putfield F_X11_122 (dT U_X11_modulus 2 rfl) w.c70 (Nat.le_of_ble_eq_true rfl) (Nat.le_of_ble_eq_true rfl) rfl rfl ?_
  change X G _ _ _ _ _ _ _ _ (h.set 70 (mC 0 σ.p σ.G.n σ.g.b rr σ.g.c ss σ.g.z σ.g.o σ.L.n)) _
  have w1 := w.code (e := 0) (h2 := h.set 70 (mC 0 σ.p σ.G.n σ.g.b rr σ.g.c ss σ.g.z σ.g.o σ.L.n)) (fun a ha => hset_fr ha) (hset_eq w.c70)
  refine x_aload_n (dT U_X11_modulus 3 rfl) rfl ?_
  refine x_getfield F_X11_133 (dT U_X11_modulus 4 rfl) w1.c70 (Nat.le_of_ble_eq_true rfl) rfl ?_
  refine x_ireturn (dT U_X11_modulus 5 rfl) rfl ?_
  exact k _ _ _ ((Ag.rf 70 142 h).set (by omega)) w1

set_option maxRecDepth 20000 in
set_option maxHeartbeats 1000000 in
theorem S_X11_put {G : xG} {d rc rs : Nat} {ex : Bool} {h : xH} {Q : xQ} {σ : St} {cc0 : Int} {rr : Nat} {ss : Int} {row place value : Int} (w : MX σ cc0 rr ss h) (v : INV σ) (h_row : xr row) (h_place : xr place) (h_value : xr value) (e1 : ¬ (inb row 8 ∧ inb place 8) → ∀ h2 z, Ag 70 142 h h2 → MX σ 1 rr ss h2 → xr z → Q (.inl (some (vi z))) ex h2) (e2 : (inb row 8 ∧ inb place 8) → ¬ (inb value σ.p) → ∀ h2 z, Ag 70 142 h h2 → MX σ 2 rr ss h2 → xr z → Q (.inl (some (vi z))) ex h2) (k : (inb row 8 ∧ inb place 8) → (inb value σ.p) → ∀ h2 r2 s2, Ag 70 142 h h2 → MX (σ.sRow row.toNat ((σ.rw row.toNat).set place.toNat value)) 0 r2 s2 h2 → Q (.inl (some (vi ((σ.rw row.toNat).getD place.toNat 0)))) ex h2) : X G m_X11_put (d + 2) rc rs ex 0 (xe m_X11_put.2.2.1 [.ref 70, vi row, vi place, vi value]) [] h Q := by
  show X G m_X11_put _ _ _ _ 0 [some (.ref 70), some (vi row), some (vi place), some (vi value), none] [] h Q
  have hp := PRb v.p
  have hq := gq_b v.p
  refine x_aload_n (dT U_X11_put 0 rfl) rfl ?_
  refine x_iload_n (dT U_X11_put 1 rfl) rfl ?_
  refine x_invokestatic (rc' := rc) (rs' := rs) (rc2 := 0) (rs2 := 0) (As := [_]) (st := _) M_X11_isRow K_X11_164 (dT U_X11_put 2 rfl) rfl rfl rfl rfl (Nat.le_of_ble_eq_true rfl) rfl (by decide) (Nat.le_of_ble_eq_true rfl) rfl rfl ?_
  refine S_X11_isRow h_row (fun q1 => ?_) (fun q1 => ?_)
  · refine xRet_some ?_
    refine x_if_eqn (tgt := 19) (dT U_X11_put 3 rfl) (by decide) (by decide) ?_
    refine x_iload_n (dT U_X11_put 4 rfl) rfl ?_
    refine x_invokestatic (rc' := rc) (rs' := rs) (rc2 := 0) (rs2 := 0) (As := [_]) (st := _) M_X11_isRow K_X11_164 (dT U_X11_put 5 rfl) rfl rfl rfl rfl (Nat.le_of_ble_eq_true rfl) rfl (by decide) (Nat.le_of_ble_eq_true rfl) rfl rfl ?_
    refine S_X11_isRow h_place (fun q2 => ?_) (fun q2 => ?_)
    · refine xRet_some ?_
      refine x_if_eqn (tgt := 19) (dT U_X11_put 6 rfl) (by decide) (by decide) ?_
      refine x_iconst (dT U_X11_put 7 rfl) ?_
      refine x_goto (tgt := 20) (dT U_X11_put 8 rfl) (by decide) ?_
      refine x_iconst (dT U_X11_put 10 rfl) ?_
      refine x_invokevirtual (rc' := rc) (rs' := rs) (rc2 := 0) (rs2 := 0) (As := [_, _]) (st := _) M_X11_lets K_X11_167 (dT U_X11_put 11 rfl) rfl rfl (by decide) rfl rfl w.c70 (Nat.le_of_ble_eq_true rfl) (by decide) rfl (Nat.le_of_ble_eq_true rfl) rfl (by decide) (Nat.le_of_ble_eq_true rfl) rfl rfl ?_
      refine S_X11_lets1 w (fun h1 g1 w1 => ?_)
      refine xRet_some ?_
      obtain ⟨i, hi, rfl⟩ : ∃ j : Nat, j < 8 ∧ row = (j : Int) := ⟨row.toNat, by omega, by omega⟩
      try simp only [tnc] at e1 e2 k
      obtain ⟨j, hj, rfl⟩ : ∃ j : Nat, j < 8 ∧ place = (j : Int) := ⟨place.toNat, by omega, by omega⟩
      try simp only [tnc] at e1 e2 k
      refine x_if_eqn (tgt := 40) (dT U_X11_put 12 rfl) (by decide) (by decide) ?_
      refine x_aload_n (dT U_X11_put 13 rfl) rfl ?_
      refine x_aload_n (dT U_X11_put 14 rfl) rfl ?_
      refine x_iload_n (dT U_X11_put 15 rfl) rfl ?_
      refine x_invokevirtual (rc' := rc) (rs' := rs) (rc2 := 0) (rs2 := 0) (As := [_]) (st := _) M_X11_isNumber K_X11_174 (dT U_X11_put 16 rfl) rfl rfl (by decide) rfl rfl w1.c70 (Nat.le_of_ble_eq_true rfl) (by decide) rfl (Nat.le_of_ble_eq_true rfl) rfl (by decide) (Nat.le_of_ble_eq_true rfl) rfl rfl ?_
      refine S_X11_isNumber (w1.mp) v.p h_value (fun q3 => ?_) (fun q3 => ?_)
      · refine xRet_some ?_
        refine x_iconst (dT U_X11_put 17 rfl) ?_
        refine x_invokevirtual (rc' := rc) (rs' := rs) (rc2 := 0) (rs2 := 0) (As := [_, _]) (st := _) M_X11_lets K_X11_167 (dT U_X11_put 18 rfl) rfl rfl (by decide) rfl rfl w1.c70 (Nat.le_of_ble_eq_true rfl) (by decide) rfl (Nat.le_of_ble_eq_true rfl) rfl (by decide) (Nat.le_of_ble_eq_true rfl) rfl rfl ?_
        refine S_X11_lets1 w1 (fun h2 g2 w2 => ?_)
        refine xRet_some ?_
        refine x_if_nej (tgt := 42) (dT U_X11_put 19 rfl) (by decide) (by decide) ?_
        refine x_aload_n (dT U_X11_put 22 rfl) rfl ?_
        refine x_getfield F_X11_18 (dT U_X11_put 23 rfl) w2.c70 (Nat.le_of_ble_eq_true rfl) rfl ?_
        refine x_iload_n (dT U_X11_put 24 rfl) rfl ?_
        refine x_aaload (i) (dT U_X11_put 25 rfl) w2.c73 (Nat.le_of_ble_eq_true rfl) (by decide) rfl (mrL_get (by omega)) (Nat.le_of_ble_eq_true rfl) ?_
        refine x_iload_n (dT U_X11_put 26 rfl) rfl ?_
        refine x_iaload (j) (dT U_X11_put 27 rfl) (w2.rows i hi) (by omega) rfl (by rw [(v.rw i hi).1]; omega) (by rw [(v.rw i hi).1]; omega) ?_
        refine x_istore (ls' := [some (.ref _), some (vi _), some (vi _), some (vi _), some (vi _)]) (dT U_X11_put 28 rfl) (by decide) rfl ?_
        refine x_aload_n (dT U_X11_put 29 rfl) rfl ?_
        refine x_getfield F_X11_18 (dT U_X11_put 30 rfl) w2.c70 (Nat.le_of_ble_eq_true rfl) rfl ?_
        refine x_iload_n (dT U_X11_put 31 rfl) rfl ?_
        refine x_aaload (i) (dT U_X11_put 32 rfl) w2.c73 (Nat.le_of_ble_eq_true rfl) (by decide) rfl (mrL_get (by omega)) (Nat.le_of_ble_eq_true rfl) ?_
        refine x_iload_n (dT U_X11_put 33 rfl) rfl ?_
        refine x_iload_n (dT U_X11_put 34 rfl) rfl ?_
        refine x_iastore (j) (dT U_X11_put 35 rfl) (w2.rows i hi) (by omega) rfl (by rw [(v.rw i hi).1]; omega) (by rw [(v.rw i hi).1]; omega) ?_
        refine x_iload (dT U_X11_put 36 rfl) rfl ?_
        refine x_ireturn (dT U_X11_put 37 rfl) rfl ?_
        exact k (by omega) (by omega) _ _ _ ((Ag.tr (Ag.tr (Ag.rf 70 142 h) (g1.w (by omega))) (g2.w (by omega))).set (by omega)) (w2.row (i := i) (fun a ha => by rw [hset_fr (by omega)]) hi (hset_eq (w2.rows i hi)))
      · refine xRet_some ?_
        refine x_iconst (dT U_X11_put 17 rfl) ?_
        refine x_invokevirtual (rc' := rc) (rs' := rs) (rc2 := 0) (rs2 := 0) (As := [_, _]) (st := _) M_X11_lets K_X11_167 (dT U_X11_put 18 rfl) rfl rfl (by decide) rfl rfl w1.c70 (Nat.le_of_ble_eq_true rfl) (by decide) rfl (Nat.le_of_ble_eq_true rfl) rfl (by decide) (Nat.le_of_ble_eq_true rfl) rfl rfl ?_
        refine S_X11_lets0 w1 (fun h2 g2 w2 => ?_)
        refine xRet_some ?_
        refine x_if_nen (tgt := 42) (dT U_X11_put 19 rfl) (by decide) (by decide) ?_
        refine x_iconst (dT U_X11_put 20 rfl) ?_
        refine x_ireturn (dT U_X11_put 21 rfl) rfl ?_
        exact e2 (by omega) (by omega) _ _ (Ag.tr (Ag.tr (Ag.rf 70 142 h) (g1.w (by omega))) (g2.w (by omega))) w2 (by unfold xr; omega)
    · refine xRet_some ?_
      refine x_if_eqj (tgt := 19) (dT U_X11_put 6 rfl) (by decide) (by decide) ?_
      refine x_iconst (dT U_X11_put 9 rfl) ?_
      refine x_iconst (dT U_X11_put 10 rfl) ?_
      refine x_invokevirtual (rc' := rc) (rs' := rs) (rc2 := 0) (rs2 := 0) (As := [_, _]) (st := _) M_X11_lets K_X11_167 (dT U_X11_put 11 rfl) rfl rfl (by decide) rfl rfl w.c70 (Nat.le_of_ble_eq_true rfl) (by decide) rfl (Nat.le_of_ble_eq_true rfl) rfl (by decide) (Nat.le_of_ble_eq_true rfl) rfl rfl ?_
      refine S_X11_lets0 w (fun h1 g1 w1 => ?_)
      refine xRet_some ?_
      refine x_if_eqj (tgt := 40) (dT U_X11_put 12 rfl) (by decide) (by decide) ?_
      refine x_iconst (dT U_X11_put 20 rfl) ?_
      refine x_ireturn (dT U_X11_put 21 rfl) rfl ?_
      exact e1 (by omega) _ _ (Ag.tr (Ag.rf 70 142 h) (g1.w (by omega))) w1 (by unfold xr; omega)
  · refine xRet_some ?_
    refine x_if_eqj (tgt := 19) (dT U_X11_put 3 rfl) (by decide) (by decide) ?_
    refine x_iconst (dT U_X11_put 9 rfl) ?_
    refine x_iconst (dT U_X11_put 10 rfl) ?_
    refine x_invokevirtual (rc' := rc) (rs' := rs) (rc2 := 0) (rs2 := 0) (As := [_, _]) (st := _) M_X11_lets K_X11_167 (dT U_X11_put 11 rfl) rfl rfl (by decide) rfl rfl w.c70 (Nat.le_of_ble_eq_true rfl) (by decide) rfl (Nat.le_of_ble_eq_true rfl) rfl (by decide) (Nat.le_of_ble_eq_true rfl) rfl rfl ?_
    refine S_X11_lets0 w (fun h1 g1 w1 => ?_)
    refine xRet_some ?_
    refine x_if_eqj (tgt := 40) (dT U_X11_put 12 rfl) (by decide) (by decide) ?_
    refine x_iconst (dT U_X11_put 20 rfl) ?_
    refine x_ireturn (dT U_X11_put 21 rfl) rfl ?_
    exact e1 (by omega) _ _ (Ag.tr (Ag.rf 70 142 h) (g1.w (by omega))) w1 (by unfold xr; omega)

set_option maxRecDepth 20000 in
set_option maxHeartbeats 1000000 in
theorem S_X11_get {G : xG} {d rc rs : Nat} {ex : Bool} {h : xH} {Q : xQ} {σ : St} {cc0 : Int} {rr : Nat} {ss : Int} {row place : Int} (w : MX σ cc0 rr ss h) (v : INV σ) (h_row : xr row) (h_place : xr place) (e1 : ¬ (inb row 8 ∧ inb place 8) → ∀ h2 z, Ag 70 142 h h2 → MX σ 1 rr ss h2 → xr z → Q (.inl (some (vi z))) ex h2) (k : (inb row 8 ∧ inb place 8) → ∀ h2 r2 s2, Ag 70 142 h h2 → MX σ 0 r2 s2 h2 → Q (.inl (some (vi ((σ.rw row.toNat).getD place.toNat 0)))) ex h2) : X G m_X11_get (d + 2) rc rs ex 0 (xe m_X11_get.2.2.1 [.ref 70, vi row, vi place]) [] h Q := by
  show X G m_X11_get _ _ _ _ 0 [some (.ref 70), some (vi row), some (vi place)] [] h Q
  have hp := PRb v.p
  have hq := gq_b v.p
  refine x_aload_n (dT U_X11_get 0 rfl) rfl ?_
  refine x_iload_n (dT U_X11_get 1 rfl) rfl ?_
  refine x_invokestatic (rc' := rc) (rs' := rs) (rc2 := 0) (rs2 := 0) (As := [_]) (st := _) M_X11_isRow K_X11_164 (dT U_X11_get 2 rfl) rfl rfl rfl rfl (Nat.le_of_ble_eq_true rfl) rfl (by decide) (Nat.le_of_ble_eq_true rfl) rfl rfl ?_
  refine S_X11_isRow h_row (fun q1 => ?_) (fun q1 => ?_)
  · refine xRet_some ?_
    refine x_if_eqn (tgt := 19) (dT U_X11_get 3 rfl) (by decide) (by decide) ?_
    refine x_iload_n (dT U_X11_get 4 rfl) rfl ?_
    refine x_invokestatic (rc' := rc) (rs' := rs) (rc2 := 0) (rs2 := 0) (As := [_]) (st := _) M_X11_isRow K_X11_164 (dT U_X11_get 5 rfl) rfl rfl rfl rfl (Nat.le_of_ble_eq_true rfl) rfl (by decide) (Nat.le_of_ble_eq_true rfl) rfl rfl ?_
    refine S_X11_isRow h_place (fun q2 => ?_) (fun q2 => ?_)
    · refine xRet_some ?_
      refine x_if_eqn (tgt := 19) (dT U_X11_get 6 rfl) (by decide) (by decide) ?_
      refine x_iconst (dT U_X11_get 7 rfl) ?_
      refine x_goto (tgt := 20) (dT U_X11_get 8 rfl) (by decide) ?_
      refine x_iconst (dT U_X11_get 10 rfl) ?_
      refine x_invokevirtual (rc' := rc) (rs' := rs) (rc2 := 0) (rs2 := 0) (As := [_, _]) (st := _) M_X11_lets K_X11_167 (dT U_X11_get 11 rfl) rfl rfl (by decide) rfl rfl w.c70 (Nat.le_of_ble_eq_true rfl) (by decide) rfl (Nat.le_of_ble_eq_true rfl) rfl (by decide) (Nat.le_of_ble_eq_true rfl) rfl rfl ?_
      refine S_X11_lets1 w (fun h1 g1 w1 => ?_)
      refine xRet_some ?_
      obtain ⟨i, hi, rfl⟩ : ∃ j : Nat, j < 8 ∧ row = (j : Int) := ⟨row.toNat, by omega, by omega⟩
      try simp only [tnc] at e1 k
      obtain ⟨j, hj, rfl⟩ : ∃ j : Nat, j < 8 ∧ place = (j : Int) := ⟨place.toNat, by omega, by omega⟩
      try simp only [tnc] at e1 k
      refine x_if_eqn (tgt := 38) (dT U_X11_get 12 rfl) (by decide) (by decide) ?_
      refine x_aload_n (dT U_X11_get 13 rfl) rfl ?_
      refine x_getfield F_X11_18 (dT U_X11_get 14 rfl) w1.c70 (Nat.le_of_ble_eq_true rfl) rfl ?_
      refine x_iload_n (dT U_X11_get 15 rfl) rfl ?_
      refine x_aaload (i) (dT U_X11_get 16 rfl) w1.c73 (Nat.le_of_ble_eq_true rfl) (by decide) rfl (mrL_get (by omega)) (Nat.le_of_ble_eq_true rfl) ?_
      refine x_iload_n (dT U_X11_get 17 rfl) rfl ?_
      refine x_iaload (j) (dT U_X11_get 18 rfl) (w1.rows i hi) (by omega) rfl (by rw [(v.rw i hi).1]; omega) (by rw [(v.rw i hi).1]; omega) ?_
      refine x_goto (tgt := 39) (dT U_X11_get 19 rfl) (by decide) ?_
      refine x_ireturn (dT U_X11_get 21 rfl) rfl ?_
      exact k (by omega) _ _ _ (Ag.tr (Ag.rf 70 142 h) (g1.w (by omega))) w1
    · refine xRet_some ?_
      refine x_if_eqj (tgt := 19) (dT U_X11_get 6 rfl) (by decide) (by decide) ?_
      refine x_iconst (dT U_X11_get 9 rfl) ?_
      refine x_iconst (dT U_X11_get 10 rfl) ?_
      refine x_invokevirtual (rc' := rc) (rs' := rs) (rc2 := 0) (rs2 := 0) (As := [_, _]) (st := _) M_X11_lets K_X11_167 (dT U_X11_get 11 rfl) rfl rfl (by decide) rfl rfl w.c70 (Nat.le_of_ble_eq_true rfl) (by decide) rfl (Nat.le_of_ble_eq_true rfl) rfl (by decide) (Nat.le_of_ble_eq_true rfl) rfl rfl ?_
      refine S_X11_lets0 w (fun h1 g1 w1 => ?_)
      refine xRet_some ?_
      refine x_if_eqj (tgt := 38) (dT U_X11_get 12 rfl) (by decide) (by decide) ?_
      refine x_iconst (dT U_X11_get 20 rfl) ?_
      refine x_ireturn (dT U_X11_get 21 rfl) rfl ?_
      exact e1 (by omega) _ _ (Ag.tr (Ag.rf 70 142 h) (g1.w (by omega))) w1 (by unfold xr; omega)
  · refine xRet_some ?_
    refine x_if_eqj (tgt := 19) (dT U_X11_get 3 rfl) (by decide) (by decide) ?_
    refine x_iconst (dT U_X11_get 9 rfl) ?_
    refine x_iconst (dT U_X11_get 10 rfl) ?_
    refine x_invokevirtual (rc' := rc) (rs' := rs) (rc2 := 0) (rs2 := 0) (As := [_, _]) (st := _) M_X11_lets K_X11_167 (dT U_X11_get 11 rfl) rfl rfl (by decide) rfl rfl w.c70 (Nat.le_of_ble_eq_true rfl) (by decide) rfl (Nat.le_of_ble_eq_true rfl) rfl (by decide) (Nat.le_of_ble_eq_true rfl) rfl rfl ?_
    refine S_X11_lets0 w (fun h1 g1 w1 => ?_)
    refine xRet_some ?_
    refine x_if_eqj (tgt := 38) (dT U_X11_get 12 rfl) (by decide) (by decide) ?_
    refine x_iconst (dT U_X11_get 20 rfl) ?_
    refine x_ireturn (dT U_X11_get 21 rfl) rfl ?_
    exact e1 (by omega) _ _ (Ag.tr (Ag.rf 70 142 h) (g1.w (by omega))) w1 (by unfold xr; omega)

set_option maxRecDepth 20000 in
set_option maxHeartbeats 1000000 in
theorem S_X11_fill {G : xG} {d rc rs : Nat} {ex : Bool} {h : xH} {Q : xQ} {σ : St} {cc0 : Int} {rr : Nat} {ss : Int} {row b1 b2 b3 b4 b5 b6 b7 b8 : Int} (w : MX σ cc0 rr ss h) (v : INV σ) (h_row : xr row) (h_b1 : xr b1) (h_b2 : xr b2) (h_b3 : xr b3) (h_b4 : xr b4) (h_b5 : xr b5) (h_b6 : xr b6) (h_b7 : xr b7) (h_b8 : xr b8) (e1 : ¬ (inb row 8) → ∀ h2 z, Ag 70 142 h h2 → MX σ 1 rr ss h2 → xr z → Q (.inl (some (vi z))) ex h2) (k : (inb row 8) → ∀ h2 r2 s2, Ag 70 142 h h2 → MX (σ.sRow row.toNat (row8 (σ.p : Int) b1 b2 b3 b4 b5 b6 b7 b8)) 0 r2 s2 h2 → Q (.inl (some (vi (dg (gf (row8 (σ.p : Int) b1 b2 b3 b4 b5 b6 b7 b8)) 8)))) ex h2) : X G m_X11_fill (d + 2) rc rs ex 0 (xe m_X11_fill.2.2.1 [.ref 70, vi row, vi b1, vi b2, vi b3, vi b4, vi b5, vi b6, vi b7, vi b8]) [] h Q := by
  show X G m_X11_fill _ _ _ _ 0 [some (.ref 70), some (vi row), some (vi b1), some (vi b2), some (vi b3), some (vi b4), some (vi b5), some (vi b6), some (vi b7), some (vi b8), none] [] h Q
  have hp := PRb v.p
  have hq := gq_b v.p
  refine x_aload_n (dT U_X11_fill 0 rfl) rfl ?_
  refine x_iload_n (dT U_X11_fill 1 rfl) rfl ?_
  refine x_invokestatic (rc' := rc) (rs' := rs) (rc2 := 0) (rs2 := 0) (As := [_]) (st := _) M_X11_isRow K_X11_164 (dT U_X11_fill 2 rfl) rfl rfl rfl rfl (Nat.le_of_ble_eq_true rfl) rfl (by decide) (Nat.le_of_ble_eq_true rfl) rfl rfl ?_
  refine S_X11_isRow h_row (fun q1 => ?_) (fun q1 => ?_)
  · refine xRet_some ?_
    refine x_iconst (dT U_X11_fill 3 rfl) ?_
    refine x_invokevirtual (rc' := rc) (rs' := rs) (rc2 := 0) (rs2 := 0) (As := [_, _]) (st := _) M_X11_lets K_X11_167 (dT U_X11_fill 4 rfl) rfl rfl (by decide) rfl rfl w.c70 (Nat.le_of_ble_eq_true rfl) (by decide) rfl (Nat.le_of_ble_eq_true rfl) rfl (by decide) (Nat.le_of_ble_eq_true rfl) rfl rfl ?_
    refine S_X11_lets1 w (fun h1 g1 w1 => ?_)
    refine xRet_some ?_
    obtain ⟨i, hi, rfl⟩ : ∃ j : Nat, j < 8 ∧ row = (j : Int) := ⟨row.toNat, by omega, by omega⟩
    try simp only [tnc] at e1 k
    refine x_if_nej (tgt := 14) (dT U_X11_fill 5 rfl) (by decide) (by decide) ?_
    refine x_aload_n (dT U_X11_fill 8 rfl) rfl ?_
    refine x_getfield F_X11_18 (dT U_X11_fill 9 rfl) w1.c70 (Nat.le_of_ble_eq_true rfl) rfl ?_
    refine x_iload_n (dT U_X11_fill 10 rfl) rfl ?_
    refine x_aaload (i) (dT U_X11_fill 11 rfl) w1.c73 (Nat.le_of_ble_eq_true rfl) (by decide) rfl (mrL_get (by omega)) (Nat.le_of_ble_eq_true rfl) ?_
    refine x_astore (ls' := [some (.ref _), some (vi _), some (vi _), some (vi _), some (vi _), some (vi _), some (vi _), some (vi _), some (vi _), some (vi _), some (.ref _)]) (dT U_X11_fill 12 rfl) (by decide) rfl ?_
    refine x_aload (dT U_X11_fill 13 rfl) rfl ?_
    refine x_iconst (dT U_X11_fill 14 rfl) ?_
    refine x_aload_n (dT U_X11_fill 15 rfl) rfl ?_
    refine x_iload_n (dT U_X11_fill 16 rfl) rfl ?_
    refine x_i2l (dT U_X11_fill 17 rfl) h_b1 ?_
    refine x_invokevirtual (rc' := rc) (rs' := rs) (rc2 := 0) (rs2 := 0) (As := [_]) (st := _) M_X11_f K_X11_156 (dT U_X11_fill 18 rfl) rfl rfl (by decide) rfl rfl w1.c70 (Nat.le_of_ble_eq_true rfl) (by decide) rfl (Nat.le_of_ble_eq_true rfl) rfl (by decide) (Nat.le_of_ble_eq_true rfl) rfl rfl ?_
    refine S_X11_f (w1.mp) v.p (by unfold xr at h_b1; unfold xrl; omega) ?_
    refine xRet_some ?_
    refine x_iastore (0) (dT U_X11_fill 19 rfl) (w1.rows i hi) (by omega) rfl (by simp [(v.rw i hi).1]) (by simp [(v.rw i hi).1]) ?_
    refine x_aload (dT U_X11_fill 20 rfl) rfl ?_
    refine x_iconst (dT U_X11_fill 21 rfl) ?_
    refine x_aload_n (dT U_X11_fill 22 rfl) rfl ?_
    refine x_iload_n (dT U_X11_fill 23 rfl) rfl ?_
    refine x_i2l (dT U_X11_fill 24 rfl) h_b2 ?_
    refine x_invokevirtual (rc' := rc) (rs' := rs) (rc2 := 0) (rs2 := 0) (As := [_]) (st := _) M_X11_f K_X11_156 (dT U_X11_fill 25 rfl) rfl rfl (by decide) rfl rfl (hset_ne (by omega) (w1.c70)) (Nat.le_of_ble_eq_true rfl) (by decide) rfl (Nat.le_of_ble_eq_true rfl) rfl (by decide) (Nat.le_of_ble_eq_true rfl) rfl rfl ?_
    refine S_X11_f (MP.set (by omega) (w1.mp)) v.p (by unfold xr at h_b2; unfold xrl; omega) ?_
    refine xRet_some ?_
    refine x_iastore (1) (dT U_X11_fill 26 rfl) (hset_eq (w1.rows i hi)) (by omega) rfl (by simp [(v.rw i hi).1]) (by simp [(v.rw i hi).1]) ?_
    rw [List.set_set]
    refine x_aload (dT U_X11_fill 27 rfl) rfl ?_
    refine x_iconst (dT U_X11_fill 28 rfl) ?_
    refine x_aload_n (dT U_X11_fill 29 rfl) rfl ?_
    refine x_iload (dT U_X11_fill 30 rfl) rfl ?_
    refine x_i2l (dT U_X11_fill 31 rfl) h_b3 ?_
    refine x_invokevirtual (rc' := rc) (rs' := rs) (rc2 := 0) (rs2 := 0) (As := [_]) (st := _) M_X11_f K_X11_156 (dT U_X11_fill 32 rfl) rfl rfl (by decide) rfl rfl (hset_ne (by omega) (w1.c70)) (Nat.le_of_ble_eq_true rfl) (by decide) rfl (Nat.le_of_ble_eq_true rfl) rfl (by decide) (Nat.le_of_ble_eq_true rfl) rfl rfl ?_
    refine S_X11_f (MP.set (by omega) (w1.mp)) v.p (by unfold xr at h_b3; unfold xrl; omega) ?_
    refine xRet_some ?_
    refine x_iastore (2) (dT U_X11_fill 33 rfl) (hset_eq (w1.rows i hi)) (by omega) rfl (by simp [(v.rw i hi).1]) (by simp [(v.rw i hi).1]) ?_
    rw [List.set_set]
    refine x_aload (dT U_X11_fill 34 rfl) rfl ?_
    refine x_iconst (dT U_X11_fill 35 rfl) ?_
    refine x_aload_n (dT U_X11_fill 36 rfl) rfl ?_
    refine x_iload (dT U_X11_fill 37 rfl) rfl ?_
    refine x_i2l (dT U_X11_fill 38 rfl) h_b4 ?_
    refine x_invokevirtual (rc' := rc) (rs' := rs) (rc2 := 0) (rs2 := 0) (As := [_]) (st := _) M_X11_f K_X11_156 (dT U_X11_fill 39 rfl) rfl rfl (by decide) rfl rfl (hset_ne (by omega) (w1.c70)) (Nat.le_of_ble_eq_true rfl) (by decide) rfl (Nat.le_of_ble_eq_true rfl) rfl (by decide) (Nat.le_of_ble_eq_true rfl) rfl rfl ?_
    refine S_X11_f (MP.set (by omega) (w1.mp)) v.p (by unfold xr at h_b4; unfold xrl; omega) ?_
    refine xRet_some ?_
    refine x_iastore (3) (dT U_X11_fill 40 rfl) (hset_eq (w1.rows i hi)) (by omega) rfl (by simp [(v.rw i hi).1]) (by simp [(v.rw i hi).1]) ?_
    rw [List.set_set]
    refine x_aload (dT U_X11_fill 41 rfl) rfl ?_
    refine x_iconst (dT U_X11_fill 42 rfl) ?_
    refine x_aload_n (dT U_X11_fill 43 rfl) rfl ?_
    refine x_iload (dT U_X11_fill 44 rfl) rfl ?_
    refine x_i2l (dT U_X11_fill 45 rfl) h_b5 ?_
    refine x_invokevirtual (rc' := rc) (rs' := rs) (rc2 := 0) (rs2 := 0) (As := [_]) (st := _) M_X11_f K_X11_156 (dT U_X11_fill 46 rfl) rfl rfl (by decide) rfl rfl (hset_ne (by omega) (w1.c70)) (Nat.le_of_ble_eq_true rfl) (by decide) rfl (Nat.le_of_ble_eq_true rfl) rfl (by decide) (Nat.le_of_ble_eq_true rfl) rfl rfl ?_
    refine S_X11_f (MP.set (by omega) (w1.mp)) v.p (by unfold xr at h_b5; unfold xrl; omega) ?_
    refine xRet_some ?_
    refine x_iastore (4) (dT U_X11_fill 47 rfl) (hset_eq (w1.rows i hi)) (by omega) rfl (by simp [(v.rw i hi).1]) (by simp [(v.rw i hi).1]) ?_
    rw [List.set_set]
    refine x_aload (dT U_X11_fill 48 rfl) rfl ?_
    refine x_iconst (dT U_X11_fill 49 rfl) ?_
    refine x_aload_n (dT U_X11_fill 50 rfl) rfl ?_
    refine x_iload (dT U_X11_fill 51 rfl) rfl ?_
    refine x_i2l (dT U_X11_fill 52 rfl) h_b6 ?_
    refine x_invokevirtual (rc' := rc) (rs' := rs) (rc2 := 0) (rs2 := 0) (As := [_]) (st := _) M_X11_f K_X11_156 (dT U_X11_fill 53 rfl) rfl rfl (by decide) rfl rfl (hset_ne (by omega) (w1.c70)) (Nat.le_of_ble_eq_true rfl) (by decide) rfl (Nat.le_of_ble_eq_true rfl) rfl (by decide) (Nat.le_of_ble_eq_true rfl) rfl rfl ?_
    refine S_X11_f (MP.set (by omega) (w1.mp)) v.p (by unfold xr at h_b6; unfold xrl; omega) ?_
    refine xRet_some ?_
    refine x_iastore (5) (dT U_X11_fill 54 rfl) (hset_eq (w1.rows i hi)) (by omega) rfl (by simp [(v.rw i hi).1]) (by simp [(v.rw i hi).1]) ?_
    rw [List.set_set]
    refine x_aload (dT U_X11_fill 55 rfl) rfl ?_
    refine x_bipush (dT U_X11_fill 56 rfl) (by decide) ?_
    refine x_aload_n (dT U_X11_fill 57 rfl) rfl ?_
    refine x_iload (dT U_X11_fill 58 rfl) rfl ?_
    refine x_i2l (dT U_X11_fill 59 rfl) h_b7 ?_
    refine x_invokevirtual (rc' := rc) (rs' := rs) (rc2 := 0) (rs2 := 0) (As := [_]) (st := _) M_X11_f K_X11_156 (dT U_X11_fill 60 rfl) rfl rfl (by decide) rfl rfl (hset_ne (by omega) (w1.c70)) (Nat.le_of_ble_eq_true rfl) (by decide) rfl (Nat.le_of_ble_eq_true rfl) rfl (by decide) (Nat.le_of_ble_eq_true rfl) rfl rfl ?_
    refine S_X11_f (MP.set (by omega) (w1.mp)) v.p (by unfold xr at h_b7; unfold xrl; omega) ?_
    refine xRet_some ?_
    refine x_iastore (6) (dT U_X11_fill 61 rfl) (hset_eq (w1.rows i hi)) (by omega) rfl (by simp [(v.rw i hi).1]) (by simp [(v.rw i hi).1]) ?_
    rw [List.set_set]
    refine x_aload (dT U_X11_fill 62 rfl) rfl ?_
    refine x_bipush (dT U_X11_fill 63 rfl) (by decide) ?_
    refine x_aload_n (dT U_X11_fill 64 rfl) rfl ?_
    refine x_iload (dT U_X11_fill 65 rfl) rfl ?_
    refine x_i2l (dT U_X11_fill 66 rfl) h_b8 ?_
    refine x_invokevirtual (rc' := rc) (rs' := rs) (rc2 := 0) (rs2 := 0) (As := [_]) (st := _) M_X11_f K_X11_156 (dT U_X11_fill 67 rfl) rfl rfl (by decide) rfl rfl (hset_ne (by omega) (w1.c70)) (Nat.le_of_ble_eq_true rfl) (by decide) rfl (Nat.le_of_ble_eq_true rfl) rfl (by decide) (Nat.le_of_ble_eq_true rfl) rfl rfl ?_
    refine S_X11_f (MP.set (by omega) (w1.mp)) v.p (by unfold xr at h_b8; unfold xrl; omega) ?_
    refine xRet_some ?_
    refine x_iastore (7) (dT U_X11_fill 68 rfl) (hset_eq (w1.rows i hi)) (by omega) rfl (by simp [(v.rw i hi).1]) (by simp [(v.rw i hi).1]) ?_
    rw [List.set_set]
    refine x_aload (dT U_X11_fill 69 rfl) rfl ?_
    refine x_invokestatic (rc' := rc) (rs' := rs) (rc2 := 0) (rs2 := 0) (As := [_]) (st := _) M_X11_top K_X11_177 (dT U_X11_fill 70 rfl) rfl rfl rfl rfl (Nat.le_of_ble_eq_true rfl) rfl (by decide) (Nat.le_of_ble_eq_true rfl) rfl rfl ?_
    rw [row8_set (v.rw i hi).1]
    refine S_topF (p := (σ.p : Int)) (l := (row8 (σ.p : Int) b1 b2 b3 b4 b5 b6 b7 b8)) (hset_eq (w1.rows i hi)) (by omega) (row8_F (by omega)) (by omega) ?_
    refine xRet_some ?_
    refine x_ireturn (dT U_X11_fill 71 rfl) rfl ?_
    exact k (by omega) _ _ _ ((Ag.tr (Ag.rf 70 142 h) (g1.w (by omega))).set (by omega)) (w1.row (i := i) (l := (row8 (σ.p : Int) b1 b2 b3 b4 b5 b6 b7 b8)) (fun a ha => by rw [hset_fr (by omega)]) hi (hset_eq (w1.rows i hi)))
  · refine xRet_some ?_
    refine x_iconst (dT U_X11_fill 3 rfl) ?_
    refine x_invokevirtual (rc' := rc) (rs' := rs) (rc2 := 0) (rs2 := 0) (As := [_, _]) (st := _) M_X11_lets K_X11_167 (dT U_X11_fill 4 rfl) rfl rfl (by decide) rfl rfl w.c70 (Nat.le_of_ble_eq_true rfl) (by decide) rfl (Nat.le_of_ble_eq_true rfl) rfl (by decide) (Nat.le_of_ble_eq_true rfl) rfl rfl ?_
    refine S_X11_lets0 w (fun h1 g1 w1 => ?_)
    refine xRet_some ?_
    refine x_if_nen (tgt := 14) (dT U_X11_fill 5 rfl) (by decide) (by decide) ?_
    refine x_iconst (dT U_X11_fill 6 rfl) ?_
    refine x_ireturn (dT U_X11_fill 7 rfl) rfl ?_
    exact e1 (by omega) _ _ (Ag.tr (Ag.rf 70 142 h) (g1.w (by omega))) w1 (by unfold xr; omega)

set_option maxRecDepth 20000 in
set_option maxHeartbeats 1000000 in
theorem S_X11_degree {G : xG} {d rc rs : Nat} {ex : Bool} {h : xH} {Q : xQ} {σ : St} {cc0 : Int} {rr : Nat} {ss : Int} {row : Int} (w : MX σ cc0 rr ss h) (v : INV σ) (h_row : xr row) (e1 : ¬ (inb row 8) → ∀ h2 z, Ag 70 142 h h2 → MX σ 1 rr ss h2 → xr z → Q (.inl (some (vi z))) ex h2) (k : (inb row 8) → ∀ h2 r2 s2, Ag 70 142 h h2 → MX σ 0 r2 s2 h2 → Q (.inl (some (vi (dg (gf (σ.rw row.toNat)) 8)))) ex h2) : X G m_X11_degree (d + 2) rc rs ex 0 (xe m_X11_degree.2.2.1 [.ref 70, vi row]) [] h Q := by
  show X G m_X11_degree _ _ _ _ 0 [some (.ref 70), some (vi row)] [] h Q
  have hp := PRb v.p
  have hq := gq_b v.p
  refine x_aload_n (dT U_X11_degree 0 rfl) rfl ?_
  refine x_iload_n (dT U_X11_degree 1 rfl) rfl ?_
  refine x_invokestatic (rc' := rc) (rs' := rs) (rc2 := 0) (rs2 := 0) (As := [_]) (st := _) M_X11_isRow K_X11_164 (dT U_X11_degree 2 rfl) rfl rfl rfl rfl (Nat.le_of_ble_eq_true rfl) rfl (by decide) (Nat.le_of_ble_eq_true rfl) rfl rfl ?_
  refine S_X11_isRow h_row (fun q1 => ?_) (fun q1 => ?_)
  · refine xRet_some ?_
    refine x_iconst (dT U_X11_degree 3 rfl) ?_
    refine x_invokevirtual (rc' := rc) (rs' := rs) (rc2 := 0) (rs2 := 0) (As := [_, _]) (st := _) M_X11_lets K_X11_167 (dT U_X11_degree 4 rfl) rfl rfl (by decide) rfl rfl w.c70 (Nat.le_of_ble_eq_true rfl) (by decide) rfl (Nat.le_of_ble_eq_true rfl) rfl (by decide) (Nat.le_of_ble_eq_true rfl) rfl rfl ?_
    refine S_X11_lets1 w (fun h1 g1 w1 => ?_)
    refine xRet_some ?_
    obtain ⟨i, hi, rfl⟩ : ∃ j : Nat, j < 8 ∧ row = (j : Int) := ⟨row.toNat, by omega, by omega⟩
    try simp only [tnc] at e1 k
    refine x_if_eqn (tgt := 24) (dT U_X11_degree 5 rfl) (by decide) (by decide) ?_
    refine x_aload_n (dT U_X11_degree 6 rfl) rfl ?_
    refine x_getfield F_X11_18 (dT U_X11_degree 7 rfl) w1.c70 (Nat.le_of_ble_eq_true rfl) rfl ?_
    refine x_iload_n (dT U_X11_degree 8 rfl) rfl ?_
    refine x_aaload (i) (dT U_X11_degree 9 rfl) w1.c73 (Nat.le_of_ble_eq_true rfl) (by decide) rfl (mrL_get (by omega)) (Nat.le_of_ble_eq_true rfl) ?_
    refine x_invokestatic (rc' := rc) (rs' := rs) (rc2 := 0) (rs2 := 0) (As := [_]) (st := _) M_X11_top K_X11_177 (dT U_X11_degree 10 rfl) rfl rfl rfl rfl (Nat.le_of_ble_eq_true rfl) rfl (by decide) (Nat.le_of_ble_eq_true rfl) rfl rfl ?_
    refine S_topF (p := (σ.p : Int)) (w1.rows i hi) (by omega) (v.rw i hi) (by omega) ?_
    refine xRet_some ?_
    refine x_goto (tgt := 25) (dT U_X11_degree 11 rfl) (by decide) ?_
    refine x_ireturn (dT U_X11_degree 13 rfl) rfl ?_
    exact k (by omega) _ _ _ (Ag.tr (Ag.rf 70 142 h) (g1.w (by omega))) w1
  · refine xRet_some ?_
    refine x_iconst (dT U_X11_degree 3 rfl) ?_
    refine x_invokevirtual (rc' := rc) (rs' := rs) (rc2 := 0) (rs2 := 0) (As := [_, _]) (st := _) M_X11_lets K_X11_167 (dT U_X11_degree 4 rfl) rfl rfl (by decide) rfl rfl w.c70 (Nat.le_of_ble_eq_true rfl) (by decide) rfl (Nat.le_of_ble_eq_true rfl) rfl (by decide) (Nat.le_of_ble_eq_true rfl) rfl rfl ?_
    refine S_X11_lets0 w (fun h1 g1 w1 => ?_)
    refine xRet_some ?_
    refine x_if_eqj (tgt := 24) (dT U_X11_degree 5 rfl) (by decide) (by decide) ?_
    refine x_iconst (dT U_X11_degree 12 rfl) ?_
    refine x_ireturn (dT U_X11_degree 13 rfl) rfl ?_
    exact e1 (by omega) _ _ (Ag.tr (Ag.rf 70 142 h) (g1.w (by omega))) w1 (by unfold xr; omega)

set_option maxRecDepth 20000 in
set_option maxHeartbeats 1000000 in
theorem S_X11_value {G : xG} {d rc rs : Nat} {ex : Bool} {h : xH} {Q : xQ} {σ : St} {cc0 : Int} {rr : Nat} {ss : Int} {row x : Int} (w : MX σ cc0 rr ss h) (v : INV σ) (h_row : xr row) (h_x : xr x) (e1 : ¬ (inb row 8) → ∀ h2 z, Ag 70 142 h h2 → MX σ 1 rr ss h2 → xr z → Q (.inl (some (vi z))) ex h2) (e2 : (inb row 8) → ¬ (inb x σ.p) → ∀ h2 z, Ag 70 142 h h2 → MX σ 2 rr ss h2 → xr z → Q (.inl (some (vi z))) ex h2) (k : (inb row 8) → (inb x σ.p) → ∀ h2 r2 s2, Ag 70 142 h h2 → MX σ 0 r2 s2 h2 → Q (.inl (some (vi (hor (gf (σ.rw row.toNat)) σ.p x 8)))) ex h2) : X G m_X11_value (d + 2) rc rs ex 0 (xe m_X11_value.2.2.1 [.ref 70, vi row, vi x]) [] h Q := by
  show X G m_X11_value _ _ _ _ 0 [some (.ref 70), some (vi row), some (vi x)] [] h Q
  have hp := PRb v.p
  have hq := gq_b v.p
  refine x_aload_n (dT U_X11_value 0 rfl) rfl ?_
  refine x_iload_n (dT U_X11_value 1 rfl) rfl ?_
  refine x_invokestatic (rc' := rc) (rs' := rs) (rc2 := 0) (rs2 := 0) (As := [_]) (st := _) M_X11_isRow K_X11_164 (dT U_X11_value 2 rfl) rfl rfl rfl rfl (Nat.le_of_ble_eq_true rfl) rfl (by decide) (Nat.le_of_ble_eq_true rfl) rfl rfl ?_
  refine S_X11_isRow h_row (fun q1 => ?_) (fun q1 => ?_)
  · refine xRet_some ?_
    refine x_iconst (dT U_X11_value 3 rfl) ?_
    refine x_invokevirtual (rc' := rc) (rs' := rs) (rc2 := 0) (rs2 := 0) (As := [_, _]) (st := _) M_X11_lets K_X11_167 (dT U_X11_value 4 rfl) rfl rfl (by decide) rfl rfl w.c70 (Nat.le_of_ble_eq_true rfl) (by decide) rfl (Nat.le_of_ble_eq_true rfl) rfl (by decide) (Nat.le_of_ble_eq_true rfl) rfl rfl ?_
    refine S_X11_lets1 w (fun h1 g1 w1 => ?_)
    refine xRet_some ?_
    obtain ⟨i, hi, rfl⟩ : ∃ j : Nat, j < 8 ∧ row = (j : Int) := ⟨row.toNat, by omega, by omega⟩
    try simp only [tnc] at e1 e2 k
    refine x_if_eqn (tgt := 41) (dT U_X11_value 5 rfl) (by decide) (by decide) ?_
    refine x_aload_n (dT U_X11_value 6 rfl) rfl ?_
    refine x_aload_n (dT U_X11_value 7 rfl) rfl ?_
    refine x_iload_n (dT U_X11_value 8 rfl) rfl ?_
    refine x_invokevirtual (rc' := rc) (rs' := rs) (rc2 := 0) (rs2 := 0) (As := [_]) (st := _) M_X11_isNumber K_X11_174 (dT U_X11_value 9 rfl) rfl rfl (by decide) rfl rfl w1.c70 (Nat.le_of_ble_eq_true rfl) (by decide) rfl (Nat.le_of_ble_eq_true rfl) rfl (by decide) (Nat.le_of_ble_eq_true rfl) rfl rfl ?_
    refine S_X11_isNumber (w1.mp) v.p h_x (fun q2 => ?_) (fun q2 => ?_)
    · refine xRet_some ?_
      refine x_iconst (dT U_X11_value 10 rfl) ?_
      refine x_invokevirtual (rc' := rc) (rs' := rs) (rc2 := 0) (rs2 := 0) (As := [_, _]) (st := _) M_X11_lets K_X11_167 (dT U_X11_value 11 rfl) rfl rfl (by decide) rfl rfl w1.c70 (Nat.le_of_ble_eq_true rfl) (by decide) rfl (Nat.le_of_ble_eq_true rfl) rfl (by decide) (Nat.le_of_ble_eq_true rfl) rfl rfl ?_
      refine S_X11_lets1 w1 (fun h2 g2 w2 => ?_)
      refine xRet_some ?_
      refine x_if_eqn (tgt := 41) (dT U_X11_value 12 rfl) (by decide) (by decide) ?_
      refine x_aload_n (dT U_X11_value 13 rfl) rfl ?_
      refine x_aload_n (dT U_X11_value 14 rfl) rfl ?_
      refine x_getfield F_X11_18 (dT U_X11_value 15 rfl) w2.c70 (Nat.le_of_ble_eq_true rfl) rfl ?_
      refine x_iload_n (dT U_X11_value 16 rfl) rfl ?_
      refine x_aaload (i) (dT U_X11_value 17 rfl) w2.c73 (Nat.le_of_ble_eq_true rfl) (by decide) rfl (mrL_get (by omega)) (Nat.le_of_ble_eq_true rfl) ?_
      refine x_bipush (dT U_X11_value 18 rfl) (by decide) ?_
      refine x_iload_n (dT U_X11_value 19 rfl) rfl ?_
      refine x_invokevirtual (rc' := rc) (rs' := rs) (rc2 := 0) (rs2 := 0) (As := [_, _, _]) (st := _) M_X11_valueOf K_X11_181 (dT U_X11_value 20 rfl) rfl rfl (by decide) rfl rfl w2.c70 (Nat.le_of_ble_eq_true rfl) (by decide) rfl (Nat.le_of_ble_eq_true rfl) rfl (by decide) (Nat.le_of_ble_eq_true rfl) rfl rfl ?_
      refine S_X11_valueOf (m := 8) (w2.mp) v.p (w2.rows i hi) (by omega) (by rw [(v.rw i hi).1]; omega) (v.rw i hi).2 (by omega) ?_
      rw [horm8]
      refine xRet_some ?_
      refine x_goto (tgt := 42) (dT U_X11_value 21 rfl) (by decide) ?_
      refine x_ireturn (dT U_X11_value 23 rfl) rfl ?_
      exact k (by omega) (by omega) _ _ _ (Ag.tr (Ag.tr (Ag.rf 70 142 h) (g1.w (by omega))) (g2.w (by omega))) w2
    · refine xRet_some ?_
      refine x_iconst (dT U_X11_value 10 rfl) ?_
      refine x_invokevirtual (rc' := rc) (rs' := rs) (rc2 := 0) (rs2 := 0) (As := [_, _]) (st := _) M_X11_lets K_X11_167 (dT U_X11_value 11 rfl) rfl rfl (by decide) rfl rfl w1.c70 (Nat.le_of_ble_eq_true rfl) (by decide) rfl (Nat.le_of_ble_eq_true rfl) rfl (by decide) (Nat.le_of_ble_eq_true rfl) rfl rfl ?_
      refine S_X11_lets0 w1 (fun h2 g2 w2 => ?_)
      refine xRet_some ?_
      refine x_if_eqj (tgt := 41) (dT U_X11_value 12 rfl) (by decide) (by decide) ?_
      refine x_iconst (dT U_X11_value 22 rfl) ?_
      refine x_ireturn (dT U_X11_value 23 rfl) rfl ?_
      exact e2 (by omega) (by omega) _ _ (Ag.tr (Ag.tr (Ag.rf 70 142 h) (g1.w (by omega))) (g2.w (by omega))) w2 (by unfold xr; omega)
  · refine xRet_some ?_
    refine x_iconst (dT U_X11_value 3 rfl) ?_
    refine x_invokevirtual (rc' := rc) (rs' := rs) (rc2 := 0) (rs2 := 0) (As := [_, _]) (st := _) M_X11_lets K_X11_167 (dT U_X11_value 4 rfl) rfl rfl (by decide) rfl rfl w.c70 (Nat.le_of_ble_eq_true rfl) (by decide) rfl (Nat.le_of_ble_eq_true rfl) rfl (by decide) (Nat.le_of_ble_eq_true rfl) rfl rfl ?_
    refine S_X11_lets0 w (fun h1 g1 w1 => ?_)
    refine xRet_some ?_
    refine x_if_eqj (tgt := 41) (dT U_X11_value 5 rfl) (by decide) (by decide) ?_
    refine x_iconst (dT U_X11_value 22 rfl) ?_
    refine x_ireturn (dT U_X11_value 23 rfl) rfl ?_
    exact e1 (by omega) _ _ (Ag.tr (Ag.rf 70 142 h) (g1.w (by omega))) w1 (by unfold xr; omega)

set_option maxRecDepth 20000 in
set_option maxHeartbeats 1000000 in
theorem S_X11_inner {G : xG} {d rc rs : Nat} {ex : Bool} {h : xH} {Q : xQ} {σ : St} {cc0 : Int} {rr : Nat} {ss : Int} {row other : Int} (w : MX σ cc0 rr ss h) (v : INV σ) (h_row : xr row) (h_other : xr other) (e1 : ¬ (inb row 8 ∧ inb other 8) → ∀ h2 z, Ag 70 142 h h2 → MX σ 1 rr ss h2 → xr z → Q (.inl (some (vi z))) ex h2) (k : (inb row 8 ∧ inb other 8) → ∀ h2 r2 s2, Ag 70 142 h h2 → MX σ 0 r2 s2 h2 → Q (.inl (some (vi (inn (σ.rw row.toNat) (σ.rw other.toNat) % (σ.p : Int))))) ex h2) : X G m_X11_inner (d + 2) rc rs ex 0 (xe m_X11_inner.2.2.1 [.ref 70, vi row, vi other]) [] h Q := by
  show X G m_X11_inner _ _ _ _ 0 [some (.ref 70), some (vi row), some (vi other)] [] h Q
  have hp := PRb v.p
  have hq := gq_b v.p
  refine x_aload_n (dT U_X11_inner 0 rfl) rfl ?_
  refine x_iload_n (dT U_X11_inner 1 rfl) rfl ?_
  refine x_invokestatic (rc' := rc) (rs' := rs) (rc2 := 0) (rs2 := 0) (As := [_]) (st := _) M_X11_isRow K_X11_164 (dT U_X11_inner 2 rfl) rfl rfl rfl rfl (Nat.le_of_ble_eq_true rfl) rfl (by decide) (Nat.le_of_ble_eq_true rfl) rfl rfl ?_
  refine S_X11_isRow h_row (fun q1 => ?_) (fun q1 => ?_)
  · refine xRet_some ?_
    refine x_if_eqn (tgt := 19) (dT U_X11_inner 3 rfl) (by decide) (by decide) ?_
    refine x_iload_n (dT U_X11_inner 4 rfl) rfl ?_
    refine x_invokestatic (rc' := rc) (rs' := rs) (rc2 := 0) (rs2 := 0) (As := [_]) (st := _) M_X11_isRow K_X11_164 (dT U_X11_inner 5 rfl) rfl rfl rfl rfl (Nat.le_of_ble_eq_true rfl) rfl (by decide) (Nat.le_of_ble_eq_true rfl) rfl rfl ?_
    refine S_X11_isRow h_other (fun q2 => ?_) (fun q2 => ?_)
    · refine xRet_some ?_
      refine x_if_eqn (tgt := 19) (dT U_X11_inner 6 rfl) (by decide) (by decide) ?_
      refine x_iconst (dT U_X11_inner 7 rfl) ?_
      refine x_goto (tgt := 20) (dT U_X11_inner 8 rfl) (by decide) ?_
      refine x_iconst (dT U_X11_inner 10 rfl) ?_
      refine x_invokevirtual (rc' := rc) (rs' := rs) (rc2 := 0) (rs2 := 0) (As := [_, _]) (st := _) M_X11_lets K_X11_167 (dT U_X11_inner 11 rfl) rfl rfl (by decide) rfl rfl w.c70 (Nat.le_of_ble_eq_true rfl) (by decide) rfl (Nat.le_of_ble_eq_true rfl) rfl (by decide) (Nat.le_of_ble_eq_true rfl) rfl rfl ?_
      refine S_X11_lets1 w (fun h1 g1 w1 => ?_)
      refine xRet_some ?_
      obtain ⟨i, hi, rfl⟩ : ∃ j : Nat, j < 8 ∧ row = (j : Int) := ⟨row.toNat, by omega, by omega⟩
      try simp only [tnc] at e1 k
      obtain ⟨j, hj, rfl⟩ : ∃ j : Nat, j < 8 ∧ other = (j : Int) := ⟨other.toNat, by omega, by omega⟩
      try simp only [tnc] at e1 k
      refine x_if_eqn (tgt := 46) (dT U_X11_inner 12 rfl) (by decide) (by decide) ?_
      refine x_aload_n (dT U_X11_inner 13 rfl) rfl ?_
      refine x_aload_n (dT U_X11_inner 14 rfl) rfl ?_
      refine x_getfield F_X11_18 (dT U_X11_inner 15 rfl) w1.c70 (Nat.le_of_ble_eq_true rfl) rfl ?_
      refine x_iload_n (dT U_X11_inner 16 rfl) rfl ?_
      refine x_aaload (i) (dT U_X11_inner 17 rfl) w1.c73 (Nat.le_of_ble_eq_true rfl) (by decide) rfl (mrL_get (by omega)) (Nat.le_of_ble_eq_true rfl) ?_
      refine x_aload_n (dT U_X11_inner 18 rfl) rfl ?_
      refine x_getfield F_X11_18 (dT U_X11_inner 19 rfl) w1.c70 (Nat.le_of_ble_eq_true rfl) rfl ?_
      refine x_iload_n (dT U_X11_inner 20 rfl) rfl ?_
      refine x_aaload (j) (dT U_X11_inner 21 rfl) w1.c73 (Nat.le_of_ble_eq_true rfl) (by decide) rfl (mrL_get (by omega)) (Nat.le_of_ble_eq_true rfl) ?_
      refine x_invokevirtual (rc' := rc) (rs' := rs) (rc2 := 0) (rs2 := 0) (As := [_, _]) (st := _) M_X11_product K_X11_185 (dT U_X11_inner 22 rfl) rfl rfl (by decide) rfl rfl w1.c70 (Nat.le_of_ble_eq_true rfl) (by decide) rfl (Nat.le_of_ble_eq_true rfl) rfl (by decide) (Nat.le_of_ble_eq_true rfl) rfl rfl ?_
      refine S_X11_product (w1.mp) v.p (w1.rows i hi) (by omega) ((v.rw i hi).mono (by omega)) (w1.rows j hj) (by omega) ((v.rw j hj).mono (by omega)) ?_
      refine xRet_some ?_
      refine x_goto (tgt := 47) (dT U_X11_inner 23 rfl) (by decide) ?_
      refine x_ireturn (dT U_X11_inner 25 rfl) rfl ?_
      exact k (by omega) _ _ _ (Ag.tr (Ag.rf 70 142 h) (g1.w (by omega))) w1
    · refine xRet_some ?_
      refine x_if_eqj (tgt := 19) (dT U_X11_inner 6 rfl) (by decide) (by decide) ?_
      refine x_iconst (dT U_X11_inner 9 rfl) ?_
      refine x_iconst (dT U_X11_inner 10 rfl) ?_
      refine x_invokevirtual (rc' := rc) (rs' := rs) (rc2 := 0) (rs2 := 0) (As := [_, _]) (st := _) M_X11_lets K_X11_167 (dT U_X11_inner 11 rfl) rfl rfl (by decide) rfl rfl w.c70 (Nat.le_of_ble_eq_true rfl) (by decide) rfl (Nat.le_of_ble_eq_true rfl) rfl (by decide) (Nat.le_of_ble_eq_true rfl) rfl rfl ?_
      refine S_X11_lets0 w (fun h1 g1 w1 => ?_)
      refine xRet_some ?_
      refine x_if_eqj (tgt := 46) (dT U_X11_inner 12 rfl) (by decide) (by decide) ?_
      refine x_iconst (dT U_X11_inner 24 rfl) ?_
      refine x_ireturn (dT U_X11_inner 25 rfl) rfl ?_
      exact e1 (by omega) _ _ (Ag.tr (Ag.rf 70 142 h) (g1.w (by omega))) w1 (by unfold xr; omega)
  · refine xRet_some ?_
    refine x_if_eqj (tgt := 19) (dT U_X11_inner 3 rfl) (by decide) (by decide) ?_
    refine x_iconst (dT U_X11_inner 9 rfl) ?_
    refine x_iconst (dT U_X11_inner 10 rfl) ?_
    refine x_invokevirtual (rc' := rc) (rs' := rs) (rc2 := 0) (rs2 := 0) (As := [_, _]) (st := _) M_X11_lets K_X11_167 (dT U_X11_inner 11 rfl) rfl rfl (by decide) rfl rfl w.c70 (Nat.le_of_ble_eq_true rfl) (by decide) rfl (Nat.le_of_ble_eq_true rfl) rfl (by decide) (Nat.le_of_ble_eq_true rfl) rfl rfl ?_
    refine S_X11_lets0 w (fun h1 g1 w1 => ?_)
    refine xRet_some ?_
    refine x_if_eqj (tgt := 46) (dT U_X11_inner 12 rfl) (by decide) (by decide) ?_
    refine x_iconst (dT U_X11_inner 24 rfl) ?_
    refine x_ireturn (dT U_X11_inner 25 rfl) rfl ?_
    exact e1 (by omega) _ _ (Ag.tr (Ag.rf 70 142 h) (g1.w (by omega))) w1 (by unfold xr; omega)

set_option maxRecDepth 20000 in
set_option maxHeartbeats 1000000 in
theorem S_X11_mix {G : xG} {d rc rs : Nat} {ex : Bool} {h : xH} {Q : xQ} {σ : St} {cc0 : Int} {rr : Nat} {ss : Int} {row other factor to : Int} (w : MX σ cc0 rr ss h) (v : INV σ) (h_row : xr row) (h_other : xr other) (h_factor : xr factor) (h_to : xr to) (e1 : ¬ (inb row 8 ∧ inb other 8 ∧ inb to 8) → ∀ h2 z, Ag 70 142 h h2 → MX σ 1 rr ss h2 → xr z → Q (.inl (some (vi z))) ex h2) (e2 : (inb row 8 ∧ inb other 8 ∧ inb to 8) → ¬ (inb factor σ.p) → ∀ h2 z, Ag 70 142 h h2 → MX σ 2 rr ss h2 → xr z → Q (.inl (some (vi z))) ex h2) (k : (inb row 8 ∧ inb other 8 ∧ inb to 8) → (inb factor σ.p) → ∀ h2 r2 s2, Ag 70 142 h h2 → MX (σ.sRow to.toNat (tab (fun t => ((σ.rw row.toNat).getD t 0 + factor * (σ.rw other.toNat).getD t 0) % (σ.p : Int)) 8)) 0 r2 s2 h2 → Q (.inl (some (vi (dg (gf (tab (fun t => ((σ.rw row.toNat).getD t 0 + factor * (σ.rw other.toNat).getD t 0) % (σ.p : Int)) 8)) 8)))) ex h2) : X G m_X11_mix (d + 2) rc rs ex 0 (xe m_X11_mix.2.2.1 [.ref 70, vi row, vi other, vi factor, vi to]) [] h Q := by
  show X G m_X11_mix _ _ _ _ 0 [some (.ref 70), some (vi row), some (vi other), some (vi factor), some (vi to), none] [] h Q
  have hp := PRb v.p
  have hq := gq_b v.p
  refine x_aload_n (dT U_X11_mix 0 rfl) rfl ?_
  refine x_iload_n (dT U_X11_mix 1 rfl) rfl ?_
  refine x_invokestatic (rc' := rc) (rs' := rs) (rc2 := 0) (rs2 := 0) (As := [_]) (st := _) M_X11_isRow K_X11_164 (dT U_X11_mix 2 rfl) rfl rfl rfl rfl (Nat.le_of_ble_eq_true rfl) rfl (by decide) (Nat.le_of_ble_eq_true rfl) rfl rfl ?_
  refine S_X11_isRow h_row (fun q1 => ?_) (fun q1 => ?_)
  · refine xRet_some ?_
    refine x_if_eqn (tgt := 27) (dT U_X11_mix 3 rfl) (by decide) (by decide) ?_
    refine x_iload_n (dT U_X11_mix 4 rfl) rfl ?_
    refine x_invokestatic (rc' := rc) (rs' := rs) (rc2 := 0) (rs2 := 0) (As := [_]) (st := _) M_X11_isRow K_X11_164 (dT U_X11_mix 5 rfl) rfl rfl rfl rfl (Nat.le_of_ble_eq_true rfl) rfl (by decide) (Nat.le_of_ble_eq_true rfl) rfl rfl ?_
    refine S_X11_isRow h_other (fun q2 => ?_) (fun q2 => ?_)
    · refine xRet_some ?_
      refine x_if_eqn (tgt := 27) (dT U_X11_mix 6 rfl) (by decide) (by decide) ?_
      refine x_iload (dT U_X11_mix 7 rfl) rfl ?_
      refine x_invokestatic (rc' := rc) (rs' := rs) (rc2 := 0) (rs2 := 0) (As := [_]) (st := _) M_X11_isRow K_X11_164 (dT U_X11_mix 8 rfl) rfl rfl rfl rfl (Nat.le_of_ble_eq_true rfl) rfl (by decide) (Nat.le_of_ble_eq_true rfl) rfl rfl ?_
      refine S_X11_isRow h_to (fun q3 => ?_) (fun q3 => ?_)
      · refine xRet_some ?_
        refine x_if_eqn (tgt := 27) (dT U_X11_mix 9 rfl) (by decide) (by decide) ?_
        refine x_iconst (dT U_X11_mix 10 rfl) ?_
        refine x_goto (tgt := 28) (dT U_X11_mix 11 rfl) (by decide) ?_
        refine x_iconst (dT U_X11_mix 13 rfl) ?_
        refine x_invokevirtual (rc' := rc) (rs' := rs) (rc2 := 0) (rs2 := 0) (As := [_, _]) (st := _) M_X11_lets K_X11_167 (dT U_X11_mix 14 rfl) rfl rfl (by decide) rfl rfl w.c70 (Nat.le_of_ble_eq_true rfl) (by decide) rfl (Nat.le_of_ble_eq_true rfl) rfl (by decide) (Nat.le_of_ble_eq_true rfl) rfl rfl ?_
        refine S_X11_lets1 w (fun h1 g1 w1 => ?_)
        refine xRet_some ?_
        obtain ⟨i, hi, rfl⟩ : ∃ j : Nat, j < 8 ∧ row = (j : Int) := ⟨row.toNat, by omega, by omega⟩
        try simp only [tnc] at e1 e2 k
        obtain ⟨j, hj, rfl⟩ : ∃ j : Nat, j < 8 ∧ other = (j : Int) := ⟨other.toNat, by omega, by omega⟩
        try simp only [tnc] at e1 e2 k
        obtain ⟨t, ht, rfl⟩ : ∃ j : Nat, j < 8 ∧ to = (j : Int) := ⟨to.toNat, by omega, by omega⟩
        try simp only [tnc] at e1 e2 k
        refine x_if_eqn (tgt := 48) (dT U_X11_mix 15 rfl) (by decide) (by decide) ?_
        refine x_aload_n (dT U_X11_mix 16 rfl) rfl ?_
        refine x_aload_n (dT U_X11_mix 17 rfl) rfl ?_
        refine x_iload_n (dT U_X11_mix 18 rfl) rfl ?_
        refine x_invokevirtual (rc' := rc) (rs' := rs) (rc2 := 0) (rs2 := 0) (As := [_]) (st := _) M_X11_isNumber K_X11_174 (dT U_X11_mix 19 rfl) rfl rfl (by decide) rfl rfl w1.c70 (Nat.le_of_ble_eq_true rfl) (by decide) rfl (Nat.le_of_ble_eq_true rfl) rfl (by decide) (Nat.le_of_ble_eq_true rfl) rfl rfl ?_
        refine S_X11_isNumber (w1.mp) v.p h_factor (fun q4 => ?_) (fun q4 => ?_)
        · refine xRet_some ?_
          refine x_iconst (dT U_X11_mix 20 rfl) ?_
          refine x_invokevirtual (rc' := rc) (rs' := rs) (rc2 := 0) (rs2 := 0) (As := [_, _]) (st := _) M_X11_lets K_X11_167 (dT U_X11_mix 21 rfl) rfl rfl (by decide) rfl rfl w1.c70 (Nat.le_of_ble_eq_true rfl) (by decide) rfl (Nat.le_of_ble_eq_true rfl) rfl (by decide) (Nat.le_of_ble_eq_true rfl) rfl rfl ?_
          refine S_X11_lets1 w1 (fun h2 g2 w2 => ?_)
          refine xRet_some ?_
          refine x_if_nej (tgt := 50) (dT U_X11_mix 22 rfl) (by decide) (by decide) ?_
          refine x_iconst (dT U_X11_mix 25 rfl) ?_
          refine x_istore (ls' := [some (.ref _), some (vi _), some (vi _), some (vi _), some (vi _), some (vi _)]) (dT U_X11_mix 26 rfl) (by decide) rfl ?_
          have L : ∀ (n u : Nat), u + n = 8 → X G m_X11_mix (d + 2) rc rs ex 53 [some (.ref 70), some (vi (i : Int)), some (vi (j : Int)), some (vi factor), some (vi (t : Int)), some (vi (u : Int))] [] (h2.set (74 + t) (cA 0 (fillL (fun u => ((σ.rw i).getD u 0 + factor * (σ.rw j).getD u 0) % (σ.p : Int)) (σ.rw t) u))) Q := by
            intro n
            induction n with
            | zero =>
              intro u hi_ 
              refine x_iload (dT U_X11_mix 27 rfl) rfl ?_
              refine x_bipush (dT U_X11_mix 28 rfl) (by decide) ?_
              refine x_icmp_ge (tgt := 104) (dT U_X11_mix 29 rfl) (by decide) (by unfold xr; omega) (by unfold xr at *; omega) (fun c57 => ?_) (fun c57 => ?_)
              · skip
                refine x_aload_n (dT U_X11_mix 58 rfl) rfl ?_
                refine x_getfield F_X11_18 (dT U_X11_mix 59 rfl) (hset_ne (by omega) (w2.c70)) (Nat.le_of_ble_eq_true rfl) rfl ?_
                refine x_iload (dT U_X11_mix 60 rfl) rfl ?_
                refine x_aaload (t) (dT U_X11_mix 61 rfl) (hset_ne (by omega) (w2.c73)) (Nat.le_of_ble_eq_true rfl) (by decide) rfl (mrL_get (by omega)) (Nat.le_of_ble_eq_true rfl) ?_
                refine x_invokestatic (rc' := rc) (rs' := rs) (rc2 := 0) (rs2 := 0) (As := [_]) (st := _) M_X11_top K_X11_177 (dT U_X11_mix 62 rfl) rfl rfl rfl rfl (Nat.le_of_ble_eq_true rfl) rfl (by decide) (Nat.le_of_ble_eq_true rfl) rfl rfl ?_
                have e : u = 8 := by omega
                subst e
                rw [fillL_all (v.rw t ht).1]
                refine S_topF (p := (σ.p : Int)) (hset_eq (w2.rows t ht)) (by omega) (Fl_tab (by omega) (fun t _ => modb (by omega))) (by omega) ?_
                refine xRet_some ?_
                refine x_ireturn (dT U_X11_mix 63 rfl) rfl ?_
                exact k (by omega) (by omega) _ _ _ ((Ag.tr (Ag.tr (Ag.rf 70 142 h) (g1.w (by omega))) (g2.w (by omega))).set (by omega)) (w2.row (i := t) (l := (tab (fun u => ((σ.rw i).getD u 0 + factor * (σ.rw j).getD u 0) % (σ.p : Int)) 8)) (fun a ha => by rw [hset_fr (by omega)]) ht (hset_eq (w2.rows t ht)))
              · exfalso; omega
            | succ n ih =>
              intro u hi_ 
              obtain ⟨al2, ea1, ea2, ea3⟩ := hset_al (f := (fun u => ((σ.rw i).getD u 0 + factor * (σ.rw j).getD u 0) % (σ.p : Int))) (i := u) (w2.rows i hi) (w2.rows t ht)
              obtain ⟨bl2, eb1, eb2, eb3⟩ := hset_al (f := (fun u => ((σ.rw i).getD u 0 + factor * (σ.rw j).getD u 0) % (σ.p : Int))) (i := u) (w2.rows j hj) (w2.rows t ht)
              have xa := (v.rw i hi).2 u
              have xb := (v.rw j hj).2 u
              have xm := mulb (a := factor) (b := (σ.rw j).getD u 0) (p := (σ.p : Int)) (by omega) xb (by omega)
              refine x_iload (dT U_X11_mix 27 rfl) rfl ?_
              refine x_bipush (dT U_X11_mix 28 rfl) (by decide) ?_
              refine x_icmp_ge (tgt := 104) (dT U_X11_mix 29 rfl) (by decide) (by unfold xr; omega) (by unfold xr at *; omega) (fun c57 => ?_) (fun c57 => ?_)
              · exfalso; omega
              · skip
                refine x_aload_n (dT U_X11_mix 30 rfl) rfl ?_
                refine x_getfield F_X11_18 (dT U_X11_mix 31 rfl) (hset_ne (by omega) (w2.c70)) (Nat.le_of_ble_eq_true rfl) rfl ?_
                refine x_iload (dT U_X11_mix 32 rfl) rfl ?_
                refine x_aaload (t) (dT U_X11_mix 33 rfl) (hset_ne (by omega) (w2.c73)) (Nat.le_of_ble_eq_true rfl) (by decide) rfl (mrL_get (by omega)) (Nat.le_of_ble_eq_true rfl) ?_
                refine x_iload (dT U_X11_mix 34 rfl) rfl ?_
                refine x_aload_n (dT U_X11_mix 35 rfl) rfl ?_
                refine x_aload_n (dT U_X11_mix 36 rfl) rfl ?_
                refine x_getfield F_X11_18 (dT U_X11_mix 37 rfl) (hset_ne (by omega) (w2.c70)) (Nat.le_of_ble_eq_true rfl) rfl ?_
                refine x_iload_n (dT U_X11_mix 38 rfl) rfl ?_
                refine x_aaload (i) (dT U_X11_mix 39 rfl) (hset_ne (by omega) (w2.c73)) (Nat.le_of_ble_eq_true rfl) (by decide) rfl (mrL_get (by omega)) (Nat.le_of_ble_eq_true rfl) ?_
                refine x_iload (dT U_X11_mix 40 rfl) rfl ?_
                refine x_ialoadv (u) (dT U_X11_mix 41 rfl) ea1 (by omega) rfl (by rw [ea2, (v.rw i hi).1]; omega) (by rw [ea2, (v.rw i hi).1]; omega) (ea3 u (Nat.le_refl u)) ?_
                refine x_i2l (dT U_X11_mix 42 rfl) (by unfold xr; omega) ?_
                refine x_iload_n (dT U_X11_mix 43 rfl) rfl ?_
                refine x_i2l (dT U_X11_mix 44 rfl) (by unfold xr; omega) ?_
                refine x_aload_n (dT U_X11_mix 45 rfl) rfl ?_
                refine x_getfield F_X11_18 (dT U_X11_mix 46 rfl) (hset_ne (by omega) (w2.c70)) (Nat.le_of_ble_eq_true rfl) rfl ?_
                refine x_iload_n (dT U_X11_mix 47 rfl) rfl ?_
                refine x_aaload (j) (dT U_X11_mix 48 rfl) (hset_ne (by omega) (w2.c73)) (Nat.le_of_ble_eq_true rfl) (by decide) rfl (mrL_get (by omega)) (Nat.le_of_ble_eq_true rfl) ?_
                refine x_iload (dT U_X11_mix 49 rfl) rfl ?_
                refine x_ialoadv (u) (dT U_X11_mix 50 rfl) eb1 (by omega) rfl (by rw [eb2, (v.rw j hj).1]; omega) (by rw [eb2, (v.rw j hj).1]; omega) (eb3 u (Nat.le_refl u)) ?_
                refine x_i2l (dT U_X11_mix 51 rfl) (by unfold xr; omega) ?_
                refine x_lmul (dT U_X11_mix 52 rfl) ?_
                refine x_ladd (dT U_X11_mix 53 rfl) ?_
                refine x_invokevirtual (rc' := rc) (rs' := rs) (rc2 := 0) (rs2 := 0) (As := [_]) (st := _) M_X11_f K_X11_156 (dT U_X11_mix 54 rfl) rfl rfl (by decide) rfl rfl (hset_ne (by omega) (w2.c70)) (Nat.le_of_ble_eq_true rfl) (by decide) rfl (Nat.le_of_ble_eq_true rfl) rfl (by decide) (Nat.le_of_ble_eq_true rfl) rfl rfl ?_
                refine S_X11_f (MP.set (by omega) (w2.mp)) v.p (by unfold xrl; omega) ?_
                refine xRet_some ?_
                refine x_iastore (u) (dT U_X11_mix 55 rfl) (hset_eq (w2.rows t ht)) (by omega) rfl (by rw [fillL_len, (v.rw t ht).1]; omega) (by rw [fillL_len, (v.rw t ht).1]; omega) ?_
                rw [List.set_set]
                refine x_iinc (ls' := [some (.ref _), some (vi _), some (vi _), some (vi _), some (vi _), some (vi _)]) (dT U_X11_mix 56 rfl) (by decide) rfl rfl ?_
                refine x_goto (tgt := 53) (dT U_X11_mix 57 rfl) (by decide) ?_
                exact ih (u + 1) (by omega)
          have q := L 8 0 (by omega)
          rw [show fillL (fun u => ((σ.rw i).getD u 0 + factor * (σ.rw j).getD u 0) % (σ.p : Int)) (σ.rw t) 0 = σ.rw t from rfl, hset_self (w2.rows t ht)] at q
          exact q
        · refine xRet_some ?_
          refine x_iconst (dT U_X11_mix 20 rfl) ?_
          refine x_invokevirtual (rc' := rc) (rs' := rs) (rc2 := 0) (rs2 := 0) (As := [_, _]) (st := _) M_X11_lets K_X11_167 (dT U_X11_mix 21 rfl) rfl rfl (by decide) rfl rfl w1.c70 (Nat.le_of_ble_eq_true rfl) (by decide) rfl (Nat.le_of_ble_eq_true rfl) rfl (by decide) (Nat.le_of_ble_eq_true rfl) rfl rfl ?_
          refine S_X11_lets0 w1 (fun h2 g2 w2 => ?_)
          refine xRet_some ?_
          refine x_if_nen (tgt := 50) (dT U_X11_mix 22 rfl) (by decide) (by decide) ?_
          refine x_iconst (dT U_X11_mix 23 rfl) ?_
          refine x_ireturn (dT U_X11_mix 24 rfl) rfl ?_
          exact e2 (by omega) (by omega) _ _ (Ag.tr (Ag.tr (Ag.rf 70 142 h) (g1.w (by omega))) (g2.w (by omega))) w2 (by unfold xr; omega)
      · refine xRet_some ?_
        refine x_if_eqj (tgt := 27) (dT U_X11_mix 9 rfl) (by decide) (by decide) ?_
        refine x_iconst (dT U_X11_mix 12 rfl) ?_
        refine x_iconst (dT U_X11_mix 13 rfl) ?_
        refine x_invokevirtual (rc' := rc) (rs' := rs) (rc2 := 0) (rs2 := 0) (As := [_, _]) (st := _) M_X11_lets K_X11_167 (dT U_X11_mix 14 rfl) rfl rfl (by decide) rfl rfl w.c70 (Nat.le_of_ble_eq_true rfl) (by decide) rfl (Nat.le_of_ble_eq_true rfl) rfl (by decide) (Nat.le_of_ble_eq_true rfl) rfl rfl ?_
        refine S_X11_lets0 w (fun h1 g1 w1 => ?_)
        refine xRet_some ?_
        refine x_if_eqj (tgt := 48) (dT U_X11_mix 15 rfl) (by decide) (by decide) ?_
        refine x_iconst (dT U_X11_mix 23 rfl) ?_
        refine x_ireturn (dT U_X11_mix 24 rfl) rfl ?_
        exact e1 (by omega) _ _ (Ag.tr (Ag.rf 70 142 h) (g1.w (by omega))) w1 (by unfold xr; omega)
    · refine xRet_some ?_
      refine x_if_eqj (tgt := 27) (dT U_X11_mix 6 rfl) (by decide) (by decide) ?_
      refine x_iconst (dT U_X11_mix 12 rfl) ?_
      refine x_iconst (dT U_X11_mix 13 rfl) ?_
      refine x_invokevirtual (rc' := rc) (rs' := rs) (rc2 := 0) (rs2 := 0) (As := [_, _]) (st := _) M_X11_lets K_X11_167 (dT U_X11_mix 14 rfl) rfl rfl (by decide) rfl rfl w.c70 (Nat.le_of_ble_eq_true rfl) (by decide) rfl (Nat.le_of_ble_eq_true rfl) rfl (by decide) (Nat.le_of_ble_eq_true rfl) rfl rfl ?_
      refine S_X11_lets0 w (fun h1 g1 w1 => ?_)
      refine xRet_some ?_
      refine x_if_eqj (tgt := 48) (dT U_X11_mix 15 rfl) (by decide) (by decide) ?_
      refine x_iconst (dT U_X11_mix 23 rfl) ?_
      refine x_ireturn (dT U_X11_mix 24 rfl) rfl ?_
      exact e1 (by omega) _ _ (Ag.tr (Ag.rf 70 142 h) (g1.w (by omega))) w1 (by unfold xr; omega)
  · refine xRet_some ?_
    refine x_if_eqj (tgt := 27) (dT U_X11_mix 3 rfl) (by decide) (by decide) ?_
    refine x_iconst (dT U_X11_mix 12 rfl) ?_
    refine x_iconst (dT U_X11_mix 13 rfl) ?_
    refine x_invokevirtual (rc' := rc) (rs' := rs) (rc2 := 0) (rs2 := 0) (As := [_, _]) (st := _) M_X11_lets K_X11_167 (dT U_X11_mix 14 rfl) rfl rfl (by decide) rfl rfl w.c70 (Nat.le_of_ble_eq_true rfl) (by decide) rfl (Nat.le_of_ble_eq_true rfl) rfl (by decide) (Nat.le_of_ble_eq_true rfl) rfl rfl ?_
    refine S_X11_lets0 w (fun h1 g1 w1 => ?_)
    refine xRet_some ?_
    refine x_if_eqj (tgt := 48) (dT U_X11_mix 15 rfl) (by decide) (by decide) ?_
    refine x_iconst (dT U_X11_mix 23 rfl) ?_
    refine x_ireturn (dT U_X11_mix 24 rfl) rfl ?_
    exact e1 (by omega) _ _ (Ag.tr (Ag.rf 70 142 h) (g1.w (by omega))) w1 (by unfold xr; omega)

set_option maxRecDepth 20000 in
set_option maxHeartbeats 1000000 in
theorem S_X11_powers {G : xG} {d rc rs : Nat} {ex : Bool} {h : xH} {Q : xQ} {σ : St} {cc0 : Int} {rr : Nat} {ss : Int} {x to : Int} (w : MX σ cc0 rr ss h) (v : INV σ) (h_x : xr x) (h_to : xr to) (e1 : ¬ (inb to 8) → ∀ h2 z, Ag 70 142 h h2 → MX σ 1 rr ss h2 → xr z → Q (.inl (some (vi z))) ex h2) (e2 : (inb to 8) → ¬ (inb x σ.p) → ∀ h2 z, Ag 70 142 h h2 → MX σ 2 rr ss h2 → xr z → Q (.inl (some (vi z))) ex h2) (k : (inb to 8) → (inb x σ.p) → ∀ h2 r2 s2, Ag 70 142 h h2 → MX (σ.sRow to.toNat (tab (pws (σ.p : Int) x) 8)) 0 r2 s2 h2 → Q (.inl (some (vi (dg (gf (tab (pws (σ.p : Int) x) 8)) 8)))) ex h2) : X G m_X11_powers (d + 2) rc rs ex 0 (xe m_X11_powers.2.2.1 [.ref 70, vi x, vi to]) [] h Q := by
  show X G m_X11_powers _ _ _ _ 0 [some (.ref 70), some (vi x), some (vi to), none, none] [] h Q
  have hp := PRb v.p
  have hq := gq_b v.p
  refine x_aload_n (dT U_X11_powers 0 rfl) rfl ?_
  refine x_iload_n (dT U_X11_powers 1 rfl) rfl ?_
  refine x_invokestatic (rc' := rc) (rs' := rs) (rc2 := 0) (rs2 := 0) (As := [_]) (st := _) M_X11_isRow K_X11_164 (dT U_X11_powers 2 rfl) rfl rfl rfl rfl (Nat.le_of_ble_eq_true rfl) rfl (by decide) (Nat.le_of_ble_eq_true rfl) rfl rfl ?_
  refine S_X11_isRow h_to (fun q1 => ?_) (fun q1 => ?_)
  · refine xRet_some ?_
    refine x_iconst (dT U_X11_powers 3 rfl) ?_
    refine x_invokevirtual (rc' := rc) (rs' := rs) (rc2 := 0) (rs2 := 0) (As := [_, _]) (st := _) M_X11_lets K_X11_167 (dT U_X11_powers 4 rfl) rfl rfl (by decide) rfl rfl w.c70 (Nat.le_of_ble_eq_true rfl) (by decide) rfl (Nat.le_of_ble_eq_true rfl) rfl (by decide) (Nat.le_of_ble_eq_true rfl) rfl rfl ?_
    refine S_X11_lets1 w (fun h1 g1 w1 => ?_)
    refine xRet_some ?_
    obtain ⟨t, ht, rfl⟩ : ∃ j : Nat, j < 8 ∧ to = (j : Int) := ⟨to.toNat, by omega, by omega⟩
    try simp only [tnc] at e1 e2 k
    refine x_if_eqn (tgt := 25) (dT U_X11_powers 5 rfl) (by decide) (by decide) ?_
    refine x_aload_n (dT U_X11_powers 6 rfl) rfl ?_
    refine x_aload_n (dT U_X11_powers 7 rfl) rfl ?_
    refine x_iload_n (dT U_X11_powers 8 rfl) rfl ?_
    refine x_invokevirtual (rc' := rc) (rs' := rs) (rc2 := 0) (rs2 := 0) (As := [_]) (st := _) M_X11_isNumber K_X11_174 (dT U_X11_powers 9 rfl) rfl rfl (by decide) rfl rfl w1.c70 (Nat.le_of_ble_eq_true rfl) (by decide) rfl (Nat.le_of_ble_eq_true rfl) rfl (by decide) (Nat.le_of_ble_eq_true rfl) rfl rfl ?_
    refine S_X11_isNumber (w1.mp) v.p h_x (fun q2 => ?_) (fun q2 => ?_)
    · refine xRet_some ?_
      refine x_iconst (dT U_X11_powers 10 rfl) ?_
      refine x_invokevirtual (rc' := rc) (rs' := rs) (rc2 := 0) (rs2 := 0) (As := [_, _]) (st := _) M_X11_lets K_X11_167 (dT U_X11_powers 11 rfl) rfl rfl (by decide) rfl rfl w1.c70 (Nat.le_of_ble_eq_true rfl) (by decide) rfl (Nat.le_of_ble_eq_true rfl) rfl (by decide) (Nat.le_of_ble_eq_true rfl) rfl rfl ?_
      refine S_X11_lets1 w1 (fun h2 g2 w2 => ?_)
      refine xRet_some ?_
      refine x_if_nej (tgt := 27) (dT U_X11_powers 12 rfl) (by decide) (by decide) ?_
      refine x_iconst (dT U_X11_powers 15 rfl) ?_
      refine x_istore_n (ls' := [some (.ref _), some (vi _), some (vi _), some (vi _), none]) (dT U_X11_powers 16 rfl) (by decide) rfl ?_
      refine x_iconst (dT U_X11_powers 17 rfl) ?_
      refine x_istore (ls' := [some (.ref _), some (vi _), some (vi _), some (vi _), some (vi _)]) (dT U_X11_powers 18 rfl) (by decide) rfl ?_
      have L : ∀ (n u : Nat), u + n = 8 → X G m_X11_powers (d + 2) rc rs ex 32 [some (.ref 70), some (vi x), some (vi (t : Int)), some (vi (pws (σ.p : Int) x u)), some (vi (u : Int))] [] (h2.set (74 + t) (cA 0 (fillL (pws (σ.p : Int) x) (σ.rw t) u))) Q := by
        intro n
        induction n with
        | zero =>
          intro u hi_ 
          refine x_iload (dT U_X11_powers 19 rfl) rfl ?_
          refine x_bipush (dT U_X11_powers 20 rfl) (by decide) ?_
          refine x_icmp_ge (tgt := 65) (dT U_X11_powers 21 rfl) (by decide) (by unfold xr; omega) (by unfold xr at *; omega) (fun c36 => ?_) (fun c36 => ?_)
          · skip
            refine x_aload_n (dT U_X11_powers 39 rfl) rfl ?_
            refine x_getfield F_X11_18 (dT U_X11_powers 40 rfl) (hset_ne (by omega) (w2.c70)) (Nat.le_of_ble_eq_true rfl) rfl ?_
            refine x_iload_n (dT U_X11_powers 41 rfl) rfl ?_
            refine x_aaload (t) (dT U_X11_powers 42 rfl) (hset_ne (by omega) (w2.c73)) (Nat.le_of_ble_eq_true rfl) (by decide) rfl (mrL_get (by omega)) (Nat.le_of_ble_eq_true rfl) ?_
            refine x_invokestatic (rc' := rc) (rs' := rs) (rc2 := 0) (rs2 := 0) (As := [_]) (st := _) M_X11_top K_X11_177 (dT U_X11_powers 43 rfl) rfl rfl rfl rfl (Nat.le_of_ble_eq_true rfl) rfl (by decide) (Nat.le_of_ble_eq_true rfl) rfl rfl ?_
            have e : u = 8 := by omega
            subst e
            rw [fillL_all (v.rw t ht).1]
            refine S_topF (p := (σ.p : Int)) (hset_eq (w2.rows t ht)) (by omega) (Fl_tab (by omega) (fun t _ => pws_b (by omega) t)) (by omega) ?_
            refine xRet_some ?_
            refine x_ireturn (dT U_X11_powers 44 rfl) rfl ?_
            exact k (by omega) (by omega) _ _ _ ((Ag.tr (Ag.tr (Ag.rf 70 142 h) (g1.w (by omega))) (g2.w (by omega))).set (by omega)) (w2.row (i := t) (l := tab (pws (σ.p : Int) x) 8) (fun a ha => by rw [hset_fr (by omega)]) ht (hset_eq (w2.rows t ht)))
          · exfalso; omega
        | succ n ih =>
          intro u hi_ 
          have xb := pws_b (p := (σ.p : Int)) (x := x) (by omega) u
          have xm := mulb (a := pws (σ.p : Int) x u) (b := x) (p := (σ.p : Int)) xb (by omega) (by omega)
          refine x_iload (dT U_X11_powers 19 rfl) rfl ?_
          refine x_bipush (dT U_X11_powers 20 rfl) (by decide) ?_
          refine x_icmp_ge (tgt := 65) (dT U_X11_powers 21 rfl) (by decide) (by unfold xr; omega) (by unfold xr at *; omega) (fun c36 => ?_) (fun c36 => ?_)
          · exfalso; omega
          · skip
            refine x_aload_n (dT U_X11_powers 22 rfl) rfl ?_
            refine x_getfield F_X11_18 (dT U_X11_powers 23 rfl) (hset_ne (by omega) (w2.c70)) (Nat.le_of_ble_eq_true rfl) rfl ?_
            refine x_iload_n (dT U_X11_powers 24 rfl) rfl ?_
            refine x_aaload (t) (dT U_X11_powers 25 rfl) (hset_ne (by omega) (w2.c73)) (Nat.le_of_ble_eq_true rfl) (by decide) rfl (mrL_get (by omega)) (Nat.le_of_ble_eq_true rfl) ?_
            refine x_iload (dT U_X11_powers 26 rfl) rfl ?_
            refine x_iload_n (dT U_X11_powers 27 rfl) rfl ?_
            refine x_iastore (u) (dT U_X11_powers 28 rfl) (hset_eq (w2.rows t ht)) (by omega) rfl (by rw [fillL_len, (v.rw t ht).1]; omega) (by rw [fillL_len, (v.rw t ht).1]; omega) ?_
            rw [List.set_set]
            refine x_aload_n (dT U_X11_powers 29 rfl) rfl ?_
            refine x_iload_n (dT U_X11_powers 30 rfl) rfl ?_
            refine x_i2l (dT U_X11_powers 31 rfl) (by unfold xr; omega) ?_
            refine x_iload_n (dT U_X11_powers 32 rfl) rfl ?_
            refine x_i2l (dT U_X11_powers 33 rfl) (by unfold xr; omega) ?_
            refine x_lmul (dT U_X11_powers 34 rfl) ?_
            refine x_invokevirtual (rc' := rc) (rs' := rs) (rc2 := 0) (rs2 := 0) (As := [_]) (st := _) M_X11_f K_X11_156 (dT U_X11_powers 35 rfl) rfl rfl (by decide) rfl rfl (hset_ne (by omega) (w2.c70)) (Nat.le_of_ble_eq_true rfl) (by decide) rfl (Nat.le_of_ble_eq_true rfl) rfl (by decide) (Nat.le_of_ble_eq_true rfl) rfl rfl ?_
            refine S_X11_f (MP.set (by omega) w2.mp) v.p (by unfold xrl; omega) ?_
            refine xRet_some ?_
            refine x_istore_n (ls' := [some (.ref _), some (vi _), some (vi _), some (vi _), some (vi _)]) (dT U_X11_powers 36 rfl) (by decide) rfl ?_
            refine x_iinc (ls' := [some (.ref _), some (vi _), some (vi _), some (vi _), some (vi _)]) (dT U_X11_powers 37 rfl) (by decide) rfl rfl ?_
            refine x_goto (tgt := 32) (dT U_X11_powers 38 rfl) (by decide) ?_
            exact ih (u + 1) (by omega)
      have q := L 8 0 (by omega)
      rw [show fillL (pws (σ.p : Int) x) (σ.rw t) 0 = σ.rw t from rfl, hset_self (w2.rows t ht)] at q
      exact q
    · refine xRet_some ?_
      refine x_iconst (dT U_X11_powers 10 rfl) ?_
      refine x_invokevirtual (rc' := rc) (rs' := rs) (rc2 := 0) (rs2 := 0) (As := [_, _]) (st := _) M_X11_lets K_X11_167 (dT U_X11_powers 11 rfl) rfl rfl (by decide) rfl rfl w1.c70 (Nat.le_of_ble_eq_true rfl) (by decide) rfl (Nat.le_of_ble_eq_true rfl) rfl (by decide) (Nat.le_of_ble_eq_true rfl) rfl rfl ?_
      refine S_X11_lets0 w1 (fun h2 g2 w2 => ?_)
      refine xRet_some ?_
      refine x_if_nen (tgt := 27) (dT U_X11_powers 12 rfl) (by decide) (by decide) ?_
      refine x_iconst (dT U_X11_powers 13 rfl) ?_
      refine x_ireturn (dT U_X11_powers 14 rfl) rfl ?_
      exact e2 (by omega) (by omega) _ _ (Ag.tr (Ag.tr (Ag.rf 70 142 h) (g1.w (by omega))) (g2.w (by omega))) w2 (by unfold xr; omega)
  · refine xRet_some ?_
    refine x_iconst (dT U_X11_powers 3 rfl) ?_
    refine x_invokevirtual (rc' := rc) (rs' := rs) (rc2 := 0) (rs2 := 0) (As := [_, _]) (st := _) M_X11_lets K_X11_167 (dT U_X11_powers 4 rfl) rfl rfl (by decide) rfl rfl w.c70 (Nat.le_of_ble_eq_true rfl) (by decide) rfl (Nat.le_of_ble_eq_true rfl) rfl (by decide) (Nat.le_of_ble_eq_true rfl) rfl rfl ?_
    refine S_X11_lets0 w (fun h1 g1 w1 => ?_)
    refine xRet_some ?_
    refine x_if_eqj (tgt := 25) (dT U_X11_powers 5 rfl) (by decide) (by decide) ?_
    refine x_iconst (dT U_X11_powers 13 rfl) ?_
    refine x_ireturn (dT U_X11_powers 14 rfl) rfl ?_
    exact e1 (by omega) _ _ (Ag.tr (Ag.rf 70 142 h) (g1.w (by omega))) w1 (by unfold xr; omega)

set_option maxRecDepth 20000 in
set_option maxHeartbeats 1000000 in
theorem S_X11_shifted {G : xG} {d rc rs : Nat} {ex : Bool} {h : xH} {Q : xQ} {p x : Nat} {aa : Nat} {al : List Int} (w : MP p h) (hp5 : p ∈ PR) (ha : h[aa]? = some (cA 0 al)) (a3 : 3 ≤ aa) (la : Fl (p : Int) al) (hx : x < p) (k : Q (.inl (some (vi (pw p (gf al) x 8)))) ex h) : X G m_X11_shifted (d + 1) rc rs ex 0 (xe m_X11_shifted.2.2.1 [.ref 70, .ref aa, vi (x : Int)]) [] h Q := by
  show X G m_X11_shifted _ _ _ _ 0 [some (.ref 70), some (.ref aa), some (vi (x : Int)), none, none] [] h Q
  have hp := PRb hp5
  have L : ∀ (n t : Nat), t + n = 8 → X G m_X11_shifted (d + 1) rc rs ex 5 [some (.ref 70), some (.ref aa), some (vi (x : Int)), some (vi (pw p (gf al) x t)), some (vi (t : Int))] [] h Q := by
    intro n
    induction n with
    | zero =>
      intro t hi_ 
      refine x_iload (dT U_X11_shifted 4 rfl) rfl ?_
      refine x_bipush (dT U_X11_shifted 5 rfl) (by decide) ?_
      refine x_icmp_ge (tgt := 33) (dT U_X11_shifted 6 rfl) (by decide) (by unfold xr; omega) (by unfold xr at *; omega) (fun c9 => ?_) (fun c9 => ?_)
      · skip
        have e : t = 8 := by omega
        subst e
        refine x_iload_n (dT U_X11_shifted 21 rfl) rfl ?_
        refine x_ireturn (dT U_X11_shifted 22 rfl) rfl ?_
        exact k
      · exfalso; omega
    | succ n ih =>
      intro t hi_ 
      have xb := pw_b (p := (p : Int)) (r := gf al) (x := (x : Int)) (by omega) t
      have xa := la.2 t
      have xm := mulg (a := pw p (gf al) x t) (b := (x : Int) + al.getD t 0) (m := 23) (n := 46) (by omega) (by omega)
      obtain ⟨c_, gc_, gb_, rr_, gcl_, ss_, gz_, go_, nc_, w70⟩ := id w
      refine x_iload (dT U_X11_shifted 4 rfl) rfl ?_
      refine x_bipush (dT U_X11_shifted 5 rfl) (by decide) ?_
      refine x_icmp_ge (tgt := 33) (dT U_X11_shifted 6 rfl) (by decide) (by unfold xr; omega) (by unfold xr at *; omega) (fun c9 => ?_) (fun c9 => ?_)
      · exfalso; omega
      · skip
        refine x_aload_n (dT U_X11_shifted 7 rfl) rfl ?_
        refine x_iload_n (dT U_X11_shifted 8 rfl) rfl ?_
        refine x_i2l (dT U_X11_shifted 9 rfl) (by unfold xr; omega) ?_
        refine x_iload_n (dT U_X11_shifted 10 rfl) rfl ?_
        refine x_aload_n (dT U_X11_shifted 11 rfl) rfl ?_
        refine x_iload (dT U_X11_shifted 12 rfl) rfl ?_
        refine x_iaload (t) (dT U_X11_shifted 13 rfl) ha a3 rfl (by have := la.1; omega) (by have := la.1; omega) ?_
        refine x_iadd (dT U_X11_shifted 14 rfl) ?_
        refine x_i2l (dT U_X11_shifted 15 rfl) (by unfold xr; omega) ?_
        refine x_lmul (dT U_X11_shifted 16 rfl) ?_
        refine x_invokevirtual (rc' := rc) (rs' := rs) (rc2 := 0) (rs2 := 0) (As := [_]) (st := _) M_X11_f K_X11_156 (dT U_X11_shifted 17 rfl) rfl rfl (by decide) rfl rfl w70 (Nat.le_of_ble_eq_true rfl) (by decide) rfl (Nat.le_of_ble_eq_true rfl) rfl (by decide) (Nat.le_of_ble_eq_true rfl) rfl rfl ?_
        refine S_X11_f w hp5 (by unfold xrl; omega) ?_
        refine xRet_some ?_
        refine x_istore_n (ls' := [some (.ref _), some (.ref _), some (vi _), some (vi _), some (vi _)]) (dT U_X11_shifted 18 rfl) (by decide) rfl ?_
        refine x_iinc (ls' := [some (.ref _), some (.ref _), some (vi _), some (vi _), some (vi _)]) (dT U_X11_shifted 19 rfl) (by decide) rfl rfl ?_
        refine x_goto (tgt := 5) (dT U_X11_shifted 20 rfl) (by decide) ?_
        exact ih (t + 1) (by omega)
  refine x_iconst (dT U_X11_shifted 0 rfl) ?_
  refine x_istore_n (ls' := [some (.ref _), some (.ref _), some (vi _), some (vi _), none]) (dT U_X11_shifted 1 rfl) (by decide) rfl ?_
  refine x_iconst (dT U_X11_shifted 2 rfl) ?_
  refine x_istore (ls' := [some (.ref _), some (.ref _), some (vi _), some (vi _), some (vi _)]) (dT U_X11_shifted 3 rfl) (by decide) rfl ?_
  exact L 8 0 (by omega)

set_option maxRecDepth 20000 in
set_option maxHeartbeats 1000000 in
theorem S_X11_meets {G : xG} {d rc rs : Nat} {ex : Bool} {h : xH} {Q : xQ} {σ : St} {cc0 : Int} {rr : Nat} {ss : Int} {row other : Int} (w : MX σ cc0 rr ss h) (v : INV σ) (h_row : xr row) (h_other : xr other) (e1 : ¬ (inb row 8 ∧ inb other 8) → ∀ h2 z, Ag 70 142 h h2 → MX σ 1 rr ss h2 → xr z → Q (.inl (some (vi z))) ex h2) (k : (inb row 8 ∧ inb other 8) → ∀ h2 r2 s2, Ag 70 142 h h2 → MX σ 0 r2 s2 h2 → Q (.inl (some (vi ((ct (fun x : Nat => pw σ.p (gf (σ.rw row.toNat)) x 8 = pw σ.p (gf (σ.rw other.toNat)) x 8) σ.p : Int))))) ex h2) : X G m_X11_meets (d + 2) rc rs ex 0 (xe m_X11_meets.2.2.1 [.ref 70, vi row, vi other]) [] h Q := by
  show X G m_X11_meets _ _ _ _ 0 [some (.ref 70), some (vi row), some (vi other), none, none] [] h Q
  have hp := PRb v.p
  have hq := gq_b v.p
  refine x_aload_n (dT U_X11_meets 0 rfl) rfl ?_
  refine x_iload_n (dT U_X11_meets 1 rfl) rfl ?_
  refine x_invokestatic (rc' := rc) (rs' := rs) (rc2 := 0) (rs2 := 0) (As := [_]) (st := _) M_X11_isRow K_X11_164 (dT U_X11_meets 2 rfl) rfl rfl rfl rfl (Nat.le_of_ble_eq_true rfl) rfl (by decide) (Nat.le_of_ble_eq_true rfl) rfl rfl ?_
  refine S_X11_isRow h_row (fun q1 => ?_) (fun q1 => ?_)
  · refine xRet_some ?_
    refine x_if_eqn (tgt := 19) (dT U_X11_meets 3 rfl) (by decide) (by decide) ?_
    refine x_iload_n (dT U_X11_meets 4 rfl) rfl ?_
    refine x_invokestatic (rc' := rc) (rs' := rs) (rc2 := 0) (rs2 := 0) (As := [_]) (st := _) M_X11_isRow K_X11_164 (dT U_X11_meets 5 rfl) rfl rfl rfl rfl (Nat.le_of_ble_eq_true rfl) rfl (by decide) (Nat.le_of_ble_eq_true rfl) rfl rfl ?_
    refine S_X11_isRow h_other (fun q2 => ?_) (fun q2 => ?_)
    · refine xRet_some ?_
      refine x_if_eqn (tgt := 19) (dT U_X11_meets 6 rfl) (by decide) (by decide) ?_
      refine x_iconst (dT U_X11_meets 7 rfl) ?_
      refine x_goto (tgt := 20) (dT U_X11_meets 8 rfl) (by decide) ?_
      refine x_iconst (dT U_X11_meets 10 rfl) ?_
      refine x_invokevirtual (rc' := rc) (rs' := rs) (rc2 := 0) (rs2 := 0) (As := [_, _]) (st := _) M_X11_lets K_X11_167 (dT U_X11_meets 11 rfl) rfl rfl (by decide) rfl rfl w.c70 (Nat.le_of_ble_eq_true rfl) (by decide) rfl (Nat.le_of_ble_eq_true rfl) rfl (by decide) (Nat.le_of_ble_eq_true rfl) rfl rfl ?_
      refine S_X11_lets1 w (fun h1 g1 w1 => ?_)
      refine xRet_some ?_
      obtain ⟨i, hi, rfl⟩ : ∃ j : Nat, j < 8 ∧ row = (j : Int) := ⟨row.toNat, by omega, by omega⟩
      try simp only [tnc] at e1 k
      obtain ⟨j, hj, rfl⟩ : ∃ j : Nat, j < 8 ∧ other = (j : Int) := ⟨other.toNat, by omega, by omega⟩
      try simp only [tnc] at e1 k
      refine x_if_nej (tgt := 29) (dT U_X11_meets 12 rfl) (by decide) (by decide) ?_
      refine x_iconst (dT U_X11_meets 15 rfl) ?_
      refine x_istore_n (ls' := [some (.ref _), some (vi _), some (vi _), some (vi _), none]) (dT U_X11_meets 16 rfl) (by decide) rfl ?_
      refine x_iconst (dT U_X11_meets 17 rfl) ?_
      refine x_istore (ls' := [some (.ref _), some (vi _), some (vi _), some (vi _), some (vi _)]) (dT U_X11_meets 18 rfl) (by decide) rfl ?_
      have L : ∀ (n u : Nat), u + n = σ.p → X G m_X11_meets (d + 2) rc rs ex 34 [some (.ref 70), some (vi (i : Int)), some (vi (j : Int)), some (vi (ct (fun x : Nat => pw σ.p (gf (σ.rw i)) x 8 = pw σ.p (gf (σ.rw j)) x 8) u : Int)), some (vi (u : Int))] [] h1 Q := by
        intro n
        induction n with
        | zero =>
          intro u hi_ 
          refine x_iload (dT U_X11_meets 19 rfl) rfl ?_
          refine x_aload_n (dT U_X11_meets 20 rfl) rfl ?_
          refine x_getfield F_X11_130 (dT U_X11_meets 21 rfl) w1.c70 (Nat.le_of_ble_eq_true rfl) rfl ?_
          refine x_icmp_ge (tgt := 84) (dT U_X11_meets 22 rfl) (by decide) (by unfold xr; omega) (by unfold xr; omega) (fun c40 => ?_) (fun c40 => ?_)
          · skip
            have e : u = σ.p := by omega
            rw [e]
            refine x_iload_n (dT U_X11_meets 46 rfl) rfl ?_
            refine x_ireturn (dT U_X11_meets 47 rfl) rfl ?_
            exact k (by omega) _ _ _ (Ag.tr (Ag.rf 70 142 h) (g1.w (by omega))) w1
          · exfalso; omega
        | succ n ih =>
          intro u hi_ 
          refine x_iload (dT U_X11_meets 19 rfl) rfl ?_
          refine x_aload_n (dT U_X11_meets 20 rfl) rfl ?_
          refine x_getfield F_X11_130 (dT U_X11_meets 21 rfl) w1.c70 (Nat.le_of_ble_eq_true rfl) rfl ?_
          refine x_icmp_ge (tgt := 84) (dT U_X11_meets 22 rfl) (by decide) (by unfold xr; omega) (by unfold xr; omega) (fun c40 => ?_) (fun c40 => ?_)
          · exfalso; omega
          · skip
            refine x_iload_n (dT U_X11_meets 23 rfl) rfl ?_
            refine x_aload_n (dT U_X11_meets 24 rfl) rfl ?_
            refine x_aload_n (dT U_X11_meets 25 rfl) rfl ?_
            refine x_getfield F_X11_18 (dT U_X11_meets 26 rfl) w1.c70 (Nat.le_of_ble_eq_true rfl) rfl ?_
            refine x_iload_n (dT U_X11_meets 27 rfl) rfl ?_
            refine x_aaload (i) (dT U_X11_meets 28 rfl) w1.c73 (Nat.le_of_ble_eq_true rfl) (by decide) rfl (mrL_get (by omega)) (Nat.le_of_ble_eq_true rfl) ?_
            refine x_iload (dT U_X11_meets 29 rfl) rfl ?_
            refine x_invokevirtual (rc' := rc) (rs' := rs) (rc2 := 0) (rs2 := 0) (As := [_, _]) (st := _) M_X11_shifted K_X11_205 (dT U_X11_meets 30 rfl) rfl rfl (by decide) rfl rfl w1.c70 (Nat.le_of_ble_eq_true rfl) (by decide) rfl (Nat.le_of_ble_eq_true rfl) rfl (by decide) (Nat.le_of_ble_eq_true rfl) rfl rfl ?_
            refine S_X11_shifted w1.mp v.p (w1.rows i hi) (by omega) (v.rw i hi) (by omega) ?_
            refine xRet_some ?_
            refine x_aload_n (dT U_X11_meets 31 rfl) rfl ?_
            refine x_aload_n (dT U_X11_meets 32 rfl) rfl ?_
            refine x_getfield F_X11_18 (dT U_X11_meets 33 rfl) w1.c70 (Nat.le_of_ble_eq_true rfl) rfl ?_
            refine x_iload_n (dT U_X11_meets 34 rfl) rfl ?_
            refine x_aaload (j) (dT U_X11_meets 35 rfl) w1.c73 (Nat.le_of_ble_eq_true rfl) (by decide) rfl (mrL_get (by omega)) (Nat.le_of_ble_eq_true rfl) ?_
            refine x_iload (dT U_X11_meets 36 rfl) rfl ?_
            refine x_invokevirtual (rc' := rc) (rs' := rs) (rc2 := 0) (rs2 := 0) (As := [_, _]) (st := _) M_X11_shifted K_X11_205 (dT U_X11_meets 37 rfl) rfl rfl (by decide) rfl rfl w1.c70 (Nat.le_of_ble_eq_true rfl) (by decide) rfl (Nat.le_of_ble_eq_true rfl) rfl (by decide) (Nat.le_of_ble_eq_true rfl) rfl rfl ?_
            refine S_X11_shifted w1.mp v.p (w1.rows j hj) (by omega) (v.rw j hj) (by omega) ?_
            refine xRet_some ?_
            have xb := pw_b (p := (σ.p : Int)) (r := gf (σ.rw i)) (x := (u : Int)) (by omega) 8
            have xc := pw_b (p := (σ.p : Int)) (r := gf (σ.rw j)) (x := (u : Int)) (by omega) 8
            refine x_icmp_ne (tgt := 75) (dT U_X11_meets 38 rfl) (by decide) (by unfold xr; omega) (by unfold xr; omega) (fun c68 => ?_) (fun c68 => ?_)
            · skip
              refine x_iconst (dT U_X11_meets 41 rfl) ?_
              refine x_iadd (dT U_X11_meets 42 rfl) ?_
              refine x_istore_n (ls' := [some (.ref _), some (vi _), some (vi _), some (vi _), some (vi _)]) (dT U_X11_meets 43 rfl) (by decide) rfl ?_
              refine x_iinc (ls' := [some (.ref _), some (vi _), some (vi _), some (vi _), some (vi _)]) (dT U_X11_meets 44 rfl) (by decide) rfl rfl ?_
              refine x_goto (tgt := 34) (dT U_X11_meets 45 rfl) (by decide) ?_
              have q := ih (u + 1) (by omega)
              first | rw [ct_yes (P := (fun x : Nat => pw σ.p (gf (σ.rw i)) x 8 = pw σ.p (gf (σ.rw j)) x 8)) c68] at q | rw [ct_no (P := (fun x : Nat => pw σ.p (gf (σ.rw i)) x 8 = pw σ.p (gf (σ.rw j)) x 8)) c68] at q
              first | exact q | (rw [show (ct (fun x : Nat => pw σ.p (gf (σ.rw i)) x 8 = pw σ.p (gf (σ.rw j)) x 8) u : Int) + 0 = (ct (fun x : Nat => pw σ.p (gf (σ.rw i)) x 8 = pw σ.p (gf (σ.rw j)) x 8) u : Int) from Int.add_zero _]; exact q)
            · skip
              refine x_iconst (dT U_X11_meets 39 rfl) ?_
              refine x_goto (tgt := 76) (dT U_X11_meets 40 rfl) (by decide) ?_
              refine x_iadd (dT U_X11_meets 42 rfl) ?_
              refine x_istore_n (ls' := [some (.ref _), some (vi _), some (vi _), some (vi _), some (vi _)]) (dT U_X11_meets 43 rfl) (by decide) rfl ?_
              refine x_iinc (ls' := [some (.ref _), some (vi _), some (vi _), some (vi _), some (vi _)]) (dT U_X11_meets 44 rfl) (by decide) rfl rfl ?_
              refine x_goto (tgt := 34) (dT U_X11_meets 45 rfl) (by decide) ?_
              have q := ih (u + 1) (by omega)
              first | rw [ct_yes (P := (fun x : Nat => pw σ.p (gf (σ.rw i)) x 8 = pw σ.p (gf (σ.rw j)) x 8)) c68] at q | rw [ct_no (P := (fun x : Nat => pw σ.p (gf (σ.rw i)) x 8 = pw σ.p (gf (σ.rw j)) x 8)) c68] at q
              first | exact q | (rw [show (ct (fun x : Nat => pw σ.p (gf (σ.rw i)) x 8 = pw σ.p (gf (σ.rw j)) x 8) u : Int) + 0 = (ct (fun x : Nat => pw σ.p (gf (σ.rw i)) x 8 = pw σ.p (gf (σ.rw j)) x 8) u : Int) from Int.add_zero _]; exact q)
      exact L σ.p 0 (by omega)
    · refine xRet_some ?_
      refine x_if_eqj (tgt := 19) (dT U_X11_meets 6 rfl) (by decide) (by decide) ?_
      refine x_iconst (dT U_X11_meets 9 rfl) ?_
      refine x_iconst (dT U_X11_meets 10 rfl) ?_
      refine x_invokevirtual (rc' := rc) (rs' := rs) (rc2 := 0) (rs2 := 0) (As := [_, _]) (st := _) M_X11_lets K_X11_167 (dT U_X11_meets 11 rfl) rfl rfl (by decide) rfl rfl w.c70 (Nat.le_of_ble_eq_true rfl) (by decide) rfl (Nat.le_of_ble_eq_true rfl) rfl (by decide) (Nat.le_of_ble_eq_true rfl) rfl rfl ?_
      refine S_X11_lets0 w (fun h1 g1 w1 => ?_)
      refine xRet_some ?_
      refine x_if_nen (tgt := 29) (dT U_X11_meets 12 rfl) (by decide) (by decide) ?_
      refine x_iconst (dT U_X11_meets 13 rfl) ?_
      refine x_ireturn (dT U_X11_meets 14 rfl) rfl ?_
      exact e1 (by omega) _ _ (Ag.tr (Ag.rf 70 142 h) (g1.w (by omega))) w1 (by unfold xr; omega)
  · refine xRet_some ?_
    refine x_if_eqj (tgt := 19) (dT U_X11_meets 3 rfl) (by decide) (by decide) ?_
    refine x_iconst (dT U_X11_meets 9 rfl) ?_
    refine x_iconst (dT U_X11_meets 10 rfl) ?_
    refine x_invokevirtual (rc' := rc) (rs' := rs) (rc2 := 0) (rs2 := 0) (As := [_, _]) (st := _) M_X11_lets K_X11_167 (dT U_X11_meets 11 rfl) rfl rfl (by decide) rfl rfl w.c70 (Nat.le_of_ble_eq_true rfl) (by decide) rfl (Nat.le_of_ble_eq_true rfl) rfl (by decide) (Nat.le_of_ble_eq_true rfl) rfl rfl ?_
    refine S_X11_lets0 w (fun h1 g1 w1 => ?_)
    refine xRet_some ?_
    refine x_if_nen (tgt := 29) (dT U_X11_meets 12 rfl) (by decide) (by decide) ?_
    refine x_iconst (dT U_X11_meets 13 rfl) ?_
    refine x_ireturn (dT U_X11_meets 14 rfl) rfl ?_
    exact e1 (by omega) _ _ (Ag.tr (Ag.rf 70 142 h) (g1.w (by omega))) w1 (by unfold xr; omega)

theorem ct_sum {r : Nat → Int} : ∀ (n p : Nat), (∀ j, j < n → 0 ≤ r j ∧ r j < (p : Int)) → sm (fun x => (ct (fun j => r j = (x : Int)) n : Int)) p = (n : Int)
  | 0, p, _ => by
    induction p with
    | zero => rfl
    | succ p ih => show sm _ p + 0 = 0; rw [ih (fun j hj => absurd hj (Nat.not_lt_zero j))]; rfl
  | n + 1, p, h => by
    have ih := ct_sum (r := r) n p (fun j hj => h j (by omega))
    have hn := h n (by omega)
    have e : ∀ q : Nat, sm (fun x => (ct (fun j => r j = (x : Int)) (n + 1) : Int)) q = sm (fun x => (ct (fun j => r j = (x : Int)) n : Int)) q + (if r n < (q : Int) then 1 else 0) := by
      intro q
      induction q with
      | zero => rw [if_neg (by omega)]; rfl
      | succ q ihq =>
        show sm _ q + ((ct (fun j => r j = (q : Int)) n + (if r n = (q : Int) then 1 else 0) : Nat) : Int) = sm _ q + (ct (fun j => r j = (q : Int)) n : Int) + (if r n < ((q + 1 : Nat) : Int) then 1 else 0)
        rw [ihq]
        by_cases c : r n = (q : Int)
        · rw [if_pos c, if_neg (by omega), if_pos (by omega)]; omega
        · rw [if_neg c]
          by_cases c2 : r n < (q : Int)
          · rw [if_pos c2, if_pos (by omega)]; omega
          · rw [if_neg c2, if_neg (by omega)]; omega
    rw [e p, ih, if_pos hn.2]
    omega
theorem sm_ge {f g : Nat → Int} : ∀ n, (∀ j, j < n → f j ≤ g j) → sm f n ≤ sm g n ∧ (sm f n = sm g n → ∀ j, j < n → f j = g j)
  | 0, _ => ⟨Int.le_refl 0, fun _ j hj => absurd hj (Nat.not_lt_zero j)⟩
  | n + 1, h => by
    have ih := sm_ge (f := f) (g := g) n (fun j hj => h j (by omega))
    have hn := h n (by omega)
    refine ⟨by show sm f n + f n ≤ sm g n + g n; omega, fun z j hj => ?_⟩
    have z2 : sm f n + f n = sm g n + g n := z
    by_cases e : j = n
    · subst e; omega
    · exact ih.2 (by omega) j (by omega)
theorem sameN_all {r o : Nat → Int} {p : Nat} (hr : ∀ j, 0 ≤ r j ∧ r j < (p : Int)) (ho : ∀ j, 0 ≤ o j ∧ o j < (p : Int)) : sameN r o ↔ ∀ x, x < p → ct (fun j => r j = (x : Int)) 8 = ct (fun j => o j = (x : Int)) 8 := by
  constructor
  · intro h
    have le : ∀ x, x < p → (ct (fun j => r j = (x : Int)) 8 : Int) ≤ (ct (fun j => o j = (x : Int)) 8 : Int) := by
      intro x _
      by_cases c : 0 < ct (fun j => r j = (x : Int)) 8
      · obtain ⟨i, hi, e⟩ := ct_pos c
        have := h i hi
        rw [e] at this
        omega
      · omega
    have q := (sm_ge p le).2 (by rw [ct_sum 8 p (fun j _ => hr j), ct_sum 8 p (fun j _ => ho j)])
    intro x hx
    have := q x hx
    omega
  · intro h i _
    have b := hr i
    have := h (r i).toNat (by omega)
    rw [Int.toNat_of_nonneg b.1] at this
    exact this

set_option maxRecDepth 20000 in
set_option maxHeartbeats 1000000 in
theorem S_X11_isMixed {G : xG} {d rc rs : Nat} {ex : Bool} {h : xH} {Q : xQ} {σ : St} {cc0 : Int} {rr : Nat} {ss : Int} {row other : Int} (w : MX σ cc0 rr ss h) (v : INV σ) (h_row : xr row) (h_other : xr other) (e1 : ¬ (inb row 8 ∧ inb other 8) → ∀ h2 z, Ag 70 142 h h2 → MX σ 1 rr ss h2 → xr z → Q (.inl (some (vi z))) ex h2) (k1 : (inb row 8 ∧ inb other 8) → sameN (gf (σ.rw row.toNat)) (gf (σ.rw other.toNat)) → ∀ h2 r2 s2, Ag 70 142 h h2 → MX σ 0 r2 s2 h2 → Q (.inl (some (vi 1))) ex h2) (k0 : (inb row 8 ∧ inb other 8) → ¬ (sameN (gf (σ.rw row.toNat)) (gf (σ.rw other.toNat))) → ∀ h2 r2 s2, Ag 70 142 h h2 → MX σ 0 r2 s2 h2 → Q (.inl (some (vi 0))) ex h2) : X G m_X11_isMixed (d + 2) rc rs ex 0 (xe m_X11_isMixed.2.2.1 [.ref 70, vi row, vi other]) [] h Q := by
  show X G m_X11_isMixed _ _ _ _ 0 [some (.ref 70), some (vi row), some (vi other), none] [] h Q
  have hp := PRb v.p
  have hq := gq_b v.p
  refine x_aload_n (dT U_X11_isMixed 0 rfl) rfl ?_
  refine x_iload_n (dT U_X11_isMixed 1 rfl) rfl ?_
  refine x_invokestatic (rc' := rc) (rs' := rs) (rc2 := 0) (rs2 := 0) (As := [_]) (st := _) M_X11_isRow K_X11_164 (dT U_X11_isMixed 2 rfl) rfl rfl rfl rfl (Nat.le_of_ble_eq_true rfl) rfl (by decide) (Nat.le_of_ble_eq_true rfl) rfl rfl ?_
  refine S_X11_isRow h_row (fun q1 => ?_) (fun q1 => ?_)
  · refine xRet_some ?_
    refine x_if_eqn (tgt := 19) (dT U_X11_isMixed 3 rfl) (by decide) (by decide) ?_
    refine x_iload_n (dT U_X11_isMixed 4 rfl) rfl ?_
    refine x_invokestatic (rc' := rc) (rs' := rs) (rc2 := 0) (rs2 := 0) (As := [_]) (st := _) M_X11_isRow K_X11_164 (dT U_X11_isMixed 5 rfl) rfl rfl rfl rfl (Nat.le_of_ble_eq_true rfl) rfl (by decide) (Nat.le_of_ble_eq_true rfl) rfl rfl ?_
    refine S_X11_isRow h_other (fun q2 => ?_) (fun q2 => ?_)
    · refine xRet_some ?_
      refine x_if_eqn (tgt := 19) (dT U_X11_isMixed 6 rfl) (by decide) (by decide) ?_
      refine x_iconst (dT U_X11_isMixed 7 rfl) ?_
      refine x_goto (tgt := 20) (dT U_X11_isMixed 8 rfl) (by decide) ?_
      refine x_iconst (dT U_X11_isMixed 10 rfl) ?_
      refine x_invokevirtual (rc' := rc) (rs' := rs) (rc2 := 0) (rs2 := 0) (As := [_, _]) (st := _) M_X11_lets K_X11_167 (dT U_X11_isMixed 11 rfl) rfl rfl (by decide) rfl rfl w.c70 (Nat.le_of_ble_eq_true rfl) (by decide) rfl (Nat.le_of_ble_eq_true rfl) rfl (by decide) (Nat.le_of_ble_eq_true rfl) rfl rfl ?_
      refine S_X11_lets1 w (fun h1 g1 w1 => ?_)
      refine xRet_some ?_
      obtain ⟨i, hi, rfl⟩ : ∃ j : Nat, j < 8 ∧ row = (j : Int) := ⟨row.toNat, by omega, by omega⟩
      try simp only [tnc] at e1 k1 k0
      obtain ⟨j, hj, rfl⟩ : ∃ j : Nat, j < 8 ∧ other = (j : Int) := ⟨other.toNat, by omega, by omega⟩
      try simp only [tnc] at e1 k1 k0
      refine x_if_nej (tgt := 29) (dT U_X11_isMixed 12 rfl) (by decide) (by decide) ?_
      refine x_iconst (dT U_X11_isMixed 15 rfl) ?_
      refine x_istore_n (ls' := [some (.ref _), some (vi _), some (vi _), some (vi _)]) (dT U_X11_isMixed 16 rfl) (by decide) rfl ?_
      have L : ∀ (n u : Nat), u + n = σ.p → (∀ x, x < u → ct (fun t => gf (σ.rw i) t = (x : Int)) 8 = ct (fun t => gf (σ.rw j) t = (x : Int)) 8) → X G m_X11_isMixed (d + 2) rc rs ex 31 [some (.ref 70), some (vi (i : Int)), some (vi (j : Int)), some (vi (u : Int))] [] h1 Q := by
        intro n
        induction n with
        | zero =>
          intro u hi_ hx
          refine x_iload_n (dT U_X11_isMixed 17 rfl) rfl ?_
          refine x_aload_n (dT U_X11_isMixed 18 rfl) rfl ?_
          refine x_getfield F_X11_130 (dT U_X11_isMixed 19 rfl) w1.c70 (Nat.le_of_ble_eq_true rfl) rfl ?_
          refine x_icmp_ge (tgt := 70) (dT U_X11_isMixed 20 rfl) (by decide) (by unfold xr; omega) (by unfold xr; omega) (fun c36 => ?_) (fun c36 => ?_)
          · skip
            refine x_iconst (dT U_X11_isMixed 38 rfl) ?_
            refine x_zreturn (dT U_X11_isMixed 39 rfl) rfl (by omega) ?_
            exact k1 (by omega) ((sameN_all (v.rw i hi).2 (v.rw j hj).2).mpr (fun x hx9 => hx x (by omega))) _ _ _ (Ag.tr (Ag.rf 70 142 h) (g1.w (by omega))) w1
          · exfalso; omega
        | succ n ih =>
          intro u hi_ hx
          refine x_iload_n (dT U_X11_isMixed 17 rfl) rfl ?_
          refine x_aload_n (dT U_X11_isMixed 18 rfl) rfl ?_
          refine x_getfield F_X11_130 (dT U_X11_isMixed 19 rfl) w1.c70 (Nat.le_of_ble_eq_true rfl) rfl ?_
          refine x_icmp_ge (tgt := 70) (dT U_X11_isMixed 20 rfl) (by decide) (by unfold xr; omega) (by unfold xr; omega) (fun c36 => ?_) (fun c36 => ?_)
          · exfalso; omega
          · skip
            refine x_aload_n (dT U_X11_isMixed 21 rfl) rfl ?_
            refine x_getfield F_X11_18 (dT U_X11_isMixed 22 rfl) w1.c70 (Nat.le_of_ble_eq_true rfl) rfl ?_
            refine x_iload_n (dT U_X11_isMixed 23 rfl) rfl ?_
            refine x_aaload (i) (dT U_X11_isMixed 24 rfl) w1.c73 (Nat.le_of_ble_eq_true rfl) (by decide) rfl (mrL_get (by omega)) (Nat.le_of_ble_eq_true rfl) ?_
            refine x_iload_n (dT U_X11_isMixed 25 rfl) rfl ?_
            refine x_invokestatic (rc' := rc) (rs' := rs) (rc2 := 0) (rs2 := 0) (As := [_, _]) (st := _) M_X11_often K_X11_201 (dT U_X11_isMixed 26 rfl) rfl rfl rfl rfl (Nat.le_of_ble_eq_true rfl) rfl (by decide) (Nat.le_of_ble_eq_true rfl) rfl rfl ?_
            refine S_X11_often (w1.rows i hi) (by omega) (v.rw i hi).1 (fun t => by have := (v.rw i hi).2 t; unfold xr; omega) (by unfold xr; omega) ?_
            refine xRet_some ?_
            refine x_aload_n (dT U_X11_isMixed 27 rfl) rfl ?_
            refine x_getfield F_X11_18 (dT U_X11_isMixed 28 rfl) w1.c70 (Nat.le_of_ble_eq_true rfl) rfl ?_
            refine x_iload_n (dT U_X11_isMixed 29 rfl) rfl ?_
            refine x_aaload (j) (dT U_X11_isMixed 30 rfl) w1.c73 (Nat.le_of_ble_eq_true rfl) (by decide) rfl (mrL_get (by omega)) (Nat.le_of_ble_eq_true rfl) ?_
            refine x_iload_n (dT U_X11_isMixed 31 rfl) rfl ?_
            refine x_invokestatic (rc' := rc) (rs' := rs) (rc2 := 0) (rs2 := 0) (As := [_, _]) (st := _) M_X11_often K_X11_201 (dT U_X11_isMixed 32 rfl) rfl rfl rfl rfl (Nat.le_of_ble_eq_true rfl) rfl (by decide) (Nat.le_of_ble_eq_true rfl) rfl rfl ?_
            refine S_X11_often (w1.rows j hj) (by omega) (v.rw j hj).1 (fun t => by have := (v.rw j hj).2 t; unfold xr; omega) (by unfold xr; omega) ?_
            refine xRet_some ?_
            have l1 := ct_le (fun t => gf (σ.rw i) t = (u : Int)) 8
            have l2 := ct_le (fun t => gf (σ.rw j) t = (u : Int)) 8
            refine x_icmp_eq (tgt := 64) (dT U_X11_isMixed 33 rfl) (by decide) (by unfold xr; omega) (by unfold xr; omega) (fun c59 => ?_) (fun c59 => ?_)
            · skip
              refine x_iinc (ls' := [some (.ref _), some (vi _), some (vi _), some (vi _)]) (dT U_X11_isMixed 36 rfl) (by decide) rfl rfl ?_
              refine x_goto (tgt := 31) (dT U_X11_isMixed 37 rfl) (by decide) ?_
              refine ih (u + 1) (by omega) (fun x hx9 => ?_)
              by_cases e : x = u
              · rw [e]; omega
              · exact hx x (by omega)
            · skip
              refine x_iconst (dT U_X11_isMixed 34 rfl) ?_
              refine x_zreturn (dT U_X11_isMixed 35 rfl) rfl (by omega) ?_
              exact k0 (by omega) (fun z => c59 (congrArg (fun n9 : Nat => (n9 : Int)) ((sameN_all (v.rw i hi).2 (v.rw j hj).2).mp z u (by omega)))) _ _ _ (Ag.tr (Ag.rf 70 142 h) (g1.w (by omega))) w1
      exact L σ.p 0 (by omega) (fun x hx9 => absurd hx9 (Nat.not_lt_zero x))
    · refine xRet_some ?_
      refine x_if_eqj (tgt := 19) (dT U_X11_isMixed 6 rfl) (by decide) (by decide) ?_
      refine x_iconst (dT U_X11_isMixed 9 rfl) ?_
      refine x_iconst (dT U_X11_isMixed 10 rfl) ?_
      refine x_invokevirtual (rc' := rc) (rs' := rs) (rc2 := 0) (rs2 := 0) (As := [_, _]) (st := _) M_X11_lets K_X11_167 (dT U_X11_isMixed 11 rfl) rfl rfl (by decide) rfl rfl w.c70 (Nat.le_of_ble_eq_true rfl) (by decide) rfl (Nat.le_of_ble_eq_true rfl) rfl (by decide) (Nat.le_of_ble_eq_true rfl) rfl rfl ?_
      refine S_X11_lets0 w (fun h1 g1 w1 => ?_)
      refine xRet_some ?_
      refine x_if_nen (tgt := 29) (dT U_X11_isMixed 12 rfl) (by decide) (by decide) ?_
      refine x_iconst (dT U_X11_isMixed 13 rfl) ?_
      refine x_zreturn (dT U_X11_isMixed 14 rfl) rfl (by omega) ?_
      exact e1 (by omega) _ _ (Ag.tr (Ag.rf 70 142 h) (g1.w (by omega))) w1 (by unfold xr; omega)
  · refine xRet_some ?_
    refine x_if_eqj (tgt := 19) (dT U_X11_isMixed 3 rfl) (by decide) (by decide) ?_
    refine x_iconst (dT U_X11_isMixed 9 rfl) ?_
    refine x_iconst (dT U_X11_isMixed 10 rfl) ?_
    refine x_invokevirtual (rc' := rc) (rs' := rs) (rc2 := 0) (rs2 := 0) (As := [_, _]) (st := _) M_X11_lets K_X11_167 (dT U_X11_isMixed 11 rfl) rfl rfl (by decide) rfl rfl w.c70 (Nat.le_of_ble_eq_true rfl) (by decide) rfl (Nat.le_of_ble_eq_true rfl) rfl (by decide) (Nat.le_of_ble_eq_true rfl) rfl rfl ?_
    refine S_X11_lets0 w (fun h1 g1 w1 => ?_)
    refine xRet_some ?_
    refine x_if_nen (tgt := 29) (dT U_X11_isMixed 12 rfl) (by decide) (by decide) ?_
    refine x_iconst (dT U_X11_isMixed 13 rfl) ?_
    refine x_zreturn (dT U_X11_isMixed 14 rfl) rfl (by omega) ?_
    exact e1 (by omega) _ _ (Ag.tr (Ag.rf 70 142 h) (g1.w (by omega))) w1 (by unfold xr; omega)

set_option maxRecDepth 20000 in
set_option maxHeartbeats 1000000 in
theorem S_X11_base {G : xG} {d rc rs : Nat} {ex : Bool} {h : xH} {Q : xQ} {σ : St} {cc0 : Int} {rr : Nat} {ss : Int} {n : Int} (w : MX σ cc0 rr ss h) (v : INV σ) (h_n : xr n) (e1 : ¬ (inb n 9) → ∀ h2 z, Ag 70 142 h h2 → MX σ 1 rr ss h2 → xr z → Q (.inl (some (vi z))) ex h2) (k : (inb n 9) → ∀ h2 r2 s2, Ag 70 142 h h2 → MX σ 0 r2 s2 h2 → Q (.inl (some (vi (MM σ.p (bs σ.p n.toNat : Int))))) ex h2) : X G m_X11_base (d + 1) rc rs ex 0 (xe m_X11_base.2.2.1 [.ref 70, vi n]) [] h Q := by
  show X G m_X11_base _ _ _ _ 0 [some (.ref 70), some (vi n)] [] h Q
  have hp := PRb v.p
  have hq := gq_b v.p
  refine x_aload_n (dT U_X11_base 0 rfl) rfl ?_
  refine x_iload_n (dT U_X11_base 1 rfl) rfl ?_
  refine x_bipush (dT U_X11_base 2 rfl) (by decide) ?_
  refine x_invokestatic (rc' := rc) (rs' := rs) (rc2 := 0) (rs2 := 0) (As := [_, _]) (st := _) M_X11_in K_X11_126 (dT U_X11_base 3 rfl) rfl rfl rfl rfl (Nat.le_of_ble_eq_true rfl) rfl (by decide) (Nat.le_of_ble_eq_true rfl) rfl rfl ?_
  refine S_X11_in h_n (by unfold xr; omega) (fun q1 => ?_) (fun q1 => ?_)
  · refine xRet_some ?_
    refine x_iconst (dT U_X11_base 4 rfl) ?_
    refine x_invokevirtual (rc' := rc) (rs' := rs) (rc2 := 0) (rs2 := 0) (As := [_, _]) (st := _) M_X11_lets K_X11_167 (dT U_X11_base 5 rfl) rfl rfl (by decide) rfl rfl w.c70 (Nat.le_of_ble_eq_true rfl) (by decide) rfl (Nat.le_of_ble_eq_true rfl) rfl (by decide) (Nat.le_of_ble_eq_true rfl) rfl rfl ?_
    refine S_X11_lets1 w (fun h1 g1 w1 => ?_)
    refine xRet_some ?_
    obtain ⟨j, hj, rfl⟩ : ∃ j : Nat, j < 9 ∧ n = (j : Int) := ⟨n.toNat, by omega, by omega⟩
    try simp only [tnc] at e1 k
    refine x_if_eqn (tgt := 27) (dT U_X11_base 6 rfl) (by decide) (by decide) ?_
    refine x_aload_n (dT U_X11_base 7 rfl) rfl ?_
    refine x_getfield F_X11_7 (dT U_X11_base 8 rfl) w1.c70 (Nat.le_of_ble_eq_true rfl) rfl ?_
    refine x_aload_n (dT U_X11_base 9 rfl) rfl ?_
    refine x_iload_n (dT U_X11_base 10 rfl) rfl ?_
    refine x_invokevirtual (rc' := rc) (rs' := rs) (rc2 := 0) (rs2 := 0) (As := [_]) (st := _) M_X11_of K_X11_160 (dT U_X11_base 11 rfl) rfl rfl (by decide) rfl rfl w1.c70 (Nat.le_of_ble_eq_true rfl) (by decide) rfl (Nat.le_of_ble_eq_true rfl) rfl (by decide) (Nat.le_of_ble_eq_true rfl) rfl rfl ?_
    have bb := bs_b v.p (i := j) (by omega)
    refine S_X11_of (w1.mp) v.p (by omega) ?_
    refine xRet_some ?_
    obtain ⟨ml, m1, m2, m3⟩ := w1.pow
    refine x_ialoadv (((bs σ.p j : Int)).toNat) (dT U_X11_base 12 rfl) m1 (Nat.le_of_ble_eq_true rfl) (by omega) (by rw [m2]; omega) (by rw [m2]; omega) (show _ = MM σ.p ((bs σ.p j : Int)) from m3 _ (by omega)) ?_
    refine x_goto (tgt := 28) (dT U_X11_base 13 rfl) (by decide) ?_
    refine x_ireturn (dT U_X11_base 15 rfl) rfl ?_
    exact k (by omega) _ _ _ (Ag.tr (Ag.rf 70 142 h) (g1.w (by omega))) w1
  · refine xRet_some ?_
    refine x_iconst (dT U_X11_base 4 rfl) ?_
    refine x_invokevirtual (rc' := rc) (rs' := rs) (rc2 := 0) (rs2 := 0) (As := [_, _]) (st := _) M_X11_lets K_X11_167 (dT U_X11_base 5 rfl) rfl rfl (by decide) rfl rfl w.c70 (Nat.le_of_ble_eq_true rfl) (by decide) rfl (Nat.le_of_ble_eq_true rfl) rfl (by decide) (Nat.le_of_ble_eq_true rfl) rfl rfl ?_
    refine S_X11_lets0 w (fun h1 g1 w1 => ?_)
    refine xRet_some ?_
    refine x_if_eqj (tgt := 27) (dT U_X11_base 6 rfl) (by decide) (by decide) ?_
    refine x_iconst (dT U_X11_base 14 rfl) ?_
    refine x_ireturn (dT U_X11_base 15 rfl) rfl ?_
    exact e1 (by omega) _ _ (Ag.tr (Ag.rf 70 142 h) (g1.w (by omega))) w1 (by unfold xr; omega)

set_option maxRecDepth 20000 in
set_option maxHeartbeats 1000000 in
theorem S_X11_isMember {G : xG} {d rc rs : Nat} {ex : Bool} {h : xH} {Q : xQ} {σ : St} {cc0 : Int} {rr : Nat} {ss : Int} {y : Int} (w : MX σ cc0 rr ss h) (v : INV σ) (h_y : xr y) (k1 : ¬ exI σ.p y = -1 → ∀ h2 r2 s2, Ag 70 142 h h2 → MX σ 0 r2 s2 h2 → Q (.inl (some (vi 1))) ex h2) (k0 : ¬ (¬ exI σ.p y = -1) → ∀ h2 r2 s2, Ag 70 142 h h2 → MX σ 0 r2 s2 h2 → Q (.inl (some (vi 0))) ex h2) : X G m_X11_isMember (d + 1) rc rs ex 0 (xe m_X11_isMember.2.2.1 [.ref 70, vi y]) [] h Q := by
  show X G m_X11_isMember _ _ _ _ 0 [some (.ref 70), some (vi y)] [] h Q
  have hp := PRb v.p
  have hq := gq_b v.p
  refine x_aload_n (dT U_X11_isMember 0 rfl) rfl ?_
  refine x_iconst (dT U_X11_isMember 1 rfl) ?_
  refine x_putfield F_X11_122 (dT U_X11_isMember 2 rfl) w.c70 (Nat.le_of_ble_eq_true rfl) (Nat.le_of_ble_eq_true rfl) rfl rfl ?_
  change X G _ _ _ _ _ _ _ _ (h.set 70 (mC 0 σ.p σ.G.n σ.g.b rr σ.g.c ss σ.g.z σ.g.o σ.L.n)) _
  have w1 := w.code (e := 0) (h2 := h.set 70 (mC 0 σ.p σ.G.n σ.g.b rr σ.g.c ss σ.g.z σ.g.o σ.L.n)) (fun a ha => hset_fr ha) (hset_eq w.c70)
  refine x_aload_n (dT U_X11_isMember 3 rfl) rfl ?_
  refine x_iload_n (dT U_X11_isMember 4 rfl) rfl ?_
  refine x_invokevirtual (rc' := rc) (rs' := rs) (rc2 := 0) (rs2 := 0) (As := [_]) (st := _) M_X11_isOf K_X11_208 (dT U_X11_isMember 5 rfl) rfl rfl (by decide) rfl rfl w1.c70 (Nat.le_of_ble_eq_true rfl) (by decide) rfl (Nat.le_of_ble_eq_true rfl) rfl (by decide) (Nat.le_of_ble_eq_true rfl) rfl rfl ?_
  refine S_X11_isOf w1 v h_y (fun q1 => ?_) (fun q0 => ?_)
  · refine xRet_some ?_
    refine x_zreturn (dT U_X11_isMember 6 rfl) rfl (by omega) ?_
    first | exact k1 q1 _ _ _ ((Ag.rf 70 142 h).set (by omega)) w1 | exact k0 (fun z => z q0) _ _ _ ((Ag.rf 70 142 h).set (by omega)) w1
  · refine xRet_some ?_
    refine x_zreturn (dT U_X11_isMember 6 rfl) rfl (by omega) ?_
    first | exact k1 q1 _ _ _ ((Ag.rf 70 142 h).set (by omega)) w1 | exact k0 (fun z => z q0) _ _ _ ((Ag.rf 70 142 h).set (by omega)) w1

set_option maxRecDepth 20000 in
set_option maxHeartbeats 1000000 in
theorem S_X11_log {G : xG} {d rc rs : Nat} {ex : Bool} {h : xH} {Q : xQ} {σ : St} {cc0 : Int} {rr : Nat} {ss : Int} {y : Int} (w : MX σ cc0 rr ss h) (v : INV σ) (h_y : xr y) (e1 : ¬ (¬ exI σ.p y = -1) → ∀ h2 z, Ag 70 142 h h2 → MX σ 1 rr ss h2 → xr z → Q (.inl (some (vi z))) ex h2) (k : (¬ exI σ.p y = -1) → ∀ h2 r2 s2, Ag 70 142 h h2 → MX σ 0 r2 s2 h2 → Q (.inl (some (vi (exI σ.p y)))) ex h2) : X G m_X11_log (d + 1) rc rs ex 0 (xe m_X11_log.2.2.1 [.ref 70, vi y]) [] h Q := by
  show X G m_X11_log _ _ _ _ 0 [some (.ref 70), some (vi y)] [] h Q
  have hp := PRb v.p
  have hq := gq_b v.p
  refine x_aload_n (dT U_X11_log 0 rfl) rfl ?_
  refine x_aload_n (dT U_X11_log 1 rfl) rfl ?_
  refine x_iload_n (dT U_X11_log 2 rfl) rfl ?_
  refine x_invokevirtual (rc' := rc) (rs' := rs) (rc2 := 0) (rs2 := 0) (As := [_]) (st := _) M_X11_isOf K_X11_208 (dT U_X11_log 3 rfl) rfl rfl (by decide) rfl rfl w.c70 (Nat.le_of_ble_eq_true rfl) (by decide) rfl (Nat.le_of_ble_eq_true rfl) rfl (by decide) (Nat.le_of_ble_eq_true rfl) rfl rfl ?_
  refine S_X11_isOf w v h_y (fun q1 => ?_) (fun q1 => ?_)
  · refine xRet_some ?_
    refine x_iconst (dT U_X11_log 4 rfl) ?_
    refine x_invokevirtual (rc' := rc) (rs' := rs) (rc2 := 0) (rs2 := 0) (As := [_, _]) (st := _) M_X11_lets K_X11_167 (dT U_X11_log 5 rfl) rfl rfl (by decide) rfl rfl w.c70 (Nat.le_of_ble_eq_true rfl) (by decide) rfl (Nat.le_of_ble_eq_true rfl) rfl (by decide) (Nat.le_of_ble_eq_true rfl) rfl rfl ?_
    refine S_X11_lets1 w (fun h1 g1 w1 => ?_)
    refine xRet_some ?_
    refine x_if_eqn (tgt := 22) (dT U_X11_log 6 rfl) (by decide) (by decide) ?_
    refine x_aload_n (dT U_X11_log 7 rfl) rfl ?_
    refine x_getfield F_X11_13 (dT U_X11_log 8 rfl) w1.c70 (Nat.le_of_ble_eq_true rfl) rfl ?_
    refine x_iload_n (dT U_X11_log 9 rfl) rfl ?_
    have yb := exI_some (p := σ.p) (y := y) (by assumption)
    have yb2 := MM_b v.p ⟨yb.1, yb.2.1⟩
    refine x_ialoadv ((y).toNat) (dT U_X11_log 10 rfl) w1.c72 (Nat.le_of_ble_eq_true rfl) (by omega) (by rw [tab_len]; omega) (by rw [tab_len]; omega) (show _ = exI σ.p y from by rw [tab_get _ (by omega), exI_in (by omega)]; congr 1; omega) ?_
    refine x_goto (tgt := 23) (dT U_X11_log 11 rfl) (by decide) ?_
    refine x_ireturn (dT U_X11_log 13 rfl) rfl ?_
    exact k (by assumption) _ _ _ (Ag.tr (Ag.rf 70 142 h) (g1.w (by omega))) w1
  · refine xRet_some ?_
    refine x_iconst (dT U_X11_log 4 rfl) ?_
    refine x_invokevirtual (rc' := rc) (rs' := rs) (rc2 := 0) (rs2 := 0) (As := [_, _]) (st := _) M_X11_lets K_X11_167 (dT U_X11_log 5 rfl) rfl rfl (by decide) rfl rfl w.c70 (Nat.le_of_ble_eq_true rfl) (by decide) rfl (Nat.le_of_ble_eq_true rfl) rfl (by decide) (Nat.le_of_ble_eq_true rfl) rfl rfl ?_
    refine S_X11_lets0 w (fun h1 g1 w1 => ?_)
    refine xRet_some ?_
    refine x_if_eqj (tgt := 22) (dT U_X11_log 6 rfl) (by decide) (by decide) ?_
    refine x_iconst (dT U_X11_log 12 rfl) ?_
    refine x_ireturn (dT U_X11_log 13 rfl) rfl ?_
    exact e1 (by omega) _ _ (Ag.tr (Ag.rf 70 142 h) (g1.w (by omega))) w1 (by unfold xr; omega)

set_option maxRecDepth 20000 in
set_option maxHeartbeats 1000000 in
theorem S_X11_commit {G : xG} {d rc rs : Nat} {ex : Bool} {h : xH} {Q : xQ} {σ : St} {cc0 : Int} {rr : Nat} {ss : Int} {row blind : Int} (w : MX σ cc0 rr ss h) (v : INV σ) (h_row : xr row) (h_blind : xr blind) (e1 : ¬ (inb row 8) → ∀ h2 z, Ag 70 142 h h2 → MX σ 1 rr ss h2 → xr z → Q (.inl (some (vi z))) ex h2) (e2 : (inb row 8) → ¬ (inb blind σ.p) → ∀ h2 z, Ag 70 142 h h2 → MX σ 2 rr ss h2 → xr z → Q (.inl (some (vi z))) ex h2) (k : (inb row 8) → (inb blind σ.p) → ∀ h2 r2 s2, Ag 70 142 h h2 → MX σ 0 r2 s2 h2 → Q (.inl (some (vi (MM σ.p (cm σ.p (σ.rw row.toNat) blind))))) ex h2) : X G m_X11_commit (d + 2) rc rs ex 0 (xe m_X11_commit.2.2.1 [.ref 70, vi row, vi blind]) [] h Q := by
  show X G m_X11_commit _ _ _ _ 0 [some (.ref 70), some (vi row), some (vi blind)] [] h Q
  have hp := PRb v.p
  have hq := gq_b v.p
  refine x_aload_n (dT U_X11_commit 0 rfl) rfl ?_
  refine x_iload_n (dT U_X11_commit 1 rfl) rfl ?_
  refine x_invokestatic (rc' := rc) (rs' := rs) (rc2 := 0) (rs2 := 0) (As := [_]) (st := _) M_X11_isRow K_X11_164 (dT U_X11_commit 2 rfl) rfl rfl rfl rfl (Nat.le_of_ble_eq_true rfl) rfl (by decide) (Nat.le_of_ble_eq_true rfl) rfl rfl ?_
  refine S_X11_isRow h_row (fun q1 => ?_) (fun q1 => ?_)
  · refine xRet_some ?_
    refine x_iconst (dT U_X11_commit 3 rfl) ?_
    refine x_invokevirtual (rc' := rc) (rs' := rs) (rc2 := 0) (rs2 := 0) (As := [_, _]) (st := _) M_X11_lets K_X11_167 (dT U_X11_commit 4 rfl) rfl rfl (by decide) rfl rfl w.c70 (Nat.le_of_ble_eq_true rfl) (by decide) rfl (Nat.le_of_ble_eq_true rfl) rfl (by decide) (Nat.le_of_ble_eq_true rfl) rfl rfl ?_
    refine S_X11_lets1 w (fun h1 g1 w1 => ?_)
    refine xRet_some ?_
    obtain ⟨i, hi, rfl⟩ : ∃ j : Nat, j < 8 ∧ row = (j : Int) := ⟨row.toNat, by omega, by omega⟩
    try simp only [tnc] at e1 e2 k
    refine x_if_eqn (tgt := 44) (dT U_X11_commit 5 rfl) (by decide) (by decide) ?_
    refine x_aload_n (dT U_X11_commit 6 rfl) rfl ?_
    refine x_aload_n (dT U_X11_commit 7 rfl) rfl ?_
    refine x_iload_n (dT U_X11_commit 8 rfl) rfl ?_
    refine x_invokevirtual (rc' := rc) (rs' := rs) (rc2 := 0) (rs2 := 0) (As := [_]) (st := _) M_X11_isNumber K_X11_174 (dT U_X11_commit 9 rfl) rfl rfl (by decide) rfl rfl w1.c70 (Nat.le_of_ble_eq_true rfl) (by decide) rfl (Nat.le_of_ble_eq_true rfl) rfl (by decide) (Nat.le_of_ble_eq_true rfl) rfl rfl ?_
    refine S_X11_isNumber (w1.mp) v.p h_blind (fun q2 => ?_) (fun q2 => ?_)
    · refine xRet_some ?_
      refine x_iconst (dT U_X11_commit 10 rfl) ?_
      refine x_invokevirtual (rc' := rc) (rs' := rs) (rc2 := 0) (rs2 := 0) (As := [_, _]) (st := _) M_X11_lets K_X11_167 (dT U_X11_commit 11 rfl) rfl rfl (by decide) rfl rfl w1.c70 (Nat.le_of_ble_eq_true rfl) (by decide) rfl (Nat.le_of_ble_eq_true rfl) rfl (by decide) (Nat.le_of_ble_eq_true rfl) rfl rfl ?_
      refine S_X11_lets1 w1 (fun h2 g2 w2 => ?_)
      refine xRet_some ?_
      refine x_if_eqn (tgt := 44) (dT U_X11_commit 12 rfl) (by decide) (by decide) ?_
      refine x_aload_n (dT U_X11_commit 13 rfl) rfl ?_
      refine x_getfield F_X11_7 (dT U_X11_commit 14 rfl) w2.c70 (Nat.le_of_ble_eq_true rfl) rfl ?_
      refine x_aload_n (dT U_X11_commit 15 rfl) rfl ?_
      refine x_aload_n (dT U_X11_commit 16 rfl) rfl ?_
      refine x_getfield F_X11_18 (dT U_X11_commit 17 rfl) w2.c70 (Nat.le_of_ble_eq_true rfl) rfl ?_
      refine x_iload_n (dT U_X11_commit 18 rfl) rfl ?_
      refine x_aaload (i) (dT U_X11_commit 19 rfl) w2.c73 (Nat.le_of_ble_eq_true rfl) (by decide) rfl (mrL_get (by omega)) (Nat.le_of_ble_eq_true rfl) ?_
      refine x_iload_n (dT U_X11_commit 20 rfl) rfl ?_
      refine x_invokevirtual (rc' := rc) (rs' := rs) (rc2 := 0) (rs2 := 0) (As := [_, _]) (st := _) M_X11_committed K_X11_211 (dT U_X11_commit 21 rfl) rfl rfl (by decide) rfl rfl w2.c70 (Nat.le_of_ble_eq_true rfl) (by decide) rfl (Nat.le_of_ble_eq_true rfl) rfl (by decide) (Nat.le_of_ble_eq_true rfl) rfl rfl ?_
      have cb := cm_b (p := σ.p) (l := σ.rw i) (b := blind) hp.1
      refine S_X11_committed (w2.mp) v.p (w2.rows i hi) (by omega) (v.rw i hi) (by omega) ?_
      refine xRet_some ?_
      obtain ⟨ml, m1, m2, m3⟩ := w2.pow
      refine x_ialoadv ((cm σ.p (σ.rw i) blind).toNat) (dT U_X11_commit 22 rfl) m1 (Nat.le_of_ble_eq_true rfl) (by omega) (by rw [m2]; omega) (by rw [m2]; omega) (show _ = MM σ.p (cm σ.p (σ.rw i) blind) from m3 _ (by omega)) ?_
      refine x_goto (tgt := 45) (dT U_X11_commit 23 rfl) (by decide) ?_
      refine x_ireturn (dT U_X11_commit 25 rfl) rfl ?_
      exact k (by omega) (by omega) _ _ _ (Ag.tr (Ag.tr (Ag.rf 70 142 h) (g1.w (by omega))) (g2.w (by omega))) w2
    · refine xRet_some ?_
      refine x_iconst (dT U_X11_commit 10 rfl) ?_
      refine x_invokevirtual (rc' := rc) (rs' := rs) (rc2 := 0) (rs2 := 0) (As := [_, _]) (st := _) M_X11_lets K_X11_167 (dT U_X11_commit 11 rfl) rfl rfl (by decide) rfl rfl w1.c70 (Nat.le_of_ble_eq_true rfl) (by decide) rfl (Nat.le_of_ble_eq_true rfl) rfl (by decide) (Nat.le_of_ble_eq_true rfl) rfl rfl ?_
      refine S_X11_lets0 w1 (fun h2 g2 w2 => ?_)
      refine xRet_some ?_
      refine x_if_eqj (tgt := 44) (dT U_X11_commit 12 rfl) (by decide) (by decide) ?_
      refine x_iconst (dT U_X11_commit 24 rfl) ?_
      refine x_ireturn (dT U_X11_commit 25 rfl) rfl ?_
      exact e2 (by omega) (by omega) _ _ (Ag.tr (Ag.tr (Ag.rf 70 142 h) (g1.w (by omega))) (g2.w (by omega))) w2 (by unfold xr; omega)
  · refine xRet_some ?_
    refine x_iconst (dT U_X11_commit 3 rfl) ?_
    refine x_invokevirtual (rc' := rc) (rs' := rs) (rc2 := 0) (rs2 := 0) (As := [_, _]) (st := _) M_X11_lets K_X11_167 (dT U_X11_commit 4 rfl) rfl rfl (by decide) rfl rfl w.c70 (Nat.le_of_ble_eq_true rfl) (by decide) rfl (Nat.le_of_ble_eq_true rfl) rfl (by decide) (Nat.le_of_ble_eq_true rfl) rfl rfl ?_
    refine S_X11_lets0 w (fun h1 g1 w1 => ?_)
    refine xRet_some ?_
    refine x_if_eqj (tgt := 44) (dT U_X11_commit 5 rfl) (by decide) (by decide) ?_
    refine x_iconst (dT U_X11_commit 24 rfl) ?_
    refine x_ireturn (dT U_X11_commit 25 rfl) rfl ?_
    exact e1 (by omega) _ _ (Ag.tr (Ag.rf 70 142 h) (g1.w (by omega))) w1 (by unfold xr; omega)

set_option maxRecDepth 20000 in
set_option maxHeartbeats 1000000 in
theorem S_X11_isOpened {G : xG} {d rc rs : Nat} {ex : Bool} {h : xH} {Q : xQ} {σ : St} {cc0 : Int} {rr : Nat} {ss : Int} {y row blind : Int} (w : MX σ cc0 rr ss h) (v : INV σ) (h_y : xr y) (h_row : xr row) (h_blind : xr blind) (e1 : ¬ (inb row 8) → ∀ h2 z, Ag 70 142 h h2 → MX σ 1 rr ss h2 → xr z → Q (.inl (some (vi z))) ex h2) (e2 : (inb row 8) → ¬ (¬ exI σ.p y = -1 ∧ inb blind σ.p) → ∀ h2 z, Ag 70 142 h h2 → MX σ 2 rr ss h2 → xr z → Q (.inl (some (vi z))) ex h2) (k1 : (inb row 8) → (¬ exI σ.p y = -1 ∧ inb blind σ.p) → cm σ.p (σ.rw row.toNat) blind = exI σ.p y → ∀ h2 r2 s2, Ag 70 142 h h2 → MX σ 0 r2 s2 h2 → Q (.inl (some (vi 1))) ex h2) (k0 : (inb row 8) → (¬ exI σ.p y = -1 ∧ inb blind σ.p) → ¬ (cm σ.p (σ.rw row.toNat) blind = exI σ.p y) → ∀ h2 r2 s2, Ag 70 142 h h2 → MX σ 0 r2 s2 h2 → Q (.inl (some (vi 0))) ex h2) : X G m_X11_isOpened (d + 2) rc rs ex 0 (xe m_X11_isOpened.2.2.1 [.ref 70, vi y, vi row, vi blind]) [] h Q := by
  show X G m_X11_isOpened _ _ _ _ 0 [some (.ref 70), some (vi y), some (vi row), some (vi blind)] [] h Q
  have hp := PRb v.p
  have hq := gq_b v.p
  refine x_aload_n (dT U_X11_isOpened 0 rfl) rfl ?_
  refine x_iload_n (dT U_X11_isOpened 1 rfl) rfl ?_
  refine x_invokestatic (rc' := rc) (rs' := rs) (rc2 := 0) (rs2 := 0) (As := [_]) (st := _) M_X11_isRow K_X11_164 (dT U_X11_isOpened 2 rfl) rfl rfl rfl rfl (Nat.le_of_ble_eq_true rfl) rfl (by decide) (Nat.le_of_ble_eq_true rfl) rfl rfl ?_
  refine S_X11_isRow h_row (fun q1 => ?_) (fun q1 => ?_)
  · refine xRet_some ?_
    refine x_iconst (dT U_X11_isOpened 3 rfl) ?_
    refine x_invokevirtual (rc' := rc) (rs' := rs) (rc2 := 0) (rs2 := 0) (As := [_, _]) (st := _) M_X11_lets K_X11_167 (dT U_X11_isOpened 4 rfl) rfl rfl (by decide) rfl rfl w.c70 (Nat.le_of_ble_eq_true rfl) (by decide) rfl (Nat.le_of_ble_eq_true rfl) rfl (by decide) (Nat.le_of_ble_eq_true rfl) rfl rfl ?_
    refine S_X11_lets1 w (fun h1 g1 w1 => ?_)
    refine xRet_some ?_
    obtain ⟨i, hi, rfl⟩ : ∃ j : Nat, j < 8 ∧ row = (j : Int) := ⟨row.toNat, by omega, by omega⟩
    try simp only [tnc] at e1 e2 k1 k0
    refine x_if_eqn (tgt := 65) (dT U_X11_isOpened 5 rfl) (by decide) (by decide) ?_
    refine x_aload_n (dT U_X11_isOpened 6 rfl) rfl ?_
    refine x_aload_n (dT U_X11_isOpened 7 rfl) rfl ?_
    refine x_iload_n (dT U_X11_isOpened 8 rfl) rfl ?_
    refine x_invokevirtual (rc' := rc) (rs' := rs) (rc2 := 0) (rs2 := 0) (As := [_]) (st := _) M_X11_isOf K_X11_208 (dT U_X11_isOpened 9 rfl) rfl rfl (by decide) rfl rfl w1.c70 (Nat.le_of_ble_eq_true rfl) (by decide) rfl (Nat.le_of_ble_eq_true rfl) rfl (by decide) (Nat.le_of_ble_eq_true rfl) rfl rfl ?_
    refine S_X11_isOf w1 v h_y (fun q2 => ?_) (fun q2 => ?_)
    · refine xRet_some ?_
      refine x_if_eqn (tgt := 33) (dT U_X11_isOpened 10 rfl) (by decide) (by decide) ?_
      refine x_aload_n (dT U_X11_isOpened 11 rfl) rfl ?_
      refine x_iload_n (dT U_X11_isOpened 12 rfl) rfl ?_
      refine x_invokevirtual (rc' := rc) (rs' := rs) (rc2 := 0) (rs2 := 0) (As := [_]) (st := _) M_X11_isNumber K_X11_174 (dT U_X11_isOpened 13 rfl) rfl rfl (by decide) rfl rfl w1.c70 (Nat.le_of_ble_eq_true rfl) (by decide) rfl (Nat.le_of_ble_eq_true rfl) rfl (by decide) (Nat.le_of_ble_eq_true rfl) rfl rfl ?_
      refine S_X11_isNumber (w1.mp) v.p h_blind (fun q3 => ?_) (fun q3 => ?_)
      · refine xRet_some ?_
        refine x_if_eqn (tgt := 33) (dT U_X11_isOpened 14 rfl) (by decide) (by decide) ?_
        refine x_iconst (dT U_X11_isOpened 15 rfl) ?_
        refine x_goto (tgt := 34) (dT U_X11_isOpened 16 rfl) (by decide) ?_
        refine x_iconst (dT U_X11_isOpened 18 rfl) ?_
        refine x_invokevirtual (rc' := rc) (rs' := rs) (rc2 := 0) (rs2 := 0) (As := [_, _]) (st := _) M_X11_lets K_X11_167 (dT U_X11_isOpened 19 rfl) rfl rfl (by decide) rfl rfl w1.c70 (Nat.le_of_ble_eq_true rfl) (by decide) rfl (Nat.le_of_ble_eq_true rfl) rfl (by decide) (Nat.le_of_ble_eq_true rfl) rfl rfl ?_
        refine S_X11_lets1 w1 (fun h2 g2 w2 => ?_)
        refine xRet_some ?_
        refine x_if_eqn (tgt := 65) (dT U_X11_isOpened 20 rfl) (by decide) (by decide) ?_
        refine x_aload_n (dT U_X11_isOpened 21 rfl) rfl ?_
        refine x_aload_n (dT U_X11_isOpened 22 rfl) rfl ?_
        refine x_getfield F_X11_18 (dT U_X11_isOpened 23 rfl) w2.c70 (Nat.le_of_ble_eq_true rfl) rfl ?_
        refine x_iload_n (dT U_X11_isOpened 24 rfl) rfl ?_
        refine x_aaload (i) (dT U_X11_isOpened 25 rfl) w2.c73 (Nat.le_of_ble_eq_true rfl) (by decide) rfl (mrL_get (by omega)) (Nat.le_of_ble_eq_true rfl) ?_
        refine x_iload_n (dT U_X11_isOpened 26 rfl) rfl ?_
        refine x_invokevirtual (rc' := rc) (rs' := rs) (rc2 := 0) (rs2 := 0) (As := [_, _]) (st := _) M_X11_committed K_X11_211 (dT U_X11_isOpened 27 rfl) rfl rfl (by decide) rfl rfl w2.c70 (Nat.le_of_ble_eq_true rfl) (by decide) rfl (Nat.le_of_ble_eq_true rfl) rfl (by decide) (Nat.le_of_ble_eq_true rfl) rfl rfl ?_
        have cb := cm_b (p := σ.p) (l := σ.rw i) (b := blind) hp.1
        refine S_X11_committed (w2.mp) v.p (w2.rows i hi) (by omega) (v.rw i hi) (by omega) ?_
        refine xRet_some ?_
        refine x_aload_n (dT U_X11_isOpened 28 rfl) rfl ?_
        refine x_getfield F_X11_13 (dT U_X11_isOpened 29 rfl) w2.c70 (Nat.le_of_ble_eq_true rfl) rfl ?_
        refine x_iload_n (dT U_X11_isOpened 30 rfl) rfl ?_
        have yb := exI_some (p := σ.p) (y := y) (by assumption)
        have yb2 := MM_b v.p ⟨yb.1, yb.2.1⟩
        refine x_ialoadv ((y).toNat) (dT U_X11_isOpened 31 rfl) w2.c72 (Nat.le_of_ble_eq_true rfl) (by omega) (by rw [tab_len]; omega) (by rw [tab_len]; omega) (show _ = exI σ.p y from by rw [tab_get _ (by omega), exI_in (by omega)]; congr 1; omega) ?_
        refine x_icmp_ne (tgt := 65) (dT U_X11_isOpened 32 rfl) (by decide) (by unfold xr; omega) (by unfold xr; omega) (fun c58 => ?_) (fun c58 => ?_)
        · skip
          refine x_iconst (dT U_X11_isOpened 35 rfl) ?_
          refine x_zreturn (dT U_X11_isOpened 36 rfl) rfl (by omega) ?_
          first | exact k1 (by omega) ⟨by assumption, by omega⟩ (by assumption) _ _ _ (Ag.tr (Ag.tr (Ag.rf 70 142 h) (g1.w (by omega))) (g2.w (by omega))) w2 | exact k0 (by omega) ⟨by assumption, by omega⟩ (by assumption) _ _ _ (Ag.tr (Ag.tr (Ag.rf 70 142 h) (g1.w (by omega))) (g2.w (by omega))) w2 | exact k1 (by omega) ⟨by assumption, by omega⟩ (Decidable.byContradiction (fun z => by omega)) _ _ _ (Ag.tr (Ag.tr (Ag.rf 70 142 h) (g1.w (by omega))) (g2.w (by omega))) w2
        · skip
          refine x_iconst (dT U_X11_isOpened 33 rfl) ?_
          refine x_goto (tgt := 66) (dT U_X11_isOpened 34 rfl) (by decide) ?_
          refine x_zreturn (dT U_X11_isOpened 36 rfl) rfl (by omega) ?_
          first | exact k1 (by omega) ⟨by assumption, by omega⟩ (by assumption) _ _ _ (Ag.tr (Ag.tr (Ag.rf 70 142 h) (g1.w (by omega))) (g2.w (by omega))) w2 | exact k0 (by omega) ⟨by assumption, by omega⟩ (by assumption) _ _ _ (Ag.tr (Ag.tr (Ag.rf 70 142 h) (g1.w (by omega))) (g2.w (by omega))) w2 | exact k1 (by omega) ⟨by assumption, by omega⟩ (Decidable.byContradiction (fun z => by omega)) _ _ _ (Ag.tr (Ag.tr (Ag.rf 70 142 h) (g1.w (by omega))) (g2.w (by omega))) w2
      · refine xRet_some ?_
        refine x_if_eqj (tgt := 33) (dT U_X11_isOpened 14 rfl) (by decide) (by decide) ?_
        refine x_iconst (dT U_X11_isOpened 17 rfl) ?_
        refine x_iconst (dT U_X11_isOpened 18 rfl) ?_
        refine x_invokevirtual (rc' := rc) (rs' := rs) (rc2 := 0) (rs2 := 0) (As := [_, _]) (st := _) M_X11_lets K_X11_167 (dT U_X11_isOpened 19 rfl) rfl rfl (by decide) rfl rfl w1.c70 (Nat.le_of_ble_eq_true rfl) (by decide) rfl (Nat.le_of_ble_eq_true rfl) rfl (by decide) (Nat.le_of_ble_eq_true rfl) rfl rfl ?_
        refine S_X11_lets0 w1 (fun h2 g2 w2 => ?_)
        refine xRet_some ?_
        refine x_if_eqj (tgt := 65) (dT U_X11_isOpened 20 rfl) (by decide) (by decide) ?_
        refine x_iconst (dT U_X11_isOpened 35 rfl) ?_
        refine x_zreturn (dT U_X11_isOpened 36 rfl) rfl (by omega) ?_
        exact e2 (by omega) (by omega) _ _ (Ag.tr (Ag.tr (Ag.rf 70 142 h) (g1.w (by omega))) (g2.w (by omega))) w2 (by unfold xr; omega)
    · refine xRet_some ?_
      refine x_if_eqj (tgt := 33) (dT U_X11_isOpened 10 rfl) (by decide) (by decide) ?_
      refine x_iconst (dT U_X11_isOpened 17 rfl) ?_
      refine x_iconst (dT U_X11_isOpened 18 rfl) ?_
      refine x_invokevirtual (rc' := rc) (rs' := rs) (rc2 := 0) (rs2 := 0) (As := [_, _]) (st := _) M_X11_lets K_X11_167 (dT U_X11_isOpened 19 rfl) rfl rfl (by decide) rfl rfl w1.c70 (Nat.le_of_ble_eq_true rfl) (by decide) rfl (Nat.le_of_ble_eq_true rfl) rfl (by decide) (Nat.le_of_ble_eq_true rfl) rfl rfl ?_
      refine S_X11_lets0 w1 (fun h2 g2 w2 => ?_)
      refine xRet_some ?_
      refine x_if_eqj (tgt := 65) (dT U_X11_isOpened 20 rfl) (by decide) (by decide) ?_
      refine x_iconst (dT U_X11_isOpened 35 rfl) ?_
      refine x_zreturn (dT U_X11_isOpened 36 rfl) rfl (by omega) ?_
      exact e2 (by omega) (by omega) _ _ (Ag.tr (Ag.tr (Ag.rf 70 142 h) (g1.w (by omega))) (g2.w (by omega))) w2 (by unfold xr; omega)
  · refine xRet_some ?_
    refine x_iconst (dT U_X11_isOpened 3 rfl) ?_
    refine x_invokevirtual (rc' := rc) (rs' := rs) (rc2 := 0) (rs2 := 0) (As := [_, _]) (st := _) M_X11_lets K_X11_167 (dT U_X11_isOpened 4 rfl) rfl rfl (by decide) rfl rfl w.c70 (Nat.le_of_ble_eq_true rfl) (by decide) rfl (Nat.le_of_ble_eq_true rfl) rfl (by decide) (Nat.le_of_ble_eq_true rfl) rfl rfl ?_
    refine S_X11_lets0 w (fun h1 g1 w1 => ?_)
    refine xRet_some ?_
    refine x_if_eqj (tgt := 65) (dT U_X11_isOpened 5 rfl) (by decide) (by decide) ?_
    refine x_iconst (dT U_X11_isOpened 35 rfl) ?_
    refine x_zreturn (dT U_X11_isOpened 36 rfl) rfl (by omega) ?_
    exact e1 (by omega) _ _ (Ag.tr (Ag.rf 70 142 h) (g1.w (by omega))) w1 (by unfold xr; omega)
