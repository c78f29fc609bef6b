set_option maxRecDepth 20000 in
set_option maxHeartbeats 1000000 in
theorem S_X11_through {G : xG} {d rc rs : Nat} {ex : Bool} {h : xH} {Q : xQ} {σ : St} {cc0 : Int} {rr : Nat} {ss : Int} {points values many to : Int} (w : MX σ cc0 rr ss h) (v : INV σ) (h_points : xr points) (h_values : xr values) (h_many : xr many) (h_to : xr to) (e1 : ¬ (inb points 8 ∧ inb values 8 ∧ inb to 8) → ∀ h2 z, Ag 70 142 h h2 → MX σ 1 rr ss h2 → xr z → Q (.inl (some (vi z))) ex h2) (e2 : (inb points 8 ∧ inb values 8 ∧ inb to 8) → ¬ ((1 ≤ many ∧ many ≤ 8) ∧ (∀ i j : Nat, j < i → (i : Int) < many → ¬ (σ.rw points.toNat).getD i 0 = (σ.rw points.toNat).getD j 0)) → ∀ h2 z, Ag 70 142 h h2 → MX σ 2 rr ss h2 → xr z → Q (.inl (some (vi z))) ex h2) (k : (inb points 8 ∧ inb values 8 ∧ inb to 8) → ((1 ≤ many ∧ many ≤ 8) ∧ (∀ i j : Nat, j < i → (i : Int) < many → ¬ (σ.rw points.toNat).getD i 0 = (σ.rw points.toNat).getD j 0)) → ∀ h2 r2 s2, Ag 70 142 h h2 → MX (σ.sRow to.toNat (tab (lit σ.p (gf (σ.rw points.toNat)) (gf (σ.rw values.toNat)) many.toNat many.toNat) 8)) 0 r2 s2 h2 → Q (.inl (some (vi (dg (gf (tab (lit σ.p (gf (σ.rw points.toNat)) (gf (σ.rw values.toNat)) many.toNat many.toNat) 8)) 8)))) ex h2) : X G m_X11_through (d + 2) rc rs ex 0 (xe m_X11_through.2.2.1 [.ref 70, vi points, vi values, vi many, vi to]) [] h Q := by
  show X G m_X11_through _ _ _ _ 0 [some (.ref 70), some (vi points), some (vi values), some (vi many), some (vi to), none, none, none, none] [] h Q
  have hp := PRb v.p
  have hq := gq_b v.p
  refine x_aload_n (dT U_X11_through 0 rfl) rfl ?_
  refine x_iload_n (dT U_X11_through 1 rfl) rfl ?_
  refine x_invokestatic (rc' := rc) (rs' := rs) (rc2 := 0) (rs2 := 0) (As := [_]) (st := _) M_X11_isRow K_X11_164 (dT U_X11_through 2 rfl) rfl rfl rfl rfl (Nat.le_of_ble_eq_true rfl) rfl (by decide) (Nat.le_of_ble_eq_true rfl) rfl rfl ?_
  refine S_X11_isRow h_points (fun q1 => ?_) (fun q1 => ?_)
  · refine xRet_some ?_
    refine x_if_eqn (tgt := 27) (dT U_X11_through 3 rfl) (by decide) (by decide) ?_
    refine x_iload_n (dT U_X11_through 4 rfl) rfl ?_
    refine x_invokestatic (rc' := rc) (rs' := rs) (rc2 := 0) (rs2 := 0) (As := [_]) (st := _) M_X11_isRow K_X11_164 (dT U_X11_through 5 rfl) rfl rfl rfl rfl (Nat.le_of_ble_eq_true rfl) rfl (by decide) (Nat.le_of_ble_eq_true rfl) rfl rfl ?_
    refine S_X11_isRow h_values (fun q2 => ?_) (fun q2 => ?_)
    · refine xRet_some ?_
      refine x_if_eqn (tgt := 27) (dT U_X11_through 6 rfl) (by decide) (by decide) ?_
      refine x_iload (dT U_X11_through 7 rfl) rfl ?_
      refine x_invokestatic (rc' := rc) (rs' := rs) (rc2 := 0) (rs2 := 0) (As := [_]) (st := _) M_X11_isRow K_X11_164 (dT U_X11_through 8 rfl) rfl rfl rfl rfl (Nat.le_of_ble_eq_true rfl) rfl (by decide) (Nat.le_of_ble_eq_true rfl) rfl rfl ?_
      refine S_X11_isRow h_to (fun q3 => ?_) (fun q3 => ?_)
      · refine xRet_some ?_
        refine x_if_eqn (tgt := 27) (dT U_X11_through 9 rfl) (by decide) (by decide) ?_
        refine x_iconst (dT U_X11_through 10 rfl) ?_
        refine x_goto (tgt := 28) (dT U_X11_through 11 rfl) (by decide) ?_
        refine x_iconst (dT U_X11_through 13 rfl) ?_
        refine x_invokevirtual (rc' := rc) (rs' := rs) (rc2 := 0) (rs2 := 0) (As := [_, _]) (st := _) M_X11_lets K_X11_167 (dT U_X11_through 14 rfl) rfl rfl (by decide) rfl rfl w.c70 (Nat.le_of_ble_eq_true rfl) (by decide) rfl (Nat.le_of_ble_eq_true rfl) rfl (by decide) (Nat.le_of_ble_eq_true rfl) rfl rfl ?_
        refine S_X11_lets1 w (fun h1 g1 w1 => ?_)
        refine xRet_some ?_
        obtain ⟨i, hi, rfl⟩ : ∃ j : Nat, j < 8 ∧ points = (j : Int) := ⟨points.toNat, by omega, by omega⟩
        try simp only [tnc] at e1 e2 k
        obtain ⟨j, hj, rfl⟩ : ∃ j : Nat, j < 8 ∧ values = (j : Int) := ⟨values.toNat, by omega, by omega⟩
        try simp only [tnc] at e1 e2 k
        obtain ⟨k9, hk9, rfl⟩ : ∃ j : Nat, j < 8 ∧ to = (j : Int) := ⟨to.toNat, by omega, by omega⟩
        try simp only [tnc] at e1 e2 k
        refine x_if_eqn (tgt := 73) (dT U_X11_through 15 rfl) (by decide) (by decide) ?_
        refine x_aload_n (dT U_X11_through 16 rfl) rfl ?_
        refine x_iload_n (dT U_X11_through 17 rfl) rfl ?_
        refine x_iconst (dT U_X11_through 18 rfl) ?_
        refine x_icmp_lt (tgt := 65) (dT U_X11_through 19 rfl) (by decide) h_many (by unfold xr; omega) (fun c38 => ?_) (fun c38 => ?_)
        · skip
          first | (have nc : ¬ ((1 ≤ many ∧ many ≤ 8) ∧ (∀ a b : Nat, b < a → (a : Int) < many → ¬ (σ.rw i).getD a 0 = (σ.rw i).getD b 0)) := fun z => by omega) | (have nc : ¬ ((1 ≤ (m : Int) ∧ (m : Int) ≤ 8) ∧ (∀ a b : Nat, b < a → (a : Int) < (m : Int) → ¬ (σ.rw i).getD a 0 = (σ.rw i).getD b 0)) := fun z => by obtain ⟨a, b, h5, h6, h7⟩ := un; exact z.2 a b h5 (by omega) h7)
          refine x_iconst (dT U_X11_through 33 rfl) ?_
          refine x_iconst (dT U_X11_through 34 rfl) ?_
          refine x_invokevirtual (rc' := rc) (rs' := rs) (rc2 := 0) (rs2 := 0) (As := [_, _]) (st := _) M_X11_lets K_X11_167 (dT U_X11_through 35 rfl) rfl rfl (by decide) rfl rfl w1.c70 (Nat.le_of_ble_eq_true rfl) (by decide) rfl (Nat.le_of_ble_eq_true rfl) rfl (by decide) (Nat.le_of_ble_eq_true rfl) rfl rfl ?_
          refine S_X11_lets0 w1 (fun h2 g2 w2 => ?_)
          refine xRet_some ?_
          refine x_if_nen (tgt := 75) (dT U_X11_through 36 rfl) (by decide) (by decide) ?_
          refine x_iconst (dT U_X11_through 37 rfl) ?_
          refine x_ireturn (dT U_X11_through 38 rfl) rfl ?_
          exact e2 (by omega) nc _ _ (Ag.tr (Ag.tr (Ag.rf 70 142 h) (g1.w (by omega))) (g2.w (by omega))) w2 (by unfold xr; omega)
        · skip
          refine x_iload_n (dT U_X11_through 20 rfl) rfl ?_
          refine x_bipush (dT U_X11_through 21 rfl) (by decide) ?_
          refine x_icmp_gt (tgt := 65) (dT U_X11_through 22 rfl) (by decide) h_many (by unfold xr; omega) (fun c44 => ?_) (fun c44 => ?_)
          · skip
            first | (have nc : ¬ ((1 ≤ many ∧ many ≤ 8) ∧ (∀ a b : Nat, b < a → (a : Int) < many → ¬ (σ.rw i).getD a 0 = (σ.rw i).getD b 0)) := fun z => by omega) | (have nc : ¬ ((1 ≤ (m : Int) ∧ (m : Int) ≤ 8) ∧ (∀ a b : Nat, b < a → (a : Int) < (m : Int) → ¬ (σ.rw i).getD a 0 = (σ.rw i).getD b 0)) := fun z => by obtain ⟨a, b, h5, h6, h7⟩ := un; exact z.2 a b h5 (by omega) h7)
            refine x_iconst (dT U_X11_through 33 rfl) ?_
            refine x_iconst (dT U_X11_through 34 rfl) ?_
            refine x_invokevirtual (rc' := rc) (rs' := rs) (rc2 := 0) (rs2 := 0) (As := [_, _]) (st := _) M_X11_lets K_X11_167 (dT U_X11_through 35 rfl) rfl rfl (by decide) rfl rfl w1.c70 (Nat.le_of_ble_eq_true rfl) (by decide) rfl (Nat.le_of_ble_eq_true rfl) rfl (by decide) (Nat.le_of_ble_eq_true rfl) rfl rfl ?_
            refine S_X11_lets0 w1 (fun h2 g2 w2 => ?_)
            refine xRet_some ?_
            refine x_if_nen (tgt := 75) (dT U_X11_through 36 rfl) (by decide) (by decide) ?_
            refine x_iconst (dT U_X11_through 37 rfl) ?_
            refine x_ireturn (dT U_X11_through 38 rfl) rfl ?_
            exact e2 (by omega) nc _ _ (Ag.tr (Ag.tr (Ag.rf 70 142 h) (g1.w (by omega))) (g2.w (by omega))) w2 (by unfold xr; omega)
          · skip
            obtain ⟨m, rfl⟩ : ∃ m : Nat, many = (m : Int) := ⟨many.toNat, by omega⟩
            try simp only [tnc] at e1 e2 k
            refine x_aload_n (dT U_X11_through 23 rfl) rfl ?_
            refine x_aload_n (dT U_X11_through 24 rfl) rfl ?_
            refine x_getfield F_X11_18 (dT U_X11_through 25 rfl) w1.c70 (Nat.le_of_ble_eq_true rfl) rfl ?_
            refine x_iload_n (dT U_X11_through 26 rfl) rfl ?_
            refine x_aaload (i) (dT U_X11_through 27 rfl) w1.c73 (Nat.le_of_ble_eq_true rfl) (by decide) rfl (mrL_get (by omega)) (Nat.le_of_ble_eq_true rfl) ?_
            refine x_iload_n (dT U_X11_through 28 rfl) rfl ?_
            refine x_invokevirtual (rc' := rc) (rs' := rs) (rc2 := 0) (rs2 := 0) (As := [_, _]) (st := _) M_X11_areUnlike K_X11_197 (dT U_X11_through 29 rfl) rfl rfl (by decide) rfl rfl w1.c70 (Nat.le_of_ble_eq_true rfl) (by decide) rfl (Nat.le_of_ble_eq_true rfl) rfl (by decide) (Nat.le_of_ble_eq_true rfl) rfl rfl ?_
            refine S_X11_areUnlike (p := (σ.p : Int)) (w1.rows i hi) (by omega) (v.rw i hi) (by omega) (by omega) (fun un => ?_) (fun un => ?_)
            · refine xRet_some ?_
              refine x_if_eqn (tgt := 65) (dT U_X11_through 30 rfl) (by decide) (by decide) ?_
              refine x_iconst (dT U_X11_through 31 rfl) ?_
              refine x_goto (tgt := 66) (dT U_X11_through 32 rfl) (by decide) ?_
              refine x_iconst (dT U_X11_through 34 rfl) ?_
              refine x_invokevirtual (rc' := rc) (rs' := rs) (rc2 := 0) (rs2 := 0) (As := [_, _]) (st := _) M_X11_lets K_X11_167 (dT U_X11_through 35 rfl) rfl rfl (by decide) rfl rfl w1.c70 (Nat.le_of_ble_eq_true rfl) (by decide) rfl (Nat.le_of_ble_eq_true rfl) rfl (by decide) (Nat.le_of_ble_eq_true rfl) rfl rfl ?_
              refine S_X11_lets1 w1 (fun h2 g2 w2 => ?_)
              refine xRet_some ?_
              refine x_if_nej (tgt := 75) (dT U_X11_through 36 rfl) (by decide) (by decide) ?_
              refine x_iconst (dT U_X11_through 39 rfl) ?_
              refine x_istore (ls' := [some (.ref _), some (vi _), some (vi _), some (vi _), some (vi _), some (vi _), none, none, none]) (dT U_X11_through 40 rfl) (by decide) rfl ?_
              obtain ⟨ml, hml, lml⟩ := w2.s136
              obtain ⟨ol, hol, lol⟩ := w2.s138
              have L : ∀ (n t : Nat), t + n = 9 → X G m_X11_through (d + 2) rc rs ex 78 [some (.ref 70), some (vi (i : Int)), some (vi (j : Int)), some (vi (m : Int)), some (vi (k9 : Int)), some (vi (t : Int)), none, none, none] [] ((h2.set 138 (cA 0 (fillL (lp (σ.p : Int) (gf (σ.rw i)) 9 0) ol t))).set 136 (cA 0 (fillL (fun _ => (0 : Int)) ml t))) Q := by
                intro n
                induction n with
                | zero =>
                  intro t hi_ 
                  refine x_iload (dT U_X11_through 41 rfl) rfl ?_
                  refine x_bipush (dT U_X11_through 42 rfl) (by decide) ?_
                  refine x_icmp_gt (tgt := 116) (dT U_X11_through 43 rfl) (by decide) (by unfold xr; omega) (by unfold xr; omega) (fun c82 => ?_) (fun c82 => ?_)
                  · skip
                    refine x_iconst (dT U_X11_through 60 rfl) ?_
                    refine x_istore (ls' := [some (.ref _), some (vi _), some (vi _), some (vi _), some (vi _), some (vi _), none, none, none]) (dT U_X11_through 61 rfl) (by decide) rfl ?_
                    have e : t = 9 := by omega
                    subst e
                    rw [fillL_all lol]
                    have wz := (w2.t138 (l := tab (lp (σ.p : Int) (gf (σ.rw i)) 9 0) 9) (fun a ha => by rw [hset_fr (by omega)]) (hset_eq hol) (tab_len _ _)).t136 (h2 := (h2.set 138 (cA 0 (tab (lp (σ.p : Int) (gf (σ.rw i)) 9 0) 9))).set 136 (cA 0 (fillL (fun _ => (0 : Int)) ml 9))) (fun a ha => by rw [hset_fr (by omega)]) (hset_eq (hset_ne (by omega) hml)) (by rw [fillL_len]; exact lml)
                    refine x_drop ?_ (S_th1 wz v hi hj hk9 (by omega) un (hset_eq (hset_ne (by omega) hml)) (by rw [fillL_len]; exact lml) (fun a ha => fillL_lt _ _ _ _ (by omega) (by omega)) (hset_ne (by omega) (hset_eq hol)) ?_)
                    repeat (first | exact trivial | refine ⟨rfl, ?_⟩ | refine ⟨trivial, ?_⟩)
                    exact fun h9 g9 w9 => k (by omega) ⟨by omega, fun a b h1 h3 => un a b h1 (by omega)⟩ _ _ _ (Ag.tr (((Ag.tr (Ag.tr (Ag.rf 70 142 h) (g1.w (by omega))) (g2.w (by omega))).set (by omega)).set (by omega)) g9) w9
                  · exfalso; omega
                | succ n ih =>
                  intro t hi_ 
                  refine x_iload (dT U_X11_through 41 rfl) rfl ?_
                  refine x_bipush (dT U_X11_through 42 rfl) (by decide) ?_
                  refine x_icmp_gt (tgt := 116) (dT U_X11_through 43 rfl) (by decide) (by unfold xr; omega) (by unfold xr; omega) (fun c82 => ?_) (fun c82 => ?_)
                  · exfalso; omega
                  · skip
                    refine x_aload_n (dT U_X11_through 44 rfl) rfl ?_
                    refine x_getfield F_X11_97 (dT U_X11_through 45 rfl) (hset_ne (by omega) (hset_ne (by omega) w2.c70)) (Nat.le_of_ble_eq_true rfl) rfl ?_
                    refine x_iload (dT U_X11_through 46 rfl) rfl ?_
                    refine x_iconst (dT U_X11_through 47 rfl) ?_
                    refine x_iastore (t) (dT U_X11_through 48 rfl) (hset_eq (hset_ne (by omega) hml)) (Nat.le_of_ble_eq_true rfl) rfl (by rw [fillL_len, lml]; omega) (by rw [fillL_len, lml]; omega) ?_
                    rw [List.set_set]
                    refine x_aload_n (dT U_X11_through 49 rfl) rfl ?_
                    refine x_getfield F_X11_103 (dT U_X11_through 50 rfl) (hset_ne (by omega) (hset_ne (by omega) w2.c70)) (Nat.le_of_ble_eq_true rfl) rfl ?_
                    refine x_iload (dT U_X11_through 51 rfl) rfl ?_
                    refine x_iload (dT U_X11_through 52 rfl) rfl ?_
                    refine x_if_ne (tgt := 108) (dT U_X11_through 53 rfl) (by decide) (by unfold xr; omega) (fun c101 => ?_) (fun c101 => ?_)
                    · skip
                      refine x_iconst (dT U_X11_through 56 rfl) ?_
                      refine x_iastore (t) (dT U_X11_through 57 rfl) (hset_ne (by omega) (hset_eq hol)) (Nat.le_of_ble_eq_true rfl) rfl (by rw [fillL_len, lol]; omega) (by rw [fillL_len, lol]; omega) ?_
                      rw [List.set_comm _ _ (show (136 : Nat) ≠ 138 by decide), List.set_set]
                      refine x_iinc (ls' := [some (.ref _), some (vi _), some (vi _), some (vi _), some (vi _), some (vi _), none, none, none]) (dT U_X11_through 58 rfl) (by decide) rfl rfl ?_
                      refine x_goto (tgt := 78) (dT U_X11_through 59 rfl) (by decide) ?_
                      have q := ih (t + 1) (by omega)
                      rw [show fillL (lp (σ.p : Int) (gf (σ.rw i)) 9 0) ol (t + 1) = (fillL (lp (σ.p : Int) (gf (σ.rw i)) 9 0) ol t).set t ((lp (σ.p : Int) (gf (σ.rw i)) 9 0) t) from rfl] at q
                      first | (rw [show (lp (σ.p : Int) (gf (σ.rw i)) 9 0) t = 1 from if_pos (by omega)] at q; exact q) | (rw [show (lp (σ.p : Int) (gf (σ.rw i)) 9 0) t = 0 from if_neg (by omega)] at q; exact q)
                    · skip
                      refine x_iconst (dT U_X11_through 54 rfl) ?_
                      refine x_goto (tgt := 109) (dT U_X11_through 55 rfl) (by decide) ?_
                      refine x_iastore (t) (dT U_X11_through 57 rfl) (hset_ne (by omega) (hset_eq hol)) (Nat.le_of_ble_eq_true rfl) rfl (by rw [fillL_len, lol]; omega) (by rw [fillL_len, lol]; omega) ?_
                      rw [List.set_comm _ _ (show (136 : Nat) ≠ 138 by decide), List.set_set]
                      refine x_iinc (ls' := [some (.ref _), some (vi _), some (vi _), some (vi _), some (vi _), some (vi _), none, none, none]) (dT U_X11_through 58 rfl) (by decide) rfl rfl ?_
                      refine x_goto (tgt := 78) (dT U_X11_through 59 rfl) (by decide) ?_
                      have q := ih (t + 1) (by omega)
                      rw [show fillL (lp (σ.p : Int) (gf (σ.rw i)) 9 0) ol (t + 1) = (fillL (lp (σ.p : Int) (gf (σ.rw i)) 9 0) ol t).set t ((lp (σ.p : Int) (gf (σ.rw i)) 9 0) t) from rfl] at q
                      first | (rw [show (lp (σ.p : Int) (gf (σ.rw i)) 9 0) t = 1 from if_pos (by omega)] at q; exact q) | (rw [show (lp (σ.p : Int) (gf (σ.rw i)) 9 0) t = 0 from if_neg (by omega)] at q; exact q)
              have q := L 9 0 (by omega)
              rw [show fillL (lp (σ.p : Int) (gf (σ.rw i)) 9 0) ol 0 = ol from rfl, show fillL (fun _ => (0 : Int)) ml 0 = ml from rfl, hset_self hol, hset_self hml] at q
              exact q
            · refine xRet_some ?_
              refine x_if_eqj (tgt := 65) (dT U_X11_through 30 rfl) (by decide) (by decide) ?_
              first | (have nc : ¬ ((1 ≤ many ∧ many ≤ 8) ∧ (∀ a b : Nat, b < a → (a : Int) < many → ¬ (σ.rw i).getD a 0 = (σ.rw i).getD b 0)) := fun z => by omega) | (have nc : ¬ ((1 ≤ (m : Int) ∧ (m : Int) ≤ 8) ∧ (∀ a b : Nat, b < a → (a : Int) < (m : Int) → ¬ (σ.rw i).getD a 0 = (σ.rw i).getD b 0)) := fun z => by obtain ⟨a, b, h5, h6, h7⟩ := un; exact z.2 a b h5 (by omega) h7)
              refine x_iconst (dT U_X11_through 33 rfl) ?_
              refine x_iconst (dT U_X11_through 34 rfl) ?_
              refine x_invokevirtual (rc' := rc) (rs' := rs) (rc2 := 0) (rs2 := 0) (As := [_, _]) (st := _) M_X11_lets K_X11_167 (dT U_X11_through 35 rfl) rfl rfl (by decide) rfl rfl w1.c70 (Nat.le_of_ble_eq_true rfl) (by decide) rfl (Nat.le_of_ble_eq_true rfl) rfl (by decide) (Nat.le_of_ble_eq_true rfl) rfl rfl ?_
              refine S_X11_lets0 w1 (fun h2 g2 w2 => ?_)
              refine xRet_some ?_
              refine x_if_nen (tgt := 75) (dT U_X11_through 36 rfl) (by decide) (by decide) ?_
              refine x_iconst (dT U_X11_through 37 rfl) ?_
              refine x_ireturn (dT U_X11_through 38 rfl) rfl ?_
              exact e2 (by omega) nc _ _ (Ag.tr (Ag.tr (Ag.rf 70 142 h) (g1.w (by omega))) (g2.w (by omega))) w2 (by unfold xr; omega)
      · refine xRet_some ?_
        refine x_if_eqj (tgt := 27) (dT U_X11_through 9 rfl) (by decide) (by decide) ?_
        refine x_iconst (dT U_X11_through 12 rfl) ?_
        refine x_iconst (dT U_X11_through 13 rfl) ?_
        refine x_invokevirtual (rc' := rc) (rs' := rs) (rc2 := 0) (rs2 := 0) (As := [_, _]) (st := _) M_X11_lets K_X11_167 (dT U_X11_through 14 rfl) rfl rfl (by decide) rfl rfl w.c70 (Nat.le_of_ble_eq_true rfl) (by decide) rfl (Nat.le_of_ble_eq_true rfl) rfl (by decide) (Nat.le_of_ble_eq_true rfl) rfl rfl ?_
        refine S_X11_lets0 w (fun h1 g1 w1 => ?_)
        refine xRet_some ?_
        refine x_if_eqj (tgt := 73) (dT U_X11_through 15 rfl) (by decide) (by decide) ?_
        refine x_iconst (dT U_X11_through 37 rfl) ?_
        refine x_ireturn (dT U_X11_through 38 rfl) rfl ?_
        exact e1 (by omega) _ _ (Ag.tr (Ag.rf 70 142 h) (g1.w (by omega))) w1 (by unfold xr; omega)
    · refine xRet_some ?_
      refine x_if_eqj (tgt := 27) (dT U_X11_through 6 rfl) (by decide) (by decide) ?_
      refine x_iconst (dT U_X11_through 12 rfl) ?_
      refine x_iconst (dT U_X11_through 13 rfl) ?_
      refine x_invokevirtual (rc' := rc) (rs' := rs) (rc2 := 0) (rs2 := 0) (As := [_, _]) (st := _) M_X11_lets K_X11_167 (dT U_X11_through 14 rfl) rfl rfl (by decide) rfl rfl w.c70 (Nat.le_of_ble_eq_true rfl) (by decide) rfl (Nat.le_of_ble_eq_true rfl) rfl (by decide) (Nat.le_of_ble_eq_true rfl) rfl rfl ?_
      refine S_X11_lets0 w (fun h1 g1 w1 => ?_)
      refine xRet_some ?_
      refine x_if_eqj (tgt := 73) (dT U_X11_through 15 rfl) (by decide) (by decide) ?_
      refine x_iconst (dT U_X11_through 37 rfl) ?_
      refine x_ireturn (dT U_X11_through 38 rfl) rfl ?_
      exact e1 (by omega) _ _ (Ag.tr (Ag.rf 70 142 h) (g1.w (by omega))) w1 (by unfold xr; omega)
  · refine xRet_some ?_
    refine x_if_eqj (tgt := 27) (dT U_X11_through 3 rfl) (by decide) (by decide) ?_
    refine x_iconst (dT U_X11_through 12 rfl) ?_
    refine x_iconst (dT U_X11_through 13 rfl) ?_
    refine x_invokevirtual (rc' := rc) (rs' := rs) (rc2 := 0) (rs2 := 0) (As := [_, _]) (st := _) M_X11_lets K_X11_167 (dT U_X11_through 14 rfl) rfl rfl (by decide) rfl rfl w.c70 (Nat.le_of_ble_eq_true rfl) (by decide) rfl (Nat.le_of_ble_eq_true rfl) rfl (by decide) (Nat.le_of_ble_eq_true rfl) rfl rfl ?_
    refine S_X11_lets0 w (fun h1 g1 w1 => ?_)
    refine xRet_some ?_
    refine x_if_eqj (tgt := 73) (dT U_X11_through 15 rfl) (by decide) (by decide) ?_
    refine x_iconst (dT U_X11_through 37 rfl) ?_
    refine x_ireturn (dT U_X11_through 38 rfl) rfl ?_
    exact e1 (by omega) _ _ (Ag.tr (Ag.rf 70 142 h) (g1.w (by omega))) w1 (by unfold xr; omega)
