set_option maxRecDepth 20000 in
set_option maxHeartbeats 1000000 in
theorem S_X11_joined {G : xG} {d rc rs : Nat} {ex : Bool} {h : xH} {Q : xQ} {σ : St} {cc0 : Int} {rr : Nat} {ss : Int} {a b x : Int} (w : MX σ cc0 rr ss h) (v : INV σ) (ha : 0 ≤ a ∧ a < σ.p) (hb : 0 ≤ b ∧ b < σ.p) (hx : 0 ≤ x ∧ x < σ.p) (k : Q (.inl (some (vi ((a + x * b) % (σ.p : Int))))) ex h) : X G m_X11_joined (d + 1) rc rs ex 0 (xe m_X11_joined.2.2.1 [.ref 70, vi a, vi b, vi x]) [] h Q := by
  show X G m_X11_joined _ _ _ _ 0 [some (.ref 70), some (vi a), some (vi b), some (vi x)] [] h Q
  have hp := PRb v.p
  have hq := gq_b v.p
  have xm := mulb hx hb (by omega)
  refine x_aload_n (dT U_X11_joined 0 rfl) rfl ?_
  refine x_iload_n (dT U_X11_joined 1 rfl) rfl ?_
  refine x_i2l (dT U_X11_joined 2 rfl) (by unfold xr; omega) ?_
  refine x_iload_n (dT U_X11_joined 3 rfl) rfl ?_
  refine x_i2l (dT U_X11_joined 4 rfl) (by unfold xr; omega) ?_
  refine x_iload_n (dT U_X11_joined 5 rfl) rfl ?_
  refine x_i2l (dT U_X11_joined 6 rfl) (by unfold xr; omega) ?_
  refine x_lmul (dT U_X11_joined 7 rfl) ?_
  refine x_ladd (dT U_X11_joined 8 rfl) ?_
  refine x_invokevirtual (rc' := rc) (rs' := rs) (rc2 := 0) (rs2 := 0) (As := [_]) (st := _) M_X11_f K_X11_156 (dT U_X11_joined 9 rfl) rfl rfl (by decide) rfl rfl w.c70 (Nat.le_of_ble_eq_true rfl) (by decide) rfl (Nat.le_of_ble_eq_true rfl) rfl (by decide) (Nat.le_of_ble_eq_true rfl) rfl rfl ?_
  refine S_X11_f (w.mp) v.p (by unfold xrl; omega) ?_
  refine xRet_some ?_
  refine x_ireturn (dT U_X11_joined 10 rfl) rfl ?_
  exact k

set_option maxRecDepth 20000 in
set_option maxHeartbeats 1000000 in
theorem S_X11_haveStatements {G : xG} {d rc rs : Nat} {ex : Bool} {h : xH} {Q : xQ} {σ : St} {cc0 : Int} {rr : Nat} {ss : Int} {i j : Nat} (w : MX σ cc0 rr ss h) (v : INV σ) (hi : i < 4) (hj : j < 4) (k1 : 1 ≤ (σ.R i).st ∧ 1 ≤ (σ.R j).st → Q (.inl (some (vi 1))) ex h) (k0 : ¬ (1 ≤ (σ.R i).st ∧ 1 ≤ (σ.R j).st) → Q (.inl (some (vi 0))) ex h) : X G m_X11_haveStatements d rc rs ex 0 (xe m_X11_haveStatements.2.2.1 [.ref 70, vi (i : Int), vi (j : Int)]) [] h Q := by
  show X G m_X11_haveStatements _ _ _ _ 0 [some (.ref 70), some (vi (i : Int)), some (vi (j : Int))] [] h Q
  have hp := PRb v.p
  have hq := gq_b v.p
  have s4i := (v.R i hi).1.s4
  have s4j := (v.R j hj).1.s4
  refine x_aload_n (dT U_X11_haveStatements 0 rfl) rfl ?_
  refine x_getfield F_X11_21 (dT U_X11_haveStatements 1 rfl) w.c70 (Nat.le_of_ble_eq_true rfl) rfl ?_
  refine x_iload_n (dT U_X11_haveStatements 2 rfl) rfl ?_
  refine x_ialoadv (i) (dT U_X11_haveStatements 3 rfl) w.c82 (Nat.le_of_ble_eq_true rfl) rfl (show i < 5 by omega) (show 5 < 2147483648 by decide) (show _ = ((σ.R i).st : Int) from t5_get hi) ?_
  refine x_if_le (tgt := 22) (dT U_X11_haveStatements 4 rfl) (by decide) (by unfold xr; omega) (fun c6 => ?_) (fun c6 => ?_)
  · skip
    refine x_iconst (dT U_X11_haveStatements 12 rfl) ?_
    refine x_zreturn (dT U_X11_haveStatements 13 rfl) rfl (by omega) ?_
    first | exact k1 (by omega) | exact k0 (by omega)
  · skip
    refine x_aload_n (dT U_X11_haveStatements 5 rfl) rfl ?_
    refine x_getfield F_X11_21 (dT U_X11_haveStatements 6 rfl) w.c70 (Nat.le_of_ble_eq_true rfl) rfl ?_
    refine x_iload_n (dT U_X11_haveStatements 7 rfl) rfl ?_
    refine x_ialoadv (j) (dT U_X11_haveStatements 8 rfl) w.c82 (Nat.le_of_ble_eq_true rfl) rfl (show j < 5 by omega) (show 5 < 2147483648 by decide) (show _ = ((σ.R j).st : Int) from t5_get hj) ?_
    refine x_if_le (tgt := 22) (dT U_X11_haveStatements 9 rfl) (by decide) (by unfold xr; omega) (fun c15 => ?_) (fun c15 => ?_)
    · skip
      refine x_iconst (dT U_X11_haveStatements 12 rfl) ?_
      refine x_zreturn (dT U_X11_haveStatements 13 rfl) rfl (by omega) ?_
      first | exact k1 (by omega) | exact k0 (by omega)
    · skip
      refine x_iconst (dT U_X11_haveStatements 10 rfl) ?_
      refine x_goto (tgt := 23) (dT U_X11_haveStatements 11 rfl) (by decide) ?_
      refine x_zreturn (dT U_X11_haveStatements 13 rfl) rfl (by omega) ?_
      first | exact k1 (by omega) | exact k0 (by omega)

set_option maxRecDepth 20000 in
set_option maxHeartbeats 1000000 in
theorem S_X11_join {G : xG} {d rc rs : Nat} {ex : Bool} {h : xH} {Q : xQ} {σ : St} {cc0 : Int} {rr : Nat} {ss : Int} {i j : Nat} {x : Int} (w : MX σ cc0 rr ss h) (v : INV σ) (hi : i < 4) (hj : j < 4) (hx : 0 ≤ x ∧ x < σ.p) (k : ∀ {l89 : List Int}, h[89]? = some (cA 0 l89) → l89.length = 8 → Q (.inl none) ex (h.set 89 (cA 0 (tab (fun u => ((σ.R i).form.getD u 0 + x * (σ.R j).form.getD u 0) % (σ.p : Int)) 8)))) : X G m_X11_join (d + 1) rc rs ex 0 (xe m_X11_join.2.2.1 [.ref 70, vi (i : Int), vi (j : Int), vi x]) [] h Q := by
  show X G m_X11_join _ _ _ _ 0 [some (.ref 70), some (vi (i : Int)), some (vi (j : Int)), some (vi x), none] [] h Q
  have hp := PRb v.p
  have hq := gq_b v.p
  obtain ⟨l89, hs89, ls89⟩ := w.s89
  have fi := (v.R i hi).1.f24
  have fj := (v.R j hj).1.f24
  have L : ∀ (n u : Nat), u + n = 8 → X G m_X11_join (d + 1) rc rs ex 3 [some (.ref 70), some (vi (i : Int)), some (vi (j : Int)), some (vi x), some (vi (u : Int))] [] (h.set 89 (cA 0 (fillL (fun u => ((σ.R i).form.getD u 0 + x * (σ.R j).form.getD u 0) % (σ.p : Int)) l89 u))) Q := by
    intro n
    induction n with
    | zero =>
      intro u hi_ 
      refine x_iload (dT U_X11_join 2 rfl) rfl ?_
      refine x_bipush (dT U_X11_join 3 rfl) (by decide) ?_
      refine x_icmp_ge (tgt := 53) (dT U_X11_join 4 rfl) (by decide) (by unfold xr; omega) (by unfold xr at *; omega) (fun c7 => ?_) (fun c7 => ?_)
      · skip
        refine x_return (dT U_X11_join 33 rfl) rfl ?_
        have e : u = 8 := by omega
        subst e
        rw [fillL_all ls89]
        exact k hs89 ls89
      · exfalso; omega
    | succ n ih =>
      intro u hi_ 
      have xa := fi.2 u
      have xb := fj.2 u
      have xm := mulg (a := x) (b := (σ.R j).form.getD u 0) (m := 23) (n := 23) (by omega) (by omega)
      refine x_iload (dT U_X11_join 2 rfl) rfl ?_
      refine x_bipush (dT U_X11_join 3 rfl) (by decide) ?_
      refine x_icmp_ge (tgt := 53) (dT U_X11_join 4 rfl) (by decide) (by unfold xr; omega) (by unfold xr at *; omega) (fun c7 => ?_) (fun c7 => ?_)
      · exfalso; omega
      · skip
        refine x_aload_n (dT U_X11_join 5 rfl) rfl ?_
        refine x_getfield F_X11_27 (dT U_X11_join 6 rfl) (hset_ne (by omega) (w.c70)) (Nat.le_of_ble_eq_true rfl) rfl ?_
        refine x_iconst (dT U_X11_join 7 rfl) ?_
        refine x_aaload (4) (dT U_X11_join 8 rfl) (hset_ne (by omega) (w.c84)) (Nat.le_of_ble_eq_true rfl) (by decide) rfl (mfL_get (by omega)) (Nat.le_of_ble_eq_true rfl) ?_
        refine x_iload (dT U_X11_join 9 rfl) rfl ?_
        refine x_aload_n (dT U_X11_join 10 rfl) rfl ?_
        refine x_aload_n (dT U_X11_join 11 rfl) rfl ?_
        refine x_getfield F_X11_27 (dT U_X11_join 12 rfl) (hset_ne (by omega) (w.c70)) (Nat.le_of_ble_eq_true rfl) rfl ?_
        refine x_iload_n (dT U_X11_join 13 rfl) rfl ?_
        refine x_aaload (i) (dT U_X11_join 14 rfl) (hset_ne (by omega) (w.c84)) (Nat.le_of_ble_eq_true rfl) (by decide) rfl (mfL_get (by omega)) (Nat.le_of_ble_eq_true rfl) ?_
        refine x_iload (dT U_X11_join 15 rfl) rfl ?_
        refine x_iaload (u) (dT U_X11_join 16 rfl) (hset_ne (by omega) ((w.forms i hi))) (by omega) rfl (by rw [(v.R i hi).1.f24.1]; omega) (by rw [(v.R i hi).1.f24.1]; omega) ?_
        refine x_i2l (dT U_X11_join 17 rfl) (by unfold xr; omega) ?_
        refine x_iload_n (dT U_X11_join 18 rfl) rfl ?_
        refine x_i2l (dT U_X11_join 19 rfl) (by unfold xr; omega) ?_
        refine x_aload_n (dT U_X11_join 20 rfl) rfl ?_
        refine x_getfield F_X11_27 (dT U_X11_join 21 rfl) (hset_ne (by omega) (w.c70)) (Nat.le_of_ble_eq_true rfl) rfl ?_
        refine x_iload_n (dT U_X11_join 22 rfl) rfl ?_
        refine x_aaload (j) (dT U_X11_join 23 rfl) (hset_ne (by omega) (w.c84)) (Nat.le_of_ble_eq_true rfl) (by decide) rfl (mfL_get (by omega)) (Nat.le_of_ble_eq_true rfl) ?_
        refine x_iload (dT U_X11_join 24 rfl) rfl ?_
        refine x_iaload (u) (dT U_X11_join 25 rfl) (hset_ne (by omega) ((w.forms j hj))) (by omega) rfl (by rw [(v.R j hj).1.f24.1]; omega) (by rw [(v.R j hj).1.f24.1]; omega) ?_
        refine x_i2l (dT U_X11_join 26 rfl) (by unfold xr; omega) ?_
        refine x_lmul (dT U_X11_join 27 rfl) ?_
        refine x_ladd (dT U_X11_join 28 rfl) ?_
        refine x_invokevirtual (rc' := rc) (rs' := rs) (rc2 := 0) (rs2 := 0) (As := [_]) (st := _) M_X11_f K_X11_156 (dT U_X11_join 29 rfl) rfl rfl (by decide) rfl rfl (hset_ne (by omega) (w.c70)) (Nat.le_of_ble_eq_true rfl) (by decide) rfl (Nat.le_of_ble_eq_true rfl) rfl (by decide) (Nat.le_of_ble_eq_true rfl) rfl rfl ?_
        refine S_X11_f (MP.set (by omega) (w.mp)) v.p (by unfold xrl; omega) ?_
        refine xRet_some ?_
        refine x_iastore (u) (dT U_X11_join 30 rfl) (hset_eq hs89) (Nat.le_of_ble_eq_true rfl) rfl (by rw [fillL_len, ls89]; omega) (by rw [fillL_len, ls89]; omega) ?_
        rw [List.set_set]
        refine x_iinc (ls' := [some (.ref _), some (vi _), some (vi _), some (vi _), some (vi _)]) (dT U_X11_join 31 rfl) (by decide) rfl rfl ?_
        refine x_goto (tgt := 3) (dT U_X11_join 32 rfl) (by decide) ?_
        exact ih (u + 1) (by omega)
  refine x_iconst (dT U_X11_join 0 rfl) ?_
  refine x_istore (ls' := [some (.ref _), some (vi _), some (vi _), some (vi _), some (vi _)]) (dT U_X11_join 1 rfl) (by decide) rfl ?_
  have q := L 8 0 (by omega)
  rw [show fillL (fun u => ((σ.R i).form.getD u 0 + x * (σ.R j).form.getD u 0) % (σ.p : Int)) l89 0 = l89 from rfl, hset_self hs89] at q
  exact q

set_option maxRecDepth 20000 in
set_option maxHeartbeats 1000000 in
theorem S_X11_fold {G : xG} {d rc rs : Nat} {ex : Bool} {h : xH} {Q : xQ} {σ : St} {cc0 : Int} {rr : Nat} {ss : Int} {run second factor into : Int} (w : MX σ cc0 rr ss h) (v : INV σ) (h_run : xr run) (h_second : xr second) (h_factor : xr factor) (h_into : xr into) (e1 : ¬ (inb run 4 ∧ inb second 4 ∧ inb into 4) → ∀ h2 z, Ag 70 142 h h2 → MX σ 1 rr ss h2 → xr z → Q (.inl (some (vi z))) ex h2) (e2 : (inb run 4 ∧ inb second 4 ∧ inb into 4) → ¬ (inb factor σ.p) → ∀ h2 z, Ag 70 142 h h2 → MX σ 2 rr ss h2 → xr z → Q (.inl (some (vi z))) ex h2) (e3 : (inb run 4 ∧ inb second 4 ∧ inb into 4) → (inb factor σ.p) → ¬ (joinable (σ.R run.toNat) (σ.R second.toNat) 0) → ∀ h2 z, Ag 70 142 h h2 → MX σ 3 rr ss h2 → xr z → Q (.inl (some (vi z))) ex h2) (k : (inb run 4 ∧ inb second 4 ∧ inb into 4) → (inb factor σ.p) → (joinable (σ.R run.toNat) (σ.R second.toNat) 0) → ∀ h2 r2 s2, Ag 70 142 h h2 → MX (σ.sRun into.toNat (rBegin (σ.R into.toNat) (((σ.R run.toNat).e + factor * (σ.R second.toNat).e) % (σ.p : Int)) (((σ.R run.toNat).v + factor * (σ.R second.toNat).v) % (σ.p : Int)) (σ.R run.toNat).form)) 0 r2 s2 h2 → Q (.inl (some (vi (MM σ.p (((σ.R run.toNat).e + factor * (σ.R second.toNat).e) % (σ.p : Int)))))) ex h2) : X G m_X11_fold (d + 2) rc rs ex 0 (xe m_X11_fold.2.2.1 [.ref 70, vi run, vi second, vi factor, vi into]) [] h Q := by
  show X G m_X11_fold _ _ _ _ 0 [some (.ref 70), some (vi run), some (vi second), some (vi factor), some (vi into), none] [] h Q
  have hp := PRb v.p
  have hq := gq_b v.p
  refine x_iload_n (dT U_X11_fold 0 rfl) rfl ?_
  refine x_invokestatic (rc' := rc) (rs' := rs) (rc2 := 0) (rs2 := 0) (As := [_]) (st := _) M_X11_isRun K_X11_244 (dT U_X11_fold 1 rfl) rfl rfl rfl rfl (Nat.le_of_ble_eq_true rfl) rfl (by decide) (Nat.le_of_ble_eq_true rfl) rfl rfl ?_
  refine S_X11_isRun h_run (fun q1 => ?_) (fun q1 => ?_)
  · refine xRet_some ?_
    refine x_if_eqn (tgt := 26) (dT U_X11_fold 2 rfl) (by decide) (by decide) ?_
    refine x_iload_n (dT U_X11_fold 3 rfl) rfl ?_
    refine x_invokestatic (rc' := rc) (rs' := rs) (rc2 := 0) (rs2 := 0) (As := [_]) (st := _) M_X11_isRun K_X11_244 (dT U_X11_fold 4 rfl) rfl rfl rfl rfl (Nat.le_of_ble_eq_true rfl) rfl (by decide) (Nat.le_of_ble_eq_true rfl) rfl rfl ?_
    refine S_X11_isRun h_second (fun q2 => ?_) (fun q2 => ?_)
    · refine xRet_some ?_
      refine x_if_eqn (tgt := 26) (dT U_X11_fold 5 rfl) (by decide) (by decide) ?_
      refine x_iload (dT U_X11_fold 6 rfl) rfl ?_
      refine x_invokestatic (rc' := rc) (rs' := rs) (rc2 := 0) (rs2 := 0) (As := [_]) (st := _) M_X11_isRun K_X11_244 (dT U_X11_fold 7 rfl) rfl rfl rfl rfl (Nat.le_of_ble_eq_true rfl) rfl (by decide) (Nat.le_of_ble_eq_true rfl) rfl rfl ?_
      refine S_X11_isRun h_into (fun q3 => ?_) (fun q3 => ?_)
      · refine xRet_some ?_
        refine x_if_eqn (tgt := 26) (dT U_X11_fold 8 rfl) (by decide) (by decide) ?_
        refine x_iconst (dT U_X11_fold 9 rfl) ?_
        refine x_goto (tgt := 27) (dT U_X11_fold 10 rfl) (by decide) ?_
        refine x_istore (ls' := [some (.ref _), some (vi _), some (vi _), some (vi _), some (vi _), some (vi _)]) (dT U_X11_fold 12 rfl) (by decide) rfl ?_
        refine x_aload_n (dT U_X11_fold 13 rfl) rfl ?_
        refine x_iload (dT U_X11_fold 14 rfl) rfl ?_
        refine x_iconst (dT U_X11_fold 15 rfl) ?_
        refine x_invokevirtual (rc' := rc) (rs' := rs) (rc2 := 0) (rs2 := 0) (As := [_, _]) (st := _) M_X11_lets K_X11_167 (dT U_X11_fold 16 rfl) rfl rfl (by decide) rfl rfl w.c70 (Nat.le_of_ble_eq_true rfl) (by decide) rfl (Nat.le_of_ble_eq_true rfl) rfl (by decide) (Nat.le_of_ble_eq_true rfl) rfl rfl ?_
        refine S_X11_lets1 w (fun h1 g1 w1 => ?_)
        refine xRet_some ?_
        obtain ⟨i, hi, rfl⟩ : ∃ j : Nat, j < 4 ∧ run = (j : Int) := ⟨run.toNat, by omega, by omega⟩
        try simp only [tnc] at e1 e2 e3 k
        obtain ⟨j, hj, rfl⟩ : ∃ j : Nat, j < 4 ∧ second = (j : Int) := ⟨second.toNat, by omega, by omega⟩
        try simp only [tnc] at e1 e2 e3 k
        obtain ⟨t, ht, rfl⟩ : ∃ j : Nat, j < 4 ∧ into = (j : Int) := ⟨into.toNat, by omega, by omega⟩
        try simp only [tnc] at e1 e2 e3 k
        refine x_if_eqn (tgt := 92) (dT U_X11_fold 17 rfl) (by decide) (by decide) ?_
        refine x_aload_n (dT U_X11_fold 18 rfl) rfl ?_
        refine x_aload_n (dT U_X11_fold 19 rfl) rfl ?_
        refine x_iload_n (dT U_X11_fold 20 rfl) rfl ?_
        refine x_invokevirtual (rc' := rc) (rs' := rs) (rc2 := 0) (rs2 := 0) (As := [_]) (st := _) M_X11_isNumber K_X11_174 (dT U_X11_fold 21 rfl) rfl rfl (by decide) rfl rfl w1.c70 (Nat.le_of_ble_eq_true rfl) (by decide) rfl (Nat.le_of_ble_eq_true rfl) rfl (by decide) (Nat.le_of_ble_eq_true rfl) rfl rfl ?_
        refine S_X11_isNumber (w1.mp) v.p h_factor (fun q4 => ?_) (fun q4 => ?_)
        · refine xRet_some ?_
          refine x_iconst (dT U_X11_fold 22 rfl) ?_
          refine x_invokevirtual (rc' := rc) (rs' := rs) (rc2 := 0) (rs2 := 0) (As := [_, _]) (st := _) M_X11_lets K_X11_167 (dT U_X11_fold 23 rfl) rfl rfl (by decide) rfl rfl w1.c70 (Nat.le_of_ble_eq_true rfl) (by decide) rfl (Nat.le_of_ble_eq_true rfl) rfl (by decide) (Nat.le_of_ble_eq_true rfl) rfl rfl ?_
          refine S_X11_lets1 w1 (fun h2 g2 w2 => ?_)
          refine xRet_some ?_
          refine x_if_eqn (tgt := 92) (dT U_X11_fold 24 rfl) (by decide) (by decide) ?_
          refine x_aload_n (dT U_X11_fold 25 rfl) rfl ?_
          refine x_aload_n (dT U_X11_fold 26 rfl) rfl ?_
          refine x_iload_n (dT U_X11_fold 27 rfl) rfl ?_
          refine x_iload_n (dT U_X11_fold 28 rfl) rfl ?_
          refine x_invokevirtual (rc' := rc) (rs' := rs) (rc2 := 0) (rs2 := 0) (As := [_, _]) (st := _) M_X11_haveStatements K_X11_271 (dT U_X11_fold 29 rfl) rfl rfl (by decide) rfl rfl w2.c70 (Nat.le_of_ble_eq_true rfl) (by decide) rfl (Nat.le_of_ble_eq_true rfl) rfl (by decide) (Nat.le_of_ble_eq_true rfl) rfl rfl ?_
          refine S_X11_haveStatements w2 v hi hj (fun hs9 => ?_) (fun hs9 => ?_)
          · refine xRet_some ?_
            refine x_if_eqn (tgt := 84) (dT U_X11_fold 30 rfl) (by decide) (by decide) ?_
            refine x_aload_n (dT U_X11_fold 31 rfl) rfl ?_
            refine x_getfield F_X11_27 (dT U_X11_fold 32 rfl) w2.c70 (Nat.le_of_ble_eq_true rfl) rfl ?_
            refine x_iload_n (dT U_X11_fold 33 rfl) rfl ?_
            refine x_aaload (i) (dT U_X11_fold 34 rfl) w2.c84 (Nat.le_of_ble_eq_true rfl) (by decide) rfl (mfL_get (by omega)) (Nat.le_of_ble_eq_true rfl) ?_
            refine x_aload_n (dT U_X11_fold 35 rfl) rfl ?_
            refine x_getfield F_X11_27 (dT U_X11_fold 36 rfl) w2.c70 (Nat.le_of_ble_eq_true rfl) rfl ?_
            refine x_iload_n (dT U_X11_fold 37 rfl) rfl ?_
            refine x_aaload (j) (dT U_X11_fold 38 rfl) w2.c84 (Nat.le_of_ble_eq_true rfl) (by decide) rfl (mfL_get (by omega)) (Nat.le_of_ble_eq_true rfl) ?_
            have fi := (v.R i hi).1.f24
            have fj := (v.R j hj).1.f24
            refine x_invokestatic (rc' := rc) (rs' := rs) (rc2 := 0) (rs2 := 0) (As := [_, _]) (st := _) M_X11_areSame K_X11_257 (dT U_X11_fold 39 rfl) rfl rfl rfl rfl (Nat.le_of_ble_eq_true rfl) rfl (by decide) (Nat.le_of_ble_eq_true rfl) rfl rfl ?_
            refine S_X11_areSame (w2.forms i hi) (by omega) fi.1 (w2.forms j hj) (by omega) fj.1 (fun t => by have h7 := fi.2 t; have h8 := fj.2 t; unfold xr; omega) (fun fs => ?_) (fun fs => ?_)
            · refine xRet_some ?_
              refine x_if_eqn (tgt := 84) (dT U_X11_fold 40 rfl) (by decide) (by decide) ?_
              refine x_iconst (dT U_X11_fold 41 rfl) ?_
              refine x_goto (tgt := 85) (dT U_X11_fold 42 rfl) (by decide) ?_
              refine x_iconst (dT U_X11_fold 44 rfl) ?_
              refine x_invokevirtual (rc' := rc) (rs' := rs) (rc2 := 0) (rs2 := 0) (As := [_, _]) (st := _) M_X11_lets K_X11_167 (dT U_X11_fold 45 rfl) rfl rfl (by decide) rfl rfl w2.c70 (Nat.le_of_ble_eq_true rfl) (by decide) rfl (Nat.le_of_ble_eq_true rfl) rfl (by decide) (Nat.le_of_ble_eq_true rfl) rfl rfl ?_
              refine S_X11_lets1 w2 (fun h3 g3 w3 => ?_)
              refine xRet_some ?_
              refine x_if_nej (tgt := 94) (dT U_X11_fold 46 rfl) (by decide) (by decide) ?_
              have oki := (v.R i hi).1
              have okj := (v.R j hj).1
              have sei := oki.e (by omega)
              have sej := okj.e (by omega)
              have svi := oki.v (by omega)
              have svj := okj.v (by omega)
              obtain ⟨l89, hs89, ls89⟩ := w3.s89
              refine x_aload_n (dT U_X11_fold 49 rfl) rfl ?_
              refine x_getfield F_X11_27 (dT U_X11_fold 50 rfl) w3.c70 (Nat.le_of_ble_eq_true rfl) rfl ?_
              refine x_iconst (dT U_X11_fold 51 rfl) ?_
              refine x_aaload (4) (dT U_X11_fold 52 rfl) w3.c84 (Nat.le_of_ble_eq_true rfl) (by decide) rfl (mfL_get (by omega)) (Nat.le_of_ble_eq_true rfl) ?_
              refine x_aload_n (dT U_X11_fold 53 rfl) rfl ?_
              refine x_getfield F_X11_27 (dT U_X11_fold 54 rfl) w3.c70 (Nat.le_of_ble_eq_true rfl) rfl ?_
              refine x_iload_n (dT U_X11_fold 55 rfl) rfl ?_
              refine x_aaload (i) (dT U_X11_fold 56 rfl) w3.c84 (Nat.le_of_ble_eq_true rfl) (by decide) rfl (mfL_get (by omega)) (Nat.le_of_ble_eq_true rfl) ?_
              refine x_invokestatic (rc' := rc) (rs' := rs) (rc2 := 0) (rs2 := 0) (As := [_, _]) (st := _) M_X11_becomes K_X11_189 (dT U_X11_fold 57 rfl) rfl rfl rfl rfl (Nat.le_of_ble_eq_true rfl) rfl (by decide) (Nat.le_of_ble_eq_true rfl) rfl rfl ?_
              refine S_becomes8 hs89 (by omega) ls89 (w3.forms i hi) (by omega) fi.1 ?_
              refine xRet_none ?_
              have w5 : MX σ 0 rr ss _ := w3.t89 (fun a ha => by rw [hset_fr (by omega)]) (hset_eq hs89) fi.1
              refine x_aload_n (dT U_X11_fold 58 rfl) rfl ?_
              refine x_iload (dT U_X11_fold 59 rfl) rfl ?_
              refine x_aload_n (dT U_X11_fold 60 rfl) rfl ?_
              refine x_aload_n (dT U_X11_fold 61 rfl) rfl ?_
              refine x_getfield F_X11_24 (dT U_X11_fold 62 rfl) w5.c70 (Nat.le_of_ble_eq_true rfl) rfl ?_
              refine x_iload_n (dT U_X11_fold 63 rfl) rfl ?_
              refine x_ialoadv (i) (dT U_X11_fold 64 rfl) w5.c83 (Nat.le_of_ble_eq_true rfl) rfl (show i < 5 by omega) (show 5 < 2147483648 by decide) (show _ = (σ.R i).e from t5_get hi) ?_
              refine x_aload_n (dT U_X11_fold 65 rfl) rfl ?_
              refine x_getfield F_X11_24 (dT U_X11_fold 66 rfl) w5.c70 (Nat.le_of_ble_eq_true rfl) rfl ?_
              refine x_iload_n (dT U_X11_fold 67 rfl) rfl ?_
              refine x_ialoadv (j) (dT U_X11_fold 68 rfl) w5.c83 (Nat.le_of_ble_eq_true rfl) rfl (show j < 5 by omega) (show 5 < 2147483648 by decide) (show _ = (σ.R j).e from t5_get hj) ?_
              refine x_iload_n (dT U_X11_fold 69 rfl) rfl ?_
              refine x_invokevirtual (rc' := rc) (rs' := rs) (rc2 := 0) (rs2 := 0) (As := [_, _, _]) (st := _) M_X11_joined K_X11_274 (dT U_X11_fold 70 rfl) rfl rfl (by decide) rfl rfl w5.c70 (Nat.le_of_ble_eq_true rfl) (by decide) rfl (Nat.le_of_ble_eq_true rfl) rfl (by decide) (Nat.le_of_ble_eq_true rfl) rfl rfl ?_
              refine S_X11_joined w5 v sei sej (by omega) ?_
              refine xRet_some ?_
              refine x_aload_n (dT U_X11_fold 71 rfl) rfl ?_
              refine x_aload_n (dT U_X11_fold 72 rfl) rfl ?_
              refine x_getfield F_X11_30 (dT U_X11_fold 73 rfl) w5.c70 (Nat.le_of_ble_eq_true rfl) rfl ?_
              refine x_iload_n (dT U_X11_fold 74 rfl) rfl ?_
              refine x_ialoadv (i) (dT U_X11_fold 75 rfl) w5.c90 (Nat.le_of_ble_eq_true rfl) rfl (show i < 5 by omega) (show 5 < 2147483648 by decide) (show _ = (σ.R i).v from t5_get hi) ?_
              refine x_aload_n (dT U_X11_fold 76 rfl) rfl ?_
              refine x_getfield F_X11_30 (dT U_X11_fold 77 rfl) w5.c70 (Nat.le_of_ble_eq_true rfl) rfl ?_
              refine x_iload_n (dT U_X11_fold 78 rfl) rfl ?_
              refine x_ialoadv (j) (dT U_X11_fold 79 rfl) w5.c90 (Nat.le_of_ble_eq_true rfl) rfl (show j < 5 by omega) (show 5 < 2147483648 by decide) (show _ = (σ.R j).v from t5_get hj) ?_
              refine x_iload_n (dT U_X11_fold 80 rfl) rfl ?_
              refine x_invokevirtual (rc' := rc) (rs' := rs) (rc2 := 0) (rs2 := 0) (As := [_, _, _]) (st := _) M_X11_joined K_X11_274 (dT U_X11_fold 81 rfl) rfl rfl (by decide) rfl rfl w5.c70 (Nat.le_of_ble_eq_true rfl) (by decide) rfl (Nat.le_of_ble_eq_true rfl) rfl (by decide) (Nat.le_of_ble_eq_true rfl) rfl rfl ?_
              refine S_X11_joined w5 v svi svj (by omega) ?_
              refine xRet_some ?_
              refine x_invokevirtual (rc' := rc) (rs' := rs) (rc2 := 0) (rs2 := 0) (As := [_, _, _]) (st := _) M_X11_anew K_X11_247 (dT U_X11_fold 82 rfl) rfl rfl (by decide) rfl rfl w5.c70 (Nat.le_of_ble_eq_true rfl) (by decide) rfl (Nat.le_of_ble_eq_true rfl) rfl (by decide) (Nat.le_of_ble_eq_true rfl) rfl rfl ?_
              refine S_X11_anew w5 ht ?_
              refine xRet_none ?_
              refine x_aload_n (dT U_X11_fold 83 rfl) rfl ?_
              refine x_getfield F_X11_27 (dT U_X11_fold 84 rfl) (hset_ne (by omega) (hset_ne (by omega) (hset_ne (by omega) (hset_ne (by omega) (w5.c70))))) (Nat.le_of_ble_eq_true rfl) rfl ?_
              refine x_iload (dT U_X11_fold 85 rfl) rfl ?_
              refine x_aaload (t) (dT U_X11_fold 86 rfl) (hset_ne (by omega) (hset_ne (by omega) (hset_ne (by omega) (hset_ne (by omega) (w5.c84))))) (Nat.le_of_ble_eq_true rfl) (by decide) rfl (mfL_get (by omega)) (Nat.le_of_ble_eq_true rfl) ?_
              refine x_aload_n (dT U_X11_fold 87 rfl) rfl ?_
              refine x_getfield F_X11_27 (dT U_X11_fold 88 rfl) (hset_ne (by omega) (hset_ne (by omega) (hset_ne (by omega) (hset_ne (by omega) (w5.c70))))) (Nat.le_of_ble_eq_true rfl) rfl ?_
              refine x_iconst (dT U_X11_fold 89 rfl) ?_
              refine x_aaload (4) (dT U_X11_fold 90 rfl) (hset_ne (by omega) (hset_ne (by omega) (hset_ne (by omega) (hset_ne (by omega) (w5.c84))))) (Nat.le_of_ble_eq_true rfl) (by decide) rfl (mfL_get (by omega)) (Nat.le_of_ble_eq_true rfl) ?_
              refine x_invokestatic (rc' := rc) (rs' := rs) (rc2 := 0) (rs2 := 0) (As := [_, _]) (st := _) M_X11_becomes K_X11_189 (dT U_X11_fold 91 rfl) rfl rfl rfl rfl (Nat.le_of_ble_eq_true rfl) rfl (by decide) (Nat.le_of_ble_eq_true rfl) rfl rfl ?_
              refine S_becomes8 (hset_ne (by omega) (hset_ne (by omega) (hset_ne (by omega) (hset_ne (by omega) (w5.forms t ht))))) (by omega) (v.R t ht).1.f24.1 (hset_ne (by omega) (hset_ne (by omega) (hset_ne (by omega) (hset_ne (by omega) (hset_eq hs89))))) (by omega) fi.1 ?_
              refine xRet_none ?_
              refine x_aload_n (dT U_X11_fold 92 rfl) rfl ?_
              refine x_getfield F_X11_7 (dT U_X11_fold 93 rfl) (hset_ne (by omega) (hset_ne (by omega) (hset_ne (by omega) (hset_ne (by omega) (hset_ne (by omega) (w5.c70)))))) (Nat.le_of_ble_eq_true rfl) rfl ?_
              refine x_aload_n (dT U_X11_fold 94 rfl) rfl ?_
              refine x_getfield F_X11_24 (dT U_X11_fold 95 rfl) (hset_ne (by omega) (hset_ne (by omega) (hset_ne (by omega) (hset_ne (by omega) (hset_ne (by omega) (w5.c70)))))) (Nat.le_of_ble_eq_true rfl) rfl ?_
              refine x_iload (dT U_X11_fold 96 rfl) rfl ?_
              refine x_ialoadv (t) (dT U_X11_fold 97 rfl) (hset_ne (by omega) (hset_ne (by omega) (hset_eq (hset_ne (by omega) (hset_ne (by omega) (w5.c83)))))) (Nat.le_of_ble_eq_true rfl) rfl (by rw [t5_set ht]; show t < 5; omega) (by rw [t5_set ht]; show 5 < 2147483648; omega) (show _ = (((σ.R i).e + factor * (σ.R j).e) % (σ.p : Int)) from by rw [t5_set ht, t5_get ht, fup_eq]) ?_
              have zb := modb (z := (σ.R i).e + factor * (σ.R j).e) (p := (σ.p : Int)) (by omega)
              obtain ⟨ml, m1, m2, m3⟩ := w5.pow
              refine x_ialoadv (((((σ.R i).e + factor * (σ.R j).e) % (σ.p : Int))).toNat) (dT U_X11_fold 98 rfl) (hset_ne (by omega) (hset_ne (by omega) (hset_ne (by omega) (hset_ne (by omega) (hset_ne (by omega) (m1)))))) (Nat.le_of_ble_eq_true rfl) (by omega) (by rw [m2]; omega) (by rw [m2]; omega) (show _ = MM σ.p ((((σ.R i).e + factor * (σ.R j).e) % (σ.p : Int))) from m3 _ (by omega)) ?_
              refine x_ireturn (dT U_X11_fold 99 rfl) rfl ?_
              exact k (by omega) (by omega) ⟨hs9.1, hs9.2, fs⟩ _ _ _ (((((((Ag.tr (Ag.tr (Ag.tr (Ag.rf 70 142 h) (g1.w (by omega))) (g2.w (by omega))) (g3.w (by omega))).set (by omega)).set (by omega)).set (by omega)).set (by omega)).set (by omega)).set (by omega)) (w5.run (i := t) (R := rBegin (σ.R t) (((σ.R i).e + factor * (σ.R j).e) % (σ.p : Int)) (((σ.R i).v + factor * (σ.R j).v) % (σ.p : Int)) (σ.R i).form) (fun a ha => by rw [hset_fr (by omega), hset_fr (by omega), hset_fr (by omega), hset_fr (by omega), hset_fr (by omega)]) ht (c5 (R' := rBegin (σ.R t) (((σ.R i).e + factor * (σ.R j).e) % (σ.p : Int)) (((σ.R i).v + factor * (σ.R j).v) % (σ.p : Int)) (σ.R i).form) gST ht (hset_ne (by omega) (hset_ne (by omega) (hset_ne (by omega) (hset_ne (by omega) (hset_eq (w5.c82))))))) (c5 (R' := rBegin (σ.R t) (((σ.R i).e + factor * (σ.R j).e) % (σ.p : Int)) (((σ.R i).v + factor * (σ.R j).v) % (σ.p : Int)) (σ.R i).form) RS.e ht (hset_ne (by omega) (hset_ne (by omega) (hset_eq (hset_ne (by omega) (hset_ne (by omega) (w5.c83))))))) (c5 (R' := rBegin (σ.R t) (((σ.R i).e + factor * (σ.R j).e) % (σ.p : Int)) (((σ.R i).v + factor * (σ.R j).v) % (σ.p : Int)) (σ.R i).form) RS.v ht (hset_ne (by omega) (hset_eq (hset_ne (by omega) (hset_ne (by omega) (hset_ne (by omega) (w5.c90))))))) (k5 (R' := rBegin (σ.R t) (((σ.R i).e + factor * (σ.R j).e) % (σ.p : Int)) (((σ.R i).v + factor * (σ.R j).v) % (σ.p : Int)) (σ.R i).form) RS.fa rfl (hset_ne (by omega) (hset_ne (by omega) (hset_ne (by omega) (hset_ne (by omega) (hset_ne (by omega) (w5.c91))))))) (k5 (R' := rBegin (σ.R t) (((σ.R i).e + factor * (σ.R j).e) % (σ.p : Int)) (((σ.R i).v + factor * (σ.R j).v) % (σ.p : Int)) (σ.R i).form) RS.w rfl (hset_ne (by omega) (hset_ne (by omega) (hset_ne (by omega) (hset_ne (by omega) (hset_ne (by omega) (w5.c92))))))) (c5 (R' := rBegin (σ.R t) (((σ.R i).e + factor * (σ.R j).e) % (σ.p : Int)) (((σ.R i).v + factor * (σ.R j).v) % (σ.p : Int)) (σ.R i).form) gMK ht (hset_ne (by omega) (hset_ne (by omega) (hset_ne (by omega) (hset_eq (hset_ne (by omega) (w5.c93))))))) (k5 (R' := rBegin (σ.R t) (((σ.R i).e + factor * (σ.R j).e) % (σ.p : Int)) (((σ.R i).v + factor * (σ.R j).v) % (σ.p : Int)) (σ.R i).form) RS.mb rfl (hset_ne (by omega) (hset_ne (by omega) (hset_ne (by omega) (hset_ne (by omega) (hset_ne (by omega) (w5.c100))))))) (k5 (R' := rBegin (σ.R t) (((σ.R i).e + factor * (σ.R j).e) % (σ.p : Int)) (((σ.R i).v + factor * (σ.R j).v) % (σ.p : Int)) (σ.R i).form) RS.c rfl (hset_ne (by omega) (hset_ne (by omega) (hset_ne (by omega) (hset_ne (by omega) (hset_ne (by omega) (w5.c101))))))) (k5 (R' := rBegin (σ.R t) (((σ.R i).e + factor * (σ.R j).e) % (σ.p : Int)) (((σ.R i).v + factor * (σ.R j).v) % (σ.p : Int)) (σ.R i).form) RS.t rfl (hset_ne (by omega) (hset_ne (by omega) (hset_ne (by omega) (hset_ne (by omega) (hset_ne (by omega) (w5.c108))))))) (hset_eq (hset_ne (by omega) (hset_ne (by omega) (hset_ne (by omega) (hset_ne (by omega) (w5.forms t ht)))))) (hset_ne (by omega) (hset_ne (by omega) (hset_ne (by omega) (hset_ne (by omega) (hset_ne (by omega) (w5.masks t ht)))))) (hset_ne (by omega) (hset_ne (by omega) (hset_ne (by omega) (hset_ne (by omega) (hset_ne (by omega) (w5.answers t ht)))))) (Exists.elim w5.s89 (fun l q => ⟨l, (hset_ne (by omega) (hset_ne (by omega) (hset_ne (by omega) (hset_ne (by omega) (hset_ne (by omega) (q.1)))))), q.2⟩)))
            · refine xRet_some ?_
              refine x_if_eqj (tgt := 84) (dT U_X11_fold 40 rfl) (by decide) (by decide) ?_
              refine x_iconst (dT U_X11_fold 43 rfl) ?_
              refine x_iconst (dT U_X11_fold 44 rfl) ?_
              refine x_invokevirtual (rc' := rc) (rs' := rs) (rc2 := 0) (rs2 := 0) (As := [_, _]) (st := _) M_X11_lets K_X11_167 (dT U_X11_fold 45 rfl) rfl rfl (by decide) rfl rfl w2.c70 (Nat.le_of_ble_eq_true rfl) (by decide) rfl (Nat.le_of_ble_eq_true rfl) rfl (by decide) (Nat.le_of_ble_eq_true rfl) rfl rfl ?_
              refine S_X11_lets0 w2 (fun h3 g3 w3 => ?_)
              refine xRet_some ?_
              refine x_if_nen (tgt := 94) (dT U_X11_fold 46 rfl) (by decide) (by decide) ?_
              refine x_iconst (dT U_X11_fold 47 rfl) ?_
              refine x_ireturn (dT U_X11_fold 48 rfl) rfl ?_
              exact e3 (by omega) (by omega) (fun z => by first | exact hs9 ⟨z.1, z.2.1⟩ | exact fs z.2.2 | (have := z.2.2; exact c74 this)) _ _ (Ag.tr (Ag.tr (Ag.tr (Ag.rf 70 142 h) (g1.w (by omega))) (g2.w (by omega))) (g3.w (by omega))) w3 (by unfold xr; omega)
          · refine xRet_some ?_
            refine x_if_eqj (tgt := 84) (dT U_X11_fold 30 rfl) (by decide) (by decide) ?_
            refine x_iconst (dT U_X11_fold 43 rfl) ?_
            refine x_iconst (dT U_X11_fold 44 rfl) ?_
            refine x_invokevirtual (rc' := rc) (rs' := rs) (rc2 := 0) (rs2 := 0) (As := [_, _]) (st := _) M_X11_lets K_X11_167 (dT U_X11_fold 45 rfl) rfl rfl (by decide) rfl rfl w2.c70 (Nat.le_of_ble_eq_true rfl) (by decide) rfl (Nat.le_of_ble_eq_true rfl) rfl (by decide) (Nat.le_of_ble_eq_true rfl) rfl rfl ?_
            refine S_X11_lets0 w2 (fun h3 g3 w3 => ?_)
            refine xRet_some ?_
            refine x_if_nen (tgt := 94) (dT U_X11_fold 46 rfl) (by decide) (by decide) ?_
            refine x_iconst (dT U_X11_fold 47 rfl) ?_
            refine x_ireturn (dT U_X11_fold 48 rfl) rfl ?_
            exact e3 (by omega) (by omega) (fun z => by first | exact hs9 ⟨z.1, z.2.1⟩ | exact fs z.2.2 | (have := z.2.2; exact c74 this)) _ _ (Ag.tr (Ag.tr (Ag.tr (Ag.rf 70 142 h) (g1.w (by omega))) (g2.w (by omega))) (g3.w (by omega))) w3 (by unfold xr; omega)
        · refine xRet_some ?_
          refine x_iconst (dT U_X11_fold 22 rfl) ?_
          refine x_invokevirtual (rc' := rc) (rs' := rs) (rc2 := 0) (rs2 := 0) (As := [_, _]) (st := _) M_X11_lets K_X11_167 (dT U_X11_fold 23 rfl) rfl rfl (by decide) rfl rfl w1.c70 (Nat.le_of_ble_eq_true rfl) (by decide) rfl (Nat.le_of_ble_eq_true rfl) rfl (by decide) (Nat.le_of_ble_eq_true rfl) rfl rfl ?_
          refine S_X11_lets0 w1 (fun h2 g2 w2 => ?_)
          refine xRet_some ?_
          refine x_if_eqj (tgt := 92) (dT U_X11_fold 24 rfl) (by decide) (by decide) ?_
          refine x_iconst (dT U_X11_fold 47 rfl) ?_
          refine x_ireturn (dT U_X11_fold 48 rfl) rfl ?_
          exact e2 (by omega) (by omega) _ _ (Ag.tr (Ag.tr (Ag.rf 70 142 h) (g1.w (by omega))) (g2.w (by omega))) w2 (by unfold xr; omega)
      · refine xRet_some ?_
        refine x_if_eqj (tgt := 26) (dT U_X11_fold 8 rfl) (by decide) (by decide) ?_
        refine x_iconst (dT U_X11_fold 11 rfl) ?_
        refine x_istore (ls' := [some (.ref _), some (vi _), some (vi _), some (vi _), some (vi _), some (vi _)]) (dT U_X11_fold 12 rfl) (by decide) rfl ?_
        refine x_aload_n (dT U_X11_fold 13 rfl) rfl ?_
        refine x_iload (dT U_X11_fold 14 rfl) rfl ?_
        refine x_iconst (dT U_X11_fold 15 rfl) ?_
        refine x_invokevirtual (rc' := rc) (rs' := rs) (rc2 := 0) (rs2 := 0) (As := [_, _]) (st := _) M_X11_lets K_X11_167 (dT U_X11_fold 16 rfl) rfl rfl (by decide) rfl rfl w.c70 (Nat.le_of_ble_eq_true rfl) (by decide) rfl (Nat.le_of_ble_eq_true rfl) rfl (by decide) (Nat.le_of_ble_eq_true rfl) rfl rfl ?_
        refine S_X11_lets0 w (fun h1 g1 w1 => ?_)
        refine xRet_some ?_
        refine x_if_eqj (tgt := 92) (dT U_X11_fold 17 rfl) (by decide) (by decide) ?_
        refine x_iconst (dT U_X11_fold 47 rfl) ?_
        refine x_ireturn (dT U_X11_fold 48 rfl) rfl ?_
        exact e1 (by omega) _ _ (Ag.tr (Ag.rf 70 142 h) (g1.w (by omega))) w1 (by unfold xr; omega)
    · refine xRet_some ?_
      refine x_if_eqj (tgt := 26) (dT U_X11_fold 5 rfl) (by decide) (by decide) ?_
      refine x_iconst (dT U_X11_fold 11 rfl) ?_
      refine x_istore (ls' := [some (.ref _), some (vi _), some (vi _), some (vi _), some (vi _), some (vi _)]) (dT U_X11_fold 12 rfl) (by decide) rfl ?_
      refine x_aload_n (dT U_X11_fold 13 rfl) rfl ?_
      refine x_iload (dT U_X11_fold 14 rfl) rfl ?_
      refine x_iconst (dT U_X11_fold 15 rfl) ?_
      refine x_invokevirtual (rc' := rc) (rs' := rs) (rc2 := 0) (rs2 := 0) (As := [_, _]) (st := _) M_X11_lets K_X11_167 (dT U_X11_fold 16 rfl) rfl rfl (by decide) rfl rfl w.c70 (Nat.le_of_ble_eq_true rfl) (by decide) rfl (Nat.le_of_ble_eq_true rfl) rfl (by decide) (Nat.le_of_ble_eq_true rfl) rfl rfl ?_
      refine S_X11_lets0 w (fun h1 g1 w1 => ?_)
      refine xRet_some ?_
      refine x_if_eqj (tgt := 92) (dT U_X11_fold 17 rfl) (by decide) (by decide) ?_
      refine x_iconst (dT U_X11_fold 47 rfl) ?_
      refine x_ireturn (dT U_X11_fold 48 rfl) rfl ?_
      exact e1 (by omega) _ _ (Ag.tr (Ag.rf 70 142 h) (g1.w (by omega))) w1 (by unfold xr; omega)
  · refine xRet_some ?_
    refine x_if_eqj (tgt := 26) (dT U_X11_fold 2 rfl) (by decide) (by decide) ?_
    refine x_iconst (dT U_X11_fold 11 rfl) ?_
    refine x_istore (ls' := [some (.ref _), some (vi _), some (vi _), some (vi _), some (vi _), some (vi _)]) (dT U_X11_fold 12 rfl) (by decide) rfl ?_
    refine x_aload_n (dT U_X11_fold 13 rfl) rfl ?_
    refine x_iload (dT U_X11_fold 14 rfl) rfl ?_
    refine x_iconst (dT U_X11_fold 15 rfl) ?_
    refine x_invokevirtual (rc' := rc) (rs' := rs) (rc2 := 0) (rs2 := 0) (As := [_, _]) (st := _) M_X11_lets K_X11_167 (dT U_X11_fold 16 rfl) rfl rfl (by decide) rfl rfl w.c70 (Nat.le_of_ble_eq_true rfl) (by decide) rfl (Nat.le_of_ble_eq_true rfl) rfl (by decide) (Nat.le_of_ble_eq_true rfl) rfl rfl ?_
    refine S_X11_lets0 w (fun h1 g1 w1 => ?_)
    refine xRet_some ?_
    refine x_if_eqj (tgt := 92) (dT U_X11_fold 17 rfl) (by decide) (by decide) ?_
    refine x_iconst (dT U_X11_fold 47 rfl) ?_
    refine x_ireturn (dT U_X11_fold 48 rfl) rfl ?_
    exact e1 (by omega) _ _ (Ag.tr (Ag.rf 70 142 h) (g1.w (by omega))) w1 (by unfold xr; omega)

set_option maxRecDepth 20000 in
set_option maxHeartbeats 1000000 in
theorem S_X11_batch {G : xG} {d rc rs : Nat} {ex : Bool} {h : xH} {Q : xQ} {σ : St} {cc0 : Int} {rr : Nat} {ss : Int} {run second factor into : Int} (w : MX σ cc0 rr ss h) (v : INV σ) (h_run : xr run) (h_second : xr second) (h_factor : xr factor) (h_into : xr into) (e1 : ¬ (inb run 4 ∧ inb second 4 ∧ inb into 4) → ∀ h2 z, Ag 70 142 h h2 → MX σ 1 rr ss h2 → xr z → Q (.inl (some (vi z))) ex h2) (e2 : (inb run 4 ∧ inb second 4 ∧ inb into 4) → ¬ (inb factor σ.p) → ∀ h2 z, Ag 70 142 h h2 → MX σ 2 rr ss h2 → xr z → Q (.inl (some (vi z))) ex h2) (e3 : (inb run 4 ∧ inb second 4 ∧ inb into 4) → (inb factor σ.p) → ¬ (joinable (σ.R run.toNat) (σ.R second.toNat) 1) → ∀ h2 z, Ag 70 142 h h2 → MX σ 3 rr ss h2 → xr z → Q (.inl (some (vi z))) ex h2) (k : (inb run 4 ∧ inb second 4 ∧ inb into 4) → (inb factor σ.p) → (joinable (σ.R run.toNat) (σ.R second.toNat) 1) → ∀ h2 r2 s2, Ag 70 142 h h2 → MX (σ.sRun into.toNat (rBegin (σ.R into.toNat) (σ.R run.toNat).e (((σ.R run.toNat).v + factor * (σ.R second.toNat).v) % (σ.p : Int)) (tab (fun t => ((σ.R run.toNat).form.getD t 0 + factor * (σ.R second.toNat).form.getD t 0) % (σ.p : Int)) 8))) 0 r2 s2 h2 → Q (.inl (some (vi ((((σ.R run.toNat).v + factor * (σ.R second.toNat).v) % (σ.p : Int)))))) ex h2) : X G m_X11_batch (d + 2) rc rs ex 0 (xe m_X11_batch.2.2.1 [.ref 70, vi run, vi second, vi factor, vi into]) [] h Q := by
  show X G m_X11_batch _ _ _ _ 0 [some (.ref 70), some (vi run), some (vi second), some (vi factor), some (vi into), none] [] h Q
  have hp := PRb v.p
  have hq := gq_b v.p
  refine x_iload_n (dT U_X11_batch 0 rfl) rfl ?_
  refine x_invokestatic (rc' := rc) (rs' := rs) (rc2 := 0) (rs2 := 0) (As := [_]) (st := _) M_X11_isRun K_X11_244 (dT U_X11_batch 1 rfl) rfl rfl rfl rfl (Nat.le_of_ble_eq_true rfl) rfl (by decide) (Nat.le_of_ble_eq_true rfl) rfl rfl ?_
  refine S_X11_isRun h_run (fun q1 => ?_) (fun q1 => ?_)
  · refine xRet_some ?_
    refine x_if_eqn (tgt := 26) (dT U_X11_batch 2 rfl) (by decide) (by decide) ?_
    refine x_iload_n (dT U_X11_batch 3 rfl) rfl ?_
    refine x_invokestatic (rc' := rc) (rs' := rs) (rc2 := 0) (rs2 := 0) (As := [_]) (st := _) M_X11_isRun K_X11_244 (dT U_X11_batch 4 rfl) rfl rfl rfl rfl (Nat.le_of_ble_eq_true rfl) rfl (by decide) (Nat.le_of_ble_eq_true rfl) rfl rfl ?_
    refine S_X11_isRun h_second (fun q2 => ?_) (fun q2 => ?_)
    · refine xRet_some ?_
      refine x_if_eqn (tgt := 26) (dT U_X11_batch 5 rfl) (by decide) (by decide) ?_
      refine x_iload (dT U_X11_batch 6 rfl) rfl ?_
      refine x_invokestatic (rc' := rc) (rs' := rs) (rc2 := 0) (rs2 := 0) (As := [_]) (st := _) M_X11_isRun K_X11_244 (dT U_X11_batch 7 rfl) rfl rfl rfl rfl (Nat.le_of_ble_eq_true rfl) rfl (by decide) (Nat.le_of_ble_eq_true rfl) rfl rfl ?_
      refine S_X11_isRun h_into (fun q3 => ?_) (fun q3 => ?_)
      · refine xRet_some ?_
        refine x_if_eqn (tgt := 26) (dT U_X11_batch 8 rfl) (by decide) (by decide) ?_
        refine x_iconst (dT U_X11_batch 9 rfl) ?_
        refine x_goto (tgt := 27) (dT U_X11_batch 10 rfl) (by decide) ?_
        refine x_istore (ls' := [some (.ref _), some (vi _), some (vi _), some (vi _), some (vi _), some (vi _)]) (dT U_X11_batch 12 rfl) (by decide) rfl ?_
        refine x_aload_n (dT U_X11_batch 13 rfl) rfl ?_
        refine x_iload (dT U_X11_batch 14 rfl) rfl ?_
        refine x_iconst (dT U_X11_batch 15 rfl) ?_
        refine x_invokevirtual (rc' := rc) (rs' := rs) (rc2 := 0) (rs2 := 0) (As := [_, _]) (st := _) M_X11_lets K_X11_167 (dT U_X11_batch 16 rfl) rfl rfl (by decide) rfl rfl w.c70 (Nat.le_of_ble_eq_true rfl) (by decide) rfl (Nat.le_of_ble_eq_true rfl) rfl (by decide) (Nat.le_of_ble_eq_true rfl) rfl rfl ?_
        refine S_X11_lets1 w (fun h1 g1 w1 => ?_)
        refine xRet_some ?_
        obtain ⟨i, hi, rfl⟩ : ∃ j : Nat, j < 4 ∧ run = (j : Int) := ⟨run.toNat, by omega, by omega⟩
        try simp only [tnc] at e1 e2 e3 k
        obtain ⟨j, hj, rfl⟩ : ∃ j : Nat, j < 4 ∧ second = (j : Int) := ⟨second.toNat, by omega, by omega⟩
        try simp only [tnc] at e1 e2 e3 k
        obtain ⟨t, ht, rfl⟩ : ∃ j : Nat, j < 4 ∧ into = (j : Int) := ⟨into.toNat, by omega, by omega⟩
        try simp only [tnc] at e1 e2 e3 k
        refine x_if_eqn (tgt := 89) (dT U_X11_batch 17 rfl) (by decide) (by decide) ?_
        refine x_aload_n (dT U_X11_batch 18 rfl) rfl ?_
        refine x_aload_n (dT U_X11_batch 19 rfl) rfl ?_
        refine x_iload_n (dT U_X11_batch 20 rfl) rfl ?_
        refine x_invokevirtual (rc' := rc) (rs' := rs) (rc2 := 0) (rs2 := 0) (As := [_]) (st := _) M_X11_isNumber K_X11_174 (dT U_X11_batch 21 rfl) rfl rfl (by decide) rfl rfl w1.c70 (Nat.le_of_ble_eq_true rfl) (by decide) rfl (Nat.le_of_ble_eq_true rfl) rfl (by decide) (Nat.le_of_ble_eq_true rfl) rfl rfl ?_
        refine S_X11_isNumber (w1.mp) v.p h_factor (fun q4 => ?_) (fun q4 => ?_)
        · refine xRet_some ?_
          refine x_iconst (dT U_X11_batch 22 rfl) ?_
          refine x_invokevirtual (rc' := rc) (rs' := rs) (rc2 := 0) (rs2 := 0) (As := [_, _]) (st := _) M_X11_lets K_X11_167 (dT U_X11_batch 23 rfl) rfl rfl (by decide) rfl rfl w1.c70 (Nat.le_of_ble_eq_true rfl) (by decide) rfl (Nat.le_of_ble_eq_true rfl) rfl (by decide) (Nat.le_of_ble_eq_true rfl) rfl rfl ?_
          refine S_X11_lets1 w1 (fun h2 g2 w2 => ?_)
          refine xRet_some ?_
          refine x_if_eqn (tgt := 89) (dT U_X11_batch 24 rfl) (by decide) (by decide) ?_
          refine x_aload_n (dT U_X11_batch 25 rfl) rfl ?_
          refine x_aload_n (dT U_X11_batch 26 rfl) rfl ?_
          refine x_iload_n (dT U_X11_batch 27 rfl) rfl ?_
          refine x_iload_n (dT U_X11_batch 28 rfl) rfl ?_
          refine x_invokevirtual (rc' := rc) (rs' := rs) (rc2 := 0) (rs2 := 0) (As := [_, _]) (st := _) M_X11_haveStatements K_X11_271 (dT U_X11_batch 29 rfl) rfl rfl (by decide) rfl rfl w2.c70 (Nat.le_of_ble_eq_true rfl) (by decide) rfl (Nat.le_of_ble_eq_true rfl) rfl (by decide) (Nat.le_of_ble_eq_true rfl) rfl rfl ?_
          refine S_X11_haveStatements w2 v hi hj (fun hs9 => ?_) (fun hs9 => ?_)
          · refine xRet_some ?_
            refine x_if_eqn (tgt := 81) (dT U_X11_batch 30 rfl) (by decide) (by decide) ?_
            refine x_aload_n (dT U_X11_batch 31 rfl) rfl ?_
            refine x_getfield F_X11_24 (dT U_X11_batch 32 rfl) w2.c70 (Nat.le_of_ble_eq_true rfl) rfl ?_
            refine x_iload_n (dT U_X11_batch 33 rfl) rfl ?_
            refine x_ialoadv (i) (dT U_X11_batch 34 rfl) w2.c83 (Nat.le_of_ble_eq_true rfl) rfl (show i < 5 by omega) (show 5 < 2147483648 by decide) (show _ = (σ.R i).e from t5_get hi) ?_
            refine x_aload_n (dT U_X11_batch 35 rfl) rfl ?_
            refine x_getfield F_X11_24 (dT U_X11_batch 36 rfl) w2.c70 (Nat.le_of_ble_eq_true rfl) rfl ?_
            refine x_iload_n (dT U_X11_batch 37 rfl) rfl ?_
            refine x_ialoadv (j) (dT U_X11_batch 38 rfl) w2.c83 (Nat.le_of_ble_eq_true rfl) rfl (show j < 5 by omega) (show 5 < 2147483648 by decide) (show _ = (σ.R j).e from t5_get hj) ?_
            have oki := (v.R i hi).1
            have okj := (v.R j hj).1
            have sei := oki.e (by omega)
            have sej := okj.e (by omega)
            have svi := oki.v (by omega)
            have svj := okj.v (by omega)
            refine x_icmp_ne (tgt := 81) (dT U_X11_batch 39 rfl) (by decide) (by unfold xr; omega) (by unfold xr; omega) (fun c74 => ?_) (fun c74 => ?_)
            · skip
              refine x_iconst (dT U_X11_batch 42 rfl) ?_
              refine x_iconst (dT U_X11_batch 43 rfl) ?_
              refine x_invokevirtual (rc' := rc) (rs' := rs) (rc2 := 0) (rs2 := 0) (As := [_, _]) (st := _) M_X11_lets K_X11_167 (dT U_X11_batch 44 rfl) rfl rfl (by decide) rfl rfl w2.c70 (Nat.le_of_ble_eq_true rfl) (by decide) rfl (Nat.le_of_ble_eq_true rfl) rfl (by decide) (Nat.le_of_ble_eq_true rfl) rfl rfl ?_
              refine S_X11_lets0 w2 (fun h3 g3 w3 => ?_)
              refine xRet_some ?_
              refine x_if_nen (tgt := 91) (dT U_X11_batch 45 rfl) (by decide) (by decide) ?_
              refine x_iconst (dT U_X11_batch 46 rfl) ?_
              refine x_ireturn (dT U_X11_batch 47 rfl) rfl ?_
              exact e3 (by omega) (by omega) (fun z => by first | exact hs9 ⟨z.1, z.2.1⟩ | exact fs z.2.2 | (have := z.2.2; exact c74 this)) _ _ (Ag.tr (Ag.tr (Ag.tr (Ag.rf 70 142 h) (g1.w (by omega))) (g2.w (by omega))) (g3.w (by omega))) w3 (by unfold xr; omega)
            · skip
              refine x_iconst (dT U_X11_batch 40 rfl) ?_
              refine x_goto (tgt := 82) (dT U_X11_batch 41 rfl) (by decide) ?_
              refine x_iconst (dT U_X11_batch 43 rfl) ?_
              refine x_invokevirtual (rc' := rc) (rs' := rs) (rc2 := 0) (rs2 := 0) (As := [_, _]) (st := _) M_X11_lets K_X11_167 (dT U_X11_batch 44 rfl) rfl rfl (by decide) rfl rfl w2.c70 (Nat.le_of_ble_eq_true rfl) (by decide) rfl (Nat.le_of_ble_eq_true rfl) rfl (by decide) (Nat.le_of_ble_eq_true rfl) rfl rfl ?_
              refine S_X11_lets1 w2 (fun h3 g3 w3 => ?_)
              refine xRet_some ?_
              refine x_if_nej (tgt := 91) (dT U_X11_batch 45 rfl) (by decide) (by decide) ?_
              refine x_aload_n (dT U_X11_batch 48 rfl) rfl ?_
              refine x_iload_n (dT U_X11_batch 49 rfl) rfl ?_
              refine x_iload_n (dT U_X11_batch 50 rfl) rfl ?_
              refine x_iload_n (dT U_X11_batch 51 rfl) rfl ?_
              refine x_invokevirtual (rc' := rc) (rs' := rs) (rc2 := 0) (rs2 := 0) (As := [_, _, _]) (st := _) M_X11_join K_X11_278 (dT U_X11_batch 52 rfl) rfl rfl (by decide) rfl rfl w3.c70 (Nat.le_of_ble_eq_true rfl) (by decide) rfl (Nat.le_of_ble_eq_true rfl) rfl (by decide) (Nat.le_of_ble_eq_true rfl) rfl rfl ?_
              refine S_X11_join w3 v hi hj (by omega) (fun {l89} hs89 ls89 => ?_)
              refine xRet_none ?_
              have w5 : MX σ 0 rr ss _ := w3.t89 (l := (tab (fun u => ((σ.R i).form.getD u 0 + factor * (σ.R j).form.getD u 0) % (σ.p : Int)) 8)) (fun a ha => by rw [hset_fr (by omega)]) (hset_eq hs89) (tab_len _ _)
              refine x_aload_n (dT U_X11_batch 53 rfl) rfl ?_
              refine x_iload (dT U_X11_batch 54 rfl) rfl ?_
              refine x_aload_n (dT U_X11_batch 55 rfl) rfl ?_
              refine x_getfield F_X11_24 (dT U_X11_batch 56 rfl) w5.c70 (Nat.le_of_ble_eq_true rfl) rfl ?_
              refine x_iload_n (dT U_X11_batch 57 rfl) rfl ?_
              refine x_ialoadv (i) (dT U_X11_batch 58 rfl) w5.c83 (Nat.le_of_ble_eq_true rfl) rfl (show i < 5 by omega) (show 5 < 2147483648 by decide) (show _ = (σ.R i).e from t5_get hi) ?_
              refine x_aload_n (dT U_X11_batch 59 rfl) rfl ?_
              refine x_aload_n (dT U_X11_batch 60 rfl) rfl ?_
              refine x_getfield F_X11_30 (dT U_X11_batch 61 rfl) w5.c70 (Nat.le_of_ble_eq_true rfl) rfl ?_
              refine x_iload_n (dT U_X11_batch 62 rfl) rfl ?_
              refine x_ialoadv (i) (dT U_X11_batch 63 rfl) w5.c90 (Nat.le_of_ble_eq_true rfl) rfl (show i < 5 by omega) (show 5 < 2147483648 by decide) (show _ = (σ.R i).v from t5_get hi) ?_
              refine x_aload_n (dT U_X11_batch 64 rfl) rfl ?_
              refine x_getfield F_X11_30 (dT U_X11_batch 65 rfl) w5.c70 (Nat.le_of_ble_eq_true rfl) rfl ?_
              refine x_iload_n (dT U_X11_batch 66 rfl) rfl ?_
              refine x_ialoadv (j) (dT U_X11_batch 67 rfl) w5.c90 (Nat.le_of_ble_eq_true rfl) rfl (show j < 5 by omega) (show 5 < 2147483648 by decide) (show _ = (σ.R j).v from t5_get hj) ?_
              refine x_iload_n (dT U_X11_batch 68 rfl) rfl ?_
              refine x_invokevirtual (rc' := rc) (rs' := rs) (rc2 := 0) (rs2 := 0) (As := [_, _, _]) (st := _) M_X11_joined K_X11_274 (dT U_X11_batch 69 rfl) rfl rfl (by decide) rfl rfl w5.c70 (Nat.le_of_ble_eq_true rfl) (by decide) rfl (Nat.le_of_ble_eq_true rfl) rfl (by decide) (Nat.le_of_ble_eq_true rfl) rfl rfl ?_
              refine S_X11_joined w5 v svi svj (by omega) ?_
              refine xRet_some ?_
              refine x_invokevirtual (rc' := rc) (rs' := rs) (rc2 := 0) (rs2 := 0) (As := [_, _, _]) (st := _) M_X11_anew K_X11_247 (dT U_X11_batch 70 rfl) rfl rfl (by decide) rfl rfl w5.c70 (Nat.le_of_ble_eq_true rfl) (by decide) rfl (Nat.le_of_ble_eq_true rfl) rfl (by decide) (Nat.le_of_ble_eq_true rfl) rfl rfl ?_
              refine S_X11_anew w5 ht ?_
              refine xRet_none ?_
              refine x_aload_n (dT U_X11_batch 71 rfl) rfl ?_
              refine x_getfield F_X11_27 (dT U_X11_batch 72 rfl) (hset_ne (by omega) (hset_ne (by omega) (hset_ne (by omega) (hset_ne (by omega) (w5.c70))))) (Nat.le_of_ble_eq_true rfl) rfl ?_
              refine x_iload (dT U_X11_batch 73 rfl) rfl ?_
              refine x_aaload (t) (dT U_X11_batch 74 rfl) (hset_ne (by omega) (hset_ne (by omega) (hset_ne (by omega) (hset_ne (by omega) (w5.c84))))) (Nat.le_of_ble_eq_true rfl) (by decide) rfl (mfL_get (by omega)) (Nat.le_of_ble_eq_true rfl) ?_
              refine x_aload_n (dT U_X11_batch 75 rfl) rfl ?_
              refine x_getfield F_X11_27 (dT U_X11_batch 76 rfl) (hset_ne (by omega) (hset_ne (by omega) (hset_ne (by omega) (hset_ne (by omega) (w5.c70))))) (Nat.le_of_ble_eq_true rfl) rfl ?_
              refine x_iconst (dT U_X11_batch 77 rfl) ?_
              refine x_aaload (4) (dT U_X11_batch 78 rfl) (hset_ne (by omega) (hset_ne (by omega) (hset_ne (by omega) (hset_ne (by omega) (w5.c84))))) (Nat.le_of_ble_eq_true rfl) (by decide) rfl (mfL_get (by omega)) (Nat.le_of_ble_eq_true rfl) ?_
              refine x_invokestatic (rc' := rc) (rs' := rs) (rc2 := 0) (rs2 := 0) (As := [_, _]) (st := _) M_X11_becomes K_X11_189 (dT U_X11_batch 79 rfl) rfl rfl rfl rfl (Nat.le_of_ble_eq_true rfl) rfl (by decide) (Nat.le_of_ble_eq_true rfl) rfl rfl ?_
              refine S_becomes8 (hset_ne (by omega) (hset_ne (by omega) (hset_ne (by omega) (hset_ne (by omega) (w5.forms t ht))))) (by omega) (v.R t ht).1.f24.1 (hset_ne (by omega) (hset_ne (by omega) (hset_ne (by omega) (hset_ne (by omega) (hset_eq hs89))))) (by omega) (tab_len _ _) ?_
              refine xRet_none ?_
              refine x_aload_n (dT U_X11_batch 80 rfl) rfl ?_
              refine x_getfield F_X11_30 (dT U_X11_batch 81 rfl) (hset_ne (by omega) (hset_ne (by omega) (hset_ne (by omega) (hset_ne (by omega) (hset_ne (by omega) (w5.c70)))))) (Nat.le_of_ble_eq_true rfl) rfl ?_
              refine x_iload (dT U_X11_batch 82 rfl) rfl ?_
              refine x_ialoadv (t) (dT U_X11_batch 83 rfl) (hset_ne (by omega) (hset_eq (hset_ne (by omega) (hset_ne (by omega) (hset_ne (by omega) (w5.c90)))))) (Nat.le_of_ble_eq_true rfl) rfl (by rw [t5_set ht]; show t < 5; omega) (by rw [t5_set ht]; show 5 < 2147483648; omega) (show _ = (((σ.R i).v + factor * (σ.R j).v) % (σ.p : Int)) from by rw [t5_set ht, t5_get ht, fup_eq]) ?_
              refine x_ireturn (dT U_X11_batch 84 rfl) rfl ?_
              exact k (by omega) (by omega) ⟨hs9.1, hs9.2, c74⟩ _ _ _ (((((((Ag.tr (Ag.tr (Ag.tr (Ag.rf 70 142 h) (g1.w (by omega))) (g2.w (by omega))) (g3.w (by omega))).set (by omega)).set (by omega)).set (by omega)).set (by omega)).set (by omega)).set (by omega)) (w5.run (i := t) (R := rBegin (σ.R t) (σ.R i).e (((σ.R i).v + factor * (σ.R j).v) % (σ.p : Int)) (tab (fun u => ((σ.R i).form.getD u 0 + factor * (σ.R j).form.getD u 0) % (σ.p : Int)) 8)) (fun a ha => by rw [hset_fr (by omega), hset_fr (by omega), hset_fr (by omega), hset_fr (by omega), hset_fr (by omega)]) ht (c5 (R' := rBegin (σ.R t) (σ.R i).e (((σ.R i).v + factor * (σ.R j).v) % (σ.p : Int)) (tab (fun u => ((σ.R i).form.getD u 0 + factor * (σ.R j).form.getD u 0) % (σ.p : Int)) 8)) gST ht (hset_ne (by omega) (hset_ne (by omega) (hset_ne (by omega) (hset_ne (by omega) (hset_eq (w5.c82))))))) (c5 (R' := rBegin (σ.R t) (σ.R i).e (((σ.R i).v + factor * (σ.R j).v) % (σ.p : Int)) (tab (fun u => ((σ.R i).form.getD u 0 + factor * (σ.R j).form.getD u 0) % (σ.p : Int)) 8)) RS.e ht (hset_ne (by omega) (hset_ne (by omega) (hset_eq (hset_ne (by omega) (hset_ne (by omega) (w5.c83))))))) (c5 (R' := rBegin (σ.R t) (σ.R i).e (((σ.R i).v + factor * (σ.R j).v) % (σ.p : Int)) (tab (fun u => ((σ.R i).form.getD u 0 + factor * (σ.R j).form.getD u 0) % (σ.p : Int)) 8)) RS.v ht (hset_ne (by omega) (hset_eq (hset_ne (by omega) (hset_ne (by omega) (hset_ne (by omega) (w5.c90))))))) (k5 (R' := rBegin (σ.R t) (σ.R i).e (((σ.R i).v + factor * (σ.R j).v) % (σ.p : Int)) (tab (fun u => ((σ.R i).form.getD u 0 + factor * (σ.R j).form.getD u 0) % (σ.p : Int)) 8)) RS.fa rfl (hset_ne (by omega) (hset_ne (by omega) (hset_ne (by omega) (hset_ne (by omega) (hset_ne (by omega) (w5.c91))))))) (k5 (R' := rBegin (σ.R t) (σ.R i).e (((σ.R i).v + factor * (σ.R j).v) % (σ.p : Int)) (tab (fun u => ((σ.R i).form.getD u 0 + factor * (σ.R j).form.getD u 0) % (σ.p : Int)) 8)) RS.w rfl (hset_ne (by omega) (hset_ne (by omega) (hset_ne (by omega) (hset_ne (by omega) (hset_ne (by omega) (w5.c92))))))) (c5 (R' := rBegin (σ.R t) (σ.R i).e (((σ.R i).v + factor * (σ.R j).v) % (σ.p : Int)) (tab (fun u => ((σ.R i).form.getD u 0 + factor * (σ.R j).form.getD u 0) % (σ.p : Int)) 8)) gMK ht (hset_ne (by omega) (hset_ne (by omega) (hset_ne (by omega) (hset_eq (hset_ne (by omega) (w5.c93))))))) (k5 (R' := rBegin (σ.R t) (σ.R i).e (((σ.R i).v + factor * (σ.R j).v) % (σ.p : Int)) (tab (fun u => ((σ.R i).form.getD u 0 + factor * (σ.R j).form.getD u 0) % (σ.p : Int)) 8)) RS.mb rfl (hset_ne (by omega) (hset_ne (by omega) (hset_ne (by omega) (hset_ne (by omega) (hset_ne (by omega) (w5.c100))))))) (k5 (R' := rBegin (σ.R t) (σ.R i).e (((σ.R i).v + factor * (σ.R j).v) % (σ.p : Int)) (tab (fun u => ((σ.R i).form.getD u 0 + factor * (σ.R j).form.getD u 0) % (σ.p : Int)) 8)) RS.c rfl (hset_ne (by omega) (hset_ne (by omega) (hset_ne (by omega) (hset_ne (by omega) (hset_ne (by omega) (w5.c101))))))) (k5 (R' := rBegin (σ.R t) (σ.R i).e (((σ.R i).v + factor * (σ.R j).v) % (σ.p : Int)) (tab (fun u => ((σ.R i).form.getD u 0 + factor * (σ.R j).form.getD u 0) % (σ.p : Int)) 8)) RS.t rfl (hset_ne (by omega) (hset_ne (by omega) (hset_ne (by omega) (hset_ne (by omega) (hset_ne (by omega) (w5.c108))))))) (hset_eq (hset_ne (by omega) (hset_ne (by omega) (hset_ne (by omega) (hset_ne (by omega) (w5.forms t ht)))))) (hset_ne (by omega) (hset_ne (by omega) (hset_ne (by omega) (hset_ne (by omega) (hset_ne (by omega) (w5.masks t ht)))))) (hset_ne (by omega) (hset_ne (by omega) (hset_ne (by omega) (hset_ne (by omega) (hset_ne (by omega) (w5.answers t ht)))))) (Exists.elim w5.s89 (fun l q => ⟨l, (hset_ne (by omega) (hset_ne (by omega) (hset_ne (by omega) (hset_ne (by omega) (hset_ne (by omega) (q.1)))))), q.2⟩)))
          · refine xRet_some ?_
            refine x_if_eqj (tgt := 81) (dT U_X11_batch 30 rfl) (by decide) (by decide) ?_
            refine x_iconst (dT U_X11_batch 42 rfl) ?_
            refine x_iconst (dT U_X11_batch 43 rfl) ?_
            refine x_invokevirtual (rc' := rc) (rs' := rs) (rc2 := 0) (rs2 := 0) (As := [_, _]) (st := _) M_X11_lets K_X11_167 (dT U_X11_batch 44 rfl) rfl rfl (by decide) rfl rfl w2.c70 (Nat.le_of_ble_eq_true rfl) (by decide) rfl (Nat.le_of_ble_eq_true rfl) rfl (by decide) (Nat.le_of_ble_eq_true rfl) rfl rfl ?_
            refine S_X11_lets0 w2 (fun h3 g3 w3 => ?_)
            refine xRet_some ?_
            refine x_if_nen (tgt := 91) (dT U_X11_batch 45 rfl) (by decide) (by decide) ?_
            refine x_iconst (dT U_X11_batch 46 rfl) ?_
            refine x_ireturn (dT U_X11_batch 47 rfl) rfl ?_
            exact e3 (by omega) (by omega) (fun z => by first | exact hs9 ⟨z.1, z.2.1⟩ | exact fs z.2.2 | (have := z.2.2; exact c74 this)) _ _ (Ag.tr (Ag.tr (Ag.tr (Ag.rf 70 142 h) (g1.w (by omega))) (g2.w (by omega))) (g3.w (by omega))) w3 (by unfold xr; omega)
        · refine xRet_some ?_
          refine x_iconst (dT U_X11_batch 22 rfl) ?_
          refine x_invokevirtual (rc' := rc) (rs' := rs) (rc2 := 0) (rs2 := 0) (As := [_, _]) (st := _) M_X11_lets K_X11_167 (dT U_X11_batch 23 rfl) rfl rfl (by decide) rfl rfl w1.c70 (Nat.le_of_ble_eq_true rfl) (by decide) rfl (Nat.le_of_ble_eq_true rfl) rfl (by decide) (Nat.le_of_ble_eq_true rfl) rfl rfl ?_
          refine S_X11_lets0 w1 (fun h2 g2 w2 => ?_)
          refine xRet_some ?_
          refine x_if_eqj (tgt := 89) (dT U_X11_batch 24 rfl) (by decide) (by decide) ?_
          refine x_iconst (dT U_X11_batch 46 rfl) ?_
          refine x_ireturn (dT U_X11_batch 47 rfl) rfl ?_
          exact e2 (by omega) (by omega) _ _ (Ag.tr (Ag.tr (Ag.rf 70 142 h) (g1.w (by omega))) (g2.w (by omega))) w2 (by unfold xr; omega)
      · refine xRet_some ?_
        refine x_if_eqj (tgt := 26) (dT U_X11_batch 8 rfl) (by decide) (by decide) ?_
        refine x_iconst (dT U_X11_batch 11 rfl) ?_
        refine x_istore (ls' := [some (.ref _), some (vi _), some (vi _), some (vi _), some (vi _), some (vi _)]) (dT U_X11_batch 12 rfl) (by decide) rfl ?_
        refine x_aload_n (dT U_X11_batch 13 rfl) rfl ?_
        refine x_iload (dT U_X11_batch 14 rfl) rfl ?_
        refine x_iconst (dT U_X11_batch 15 rfl) ?_
        refine x_invokevirtual (rc' := rc) (rs' := rs) (rc2 := 0) (rs2 := 0) (As := [_, _]) (st := _) M_X11_lets K_X11_167 (dT U_X11_batch 16 rfl) rfl rfl (by decide) rfl rfl w.c70 (Nat.le_of_ble_eq_true rfl) (by decide) rfl (Nat.le_of_ble_eq_true rfl) rfl (by decide) (Nat.le_of_ble_eq_true rfl) rfl rfl ?_
        refine S_X11_lets0 w (fun h1 g1 w1 => ?_)
        refine xRet_some ?_
        refine x_if_eqj (tgt := 89) (dT U_X11_batch 17 rfl) (by decide) (by decide) ?_
        refine x_iconst (dT U_X11_batch 46 rfl) ?_
        refine x_ireturn (dT U_X11_batch 47 rfl) rfl ?_
        exact e1 (by omega) _ _ (Ag.tr (Ag.rf 70 142 h) (g1.w (by omega))) w1 (by unfold xr; omega)
    · refine xRet_some ?_
      refine x_if_eqj (tgt := 26) (dT U_X11_batch 5 rfl) (by decide) (by decide) ?_
      refine x_iconst (dT U_X11_batch 11 rfl) ?_
      refine x_istore (ls' := [some (.ref _), some (vi _), some (vi _), some (vi _), some (vi _), some (vi _)]) (dT U_X11_batch 12 rfl) (by decide) rfl ?_
      refine x_aload_n (dT U_X11_batch 13 rfl) rfl ?_
      refine x_iload (dT U_X11_batch 14 rfl) rfl ?_
      refine x_iconst (dT U_X11_batch 15 rfl) ?_
      refine x_invokevirtual (rc' := rc) (rs' := rs) (rc2 := 0) (rs2 := 0) (As := [_, _]) (st := _) M_X11_lets K_X11_167 (dT U_X11_batch 16 rfl) rfl rfl (by decide) rfl rfl w.c70 (Nat.le_of_ble_eq_true rfl) (by decide) rfl (Nat.le_of_ble_eq_true rfl) rfl (by decide) (Nat.le_of_ble_eq_true rfl) rfl rfl ?_
      refine S_X11_lets0 w (fun h1 g1 w1 => ?_)
      refine xRet_some ?_
      refine x_if_eqj (tgt := 89) (dT U_X11_batch 17 rfl) (by decide) (by decide) ?_
      refine x_iconst (dT U_X11_batch 46 rfl) ?_
      refine x_ireturn (dT U_X11_batch 47 rfl) rfl ?_
      exact e1 (by omega) _ _ (Ag.tr (Ag.rf 70 142 h) (g1.w (by omega))) w1 (by unfold xr; omega)
  · refine xRet_some ?_
    refine x_if_eqj (tgt := 26) (dT U_X11_batch 2 rfl) (by decide) (by decide) ?_
    refine x_iconst (dT U_X11_batch 11 rfl) ?_
    refine x_istore (ls' := [some (.ref _), some (vi _), some (vi _), some (vi _), some (vi _), some (vi _)]) (dT U_X11_batch 12 rfl) (by decide) rfl ?_
    refine x_aload_n (dT U_X11_batch 13 rfl) rfl ?_
    refine x_iload (dT U_X11_batch 14 rfl) rfl ?_
    refine x_iconst (dT U_X11_batch 15 rfl) ?_
    refine x_invokevirtual (rc' := rc) (rs' := rs) (rc2 := 0) (rs2 := 0) (As := [_, _]) (st := _) M_X11_lets K_X11_167 (dT U_X11_batch 16 rfl) rfl rfl (by decide) rfl rfl w.c70 (Nat.le_of_ble_eq_true rfl) (by decide) rfl (Nat.le_of_ble_eq_true rfl) rfl (by decide) (Nat.le_of_ble_eq_true rfl) rfl rfl ?_
    refine S_X11_lets0 w (fun h1 g1 w1 => ?_)
    refine xRet_some ?_
    refine x_if_eqj (tgt := 89) (dT U_X11_batch 17 rfl) (by decide) (by decide) ?_
    refine x_iconst (dT U_X11_batch 46 rfl) ?_
    refine x_ireturn (dT U_X11_batch 47 rfl) rfl ?_
    exact e1 (by omega) _ _ (Ag.tr (Ag.rf 70 142 h) (g1.w (by omega))) w1 (by unfold xr; omega)

theorem jn_iff {p : Int} {A B x v u : Int} : (A % p + x * (B % p)) % p = (v + x * u) % p ↔ ((A % p - v) % p + x * ((B % p - u) % p)) % p = 0 := by
  rw [← md_iff, am_l, ← am_r, ml_r, am_r]
  have e : A % p + x * (B % p) - (v + x * u) = A % p - v + x * (B % p - u) := by grind
  rw [e]
theorem inn_tab {p x : Int} {f g l : List Int} : inn (tab (fun t => (f.getD t 0 + x * g.getD t 0) % p) 8) l % p = (inn f l % p + x * (inn g l % p)) % p := by
  unfold inn
  rw [sm_congr (g := fun j => l.getD j 0 * ((f.getD j 0 + x * g.getD j 0) % p)) 8 (fun j hj => by rw [tab_get _ hj, Int.mul_comm])]
  obtain ⟨q, hq⟩ := sm_lin (p := p) (c := x) (k := fun j => l.getD j 0) (a := fun j => f.getD j 0) (b := fun j => g.getD j 0) 8
  rw [hq, am_l, ← am_r, ml_r, am_r, sm_congr (f := fun j => l.getD j 0 * f.getD j 0) (g := fun j => f.getD j 0 * l.getD j 0) 8 (fun j _ => Int.mul_comm _ _), sm_congr (f := fun j => l.getD j 0 * g.getD j 0) (g := fun j => g.getD j 0 * l.getD j 0) 8 (fun j _ => Int.mul_comm _ _)]
  exact emq (-q) (by grind)

set_option maxRecDepth 20000 in
set_option maxHeartbeats 1000000 in
theorem S_X11_factors {G : xG} {d rc rs : Nat} {ex : Bool} {h : xH} {Q : xQ} {σ : St} {cc0 : Int} {rr : Nat} {ss : Int} {run second secret isBatch secret2 : Int} (w : MX σ cc0 rr ss h) (v : INV σ) (h_run : xr run) (h_second : xr second) (h_secret : xr secret) (h_secret2 : xr secret2) (h_isBatch : isBatch = 0 ∨ isBatch = 1) (e1 : ¬ (inb run 4 ∧ inb second 4 ∧ inb secret 8 ∧ inb secret2 8) → ∀ h2 z, Ag 70 142 h h2 → MX σ 1 rr ss h2 → xr z → Q (.inl (some (vi z))) ex h2) (e2 : (inb run 4 ∧ inb second 4 ∧ inb secret 8 ∧ inb secret2 8) → ¬ (joinable (σ.R run.toNat) (σ.R second.toNat) isBatch) → ∀ h2 z, Ag 70 142 h h2 → MX σ 2 rr ss h2 → xr z → Q (.inl (some (vi z))) ex h2) (k : (inb run 4 ∧ inb second 4 ∧ inb secret 8 ∧ inb secret2 8) → (joinable (σ.R run.toNat) (σ.R second.toNat) isBatch) → ∀ h2 r2 s2, Ag 70 142 h h2 → MX σ 0 r2 s2 h2 → Q (.inl (some (vi ((ct (fun x : Nat => (((inn (σ.R run.toNat).form (σ.rw secret.toNat) % (σ.p : Int) - (σ.R run.toNat).v) % (σ.p : Int)) + (x : Int) * ((inn (σ.R second.toNat).form (if isBatch = 1 then σ.rw secret.toNat else σ.rw secret2.toNat) % (σ.p : Int) - (σ.R second.toNat).v) % (σ.p : Int))) % (σ.p : Int) = 0) σ.p : Int))))) ex h2) : X G m_X11_factors (d + 2) rc rs ex 0 (xe m_X11_factors.2.2.1 [.ref 70, vi run, vi second, vi secret, vi isBatch, vi secret2]) [] h Q := by
  have hp := PRb v.p
  have hq := gq_b v.p
  rcases h_isBatch with rfl | rfl
  · show X G m_X11_factors _ _ _ _ 0 [some (.ref 70), some (vi run), some (vi second), some (vi secret), some (vi 0), some (vi secret2), none, none, none, none] [] h Q
    simp only [if_neg (show ¬ (0 : Int) = 1 by decide)] at e1 e2 k
    refine x_aload_n (dT U_X11_factors 0 rfl) rfl ?_
    refine x_iload_n (dT U_X11_factors 1 rfl) rfl ?_
    refine x_invokestatic (rc' := rc) (rs' := rs) (rc2 := 0) (rs2 := 0) (As := [_]) (st := _) M_X11_isRun K_X11_244 (dT U_X11_factors 2 rfl) rfl rfl rfl rfl (Nat.le_of_ble_eq_true rfl) rfl (by decide) (Nat.le_of_ble_eq_true rfl) rfl rfl ?_
    refine S_X11_isRun h_run (fun q1 => ?_) (fun q1 => ?_)
    · refine xRet_some ?_
      refine x_if_eqn (tgt := 34) (dT U_X11_factors 3 rfl) (by decide) (by decide) ?_
      refine x_iload_n (dT U_X11_factors 4 rfl) rfl ?_
      refine x_invokestatic (rc' := rc) (rs' := rs) (rc2 := 0) (rs2 := 0) (As := [_]) (st := _) M_X11_isRun K_X11_244 (dT U_X11_factors 5 rfl) rfl rfl rfl rfl (Nat.le_of_ble_eq_true rfl) rfl (by decide) (Nat.le_of_ble_eq_true rfl) rfl rfl ?_
      refine S_X11_isRun h_second (fun q2 => ?_) (fun q2 => ?_)
      · refine xRet_some ?_
        refine x_if_eqn (tgt := 34) (dT U_X11_factors 6 rfl) (by decide) (by decide) ?_
        refine x_iload_n (dT U_X11_factors 7 rfl) rfl ?_
        refine x_invokestatic (rc' := rc) (rs' := rs) (rc2 := 0) (rs2 := 0) (As := [_]) (st := _) M_X11_isRow K_X11_164 (dT U_X11_factors 8 rfl) rfl rfl rfl rfl (Nat.le_of_ble_eq_true rfl) rfl (by decide) (Nat.le_of_ble_eq_true rfl) rfl rfl ?_
        refine S_X11_isRow h_secret (fun q3 => ?_) (fun q3 => ?_)
        · refine xRet_some ?_
          refine x_if_eqn (tgt := 34) (dT U_X11_factors 9 rfl) (by decide) (by decide) ?_
          refine x_iload (dT U_X11_factors 10 rfl) rfl ?_
          refine x_invokestatic (rc' := rc) (rs' := rs) (rc2 := 0) (rs2 := 0) (As := [_]) (st := _) M_X11_isRow K_X11_164 (dT U_X11_factors 11 rfl) rfl rfl rfl rfl (Nat.le_of_ble_eq_true rfl) rfl (by decide) (Nat.le_of_ble_eq_true rfl) rfl rfl ?_
          refine S_X11_isRow h_secret2 (fun q4 => ?_) (fun q4 => ?_)
          · refine xRet_some ?_
            refine x_if_eqn (tgt := 34) (dT U_X11_factors 12 rfl) (by decide) (by decide) ?_
            refine x_iconst (dT U_X11_factors 13 rfl) ?_
            refine x_goto (tgt := 35) (dT U_X11_factors 14 rfl) (by decide) ?_
            refine x_iconst (dT U_X11_factors 16 rfl) ?_
            refine x_invokevirtual (rc' := rc) (rs' := rs) (rc2 := 0) (rs2 := 0) (As := [_, _]) (st := _) M_X11_lets K_X11_167 (dT U_X11_factors 17 rfl) rfl rfl (by decide) rfl rfl w.c70 (Nat.le_of_ble_eq_true rfl) (by decide) rfl (Nat.le_of_ble_eq_true rfl) rfl (by decide) (Nat.le_of_ble_eq_true rfl) rfl rfl ?_
            refine S_X11_lets1 w (fun h1 g1 w1 => ?_)
            refine xRet_some ?_
            obtain ⟨i, hi, rfl⟩ : ∃ j : Nat, j < 4 ∧ run = (j : Int) := ⟨run.toNat, by omega, by omega⟩
            try simp only [tnc] at e1 e2 k
            obtain ⟨j, hj, rfl⟩ : ∃ j : Nat, j < 4 ∧ second = (j : Int) := ⟨second.toNat, by omega, by omega⟩
            try simp only [tnc] at e1 e2 k
            obtain ⟨s, hs, rfl⟩ : ∃ j : Nat, j < 8 ∧ secret = (j : Int) := ⟨secret.toNat, by omega, by omega⟩
            try simp only [tnc] at e1 e2 k
            obtain ⟨s2, hs2, rfl⟩ : ∃ j : Nat, j < 8 ∧ secret2 = (j : Int) := ⟨secret2.toNat, by omega, by omega⟩
            try simp only [tnc] at e1 e2 k
            refine x_if_nej (tgt := 44) (dT U_X11_factors 18 rfl) (by decide) (by decide) ?_
            refine x_aload_n (dT U_X11_factors 21 rfl) rfl ?_
            refine x_aload_n (dT U_X11_factors 22 rfl) rfl ?_
            refine x_iload_n (dT U_X11_factors 23 rfl) rfl ?_
            refine x_iload_n (dT U_X11_factors 24 rfl) rfl ?_
            refine x_invokevirtual (rc' := rc) (rs' := rs) (rc2 := 0) (rs2 := 0) (As := [_, _]) (st := _) M_X11_haveStatements K_X11_271 (dT U_X11_factors 25 rfl) rfl rfl (by decide) rfl rfl w1.c70 (Nat.le_of_ble_eq_true rfl) (by decide) rfl (Nat.le_of_ble_eq_true rfl) rfl (by decide) (Nat.le_of_ble_eq_true rfl) rfl rfl ?_
            refine S_X11_haveStatements w1 v hi hj (fun hs9 => ?_) (fun hs9 => ?_)
            · refine xRet_some ?_
              refine x_if_eqn (tgt := 99) (dT U_X11_factors 26 rfl) (by decide) (by decide) ?_
              refine x_iload (dT U_X11_factors 27 rfl) rfl ?_
              refine x_if_eqj (tgt := 77) (dT U_X11_factors 28 rfl) (by decide) (by decide) ?_
              refine x_aload_n (dT U_X11_factors 39 rfl) rfl ?_
              refine x_getfield F_X11_27 (dT U_X11_factors 40 rfl) w1.c70 (Nat.le_of_ble_eq_true rfl) rfl ?_
              refine x_iload_n (dT U_X11_factors 41 rfl) rfl ?_
              refine x_aaload (i) (dT U_X11_factors 42 rfl) w1.c84 (Nat.le_of_ble_eq_true rfl) (by decide) rfl (mfL_get (by omega)) (Nat.le_of_ble_eq_true rfl) ?_
              refine x_aload_n (dT U_X11_factors 43 rfl) rfl ?_
              refine x_getfield F_X11_27 (dT U_X11_factors 44 rfl) w1.c70 (Nat.le_of_ble_eq_true rfl) rfl ?_
              refine x_iload_n (dT U_X11_factors 45 rfl) rfl ?_
              refine x_aaload (j) (dT U_X11_factors 46 rfl) w1.c84 (Nat.le_of_ble_eq_true rfl) (by decide) rfl (mfL_get (by omega)) (Nat.le_of_ble_eq_true rfl) ?_
              have fi := (v.R i hi).1.f24
              have fj := (v.R j hj).1.f24
              refine x_invokestatic (rc' := rc) (rs' := rs) (rc2 := 0) (rs2 := 0) (As := [_, _]) (st := _) M_X11_areSame K_X11_257 (dT U_X11_factors 47 rfl) rfl rfl rfl rfl (Nat.le_of_ble_eq_true rfl) rfl (by decide) (Nat.le_of_ble_eq_true rfl) rfl rfl ?_
              refine S_X11_areSame (w1.forms i hi) (by omega) fi.1 (w1.forms j hj) (by omega) fj.1 (fun t => by have h7 := fi.2 t; have h8 := fj.2 t; unfold xr; omega) (fun fs => ?_) (fun fs => ?_)
              · refine xRet_some ?_
                refine x_if_eqn (tgt := 99) (dT U_X11_factors 48 rfl) (by decide) (by decide) ?_
                refine x_iconst (dT U_X11_factors 49 rfl) ?_
                refine x_goto (tgt := 100) (dT U_X11_factors 50 rfl) (by decide) ?_
                refine x_iconst (dT U_X11_factors 52 rfl) ?_
                refine x_invokevirtual (rc' := rc) (rs' := rs) (rc2 := 0) (rs2 := 0) (As := [_, _]) (st := _) M_X11_lets K_X11_167 (dT U_X11_factors 53 rfl) rfl rfl (by decide) rfl rfl w1.c70 (Nat.le_of_ble_eq_true rfl) (by decide) rfl (Nat.le_of_ble_eq_true rfl) rfl (by decide) (Nat.le_of_ble_eq_true rfl) rfl rfl ?_
                refine S_X11_lets1 w1 (fun h2 g2 w2 => ?_)
                refine xRet_some ?_
                refine x_if_nej (tgt := 109) (dT U_X11_factors 54 rfl) (by decide) (by decide) ?_
                refine x_iconst (dT U_X11_factors 57 rfl) ?_
                refine x_istore (ls' := [some (.ref _), some (vi _), some (vi _), some (vi _), some (vi _), some (vi _), some (vi _), none, none, none]) (dT U_X11_factors 58 rfl) (by decide) rfl ?_
                refine x_iconst (dT U_X11_factors 59 rfl) ?_
                refine x_istore (ls' := [some (.ref _), some (vi _), some (vi _), some (vi _), some (vi _), some (vi _), some (vi _), some (vi _), none, none]) (dT U_X11_factors 60 rfl) (by decide) rfl ?_
                have oki := (v.R i hi).1
                have okj := (v.R j hj).1
                have sei := oki.e (by omega)
                have sej := okj.e (by omega)
                have svi := oki.v (by omega)
                have svj := okj.v (by omega)
                have L : ∀ (n u : Nat), u + n = σ.p → ∀ h1 : xH, Ag 70 142 h h1 → MX σ 0 rr ss h1 → X G m_X11_factors (d + 2) rc rs ex 115 [some (.ref 70), some (vi (i : Int)), some (vi (j : Int)), some (vi (s : Int)), some (vi 0), some (vi (s2 : Int)), some (vi (ct (fun x : Nat => (((inn (σ.R i).form (σ.rw s) % (σ.p : Int) - (σ.R i).v) % (σ.p : Int)) + (x : Int) * ((inn (σ.R j).form (σ.rw s2) % (σ.p : Int) - (σ.R j).v) % (σ.p : Int))) % (σ.p : Int) = 0) u : Int)), some (vi (u : Int)), none, none] [] h1 Q := by
                  intro n
                  induction n with
                  | zero =>
                    intro u hi_ h1 g9 wq
                    refine x_iload (dT U_X11_factors 61 rfl) rfl ?_
                    refine x_aload_n (dT U_X11_factors 62 rfl) rfl ?_
                    refine x_getfield F_X11_130 (dT U_X11_factors 63 rfl) wq.c70 (Nat.le_of_ble_eq_true rfl) rfl ?_
                    refine x_icmp_ge (tgt := 240) (dT U_X11_factors 64 rfl) (by decide) (by unfold xr; omega) (by unfold xr; omega) (fun c121 => ?_) (fun c121 => ?_)
                    · skip
                      have e : u = σ.p := by omega
                      rw [e]
                      refine x_iload (dT U_X11_factors 130 rfl) rfl ?_
                      refine x_ireturn (dT U_X11_factors 131 rfl) rfl ?_
                      exact k (by omega) (by first | exact ⟨hs9.1, hs9.2, fs⟩ | exact ⟨hs9.1, hs9.2, c71⟩) _ _ _ g9 wq
                    · exfalso; omega
                  | succ n ih =>
                    intro u hi_ h1 g9 wq
                    refine x_iload (dT U_X11_factors 61 rfl) rfl ?_
                    refine x_aload_n (dT U_X11_factors 62 rfl) rfl ?_
                    refine x_getfield F_X11_130 (dT U_X11_factors 63 rfl) wq.c70 (Nat.le_of_ble_eq_true rfl) rfl ?_
                    refine x_icmp_ge (tgt := 240) (dT U_X11_factors 64 rfl) (by decide) (by unfold xr; omega) (by unfold xr; omega) (fun c121 => ?_) (fun c121 => ?_)
                    · exfalso; omega
                    · skip
                      refine x_aload_n (dT U_X11_factors 65 rfl) rfl ?_
                      refine x_iload_n (dT U_X11_factors 66 rfl) rfl ?_
                      refine x_iload_n (dT U_X11_factors 67 rfl) rfl ?_
                      refine x_iload (dT U_X11_factors 68 rfl) rfl ?_
                      refine x_invokevirtual (rc' := rc) (rs' := rs) (rc2 := 0) (rs2 := 0) (As := [_, _, _]) (st := _) M_X11_join K_X11_278 (dT U_X11_factors 69 rfl) rfl rfl (by decide) rfl rfl wq.c70 (Nat.le_of_ble_eq_true rfl) (by decide) rfl (Nat.le_of_ble_eq_true rfl) rfl (by decide) (Nat.le_of_ble_eq_true rfl) rfl rfl ?_
                      refine S_X11_join wq v hi hj (by omega) (fun {l89} hs89 ls89 => ?_)
                      refine xRet_none ?_
                      have w5 : MX σ 0 rr ss _ := wq.t89 (l := (tab (fun t => ((σ.R i).form.getD t 0 + (u : Int) * (σ.R j).form.getD t 0) % (σ.p : Int)) 8)) (fun a ha => by rw [hset_fr (by omega)]) (hset_eq hs89) (tab_len _ _)
                      refine x_aload_n (dT U_X11_factors 70 rfl) rfl ?_
                      refine x_aload_n (dT U_X11_factors 71 rfl) rfl ?_
                      refine x_getfield F_X11_27 (dT U_X11_factors 72 rfl) w5.c70 (Nat.le_of_ble_eq_true rfl) rfl ?_
                      refine x_iconst (dT U_X11_factors 73 rfl) ?_
                      refine x_aaload (4) (dT U_X11_factors 74 rfl) w5.c84 (Nat.le_of_ble_eq_true rfl) (by decide) rfl (mfL_get (by omega)) (Nat.le_of_ble_eq_true rfl) ?_
                      refine x_aload_n (dT U_X11_factors 75 rfl) rfl ?_
                      refine x_getfield F_X11_18 (dT U_X11_factors 76 rfl) w5.c70 (Nat.le_of_ble_eq_true rfl) rfl ?_
                      refine x_iload_n (dT U_X11_factors 77 rfl) rfl ?_
                      refine x_aaload (s) (dT U_X11_factors 78 rfl) w5.c73 (Nat.le_of_ble_eq_true rfl) (by decide) rfl (mrL_get (by omega)) (Nat.le_of_ble_eq_true rfl) ?_
                      refine x_invokevirtual (rc' := rc) (rs' := rs) (rc2 := 0) (rs2 := 0) (As := [_, _]) (st := _) M_X11_product K_X11_185 (dT U_X11_factors 79 rfl) rfl rfl (by decide) rfl rfl w5.c70 (Nat.le_of_ble_eq_true rfl) (by decide) rfl (Nat.le_of_ble_eq_true rfl) rfl (by decide) (Nat.le_of_ble_eq_true rfl) rfl rfl ?_
                      refine S_X11_product (w5.mp) v.p (hset_eq hs89) (by omega) (Fl_tab (by omega) (fun t _ => by have := modb (z := (σ.R i).form.getD t 0 + (u : Int) * (σ.R j).form.getD t 0) (p := (σ.p : Int)) (by omega); omega)) (w5.rows s hs) (by omega) ((v.rw s hs).mono (by omega)) ?_
                      refine xRet_some ?_
                      refine x_istore (ls' := [some (.ref _), some (vi _), some (vi _), some (vi _), some (vi _), some (vi _), some (vi _), some (vi _), some (vi _), none]) (dT U_X11_factors 80 rfl) (by decide) rfl ?_
                      refine x_aload_n (dT U_X11_factors 81 rfl) rfl ?_
                      refine x_aload_n (dT U_X11_factors 82 rfl) rfl ?_
                      refine x_aload_n (dT U_X11_factors 83 rfl) rfl ?_
                      refine x_getfield F_X11_27 (dT U_X11_factors 84 rfl) w5.c70 (Nat.le_of_ble_eq_true rfl) rfl ?_
                      refine x_iload_n (dT U_X11_factors 85 rfl) rfl ?_
                      refine x_aaload (i) (dT U_X11_factors 86 rfl) w5.c84 (Nat.le_of_ble_eq_true rfl) (by decide) rfl (mfL_get (by omega)) (Nat.le_of_ble_eq_true rfl) ?_
                      refine x_aload_n (dT U_X11_factors 87 rfl) rfl ?_
                      refine x_getfield F_X11_18 (dT U_X11_factors 88 rfl) w5.c70 (Nat.le_of_ble_eq_true rfl) rfl ?_
                      refine x_iload_n (dT U_X11_factors 89 rfl) rfl ?_
                      refine x_aaload (s) (dT U_X11_factors 90 rfl) w5.c73 (Nat.le_of_ble_eq_true rfl) (by decide) rfl (mrL_get (by omega)) (Nat.le_of_ble_eq_true rfl) ?_
                      refine x_invokevirtual (rc' := rc) (rs' := rs) (rc2 := 0) (rs2 := 0) (As := [_, _]) (st := _) M_X11_product K_X11_185 (dT U_X11_factors 91 rfl) rfl rfl (by decide) rfl rfl w5.c70 (Nat.le_of_ble_eq_true rfl) (by decide) rfl (Nat.le_of_ble_eq_true rfl) rfl (by decide) (Nat.le_of_ble_eq_true rfl) rfl rfl ?_
                      refine S_X11_product (w5.mp) v.p (w5.forms i hi) (by omega) oki.f24 (w5.rows s hs) (by omega) ((v.rw s hs).mono (by omega)) ?_
                      refine xRet_some ?_
                      refine x_aload_n (dT U_X11_factors 92 rfl) rfl ?_
                      refine x_aload_n (dT U_X11_factors 93 rfl) rfl ?_
                      refine x_getfield F_X11_27 (dT U_X11_factors 94 rfl) w5.c70 (Nat.le_of_ble_eq_true rfl) rfl ?_
                      refine x_iload_n (dT U_X11_factors 95 rfl) rfl ?_
                      refine x_aaload (i) (dT U_X11_factors 96 rfl) w5.c84 (Nat.le_of_ble_eq_true rfl) (by decide) rfl (mfL_get (by omega)) (Nat.le_of_ble_eq_true rfl) ?_
                      refine x_aload_n (dT U_X11_factors 97 rfl) rfl ?_
                      refine x_getfield F_X11_18 (dT U_X11_factors 98 rfl) w5.c70 (Nat.le_of_ble_eq_true rfl) rfl ?_
                      refine x_iload (dT U_X11_factors 99 rfl) rfl ?_
                      refine x_aaload (s2) (dT U_X11_factors 100 rfl) w5.c73 (Nat.le_of_ble_eq_true rfl) (by decide) rfl (mrL_get (by omega)) (Nat.le_of_ble_eq_true rfl) ?_
                      refine x_invokevirtual (rc' := rc) (rs' := rs) (rc2 := 0) (rs2 := 0) (As := [_, _]) (st := _) M_X11_product K_X11_185 (dT U_X11_factors 101 rfl) rfl rfl (by decide) rfl rfl w5.c70 (Nat.le_of_ble_eq_true rfl) (by decide) rfl (Nat.le_of_ble_eq_true rfl) rfl (by decide) (Nat.le_of_ble_eq_true rfl) rfl rfl ?_
                      refine S_X11_product (w5.mp) v.p (w5.forms i hi) (by omega) oki.f24 (w5.rows s2 hs2) (by omega) ((v.rw s2 hs2).mono (by omega)) ?_
                      refine xRet_some ?_
                      refine x_iload (dT U_X11_factors 102 rfl) rfl ?_
                      refine x_invokevirtual (rc' := rc) (rs' := rs) (rc2 := 0) (rs2 := 0) (As := [_, _, _]) (st := _) M_X11_joined K_X11_274 (dT U_X11_factors 103 rfl) rfl rfl (by decide) rfl rfl w5.c70 (Nat.le_of_ble_eq_true rfl) (by decide) rfl (Nat.le_of_ble_eq_true rfl) rfl (by decide) (Nat.le_of_ble_eq_true rfl) rfl rfl ?_
                      refine S_X11_joined w5 v (modb (by omega)) (modb (by omega)) (by omega) ?_
                      refine xRet_some ?_
                      refine x_istore (ls' := [some (.ref _), some (vi _), some (vi _), some (vi _), some (vi _), some (vi _), some (vi _), some (vi _), some (vi _), some (vi _)]) (dT U_X11_factors 104 rfl) (by decide) rfl ?_
                      refine x_iload (dT U_X11_factors 105 rfl) rfl ?_
                      refine x_iload (dT U_X11_factors 106 rfl) rfl ?_
                      refine x_if_eqj (tgt := 203) (dT U_X11_factors 107 rfl) (by decide) (by decide) ?_
                      refine x_iload (dT U_X11_factors 110 rfl) rfl ?_
                      refine x_aload_n (dT U_X11_factors 111 rfl) rfl ?_
                      refine x_aload_n (dT U_X11_factors 112 rfl) rfl ?_
                      refine x_getfield F_X11_30 (dT U_X11_factors 113 rfl) w5.c70 (Nat.le_of_ble_eq_true rfl) rfl ?_
                      refine x_iload_n (dT U_X11_factors 114 rfl) rfl ?_
                      refine x_ialoadv (i) (dT U_X11_factors 115 rfl) w5.c90 (Nat.le_of_ble_eq_true rfl) rfl (show i < 5 by omega) (show 5 < 2147483648 by decide) (show _ = (σ.R i).v from t5_get hi) ?_
                      refine x_aload_n (dT U_X11_factors 116 rfl) rfl ?_
                      refine x_getfield F_X11_30 (dT U_X11_factors 117 rfl) w5.c70 (Nat.le_of_ble_eq_true rfl) rfl ?_
                      refine x_iload_n (dT U_X11_factors 118 rfl) rfl ?_
                      refine x_ialoadv (j) (dT U_X11_factors 119 rfl) w5.c90 (Nat.le_of_ble_eq_true rfl) rfl (show j < 5 by omega) (show 5 < 2147483648 by decide) (show _ = (σ.R j).v from t5_get hj) ?_
                      refine x_iload (dT U_X11_factors 120 rfl) rfl ?_
                      refine x_invokevirtual (rc' := rc) (rs' := rs) (rc2 := 0) (rs2 := 0) (As := [_, _, _]) (st := _) M_X11_joined K_X11_274 (dT U_X11_factors 121 rfl) rfl rfl (by decide) rfl rfl w5.c70 (Nat.le_of_ble_eq_true rfl) (by decide) rfl (Nat.le_of_ble_eq_true rfl) rfl (by decide) (Nat.le_of_ble_eq_true rfl) rfl rfl ?_
                      refine S_X11_joined w5 v svi svj (by omega) ?_
                      refine xRet_some ?_
                      have z1 := modb (z := (σ.R i).v + (u : Int) * (σ.R j).v) (p := (σ.p : Int)) (by omega)
                      have z2 := modb (z := inn (tab (fun t => ((σ.R i).form.getD t 0 + (u : Int) * (σ.R j).form.getD t 0) % (σ.p : Int)) 8) (σ.rw s)) (p := (σ.p : Int)) (by omega)
                      have z3 := modb (z := inn (σ.R i).form (σ.rw s) % (σ.p : Int) + (u : Int) * (inn (σ.R i).form (σ.rw s2) % (σ.p : Int))) (p := (σ.p : Int)) (by omega)
                      have ji : (inn (σ.R i).form (σ.rw s) % (σ.p : Int) + (u : Int) * (inn (σ.R i).form (σ.rw s2) % (σ.p : Int))) % (σ.p : Int) = ((σ.R i).v + (u : Int) * (σ.R j).v) % (σ.p : Int) ↔ (fun x : Nat => (((inn (σ.R i).form (σ.rw s) % (σ.p : Int) - (σ.R i).v) % (σ.p : Int)) + (x : Int) * ((inn (σ.R j).form (σ.rw s2) % (σ.p : Int) - (σ.R j).v) % (σ.p : Int))) % (σ.p : Int) = 0) u := by rw [jn_iff, fs]
                      refine x_icmp_ne (tgt := 230) (dT U_X11_factors 122 rfl) (by decide) (by unfold xr; omega) (by unfold xr; omega) (fun c223 => ?_) (fun c223 => ?_)
                      · skip
                        have cn : ¬ (fun x : Nat => (((inn (σ.R i).form (σ.rw s) % (σ.p : Int) - (σ.R i).v) % (σ.p : Int)) + (x : Int) * ((inn (σ.R j).form (σ.rw s2) % (σ.p : Int) - (σ.R j).v) % (σ.p : Int))) % (σ.p : Int) = 0) u := fun z => c223 (ji.mpr z)
                        refine x_iconst (dT U_X11_factors 125 rfl) ?_
                        refine x_iadd (dT U_X11_factors 126 rfl) ?_
                        refine x_istore (ls' := [some (.ref _), some (vi _), some (vi _), some (vi _), some (vi _), some (vi _), some (vi _), some (vi _), some (vi _), some (vi _)]) (dT U_X11_factors 127 rfl) (by decide) rfl ?_
                        refine x_iinc (ls' := [some (.ref _), some (vi _), some (vi _), some (vi _), some (vi _), some (vi _), some (vi _), some (vi _), some (vi _), some (vi _)]) (dT U_X11_factors 128 rfl) (by decide) rfl rfl ?_
                        refine x_goto (tgt := 115) (dT U_X11_factors 129 rfl) (by decide) ?_
                        have q := ih (u + 1) (by omega) _ (g9.set (by omega)) w5
                        first | rw [ct_yes (P := (fun x : Nat => (((inn (σ.R i).form (σ.rw s) % (σ.p : Int) - (σ.R i).v) % (σ.p : Int)) + (x : Int) * ((inn (σ.R j).form (σ.rw s2) % (σ.p : Int) - (σ.R j).v) % (σ.p : Int))) % (σ.p : Int) = 0)) cy] at q | rw [ct_no (P := (fun x : Nat => (((inn (σ.R i).form (σ.rw s) % (σ.p : Int) - (σ.R i).v) % (σ.p : Int)) + (x : Int) * ((inn (σ.R j).form (σ.rw s2) % (σ.p : Int) - (σ.R j).v) % (σ.p : Int))) % (σ.p : Int) = 0)) cn] at q
                        first | refine x_drop ?_ q | (rw [show (ct (fun x : Nat => (((inn (σ.R i).form (σ.rw s) % (σ.p : Int) - (σ.R i).v) % (σ.p : Int)) + (x : Int) * ((inn (σ.R j).form (σ.rw s2) % (σ.p : Int) - (σ.R j).v) % (σ.p : Int))) % (σ.p : Int) = 0) u : Int) + 0 = (ct (fun x : Nat => (((inn (σ.R i).form (σ.rw s) % (σ.p : Int) - (σ.R i).v) % (σ.p : Int)) + (x : Int) * ((inn (σ.R j).form (σ.rw s2) % (σ.p : Int) - (σ.R j).v) % (σ.p : Int))) % (σ.p : Int) = 0) u : Int) from Int.add_zero _]; refine x_drop ?_ q)
                        repeat (first | exact trivial | refine ⟨rfl, ?_⟩ | refine ⟨trivial, ?_⟩)
                      · skip
                        have cy : (fun x : Nat => (((inn (σ.R i).form (σ.rw s) % (σ.p : Int) - (σ.R i).v) % (σ.p : Int)) + (x : Int) * ((inn (σ.R j).form (σ.rw s2) % (σ.p : Int) - (σ.R j).v) % (σ.p : Int))) % (σ.p : Int) = 0) u := ji.mp (Decidable.byContradiction (fun z => by omega))
                        refine x_iconst (dT U_X11_factors 123 rfl) ?_
                        refine x_goto (tgt := 231) (dT U_X11_factors 124 rfl) (by decide) ?_
                        refine x_iadd (dT U_X11_factors 126 rfl) ?_
                        refine x_istore (ls' := [some (.ref _), some (vi _), some (vi _), some (vi _), some (vi _), some (vi _), some (vi _), some (vi _), some (vi _), some (vi _)]) (dT U_X11_factors 127 rfl) (by decide) rfl ?_
                        refine x_iinc (ls' := [some (.ref _), some (vi _), some (vi _), some (vi _), some (vi _), some (vi _), some (vi _), some (vi _), some (vi _), some (vi _)]) (dT U_X11_factors 128 rfl) (by decide) rfl rfl ?_
                        refine x_goto (tgt := 115) (dT U_X11_factors 129 rfl) (by decide) ?_
                        have q := ih (u + 1) (by omega) _ (g9.set (by omega)) w5
                        first | rw [ct_yes (P := (fun x : Nat => (((inn (σ.R i).form (σ.rw s) % (σ.p : Int) - (σ.R i).v) % (σ.p : Int)) + (x : Int) * ((inn (σ.R j).form (σ.rw s2) % (σ.p : Int) - (σ.R j).v) % (σ.p : Int))) % (σ.p : Int) = 0)) cy] at q | rw [ct_no (P := (fun x : Nat => (((inn (σ.R i).form (σ.rw s) % (σ.p : Int) - (σ.R i).v) % (σ.p : Int)) + (x : Int) * ((inn (σ.R j).form (σ.rw s2) % (σ.p : Int) - (σ.R j).v) % (σ.p : Int))) % (σ.p : Int) = 0)) cn] at q
                        first | refine x_drop ?_ q | (rw [show (ct (fun x : Nat => (((inn (σ.R i).form (σ.rw s) % (σ.p : Int) - (σ.R i).v) % (σ.p : Int)) + (x : Int) * ((inn (σ.R j).form (σ.rw s2) % (σ.p : Int) - (σ.R j).v) % (σ.p : Int))) % (σ.p : Int) = 0) u : Int) + 0 = (ct (fun x : Nat => (((inn (σ.R i).form (σ.rw s) % (σ.p : Int) - (σ.R i).v) % (σ.p : Int)) + (x : Int) * ((inn (σ.R j).form (σ.rw s2) % (σ.p : Int) - (σ.R j).v) % (σ.p : Int))) % (σ.p : Int) = 0) u : Int) from Int.add_zero _]; refine x_drop ?_ q)
                        repeat (first | exact trivial | refine ⟨rfl, ?_⟩ | refine ⟨trivial, ?_⟩)
                exact L σ.p 0 (by omega) _ (Ag.tr (Ag.tr (Ag.rf 70 142 h) (g1.w (by omega))) (g2.w (by omega))) w2
              · refine xRet_some ?_
                refine x_if_eqj (tgt := 99) (dT U_X11_factors 48 rfl) (by decide) (by decide) ?_
                refine x_iconst (dT U_X11_factors 51 rfl) ?_
                refine x_iconst (dT U_X11_factors 52 rfl) ?_
                refine x_invokevirtual (rc' := rc) (rs' := rs) (rc2 := 0) (rs2 := 0) (As := [_, _]) (st := _) M_X11_lets K_X11_167 (dT U_X11_factors 53 rfl) rfl rfl (by decide) rfl rfl w1.c70 (Nat.le_of_ble_eq_true rfl) (by decide) rfl (Nat.le_of_ble_eq_true rfl) rfl (by decide) (Nat.le_of_ble_eq_true rfl) rfl rfl ?_
                refine S_X11_lets0 w1 (fun h2 g2 w2 => ?_)
                refine xRet_some ?_
                refine x_if_nen (tgt := 109) (dT U_X11_factors 54 rfl) (by decide) (by decide) ?_
                refine x_iconst (dT U_X11_factors 55 rfl) ?_
                refine x_ireturn (dT U_X11_factors 56 rfl) rfl ?_
                exact e2 (by omega) (fun z => by first | exact hs9 ⟨z.1, z.2.1⟩ | exact fs z.2.2 | exact c71 z.2.2) _ _ (Ag.tr (Ag.tr (Ag.rf 70 142 h) (g1.w (by omega))) (g2.w (by omega))) w2 (by unfold xr; omega)
            · refine xRet_some ?_
              refine x_if_eqj (tgt := 99) (dT U_X11_factors 26 rfl) (by decide) (by decide) ?_
              refine x_iconst (dT U_X11_factors 51 rfl) ?_
              refine x_iconst (dT U_X11_factors 52 rfl) ?_
              refine x_invokevirtual (rc' := rc) (rs' := rs) (rc2 := 0) (rs2 := 0) (As := [_, _]) (st := _) M_X11_lets K_X11_167 (dT U_X11_factors 53 rfl) rfl rfl (by decide) rfl rfl w1.c70 (Nat.le_of_ble_eq_true rfl) (by decide) rfl (Nat.le_of_ble_eq_true rfl) rfl (by decide) (Nat.le_of_ble_eq_true rfl) rfl rfl ?_
              refine S_X11_lets0 w1 (fun h2 g2 w2 => ?_)
              refine xRet_some ?_
              refine x_if_nen (tgt := 109) (dT U_X11_factors 54 rfl) (by decide) (by decide) ?_
              refine x_iconst (dT U_X11_factors 55 rfl) ?_
              refine x_ireturn (dT U_X11_factors 56 rfl) rfl ?_
              exact e2 (by omega) (fun z => by first | exact hs9 ⟨z.1, z.2.1⟩ | exact fs z.2.2 | exact c71 z.2.2) _ _ (Ag.tr (Ag.tr (Ag.rf 70 142 h) (g1.w (by omega))) (g2.w (by omega))) w2 (by unfold xr; omega)
          · refine xRet_some ?_
            refine x_if_eqj (tgt := 34) (dT U_X11_factors 12 rfl) (by decide) (by decide) ?_
            refine x_iconst (dT U_X11_factors 15 rfl) ?_
            refine x_iconst (dT U_X11_factors 16 rfl) ?_
            refine x_invokevirtual (rc' := rc) (rs' := rs) (rc2 := 0) (rs2 := 0) (As := [_, _]) (st := _) M_X11_lets K_X11_167 (dT U_X11_factors 17 rfl) rfl rfl (by decide) rfl rfl w.c70 (Nat.le_of_ble_eq_true rfl) (by decide) rfl (Nat.le_of_ble_eq_true rfl) rfl (by decide) (Nat.le_of_ble_eq_true rfl) rfl rfl ?_
            refine S_X11_lets0 w (fun h1 g1 w1 => ?_)
            refine xRet_some ?_
            refine x_if_nen (tgt := 44) (dT U_X11_factors 18 rfl) (by decide) (by decide) ?_
            refine x_iconst (dT U_X11_factors 19 rfl) ?_
            refine x_ireturn (dT U_X11_factors 20 rfl) rfl ?_
            exact e1 (by omega) _ _ (Ag.tr (Ag.rf 70 142 h) (g1.w (by omega))) w1 (by unfold xr; omega)
        · refine xRet_some ?_
          refine x_if_eqj (tgt := 34) (dT U_X11_factors 9 rfl) (by decide) (by decide) ?_
          refine x_iconst (dT U_X11_factors 15 rfl) ?_
          refine x_iconst (dT U_X11_factors 16 rfl) ?_
          refine x_invokevirtual (rc' := rc) (rs' := rs) (rc2 := 0) (rs2 := 0) (As := [_, _]) (st := _) M_X11_lets K_X11_167 (dT U_X11_factors 17 rfl) rfl rfl (by decide) rfl rfl w.c70 (Nat.le_of_ble_eq_true rfl) (by decide) rfl (Nat.le_of_ble_eq_true rfl) rfl (by decide) (Nat.le_of_ble_eq_true rfl) rfl rfl ?_
          refine S_X11_lets0 w (fun h1 g1 w1 => ?_)
          refine xRet_some ?_
          refine x_if_nen (tgt := 44) (dT U_X11_factors 18 rfl) (by decide) (by decide) ?_
          refine x_iconst (dT U_X11_factors 19 rfl) ?_
          refine x_ireturn (dT U_X11_factors 20 rfl) rfl ?_
          exact e1 (by omega) _ _ (Ag.tr (Ag.rf 70 142 h) (g1.w (by omega))) w1 (by unfold xr; omega)
      · refine xRet_some ?_
        refine x_if_eqj (tgt := 34) (dT U_X11_factors 6 rfl) (by decide) (by decide) ?_
        refine x_iconst (dT U_X11_factors 15 rfl) ?_
        refine x_iconst (dT U_X11_factors 16 rfl) ?_
        refine x_invokevirtual (rc' := rc) (rs' := rs) (rc2 := 0) (rs2 := 0) (As := [_, _]) (st := _) M_X11_lets K_X11_167 (dT U_X11_factors 17 rfl) rfl rfl (by decide) rfl rfl w.c70 (Nat.le_of_ble_eq_true rfl) (by decide) rfl (Nat.le_of_ble_eq_true rfl) rfl (by decide) (Nat.le_of_ble_eq_true rfl) rfl rfl ?_
        refine S_X11_lets0 w (fun h1 g1 w1 => ?_)
        refine xRet_some ?_
        refine x_if_nen (tgt := 44) (dT U_X11_factors 18 rfl) (by decide) (by decide) ?_
        refine x_iconst (dT U_X11_factors 19 rfl) ?_
        refine x_ireturn (dT U_X11_factors 20 rfl) rfl ?_
        exact e1 (by omega) _ _ (Ag.tr (Ag.rf 70 142 h) (g1.w (by omega))) w1 (by unfold xr; omega)
    · refine xRet_some ?_
      refine x_if_eqj (tgt := 34) (dT U_X11_factors 3 rfl) (by decide) (by decide) ?_
      refine x_iconst (dT U_X11_factors 15 rfl) ?_
      refine x_iconst (dT U_X11_factors 16 rfl) ?_
      refine x_invokevirtual (rc' := rc) (rs' := rs) (rc2 := 0) (rs2 := 0) (As := [_, _]) (st := _) M_X11_lets K_X11_167 (dT U_X11_factors 17 rfl) rfl rfl (by decide) rfl rfl w.c70 (Nat.le_of_ble_eq_true rfl) (by decide) rfl (Nat.le_of_ble_eq_true rfl) rfl (by decide) (Nat.le_of_ble_eq_true rfl) rfl rfl ?_
      refine S_X11_lets0 w (fun h1 g1 w1 => ?_)
      refine xRet_some ?_
      refine x_if_nen (tgt := 44) (dT U_X11_factors 18 rfl) (by decide) (by decide) ?_
      refine x_iconst (dT U_X11_factors 19 rfl) ?_
      refine x_ireturn (dT U_X11_factors 20 rfl) rfl ?_
      exact e1 (by omega) _ _ (Ag.tr (Ag.rf 70 142 h) (g1.w (by omega))) w1 (by unfold xr; omega)
  · show X G m_X11_factors _ _ _ _ 0 [some (.ref 70), some (vi run), some (vi second), some (vi secret), some (vi 1), some (vi secret2), none, none, none, none] [] h Q
    simp only [if_pos (show (1 : Int) = 1 from rfl)] at e1 e2 k
    refine x_aload_n (dT U_X11_factors 0 rfl) rfl ?_
    refine x_iload_n (dT U_X11_factors 1 rfl) rfl ?_
    refine x_invokestatic (rc' := rc) (rs' := rs) (rc2 := 0) (rs2 := 0) (As := [_]) (st := _) M_X11_isRun K_X11_244 (dT U_X11_factors 2 rfl) rfl rfl rfl rfl (Nat.le_of_ble_eq_true rfl) rfl (by decide) (Nat.le_of_ble_eq_true rfl) rfl rfl ?_
    refine S_X11_isRun h_run (fun q1 => ?_) (fun q1 => ?_)
    · refine xRet_some ?_
      refine x_if_eqn (tgt := 34) (dT U_X11_factors 3 rfl) (by decide) (by decide) ?_
      refine x_iload_n (dT U_X11_factors 4 rfl) rfl ?_
      refine x_invokestatic (rc' := rc) (rs' := rs) (rc2 := 0) (rs2 := 0) (As := [_]) (st := _) M_X11_isRun K_X11_244 (dT U_X11_factors 5 rfl) rfl rfl rfl rfl (Nat.le_of_ble_eq_true rfl) rfl (by decide) (Nat.le_of_ble_eq_true rfl) rfl rfl ?_
      refine S_X11_isRun h_second (fun q2 => ?_) (fun q2 => ?_)
      · refine xRet_some ?_
        refine x_if_eqn (tgt := 34) (dT U_X11_factors 6 rfl) (by decide) (by decide) ?_
        refine x_iload_n (dT U_X11_factors 7 rfl) rfl ?_
        refine x_invokestatic (rc' := rc) (rs' := rs) (rc2 := 0) (rs2 := 0) (As := [_]) (st := _) M_X11_isRow K_X11_164 (dT U_X11_factors 8 rfl) rfl rfl rfl rfl (Nat.le_of_ble_eq_true rfl) rfl (by decide) (Nat.le_of_ble_eq_true rfl) rfl rfl ?_
        refine S_X11_isRow h_secret (fun q3 => ?_) (fun q3 => ?_)
        · refine xRet_some ?_
          refine x_if_eqn (tgt := 34) (dT U_X11_factors 9 rfl) (by decide) (by decide) ?_
          refine x_iload (dT U_X11_factors 10 rfl) rfl ?_
          refine x_invokestatic (rc' := rc) (rs' := rs) (rc2 := 0) (rs2 := 0) (As := [_]) (st := _) M_X11_isRow K_X11_164 (dT U_X11_factors 11 rfl) rfl rfl rfl rfl (Nat.le_of_ble_eq_true rfl) rfl (by decide) (Nat.le_of_ble_eq_true rfl) rfl rfl ?_
          refine S_X11_isRow h_secret2 (fun q4 => ?_) (fun q4 => ?_)
          · refine xRet_some ?_
            refine x_if_eqn (tgt := 34) (dT U_X11_factors 12 rfl) (by decide) (by decide) ?_
            refine x_iconst (dT U_X11_factors 13 rfl) ?_
            refine x_goto (tgt := 35) (dT U_X11_factors 14 rfl) (by decide) ?_
            refine x_iconst (dT U_X11_factors 16 rfl) ?_
            refine x_invokevirtual (rc' := rc) (rs' := rs) (rc2 := 0) (rs2 := 0) (As := [_, _]) (st := _) M_X11_lets K_X11_167 (dT U_X11_factors 17 rfl) rfl rfl (by decide) rfl rfl w.c70 (Nat.le_of_ble_eq_true rfl) (by decide) rfl (Nat.le_of_ble_eq_true rfl) rfl (by decide) (Nat.le_of_ble_eq_true rfl) rfl rfl ?_
            refine S_X11_lets1 w (fun h1 g1 w1 => ?_)
            refine xRet_some ?_
            obtain ⟨i, hi, rfl⟩ : ∃ j : Nat, j < 4 ∧ run = (j : Int) := ⟨run.toNat, by omega, by omega⟩
            try simp only [tnc] at e1 e2 k
            obtain ⟨j, hj, rfl⟩ : ∃ j : Nat, j < 4 ∧ second = (j : Int) := ⟨second.toNat, by omega, by omega⟩
            try simp only [tnc] at e1 e2 k
            obtain ⟨s, hs, rfl⟩ : ∃ j : Nat, j < 8 ∧ secret = (j : Int) := ⟨secret.toNat, by omega, by omega⟩
            try simp only [tnc] at e1 e2 k
            obtain ⟨s2, hs2, rfl⟩ : ∃ j : Nat, j < 8 ∧ secret2 = (j : Int) := ⟨secret2.toNat, by omega, by omega⟩
            try simp only [tnc] at e1 e2 k
            refine x_if_nej (tgt := 44) (dT U_X11_factors 18 rfl) (by decide) (by decide) ?_
            refine x_aload_n (dT U_X11_factors 21 rfl) rfl ?_
            refine x_aload_n (dT U_X11_factors 22 rfl) rfl ?_
            refine x_iload_n (dT U_X11_factors 23 rfl) rfl ?_
            refine x_iload_n (dT U_X11_factors 24 rfl) rfl ?_
            refine x_invokevirtual (rc' := rc) (rs' := rs) (rc2 := 0) (rs2 := 0) (As := [_, _]) (st := _) M_X11_haveStatements K_X11_271 (dT U_X11_factors 25 rfl) rfl rfl (by decide) rfl rfl w1.c70 (Nat.le_of_ble_eq_true rfl) (by decide) rfl (Nat.le_of_ble_eq_true rfl) rfl (by decide) (Nat.le_of_ble_eq_true rfl) rfl rfl ?_
            refine S_X11_haveStatements w1 v hi hj (fun hs9 => ?_) (fun hs9 => ?_)
            · refine xRet_some ?_
              refine x_if_eqn (tgt := 99) (dT U_X11_factors 26 rfl) (by decide) (by decide) ?_
              refine x_iload (dT U_X11_factors 27 rfl) rfl ?_
              refine x_if_eqn (tgt := 77) (dT U_X11_factors 28 rfl) (by decide) (by decide) ?_
              refine x_aload_n (dT U_X11_factors 29 rfl) rfl ?_
              refine x_getfield F_X11_24 (dT U_X11_factors 30 rfl) w1.c70 (Nat.le_of_ble_eq_true rfl) rfl ?_
              refine x_iload_n (dT U_X11_factors 31 rfl) rfl ?_
              refine x_ialoadv (i) (dT U_X11_factors 32 rfl) w1.c83 (Nat.le_of_ble_eq_true rfl) rfl (show i < 5 by omega) (show 5 < 2147483648 by decide) (show _ = (σ.R i).e from t5_get hi) ?_
              refine x_aload_n (dT U_X11_factors 33 rfl) rfl ?_
              refine x_getfield F_X11_24 (dT U_X11_factors 34 rfl) w1.c70 (Nat.le_of_ble_eq_true rfl) rfl ?_
              refine x_iload_n (dT U_X11_factors 35 rfl) rfl ?_
              refine x_ialoadv (j) (dT U_X11_factors 36 rfl) w1.c83 (Nat.le_of_ble_eq_true rfl) rfl (show j < 5 by omega) (show 5 < 2147483648 by decide) (show _ = (σ.R j).e from t5_get hj) ?_
              have oki := (v.R i hi).1
              have okj := (v.R j hj).1
              have sei := oki.e (by omega)
              have sej := okj.e (by omega)
              have svi := oki.v (by omega)
              have svj := okj.v (by omega)
              refine x_icmp_ne (tgt := 99) (dT U_X11_factors 37 rfl) (by decide) (by unfold xr; omega) (by unfold xr; omega) (fun c71 => ?_) (fun c71 => ?_)
              · skip
                refine x_iconst (dT U_X11_factors 51 rfl) ?_
                refine x_iconst (dT U_X11_factors 52 rfl) ?_
                refine x_invokevirtual (rc' := rc) (rs' := rs) (rc2 := 0) (rs2 := 0) (As := [_, _]) (st := _) M_X11_lets K_X11_167 (dT U_X11_factors 53 rfl) rfl rfl (by decide) rfl rfl w1.c70 (Nat.le_of_ble_eq_true rfl) (by decide) rfl (Nat.le_of_ble_eq_true rfl) rfl (by decide) (Nat.le_of_ble_eq_true rfl) rfl rfl ?_
                refine S_X11_lets0 w1 (fun h2 g2 w2 => ?_)
                refine xRet_some ?_
                refine x_if_nen (tgt := 109) (dT U_X11_factors 54 rfl) (by decide) (by decide) ?_
                refine x_iconst (dT U_X11_factors 55 rfl) ?_
                refine x_ireturn (dT U_X11_factors 56 rfl) rfl ?_
                exact e2 (by omega) (fun z => by first | exact hs9 ⟨z.1, z.2.1⟩ | exact fs z.2.2 | exact c71 z.2.2) _ _ (Ag.tr (Ag.tr (Ag.rf 70 142 h) (g1.w (by omega))) (g2.w (by omega))) w2 (by unfold xr; omega)
              · skip
                refine x_goto (tgt := 95) (dT U_X11_factors 38 rfl) (by decide) ?_
                refine x_iconst (dT U_X11_factors 49 rfl) ?_
                refine x_goto (tgt := 100) (dT U_X11_factors 50 rfl) (by decide) ?_
                refine x_iconst (dT U_X11_factors 52 rfl) ?_
                refine x_invokevirtual (rc' := rc) (rs' := rs) (rc2 := 0) (rs2 := 0) (As := [_, _]) (st := _) M_X11_lets K_X11_167 (dT U_X11_factors 53 rfl) rfl rfl (by decide) rfl rfl w1.c70 (Nat.le_of_ble_eq_true rfl) (by decide) rfl (Nat.le_of_ble_eq_true rfl) rfl (by decide) (Nat.le_of_ble_eq_true rfl) rfl rfl ?_
                refine S_X11_lets1 w1 (fun h2 g2 w2 => ?_)
                refine xRet_some ?_
                refine x_if_nej (tgt := 109) (dT U_X11_factors 54 rfl) (by decide) (by decide) ?_
                refine x_iconst (dT U_X11_factors 57 rfl) ?_
                refine x_istore (ls' := [some (.ref _), some (vi _), some (vi _), some (vi _), some (vi _), some (vi _), some (vi _), none, none, none]) (dT U_X11_factors 58 rfl) (by decide) rfl ?_
                refine x_iconst (dT U_X11_factors 59 rfl) ?_
                refine x_istore (ls' := [some (.ref _), some (vi _), some (vi _), some (vi _), some (vi _), some (vi _), some (vi _), some (vi _), none, none]) (dT U_X11_factors 60 rfl) (by decide) rfl ?_
                have L : ∀ (n u : Nat), u + n = σ.p → ∀ h1 : xH, Ag 70 142 h h1 → MX σ 0 rr ss h1 → X G m_X11_factors (d + 2) rc rs ex 115 [some (.ref 70), some (vi (i : Int)), some (vi (j : Int)), some (vi (s : Int)), some (vi 1), some (vi (s2 : Int)), some (vi (ct (fun x : Nat => (((inn (σ.R i).form (σ.rw s) % (σ.p : Int) - (σ.R i).v) % (σ.p : Int)) + (x : Int) * ((inn (σ.R j).form (σ.rw s) % (σ.p : Int) - (σ.R j).v) % (σ.p : Int))) % (σ.p : Int) = 0) u : Int)), some (vi (u : Int)), none, none] [] h1 Q := by
                  intro n
                  induction n with
                  | zero =>
                    intro u hi_ h1 g9 wq
                    refine x_iload (dT U_X11_factors 61 rfl) rfl ?_
                    refine x_aload_n (dT U_X11_factors 62 rfl) rfl ?_
                    refine x_getfield F_X11_130 (dT U_X11_factors 63 rfl) wq.c70 (Nat.le_of_ble_eq_true rfl) rfl ?_
                    refine x_icmp_ge (tgt := 240) (dT U_X11_factors 64 rfl) (by decide) (by unfold xr; omega) (by unfold xr; omega) (fun c121 => ?_) (fun c121 => ?_)
                    · skip
                      have e : u = σ.p := by omega
                      rw [e]
                      refine x_iload (dT U_X11_factors 130 rfl) rfl ?_
                      refine x_ireturn (dT U_X11_factors 131 rfl) rfl ?_
                      exact k (by omega) (by first | exact ⟨hs9.1, hs9.2, fs⟩ | exact ⟨hs9.1, hs9.2, c71⟩) _ _ _ g9 wq
                    · exfalso; omega
                  | succ n ih =>
                    intro u hi_ h1 g9 wq
                    refine x_iload (dT U_X11_factors 61 rfl) rfl ?_
                    refine x_aload_n (dT U_X11_factors 62 rfl) rfl ?_
                    refine x_getfield F_X11_130 (dT U_X11_factors 63 rfl) wq.c70 (Nat.le_of_ble_eq_true rfl) rfl ?_
                    refine x_icmp_ge (tgt := 240) (dT U_X11_factors 64 rfl) (by decide) (by unfold xr; omega) (by unfold xr; omega) (fun c121 => ?_) (fun c121 => ?_)
                    · exfalso; omega
                    · skip
                      refine x_aload_n (dT U_X11_factors 65 rfl) rfl ?_
                      refine x_iload_n (dT U_X11_factors 66 rfl) rfl ?_
                      refine x_iload_n (dT U_X11_factors 67 rfl) rfl ?_
                      refine x_iload (dT U_X11_factors 68 rfl) rfl ?_
                      refine x_invokevirtual (rc' := rc) (rs' := rs) (rc2 := 0) (rs2 := 0) (As := [_, _, _]) (st := _) M_X11_join K_X11_278 (dT U_X11_factors 69 rfl) rfl rfl (by decide) rfl rfl wq.c70 (Nat.le_of_ble_eq_true rfl) (by decide) rfl (Nat.le_of_ble_eq_true rfl) rfl (by decide) (Nat.le_of_ble_eq_true rfl) rfl rfl ?_
                      refine S_X11_join wq v hi hj (by omega) (fun {l89} hs89 ls89 => ?_)
                      refine xRet_none ?_
                      have w5 : MX σ 0 rr ss _ := wq.t89 (l := (tab (fun t => ((σ.R i).form.getD t 0 + (u : Int) * (σ.R j).form.getD t 0) % (σ.p : Int)) 8)) (fun a ha => by rw [hset_fr (by omega)]) (hset_eq hs89) (tab_len _ _)
                      refine x_aload_n (dT U_X11_factors 70 rfl) rfl ?_
                      refine x_aload_n (dT U_X11_factors 71 rfl) rfl ?_
                      refine x_getfield F_X11_27 (dT U_X11_factors 72 rfl) w5.c70 (Nat.le_of_ble_eq_true rfl) rfl ?_
                      refine x_iconst (dT U_X11_factors 73 rfl) ?_
                      refine x_aaload (4) (dT U_X11_factors 74 rfl) w5.c84 (Nat.le_of_ble_eq_true rfl) (by decide) rfl (mfL_get (by omega)) (Nat.le_of_ble_eq_true rfl) ?_
                      refine x_aload_n (dT U_X11_factors 75 rfl) rfl ?_
                      refine x_getfield F_X11_18 (dT U_X11_factors 76 rfl) w5.c70 (Nat.le_of_ble_eq_true rfl) rfl ?_
                      refine x_iload_n (dT U_X11_factors 77 rfl) rfl ?_
                      refine x_aaload (s) (dT U_X11_factors 78 rfl) w5.c73 (Nat.le_of_ble_eq_true rfl) (by decide) rfl (mrL_get (by omega)) (Nat.le_of_ble_eq_true rfl) ?_
                      refine x_invokevirtual (rc' := rc) (rs' := rs) (rc2 := 0) (rs2 := 0) (As := [_, _]) (st := _) M_X11_product K_X11_185 (dT U_X11_factors 79 rfl) rfl rfl (by decide) rfl rfl w5.c70 (Nat.le_of_ble_eq_true rfl) (by decide) rfl (Nat.le_of_ble_eq_true rfl) rfl (by decide) (Nat.le_of_ble_eq_true rfl) rfl rfl ?_
                      refine S_X11_product (w5.mp) v.p (hset_eq hs89) (by omega) (Fl_tab (by omega) (fun t _ => by have := modb (z := (σ.R i).form.getD t 0 + (u : Int) * (σ.R j).form.getD t 0) (p := (σ.p : Int)) (by omega); omega)) (w5.rows s hs) (by omega) ((v.rw s hs).mono (by omega)) ?_
                      refine xRet_some ?_
                      refine x_istore (ls' := [some (.ref _), some (vi _), some (vi _), some (vi _), some (vi _), some (vi _), some (vi _), some (vi _), some (vi _), none]) (dT U_X11_factors 80 rfl) (by decide) rfl ?_
                      refine x_aload_n (dT U_X11_factors 81 rfl) rfl ?_
                      refine x_aload_n (dT U_X11_factors 82 rfl) rfl ?_
                      refine x_aload_n (dT U_X11_factors 83 rfl) rfl ?_
                      refine x_getfield F_X11_27 (dT U_X11_factors 84 rfl) w5.c70 (Nat.le_of_ble_eq_true rfl) rfl ?_
                      refine x_iload_n (dT U_X11_factors 85 rfl) rfl ?_
                      refine x_aaload (i) (dT U_X11_factors 86 rfl) w5.c84 (Nat.le_of_ble_eq_true rfl) (by decide) rfl (mfL_get (by omega)) (Nat.le_of_ble_eq_true rfl) ?_
                      refine x_aload_n (dT U_X11_factors 87 rfl) rfl ?_
                      refine x_getfield F_X11_18 (dT U_X11_factors 88 rfl) w5.c70 (Nat.le_of_ble_eq_true rfl) rfl ?_
                      refine x_iload_n (dT U_X11_factors 89 rfl) rfl ?_
                      refine x_aaload (s) (dT U_X11_factors 90 rfl) w5.c73 (Nat.le_of_ble_eq_true rfl) (by decide) rfl (mrL_get (by omega)) (Nat.le_of_ble_eq_true rfl) ?_
                      refine x_invokevirtual (rc' := rc) (rs' := rs) (rc2 := 0) (rs2 := 0) (As := [_, _]) (st := _) M_X11_product K_X11_185 (dT U_X11_factors 91 rfl) rfl rfl (by decide) rfl rfl w5.c70 (Nat.le_of_ble_eq_true rfl) (by decide) rfl (Nat.le_of_ble_eq_true rfl) rfl (by decide) (Nat.le_of_ble_eq_true rfl) rfl rfl ?_
                      refine S_X11_product (w5.mp) v.p (w5.forms i hi) (by omega) oki.f24 (w5.rows s hs) (by omega) ((v.rw s hs).mono (by omega)) ?_
                      refine xRet_some ?_
                      refine x_aload_n (dT U_X11_factors 92 rfl) rfl ?_
                      refine x_aload_n (dT U_X11_factors 93 rfl) rfl ?_
                      refine x_getfield F_X11_27 (dT U_X11_factors 94 rfl) w5.c70 (Nat.le_of_ble_eq_true rfl) rfl ?_
                      refine x_iload_n (dT U_X11_factors 95 rfl) rfl ?_
                      refine x_aaload (i) (dT U_X11_factors 96 rfl) w5.c84 (Nat.le_of_ble_eq_true rfl) (by decide) rfl (mfL_get (by omega)) (Nat.le_of_ble_eq_true rfl) ?_
                      refine x_aload_n (dT U_X11_factors 97 rfl) rfl ?_
                      refine x_getfield F_X11_18 (dT U_X11_factors 98 rfl) w5.c70 (Nat.le_of_ble_eq_true rfl) rfl ?_
                      refine x_iload (dT U_X11_factors 99 rfl) rfl ?_
                      refine x_aaload (s2) (dT U_X11_factors 100 rfl) w5.c73 (Nat.le_of_ble_eq_true rfl) (by decide) rfl (mrL_get (by omega)) (Nat.le_of_ble_eq_true rfl) ?_
                      refine x_invokevirtual (rc' := rc) (rs' := rs) (rc2 := 0) (rs2 := 0) (As := [_, _]) (st := _) M_X11_product K_X11_185 (dT U_X11_factors 101 rfl) rfl rfl (by decide) rfl rfl w5.c70 (Nat.le_of_ble_eq_true rfl) (by decide) rfl (Nat.le_of_ble_eq_true rfl) rfl (by decide) (Nat.le_of_ble_eq_true rfl) rfl rfl ?_
                      refine S_X11_product (w5.mp) v.p (w5.forms i hi) (by omega) oki.f24 (w5.rows s2 hs2) (by omega) ((v.rw s2 hs2).mono (by omega)) ?_
                      refine xRet_some ?_
                      refine x_iload (dT U_X11_factors 102 rfl) rfl ?_
                      refine x_invokevirtual (rc' := rc) (rs' := rs) (rc2 := 0) (rs2 := 0) (As := [_, _, _]) (st := _) M_X11_joined K_X11_274 (dT U_X11_factors 103 rfl) rfl rfl (by decide) rfl rfl w5.c70 (Nat.le_of_ble_eq_true rfl) (by decide) rfl (Nat.le_of_ble_eq_true rfl) rfl (by decide) (Nat.le_of_ble_eq_true rfl) rfl rfl ?_
                      refine S_X11_joined w5 v (modb (by omega)) (modb (by omega)) (by omega) ?_
                      refine xRet_some ?_
                      refine x_istore (ls' := [some (.ref _), some (vi _), some (vi _), some (vi _), some (vi _), some (vi _), some (vi _), some (vi _), some (vi _), some (vi _)]) (dT U_X11_factors 104 rfl) (by decide) rfl ?_
                      refine x_iload (dT U_X11_factors 105 rfl) rfl ?_
                      refine x_iload (dT U_X11_factors 106 rfl) rfl ?_
                      refine x_if_eqn (tgt := 203) (dT U_X11_factors 107 rfl) (by decide) (by decide) ?_
                      refine x_iload (dT U_X11_factors 108 rfl) rfl ?_
                      refine x_goto (tgt := 205) (dT U_X11_factors 109 rfl) (by decide) ?_
                      refine x_aload_n (dT U_X11_factors 111 rfl) rfl ?_
                      refine x_aload_n (dT U_X11_factors 112 rfl) rfl ?_
                      refine x_getfield F_X11_30 (dT U_X11_factors 113 rfl) w5.c70 (Nat.le_of_ble_eq_true rfl) rfl ?_
                      refine x_iload_n (dT U_X11_factors 114 rfl) rfl ?_
                      refine x_ialoadv (i) (dT U_X11_factors 115 rfl) w5.c90 (Nat.le_of_ble_eq_true rfl) rfl (show i < 5 by omega) (show 5 < 2147483648 by decide) (show _ = (σ.R i).v from t5_get hi) ?_
                      refine x_aload_n (dT U_X11_factors 116 rfl) rfl ?_
                      refine x_getfield F_X11_30 (dT U_X11_factors 117 rfl) w5.c70 (Nat.le_of_ble_eq_true rfl) rfl ?_
                      refine x_iload_n (dT U_X11_factors 118 rfl) rfl ?_
                      refine x_ialoadv (j) (dT U_X11_factors 119 rfl) w5.c90 (Nat.le_of_ble_eq_true rfl) rfl (show j < 5 by omega) (show 5 < 2147483648 by decide) (show _ = (σ.R j).v from t5_get hj) ?_
                      refine x_iload (dT U_X11_factors 120 rfl) rfl ?_
                      refine x_invokevirtual (rc' := rc) (rs' := rs) (rc2 := 0) (rs2 := 0) (As := [_, _, _]) (st := _) M_X11_joined K_X11_274 (dT U_X11_factors 121 rfl) rfl rfl (by decide) rfl rfl w5.c70 (Nat.le_of_ble_eq_true rfl) (by decide) rfl (Nat.le_of_ble_eq_true rfl) rfl (by decide) (Nat.le_of_ble_eq_true rfl) rfl rfl ?_
                      refine S_X11_joined w5 v svi svj (by omega) ?_
                      refine xRet_some ?_
                      have z1 := modb (z := (σ.R i).v + (u : Int) * (σ.R j).v) (p := (σ.p : Int)) (by omega)
                      have z2 := modb (z := inn (tab (fun t => ((σ.R i).form.getD t 0 + (u : Int) * (σ.R j).form.getD t 0) % (σ.p : Int)) 8) (σ.rw s)) (p := (σ.p : Int)) (by omega)
                      have z3 := modb (z := inn (σ.R i).form (σ.rw s) % (σ.p : Int) + (u : Int) * (inn (σ.R i).form (σ.rw s2) % (σ.p : Int))) (p := (σ.p : Int)) (by omega)
                      have ji : inn (tab (fun t => ((σ.R i).form.getD t 0 + (u : Int) * (σ.R j).form.getD t 0) % (σ.p : Int)) 8) (σ.rw s) % (σ.p : Int) = ((σ.R i).v + (u : Int) * (σ.R j).v) % (σ.p : Int) ↔ (fun x : Nat => (((inn (σ.R i).form (σ.rw s) % (σ.p : Int) - (σ.R i).v) % (σ.p : Int)) + (x : Int) * ((inn (σ.R j).form (σ.rw s) % (σ.p : Int) - (σ.R j).v) % (σ.p : Int))) % (σ.p : Int) = 0) u := by rw [inn_tab]; exact jn_iff
                      refine x_icmp_ne (tgt := 230) (dT U_X11_factors 122 rfl) (by decide) (by unfold xr; omega) (by unfold xr; omega) (fun c223 => ?_) (fun c223 => ?_)
                      · skip
                        have cn : ¬ (fun x : Nat => (((inn (σ.R i).form (σ.rw s) % (σ.p : Int) - (σ.R i).v) % (σ.p : Int)) + (x : Int) * ((inn (σ.R j).form (σ.rw s) % (σ.p : Int) - (σ.R j).v) % (σ.p : Int))) % (σ.p : Int) = 0) u := fun z => c223 (ji.mpr z)
                        refine x_iconst (dT U_X11_factors 125 rfl) ?_
                        refine x_iadd (dT U_X11_factors 126 rfl) ?_
                        refine x_istore (ls' := [some (.ref _), some (vi _), some (vi _), some (vi _), some (vi _), some (vi _), some (vi _), some (vi _), some (vi _), some (vi _)]) (dT U_X11_factors 127 rfl) (by decide) rfl ?_
                        refine x_iinc (ls' := [some (.ref _), some (vi _), some (vi _), some (vi _), some (vi _), some (vi _), some (vi _), some (vi _), some (vi _), some (vi _)]) (dT U_X11_factors 128 rfl) (by decide) rfl rfl ?_
                        refine x_goto (tgt := 115) (dT U_X11_factors 129 rfl) (by decide) ?_
                        have q := ih (u + 1) (by omega) _ (g9.set (by omega)) w5
                        first | rw [ct_yes (P := (fun x : Nat => (((inn (σ.R i).form (σ.rw s) % (σ.p : Int) - (σ.R i).v) % (σ.p : Int)) + (x : Int) * ((inn (σ.R j).form (σ.rw s) % (σ.p : Int) - (σ.R j).v) % (σ.p : Int))) % (σ.p : Int) = 0)) cy] at q | rw [ct_no (P := (fun x : Nat => (((inn (σ.R i).form (σ.rw s) % (σ.p : Int) - (σ.R i).v) % (σ.p : Int)) + (x : Int) * ((inn (σ.R j).form (σ.rw s) % (σ.p : Int) - (σ.R j).v) % (σ.p : Int))) % (σ.p : Int) = 0)) cn] at q
                        first | refine x_drop ?_ q | (rw [show (ct (fun x : Nat => (((inn (σ.R i).form (σ.rw s) % (σ.p : Int) - (σ.R i).v) % (σ.p : Int)) + (x : Int) * ((inn (σ.R j).form (σ.rw s) % (σ.p : Int) - (σ.R j).v) % (σ.p : Int))) % (σ.p : Int) = 0) u : Int) + 0 = (ct (fun x : Nat => (((inn (σ.R i).form (σ.rw s) % (σ.p : Int) - (σ.R i).v) % (σ.p : Int)) + (x : Int) * ((inn (σ.R j).form (σ.rw s) % (σ.p : Int) - (σ.R j).v) % (σ.p : Int))) % (σ.p : Int) = 0) u : Int) from Int.add_zero _]; refine x_drop ?_ q)
                        repeat (first | exact trivial | refine ⟨rfl, ?_⟩ | refine ⟨trivial, ?_⟩)
                      · skip
                        have cy : (fun x : Nat => (((inn (σ.R i).form (σ.rw s) % (σ.p : Int) - (σ.R i).v) % (σ.p : Int)) + (x : Int) * ((inn (σ.R j).form (σ.rw s) % (σ.p : Int) - (σ.R j).v) % (σ.p : Int))) % (σ.p : Int) = 0) u := ji.mp (Decidable.byContradiction (fun z => by omega))
                        refine x_iconst (dT U_X11_factors 123 rfl) ?_
                        refine x_goto (tgt := 231) (dT U_X11_factors 124 rfl) (by decide) ?_
                        refine x_iadd (dT U_X11_factors 126 rfl) ?_
                        refine x_istore (ls' := [some (.ref _), some (vi _), some (vi _), some (vi _), some (vi _), some (vi _), some (vi _), some (vi _), some (vi _), some (vi _)]) (dT U_X11_factors 127 rfl) (by decide) rfl ?_
                        refine x_iinc (ls' := [some (.ref _), some (vi _), some (vi _), some (vi _), some (vi _), some (vi _), some (vi _), some (vi _), some (vi _), some (vi _)]) (dT U_X11_factors 128 rfl) (by decide) rfl rfl ?_
                        refine x_goto (tgt := 115) (dT U_X11_factors 129 rfl) (by decide) ?_
                        have q := ih (u + 1) (by omega) _ (g9.set (by omega)) w5
                        first | rw [ct_yes (P := (fun x : Nat => (((inn (σ.R i).form (σ.rw s) % (σ.p : Int) - (σ.R i).v) % (σ.p : Int)) + (x : Int) * ((inn (σ.R j).form (σ.rw s) % (σ.p : Int) - (σ.R j).v) % (σ.p : Int))) % (σ.p : Int) = 0)) cy] at q | rw [ct_no (P := (fun x : Nat => (((inn (σ.R i).form (σ.rw s) % (σ.p : Int) - (σ.R i).v) % (σ.p : Int)) + (x : Int) * ((inn (σ.R j).form (σ.rw s) % (σ.p : Int) - (σ.R j).v) % (σ.p : Int))) % (σ.p : Int) = 0)) cn] at q
                        first | refine x_drop ?_ q | (rw [show (ct (fun x : Nat => (((inn (σ.R i).form (σ.rw s) % (σ.p : Int) - (σ.R i).v) % (σ.p : Int)) + (x : Int) * ((inn (σ.R j).form (σ.rw s) % (σ.p : Int) - (σ.R j).v) % (σ.p : Int))) % (σ.p : Int) = 0) u : Int) + 0 = (ct (fun x : Nat => (((inn (σ.R i).form (σ.rw s) % (σ.p : Int) - (σ.R i).v) % (σ.p : Int)) + (x : Int) * ((inn (σ.R j).form (σ.rw s) % (σ.p : Int) - (σ.R j).v) % (σ.p : Int))) % (σ.p : Int) = 0) u : Int) from Int.add_zero _]; refine x_drop ?_ q)
                        repeat (first | exact trivial | refine ⟨rfl, ?_⟩ | refine ⟨trivial, ?_⟩)
                exact L σ.p 0 (by omega) _ (Ag.tr (Ag.tr (Ag.rf 70 142 h) (g1.w (by omega))) (g2.w (by omega))) w2
            · refine xRet_some ?_
              refine x_if_eqj (tgt := 99) (dT U_X11_factors 26 rfl) (by decide) (by decide) ?_
              refine x_iconst (dT U_X11_factors 51 rfl) ?_
              refine x_iconst (dT U_X11_factors 52 rfl) ?_
              refine x_invokevirtual (rc' := rc) (rs' := rs) (rc2 := 0) (rs2 := 0) (As := [_, _]) (st := _) M_X11_lets K_X11_167 (dT U_X11_factors 53 rfl) rfl rfl (by decide) rfl rfl w1.c70 (Nat.le_of_ble_eq_true rfl) (by decide) rfl (Nat.le_of_ble_eq_true rfl) rfl (by decide) (Nat.le_of_ble_eq_true rfl) rfl rfl ?_
              refine S_X11_lets0 w1 (fun h2 g2 w2 => ?_)
              refine xRet_some ?_
              refine x_if_nen (tgt := 109) (dT U_X11_factors 54 rfl) (by decide) (by decide) ?_
              refine x_iconst (dT U_X11_factors 55 rfl) ?_
              refine x_ireturn (dT U_X11_factors 56 rfl) rfl ?_
              exact e2 (by omega) (fun z => by first | exact hs9 ⟨z.1, z.2.1⟩ | exact fs z.2.2 | exact c71 z.2.2) _ _ (Ag.tr (Ag.tr (Ag.rf 70 142 h) (g1.w (by omega))) (g2.w (by omega))) w2 (by unfold xr; omega)
          · refine xRet_some ?_
            refine x_if_eqj (tgt := 34) (dT U_X11_factors 12 rfl) (by decide) (by decide) ?_
            refine x_iconst (dT U_X11_factors 15 rfl) ?_
            refine x_iconst (dT U_X11_factors 16 rfl) ?_
            refine x_invokevirtual (rc' := rc) (rs' := rs) (rc2 := 0) (rs2 := 0) (As := [_, _]) (st := _) M_X11_lets K_X11_167 (dT U_X11_factors 17 rfl) rfl rfl (by decide) rfl rfl w.c70 (Nat.le_of_ble_eq_true rfl) (by decide) rfl (Nat.le_of_ble_eq_true rfl) rfl (by decide) (Nat.le_of_ble_eq_true rfl) rfl rfl ?_
            refine S_X11_lets0 w (fun h1 g1 w1 => ?_)
            refine xRet_some ?_
            refine x_if_nen (tgt := 44) (dT U_X11_factors 18 rfl) (by decide) (by decide) ?_
            refine x_iconst (dT U_X11_factors 19 rfl) ?_
            refine x_ireturn (dT U_X11_factors 20 rfl) rfl ?_
            exact e1 (by omega) _ _ (Ag.tr (Ag.rf 70 142 h) (g1.w (by omega))) w1 (by unfold xr; omega)
        · refine xRet_some ?_
          refine x_if_eqj (tgt := 34) (dT U_X11_factors 9 rfl) (by decide) (by decide) ?_
          refine x_iconst (dT U_X11_factors 15 rfl) ?_
          refine x_iconst (dT U_X11_factors 16 rfl) ?_
          refine x_invokevirtual (rc' := rc) (rs' := rs) (rc2 := 0) (rs2 := 0) (As := [_, _]) (st := _) M_X11_lets K_X11_167 (dT U_X11_factors 17 rfl) rfl rfl (by decide) rfl rfl w.c70 (Nat.le_of_ble_eq_true rfl) (by decide) rfl (Nat.le_of_ble_eq_true rfl) rfl (by decide) (Nat.le_of_ble_eq_true rfl) rfl rfl ?_
          refine S_X11_lets0 w (fun h1 g1 w1 => ?_)
          refine xRet_some ?_
          refine x_if_nen (tgt := 44) (dT U_X11_factors 18 rfl) (by decide) (by decide) ?_
          refine x_iconst (dT U_X11_factors 19 rfl) ?_
          refine x_ireturn (dT U_X11_factors 20 rfl) rfl ?_
          exact e1 (by omega) _ _ (Ag.tr (Ag.rf 70 142 h) (g1.w (by omega))) w1 (by unfold xr; omega)
      · refine xRet_some ?_
        refine x_if_eqj (tgt := 34) (dT U_X11_factors 6 rfl) (by decide) (by decide) ?_
        refine x_iconst (dT U_X11_factors 15 rfl) ?_
        refine x_iconst (dT U_X11_factors 16 rfl) ?_
        refine x_invokevirtual (rc' := rc) (rs' := rs) (rc2 := 0) (rs2 := 0) (As := [_, _]) (st := _) M_X11_lets K_X11_167 (dT U_X11_factors 17 rfl) rfl rfl (by decide) rfl rfl w.c70 (Nat.le_of_ble_eq_true rfl) (by decide) rfl (Nat.le_of_ble_eq_true rfl) rfl (by decide) (Nat.le_of_ble_eq_true rfl) rfl rfl ?_
        refine S_X11_lets0 w (fun h1 g1 w1 => ?_)
        refine xRet_some ?_
        refine x_if_nen (tgt := 44) (dT U_X11_factors 18 rfl) (by decide) (by decide) ?_
        refine x_iconst (dT U_X11_factors 19 rfl) ?_
        refine x_ireturn (dT U_X11_factors 20 rfl) rfl ?_
        exact e1 (by omega) _ _ (Ag.tr (Ag.rf 70 142 h) (g1.w (by omega))) w1 (by unfold xr; omega)
    · refine xRet_some ?_
      refine x_if_eqj (tgt := 34) (dT U_X11_factors 3 rfl) (by decide) (by decide) ?_
      refine x_iconst (dT U_X11_factors 15 rfl) ?_
      refine x_iconst (dT U_X11_factors 16 rfl) ?_
      refine x_invokevirtual (rc' := rc) (rs' := rs) (rc2 := 0) (rs2 := 0) (As := [_, _]) (st := _) M_X11_lets K_X11_167 (dT U_X11_factors 17 rfl) rfl rfl (by decide) rfl rfl w.c70 (Nat.le_of_ble_eq_true rfl) (by decide) rfl (Nat.le_of_ble_eq_true rfl) rfl (by decide) (Nat.le_of_ble_eq_true rfl) rfl rfl ?_
      refine S_X11_lets0 w (fun h1 g1 w1 => ?_)
      refine xRet_some ?_
      refine x_if_nen (tgt := 44) (dT U_X11_factors 18 rfl) (by decide) (by decide) ?_
      refine x_iconst (dT U_X11_factors 19 rfl) ?_
      refine x_ireturn (dT U_X11_factors 20 rfl) rfl ?_
      exact e1 (by omega) _ _ (Ag.tr (Ag.rf 70 142 h) (g1.w (by omega))) w1 (by unfold xr; omega)
