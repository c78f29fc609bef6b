theorem sl_tmod {a b : Int} (ha : 0 ≤ a ∧ a < 251) (hb : 0 ≤ b ∧ b < 251) : (a * a * a + 7 * b * b + 5 * a * b + 3 * a + b + 11).tmod 251 = sl a b := by
  have h := sl_r ha hb
  unfold sl
  exact Int.tmod_eq_emod_of_nonneg h.1

set_option maxRecDepth 20000 in
set_option maxHeartbeats 1000000 in
theorem S_X11_sealed {G : xG} {d rc rs : Nat} {ex : Bool} {h : xH} {Q : xQ} {a b : Int} (ha : 0 ≤ a ∧ a < 251) (hb : 0 ≤ b ∧ b < 251) (k : Q (.inl (some (vi (sl a b)))) ex h) : X G m_X11_sealed d rc rs ex 0 (xe m_X11_sealed.2.2.1 [vi a, vi b]) [] h Q := by
  show X G m_X11_sealed _ _ _ _ 0 [some (vi a), some (vi b)] [] h Q
  have s1 := mulg (a := a) (b := a) (m := 250) (n := 250) (by omega) (by omega)
  have s2 := mulg (a := a * a) (b := a) (m := 62500) (n := 250) (by omega) (by omega)
  have s3 := mulg (a := 7 * b) (b := b) (m := 1750) (n := 250) (by omega) (by omega)
  have s4 := mulg (a := 5 * a) (b := b) (m := 1250) (n := 250) (by omega) (by omega)
  have sr := sl_r ha hb
  refine x_iload_n (dT U_X11_sealed 0 rfl) rfl ?_
  refine x_i2l (dT U_X11_sealed 1 rfl) (by unfold xr; omega) ?_
  refine x_iload_n (dT U_X11_sealed 2 rfl) rfl ?_
  refine x_i2l (dT U_X11_sealed 3 rfl) (by unfold xr; omega) ?_
  refine x_lmul (dT U_X11_sealed 4 rfl) ?_
  refine x_iload_n (dT U_X11_sealed 5 rfl) rfl ?_
  refine x_i2l (dT U_X11_sealed 6 rfl) (by unfold xr; omega) ?_
  refine x_lmul (dT U_X11_sealed 7 rfl) ?_
  refine x_ldc2 C_X11_214 (dT U_X11_sealed 8 rfl) ?_
  refine x_iload_n (dT U_X11_sealed 9 rfl) rfl ?_
  refine x_i2l (dT U_X11_sealed 10 rfl) (by unfold xr; omega) ?_
  refine x_lmul (dT U_X11_sealed 11 rfl) ?_
  refine x_iload_n (dT U_X11_sealed 12 rfl) rfl ?_
  refine x_i2l (dT U_X11_sealed 13 rfl) (by unfold xr; omega) ?_
  refine x_lmul (dT U_X11_sealed 14 rfl) ?_
  refine x_ladd (dT U_X11_sealed 15 rfl) ?_
  refine x_ldc2 C_X11_216 (dT U_X11_sealed 16 rfl) ?_
  refine x_iload_n (dT U_X11_sealed 17 rfl) rfl ?_
  refine x_i2l (dT U_X11_sealed 18 rfl) (by unfold xr; omega) ?_
  refine x_lmul (dT U_X11_sealed 19 rfl) ?_
  refine x_iload_n (dT U_X11_sealed 20 rfl) rfl ?_
  refine x_i2l (dT U_X11_sealed 21 rfl) (by unfold xr; omega) ?_
  refine x_lmul (dT U_X11_sealed 22 rfl) ?_
  refine x_ladd (dT U_X11_sealed 23 rfl) ?_
  refine x_ldc2 C_X11_218 (dT U_X11_sealed 24 rfl) ?_
  refine x_iload_n (dT U_X11_sealed 25 rfl) rfl ?_
  refine x_i2l (dT U_X11_sealed 26 rfl) (by unfold xr; omega) ?_
  refine x_lmul (dT U_X11_sealed 27 rfl) ?_
  refine x_ladd (dT U_X11_sealed 28 rfl) ?_
  refine x_iload_n (dT U_X11_sealed 29 rfl) rfl ?_
  refine x_i2l (dT U_X11_sealed 30 rfl) (by unfold xr; omega) ?_
  refine x_ladd (dT U_X11_sealed 31 rfl) ?_
  refine x_ldc2 C_X11_220 (dT U_X11_sealed 32 rfl) ?_
  refine x_ladd (dT U_X11_sealed 33 rfl) ?_
  refine x_ldc2 C_X11_222 (dT U_X11_sealed 34 rfl) ?_
  refine x_lrem (dT U_X11_sealed 35 rfl) (by unfold xrl; omega) (by unfold xrl; omega) (by omega) ?_
  refine x_l2i (dT U_X11_sealed 36 rfl) ?_
  refine x_ireturn (dT U_X11_sealed 37 rfl) rfl ?_
  rw [sl_tmod ha hb]
  exact k

set_option maxRecDepth 20000 in
set_option maxHeartbeats 1000000 in
theorem S_X11_sealed_ {G : xG} {d rc rs : Nat} {ex : Bool} {h : xH} {Q : xQ} {n0 : Nat} (hn : n0 < 63001) (k : Q (.inl (some (vi (sl ((n0 / 251 : Nat) : Int) ((n0 % 251 : Nat) : Int))))) ex h) : X G m_X11_sealed_ (d + 1) rc rs ex 0 (xe m_X11_sealed_.2.2.1 [vi (n0 : Int)]) [] h Q := by
  show X G m_X11_sealed_ _ _ _ _ 0 [some (vi (n0 : Int))] [] h Q
  refine x_iload_n (dT U_X11_sealed_ 0 rfl) rfl ?_
  refine x_sipush (dT U_X11_sealed_ 1 rfl) (by decide) ?_
  refine x_idiv (dT U_X11_sealed_ 2 rfl) (by unfold xr; omega) (by omega) ?_
  refine x_iload_n (dT U_X11_sealed_ 3 rfl) rfl ?_
  refine x_sipush (dT U_X11_sealed_ 4 rfl) (by decide) ?_
  refine x_irem (dT U_X11_sealed_ 5 rfl) (by unfold xr; omega) (by unfold xr; omega) (by omega) ?_
  refine x_invokestatic (rc' := rc) (rs' := rs) (rc2 := 0) (rs2 := 0) (As := [_, _]) (st := _) M_X11_sealed K_X11_224 (dT U_X11_sealed_ 6 rfl) rfl rfl rfl rfl (Nat.le_of_ble_eq_true rfl) rfl (by decide) (Nat.le_of_ble_eq_true rfl) rfl rfl ?_
  rw [show (n0 : Int).tdiv 251 = ((n0 / 251 : Nat) : Int) by rw [Int.tdiv_eq_ediv_of_nonneg (by omega)]; omega, show (n0 : Int).tmod 251 = ((n0 % 251 : Nat) : Int) by rw [Int.tmod_eq_emod_of_nonneg (by omega)]; omega]
  refine S_X11_sealed (by omega) (by omega) ?_
  refine xRet_some ?_
  refine x_ireturn (dT U_X11_sealed_ 7 rfl) rfl ?_
  exact k

set_option maxRecDepth 20000 in
set_option maxHeartbeats 1000000 in
theorem S_X11_seal {G : xG} {d rc rs : Nat} {ex : Bool} {h : xH} {Q : xQ} {σ : St} {cc0 : Int} {rr : Nat} {ss : Int} {a b : Int} (w : MX σ cc0 rr ss h) (v : INV σ) (h_a : xr a) (h_b : xr b) (e1 : ¬ (inb a 251 ∧ inb b 251) → ∀ h2 z, Ag 70 142 h h2 → MX σ 1 rr ss h2 → xr z → Q (.inl (some (vi z))) ex h2) (k : (inb a 251 ∧ inb b 251) → ∀ h2 r2 s2, Ag 70 142 h h2 → MX σ 0 r2 s2 h2 → Q (.inl (some (vi (sl a b)))) ex h2) : X G m_X11_seal (d + 2) rc rs ex 0 (xe m_X11_seal.2.2.1 [.ref 70, vi a, vi b]) [] h Q := by
  show X G m_X11_seal _ _ _ _ 0 [some (.ref 70), some (vi a), some (vi b)] [] h Q
  have hp := PRb v.p
  have hq := gq_b v.p
  refine x_aload_n (dT U_X11_seal 0 rfl) rfl ?_
  refine x_iload_n (dT U_X11_seal 1 rfl) rfl ?_
  refine x_invokestatic (rc' := rc) (rs' := rs) (rc2 := 0) (rs2 := 0) (As := [_]) (st := _) M_X11_isSeal K_X11_227 (dT U_X11_seal 2 rfl) rfl rfl rfl rfl (Nat.le_of_ble_eq_true rfl) rfl (by decide) (Nat.le_of_ble_eq_true rfl) rfl rfl ?_
  refine S_X11_isSeal h_a (fun q1 => ?_) (fun q1 => ?_)
  · refine xRet_some ?_
    refine x_if_eqn (tgt := 19) (dT U_X11_seal 3 rfl) (by decide) (by decide) ?_
    refine x_iload_n (dT U_X11_seal 4 rfl) rfl ?_
    refine x_invokestatic (rc' := rc) (rs' := rs) (rc2 := 0) (rs2 := 0) (As := [_]) (st := _) M_X11_isSeal K_X11_227 (dT U_X11_seal 5 rfl) rfl rfl rfl rfl (Nat.le_of_ble_eq_true rfl) rfl (by decide) (Nat.le_of_ble_eq_true rfl) rfl rfl ?_
    refine S_X11_isSeal h_b (fun q2 => ?_) (fun q2 => ?_)
    · refine xRet_some ?_
      refine x_if_eqn (tgt := 19) (dT U_X11_seal 6 rfl) (by decide) (by decide) ?_
      refine x_iconst (dT U_X11_seal 7 rfl) ?_
      refine x_goto (tgt := 20) (dT U_X11_seal 8 rfl) (by decide) ?_
      refine x_iconst (dT U_X11_seal 10 rfl) ?_
      refine x_invokevirtual (rc' := rc) (rs' := rs) (rc2 := 0) (rs2 := 0) (As := [_, _]) (st := _) M_X11_lets K_X11_167 (dT U_X11_seal 11 rfl) rfl rfl (by decide) rfl rfl w.c70 (Nat.le_of_ble_eq_true rfl) (by decide) rfl (Nat.le_of_ble_eq_true rfl) rfl (by decide) (Nat.le_of_ble_eq_true rfl) rfl rfl ?_
      refine S_X11_lets1 w (fun h1 g1 w1 => ?_)
      refine xRet_some ?_
      refine x_if_eqn (tgt := 35) (dT U_X11_seal 12 rfl) (by decide) (by decide) ?_
      refine x_iload_n (dT U_X11_seal 13 rfl) rfl ?_
      refine x_iload_n (dT U_X11_seal 14 rfl) rfl ?_
      refine x_invokestatic (rc' := rc) (rs' := rs) (rc2 := 0) (rs2 := 0) (As := [_, _]) (st := _) M_X11_sealed K_X11_224 (dT U_X11_seal 15 rfl) rfl rfl rfl rfl (Nat.le_of_ble_eq_true rfl) rfl (by decide) (Nat.le_of_ble_eq_true rfl) rfl rfl ?_
      refine S_X11_sealed (by omega) (by omega) ?_
      refine xRet_some ?_
      refine x_goto (tgt := 36) (dT U_X11_seal 16 rfl) (by decide) ?_
      refine x_ireturn (dT U_X11_seal 18 rfl) rfl ?_
      exact k (by omega) _ _ _ (Ag.tr (Ag.rf 70 142 h) (g1.w (by omega))) w1
    · refine xRet_some ?_
      refine x_if_eqj (tgt := 19) (dT U_X11_seal 6 rfl) (by decide) (by decide) ?_
      refine x_iconst (dT U_X11_seal 9 rfl) ?_
      refine x_iconst (dT U_X11_seal 10 rfl) ?_
      refine x_invokevirtual (rc' := rc) (rs' := rs) (rc2 := 0) (rs2 := 0) (As := [_, _]) (st := _) M_X11_lets K_X11_167 (dT U_X11_seal 11 rfl) rfl rfl (by decide) rfl rfl w.c70 (Nat.le_of_ble_eq_true rfl) (by decide) rfl (Nat.le_of_ble_eq_true rfl) rfl (by decide) (Nat.le_of_ble_eq_true rfl) rfl rfl ?_
      refine S_X11_lets0 w (fun h1 g1 w1 => ?_)
      refine xRet_some ?_
      refine x_if_eqj (tgt := 35) (dT U_X11_seal 12 rfl) (by decide) (by decide) ?_
      refine x_iconst (dT U_X11_seal 17 rfl) ?_
      refine x_ireturn (dT U_X11_seal 18 rfl) rfl ?_
      exact e1 (by omega) _ _ (Ag.tr (Ag.rf 70 142 h) (g1.w (by omega))) w1 (by unfold xr; omega)
  · refine xRet_some ?_
    refine x_if_eqj (tgt := 19) (dT U_X11_seal 3 rfl) (by decide) (by decide) ?_
    refine x_iconst (dT U_X11_seal 9 rfl) ?_
    refine x_iconst (dT U_X11_seal 10 rfl) ?_
    refine x_invokevirtual (rc' := rc) (rs' := rs) (rc2 := 0) (rs2 := 0) (As := [_, _]) (st := _) M_X11_lets K_X11_167 (dT U_X11_seal 11 rfl) rfl rfl (by decide) rfl rfl w.c70 (Nat.le_of_ble_eq_true rfl) (by decide) rfl (Nat.le_of_ble_eq_true rfl) rfl (by decide) (Nat.le_of_ble_eq_true rfl) rfl rfl ?_
    refine S_X11_lets0 w (fun h1 g1 w1 => ?_)
    refine xRet_some ?_
    refine x_if_eqj (tgt := 35) (dT U_X11_seal 12 rfl) (by decide) (by decide) ?_
    refine x_iconst (dT U_X11_seal 17 rfl) ?_
    refine x_ireturn (dT U_X11_seal 18 rfl) rfl ?_
    exact e1 (by omega) _ _ (Ag.tr (Ag.rf 70 142 h) (g1.w (by omega))) w1 (by unfold xr; omega)

set_option maxRecDepth 20000 in
set_option maxHeartbeats 1000000 in
theorem S_X11_twin {G : xG} {d rc rs : Nat} {ex : Bool} {h : xH} {Q : xQ} {σ : St} {cc0 : Int} {rr : Nat} {ss : Int} {a b : Int} (w : MX σ cc0 rr ss h) (v : INV σ) (h_a : xr a) (h_b : xr b) (e1 : ¬ (inb a 251 ∧ inb b 251) → ∀ h2 z, Ag 70 142 h h2 → MX σ 1 rr ss h2 → xr z → Q (.inl (some (vi z))) ex h2) (k : (inb a 251 ∧ inb b 251) → ∀ h2 r2 s2, Ag 70 142 h h2 → MX σ 0 r2 s2 h2 → Q (.inl (some (vi (ff (TWP a b) 0 63001)))) ex h2) : X G m_X11_twin (d + 2) rc rs ex 0 (xe m_X11_twin.2.2.1 [.ref 70, vi a, vi b]) [] h Q := by
  show X G m_X11_twin _ _ _ _ 0 [some (.ref 70), some (vi a), some (vi b), none, none] [] h Q
  have hp := PRb v.p
  have hq := gq_b v.p
  refine x_aload_n (dT U_X11_twin 0 rfl) rfl ?_
  refine x_iload_n (dT U_X11_twin 1 rfl) rfl ?_
  refine x_invokestatic (rc' := rc) (rs' := rs) (rc2 := 0) (rs2 := 0) (As := [_]) (st := _) M_X11_isSeal K_X11_227 (dT U_X11_twin 2 rfl) rfl rfl rfl rfl (Nat.le_of_ble_eq_true rfl) rfl (by decide) (Nat.le_of_ble_eq_true rfl) rfl rfl ?_
  refine S_X11_isSeal h_a (fun q1 => ?_) (fun q1 => ?_)
  · refine xRet_some ?_
    refine x_if_eqn (tgt := 19) (dT U_X11_twin 3 rfl) (by decide) (by decide) ?_
    refine x_iload_n (dT U_X11_twin 4 rfl) rfl ?_
    refine x_invokestatic (rc' := rc) (rs' := rs) (rc2 := 0) (rs2 := 0) (As := [_]) (st := _) M_X11_isSeal K_X11_227 (dT U_X11_twin 5 rfl) rfl rfl rfl rfl (Nat.le_of_ble_eq_true rfl) rfl (by decide) (Nat.le_of_ble_eq_true rfl) rfl rfl ?_
    refine S_X11_isSeal h_b (fun q2 => ?_) (fun q2 => ?_)
    · refine xRet_some ?_
      refine x_if_eqn (tgt := 19) (dT U_X11_twin 6 rfl) (by decide) (by decide) ?_
      refine x_iconst (dT U_X11_twin 7 rfl) ?_
      refine x_goto (tgt := 20) (dT U_X11_twin 8 rfl) (by decide) ?_
      refine x_iconst (dT U_X11_twin 10 rfl) ?_
      refine x_invokevirtual (rc' := rc) (rs' := rs) (rc2 := 0) (rs2 := 0) (As := [_, _]) (st := _) M_X11_lets K_X11_167 (dT U_X11_twin 11 rfl) rfl rfl (by decide) rfl rfl w.c70 (Nat.le_of_ble_eq_true rfl) (by decide) rfl (Nat.le_of_ble_eq_true rfl) rfl (by decide) (Nat.le_of_ble_eq_true rfl) rfl rfl ?_
      refine S_X11_lets1 w (fun h1 g1 w1 => ?_)
      refine xRet_some ?_
      refine x_if_nej (tgt := 29) (dT U_X11_twin 12 rfl) (by decide) (by decide) ?_
      refine x_iload_n (dT U_X11_twin 15 rfl) rfl ?_
      refine x_iload_n (dT U_X11_twin 16 rfl) rfl ?_
      refine x_invokestatic (rc' := rc) (rs' := rs) (rc2 := 0) (rs2 := 0) (As := [_, _]) (st := _) M_X11_sealed K_X11_224 (dT U_X11_twin 17 rfl) rfl rfl rfl rfl (Nat.le_of_ble_eq_true rfl) rfl (by decide) (Nat.le_of_ble_eq_true rfl) rfl rfl ?_
      refine S_X11_sealed (by omega) (by omega) ?_
      refine xRet_some ?_
      refine x_istore_n (ls' := [some (.ref _), some (vi _), some (vi _), some (vi _), none]) (dT U_X11_twin 18 rfl) (by decide) rfl ?_
      refine x_iconst (dT U_X11_twin 19 rfl) ?_
      refine x_istore (ls' := [some (.ref _), some (vi _), some (vi _), some (vi _), some (vi _)]) (dT U_X11_twin 20 rfl) (by decide) rfl ?_
      have L : ∀ (n u : Nat), u + n = 63001 → Q (.inl (some (vi (ff (TWP a b) u n)))) ex h1 → X G m_X11_twin (d + 2) rc rs ex 38 [some (.ref 70), some (vi a), some (vi b), some (vi (sl a b)), some (vi (u : Int))] [] h1 Q := by
        intro n
        induction n with
        | zero =>
          intro u hi_ kk
          refine x_iload (dT U_X11_twin 21 rfl) rfl ?_
          refine x_ldc C_X11_230 (dT U_X11_twin 22 rfl) ?_
          refine x_icmp_ge (tgt := 75) (dT U_X11_twin 23 rfl) (by decide) (by unfold xr; omega) (by unfold xr at *; omega) (fun c42 => ?_) (fun c42 => ?_)
          · skip
            refine x_iconst (dT U_X11_twin 39 rfl) ?_
            refine x_ireturn (dT U_X11_twin 40 rfl) rfl ?_
            exact kk
          · exfalso; omega
        | succ n ih =>
          intro u hi_ kk
          refine x_iload (dT U_X11_twin 21 rfl) rfl ?_
          refine x_ldc C_X11_230 (dT U_X11_twin 22 rfl) ?_
          refine x_icmp_ge (tgt := 75) (dT U_X11_twin 23 rfl) (by decide) (by unfold xr; omega) (by unfold xr at *; omega) (fun c42 => ?_) (fun c42 => ?_)
          · exfalso; omega
          · skip
            refine x_iload (dT U_X11_twin 24 rfl) rfl ?_
            refine x_sipush (dT U_X11_twin 25 rfl) (by decide) ?_
            refine x_iload_n (dT U_X11_twin 26 rfl) rfl ?_
            refine x_imul (dT U_X11_twin 27 rfl) ?_
            refine x_iload_n (dT U_X11_twin 28 rfl) rfl ?_
            refine x_iadd (dT U_X11_twin 29 rfl) ?_
            refine x_icmp_eq (tgt := 69) (dT U_X11_twin 30 rfl) (by decide) (by unfold xr; omega) (by unfold xr; omega) (fun c54 => ?_) (fun c54 => ?_)
            · skip
              rw [ff_n (P := TWP a b) (fun z => z.1 c54)] at kk
              refine x_iinc (ls' := [some (.ref _), some (vi _), some (vi _), some (vi _), some (vi _)]) (dT U_X11_twin 37 rfl) (by decide) rfl rfl ?_
              refine x_goto (tgt := 38) (dT U_X11_twin 38 rfl) (by decide) ?_
              exact ih (u + 1) (by omega) kk
            · skip
              refine x_iload (dT U_X11_twin 31 rfl) rfl ?_
              refine x_invokestatic (rc' := rc) (rs' := rs) (rc2 := 0) (rs2 := 0) (As := [_]) (st := _) M_X11_sealed_ K_X11_231 (dT U_X11_twin 32 rfl) rfl rfl rfl rfl (Nat.le_of_ble_eq_true rfl) rfl (by decide) (Nat.le_of_ble_eq_true rfl) rfl rfl ?_
              refine S_X11_sealed_ (by omega) ?_
              have sb1 := sl_b ((u / 251 : Nat) : Int) ((u % 251 : Nat) : Int)
              have sb2 := sl_b a b
              refine xRet_some ?_
              refine x_iload_n (dT U_X11_twin 33 rfl) rfl ?_
              refine x_icmp_ne (tgt := 69) (dT U_X11_twin 34 rfl) (by decide) (by unfold xr; omega) (by unfold xr; omega) (fun c63 => ?_) (fun c63 => ?_)
              · skip
                rw [ff_n (P := TWP a b) (fun z => c63 z.2)] at kk
                refine x_iinc (ls' := [some (.ref _), some (vi _), some (vi _), some (vi _), some (vi _)]) (dT U_X11_twin 37 rfl) (by decide) rfl rfl ?_
                refine x_goto (tgt := 38) (dT U_X11_twin 38 rfl) (by decide) ?_
                exact ih (u + 1) (by omega) kk
              · skip
                refine x_iload (dT U_X11_twin 35 rfl) rfl ?_
                refine x_ireturn (dT U_X11_twin 36 rfl) rfl ?_
                rw [ff_y (P := TWP a b) ⟨c54, Decidable.byContradiction (fun z => by omega)⟩] at kk
                exact kk
      exact L 63001 0 (by omega) (k (by omega) _ _ _ (Ag.tr (Ag.rf 70 142 h) (g1.w (by omega))) w1)
    · refine xRet_some ?_
      refine x_if_eqj (tgt := 19) (dT U_X11_twin 6 rfl) (by decide) (by decide) ?_
      refine x_iconst (dT U_X11_twin 9 rfl) ?_
      refine x_iconst (dT U_X11_twin 10 rfl) ?_
      refine x_invokevirtual (rc' := rc) (rs' := rs) (rc2 := 0) (rs2 := 0) (As := [_, _]) (st := _) M_X11_lets K_X11_167 (dT U_X11_twin 11 rfl) rfl rfl (by decide) rfl rfl w.c70 (Nat.le_of_ble_eq_true rfl) (by decide) rfl (Nat.le_of_ble_eq_true rfl) rfl (by decide) (Nat.le_of_ble_eq_true rfl) rfl rfl ?_
      refine S_X11_lets0 w (fun h1 g1 w1 => ?_)
      refine xRet_some ?_
      refine x_if_nen (tgt := 29) (dT U_X11_twin 12 rfl) (by decide) (by decide) ?_
      refine x_iconst (dT U_X11_twin 13 rfl) ?_
      refine x_ireturn (dT U_X11_twin 14 rfl) rfl ?_
      exact e1 (by omega) _ _ (Ag.tr (Ag.rf 70 142 h) (g1.w (by omega))) w1 (by unfold xr; omega)
  · refine xRet_some ?_
    refine x_if_eqj (tgt := 19) (dT U_X11_twin 3 rfl) (by decide) (by decide) ?_
    refine x_iconst (dT U_X11_twin 9 rfl) ?_
    refine x_iconst (dT U_X11_twin 10 rfl) ?_
    refine x_invokevirtual (rc' := rc) (rs' := rs) (rc2 := 0) (rs2 := 0) (As := [_, _]) (st := _) M_X11_lets K_X11_167 (dT U_X11_twin 11 rfl) rfl rfl (by decide) rfl rfl w.c70 (Nat.le_of_ble_eq_true rfl) (by decide) rfl (Nat.le_of_ble_eq_true rfl) rfl (by decide) (Nat.le_of_ble_eq_true rfl) rfl rfl ?_
    refine S_X11_lets0 w (fun h1 g1 w1 => ?_)
    refine xRet_some ?_
    refine x_if_nen (tgt := 29) (dT U_X11_twin 12 rfl) (by decide) (by decide) ?_
    refine x_iconst (dT U_X11_twin 13 rfl) ?_
    refine x_ireturn (dT U_X11_twin 14 rfl) rfl ?_
    exact e1 (by omega) _ _ (Ag.tr (Ag.rf 70 142 h) (g1.w (by omega))) w1 (by unfold xr; omega)

set_option maxRecDepth 20000 in
set_option maxHeartbeats 1000000 in
theorem S_X11_anew {G : xG} {d rc rs : Nat} {ex : Bool} {h : xH} {Q : xQ} {σ : St} {cc0 : Int} {rr : Nat} {ss : Int} {i : Nat} {y v9 : Int} (w : MX σ cc0 rr ss h) (hi : i < 4) (k : Q (.inl none) ex ((((h.set 82 (cA 0 ((t5 (fun j => gST (σ.R j))).set i 1))).set 93 (cA 1 ((t5 (fun j => gMK (σ.R j))).set i 0))).set 83 (cA 0 ((t5 (fun j => RS.e (σ.R j))).set i y))).set 90 (cA 0 ((t5 (fun j => RS.v (σ.R j))).set i v9)))) : X G m_X11_anew d rc rs ex 0 (xe m_X11_anew.2.2.1 [.ref 70, vi (i : Int), vi y, vi v9]) [] h Q := by
  show X G m_X11_anew _ _ _ _ 0 [some (.ref 70), some (vi (i : Int)), some (vi y), some (vi v9)] [] h Q
  refine x_aload_n (dT U_X11_anew 0 rfl) rfl ?_
  refine x_getfield F_X11_21 (dT U_X11_anew 1 rfl) w.c70 (Nat.le_of_ble_eq_true rfl) rfl ?_
  refine x_iload_n (dT U_X11_anew 2 rfl) rfl ?_
  refine x_iconst (dT U_X11_anew 3 rfl) ?_
  refine x_iastore (i) (dT U_X11_anew 4 rfl) w.c82 (Nat.le_of_ble_eq_true rfl) rfl (show i < 5 by omega) (show 5 < 2147483648 by decide) ?_
  refine x_aload_n (dT U_X11_anew 5 rfl) rfl ?_
  refine x_getfield F_X11_39 (dT U_X11_anew 6 rfl) (hset_ne (by omega) (w.c70)) (Nat.le_of_ble_eq_true rfl) rfl ?_
  refine x_iload_n (dT U_X11_anew 7 rfl) rfl ?_
  refine x_iconst (dT U_X11_anew 8 rfl) ?_
  refine x_bastore (i) (dT U_X11_anew 9 rfl) (by omega) (hset_ne (by omega) (w.c93)) (Nat.le_of_ble_eq_true rfl) rfl (show i < 5 by omega) (show 5 < 2147483648 by decide) ?_
  refine x_aload_n (dT U_X11_anew 10 rfl) rfl ?_
  refine x_getfield F_X11_24 (dT U_X11_anew 11 rfl) (hset_ne (by omega) (hset_ne (by omega) (w.c70))) (Nat.le_of_ble_eq_true rfl) rfl ?_
  refine x_iload_n (dT U_X11_anew 12 rfl) rfl ?_
  refine x_iload_n (dT U_X11_anew 13 rfl) rfl ?_
  refine x_iastore (i) (dT U_X11_anew 14 rfl) (hset_ne (by omega) (hset_ne (by omega) (w.c83))) (Nat.le_of_ble_eq_true rfl) rfl (show i < 5 by omega) (show 5 < 2147483648 by decide) ?_
  refine x_aload_n (dT U_X11_anew 15 rfl) rfl ?_
  refine x_getfield F_X11_30 (dT U_X11_anew 16 rfl) (hset_ne (by omega) (hset_ne (by omega) (hset_ne (by omega) (w.c70)))) (Nat.le_of_ble_eq_true rfl) rfl ?_
  refine x_iload_n (dT U_X11_anew 17 rfl) rfl ?_
  refine x_iload_n (dT U_X11_anew 18 rfl) rfl ?_
  refine x_iastore (i) (dT U_X11_anew 19 rfl) (hset_ne (by omega) (hset_ne (by omega) (hset_ne (by omega) (w.c90)))) (Nat.le_of_ble_eq_true rfl) rfl (show i < 5 by omega) (show 5 < 2147483648 by decide) ?_
  refine x_return (dT U_X11_anew 20 rfl) rfl ?_
  exact k

set_option maxRecDepth 20000 in
set_option maxHeartbeats 1000000 in
theorem S_X11_state {G : xG} {d rc rs : Nat} {ex : Bool} {h : xH} {Q : xQ} {σ : St} {cc0 : Int} {rr : Nat} {ss : Int} {run y form x : Int} (w : MX σ cc0 rr ss h) (v : INV σ) (h_run : xr run) (h_y : xr y) (h_form : xr form) (h_x : xr x) (e1 : ¬ (inb run 4 ∧ inb form 8) → ∀ h2 z, Ag 70 142 h h2 → MX σ 1 rr ss h2 → xr z → Q (.inl (some (vi z))) ex h2) (e2 : (inb run 4 ∧ inb form 8) → ¬ (¬ exI σ.p y = -1 ∧ inb x σ.p) → ∀ h2 z, Ag 70 142 h h2 → MX σ 2 rr ss h2 → xr z → Q (.inl (some (vi z))) ex h2) (k : (inb run 4 ∧ inb form 8) → (¬ exI σ.p y = -1 ∧ inb x σ.p) → ∀ h2 r2 s2, Ag 70 142 h h2 → MX (σ.sRun run.toNat (rBegin (σ.R run.toNat) (exI σ.p y) x (σ.rw form.toNat))) 0 r2 s2 h2 → Q (.inl (some (vi (y)))) ex h2) : X G m_X11_state (d + 2) rc rs ex 0 (xe m_X11_state.2.2.1 [.ref 70, vi run, vi y, vi form, vi x]) [] h Q := by
  show X G m_X11_state _ _ _ _ 0 [some (.ref 70), some (vi run), some (vi y), some (vi form), some (vi x)] [] h Q
  have hp := PRb v.p
  have hq := gq_b v.p
  refine x_aload_n (dT U_X11_state 0 rfl) rfl ?_
  refine x_iload_n (dT U_X11_state 1 rfl) rfl ?_
  refine x_invokestatic (rc' := rc) (rs' := rs) (rc2 := 0) (rs2 := 0) (As := [_]) (st := _) M_X11_isRun K_X11_244 (dT U_X11_state 2 rfl) rfl rfl rfl rfl (Nat.le_of_ble_eq_true rfl) rfl (by decide) (Nat.le_of_ble_eq_true rfl) rfl rfl ?_
  refine S_X11_isRun h_run (fun q1 => ?_) (fun q1 => ?_)
  · refine xRet_some ?_
    refine x_if_eqn (tgt := 19) (dT U_X11_state 3 rfl) (by decide) (by decide) ?_
    refine x_iload_n (dT U_X11_state 4 rfl) rfl ?_
    refine x_invokestatic (rc' := rc) (rs' := rs) (rc2 := 0) (rs2 := 0) (As := [_]) (st := _) M_X11_isRow K_X11_164 (dT U_X11_state 5 rfl) rfl rfl rfl rfl (Nat.le_of_ble_eq_true rfl) rfl (by decide) (Nat.le_of_ble_eq_true rfl) rfl rfl ?_
    refine S_X11_isRow h_form (fun q2 => ?_) (fun q2 => ?_)
    · refine xRet_some ?_
      refine x_if_eqn (tgt := 19) (dT U_X11_state 6 rfl) (by decide) (by decide) ?_
      refine x_iconst (dT U_X11_state 7 rfl) ?_
      refine x_goto (tgt := 20) (dT U_X11_state 8 rfl) (by decide) ?_
      refine x_iconst (dT U_X11_state 10 rfl) ?_
      refine x_invokevirtual (rc' := rc) (rs' := rs) (rc2 := 0) (rs2 := 0) (As := [_, _]) (st := _) M_X11_lets K_X11_167 (dT U_X11_state 11 rfl) rfl rfl (by decide) rfl rfl w.c70 (Nat.le_of_ble_eq_true rfl) (by decide) rfl (Nat.le_of_ble_eq_true rfl) rfl (by decide) (Nat.le_of_ble_eq_true rfl) rfl rfl ?_
      refine S_X11_lets1 w (fun h1 g1 w1 => ?_)
      refine xRet_some ?_
      obtain ⟨i, hi, rfl⟩ : ∃ j : Nat, j < 4 ∧ run = (j : Int) := ⟨run.toNat, by omega, by omega⟩
      try simp only [tnc] at e1 e2 k
      obtain ⟨j, hj, rfl⟩ : ∃ j : Nat, j < 8 ∧ form = (j : Int) := ⟨form.toNat, by omega, by omega⟩
      try simp only [tnc] at e1 e2 k
      refine x_if_eqn (tgt := 57) (dT U_X11_state 12 rfl) (by decide) (by decide) ?_
      refine x_aload_n (dT U_X11_state 13 rfl) rfl ?_
      refine x_aload_n (dT U_X11_state 14 rfl) rfl ?_
      refine x_iload_n (dT U_X11_state 15 rfl) rfl ?_
      refine x_invokevirtual (rc' := rc) (rs' := rs) (rc2 := 0) (rs2 := 0) (As := [_]) (st := _) M_X11_isOf K_X11_208 (dT U_X11_state 16 rfl) rfl rfl (by decide) rfl rfl w1.c70 (Nat.le_of_ble_eq_true rfl) (by decide) rfl (Nat.le_of_ble_eq_true rfl) rfl (by decide) (Nat.le_of_ble_eq_true rfl) rfl rfl ?_
      refine S_X11_isOf w1 v h_y (fun q3 => ?_) (fun q3 => ?_)
      · refine xRet_some ?_
        refine x_if_eqn (tgt := 49) (dT U_X11_state 17 rfl) (by decide) (by decide) ?_
        refine x_aload_n (dT U_X11_state 18 rfl) rfl ?_
        refine x_iload (dT U_X11_state 19 rfl) rfl ?_
        refine x_invokevirtual (rc' := rc) (rs' := rs) (rc2 := 0) (rs2 := 0) (As := [_]) (st := _) M_X11_isNumber K_X11_174 (dT U_X11_state 20 rfl) rfl rfl (by decide) rfl rfl w1.c70 (Nat.le_of_ble_eq_true rfl) (by decide) rfl (Nat.le_of_ble_eq_true rfl) rfl (by decide) (Nat.le_of_ble_eq_true rfl) rfl rfl ?_
        refine S_X11_isNumber (w1.mp) v.p h_x (fun q4 => ?_) (fun q4 => ?_)
        · refine xRet_some ?_
          refine x_if_eqn (tgt := 49) (dT U_X11_state 21 rfl) (by decide) (by decide) ?_
          refine x_iconst (dT U_X11_state 22 rfl) ?_
          refine x_goto (tgt := 50) (dT U_X11_state 23 rfl) (by decide) ?_
          refine x_iconst (dT U_X11_state 25 rfl) ?_
          refine x_invokevirtual (rc' := rc) (rs' := rs) (rc2 := 0) (rs2 := 0) (As := [_, _]) (st := _) M_X11_lets K_X11_167 (dT U_X11_state 26 rfl) rfl rfl (by decide) rfl rfl w1.c70 (Nat.le_of_ble_eq_true rfl) (by decide) rfl (Nat.le_of_ble_eq_true rfl) rfl (by decide) (Nat.le_of_ble_eq_true rfl) rfl rfl ?_
          refine S_X11_lets1 w1 (fun h2 g2 w2 => ?_)
          refine xRet_some ?_
          refine x_if_nej (tgt := 59) (dT U_X11_state 27 rfl) (by decide) (by decide) ?_
          refine x_aload_n (dT U_X11_state 30 rfl) rfl ?_
          refine x_iload_n (dT U_X11_state 31 rfl) rfl ?_
          refine x_aload_n (dT U_X11_state 32 rfl) rfl ?_
          refine x_getfield F_X11_13 (dT U_X11_state 33 rfl) w2.c70 (Nat.le_of_ble_eq_true rfl) rfl ?_
          refine x_iload_n (dT U_X11_state 34 rfl) rfl ?_
          have yb := exI_some (p := σ.p) (y := y) (by assumption)
          have yb2 := MM_b v.p ⟨yb.1, yb.2.1⟩
          refine x_ialoadv ((y).toNat) (dT U_X11_state 35 rfl) w2.c72 (Nat.le_of_ble_eq_true rfl) (by omega) (by rw [tab_len]; omega) (by rw [tab_len]; omega) (show _ = exI σ.p y from by rw [tab_get _ (by omega), exI_in (by omega)]; congr 1; omega) ?_
          refine x_iload (dT U_X11_state 36 rfl) rfl ?_
          refine x_invokevirtual (rc' := rc) (rs' := rs) (rc2 := 0) (rs2 := 0) (As := [_, _, _]) (st := _) M_X11_anew K_X11_247 (dT U_X11_state 37 rfl) rfl rfl (by decide) rfl rfl w2.c70 (Nat.le_of_ble_eq_true rfl) (by decide) rfl (Nat.le_of_ble_eq_true rfl) rfl (by decide) (Nat.le_of_ble_eq_true rfl) rfl rfl ?_
          refine S_X11_anew w2 hi ?_
          refine xRet_none ?_
          refine x_aload_n (dT U_X11_state 38 rfl) rfl ?_
          refine x_getfield F_X11_27 (dT U_X11_state 39 rfl) (hset_ne (by omega) (hset_ne (by omega) (hset_ne (by omega) (hset_ne (by omega) (w2.c70))))) (Nat.le_of_ble_eq_true rfl) rfl ?_
          refine x_iload_n (dT U_X11_state 40 rfl) rfl ?_
          refine x_aaload (i) (dT U_X11_state 41 rfl) (hset_ne (by omega) (hset_ne (by omega) (hset_ne (by omega) (hset_ne (by omega) (w2.c84))))) (Nat.le_of_ble_eq_true rfl) (by decide) rfl (mfL_get (by omega)) (Nat.le_of_ble_eq_true rfl) ?_
          refine x_aload_n (dT U_X11_state 42 rfl) rfl ?_
          refine x_getfield F_X11_18 (dT U_X11_state 43 rfl) (hset_ne (by omega) (hset_ne (by omega) (hset_ne (by omega) (hset_ne (by omega) (w2.c70))))) (Nat.le_of_ble_eq_true rfl) rfl ?_
          refine x_iload_n (dT U_X11_state 44 rfl) rfl ?_
          refine x_aaload (j) (dT U_X11_state 45 rfl) (hset_ne (by omega) (hset_ne (by omega) (hset_ne (by omega) (hset_ne (by omega) (w2.c73))))) (Nat.le_of_ble_eq_true rfl) (by decide) rfl (mrL_get (by omega)) (Nat.le_of_ble_eq_true rfl) ?_
          refine x_invokestatic (rc' := rc) (rs' := rs) (rc2 := 0) (rs2 := 0) (As := [_, _]) (st := _) M_X11_becomes K_X11_189 (dT U_X11_state 46 rfl) rfl rfl rfl rfl (Nat.le_of_ble_eq_true rfl) rfl (by decide) (Nat.le_of_ble_eq_true rfl) rfl rfl ?_
          refine S_becomes8 (hset_ne (by omega) (hset_ne (by omega) (hset_ne (by omega) (hset_ne (by omega) (w2.forms i hi))))) (by omega) (v.R i hi).1.f24.1 (hset_ne (by omega) (hset_ne (by omega) (hset_ne (by omega) (hset_ne (by omega) (w2.rows j hj))))) (by omega) (v.rw j hj).1 ?_
          refine xRet_none ?_
          refine x_iload_n (dT U_X11_state 47 rfl) rfl ?_
          refine x_ireturn (dT U_X11_state 48 rfl) rfl ?_
          exact k (by omega) ⟨by assumption, by omega⟩ _ _ _ ((((((Ag.tr (Ag.tr (Ag.rf 70 142 h) (g1.w (by omega))) (g2.w (by omega))).set (by omega)).set (by omega)).set (by omega)).set (by omega)).set (by omega)) (w2.run (i := i) (R := rBegin (σ.R i) (exI σ.p y) x (σ.rw j)) (fun a ha => by rw [hset_fr (by omega), hset_fr (by omega), hset_fr (by omega), hset_fr (by omega), hset_fr (by omega)]) hi (c5 (R' := rBegin (σ.R i) (exI σ.p y) x (σ.rw j)) gST hi (hset_ne (by omega) (hset_ne (by omega) (hset_ne (by omega) (hset_ne (by omega) (hset_eq (w2.c82))))))) (c5 (R' := rBegin (σ.R i) (exI σ.p y) x (σ.rw j)) RS.e hi (hset_ne (by omega) (hset_ne (by omega) (hset_eq (hset_ne (by omega) (hset_ne (by omega) (w2.c83))))))) (c5 (R' := rBegin (σ.R i) (exI σ.p y) x (σ.rw j)) RS.v hi (hset_ne (by omega) (hset_eq (hset_ne (by omega) (hset_ne (by omega) (hset_ne (by omega) (w2.c90))))))) (k5 (R' := rBegin (σ.R i) (exI σ.p y) x (σ.rw j)) RS.fa rfl (hset_ne (by omega) (hset_ne (by omega) (hset_ne (by omega) (hset_ne (by omega) (hset_ne (by omega) (w2.c91))))))) (k5 (R' := rBegin (σ.R i) (exI σ.p y) x (σ.rw j)) RS.w rfl (hset_ne (by omega) (hset_ne (by omega) (hset_ne (by omega) (hset_ne (by omega) (hset_ne (by omega) (w2.c92))))))) (c5 (R' := rBegin (σ.R i) (exI σ.p y) x (σ.rw j)) gMK hi (hset_ne (by omega) (hset_ne (by omega) (hset_ne (by omega) (hset_eq (hset_ne (by omega) (w2.c93))))))) (k5 (R' := rBegin (σ.R i) (exI σ.p y) x (σ.rw j)) RS.mb rfl (hset_ne (by omega) (hset_ne (by omega) (hset_ne (by omega) (hset_ne (by omega) (hset_ne (by omega) (w2.c100))))))) (k5 (R' := rBegin (σ.R i) (exI σ.p y) x (σ.rw j)) RS.c rfl (hset_ne (by omega) (hset_ne (by omega) (hset_ne (by omega) (hset_ne (by omega) (hset_ne (by omega) (w2.c101))))))) (k5 (R' := rBegin (σ.R i) (exI σ.p y) x (σ.rw j)) RS.t rfl (hset_ne (by omega) (hset_ne (by omega) (hset_ne (by omega) (hset_ne (by omega) (hset_ne (by omega) (w2.c108))))))) (hset_eq (hset_ne (by omega) (hset_ne (by omega) (hset_ne (by omega) (hset_ne (by omega) (w2.forms i hi)))))) (hset_ne (by omega) (hset_ne (by omega) (hset_ne (by omega) (hset_ne (by omega) (hset_ne (by omega) (w2.masks i hi)))))) (hset_ne (by omega) (hset_ne (by omega) (hset_ne (by omega) (hset_ne (by omega) (hset_ne (by omega) (w2.answers i hi)))))) (Exists.elim w2.s89 (fun l q => ⟨l, (hset_ne (by omega) (hset_ne (by omega) (hset_ne (by omega) (hset_ne (by omega) (hset_ne (by omega) (q.1)))))), q.2⟩)))
        · refine xRet_some ?_
          refine x_if_eqj (tgt := 49) (dT U_X11_state 21 rfl) (by decide) (by decide) ?_
          refine x_iconst (dT U_X11_state 24 rfl) ?_
          refine x_iconst (dT U_X11_state 25 rfl) ?_
          refine x_invokevirtual (rc' := rc) (rs' := rs) (rc2 := 0) (rs2 := 0) (As := [_, _]) (st := _) M_X11_lets K_X11_167 (dT U_X11_state 26 rfl) rfl rfl (by decide) rfl rfl w1.c70 (Nat.le_of_ble_eq_true rfl) (by decide) rfl (Nat.le_of_ble_eq_true rfl) rfl (by decide) (Nat.le_of_ble_eq_true rfl) rfl rfl ?_
          refine S_X11_lets0 w1 (fun h2 g2 w2 => ?_)
          refine xRet_some ?_
          refine x_if_nen (tgt := 59) (dT U_X11_state 27 rfl) (by decide) (by decide) ?_
          refine x_iconst (dT U_X11_state 28 rfl) ?_
          refine x_ireturn (dT U_X11_state 29 rfl) rfl ?_
          exact e2 (by omega) (by omega) _ _ (Ag.tr (Ag.tr (Ag.rf 70 142 h) (g1.w (by omega))) (g2.w (by omega))) w2 (by unfold xr; omega)
      · refine xRet_some ?_
        refine x_if_eqj (tgt := 49) (dT U_X11_state 17 rfl) (by decide) (by decide) ?_
        refine x_iconst (dT U_X11_state 24 rfl) ?_
        refine x_iconst (dT U_X11_state 25 rfl) ?_
        refine x_invokevirtual (rc' := rc) (rs' := rs) (rc2 := 0) (rs2 := 0) (As := [_, _]) (st := _) M_X11_lets K_X11_167 (dT U_X11_state 26 rfl) rfl rfl (by decide) rfl rfl w1.c70 (Nat.le_of_ble_eq_true rfl) (by decide) rfl (Nat.le_of_ble_eq_true rfl) rfl (by decide) (Nat.le_of_ble_eq_true rfl) rfl rfl ?_
        refine S_X11_lets0 w1 (fun h2 g2 w2 => ?_)
        refine xRet_some ?_
        refine x_if_nen (tgt := 59) (dT U_X11_state 27 rfl) (by decide) (by decide) ?_
        refine x_iconst (dT U_X11_state 28 rfl) ?_
        refine x_ireturn (dT U_X11_state 29 rfl) rfl ?_
        exact e2 (by omega) (by omega) _ _ (Ag.tr (Ag.tr (Ag.rf 70 142 h) (g1.w (by omega))) (g2.w (by omega))) w2 (by unfold xr; omega)
    · refine xRet_some ?_
      refine x_if_eqj (tgt := 19) (dT U_X11_state 6 rfl) (by decide) (by decide) ?_
      refine x_iconst (dT U_X11_state 9 rfl) ?_
      refine x_iconst (dT U_X11_state 10 rfl) ?_
      refine x_invokevirtual (rc' := rc) (rs' := rs) (rc2 := 0) (rs2 := 0) (As := [_, _]) (st := _) M_X11_lets K_X11_167 (dT U_X11_state 11 rfl) rfl rfl (by decide) rfl rfl w.c70 (Nat.le_of_ble_eq_true rfl) (by decide) rfl (Nat.le_of_ble_eq_true rfl) rfl (by decide) (Nat.le_of_ble_eq_true rfl) rfl rfl ?_
      refine S_X11_lets0 w (fun h1 g1 w1 => ?_)
      refine xRet_some ?_
      refine x_if_eqj (tgt := 57) (dT U_X11_state 12 rfl) (by decide) (by decide) ?_
      refine x_iconst (dT U_X11_state 28 rfl) ?_
      refine x_ireturn (dT U_X11_state 29 rfl) rfl ?_
      exact e1 (by omega) _ _ (Ag.tr (Ag.rf 70 142 h) (g1.w (by omega))) w1 (by unfold xr; omega)
  · refine xRet_some ?_
    refine x_if_eqj (tgt := 19) (dT U_X11_state 3 rfl) (by decide) (by decide) ?_
    refine x_iconst (dT U_X11_state 9 rfl) ?_
    refine x_iconst (dT U_X11_state 10 rfl) ?_
    refine x_invokevirtual (rc' := rc) (rs' := rs) (rc2 := 0) (rs2 := 0) (As := [_, _]) (st := _) M_X11_lets K_X11_167 (dT U_X11_state 11 rfl) rfl rfl (by decide) rfl rfl w.c70 (Nat.le_of_ble_eq_true rfl) (by decide) rfl (Nat.le_of_ble_eq_true rfl) rfl (by decide) (Nat.le_of_ble_eq_true rfl) rfl rfl ?_
    refine S_X11_lets0 w (fun h1 g1 w1 => ?_)
    refine xRet_some ?_
    refine x_if_eqj (tgt := 57) (dT U_X11_state 12 rfl) (by decide) (by decide) ?_
    refine x_iconst (dT U_X11_state 28 rfl) ?_
    refine x_ireturn (dT U_X11_state 29 rfl) rfl ?_
    exact e1 (by omega) _ _ (Ag.tr (Ag.rf 70 142 h) (g1.w (by omega))) w1 (by unfold xr; omega)

set_option maxRecDepth 20000 in
set_option maxHeartbeats 1000000 in
theorem S_X11_open {G : xG} {d rc rs : Nat} {ex : Bool} {h : xH} {Q : xQ} {σ : St} {cc0 : Int} {rr : Nat} {ss : Int} {run mask blind : Int} (w : MX σ cc0 rr ss h) (v : INV σ) (h_run : xr run) (h_mask : xr mask) (h_blind : xr blind) (e1 : ¬ (inb run 4 ∧ inb mask 8) → ∀ h2 z, Ag 70 142 h h2 → MX σ 1 rr ss h2 → xr z → Q (.inl (some (vi z))) ex h2) (e2 : (inb run 4 ∧ inb mask 8) → ¬ (inb blind σ.p) → ∀ h2 z, Ag 70 142 h h2 → MX σ 2 rr ss h2 → xr z → Q (.inl (some (vi z))) ex h2) (e3 : (inb run 4 ∧ inb mask 8) → (inb blind σ.p) → ¬ ((σ.R run.toNat).st = 1) → ∀ h2 z, Ag 70 142 h h2 → MX σ 3 rr ss h2 → xr z → Q (.inl (some (vi z))) ex h2) (k : (inb run 4 ∧ inb mask 8) → (inb blind σ.p) → ((σ.R run.toNat).st = 1) → ∀ h2 r2 s2, Ag 70 142 h h2 → MX (σ.sRun run.toNat (rOpen σ.p (σ.R run.toNat) (σ.rw mask.toNat) blind)) 0 r2 s2 h2 → Q (.inl (some (vi (MM σ.p (cm σ.p (σ.rw mask.toNat) blind))))) ex h2) : X G m_X11_open (d + 2) rc rs ex 0 (xe m_X11_open.2.2.1 [.ref 70, vi run, vi mask, vi blind]) [] h Q := by
  show X G m_X11_open _ _ _ _ 0 [some (.ref 70), some (vi run), some (vi mask), some (vi blind)] [] h Q
  have hp := PRb v.p
  have hq := gq_b v.p
  refine x_aload_n (dT U_X11_open 0 rfl) rfl ?_
  refine x_iload_n (dT U_X11_open 1 rfl) rfl ?_
  refine x_invokestatic (rc' := rc) (rs' := rs) (rc2 := 0) (rs2 := 0) (As := [_]) (st := _) M_X11_isRun K_X11_244 (dT U_X11_open 2 rfl) rfl rfl rfl rfl (Nat.le_of_ble_eq_true rfl) rfl (by decide) (Nat.le_of_ble_eq_true rfl) rfl rfl ?_
  refine S_X11_isRun h_run (fun q1 => ?_) (fun q1 => ?_)
  · refine xRet_some ?_
    refine x_if_eqn (tgt := 19) (dT U_X11_open 3 rfl) (by decide) (by decide) ?_
    refine x_iload_n (dT U_X11_open 4 rfl) rfl ?_
    refine x_invokestatic (rc' := rc) (rs' := rs) (rc2 := 0) (rs2 := 0) (As := [_]) (st := _) M_X11_isRow K_X11_164 (dT U_X11_open 5 rfl) rfl rfl rfl rfl (Nat.le_of_ble_eq_true rfl) rfl (by decide) (Nat.le_of_ble_eq_true rfl) rfl rfl ?_
    refine S_X11_isRow h_mask (fun q2 => ?_) (fun q2 => ?_)
    · refine xRet_some ?_
      refine x_if_eqn (tgt := 19) (dT U_X11_open 6 rfl) (by decide) (by decide) ?_
      refine x_iconst (dT U_X11_open 7 rfl) ?_
      refine x_goto (tgt := 20) (dT U_X11_open 8 rfl) (by decide) ?_
      refine x_iconst (dT U_X11_open 10 rfl) ?_
      refine x_invokevirtual (rc' := rc) (rs' := rs) (rc2 := 0) (rs2 := 0) (As := [_, _]) (st := _) M_X11_lets K_X11_167 (dT U_X11_open 11 rfl) rfl rfl (by decide) rfl rfl w.c70 (Nat.le_of_ble_eq_true rfl) (by decide) rfl (Nat.le_of_ble_eq_true rfl) rfl (by decide) (Nat.le_of_ble_eq_true rfl) rfl rfl ?_
      refine S_X11_lets1 w (fun h1 g1 w1 => ?_)
      refine xRet_some ?_
      obtain ⟨i, hi, rfl⟩ : ∃ j : Nat, j < 4 ∧ run = (j : Int) := ⟨run.toNat, by omega, by omega⟩
      try simp only [tnc] at e1 e2 e3 k
      obtain ⟨j, hj, rfl⟩ : ∃ j : Nat, j < 8 ∧ mask = (j : Int) := ⟨mask.toNat, by omega, by omega⟩
      try simp only [tnc] at e1 e2 e3 k
      refine x_if_eqn (tgt := 63) (dT U_X11_open 12 rfl) (by decide) (by decide) ?_
      refine x_aload_n (dT U_X11_open 13 rfl) rfl ?_
      refine x_aload_n (dT U_X11_open 14 rfl) rfl ?_
      refine x_iload_n (dT U_X11_open 15 rfl) rfl ?_
      refine x_invokevirtual (rc' := rc) (rs' := rs) (rc2 := 0) (rs2 := 0) (As := [_]) (st := _) M_X11_isNumber K_X11_174 (dT U_X11_open 16 rfl) rfl rfl (by decide) rfl rfl w1.c70 (Nat.le_of_ble_eq_true rfl) (by decide) rfl (Nat.le_of_ble_eq_true rfl) rfl (by decide) (Nat.le_of_ble_eq_true rfl) rfl rfl ?_
      refine S_X11_isNumber (w1.mp) v.p h_blind (fun q3 => ?_) (fun q3 => ?_)
      · refine xRet_some ?_
        refine x_iconst (dT U_X11_open 17 rfl) ?_
        refine x_invokevirtual (rc' := rc) (rs' := rs) (rc2 := 0) (rs2 := 0) (As := [_, _]) (st := _) M_X11_lets K_X11_167 (dT U_X11_open 18 rfl) rfl rfl (by decide) rfl rfl w1.c70 (Nat.le_of_ble_eq_true rfl) (by decide) rfl (Nat.le_of_ble_eq_true rfl) rfl (by decide) (Nat.le_of_ble_eq_true rfl) rfl rfl ?_
        refine S_X11_lets1 w1 (fun h2 g2 w2 => ?_)
        refine xRet_some ?_
        refine x_if_eqn (tgt := 63) (dT U_X11_open 19 rfl) (by decide) (by decide) ?_
        refine x_aload_n (dT U_X11_open 20 rfl) rfl ?_
        refine x_aload_n (dT U_X11_open 21 rfl) rfl ?_
        refine x_getfield F_X11_21 (dT U_X11_open 22 rfl) w2.c70 (Nat.le_of_ble_eq_true rfl) rfl ?_
        refine x_iload_n (dT U_X11_open 23 rfl) rfl ?_
        refine x_ialoadv (i) (dT U_X11_open 24 rfl) w2.c82 (Nat.le_of_ble_eq_true rfl) rfl (show i < 5 by omega) (show 5 < 2147483648 by decide) (show _ = ((σ.R i).st : Int) from t5_get hi) ?_
        refine x_iconst (dT U_X11_open 25 rfl) ?_
        have s4 := (v.R i hi).1.s4
        refine x_icmp_ne (tgt := 55) (dT U_X11_open 26 rfl) (by decide) (by unfold xr; omega) (by unfold xr; omega) (fun c48 => ?_) (fun c48 => ?_)
        · skip
          refine x_iconst (dT U_X11_open 29 rfl) ?_
          refine x_iconst (dT U_X11_open 30 rfl) ?_
          refine x_invokevirtual (rc' := rc) (rs' := rs) (rc2 := 0) (rs2 := 0) (As := [_, _]) (st := _) M_X11_lets K_X11_167 (dT U_X11_open 31 rfl) rfl rfl (by decide) rfl rfl w2.c70 (Nat.le_of_ble_eq_true rfl) (by decide) rfl (Nat.le_of_ble_eq_true rfl) rfl (by decide) (Nat.le_of_ble_eq_true rfl) rfl rfl ?_
          refine S_X11_lets0 w2 (fun h3 g3 w3 => ?_)
          refine xRet_some ?_
          refine x_if_nen (tgt := 65) (dT U_X11_open 32 rfl) (by decide) (by decide) ?_
          refine x_iconst (dT U_X11_open 33 rfl) ?_
          refine x_ireturn (dT U_X11_open 34 rfl) rfl ?_
          exact e3 (by omega) (by omega) (by omega) _ _ (Ag.tr (Ag.tr (Ag.tr (Ag.rf 70 142 h) (g1.w (by omega))) (g2.w (by omega))) (g3.w (by omega))) w3 (by unfold xr; omega)
        · skip
          refine x_iconst (dT U_X11_open 27 rfl) ?_
          refine x_goto (tgt := 56) (dT U_X11_open 28 rfl) (by decide) ?_
          refine x_iconst (dT U_X11_open 30 rfl) ?_
          refine x_invokevirtual (rc' := rc) (rs' := rs) (rc2 := 0) (rs2 := 0) (As := [_, _]) (st := _) M_X11_lets K_X11_167 (dT U_X11_open 31 rfl) rfl rfl (by decide) rfl rfl w2.c70 (Nat.le_of_ble_eq_true rfl) (by decide) rfl (Nat.le_of_ble_eq_true rfl) rfl (by decide) (Nat.le_of_ble_eq_true rfl) rfl rfl ?_
          refine S_X11_lets1 w2 (fun h3 g3 w3 => ?_)
          refine xRet_some ?_
          refine x_if_nej (tgt := 65) (dT U_X11_open 32 rfl) (by decide) (by decide) ?_
          refine x_aload_n (dT U_X11_open 35 rfl) rfl ?_
          refine x_getfield F_X11_39 (dT U_X11_open 36 rfl) w3.c70 (Nat.le_of_ble_eq_true rfl) rfl ?_
          refine x_iload_n (dT U_X11_open 37 rfl) rfl ?_
          refine x_iconst (dT U_X11_open 38 rfl) ?_
          refine x_bastore (i) (dT U_X11_open 39 rfl) (by omega) w3.c93 (Nat.le_of_ble_eq_true rfl) rfl (show i < 5 by omega) (show 5 < 2147483648 by decide) ?_
          refine x_aload_n (dT U_X11_open 40 rfl) rfl ?_
          refine x_getfield F_X11_43 (dT U_X11_open 41 rfl) (hset_ne (by omega) (w3.c70)) (Nat.le_of_ble_eq_true rfl) rfl ?_
          refine x_iload_n (dT U_X11_open 42 rfl) rfl ?_
          refine x_aaload (i) (dT U_X11_open 43 rfl) (hset_ne (by omega) (w3.c94)) (Nat.le_of_ble_eq_true rfl) (by decide) rfl (mmL_get (by omega)) (Nat.le_of_ble_eq_true rfl) ?_
          refine x_aload_n (dT U_X11_open 44 rfl) rfl ?_
          refine x_getfield F_X11_18 (dT U_X11_open 45 rfl) (hset_ne (by omega) (w3.c70)) (Nat.le_of_ble_eq_true rfl) rfl ?_
          refine x_iload_n (dT U_X11_open 46 rfl) rfl ?_
          refine x_aaload (j) (dT U_X11_open 47 rfl) (hset_ne (by omega) (w3.c73)) (Nat.le_of_ble_eq_true rfl) (by decide) rfl (mrL_get (by omega)) (Nat.le_of_ble_eq_true rfl) ?_
          refine x_invokestatic (rc' := rc) (rs' := rs) (rc2 := 0) (rs2 := 0) (As := [_, _]) (st := _) M_X11_becomes K_X11_189 (dT U_X11_open 48 rfl) rfl rfl rfl rfl (Nat.le_of_ble_eq_true rfl) rfl (by decide) (Nat.le_of_ble_eq_true rfl) rfl rfl ?_
          refine S_becomes8 (hset_ne (by omega) (w3.masks i hi)) (by omega) (v.R i hi).1.m24.1 (hset_ne (by omega) (w3.rows j hj)) (by omega) (v.rw j hj).1 ?_
          refine xRet_none ?_
          refine x_aload_n (dT U_X11_open 49 rfl) rfl ?_
          refine x_getfield F_X11_46 (dT U_X11_open 50 rfl) (hset_ne (by omega) (hset_ne (by omega) (w3.c70))) (Nat.le_of_ble_eq_true rfl) rfl ?_
          refine x_iload_n (dT U_X11_open 51 rfl) rfl ?_
          refine x_iload_n (dT U_X11_open 52 rfl) rfl ?_
          refine x_iastore (i) (dT U_X11_open 53 rfl) (hset_ne (by omega) (hset_ne (by omega) (w3.c100))) (Nat.le_of_ble_eq_true rfl) rfl (show i < 5 by omega) (show 5 < 2147483648 by decide) ?_
          refine x_aload_n (dT U_X11_open 54 rfl) rfl ?_
          refine x_getfield F_X11_33 (dT U_X11_open 55 rfl) (hset_ne (by omega) (hset_ne (by omega) (hset_ne (by omega) (w3.c70)))) (Nat.le_of_ble_eq_true rfl) rfl ?_
          refine x_iload_n (dT U_X11_open 56 rfl) rfl ?_
          refine x_aload_n (dT U_X11_open 57 rfl) rfl ?_
          refine x_aload_n (dT U_X11_open 58 rfl) rfl ?_
          refine x_getfield F_X11_43 (dT U_X11_open 59 rfl) (hset_ne (by omega) (hset_ne (by omega) (hset_ne (by omega) (w3.c70)))) (Nat.le_of_ble_eq_true rfl) rfl ?_
          refine x_iload_n (dT U_X11_open 60 rfl) rfl ?_
          refine x_aaload (i) (dT U_X11_open 61 rfl) (hset_ne (by omega) (hset_ne (by omega) (hset_ne (by omega) (w3.c94)))) (Nat.le_of_ble_eq_true rfl) (by decide) rfl (mmL_get (by omega)) (Nat.le_of_ble_eq_true rfl) ?_
          refine x_iload_n (dT U_X11_open 62 rfl) rfl ?_
          refine x_invokevirtual (rc' := rc) (rs' := rs) (rc2 := 0) (rs2 := 0) (As := [_, _]) (st := _) M_X11_committed K_X11_211 (dT U_X11_open 63 rfl) rfl rfl (by decide) rfl rfl (hset_ne (by omega) (hset_ne (by omega) (hset_ne (by omega) (w3.c70)))) (Nat.le_of_ble_eq_true rfl) (by decide) rfl (Nat.le_of_ble_eq_true rfl) rfl (by decide) (Nat.le_of_ble_eq_true rfl) rfl rfl ?_
          have cb := cm_b (p := σ.p) (l := σ.rw j) (b := blind) hp.1
          refine S_X11_committed (MP.set (by omega) (MP.set (by omega) (MP.set (by omega) (w3.mp)))) v.p (hset_ne (by omega) (hset_eq (hset_ne (by omega) (w3.masks i hi)))) (by omega) (v.rw j hj) (by omega) ?_
          refine xRet_some ?_
          refine x_iastore (i) (dT U_X11_open 64 rfl) (hset_ne (by omega) (hset_ne (by omega) (hset_ne (by omega) (w3.c91)))) (Nat.le_of_ble_eq_true rfl) rfl (show i < 5 by omega) (show 5 < 2147483648 by decide) ?_
          refine x_aload_n (dT U_X11_open 65 rfl) rfl ?_
          refine x_getfield F_X11_36 (dT U_X11_open 66 rfl) (hset_ne (by omega) (hset_ne (by omega) (hset_ne (by omega) (hset_ne (by omega) (w3.c70))))) (Nat.le_of_ble_eq_true rfl) rfl ?_
          refine x_iload_n (dT U_X11_open 67 rfl) rfl ?_
          refine x_aload_n (dT U_X11_open 68 rfl) rfl ?_
          refine x_aload_n (dT U_X11_open 69 rfl) rfl ?_
          refine x_getfield F_X11_27 (dT U_X11_open 70 rfl) (hset_ne (by omega) (hset_ne (by omega) (hset_ne (by omega) (hset_ne (by omega) (w3.c70))))) (Nat.le_of_ble_eq_true rfl) rfl ?_
          refine x_iload_n (dT U_X11_open 71 rfl) rfl ?_
          refine x_aaload (i) (dT U_X11_open 72 rfl) (hset_ne (by omega) (hset_ne (by omega) (hset_ne (by omega) (hset_ne (by omega) (w3.c84))))) (Nat.le_of_ble_eq_true rfl) (by decide) rfl (mfL_get (by omega)) (Nat.le_of_ble_eq_true rfl) ?_
          refine x_aload_n (dT U_X11_open 73 rfl) rfl ?_
          refine x_getfield F_X11_43 (dT U_X11_open 74 rfl) (hset_ne (by omega) (hset_ne (by omega) (hset_ne (by omega) (hset_ne (by omega) (w3.c70))))) (Nat.le_of_ble_eq_true rfl) rfl ?_
          refine x_iload_n (dT U_X11_open 75 rfl) rfl ?_
          refine x_aaload (i) (dT U_X11_open 76 rfl) (hset_ne (by omega) (hset_ne (by omega) (hset_ne (by omega) (hset_ne (by omega) (w3.c94))))) (Nat.le_of_ble_eq_true rfl) (by decide) rfl (mmL_get (by omega)) (Nat.le_of_ble_eq_true rfl) ?_
          refine x_invokevirtual (rc' := rc) (rs' := rs) (rc2 := 0) (rs2 := 0) (As := [_, _]) (st := _) M_X11_product K_X11_185 (dT U_X11_open 77 rfl) rfl rfl (by decide) rfl rfl (hset_ne (by omega) (hset_ne (by omega) (hset_ne (by omega) (hset_ne (by omega) (w3.c70))))) (Nat.le_of_ble_eq_true rfl) (by decide) rfl (Nat.le_of_ble_eq_true rfl) rfl (by decide) (Nat.le_of_ble_eq_true rfl) rfl rfl ?_
          refine S_X11_product (MP.set (by omega) (MP.set (by omega) (MP.set (by omega) (MP.set (by omega) (w3.mp))))) v.p (hset_ne (by omega) (hset_ne (by omega) (hset_ne (by omega) (hset_ne (by omega) (w3.forms i hi))))) (by omega) (v.R i hi).1.f24 (hset_ne (by omega) (hset_ne (by omega) (hset_eq (hset_ne (by omega) (w3.masks i hi))))) (by omega) ((v.rw j hj).mono (by omega)) ?_
          refine xRet_some ?_
          refine x_iastore (i) (dT U_X11_open 78 rfl) (hset_ne (by omega) (hset_ne (by omega) (hset_ne (by omega) (hset_ne (by omega) (w3.c92))))) (Nat.le_of_ble_eq_true rfl) rfl (show i < 5 by omega) (show 5 < 2147483648 by decide) ?_
          refine x_aload_n (dT U_X11_open 79 rfl) rfl ?_
          refine x_getfield F_X11_21 (dT U_X11_open 80 rfl) (hset_ne (by omega) (hset_ne (by omega) (hset_ne (by omega) (hset_ne (by omega) (hset_ne (by omega) (w3.c70)))))) (Nat.le_of_ble_eq_true rfl) rfl ?_
          refine x_iload_n (dT U_X11_open 81 rfl) rfl ?_
          refine x_iconst (dT U_X11_open 82 rfl) ?_
          refine x_iastore (i) (dT U_X11_open 83 rfl) (hset_ne (by omega) (hset_ne (by omega) (hset_ne (by omega) (hset_ne (by omega) (hset_ne (by omega) (w3.c82)))))) (Nat.le_of_ble_eq_true rfl) rfl (show i < 5 by omega) (show 5 < 2147483648 by decide) ?_
          refine x_aload_n (dT U_X11_open 84 rfl) rfl ?_
          refine x_getfield F_X11_7 (dT U_X11_open 85 rfl) (hset_ne (by omega) (hset_ne (by omega) (hset_ne (by omega) (hset_ne (by omega) (hset_ne (by omega) (hset_ne (by omega) (w3.c70))))))) (Nat.le_of_ble_eq_true rfl) rfl ?_
          refine x_aload_n (dT U_X11_open 86 rfl) rfl ?_
          refine x_getfield F_X11_33 (dT U_X11_open 87 rfl) (hset_ne (by omega) (hset_ne (by omega) (hset_ne (by omega) (hset_ne (by omega) (hset_ne (by omega) (hset_ne (by omega) (w3.c70))))))) (Nat.le_of_ble_eq_true rfl) rfl ?_
          refine x_iload_n (dT U_X11_open 88 rfl) rfl ?_
          refine x_ialoadv (i) (dT U_X11_open 89 rfl) (hset_ne (by omega) (hset_ne (by omega) (hset_eq (hset_ne (by omega) (hset_ne (by omega) (hset_ne (by omega) (w3.c91))))))) (Nat.le_of_ble_eq_true rfl) rfl (by rw [t5_set hi]; show i < 5; omega) (by rw [t5_set hi]; show 5 < 2147483648; omega) (show _ = cm σ.p (σ.rw j) blind from by rw [t5_set hi, t5_get hi, fup_eq]) ?_
          obtain ⟨ml, m1, m2, m3⟩ := w3.pow
          refine x_ialoadv ((cm σ.p (σ.rw j) blind).toNat) (dT U_X11_open 90 rfl) (hset_ne (by omega) (hset_ne (by omega) (hset_ne (by omega) (hset_ne (by omega) (hset_ne (by omega) (hset_ne (by omega) (m1))))))) (Nat.le_of_ble_eq_true rfl) (by omega) (by rw [m2]; omega) (by rw [m2]; omega) (show _ = MM σ.p (cm σ.p (σ.rw j) blind) from m3 _ (by omega)) ?_
          refine x_ireturn (dT U_X11_open 91 rfl) rfl ?_
          exact k (by omega) (by omega) (by omega) _ _ _ (((((((Ag.tr (Ag.tr (Ag.tr (Ag.rf 70 142 h) (g1.w (by omega))) (g2.w (by omega))) (g3.w (by omega))).set (by omega)).set (by omega)).set (by omega)).set (by omega)).set (by omega)).set (by omega)) (w3.run (i := i) (R := rOpen σ.p (σ.R i) (σ.rw j) blind) (fun a ha => by rw [hset_fr (by omega), hset_fr (by omega), hset_fr (by omega), hset_fr (by omega), hset_fr (by omega), hset_fr (by omega)]) hi (c5 (R' := rOpen σ.p (σ.R i) (σ.rw j) blind) gST hi (hset_eq (hset_ne (by omega) (hset_ne (by omega) (hset_ne (by omega) (hset_ne (by omega) (hset_ne (by omega) (w3.c82)))))))) (k5 (R' := rOpen σ.p (σ.R i) (σ.rw j) blind) RS.e rfl (hset_ne (by omega) (hset_ne (by omega) (hset_ne (by omega) (hset_ne (by omega) (hset_ne (by omega) (hset_ne (by omega) (w3.c83)))))))) (k5 (R' := rOpen σ.p (σ.R i) (σ.rw j) blind) RS.v rfl (hset_ne (by omega) (hset_ne (by omega) (hset_ne (by omega) (hset_ne (by omega) (hset_ne (by omega) (hset_ne (by omega) (w3.c90)))))))) (c5 (R' := rOpen σ.p (σ.R i) (σ.rw j) blind) RS.fa hi (hset_ne (by omega) (hset_ne (by omega) (hset_eq (hset_ne (by omega) (hset_ne (by omega) (hset_ne (by omega) (w3.c91)))))))) (c5 (R' := rOpen σ.p (σ.R i) (σ.rw j) blind) RS.w hi (hset_ne (by omega) (hset_eq (hset_ne (by omega) (hset_ne (by omega) (hset_ne (by omega) (hset_ne (by omega) (w3.c92)))))))) (c5 (R' := rOpen σ.p (σ.R i) (σ.rw j) blind) gMK hi (hset_ne (by omega) (hset_ne (by omega) (hset_ne (by omega) (hset_ne (by omega) (hset_ne (by omega) (hset_eq (w3.c93)))))))) (c5 (R' := rOpen σ.p (σ.R i) (σ.rw j) blind) RS.mb hi (hset_ne (by omega) (hset_ne (by omega) (hset_ne (by omega) (hset_eq (hset_ne (by omega) (hset_ne (by omega) (w3.c100)))))))) (k5 (R' := rOpen σ.p (σ.R i) (σ.rw j) blind) RS.c rfl (hset_ne (by omega) (hset_ne (by omega) (hset_ne (by omega) (hset_ne (by omega) (hset_ne (by omega) (hset_ne (by omega) (w3.c101)))))))) (k5 (R' := rOpen σ.p (σ.R i) (σ.rw j) blind) RS.t rfl (hset_ne (by omega) (hset_ne (by omega) (hset_ne (by omega) (hset_ne (by omega) (hset_ne (by omega) (hset_ne (by omega) (w3.c108)))))))) (hset_ne (by omega) (hset_ne (by omega) (hset_ne (by omega) (hset_ne (by omega) (hset_ne (by omega) (hset_ne (by omega) (w3.forms i hi))))))) (hset_ne (by omega) (hset_ne (by omega) (hset_ne (by omega) (hset_ne (by omega) (hset_eq (hset_ne (by omega) (w3.masks i hi))))))) (hset_ne (by omega) (hset_ne (by omega) (hset_ne (by omega) (hset_ne (by omega) (hset_ne (by omega) (hset_ne (by omega) (w3.answers i hi))))))) (Exists.elim w3.s89 (fun l q => ⟨l, (hset_ne (by omega) (hset_ne (by omega) (hset_ne (by omega) (hset_ne (by omega) (hset_ne (by omega) (hset_ne (by omega) (q.1))))))), q.2⟩)))
      · refine xRet_some ?_
        refine x_iconst (dT U_X11_open 17 rfl) ?_
        refine x_invokevirtual (rc' := rc) (rs' := rs) (rc2 := 0) (rs2 := 0) (As := [_, _]) (st := _) M_X11_lets K_X11_167 (dT U_X11_open 18 rfl) rfl rfl (by decide) rfl rfl w1.c70 (Nat.le_of_ble_eq_true rfl) (by decide) rfl (Nat.le_of_ble_eq_true rfl) rfl (by decide) (Nat.le_of_ble_eq_true rfl) rfl rfl ?_
        refine S_X11_lets0 w1 (fun h2 g2 w2 => ?_)
        refine xRet_some ?_
        refine x_if_eqj (tgt := 63) (dT U_X11_open 19 rfl) (by decide) (by decide) ?_
        refine x_iconst (dT U_X11_open 33 rfl) ?_
        refine x_ireturn (dT U_X11_open 34 rfl) rfl ?_
        exact e2 (by omega) (by omega) _ _ (Ag.tr (Ag.tr (Ag.rf 70 142 h) (g1.w (by omega))) (g2.w (by omega))) w2 (by unfold xr; omega)
    · refine xRet_some ?_
      refine x_if_eqj (tgt := 19) (dT U_X11_open 6 rfl) (by decide) (by decide) ?_
      refine x_iconst (dT U_X11_open 9 rfl) ?_
      refine x_iconst (dT U_X11_open 10 rfl) ?_
      refine x_invokevirtual (rc' := rc) (rs' := rs) (rc2 := 0) (rs2 := 0) (As := [_, _]) (st := _) M_X11_lets K_X11_167 (dT U_X11_open 11 rfl) rfl rfl (by decide) rfl rfl w.c70 (Nat.le_of_ble_eq_true rfl) (by decide) rfl (Nat.le_of_ble_eq_true rfl) rfl (by decide) (Nat.le_of_ble_eq_true rfl) rfl rfl ?_
      refine S_X11_lets0 w (fun h1 g1 w1 => ?_)
      refine xRet_some ?_
      refine x_if_eqj (tgt := 63) (dT U_X11_open 12 rfl) (by decide) (by decide) ?_
      refine x_iconst (dT U_X11_open 33 rfl) ?_
      refine x_ireturn (dT U_X11_open 34 rfl) rfl ?_
      exact e1 (by omega) _ _ (Ag.tr (Ag.rf 70 142 h) (g1.w (by omega))) w1 (by unfold xr; omega)
  · refine xRet_some ?_
    refine x_if_eqj (tgt := 19) (dT U_X11_open 3 rfl) (by decide) (by decide) ?_
    refine x_iconst (dT U_X11_open 9 rfl) ?_
    refine x_iconst (dT U_X11_open 10 rfl) ?_
    refine x_invokevirtual (rc' := rc) (rs' := rs) (rc2 := 0) (rs2 := 0) (As := [_, _]) (st := _) M_X11_lets K_X11_167 (dT U_X11_open 11 rfl) rfl rfl (by decide) rfl rfl w.c70 (Nat.le_of_ble_eq_true rfl) (by decide) rfl (Nat.le_of_ble_eq_true rfl) rfl (by decide) (Nat.le_of_ble_eq_true rfl) rfl rfl ?_
    refine S_X11_lets0 w (fun h1 g1 w1 => ?_)
    refine xRet_some ?_
    refine x_if_eqj (tgt := 63) (dT U_X11_open 12 rfl) (by decide) (by decide) ?_
    refine x_iconst (dT U_X11_open 33 rfl) ?_
    refine x_ireturn (dT U_X11_open 34 rfl) rfl ?_
    exact e1 (by omega) _ _ (Ag.tr (Ag.rf 70 142 h) (g1.w (by omega))) w1 (by unfold xr; omega)

set_option maxRecDepth 20000 in
set_option maxHeartbeats 1000000 in
theorem S_X11_say {G : xG} {d rc rs : Nat} {ex : Bool} {h : xH} {Q : xQ} {σ : St} {cc0 : Int} {rr : Nat} {ss : Int} {run a x : Int} (w : MX σ cc0 rr ss h) (v : INV σ) (h_run : xr run) (h_a : xr a) (h_x : xr x) (e1 : ¬ (inb run 4) → ∀ h2 z, Ag 70 142 h h2 → MX σ 1 rr ss h2 → xr z → Q (.inl (some (vi z))) ex h2) (e2 : (inb run 4) → ¬ (¬ exI σ.p a = -1 ∧ inb x σ.p) → ∀ h2 z, Ag 70 142 h h2 → MX σ 2 rr ss h2 → xr z → Q (.inl (some (vi z))) ex h2) (e3 : (inb run 4) → (¬ exI σ.p a = -1 ∧ inb x σ.p) → ¬ ((σ.R run.toNat).st = 1) → ∀ h2 z, Ag 70 142 h h2 → MX σ 3 rr ss h2 → xr z → Q (.inl (some (vi z))) ex h2) (k : (inb run 4) → (¬ exI σ.p a = -1 ∧ inb x σ.p) → ((σ.R run.toNat).st = 1) → ∀ h2 r2 s2, Ag 70 142 h h2 → MX (σ.sRun run.toNat (rSay (σ.R run.toNat) (exI σ.p a) x)) 0 r2 s2 h2 → Q (.inl (some (vi (a)))) ex h2) : X G m_X11_say (d + 2) rc rs ex 0 (xe m_X11_say.2.2.1 [.ref 70, vi run, vi a, vi x]) [] h Q := by
  show X G m_X11_say _ _ _ _ 0 [some (.ref 70), some (vi run), some (vi a), some (vi x)] [] h Q
  have hp := PRb v.p
  have hq := gq_b v.p
  refine x_aload_n (dT U_X11_say 0 rfl) rfl ?_
  refine x_iload_n (dT U_X11_say 1 rfl) rfl ?_
  refine x_invokestatic (rc' := rc) (rs' := rs) (rc2 := 0) (rs2 := 0) (As := [_]) (st := _) M_X11_isRun K_X11_244 (dT U_X11_say 2 rfl) rfl rfl rfl rfl (Nat.le_of_ble_eq_true rfl) rfl (by decide) (Nat.le_of_ble_eq_true rfl) rfl rfl ?_
  refine S_X11_isRun h_run (fun q1 => ?_) (fun q1 => ?_)
  · refine xRet_some ?_
    refine x_iconst (dT U_X11_say 3 rfl) ?_
    refine x_invokevirtual (rc' := rc) (rs' := rs) (rc2 := 0) (rs2 := 0) (As := [_, _]) (st := _) M_X11_lets K_X11_167 (dT U_X11_say 4 rfl) rfl rfl (by decide) rfl rfl w.c70 (Nat.le_of_ble_eq_true rfl) (by decide) rfl (Nat.le_of_ble_eq_true rfl) rfl (by decide) (Nat.le_of_ble_eq_true rfl) rfl rfl ?_
    refine S_X11_lets1 w (fun h1 g1 w1 => ?_)
    refine xRet_some ?_
    obtain ⟨i, hi, rfl⟩ : ∃ j : Nat, j < 4 ∧ run = (j : Int) := ⟨run.toNat, by omega, by omega⟩
    try simp only [tnc] at e1 e2 e3 k
    refine x_if_eqn (tgt := 64) (dT U_X11_say 5 rfl) (by decide) (by decide) ?_
    refine x_aload_n (dT U_X11_say 6 rfl) rfl ?_
    refine x_aload_n (dT U_X11_say 7 rfl) rfl ?_
    refine x_iload_n (dT U_X11_say 8 rfl) rfl ?_
    refine x_invokevirtual (rc' := rc) (rs' := rs) (rc2 := 0) (rs2 := 0) (As := [_]) (st := _) M_X11_isOf K_X11_208 (dT U_X11_say 9 rfl) rfl rfl (by decide) rfl rfl w1.c70 (Nat.le_of_ble_eq_true rfl) (by decide) rfl (Nat.le_of_ble_eq_true rfl) rfl (by decide) (Nat.le_of_ble_eq_true rfl) rfl rfl ?_
    refine S_X11_isOf w1 v h_a (fun q2 => ?_) (fun q2 => ?_)
    · refine xRet_some ?_
      refine x_if_eqn (tgt := 33) (dT U_X11_say 10 rfl) (by decide) (by decide) ?_
      refine x_aload_n (dT U_X11_say 11 rfl) rfl ?_
      refine x_iload_n (dT U_X11_say 12 rfl) rfl ?_
      refine x_invokevirtual (rc' := rc) (rs' := rs) (rc2 := 0) (rs2 := 0) (As := [_]) (st := _) M_X11_isNumber K_X11_174 (dT U_X11_say 13 rfl) rfl rfl (by decide) rfl rfl w1.c70 (Nat.le_of_ble_eq_true rfl) (by decide) rfl (Nat.le_of_ble_eq_true rfl) rfl (by decide) (Nat.le_of_ble_eq_true rfl) rfl rfl ?_
      refine S_X11_isNumber (w1.mp) v.p h_x (fun q3 => ?_) (fun q3 => ?_)
      · refine xRet_some ?_
        refine x_if_eqn (tgt := 33) (dT U_X11_say 14 rfl) (by decide) (by decide) ?_
        refine x_iconst (dT U_X11_say 15 rfl) ?_
        refine x_goto (tgt := 34) (dT U_X11_say 16 rfl) (by decide) ?_
        refine x_iconst (dT U_X11_say 18 rfl) ?_
        refine x_invokevirtual (rc' := rc) (rs' := rs) (rc2 := 0) (rs2 := 0) (As := [_, _]) (st := _) M_X11_lets K_X11_167 (dT U_X11_say 19 rfl) rfl rfl (by decide) rfl rfl w1.c70 (Nat.le_of_ble_eq_true rfl) (by decide) rfl (Nat.le_of_ble_eq_true rfl) rfl (by decide) (Nat.le_of_ble_eq_true rfl) rfl rfl ?_
        refine S_X11_lets1 w1 (fun h2 g2 w2 => ?_)
        refine xRet_some ?_
        refine x_if_eqn (tgt := 64) (dT U_X11_say 20 rfl) (by decide) (by decide) ?_
        refine x_aload_n (dT U_X11_say 21 rfl) rfl ?_
        refine x_aload_n (dT U_X11_say 22 rfl) rfl ?_
        refine x_getfield F_X11_21 (dT U_X11_say 23 rfl) w2.c70 (Nat.le_of_ble_eq_true rfl) rfl ?_
        refine x_iload_n (dT U_X11_say 24 rfl) rfl ?_
        refine x_ialoadv (i) (dT U_X11_say 25 rfl) w2.c82 (Nat.le_of_ble_eq_true rfl) rfl (show i < 5 by omega) (show 5 < 2147483648 by decide) (show _ = ((σ.R i).st : Int) from t5_get hi) ?_
        have s4 := (v.R i hi).1.s4
        refine x_iconst (dT U_X11_say 26 rfl) ?_
        refine x_icmp_ne (tgt := 56) (dT U_X11_say 27 rfl) (by decide) (by unfold xr at *; omega) (by unfold xr at *; omega) (fun c49 => ?_) (fun c49 => ?_)
        · skip
          refine x_iconst (dT U_X11_say 30 rfl) ?_
          refine x_iconst (dT U_X11_say 31 rfl) ?_
          refine x_invokevirtual (rc' := rc) (rs' := rs) (rc2 := 0) (rs2 := 0) (As := [_, _]) (st := _) M_X11_lets K_X11_167 (dT U_X11_say 32 rfl) rfl rfl (by decide) rfl rfl w2.c70 (Nat.le_of_ble_eq_true rfl) (by decide) rfl (Nat.le_of_ble_eq_true rfl) rfl (by decide) (Nat.le_of_ble_eq_true rfl) rfl rfl ?_
          refine S_X11_lets0 w2 (fun h3 g3 w3 => ?_)
          refine xRet_some ?_
          refine x_if_nen (tgt := 66) (dT U_X11_say 33 rfl) (by decide) (by decide) ?_
          refine x_iconst (dT U_X11_say 34 rfl) ?_
          refine x_ireturn (dT U_X11_say 35 rfl) rfl ?_
          exact e3 (by omega) (by omega) (by omega) _ _ (Ag.tr (Ag.tr (Ag.tr (Ag.rf 70 142 h) (g1.w (by omega))) (g2.w (by omega))) (g3.w (by omega))) w3 (by unfold xr; omega)
        · skip
          refine x_iconst (dT U_X11_say 28 rfl) ?_
          refine x_goto (tgt := 57) (dT U_X11_say 29 rfl) (by decide) ?_
          refine x_iconst (dT U_X11_say 31 rfl) ?_
          refine x_invokevirtual (rc' := rc) (rs' := rs) (rc2 := 0) (rs2 := 0) (As := [_, _]) (st := _) M_X11_lets K_X11_167 (dT U_X11_say 32 rfl) rfl rfl (by decide) rfl rfl w2.c70 (Nat.le_of_ble_eq_true rfl) (by decide) rfl (Nat.le_of_ble_eq_true rfl) rfl (by decide) (Nat.le_of_ble_eq_true rfl) rfl rfl ?_
          refine S_X11_lets1 w2 (fun h3 g3 w3 => ?_)
          refine xRet_some ?_
          refine x_if_nej (tgt := 66) (dT U_X11_say 33 rfl) (by decide) (by decide) ?_
          refine x_aload_n (dT U_X11_say 36 rfl) rfl ?_
          refine x_getfield F_X11_33 (dT U_X11_say 37 rfl) w3.c70 (Nat.le_of_ble_eq_true rfl) rfl ?_
          refine x_iload_n (dT U_X11_say 38 rfl) rfl ?_
          refine x_aload_n (dT U_X11_say 39 rfl) rfl ?_
          refine x_getfield F_X11_13 (dT U_X11_say 40 rfl) w3.c70 (Nat.le_of_ble_eq_true rfl) rfl ?_
          refine x_iload_n (dT U_X11_say 41 rfl) rfl ?_
          have yb := exI_some (p := σ.p) (y := a) (by assumption)
          have yb2 := MM_b v.p ⟨yb.1, yb.2.1⟩
          refine x_ialoadv ((a).toNat) (dT U_X11_say 42 rfl) w3.c72 (Nat.le_of_ble_eq_true rfl) (by omega) (by rw [tab_len]; omega) (by rw [tab_len]; omega) (show _ = exI σ.p a from by rw [tab_get _ (by omega), exI_in (by omega)]; congr 1; omega) ?_
          refine x_iastore (i) (dT U_X11_say 43 rfl) w3.c91 (Nat.le_of_ble_eq_true rfl) rfl (show i < 5 by omega) (show 5 < 2147483648 by decide) ?_
          refine x_aload_n (dT U_X11_say 44 rfl) rfl ?_
          refine x_getfield F_X11_36 (dT U_X11_say 45 rfl) (hset_ne (by omega) (w3.c70)) (Nat.le_of_ble_eq_true rfl) rfl ?_
          refine x_iload_n (dT U_X11_say 46 rfl) rfl ?_
          refine x_iload_n (dT U_X11_say 47 rfl) rfl ?_
          refine x_iastore (i) (dT U_X11_say 48 rfl) (hset_ne (by omega) (w3.c92)) (Nat.le_of_ble_eq_true rfl) rfl (show i < 5 by omega) (show 5 < 2147483648 by decide) ?_
          refine x_aload_n (dT U_X11_say 49 rfl) rfl ?_
          refine x_getfield F_X11_21 (dT U_X11_say 50 rfl) (hset_ne (by omega) (hset_ne (by omega) (w3.c70))) (Nat.le_of_ble_eq_true rfl) rfl ?_
          refine x_iload_n (dT U_X11_say 51 rfl) rfl ?_
          refine x_iconst (dT U_X11_say 52 rfl) ?_
          refine x_iastore (i) (dT U_X11_say 53 rfl) (hset_ne (by omega) (hset_ne (by omega) (w3.c82))) (Nat.le_of_ble_eq_true rfl) rfl (show i < 5 by omega) (show 5 < 2147483648 by decide) ?_
          refine x_iload_n (dT U_X11_say 54 rfl) rfl ?_
          refine x_ireturn (dT U_X11_say 55 rfl) rfl ?_
          exact k (by omega) ⟨by assumption, by omega⟩ (by omega) _ _ _ ((((Ag.tr (Ag.tr (Ag.tr (Ag.rf 70 142 h) (g1.w (by omega))) (g2.w (by omega))) (g3.w (by omega))).set (by omega)).set (by omega)).set (by omega)) (w3.run (i := i) (R := rSay (σ.R i) (exI σ.p a) x) (fun a ha => by rw [hset_fr (by omega), hset_fr (by omega), hset_fr (by omega)]) hi (c5 (R' := rSay (σ.R i) (exI σ.p a) x) gST hi (hset_eq (hset_ne (by omega) (hset_ne (by omega) (w3.c82))))) (k5 (R' := rSay (σ.R i) (exI σ.p a) x) RS.e rfl (hset_ne (by omega) (hset_ne (by omega) (hset_ne (by omega) (w3.c83))))) (k5 (R' := rSay (σ.R i) (exI σ.p a) x) RS.v rfl (hset_ne (by omega) (hset_ne (by omega) (hset_ne (by omega) (w3.c90))))) (c5 (R' := rSay (σ.R i) (exI σ.p a) x) RS.fa hi (hset_ne (by omega) (hset_ne (by omega) (hset_eq (w3.c91))))) (c5 (R' := rSay (σ.R i) (exI σ.p a) x) RS.w hi (hset_ne (by omega) (hset_eq (hset_ne (by omega) (w3.c92))))) (k5 (R' := rSay (σ.R i) (exI σ.p a) x) gMK rfl (hset_ne (by omega) (hset_ne (by omega) (hset_ne (by omega) (w3.c93))))) (k5 (R' := rSay (σ.R i) (exI σ.p a) x) RS.mb rfl (hset_ne (by omega) (hset_ne (by omega) (hset_ne (by omega) (w3.c100))))) (k5 (R' := rSay (σ.R i) (exI σ.p a) x) RS.c rfl (hset_ne (by omega) (hset_ne (by omega) (hset_ne (by omega) (w3.c101))))) (k5 (R' := rSay (σ.R i) (exI σ.p a) x) RS.t rfl (hset_ne (by omega) (hset_ne (by omega) (hset_ne (by omega) (w3.c108))))) (hset_ne (by omega) (hset_ne (by omega) (hset_ne (by omega) (w3.forms i hi)))) (hset_ne (by omega) (hset_ne (by omega) (hset_ne (by omega) (w3.masks i hi)))) (hset_ne (by omega) (hset_ne (by omega) (hset_ne (by omega) (w3.answers i hi)))) (Exists.elim w3.s89 (fun l q => ⟨l, (hset_ne (by omega) (hset_ne (by omega) (hset_ne (by omega) (q.1)))), q.2⟩)))
      · refine xRet_some ?_
        refine x_if_eqj (tgt := 33) (dT U_X11_say 14 rfl) (by decide) (by decide) ?_
        refine x_iconst (dT U_X11_say 17 rfl) ?_
        refine x_iconst (dT U_X11_say 18 rfl) ?_
        refine x_invokevirtual (rc' := rc) (rs' := rs) (rc2 := 0) (rs2 := 0) (As := [_, _]) (st := _) M_X11_lets K_X11_167 (dT U_X11_say 19 rfl) rfl rfl (by decide) rfl rfl w1.c70 (Nat.le_of_ble_eq_true rfl) (by decide) rfl (Nat.le_of_ble_eq_true rfl) rfl (by decide) (Nat.le_of_ble_eq_true rfl) rfl rfl ?_
        refine S_X11_lets0 w1 (fun h2 g2 w2 => ?_)
        refine xRet_some ?_
        refine x_if_eqj (tgt := 64) (dT U_X11_say 20 rfl) (by decide) (by decide) ?_
        refine x_iconst (dT U_X11_say 34 rfl) ?_
        refine x_ireturn (dT U_X11_say 35 rfl) rfl ?_
        exact e2 (by omega) (by omega) _ _ (Ag.tr (Ag.tr (Ag.rf 70 142 h) (g1.w (by omega))) (g2.w (by omega))) w2 (by unfold xr; omega)
    · refine xRet_some ?_
      refine x_if_eqj (tgt := 33) (dT U_X11_say 10 rfl) (by decide) (by decide) ?_
      refine x_iconst (dT U_X11_say 17 rfl) ?_
      refine x_iconst (dT U_X11_say 18 rfl) ?_
      refine x_invokevirtual (rc' := rc) (rs' := rs) (rc2 := 0) (rs2 := 0) (As := [_, _]) (st := _) M_X11_lets K_X11_167 (dT U_X11_say 19 rfl) rfl rfl (by decide) rfl rfl w1.c70 (Nat.le_of_ble_eq_true rfl) (by decide) rfl (Nat.le_of_ble_eq_true rfl) rfl (by decide) (Nat.le_of_ble_eq_true rfl) rfl rfl ?_
      refine S_X11_lets0 w1 (fun h2 g2 w2 => ?_)
      refine xRet_some ?_
      refine x_if_eqj (tgt := 64) (dT U_X11_say 20 rfl) (by decide) (by decide) ?_
      refine x_iconst (dT U_X11_say 34 rfl) ?_
      refine x_ireturn (dT U_X11_say 35 rfl) rfl ?_
      exact e2 (by omega) (by omega) _ _ (Ag.tr (Ag.tr (Ag.rf 70 142 h) (g1.w (by omega))) (g2.w (by omega))) w2 (by unfold xr; omega)
  · refine xRet_some ?_
    refine x_iconst (dT U_X11_say 3 rfl) ?_
    refine x_invokevirtual (rc' := rc) (rs' := rs) (rc2 := 0) (rs2 := 0) (As := [_, _]) (st := _) M_X11_lets K_X11_167 (dT U_X11_say 4 rfl) rfl rfl (by decide) rfl rfl w.c70 (Nat.le_of_ble_eq_true rfl) (by decide) rfl (Nat.le_of_ble_eq_true rfl) rfl (by decide) (Nat.le_of_ble_eq_true rfl) rfl rfl ?_
    refine S_X11_lets0 w (fun h1 g1 w1 => ?_)
    refine xRet_some ?_
    refine x_if_eqj (tgt := 64) (dT U_X11_say 5 rfl) (by decide) (by decide) ?_
    refine x_iconst (dT U_X11_say 34 rfl) ?_
    refine x_ireturn (dT U_X11_say 35 rfl) rfl ?_
    exact e1 (by omega) _ _ (Ag.tr (Ag.rf 70 142 h) (g1.w (by omega))) w1 (by unfold xr; omega)

set_option maxRecDepth 20000 in
set_option maxHeartbeats 1000000 in
theorem S_X11_dare {G : xG} {d rc rs : Nat} {ex : Bool} {h : xH} {Q : xQ} {σ : St} {cc0 : Int} {rr : Nat} {ss : Int} {run c : Int} (w : MX σ cc0 rr ss h) (v : INV σ) (h_run : xr run) (h_c : xr c) (e1 : ¬ (inb run 4) → ∀ h2 z, Ag 70 142 h h2 → MX σ 1 rr ss h2 → xr z → Q (.inl (some (vi z))) ex h2) (e2 : (inb run 4) → ¬ (inb c σ.p) → ∀ h2 z, Ag 70 142 h h2 → MX σ 2 rr ss h2 → xr z → Q (.inl (some (vi z))) ex h2) (e3 : (inb run 4) → (inb c σ.p) → ¬ ((σ.R run.toNat).st = 2) → ∀ h2 z, Ag 70 142 h h2 → MX σ 3 rr ss h2 → xr z → Q (.inl (some (vi z))) ex h2) (k : (inb run 4) → (inb c σ.p) → ((σ.R run.toNat).st = 2) → ∀ h2 r2 s2, Ag 70 142 h h2 → MX (σ.sRun run.toNat (rDare (σ.R run.toNat) c)) 0 r2 s2 h2 → Q (.inl (some (vi (c)))) ex h2) : X G m_X11_dare (d + 2) rc rs ex 0 (xe m_X11_dare.2.2.1 [.ref 70, vi run, vi c]) [] h Q := by
  show X G m_X11_dare _ _ _ _ 0 [some (.ref 70), some (vi run), some (vi c)] [] h Q
  have hp := PRb v.p
  have hq := gq_b v.p
  refine x_aload_n (dT U_X11_dare 0 rfl) rfl ?_
  refine x_iload_n (dT U_X11_dare 1 rfl) rfl ?_
  refine x_invokestatic (rc' := rc) (rs' := rs) (rc2 := 0) (rs2 := 0) (As := [_]) (st := _) M_X11_isRun K_X11_244 (dT U_X11_dare 2 rfl) rfl rfl rfl rfl (Nat.le_of_ble_eq_true rfl) rfl (by decide) (Nat.le_of_ble_eq_true rfl) rfl rfl ?_
  refine S_X11_isRun h_run (fun q1 => ?_) (fun q1 => ?_)
  · refine xRet_some ?_
    refine x_iconst (dT U_X11_dare 3 rfl) ?_
    refine x_invokevirtual (rc' := rc) (rs' := rs) (rc2 := 0) (rs2 := 0) (As := [_, _]) (st := _) M_X11_lets K_X11_167 (dT U_X11_dare 4 rfl) rfl rfl (by decide) rfl rfl w.c70 (Nat.le_of_ble_eq_true rfl) (by decide) rfl (Nat.le_of_ble_eq_true rfl) rfl (by decide) (Nat.le_of_ble_eq_true rfl) rfl rfl ?_
    refine S_X11_lets1 w (fun h1 g1 w1 => ?_)
    refine xRet_some ?_
    obtain ⟨i, hi, rfl⟩ : ∃ j : Nat, j < 4 ∧ run = (j : Int) := ⟨run.toNat, by omega, by omega⟩
    try simp only [tnc] at e1 e2 e3 k
    refine x_if_eqn (tgt := 48) (dT U_X11_dare 5 rfl) (by decide) (by decide) ?_
    refine x_aload_n (dT U_X11_dare 6 rfl) rfl ?_
    refine x_aload_n (dT U_X11_dare 7 rfl) rfl ?_
    refine x_iload_n (dT U_X11_dare 8 rfl) rfl ?_
    refine x_invokevirtual (rc' := rc) (rs' := rs) (rc2 := 0) (rs2 := 0) (As := [_]) (st := _) M_X11_isNumber K_X11_174 (dT U_X11_dare 9 rfl) rfl rfl (by decide) rfl rfl w1.c70 (Nat.le_of_ble_eq_true rfl) (by decide) rfl (Nat.le_of_ble_eq_true rfl) rfl (by decide) (Nat.le_of_ble_eq_true rfl) rfl rfl ?_
    refine S_X11_isNumber (w1.mp) v.p h_c (fun q2 => ?_) (fun q2 => ?_)
    · refine xRet_some ?_
      refine x_iconst (dT U_X11_dare 10 rfl) ?_
      refine x_invokevirtual (rc' := rc) (rs' := rs) (rc2 := 0) (rs2 := 0) (As := [_, _]) (st := _) M_X11_lets K_X11_167 (dT U_X11_dare 11 rfl) rfl rfl (by decide) rfl rfl w1.c70 (Nat.le_of_ble_eq_true rfl) (by decide) rfl (Nat.le_of_ble_eq_true rfl) rfl (by decide) (Nat.le_of_ble_eq_true rfl) rfl rfl ?_
      refine S_X11_lets1 w1 (fun h2 g2 w2 => ?_)
      refine xRet_some ?_
      refine x_if_eqn (tgt := 48) (dT U_X11_dare 12 rfl) (by decide) (by decide) ?_
      refine x_aload_n (dT U_X11_dare 13 rfl) rfl ?_
      refine x_aload_n (dT U_X11_dare 14 rfl) rfl ?_
      refine x_getfield F_X11_21 (dT U_X11_dare 15 rfl) w2.c70 (Nat.le_of_ble_eq_true rfl) rfl ?_
      refine x_iload_n (dT U_X11_dare 16 rfl) rfl ?_
      refine x_ialoadv (i) (dT U_X11_dare 17 rfl) w2.c82 (Nat.le_of_ble_eq_true rfl) rfl (show i < 5 by omega) (show 5 < 2147483648 by decide) (show _ = ((σ.R i).st : Int) from t5_get hi) ?_
      refine x_iconst (dT U_X11_dare 18 rfl) ?_
      have s4 := (v.R i hi).1.s4
      refine x_icmp_ne (tgt := 40) (dT U_X11_dare 19 rfl) (by decide) (by unfold xr; omega) (by unfold xr; omega) (fun c33 => ?_) (fun c33 => ?_)
      · skip
        refine x_iconst (dT U_X11_dare 22 rfl) ?_
        refine x_iconst (dT U_X11_dare 23 rfl) ?_
        refine x_invokevirtual (rc' := rc) (rs' := rs) (rc2 := 0) (rs2 := 0) (As := [_, _]) (st := _) M_X11_lets K_X11_167 (dT U_X11_dare 24 rfl) rfl rfl (by decide) rfl rfl w2.c70 (Nat.le_of_ble_eq_true rfl) (by decide) rfl (Nat.le_of_ble_eq_true rfl) rfl (by decide) (Nat.le_of_ble_eq_true rfl) rfl rfl ?_
        refine S_X11_lets0 w2 (fun h3 g3 w3 => ?_)
        refine xRet_some ?_
        refine x_if_nen (tgt := 50) (dT U_X11_dare 25 rfl) (by decide) (by decide) ?_
        refine x_iconst (dT U_X11_dare 26 rfl) ?_
        refine x_ireturn (dT U_X11_dare 27 rfl) rfl ?_
        exact e3 (by omega) (by omega) (by omega) _ _ (Ag.tr (Ag.tr (Ag.tr (Ag.rf 70 142 h) (g1.w (by omega))) (g2.w (by omega))) (g3.w (by omega))) w3 (by unfold xr; omega)
      · skip
        refine x_iconst (dT U_X11_dare 20 rfl) ?_
        refine x_goto (tgt := 41) (dT U_X11_dare 21 rfl) (by decide) ?_
        refine x_iconst (dT U_X11_dare 23 rfl) ?_
        refine x_invokevirtual (rc' := rc) (rs' := rs) (rc2 := 0) (rs2 := 0) (As := [_, _]) (st := _) M_X11_lets K_X11_167 (dT U_X11_dare 24 rfl) rfl rfl (by decide) rfl rfl w2.c70 (Nat.le_of_ble_eq_true rfl) (by decide) rfl (Nat.le_of_ble_eq_true rfl) rfl (by decide) (Nat.le_of_ble_eq_true rfl) rfl rfl ?_
        refine S_X11_lets1 w2 (fun h3 g3 w3 => ?_)
        refine xRet_some ?_
        refine x_if_nej (tgt := 50) (dT U_X11_dare 25 rfl) (by decide) (by decide) ?_
        refine x_aload_n (dT U_X11_dare 28 rfl) rfl ?_
        refine x_getfield F_X11_49 (dT U_X11_dare 29 rfl) w3.c70 (Nat.le_of_ble_eq_true rfl) rfl ?_
        refine x_iload_n (dT U_X11_dare 30 rfl) rfl ?_
        refine x_iload_n (dT U_X11_dare 31 rfl) rfl ?_
        refine x_iastore (i) (dT U_X11_dare 32 rfl) w3.c101 (Nat.le_of_ble_eq_true rfl) rfl (show i < 5 by omega) (show 5 < 2147483648 by decide) ?_
        refine x_aload_n (dT U_X11_dare 33 rfl) rfl ?_
        refine x_getfield F_X11_21 (dT U_X11_dare 34 rfl) (hset_ne (by omega) (w3.c70)) (Nat.le_of_ble_eq_true rfl) rfl ?_
        refine x_iload_n (dT U_X11_dare 35 rfl) rfl ?_
        refine x_iconst (dT U_X11_dare 36 rfl) ?_
        refine x_iastore (i) (dT U_X11_dare 37 rfl) (hset_ne (by omega) (w3.c82)) (Nat.le_of_ble_eq_true rfl) rfl (show i < 5 by omega) (show 5 < 2147483648 by decide) ?_
        refine x_iload_n (dT U_X11_dare 38 rfl) rfl ?_
        refine x_ireturn (dT U_X11_dare 39 rfl) rfl ?_
        exact k (by omega) (by omega) (by omega) _ _ _ (((Ag.tr (Ag.tr (Ag.tr (Ag.rf 70 142 h) (g1.w (by omega))) (g2.w (by omega))) (g3.w (by omega))).set (by omega)).set (by omega)) (w3.run (i := i) (R := rDare (σ.R i) c) (fun a ha => by rw [hset_fr (by omega), hset_fr (by omega)]) hi (c5 (R' := rDare (σ.R i) c) gST hi (hset_eq (hset_ne (by omega) (w3.c82)))) (k5 (R' := rDare (σ.R i) c) RS.e rfl (hset_ne (by omega) (hset_ne (by omega) (w3.c83)))) (k5 (R' := rDare (σ.R i) c) RS.v rfl (hset_ne (by omega) (hset_ne (by omega) (w3.c90)))) (k5 (R' := rDare (σ.R i) c) RS.fa rfl (hset_ne (by omega) (hset_ne (by omega) (w3.c91)))) (k5 (R' := rDare (σ.R i) c) RS.w rfl (hset_ne (by omega) (hset_ne (by omega) (w3.c92)))) (k5 (R' := rDare (σ.R i) c) gMK rfl (hset_ne (by omega) (hset_ne (by omega) (w3.c93)))) (k5 (R' := rDare (σ.R i) c) RS.mb rfl (hset_ne (by omega) (hset_ne (by omega) (w3.c100)))) (c5 (R' := rDare (σ.R i) c) RS.c hi (hset_ne (by omega) (hset_eq (w3.c101)))) (k5 (R' := rDare (σ.R i) c) RS.t rfl (hset_ne (by omega) (hset_ne (by omega) (w3.c108)))) (hset_ne (by omega) (hset_ne (by omega) (w3.forms i hi))) (hset_ne (by omega) (hset_ne (by omega) (w3.masks i hi))) (hset_ne (by omega) (hset_ne (by omega) (w3.answers i hi))) (Exists.elim w3.s89 (fun l q => ⟨l, (hset_ne (by omega) (hset_ne (by omega) (q.1))), q.2⟩)))
    · refine xRet_some ?_
      refine x_iconst (dT U_X11_dare 10 rfl) ?_
      refine x_invokevirtual (rc' := rc) (rs' := rs) (rc2 := 0) (rs2 := 0) (As := [_, _]) (st := _) M_X11_lets K_X11_167 (dT U_X11_dare 11 rfl) rfl rfl (by decide) rfl rfl w1.c70 (Nat.le_of_ble_eq_true rfl) (by decide) rfl (Nat.le_of_ble_eq_true rfl) rfl (by decide) (Nat.le_of_ble_eq_true rfl) rfl rfl ?_
      refine S_X11_lets0 w1 (fun h2 g2 w2 => ?_)
      refine xRet_some ?_
      refine x_if_eqj (tgt := 48) (dT U_X11_dare 12 rfl) (by decide) (by decide) ?_
      refine x_iconst (dT U_X11_dare 26 rfl) ?_
      refine x_ireturn (dT U_X11_dare 27 rfl) rfl ?_
      exact e2 (by omega) (by omega) _ _ (Ag.tr (Ag.tr (Ag.rf 70 142 h) (g1.w (by omega))) (g2.w (by omega))) w2 (by unfold xr; omega)
  · refine xRet_some ?_
    refine x_iconst (dT U_X11_dare 3 rfl) ?_
    refine x_invokevirtual (rc' := rc) (rs' := rs) (rc2 := 0) (rs2 := 0) (As := [_, _]) (st := _) M_X11_lets K_X11_167 (dT U_X11_dare 4 rfl) rfl rfl (by decide) rfl rfl w.c70 (Nat.le_of_ble_eq_true rfl) (by decide) rfl (Nat.le_of_ble_eq_true rfl) rfl (by decide) (Nat.le_of_ble_eq_true rfl) rfl rfl ?_
    refine S_X11_lets0 w (fun h1 g1 w1 => ?_)
    refine xRet_some ?_
    refine x_if_eqj (tgt := 48) (dT U_X11_dare 5 rfl) (by decide) (by decide) ?_
    refine x_iconst (dT U_X11_dare 26 rfl) ?_
    refine x_ireturn (dT U_X11_dare 27 rfl) rfl ?_
    exact e1 (by omega) _ _ (Ag.tr (Ag.rf 70 142 h) (g1.w (by omega))) w1 (by unfold xr; omega)

set_option maxRecDepth 20000 in
set_option maxHeartbeats 1000000 in
theorem S_X11_transcript {G : xG} {d rc rs : Nat} {ex : Bool} {h : xH} {Q : xQ} {σ : St} {cc0 : Int} {rr : Nat} {ss : Int} {i : Nat} (w : MX σ cc0 rr ss h) (v : INV σ) (hi : i < 4) (hst : 2 ≤ (σ.R i).st) (k : Q (.inl (some (vi (trs σ.p (σ.R i))))) ex h) : X G m_X11_transcript (d + 1) rc rs ex 0 (xe m_X11_transcript.2.2.1 [.ref 70, vi (i : Int)]) [] h Q := by
  show X G m_X11_transcript _ _ _ _ 0 [some (.ref 70), some (vi (i : Int)), none, none] [] h Q
  have hp := PRb v.p
  have hq := gq_b v.p
  have ok := (v.R i hi).1
  have se := ok.e (by omega)
  have sv := ok.v (by omega)
  have sfa := ok.fa (by omega)
  have sw := ok.w (by omega)
  have sf := ok.f (by omega)
  have m1 := MM_b v.p se
  have m2 := MM_b v.p sfa
  obtain ⟨ml, p1, p2, p3⟩ := w.pow
  have L : ∀ (n t : Nat), t + n = 8 → X G m_X11_transcript (d + 1) rc rs ex 19 [some (.ref 70), some (vi (i : Int)), some (vi (tsq σ.p (σ.R i) t)), some (vi (t : Int))] [] h Q := by
    intro n
    induction n with
    | zero =>
      intro t hi_ 
      refine x_iload_n (dT U_X11_transcript 12 rfl) rfl ?_
      refine x_bipush (dT U_X11_transcript 13 rfl) (by decide) ?_
      refine x_icmp_ge (tgt := 44) (dT U_X11_transcript 14 rfl) (by decide) (by unfold xr; omega) (by unfold xr at *; omega) (fun c22 => ?_) (fun c22 => ?_)
      · skip
        have e : t = 8 := by omega
        subst e
        refine x_iload_n (dT U_X11_transcript 26 rfl) rfl ?_
        refine x_aload_n (dT U_X11_transcript 27 rfl) rfl ?_
        refine x_getfield F_X11_30 (dT U_X11_transcript 28 rfl) w.c70 (Nat.le_of_ble_eq_true rfl) rfl ?_
        refine x_iload_n (dT U_X11_transcript 29 rfl) rfl ?_
        refine x_ialoadv (i) (dT U_X11_transcript 30 rfl) w.c90 (Nat.le_of_ble_eq_true rfl) rfl (show i < 5 by omega) (show 5 < 2147483648 by decide) (show _ = (σ.R i).v from t5_get hi) ?_
        refine x_invokestatic (rc' := rc) (rs' := rs) (rc2 := 0) (rs2 := 0) (As := [_, _]) (st := _) M_X11_sealed K_X11_224 (dT U_X11_transcript 31 rfl) rfl rfl rfl rfl (Nat.le_of_ble_eq_true rfl) rfl (by decide) (Nat.le_of_ble_eq_true rfl) rfl rfl ?_
        refine S_X11_sealed (tsq_b σ.p (σ.R i) 8) (by omega) ?_
        refine xRet_some ?_
        refine x_aload_n (dT U_X11_transcript 32 rfl) rfl ?_
        refine x_getfield F_X11_7 (dT U_X11_transcript 33 rfl) w.c70 (Nat.le_of_ble_eq_true rfl) rfl ?_
        refine x_aload_n (dT U_X11_transcript 34 rfl) rfl ?_
        refine x_getfield F_X11_33 (dT U_X11_transcript 35 rfl) w.c70 (Nat.le_of_ble_eq_true rfl) rfl ?_
        refine x_iload_n (dT U_X11_transcript 36 rfl) rfl ?_
        refine x_ialoadv (i) (dT U_X11_transcript 37 rfl) w.c91 (Nat.le_of_ble_eq_true rfl) rfl (show i < 5 by omega) (show 5 < 2147483648 by decide) (show _ = (σ.R i).fa from t5_get hi) ?_
        refine x_ialoadv (((σ.R i).fa).toNat) (dT U_X11_transcript 38 rfl) p1 (Nat.le_of_ble_eq_true rfl) (by omega) (by rw [p2]; omega) (by rw [p2]; omega) (show _ = MM σ.p ((σ.R i).fa) from p3 _ (by omega)) ?_
        refine x_invokestatic (rc' := rc) (rs' := rs) (rc2 := 0) (rs2 := 0) (As := [_, _]) (st := _) M_X11_sealed K_X11_224 (dT U_X11_transcript 39 rfl) rfl rfl rfl rfl (Nat.le_of_ble_eq_true rfl) rfl (by decide) (Nat.le_of_ble_eq_true rfl) rfl rfl ?_
        refine S_X11_sealed (sl_b _ _) (by omega) ?_
        refine xRet_some ?_
        refine x_aload_n (dT U_X11_transcript 40 rfl) rfl ?_
        refine x_getfield F_X11_36 (dT U_X11_transcript 41 rfl) w.c70 (Nat.le_of_ble_eq_true rfl) rfl ?_
        refine x_iload_n (dT U_X11_transcript 42 rfl) rfl ?_
        refine x_ialoadv (i) (dT U_X11_transcript 43 rfl) w.c92 (Nat.le_of_ble_eq_true rfl) rfl (show i < 5 by omega) (show 5 < 2147483648 by decide) (show _ = (σ.R i).w from t5_get hi) ?_
        refine x_invokestatic (rc' := rc) (rs' := rs) (rc2 := 0) (rs2 := 0) (As := [_, _]) (st := _) M_X11_sealed K_X11_224 (dT U_X11_transcript 44 rfl) rfl rfl rfl rfl (Nat.le_of_ble_eq_true rfl) rfl (by decide) (Nat.le_of_ble_eq_true rfl) rfl rfl ?_
        refine S_X11_sealed (sl_b _ _) (by omega) ?_
        refine xRet_some ?_
        refine x_ireturn (dT U_X11_transcript 45 rfl) rfl ?_
        exact k
      · exfalso; omega
    | succ n ih =>
      intro t hi_ 
      refine x_iload_n (dT U_X11_transcript 12 rfl) rfl ?_
      refine x_bipush (dT U_X11_transcript 13 rfl) (by decide) ?_
      refine x_icmp_ge (tgt := 44) (dT U_X11_transcript 14 rfl) (by decide) (by unfold xr; omega) (by unfold xr at *; omega) (fun c22 => ?_) (fun c22 => ?_)
      · exfalso; omega
      · skip
        refine x_iload_n (dT U_X11_transcript 15 rfl) rfl ?_
        refine x_aload_n (dT U_X11_transcript 16 rfl) rfl ?_
        refine x_getfield F_X11_27 (dT U_X11_transcript 17 rfl) w.c70 (Nat.le_of_ble_eq_true rfl) rfl ?_
        refine x_iload_n (dT U_X11_transcript 18 rfl) rfl ?_
        refine x_aaload (i) (dT U_X11_transcript 19 rfl) w.c84 (Nat.le_of_ble_eq_true rfl) (by decide) rfl (mfL_get (by omega)) (Nat.le_of_ble_eq_true rfl) ?_
        refine x_iload_n (dT U_X11_transcript 20 rfl) rfl ?_
        refine x_iaload (t) (dT U_X11_transcript 21 rfl) (w.forms i hi) (by omega) rfl (by rw [(v.R i hi).1.f24.1]; omega) (by rw [(v.R i hi).1.f24.1]; omega) ?_
        refine x_invokestatic (rc' := rc) (rs' := rs) (rc2 := 0) (rs2 := 0) (As := [_, _]) (st := _) M_X11_sealed K_X11_224 (dT U_X11_transcript 22 rfl) rfl rfl rfl rfl (Nat.le_of_ble_eq_true rfl) rfl (by decide) (Nat.le_of_ble_eq_true rfl) rfl rfl ?_
        have ft := sf.2 t
        refine S_X11_sealed (tsq_b σ.p (σ.R i) t) (by omega) ?_
        refine xRet_some ?_
        refine x_istore_n (ls' := [some (.ref _), some (vi _), some (vi _), some (vi _)]) (dT U_X11_transcript 23 rfl) (by decide) rfl ?_
        refine x_iinc (ls' := [some (.ref _), some (vi _), some (vi _), some (vi _)]) (dT U_X11_transcript 24 rfl) (by decide) rfl rfl ?_
        refine x_goto (tgt := 19) (dT U_X11_transcript 25 rfl) (by decide) ?_
        exact ih (t + 1) (by omega)
  refine x_bipush (dT U_X11_transcript 0 rfl) (by decide) ?_
  refine x_aload_n (dT U_X11_transcript 1 rfl) rfl ?_
  refine x_getfield F_X11_7 (dT U_X11_transcript 2 rfl) w.c70 (Nat.le_of_ble_eq_true rfl) rfl ?_
  refine x_aload_n (dT U_X11_transcript 3 rfl) rfl ?_
  refine x_getfield F_X11_24 (dT U_X11_transcript 4 rfl) w.c70 (Nat.le_of_ble_eq_true rfl) rfl ?_
  refine x_iload_n (dT U_X11_transcript 5 rfl) rfl ?_
  refine x_ialoadv (i) (dT U_X11_transcript 6 rfl) w.c83 (Nat.le_of_ble_eq_true rfl) rfl (show i < 5 by omega) (show 5 < 2147483648 by decide) (show _ = (σ.R i).e from t5_get hi) ?_
  refine x_ialoadv (((σ.R i).e).toNat) (dT U_X11_transcript 7 rfl) p1 (Nat.le_of_ble_eq_true rfl) (by omega) (by rw [p2]; omega) (by rw [p2]; omega) (show _ = MM σ.p ((σ.R i).e) from p3 _ (by omega)) ?_
  refine x_invokestatic (rc' := rc) (rs' := rs) (rc2 := 0) (rs2 := 0) (As := [_, _]) (st := _) M_X11_sealed K_X11_224 (dT U_X11_transcript 8 rfl) rfl rfl rfl rfl (Nat.le_of_ble_eq_true rfl) rfl (by decide) (Nat.le_of_ble_eq_true rfl) rfl rfl ?_
  refine S_X11_sealed (by omega) (by omega) ?_
  refine xRet_some ?_
  refine x_istore_n (ls' := [some (.ref _), some (vi _), some (vi _), none]) (dT U_X11_transcript 9 rfl) (by decide) rfl ?_
  refine x_iconst (dT U_X11_transcript 10 rfl) ?_
  refine x_istore_n (ls' := [some (.ref _), some (vi _), some (vi _), some (vi _)]) (dT U_X11_transcript 11 rfl) (by decide) rfl ?_
  exact L 8 0 (by omega)

set_option maxRecDepth 20000 in
set_option maxHeartbeats 1000000 in
theorem S_X11_ask {G : xG} {d rc rs : Nat} {ex : Bool} {h : xH} {Q : xQ} {σ : St} {cc0 : Int} {rr : Nat} {ss : Int} {run : Int} (w : MX σ cc0 rr ss h) (v : INV σ) (h_run : xr run) (e1 : ¬ (inb run 4) → ∀ h2 z, Ag 70 142 h h2 → MX σ 1 rr ss h2 → xr z → Q (.inl (some (vi z))) ex h2) (e2 : (inb run 4) → ¬ ((σ.R run.toNat).st = 2) → ∀ h2 z, Ag 70 142 h h2 → MX σ 2 rr ss h2 → xr z → Q (.inl (some (vi z))) ex h2) (k : (inb run 4) → ((σ.R run.toNat).st = 2) → ∀ h2 r2 s2, Ag 70 142 h h2 → MX (σ.sRun run.toNat (rDare (σ.R run.toNat) (trs σ.p (σ.R run.toNat) % (σ.p : Int)))) 0 r2 s2 h2 → Q (.inl (some (vi ((trs σ.p (σ.R run.toNat) % (σ.p : Int)))))) ex h2) : X G m_X11_ask (d + 2) rc rs ex 0 (xe m_X11_ask.2.2.1 [.ref 70, vi run]) [] h Q := by
  show X G m_X11_ask _ _ _ _ 0 [some (.ref 70), some (vi run)] [] h Q
  have hp := PRb v.p
  have hq := gq_b v.p
  refine x_aload_n (dT U_X11_ask 0 rfl) rfl ?_
  refine x_iload_n (dT U_X11_ask 1 rfl) rfl ?_
  refine x_invokestatic (rc' := rc) (rs' := rs) (rc2 := 0) (rs2 := 0) (As := [_]) (st := _) M_X11_isRun K_X11_244 (dT U_X11_ask 2 rfl) rfl rfl rfl rfl (Nat.le_of_ble_eq_true rfl) rfl (by decide) (Nat.le_of_ble_eq_true rfl) rfl rfl ?_
  refine S_X11_isRun h_run (fun q1 => ?_) (fun q1 => ?_)
  · refine xRet_some ?_
    refine x_iconst (dT U_X11_ask 3 rfl) ?_
    refine x_invokevirtual (rc' := rc) (rs' := rs) (rc2 := 0) (rs2 := 0) (As := [_, _]) (st := _) M_X11_lets K_X11_167 (dT U_X11_ask 4 rfl) rfl rfl (by decide) rfl rfl w.c70 (Nat.le_of_ble_eq_true rfl) (by decide) rfl (Nat.le_of_ble_eq_true rfl) rfl (by decide) (Nat.le_of_ble_eq_true rfl) rfl rfl ?_
    refine S_X11_lets1 w (fun h1 g1 w1 => ?_)
    refine xRet_some ?_
    obtain ⟨i, hi, rfl⟩ : ∃ j : Nat, j < 4 ∧ run = (j : Int) := ⟨run.toNat, by omega, by omega⟩
    try simp only [tnc] at e1 e2 k
    refine x_if_eqn (tgt := 35) (dT U_X11_ask 5 rfl) (by decide) (by decide) ?_
    refine x_aload_n (dT U_X11_ask 6 rfl) rfl ?_
    refine x_aload_n (dT U_X11_ask 7 rfl) rfl ?_
    refine x_getfield F_X11_21 (dT U_X11_ask 8 rfl) w1.c70 (Nat.le_of_ble_eq_true rfl) rfl ?_
    refine x_iload_n (dT U_X11_ask 9 rfl) rfl ?_
    refine x_ialoadv (i) (dT U_X11_ask 10 rfl) w1.c82 (Nat.le_of_ble_eq_true rfl) rfl (show i < 5 by omega) (show 5 < 2147483648 by decide) (show _ = ((σ.R i).st : Int) from t5_get hi) ?_
    refine x_iconst (dT U_X11_ask 11 rfl) ?_
    have s4 := (v.R i hi).1.s4
    refine x_icmp_ne (tgt := 27) (dT U_X11_ask 12 rfl) (by decide) (by unfold xr; omega) (by unfold xr; omega) (fun c20 => ?_) (fun c20 => ?_)
    · skip
      refine x_iconst (dT U_X11_ask 15 rfl) ?_
      refine x_iconst (dT U_X11_ask 16 rfl) ?_
      refine x_invokevirtual (rc' := rc) (rs' := rs) (rc2 := 0) (rs2 := 0) (As := [_, _]) (st := _) M_X11_lets K_X11_167 (dT U_X11_ask 17 rfl) rfl rfl (by decide) rfl rfl w1.c70 (Nat.le_of_ble_eq_true rfl) (by decide) rfl (Nat.le_of_ble_eq_true rfl) rfl (by decide) (Nat.le_of_ble_eq_true rfl) rfl rfl ?_
      refine S_X11_lets0 w1 (fun h2 g2 w2 => ?_)
      refine xRet_some ?_
      refine x_if_nen (tgt := 37) (dT U_X11_ask 18 rfl) (by decide) (by decide) ?_
      refine x_iconst (dT U_X11_ask 19 rfl) ?_
      refine x_ireturn (dT U_X11_ask 20 rfl) rfl ?_
      exact e2 (by omega) (by omega) _ _ (Ag.tr (Ag.tr (Ag.rf 70 142 h) (g1.w (by omega))) (g2.w (by omega))) w2 (by unfold xr; omega)
    · skip
      refine x_iconst (dT U_X11_ask 13 rfl) ?_
      refine x_goto (tgt := 28) (dT U_X11_ask 14 rfl) (by decide) ?_
      refine x_iconst (dT U_X11_ask 16 rfl) ?_
      refine x_invokevirtual (rc' := rc) (rs' := rs) (rc2 := 0) (rs2 := 0) (As := [_, _]) (st := _) M_X11_lets K_X11_167 (dT U_X11_ask 17 rfl) rfl rfl (by decide) rfl rfl w1.c70 (Nat.le_of_ble_eq_true rfl) (by decide) rfl (Nat.le_of_ble_eq_true rfl) rfl (by decide) (Nat.le_of_ble_eq_true rfl) rfl rfl ?_
      refine S_X11_lets1 w1 (fun h2 g2 w2 => ?_)
      refine xRet_some ?_
      refine x_if_nej (tgt := 37) (dT U_X11_ask 18 rfl) (by decide) (by decide) ?_
      refine x_aload_n (dT U_X11_ask 21 rfl) rfl ?_
      refine x_getfield F_X11_49 (dT U_X11_ask 22 rfl) w2.c70 (Nat.le_of_ble_eq_true rfl) rfl ?_
      refine x_iload_n (dT U_X11_ask 23 rfl) rfl ?_
      refine x_aload_n (dT U_X11_ask 24 rfl) rfl ?_
      refine x_iload_n (dT U_X11_ask 25 rfl) rfl ?_
      refine x_invokevirtual (rc' := rc) (rs' := rs) (rc2 := 0) (rs2 := 0) (As := [_]) (st := _) M_X11_transcript K_X11_251 (dT U_X11_ask 26 rfl) rfl rfl (by decide) rfl rfl w2.c70 (Nat.le_of_ble_eq_true rfl) (by decide) rfl (Nat.le_of_ble_eq_true rfl) rfl (by decide) (Nat.le_of_ble_eq_true rfl) rfl rfl ?_
      have tb : 0 ≤ trs σ.p (σ.R i) ∧ trs σ.p (σ.R i) < 251 := sl_b _ _
      refine S_X11_transcript w2 v hi (by omega) ?_
      refine xRet_some ?_
      refine x_aload_n (dT U_X11_ask 27 rfl) rfl ?_
      refine x_getfield F_X11_130 (dT U_X11_ask 28 rfl) w2.c70 (Nat.le_of_ble_eq_true rfl) rfl ?_
      refine x_irem (dT U_X11_ask 29 rfl) (by unfold xr; omega) (by unfold xr; omega) (by omega) ?_
      rw [Int.tmod_eq_emod_of_nonneg tb.1]
      refine x_iastore (i) (dT U_X11_ask 30 rfl) w2.c101 (Nat.le_of_ble_eq_true rfl) rfl (show i < 5 by omega) (show 5 < 2147483648 by decide) ?_
      refine x_aload_n (dT U_X11_ask 31 rfl) rfl ?_
      refine x_getfield F_X11_21 (dT U_X11_ask 32 rfl) (hset_ne (by omega) (w2.c70)) (Nat.le_of_ble_eq_true rfl) rfl ?_
      refine x_iload_n (dT U_X11_ask 33 rfl) rfl ?_
      refine x_iconst (dT U_X11_ask 34 rfl) ?_
      refine x_iastore (i) (dT U_X11_ask 35 rfl) (hset_ne (by omega) (w2.c82)) (Nat.le_of_ble_eq_true rfl) rfl (show i < 5 by omega) (show 5 < 2147483648 by decide) ?_
      refine x_aload_n (dT U_X11_ask 36 rfl) rfl ?_
      refine x_getfield F_X11_49 (dT U_X11_ask 37 rfl) (hset_ne (by omega) (hset_ne (by omega) (w2.c70))) (Nat.le_of_ble_eq_true rfl) rfl ?_
      refine x_iload_n (dT U_X11_ask 38 rfl) rfl ?_
      refine x_ialoadv (i) (dT U_X11_ask 39 rfl) (hset_ne (by omega) (hset_eq w2.c101)) (Nat.le_of_ble_eq_true rfl) rfl (by rw [t5_set hi]; show i < 5; omega) (by rw [t5_set hi]; show 5 < 2147483648; omega) (show _ = trs σ.p (σ.R i) % (σ.p : Int) from by rw [t5_set hi, t5_get hi, fup_eq]) ?_
      refine x_ireturn (dT U_X11_ask 40 rfl) rfl ?_
      exact k (by omega) (by omega) _ _ _ (((Ag.tr (Ag.tr (Ag.rf 70 142 h) (g1.w (by omega))) (g2.w (by omega))).set (by omega)).set (by omega)) (w2.run (i := i) (R := rDare (σ.R i) (trs σ.p (σ.R i) % (σ.p : Int))) (fun a ha => by rw [hset_fr (by omega), hset_fr (by omega)]) hi (c5 (R' := rDare (σ.R i) (trs σ.p (σ.R i) % (σ.p : Int))) gST hi (hset_eq (hset_ne (by omega) (w2.c82)))) (k5 (R' := rDare (σ.R i) (trs σ.p (σ.R i) % (σ.p : Int))) RS.e rfl (hset_ne (by omega) (hset_ne (by omega) (w2.c83)))) (k5 (R' := rDare (σ.R i) (trs σ.p (σ.R i) % (σ.p : Int))) RS.v rfl (hset_ne (by omega) (hset_ne (by omega) (w2.c90)))) (k5 (R' := rDare (σ.R i) (trs σ.p (σ.R i) % (σ.p : Int))) RS.fa rfl (hset_ne (by omega) (hset_ne (by omega) (w2.c91)))) (k5 (R' := rDare (σ.R i) (trs σ.p (σ.R i) % (σ.p : Int))) RS.w rfl (hset_ne (by omega) (hset_ne (by omega) (w2.c92)))) (k5 (R' := rDare (σ.R i) (trs σ.p (σ.R i) % (σ.p : Int))) gMK rfl (hset_ne (by omega) (hset_ne (by omega) (w2.c93)))) (k5 (R' := rDare (σ.R i) (trs σ.p (σ.R i) % (σ.p : Int))) RS.mb rfl (hset_ne (by omega) (hset_ne (by omega) (w2.c100)))) (c5 (R' := rDare (σ.R i) (trs σ.p (σ.R i) % (σ.p : Int))) RS.c hi (hset_ne (by omega) (hset_eq (w2.c101)))) (k5 (R' := rDare (σ.R i) (trs σ.p (σ.R i) % (σ.p : Int))) RS.t rfl (hset_ne (by omega) (hset_ne (by omega) (w2.c108)))) (hset_ne (by omega) (hset_ne (by omega) (w2.forms i hi))) (hset_ne (by omega) (hset_ne (by omega) (w2.masks i hi))) (hset_ne (by omega) (hset_ne (by omega) (w2.answers i hi))) (Exists.elim w2.s89 (fun l q => ⟨l, (hset_ne (by omega) (hset_ne (by omega) (q.1))), q.2⟩)))
  · refine xRet_some ?_
    refine x_iconst (dT U_X11_ask 3 rfl) ?_
    refine x_invokevirtual (rc' := rc) (rs' := rs) (rc2 := 0) (rs2 := 0) (As := [_, _]) (st := _) M_X11_lets K_X11_167 (dT U_X11_ask 4 rfl) rfl rfl (by decide) rfl rfl w.c70 (Nat.le_of_ble_eq_true rfl) (by decide) rfl (Nat.le_of_ble_eq_true rfl) rfl (by decide) (Nat.le_of_ble_eq_true rfl) rfl rfl ?_
    refine S_X11_lets0 w (fun h1 g1 w1 => ?_)
    refine xRet_some ?_
    refine x_if_eqj (tgt := 35) (dT U_X11_ask 5 rfl) (by decide) (by decide) ?_
    refine x_iconst (dT U_X11_ask 19 rfl) ?_
    refine x_ireturn (dT U_X11_ask 20 rfl) rfl ?_
    exact e1 (by omega) _ _ (Ag.tr (Ag.rf 70 142 h) (g1.w (by omega))) w1 (by unfold xr; omega)
