set_option maxRecDepth 20000 in
set_option maxHeartbeats 1000000 in
theorem S_X10_seal {G : xG} {d rc rs : Nat} {ex : Bool} {h : xH} {Q : xQ} {σ : St} {a b : Int} (w : CW σ h) (v : INV σ) (h_a : xr a) (h_b : xr b) (e1 : ¬ (inb a 251 ∧ inb b 251) → Q (.inr IAE) false h) (k : (inb a 251 ∧ inb b 251) → Q (.inl (some (vi (sl a b)))) ex h) : X G m_X10_seal (d + 7) (rc + 2) (rs + 12) ex 0 (xe m_X10_seal.2.2.1 [.ref 3, vi a, vi b]) [] h Q := by
  show X G m_X10_seal _ _ _ _ 0 [some (.ref 3), some (vi a), some (vi b)] [] h Q
  have hp := PRb v.p
  have hq := gq_b v.p
  refine x_iload_n (dT U_X10_seal 0 rfl) rfl ?_
  refine x_invokestatic (rc' := rc + 1) (rs' := rs + 6) (rc2 := 1) (rs2 := 6) (As := [_]) (st := _) M_X10_needSeal K_X10_242 (dT U_X10_seal 1 rfl) rfl rfl rfl rfl (Nat.le_of_ble_eq_true rfl) rfl (by decide) (Nat.le_of_ble_eq_true rfl) rfl rfl ?_
  refine S_X10_needSeal v h_a (fun q => xRet_thr (e1 (by omega))) (fun q_a => ?_)
  refine xRet_none ?_
  refine x_iload_n (dT U_X10_seal 2 rfl) rfl ?_
  refine x_invokestatic (rc' := rc) (rs' := rs) (rc2 := 1) (rs2 := 6) (As := [_]) (st := _) M_X10_needSeal K_X10_242 (dT U_X10_seal 3 rfl) rfl rfl rfl rfl (Nat.le_of_ble_eq_true rfl) rfl (by decide) (Nat.le_of_ble_eq_true rfl) rfl rfl ?_
  refine S_X10_needSeal v h_b (fun q => xRet_thr (e1 (by omega))) (fun q_b => ?_)
  refine xRet_none ?_
  refine x_iload_n (dT U_X10_seal 4 rfl) rfl ?_
  refine x_iload_n (dT U_X10_seal 5 rfl) rfl ?_
  refine x_invokestatic (rc' := rc) (rs' := rs) (rc2 := 0) (rs2 := 0) (As := [_, _]) (st := _) M_X8_sealOf K_X10_245 (dT U_X10_seal 6 rfl) rfl rfl rfl rfl (Nat.le_of_ble_eq_true rfl) rfl (by decide) (Nat.le_of_ble_eq_true rfl) rfl rfl ?_
  refine S_X8_sealOf q_a q_b ?_
  refine xRet_some ?_
  refine x_ireturn (dT U_X10_seal 7 rfl) rfl ?_
  exact k (by omega)

abbrev TWP (a b : Int) (n : Nat) : Prop := ¬ (n : Int) = 251 * a + b ∧ sl ((n / 251 : Nat) : Int) ((n % 251 : Nat) : Int) = sl a b

set_option maxRecDepth 20000 in
set_option maxHeartbeats 1000000 in
theorem S_X10_twin1 {G : xG} {d rc rs : Nat} {ex : Bool} {h : xH} {Q : xQ} {a b : Int} {c : Nat} (hc : c < 251) (qa : inb a 251) (qb : inb b 251) (k0 : Q (.inl (some (vi (ff (TWP a b) (251 * c + 0) (63001 - (251 * c + 0)))))) ex h)
    (M : Q (.inl (some (vi (ff (TWP a b) (251 * (c + 1) + 0) (63001 - (251 * (c + 1) + 0)))))) ex h → X G m_X10_twin (d + 7) rc rs ex 75 [some (.ref 3), some (vi a), some (vi b), some (vi (sl a b)), some (vi (c : Int)), some (vi 251)] [] h Q) : X G m_X10_twin (d + 7) rc rs ex 28 [some (.ref 3), some (vi a), some (vi b), some (vi (sl a b)), some (vi (c : Int)), some (vi 0)] [] h Q := by
  have L : ∀ (n e : Nat), e + n = 251 → Q (.inl (some (vi (ff (TWP a b) (251 * c + e) (63001 - (251 * c + e)))))) ex h → X G m_X10_twin (d + 7) rc rs ex 28 [some (.ref 3), some (vi a), some (vi b), some (vi (sl a b)), some (vi (c : Int)), some (vi (e : Int))] [] h Q := by
    intro n
    induction n with
    | zero =>
      intro e hi kk
      refine x_iload (dT U_X10_twin 15 rfl) rfl ?_
      refine x_sipush (dT U_X10_twin 16 rfl) (by decide) ?_
      refine x_icmp_ge (tgt := 75) (dT U_X10_twin 17 rfl) (by decide) (by unfold xr at *; omega) (by unfold xr at *; omega) (fun c33 => ?_) (fun c33 => ?_)
      · skip
        have q : e = 251 := by omega
        subst q
        exact M (by rw [show 251 * (c + 1) + 0 = 251 * c + 251 by omega]; exact kk)
      · exfalso; omega
    | succ n ih =>
      intro e hi kk
      refine x_iload (dT U_X10_twin 15 rfl) rfl ?_
      refine x_sipush (dT U_X10_twin 16 rfl) (by decide) ?_
      refine x_icmp_ge (tgt := 75) (dT U_X10_twin 17 rfl) (by decide) (by unfold xr at *; omega) (by unfold xr at *; omega) (fun c33 => ?_) (fun c33 => ?_)
      · exfalso; omega
      · skip
        have eN : 63001 - (251 * c + e) = (63001 - (251 * c + (e + 1))) + 1 := by omega
        have e1 : (251 * c + e) / 251 = c := by omega
        have e2 : (251 * c + e) % 251 = e := by omega
        have ec : ((251 * c + e : Nat) : Int) = 251 * (c : Int) + (e : Int) := by omega
        refine x_iload (dT U_X10_twin 18 rfl) rfl ?_
        refine x_iload_n (dT U_X10_twin 19 rfl) rfl ?_
        refine x_icmp_ne (tgt := 48) (dT U_X10_twin 20 rfl) (by decide) (by unfold xr; omega) (by unfold xr; omega) (fun c39 => ?_) (fun c39 => ?_)
        · skip
          refine x_iload (dT U_X10_twin 24 rfl) rfl ?_
          refine x_iload (dT U_X10_twin 25 rfl) rfl ?_
          refine x_invokestatic (rc' := rc) (rs' := rs) (rc2 := 0) (rs2 := 0) (As := [_, _]) (st := _) M_X8_sealOf K_X10_245 (dT U_X10_twin 26 rfl) rfl rfl rfl rfl (Nat.le_of_ble_eq_true rfl) rfl (by decide) (Nat.le_of_ble_eq_true rfl) rfl rfl ?_
          refine S_X8_sealOf (by omega) (by omega) ?_
          have sb1 := sl_b (c : Int) (e : Int)
          have sb2 := sl_b a b
          refine xRet_some ?_
          refine x_iload_n (dT U_X10_twin 27 rfl) rfl ?_
          refine x_icmp_ne (tgt := 69) (dT U_X10_twin 28 rfl) (by decide) (by unfold xr; omega) (by unfold xr; omega) (fun c56 => ?_) (fun c56 => ?_)
          · skip
            rw [eN, ff_n (fun z => by have z2 := z.2; rw [e1, e2] at z2; omega)] at kk
            refine x_iinc (ls' := [some (.ref _), some (vi _), some (vi _), some (vi _), some (vi _), some (vi _)]) (dT U_X10_twin 35 rfl) (by decide) rfl rfl ?_
            refine x_goto (tgt := 28) (dT U_X10_twin 36 rfl) (by decide) ?_
            exact ih (e + 1) (by omega) kk
          · skip
            refine x_sipush (dT U_X10_twin 29 rfl) (by decide) ?_
            refine x_iload (dT U_X10_twin 30 rfl) rfl ?_
            refine x_imul (dT U_X10_twin 31 rfl) ?_
            refine x_iload (dT U_X10_twin 32 rfl) rfl ?_
            refine x_iadd (dT U_X10_twin 33 rfl) ?_
            refine x_ireturn (dT U_X10_twin 34 rfl) rfl ?_
            rw [eN, ff_y ⟨by rw [ec]; omega, by rw [e1, e2]; omega⟩, ec] at kk
            exact kk
        · skip
          refine x_iload (dT U_X10_twin 21 rfl) rfl ?_
          refine x_iload_n (dT U_X10_twin 22 rfl) rfl ?_
          refine x_icmp_eq (tgt := 69) (dT U_X10_twin 23 rfl) (by decide) (by unfold xr; omega) (by unfold xr; omega) (fun c45 => ?_) (fun c45 => ?_)
          · skip
            rw [eN, ff_n (fun z => z.1 (by rw [ec]; omega))] at kk
            refine x_iinc (ls' := [some (.ref _), some (vi _), some (vi _), some (vi _), some (vi _), some (vi _)]) (dT U_X10_twin 35 rfl) (by decide) rfl rfl ?_
            refine x_goto (tgt := 28) (dT U_X10_twin 36 rfl) (by decide) ?_
            exact ih (e + 1) (by omega) kk
          · skip
            refine x_iload (dT U_X10_twin 24 rfl) rfl ?_
            refine x_iload (dT U_X10_twin 25 rfl) rfl ?_
            refine x_invokestatic (rc' := rc) (rs' := rs) (rc2 := 0) (rs2 := 0) (As := [_, _]) (st := _) M_X8_sealOf K_X10_245 (dT U_X10_twin 26 rfl) rfl rfl rfl rfl (Nat.le_of_ble_eq_true rfl) rfl (by decide) (Nat.le_of_ble_eq_true rfl) rfl rfl ?_
            refine S_X8_sealOf (by omega) (by omega) ?_
            have sb1 := sl_b (c : Int) (e : Int)
            have sb2 := sl_b a b
            refine xRet_some ?_
            refine x_iload_n (dT U_X10_twin 27 rfl) rfl ?_
            refine x_icmp_ne (tgt := 69) (dT U_X10_twin 28 rfl) (by decide) (by unfold xr; omega) (by unfold xr; omega) (fun c56 => ?_) (fun c56 => ?_)
            · skip
              rw [eN, ff_n (fun z => by have z2 := z.2; rw [e1, e2] at z2; omega)] at kk
              refine x_iinc (ls' := [some (.ref _), some (vi _), some (vi _), some (vi _), some (vi _), some (vi _)]) (dT U_X10_twin 35 rfl) (by decide) rfl rfl ?_
              refine x_goto (tgt := 28) (dT U_X10_twin 36 rfl) (by decide) ?_
              exact ih (e + 1) (by omega) kk
            · skip
              refine x_sipush (dT U_X10_twin 29 rfl) (by decide) ?_
              refine x_iload (dT U_X10_twin 30 rfl) rfl ?_
              refine x_imul (dT U_X10_twin 31 rfl) ?_
              refine x_iload (dT U_X10_twin 32 rfl) rfl ?_
              refine x_iadd (dT U_X10_twin 33 rfl) ?_
              refine x_ireturn (dT U_X10_twin 34 rfl) rfl ?_
              rw [eN, ff_y ⟨by rw [ec]; omega, by rw [e1, e2]; omega⟩, ec] at kk
              exact kk
  exact L 251 0 (by omega) k0

set_option maxRecDepth 20000 in
set_option maxHeartbeats 1000000 in
theorem S_X10_twin {G : xG} {d rc rs : Nat} {ex : Bool} {h : xH} {Q : xQ} {σ : St} {a b : Int} (w : CW σ h) (v : INV σ) (h_a : xr a) (h_b : xr b) (e1 : ¬ (inb a 251 ∧ inb b 251) → Q (.inr IAE) false h) (k : (inb a 251 ∧ inb b 251) → Q (.inl (some (vi (ff (TWP a b) 0 63001)))) ex h) : X G m_X10_twin (d + 7) (rc + 2) (rs + 12) ex 0 (xe m_X10_twin.2.2.1 [.ref 3, vi a, vi b]) [] h Q := by
  show X G m_X10_twin _ _ _ _ 0 [some (.ref 3), some (vi a), some (vi b), none, none, none] [] h Q
  have hp := PRb v.p
  have hq := gq_b v.p
  refine x_iload_n (dT U_X10_twin 0 rfl) rfl ?_
  refine x_invokestatic (rc' := rc + 1) (rs' := rs + 6) (rc2 := 1) (rs2 := 6) (As := [_]) (st := _) M_X10_needSeal K_X10_242 (dT U_X10_twin 1 rfl) rfl rfl rfl rfl (Nat.le_of_ble_eq_true rfl) rfl (by decide) (Nat.le_of_ble_eq_true rfl) rfl rfl ?_
  refine S_X10_needSeal v h_a (fun q => xRet_thr (e1 (by omega))) (fun q_a => ?_)
  refine xRet_none ?_
  refine x_iload_n (dT U_X10_twin 2 rfl) rfl ?_
  refine x_invokestatic (rc' := rc) (rs' := rs) (rc2 := 1) (rs2 := 6) (As := [_]) (st := _) M_X10_needSeal K_X10_242 (dT U_X10_twin 3 rfl) rfl rfl rfl rfl (Nat.le_of_ble_eq_true rfl) rfl (by decide) (Nat.le_of_ble_eq_true rfl) rfl rfl ?_
  refine S_X10_needSeal v h_b (fun q => xRet_thr (e1 (by omega))) (fun q_b => ?_)
  refine xRet_none ?_
  refine x_iload_n (dT U_X10_twin 4 rfl) rfl ?_
  refine x_iload_n (dT U_X10_twin 5 rfl) rfl ?_
  refine x_invokestatic (rc' := rc) (rs' := rs) (rc2 := 0) (rs2 := 0) (As := [_, _]) (st := _) M_X8_sealOf K_X10_245 (dT U_X10_twin 6 rfl) rfl rfl rfl rfl (Nat.le_of_ble_eq_true rfl) rfl (by decide) (Nat.le_of_ble_eq_true rfl) rfl rfl ?_
  refine S_X8_sealOf q_a q_b ?_
  refine xRet_some ?_
  refine x_istore_n (ls' := [some (.ref _), some (vi _), some (vi _), some (vi _), none, none]) (dT U_X10_twin 7 rfl) (by decide) rfl ?_
  refine x_iconst (dT U_X10_twin 8 rfl) ?_
  refine x_istore (ls' := [some (.ref _), some (vi _), some (vi _), some (vi _), some (vi _), none]) (dT U_X10_twin 9 rfl) (by decide) rfl ?_
  have L : ∀ (n c : Nat), c + n = 251 → Q (.inl (some (vi (ff (TWP a b) (251 * c + 0) (63001 - (251 * c + 0)))))) ex h → X G m_X10_twin (d + 7) rc rs ex 17 [some (.ref 3), some (vi a), some (vi b), some (vi (sl a b)), some (vi (c : Int)), none] [] h Q := by
    intro n
    induction n with
    | zero =>
      intro c hi kk
      refine x_iload (dT U_X10_twin 10 rfl) rfl ?_
      refine x_sipush (dT U_X10_twin 11 rfl) (by decide) ?_
      refine x_icmp_ge (tgt := 81) (dT U_X10_twin 12 rfl) (by decide) (by unfold xr at *; omega) (by unfold xr at *; omega) (fun c22 => ?_) (fun c22 => ?_)
      · skip
        refine x_iconst (dT U_X10_twin 39 rfl) ?_
        refine x_ireturn (dT U_X10_twin 40 rfl) rfl ?_
        have q : c = 251 := by omega
        subst q
        exact kk
      · exfalso; omega
    | succ n ih =>
      intro c hi kk
      refine x_iload (dT U_X10_twin 10 rfl) rfl ?_
      refine x_sipush (dT U_X10_twin 11 rfl) (by decide) ?_
      refine x_icmp_ge (tgt := 81) (dT U_X10_twin 12 rfl) (by decide) (by unfold xr at *; omega) (by unfold xr at *; omega) (fun c22 => ?_) (fun c22 => ?_)
      · exfalso; omega
      · skip
        refine x_iconst (dT U_X10_twin 13 rfl) ?_
        refine x_istore (ls' := [some (.ref _), some (vi _), some (vi _), some (vi _), some (vi _), some (vi _)]) (dT U_X10_twin 14 rfl) (by decide) rfl ?_
        refine S_X10_twin1 (by omega) q_a q_b kk (fun kk => ?_)
        refine x_iinc (ls' := [some (.ref _), some (vi _), some (vi _), some (vi _), some (vi _), some (vi _)]) (dT U_X10_twin 37 rfl) (by decide) rfl rfl ?_
        refine x_goto (tgt := 17) (dT U_X10_twin 38 rfl) (by decide) ?_
        refine x_drop ?_ (ih (c + 1) (by omega) kk)
        repeat (first | exact trivial | refine ⟨rfl, ?_⟩ | refine ⟨trivial, ?_⟩)
  exact L 251 0 (by omega) (k (by omega))

set_option maxRecDepth 20000 in
set_option maxHeartbeats 1000000 in
theorem S_X10_root {G : xG} {d rc rs : Nat} {ex : Bool} {h : xH} {Q : xQ} {σ : St} {row : Int} (w : CW σ h) (v : INV σ) (h_row : xr row) (e1 : ¬ (inb row 8) → Q (.inr IOE) false h) (k : (inb row 8) → ∀ h2, FC h h2 → CW σ h2 → Q (.inl (some (vi (gs (gf (σ.rw row.toNat)) 1)))) ex h2) : X G m_X10_root (d + 7) (rc + 1) (rs + 6) ex 0 (xe m_X10_root.2.2.1 [.ref 3, vi row]) [] h Q := by
  show X G m_X10_root _ _ _ _ 0 [some (.ref 3), some (vi row)] [] h Q
  have hp := PRb v.p
  have hq := gq_b v.p
  obtain ⟨s57l, hs57, ls57⟩ := w.s57
  refine x_aload_n (dT U_X10_root 0 rfl) rfl ?_
  refine x_getfield F_X10_79 (dT U_X10_root 1 rfl) w.c3 (Nat.le_of_ble_eq_true rfl) rfl ?_
  refine x_aload_n (dT U_X10_root 2 rfl) rfl ?_
  refine x_iload_n (dT U_X10_root 3 rfl) rfl ?_
  refine x_invokevirtual (rc' := rc) (rs' := rs) (rc2 := 1) (rs2 := 6) (As := [_]) (st := _) M_X10_rowAt K_X10_139 (dT U_X10_root 4 rfl) rfl rfl (by decide) rfl rfl w.c3 (Nat.le_of_ble_eq_true rfl) (by decide) rfl (Nat.le_of_ble_eq_true rfl) rfl (by decide) (Nat.le_of_ble_eq_true rfl) rfl rfl ?_
  refine S_X10_rowAt w v h_row (fun q => xRet_thr (e1 (by omega))) (fun i hi ezi => ?_)
  subst ezi
  have li := v.rw i hi
  refine xRet_some ?_
  refine x_invokevirtual (rc' := rc) (rs' := rs) (rc2 := 0) (rs2 := 0) (As := [_]) (st := _) M_X8_grow K_X10_248 (dT U_X10_root 5 rfl) rfl rfl (by decide) rfl rfl w.c56 (Nat.le_of_ble_eq_true rfl) (by decide) rfl (Nat.le_of_ble_eq_true rfl) rfl (by decide) (Nat.le_of_ble_eq_true rfl) rfl rfl ?_
  refine S_X8_grow (p := (σ.p : Int)) w.c56 (by omega) hs57 ls57 (w.rows i hi) (by omega) (by omega) li (by omega) (fun l hl vl => ?_)
  refine xRet_none ?_
  refine x_aload_n (dT U_X10_root 6 rfl) rfl ?_
  refine x_getfield F_X10_79 (dT U_X10_root 7 rfl) (hset_ne (by omega) w.c3) (Nat.le_of_ble_eq_true rfl) rfl ?_
  refine x_invokevirtual (rc' := rc) (rs' := rs) (rc2 := 0) (rs2 := 0) (As := []) (st := _) M_X8_top K_X10_251 (dT U_X10_root 8 rfl) rfl rfl (by decide) rfl rfl (hset_ne (by omega) w.c56) (Nat.le_of_ble_eq_true rfl) (by decide) rfl (Nat.le_of_ble_eq_true rfl) rfl (by decide) (Nat.le_of_ble_eq_true rfl) rfl rfl ?_
  refine S_X8_top (hset_ne (by omega) w.c56) (by omega) (hset_eq hs57) hl vl ?_
  refine xRet_some ?_
  refine x_ireturn (dT U_X10_root 9 rfl) rfl ?_
  exact k (by omega) _ ((Ag.rf 3 69 h).set (by omega)) (w.t57 ((Ag.rf 57 57 h).set (by omega)) (hset_eq hs57) hl)

set_option maxRecDepth 20000 in
set_option maxHeartbeats 1000000 in
theorem S_X10_beside {G : xG} {d rc rs : Nat} {ex : Bool} {h : xH} {Q : xQ} {σ : St} {row place step : Int} (w : CW σ h) (v : INV σ) (h_row : xr row) (h_place : xr place) (h_step : xr step) (e1 : ¬ (inb row 8 ∧ inb place 8 ∧ inb step 3) → Q (.inr IOE) false h) (k : (inb row 8 ∧ inb place 8 ∧ inb step 3) → ∀ h2, FC h h2 → CW σ h2 → Q (.inl (some (vi (gs (gf (σ.rw row.toNat)) (bsd place.toNat step.toNat))))) ex h2) : X G m_X10_beside (d + 7) (rc + 3) (rs + 18) ex 0 (xe m_X10_beside.2.2.1 [.ref 3, vi row, vi place, vi step]) [] h Q := by
  show X G m_X10_beside _ _ _ _ 0 [some (.ref 3), some (vi row), some (vi place), some (vi step), none] [] h Q
  have hp := PRb v.p
  have hq := gq_b v.p
  obtain ⟨s57l, hs57, ls57⟩ := w.s57
  refine x_aload_n (dT U_X10_beside 0 rfl) rfl ?_
  refine x_iload_n (dT U_X10_beside 1 rfl) rfl ?_
  refine x_invokevirtual (rc' := rc + 2) (rs' := rs + 12) (rc2 := 1) (rs2 := 6) (As := [_]) (st := _) M_X10_rowAt K_X10_139 (dT U_X10_beside 2 rfl) rfl rfl (by decide) rfl rfl w.c3 (Nat.le_of_ble_eq_true rfl) (by decide) rfl (Nat.le_of_ble_eq_true rfl) rfl (by decide) (Nat.le_of_ble_eq_true rfl) rfl rfl ?_
  refine S_X10_rowAt w v h_row (fun q => xRet_thr (e1 (by omega))) (fun i hi ezi => ?_)
  subst ezi
  have li := v.rw i hi
  refine xRet_some ?_
  refine x_astore (ls' := [some (.ref _), some (vi _), some (vi _), some (vi _), some (.ref _)]) (dT U_X10_beside 3 rfl) (by decide) rfl ?_
  refine x_iload_n (dT U_X10_beside 4 rfl) rfl ?_
  refine x_invokestatic (rc' := rc + 1) (rs' := rs + 6) (rc2 := 1) (rs2 := 6) (As := [_]) (st := _) M_X10_needPlace K_X10_143 (dT U_X10_beside 5 rfl) rfl rfl rfl rfl (Nat.le_of_ble_eq_true rfl) rfl (by decide) (Nat.le_of_ble_eq_true rfl) rfl rfl ?_
  refine S_X10_needPlace v h_place (fun q => xRet_thr (e1 (by omega))) (fun j hj ezj => ?_)
  subst ezj
  refine xRet_none ?_
  refine x_iload_n (dT U_X10_beside 6 rfl) rfl ?_
  refine x_if_lt (tgt := 20) (dT U_X10_beside 7 rfl) (by decide) h_step (fun c12 => ?_) (fun c12 => ?_)
  · skip
    refine x_throwW T_IO rfl (is := 257) (text := "there is no such step") (by decide) rfl (by omega) (Nat.le_of_ble_eq_true rfl) (by omega) (by omega) (dT U_X10_beside 11 rfl) (dT U_X10_beside 12 rfl) (dT U_X10_beside 13 rfl) (dT U_X10_beside 14 rfl) (dT U_X10_beside 15 rfl) ?_
    exact e1 (by omega)
  · skip
    refine x_iload_n (dT U_X10_beside 8 rfl) rfl ?_
    refine x_iconst (dT U_X10_beside 9 rfl) ?_
    refine x_icmp_lt (tgt := 31) (dT U_X10_beside 10 rfl) (by decide) h_step (by unfold xr; omega) (fun c17 => ?_) (fun c17 => ?_)
    · skip
      obtain ⟨s, rfl⟩ : ∃ s : Nat, step = (s : Int) := ⟨step.toNat, by omega⟩
      refine x_aload_n (dT U_X10_beside 16 rfl) rfl ?_
      refine x_getfield F_X10_79 (dT U_X10_beside 17 rfl) w.c3 (Nat.le_of_ble_eq_true rfl) rfl ?_
      refine x_aload (dT U_X10_beside 18 rfl) rfl ?_
      refine x_invokevirtual (rc' := rc + 1) (rs' := rs + 6) (rc2 := 0) (rs2 := 0) (As := [_]) (st := _) M_X8_grow K_X10_248 (dT U_X10_beside 19 rfl) rfl rfl (by decide) rfl rfl w.c56 (Nat.le_of_ble_eq_true rfl) (by decide) rfl (Nat.le_of_ble_eq_true rfl) rfl (by decide) (Nat.le_of_ble_eq_true rfl) rfl rfl ?_
      refine S_X8_grow (p := (σ.p : Int)) w.c56 (by omega) hs57 ls57 (w.rows i hi) (by omega) (by omega) li (by omega) (fun l hl vl => ?_)
      refine xRet_none ?_
      refine x_aload_n (dT U_X10_beside 20 rfl) rfl ?_
      refine x_getfield F_X10_79 (dT U_X10_beside 21 rfl) (hset_ne (by omega) w.c3) (Nat.le_of_ble_eq_true rfl) rfl ?_
      refine x_iload_n (dT U_X10_beside 22 rfl) rfl ?_
      refine x_iload_n (dT U_X10_beside 23 rfl) rfl ?_
      refine x_invokevirtual (rc' := rc + 1) (rs' := rs + 6) (rc2 := 0) (rs2 := 0) (As := [_, _]) (st := _) M_X8_nextTo K_X10_260 (dT U_X10_beside 24 rfl) rfl rfl (by decide) rfl rfl (hset_ne (by omega) w.c56) (Nat.le_of_ble_eq_true rfl) (by decide) rfl (Nat.le_of_ble_eq_true rfl) rfl (by decide) (Nat.le_of_ble_eq_true rfl) rfl rfl ?_
      refine S_X8_nextTo (hset_ne (by omega) w.c56) (by omega) (hset_eq hs57) hl vl hj (by omega) ?_
      refine xRet_some ?_
      refine x_ireturn (dT U_X10_beside 25 rfl) rfl ?_
      exact k (by omega) _ ((Ag.rf 3 69 h).set (by omega)) (w.t57 ((Ag.rf 57 57 h).set (by omega)) (hset_eq hs57) hl)
    · skip
      refine x_throwW T_IO rfl (is := 257) (text := "there is no such step") (by decide) rfl (by omega) (Nat.le_of_ble_eq_true rfl) (by omega) (by omega) (dT U_X10_beside 11 rfl) (dT U_X10_beside 12 rfl) (dT U_X10_beside 13 rfl) (dT U_X10_beside 14 rfl) (dT U_X10_beside 15 rfl) ?_
      exact e1 (by omega)

set_option maxRecDepth 20000 in
set_option maxHeartbeats 1000000 in
theorem S_X10_climb {G : xG} {d rc rs : Nat} {ex : Bool} {h : xH} {Q : xQ} {σ : St} {place value a b c : Int} (w : CW σ h) (v : INV σ) (h_place : xr place) (h_value : xr value) (h_a : xr a) (h_b : xr b) (h_c : xr c) (e1 : ¬ (inb place 8) → Q (.inr IOE) false h) (e2 : (inb place 8) → ¬ ((inb value σ.p ∧ inb a 251 ∧ inb b 251 ∧ inb c 251)) → Q (.inr IAE) false h) (k : (inb place 8) → ((inb value σ.p ∧ inb a 251 ∧ inb b 251 ∧ inb c 251)) → ∀ h2, FC h h2 → CW σ h2 → Q (.inl (some (vi (ws place.toNat value a b c 3)))) ex h2) : X G m_X10_climb (d + 8) (rc + 5) (rs + 30) ex 0 (xe m_X10_climb.2.2.1 [.ref 3, vi place, vi value, vi a, vi b, vi c]) [] h Q := by
  show X G m_X10_climb _ _ _ _ 0 [some (.ref 3), some (vi place), some (vi value), some (vi a), some (vi b), some (vi c)] [] h Q
  have hp := PRb v.p
  have hq := gq_b v.p
  obtain ⟨s61l, hs61, ls61⟩ := w.s61
  obtain ⟨s62l, hs62, ls62⟩ := w.s62
  obtain ⟨s63l, hs63, ls63⟩ := w.s63
  refine x_iload_n (dT U_X10_climb 0 rfl) rfl ?_
  refine x_invokestatic (rc' := rc + 4) (rs' := rs + 24) (rc2 := 1) (rs2 := 6) (As := [_]) (st := _) M_X10_needPlace K_X10_143 (dT U_X10_climb 1 rfl) rfl rfl rfl rfl (Nat.le_of_ble_eq_true rfl) rfl (by decide) (Nat.le_of_ble_eq_true rfl) rfl rfl ?_
  refine S_X10_needPlace v h_place (fun q => xRet_thr (e1 (by omega))) (fun i hi ezi => ?_)
  subst ezi
  refine xRet_none ?_
  refine x_aload_n (dT U_X10_climb 2 rfl) rfl ?_
  refine x_iload_n (dT U_X10_climb 3 rfl) rfl ?_
  refine x_iload_n (dT U_X10_climb 4 rfl) rfl ?_
  refine x_iload (dT U_X10_climb 5 rfl) rfl ?_
  refine x_iload (dT U_X10_climb 6 rfl) rfl ?_
  refine x_invokevirtual (rc' := rc) (rs' := rs) (rc2 := 4) (rs2 := 24) (As := [_, _, _, _]) (st := _) M_X10_needWay K_X10_263 (dT U_X10_climb 7 rfl) rfl rfl (by decide) rfl rfl w.c3 (Nat.le_of_ble_eq_true rfl) (by decide) rfl (Nat.le_of_ble_eq_true rfl) rfl (by decide) (Nat.le_of_ble_eq_true rfl) rfl rfl ?_
  refine S_X10_needWay w v h_value h_a h_b h_c (fun q => xRet_thr (e2 (by omega) (by omega))) (fun y1 y2 y3 y4 => ?_)
  refine xRet_none ?_
  refine x_aload_n (dT U_X10_climb 8 rfl) rfl ?_
  refine x_getfield F_X10_89 (dT U_X10_climb 9 rfl) w.c3 (Nat.le_of_ble_eq_true rfl) rfl ?_
  refine x_iload_n (dT U_X10_climb 10 rfl) rfl ?_
  refine x_iload_n (dT U_X10_climb 11 rfl) rfl ?_
  refine x_iload_n (dT U_X10_climb 12 rfl) rfl ?_
  refine x_iload (dT U_X10_climb 13 rfl) rfl ?_
  refine x_iload (dT U_X10_climb 14 rfl) rfl ?_
  refine x_invokevirtual (rc' := rc) (rs' := rs) (rc2 := 0) (rs2 := 0) (As := [_, _, _, _, _]) (st := _) M_X9_walk K_X10_267 (dT U_X10_climb 15 rfl) rfl rfl (by decide) rfl rfl w.c60 (Nat.le_of_ble_eq_true rfl) (by decide) rfl (Nat.le_of_ble_eq_true rfl) rfl (by decide) (Nat.le_of_ble_eq_true rfl) rfl rfl ?_
  refine S_X9_walk (wa := 60) w.c60 (by omega) hs61 hs62 hs63 ls61 ls62 ls63 hi (by omega) y2 y3 y4 ?_
  refine xRet_none ?_
  refine x_aload_n (dT U_X10_climb 16 rfl) rfl ?_
  refine x_getfield F_X10_89 (dT U_X10_climb 17 rfl) (hset_ne (by omega) (hset_ne (by omega) (hset_ne (by omega) (w.c3)))) (Nat.le_of_ble_eq_true rfl) rfl ?_
  refine x_invokevirtual (rc' := rc) (rs' := rs) (rc2 := 0) (rs2 := 0) (As := []) (st := _) M_X9_top K_X10_271 (dT U_X10_climb 18 rfl) rfl rfl (by decide) rfl rfl (hset_ne (by omega) (hset_ne (by omega) (hset_ne (by omega) (w.c60)))) (Nat.le_of_ble_eq_true rfl) (by decide) rfl (Nat.le_of_ble_eq_true rfl) rfl (by decide) (Nat.le_of_ble_eq_true rfl) rfl rfl ?_
  refine S_X9_top (hset_ne (by omega) (hset_ne (by omega) (hset_ne (by omega) (w.c60)))) (by omega) (hset_eq (hset_ne (by omega) (hset_ne (by omega) hs63))) (tab_len _ _) ?_
  rw [tab_get _ (by omega)]
  refine xRet_some ?_
  refine x_ireturn (dT U_X10_climb 19 rfl) rfl ?_
  exact k (by omega) (by omega) _ ((((Ag.rf 3 69 h).set (by omega)).set (by omega)).set (by omega)) (w.way60 ((((Ag.rf 61 63 h).set (by omega)).set (by omega)).set (by omega)) (hset_ne (by omega) (hset_ne (by omega) (hset_eq hs61))) (tab_len _ _) (hset_ne (by omega) (hset_eq (hset_ne (by omega) hs62))) (tab_len _ _) (hset_eq (hset_ne (by omega) (hset_ne (by omega) hs63))) (tab_len _ _))

theorem tabx_r {f : Nat → Int} {m : Nat} (hf : ∀ j, 0 ≤ f j ∧ f j < 251) (j : Nat) : xr ((tab f m).getD j 0) := by
  by_cases h : j < m
  · rw [tab_get f h]; have := hf j; unfold xr; omega
  · rw [List.getD_eq_getElem?_getD, List.getElem?_eq_none (by rw [tab_len]; omega)]; exact xr_0
theorem ff_congr {P R : Nat → Prop} [DecidablePred P] [DecidablePred R] : ∀ (n i : Nat), (∀ j, i ≤ j → j < i + n → (P j ↔ R j)) → ff P i n = ff R i n
  | 0, _, _ => rfl
  | n + 1, i, h => by
    have h1 := h i (by omega) (by omega)
    by_cases c : P i
    · rw [ff_y c, ff_y (h1.mp c)]
    · rw [ff_n c, ff_n (fun z => c (h1.mpr z))]
      exact ff_congr n (i + 1) (fun j a b => h j (by omega) (by omega))

set_option maxRecDepth 20000 in
set_option maxHeartbeats 1000000 in
theorem S_X10_parts {G : xG} {d rc rs : Nat} {ex : Bool} {h : xH} {Q : xQ} {σ : St} {place value a b c value2 a2 b2 c2 : Int} (w : CW σ h) (v : INV σ) (h_place : xr place) (h_value : xr value) (h_a : xr a) (h_b : xr b) (h_c : xr c) (h_value2 : xr value2) (h_a2 : xr a2) (h_b2 : xr b2) (h_c2 : xr c2) (e1 : ¬ (inb place 8) → Q (.inr IOE) false h) (e2 : (inb place 8) → ¬ ((inb value σ.p ∧ inb a 251 ∧ inb b 251 ∧ inb c 251) ∧ (inb value2 σ.p ∧ inb a2 251 ∧ inb b2 251 ∧ inb c2 251)) → Q (.inr IAE) false h) (k : (inb place 8) → ((inb value σ.p ∧ inb a 251 ∧ inb b 251 ∧ inb c 251) ∧ (inb value2 σ.p ∧ inb a2 251 ∧ inb b2 251 ∧ inb c2 251)) → ∀ h2, FC h h2 → CW σ h2 → Q (.inl (some (vi (if ws place.toNat value a b c 3 = ws place.toNat value2 a2 b2 c2 3 then ff (fun j => ws place.toNat value a b c j = ws place.toNat value2 a2 b2 c2 j ∧ ¬ ((wq place.toNat value a b c j).1 = (wq place.toNat value2 a2 b2 c2 j).1 ∧ (wq place.toNat value a b c j).2 = (wq place.toNat value2 a2 b2 c2 j).2)) 0 4 else -1)))) ex h2) : X G m_X10_parts (d + 8) (rc + 9) (rs + 54) ex 0 (xe m_X10_parts.2.2.1 [.ref 3, vi place, vi value, vi a, vi b, vi c, vi value2, vi a2, vi b2, vi c2]) [] h Q := by
  show X G m_X10_parts _ _ _ _ 0 [some (.ref 3), some (vi place), some (vi value), some (vi a), some (vi b), some (vi c), some (vi value2), some (vi a2), some (vi b2), some (vi c2)] [] h Q
  have hp := PRb v.p
  have hq := gq_b v.p
  obtain ⟨s61l, hs61, ls61⟩ := w.s61
  obtain ⟨s62l, hs62, ls62⟩ := w.s62
  obtain ⟨s63l, hs63, ls63⟩ := w.s63
  obtain ⟨s65l, hs65, ls65⟩ := w.s65
  obtain ⟨s66l, hs66, ls66⟩ := w.s66
  obtain ⟨s67l, hs67, ls67⟩ := w.s67
  refine x_iload_n (dT U_X10_parts 0 rfl) rfl ?_
  refine x_invokestatic (rc' := rc + 8) (rs' := rs + 48) (rc2 := 1) (rs2 := 6) (As := [_]) (st := _) M_X10_needPlace K_X10_143 (dT U_X10_parts 1 rfl) rfl rfl rfl rfl (Nat.le_of_ble_eq_true rfl) rfl (by decide) (Nat.le_of_ble_eq_true rfl) rfl rfl ?_
  refine S_X10_needPlace v h_place (fun q => xRet_thr (e1 (by omega))) (fun i hi ezi => ?_)
  subst ezi
  refine xRet_none ?_
  refine x_aload_n (dT U_X10_parts 2 rfl) rfl ?_
  refine x_iload_n (dT U_X10_parts 3 rfl) rfl ?_
  refine x_iload_n (dT U_X10_parts 4 rfl) rfl ?_
  refine x_iload (dT U_X10_parts 5 rfl) rfl ?_
  refine x_iload (dT U_X10_parts 6 rfl) rfl ?_
  refine x_invokevirtual (rc' := rc + 4) (rs' := rs + 24) (rc2 := 4) (rs2 := 24) (As := [_, _, _, _]) (st := _) M_X10_needWay K_X10_263 (dT U_X10_parts 7 rfl) rfl rfl (by decide) rfl rfl w.c3 (Nat.le_of_ble_eq_true rfl) (by decide) rfl (Nat.le_of_ble_eq_true rfl) rfl (by decide) (Nat.le_of_ble_eq_true rfl) rfl rfl ?_
  refine S_X10_needWay w v h_value h_a h_b h_c (fun q => xRet_thr (e2 (by omega) (by omega))) (fun y1 y2 y3 y4 => ?_)
  refine xRet_none ?_
  refine x_aload_n (dT U_X10_parts 8 rfl) rfl ?_
  refine x_iload (dT U_X10_parts 9 rfl) rfl ?_
  refine x_iload (dT U_X10_parts 10 rfl) rfl ?_
  refine x_iload (dT U_X10_parts 11 rfl) rfl ?_
  refine x_iload (dT U_X10_parts 12 rfl) rfl ?_
  refine x_invokevirtual (rc' := rc) (rs' := rs) (rc2 := 4) (rs2 := 24) (As := [_, _, _, _]) (st := _) M_X10_needWay K_X10_263 (dT U_X10_parts 13 rfl) rfl rfl (by decide) rfl rfl w.c3 (Nat.le_of_ble_eq_true rfl) (by decide) rfl (Nat.le_of_ble_eq_true rfl) rfl (by decide) (Nat.le_of_ble_eq_true rfl) rfl rfl ?_
  refine S_X10_needWay w v h_value2 h_a2 h_b2 h_c2 (fun q => xRet_thr (e2 (by omega) (by omega))) (fun y5 y6 y7 y8 => ?_)
  refine xRet_none ?_
  refine x_aload_n (dT U_X10_parts 14 rfl) rfl ?_
  refine x_getfield F_X10_89 (dT U_X10_parts 15 rfl) w.c3 (Nat.le_of_ble_eq_true rfl) rfl ?_
  refine x_iload_n (dT U_X10_parts 16 rfl) rfl ?_
  refine x_iload_n (dT U_X10_parts 17 rfl) rfl ?_
  refine x_iload_n (dT U_X10_parts 18 rfl) rfl ?_
  refine x_iload (dT U_X10_parts 19 rfl) rfl ?_
  refine x_iload (dT U_X10_parts 20 rfl) rfl ?_
  refine x_invokevirtual (rc' := rc) (rs' := rs) (rc2 := 0) (rs2 := 0) (As := [_, _, _, _, _]) (st := _) M_X9_walk K_X10_267 (dT U_X10_parts 21 rfl) rfl rfl (by decide) rfl rfl w.c60 (Nat.le_of_ble_eq_true rfl) (by decide) rfl (Nat.le_of_ble_eq_true rfl) rfl (by decide) (Nat.le_of_ble_eq_true rfl) rfl rfl ?_
  refine S_X9_walk (wa := 60) w.c60 (by omega) hs61 hs62 hs63 ls61 ls62 ls63 hi (by omega) y2 y3 y4 ?_
  refine xRet_none ?_
  refine x_aload_n (dT U_X10_parts 22 rfl) rfl ?_
  refine x_getfield F_X10_93 (dT U_X10_parts 23 rfl) (hset_ne (by omega) (hset_ne (by omega) (hset_ne (by omega) (w.c3)))) (Nat.le_of_ble_eq_true rfl) rfl ?_
  refine x_iload_n (dT U_X10_parts 24 rfl) rfl ?_
  refine x_iload (dT U_X10_parts 25 rfl) rfl ?_
  refine x_iload (dT U_X10_parts 26 rfl) rfl ?_
  refine x_iload (dT U_X10_parts 27 rfl) rfl ?_
  refine x_iload (dT U_X10_parts 28 rfl) rfl ?_
  refine x_invokevirtual (rc' := rc) (rs' := rs) (rc2 := 0) (rs2 := 0) (As := [_, _, _, _, _]) (st := _) M_X9_walk K_X10_267 (dT U_X10_parts 29 rfl) rfl rfl (by decide) rfl rfl (hset_ne (by omega) (hset_ne (by omega) (hset_ne (by omega) (w.c64)))) (Nat.le_of_ble_eq_true rfl) (by decide) rfl (Nat.le_of_ble_eq_true rfl) rfl (by decide) (Nat.le_of_ble_eq_true rfl) rfl rfl ?_
  refine S_X9_walk (wa := 64) (hset_ne (by omega) (hset_ne (by omega) (hset_ne (by omega) (w.c64)))) (by omega) (hset_ne (by omega) (hset_ne (by omega) (hset_ne (by omega) (hs65)))) (hset_ne (by omega) (hset_ne (by omega) (hset_ne (by omega) (hs66)))) (hset_ne (by omega) (hset_ne (by omega) (hset_ne (by omega) (hs67)))) ls65 ls66 ls67 hi (by omega) y6 y7 y8 ?_
  refine xRet_none ?_
  refine x_aload_n (dT U_X10_parts 30 rfl) rfl ?_
  refine x_getfield F_X10_89 (dT U_X10_parts 31 rfl) (hset_ne (by omega) (hset_ne (by omega) (hset_ne (by omega) (hset_ne (by omega) (hset_ne (by omega) (hset_ne (by omega) (w.c3))))))) (Nat.le_of_ble_eq_true rfl) rfl ?_
  refine x_aload_n (dT U_X10_parts 32 rfl) rfl ?_
  refine x_getfield F_X10_93 (dT U_X10_parts 33 rfl) (hset_ne (by omega) (hset_ne (by omega) (hset_ne (by omega) (hset_ne (by omega) (hset_ne (by omega) (hset_ne (by omega) (w.c3))))))) (Nat.le_of_ble_eq_true rfl) rfl ?_
  refine x_invokevirtual (rc' := rc) (rs' := rs) (rc2 := 0) (rs2 := 0) (As := [_]) (st := _) M_X9_breakAgainst K_X10_272 (dT U_X10_parts 34 rfl) rfl rfl (by decide) rfl rfl (hset_ne (by omega) (hset_ne (by omega) (hset_ne (by omega) (hset_ne (by omega) (hset_ne (by omega) (hset_ne (by omega) (w.c60))))))) (Nat.le_of_ble_eq_true rfl) (by decide) rfl (Nat.le_of_ble_eq_true rfl) rfl (by decide) (Nat.le_of_ble_eq_true rfl) rfl rfl ?_
  have g1 := wq_b (i := i) (v := value) (a := a) (b := b) (c := c) hi (by omega) y2 y3 y4
  have g2 := wq_b (i := i) (v := value2) (a := a2) (b := b2) (c := c2) hi (by omega) y6 y7 y8
  refine S_X9_breakAgainst (xl := tab (fun j => (wq i value a b c j).1) 4) (yl := tab (fun j => (wq i value a b c j).2) 4) (zl := tab (ws i value a b c) 4) (xl2 := tab (fun j => (wq i value2 a2 b2 c2 j).1) 4) (yl2 := tab (fun j => (wq i value2 a2 b2 c2 j).2) 4) (zl2 := tab (ws i value2 a2 b2 c2) 4) (hset_ne (by omega) (hset_ne (by omega) (hset_ne (by omega) (hset_ne (by omega) (hset_ne (by omega) (hset_ne (by omega) (w.c60))))))) (by omega) (hset_ne (by omega) (hset_ne (by omega) (hset_ne (by omega) ((hset_ne (by omega) (hset_ne (by omega) (hset_eq hs61))))))) (hset_ne (by omega) (hset_ne (by omega) (hset_ne (by omega) ((hset_ne (by omega) (hset_eq (hset_ne (by omega) hs62))))))) (hset_ne (by omega) (hset_ne (by omega) (hset_ne (by omega) (hset_eq (hset_ne (by omega) (hset_ne (by omega) hs63)))))) (tab_len _ _) (tab_len _ _) (tab_len _ _) (hset_ne (by omega) (hset_ne (by omega) (hset_ne (by omega) (hset_ne (by omega) (hset_ne (by omega) (hset_ne (by omega) (w.c64))))))) (by omega) (hset_ne (by omega) (hset_ne (by omega) (hset_eq (hset_ne (by omega) (hset_ne (by omega) (hset_ne (by omega) (hs65))))))) (hset_ne (by omega) (hset_eq (hset_ne (by omega) ((hset_ne (by omega) (hset_ne (by omega) (hset_ne (by omega) (hs66)))))))) (hset_eq (hset_ne (by omega) (hset_ne (by omega) ((hset_ne (by omega) (hset_ne (by omega) (hset_ne (by omega) (hs67)))))))) (tab_len _ _) (tab_len _ _) (tab_len _ _) (fun j => ⟨tabx_r (fun t => (g1 t).1) j, tabx_r (fun t => (g1 t).2) j, tabx_r (fun t => sl_b _ _) j, tabx_r (fun t => (g2 t).1) j, tabx_r (fun t => (g2 t).2) j, tabx_r (fun t => sl_b _ _) j⟩) ?_
  rw [tab_get _ (by omega), tab_get _ (by omega), ff_congr (R := (fun j => ws i value a b c j = ws i value2 a2 b2 c2 j ∧ ¬ ((wq i value a b c j).1 = (wq i value2 a2 b2 c2 j).1 ∧ (wq i value a b c j).2 = (wq i value2 a2 b2 c2 j).2))) 4 0 (fun j a1 a2 => by rw [tab_get _ (by omega), tab_get _ (by omega), tab_get _ (by omega), tab_get _ (by omega), tab_get _ (by omega), tab_get _ (by omega)])]
  refine xRet_some ?_
  refine x_ireturn (dT U_X10_parts 35 rfl) rfl ?_
  exact k (by omega) (by omega) _ (((((((Ag.rf 3 69 h).set (by omega)).set (by omega)).set (by omega)).set (by omega)).set (by omega)).set (by omega)) ((w.way60 ((((Ag.rf 61 63 h).set (by omega)).set (by omega)).set (by omega)) (hset_ne (by omega) (hset_ne (by omega) (hset_eq hs61))) (tab_len _ _) (hset_ne (by omega) (hset_eq (hset_ne (by omega) hs62))) (tab_len _ _) (hset_eq (hset_ne (by omega) (hset_ne (by omega) hs63))) (tab_len _ _)).way64 ((((Ag.rf 65 67 _).set (by omega)).set (by omega)).set (by omega)) (hset_ne (by omega) (hset_ne (by omega) (hset_eq (hset_ne (by omega) (hset_ne (by omega) (hset_ne (by omega) (hs65))))))) (tab_len _ _) (hset_ne (by omega) (hset_eq (hset_ne (by omega) ((hset_ne (by omega) (hset_ne (by omega) (hset_ne (by omega) (hs66)))))))) (tab_len _ _) (hset_eq (hset_ne (by omega) (hset_ne (by omega) ((hset_ne (by omega) (hset_ne (by omega) (hset_ne (by omega) (hs67)))))))) (tab_len _ _))
