set_option maxRecDepth 20000 in
set_option maxHeartbeats 1000000 in
theorem S_X11_isNote {G : xG} {d rc rs : Nat} {ex : Bool} {h : xH} {Q : xQ} {σ : St} {cc0 : Int} {rr : Nat} {ss : Int} {z : Int} (w : MX σ cc0 rr ss h) (v : INV σ) (hz : xr z) (k1 : inb z σ.L.n → Q (.inl (some (vi 1))) ex h) (k0 : ¬ inb z σ.L.n → Q (.inl (some (vi 0))) ex h) : X G m_X11_isNote (d + 1) rc rs ex 0 (xe m_X11_isNote.2.2.1 [.ref 70, vi z]) [] h Q := by
  show X G m_X11_isNote _ _ _ _ 0 [some (.ref 70), some (vi z)] [] h Q
  obtain ⟨l1, l2, l3, l4, l5, l6, l7⟩ := v.L
  refine x_iload_n (dT U_X11_isNote 0 rfl) rfl ?_
  refine x_aload_n (dT U_X11_isNote 1 rfl) rfl ?_
  refine x_getfield F_X11_143 (dT U_X11_isNote 2 rfl) w.c70 (Nat.le_of_ble_eq_true rfl) rfl ?_
  refine x_iconst (dT U_X11_isNote 3 rfl) ?_
  refine x_isub (dT U_X11_isNote 4 rfl) ?_
  refine x_invokestatic (rc' := rc) (rs' := rs) (rc2 := 0) (rs2 := 0) (As := [_, _]) (st := _) M_X11_in K_X11_126 (dT U_X11_isNote 5 rfl) rfl rfl rfl rfl (Nat.le_of_ble_eq_true rfl) rfl (by decide) (Nat.le_of_ble_eq_true rfl) rfl rfl ?_
  refine S_X11_in hz (by unfold xr; omega) (fun q => ?_) (fun q => ?_)
  · refine xRet_some ?_
    refine x_zreturn (dT U_X11_isNote 6 rfl) rfl (by omega) ?_
    first | exact k1 (by omega) | exact k0 (by omega)
  · refine xRet_some ?_
    refine x_zreturn (dT U_X11_isNote 6 rfl) rfl (by omega) ?_
    first | exact k1 (by omega) | exact k0 (by omega)

set_option maxRecDepth 20000 in
set_option maxHeartbeats 1000000 in
theorem S_X11_noted {G : xG} {d rc rs : Nat} {ex : Bool} {h : xH} {Q : xQ} {p : Nat} {a b : Int} (w : MP p h) (hp5 : p ∈ PR) (ha : 0 ≤ a ∧ a < p) (hb : 0 ≤ b ∧ b < p) (k : Q (.inl (some (vi (cm1 p a b)))) ex h) : X G m_X11_noted (d + 1) rc rs ex 0 (xe m_X11_noted.2.2.1 [.ref 70, vi a, vi b]) [] h Q := by
  show X G m_X11_noted _ _ _ _ 0 [some (.ref 70), some (vi a), some (vi b)] [] h Q
  have hp := PRb hp5
  obtain ⟨c_, gc_, gb_, rr_, gcl_, ss_, gz_, go_, nc_, w70⟩ := id w
  refine x_aload_n (dT U_X11_noted 0 rfl) rfl ?_
  refine x_iload_n (dT U_X11_noted 1 rfl) rfl ?_
  refine x_i2l (dT U_X11_noted 2 rfl) (by unfold xr; omega) ?_
  refine x_aload_n (dT U_X11_noted 3 rfl) rfl ?_
  refine x_iconst (dT U_X11_noted 4 rfl) ?_
  refine x_invokevirtual (rc' := rc) (rs' := rs) (rc2 := 0) (rs2 := 0) (As := [_]) (st := _) M_X11_of K_X11_160 (dT U_X11_noted 5 rfl) rfl rfl (by decide) rfl rfl w70 (Nat.le_of_ble_eq_true rfl) (by decide) rfl (Nat.le_of_ble_eq_true rfl) rfl (by decide) (Nat.le_of_ble_eq_true rfl) rfl rfl ?_
  have b0 := bs_b hp5 (i := 0) (by omega)
  refine S_X11_of (i := 0) w hp5 (by omega) ?_
  refine xRet_some ?_
  refine x_i2l (dT U_X11_noted 6 rfl) (by unfold xr; omega) ?_
  refine x_lmul (dT U_X11_noted 7 rfl) ?_
  refine x_iload_n (dT U_X11_noted 8 rfl) rfl ?_
  refine x_i2l (dT U_X11_noted 9 rfl) (by unfold xr; omega) ?_
  refine x_aload_n (dT U_X11_noted 10 rfl) rfl ?_
  refine x_bipush (dT U_X11_noted 11 rfl) (by decide) ?_
  refine x_invokevirtual (rc' := rc) (rs' := rs) (rc2 := 0) (rs2 := 0) (As := [_]) (st := _) M_X11_of K_X11_160 (dT U_X11_noted 12 rfl) rfl rfl (by decide) rfl rfl w70 (Nat.le_of_ble_eq_true rfl) (by decide) rfl (Nat.le_of_ble_eq_true rfl) rfl (by decide) (Nat.le_of_ble_eq_true rfl) rfl rfl ?_
  have b8 := bs_b hp5 (i := 8) (by omega)
  refine S_X11_of (i := 8) w hp5 (by omega) ?_
  refine xRet_some ?_
  refine x_i2l (dT U_X11_noted 13 rfl) (by unfold xr; omega) ?_
  refine x_lmul (dT U_X11_noted 14 rfl) ?_
  refine x_ladd (dT U_X11_noted 15 rfl) ?_
  refine x_invokevirtual (rc' := rc) (rs' := rs) (rc2 := 0) (rs2 := 0) (As := [_]) (st := _) M_X11_f K_X11_156 (dT U_X11_noted 16 rfl) rfl rfl (by decide) rfl rfl w70 (Nat.le_of_ble_eq_true rfl) (by decide) rfl (Nat.le_of_ble_eq_true rfl) rfl (by decide) (Nat.le_of_ble_eq_true rfl) rfl rfl ?_
  have m1 := mulg (a := a) (b := (bs p 0 : Int)) (m := 23) (n := 23) (by omega) (by omega)
  have m2 := mulg (a := b) (b := (bs p 8 : Int)) (m := 23) (n := 23) (by omega) (by omega)
  refine S_X11_f w hp5 (by unfold xrl; omega) ?_
  rw [show (a * (bs p 0 : Int) + b * (bs p 8 : Int)) % (p : Int) = cm1 p a b by unfold cm1; rw [Int.mul_comm a, Int.mul_comm b]]
  refine xRet_some ?_
  refine x_ireturn (dT U_X11_noted 17 rfl) rfl ?_
  exact k

set_option maxRecDepth 20000 in
set_option maxHeartbeats 1000000 in
theorem S_X11_add {G : xG} {d rc rs : Nat} {ex : Bool} {h : xH} {Q : xQ} {c9 : Int} {p gc rr nc : Nat} {gb gcl ss gz go e : Int} {l : List Int} (w70 : h[70]? = some (mC c9 p gc gb rr gcl ss gz go nc)) (h35 : h[135]? = some (cA 0 l)) (hl : l.length = 16) (hn : nc < 16) (k : Q (.inl (some (vi (nc : Int)))) ex ((h.set 135 (cA 0 (l.set nc e))).set 70 (mC c9 p gc gb rr gcl ss gz go (nc + 1)))) : X G m_X11_add d rc rs ex 0 (xe m_X11_add.2.2.1 [.ref 70, vi e]) [] h Q := by
  show X G m_X11_add _ _ _ _ 0 [some (.ref 70), some (vi e)] [] h Q
  refine x_aload_n (dT U_X11_add 0 rfl) rfl ?_
  refine x_getfield F_X11_94 (dT U_X11_add 1 rfl) w70 (Nat.le_of_ble_eq_true rfl) rfl ?_
  refine x_aload_n (dT U_X11_add 2 rfl) rfl ?_
  refine x_getfield F_X11_143 (dT U_X11_add 3 rfl) w70 (Nat.le_of_ble_eq_true rfl) rfl ?_
  refine x_iload_n (dT U_X11_add 4 rfl) rfl ?_
  refine x_iastore (nc) (dT U_X11_add 5 rfl) h35 (Nat.le_of_ble_eq_true rfl) rfl (by omega) (by omega) ?_
  refine x_aload_n (dT U_X11_add 6 rfl) rfl ?_
  refine x_dup (dT U_X11_add 7 rfl) rfl ?_
  refine x_getfield F_X11_143 (dT U_X11_add 8 rfl) (hset_ne (by omega) (w70)) (Nat.le_of_ble_eq_true rfl) rfl ?_
  refine x_iconst (dT U_X11_add 9 rfl) ?_
  refine x_iadd (dT U_X11_add 10 rfl) ?_
  refine x_putfield F_X11_143 (dT U_X11_add 11 rfl) (hset_ne (by omega) (w70)) (Nat.le_of_ble_eq_true rfl) (Nat.le_of_ble_eq_true rfl) rfl rfl ?_
  change X G _ _ _ _ _ _ _ _ (List.set _ 70 (mC c9 p gc gb rr gcl ss gz go (nc + 1))) _
  refine x_aload_n (dT U_X11_add 12 rfl) rfl ?_
  refine x_getfield F_X11_143 (dT U_X11_add 13 rfl) (hset_eq (hset_ne (by omega) (w70))) (Nat.le_of_ble_eq_true rfl) rfl ?_
  refine x_iconst (dT U_X11_add 14 rfl) ?_
  refine x_isub (dT U_X11_add 15 rfl) ?_
  refine x_ireturn (dT U_X11_add 16 rfl) rfl ?_
  rw [show ((nc + 1 : Nat) : Int) - 1 = (nc : Int) by omega]
  exact k

set_option maxRecDepth 20000 in
set_option maxHeartbeats 1000000 in
theorem S_X11_mint {G : xG} {d rc rs : Nat} {ex : Bool} {h : xH} {Q : xQ} {σ : St} {cc0 : Int} {rr : Nat} {ss : Int} {amount blind : Int} (w : MX σ cc0 rr ss h) (v : INV σ) (h_amount : xr amount) (h_blind : xr blind) (e1 : ¬ (inb amount σ.p ∧ inb blind σ.p) → ∀ h2 z, Ag 70 142 h h2 → MX σ 1 rr ss h2 → xr z → Q (.inl (some (vi z))) ex h2) (e2 : (inb amount σ.p ∧ inb blind σ.p) → ¬ (σ.L.n + 1 ≤ 16) → ∀ h2 z, Ag 70 142 h h2 → MX σ 2 rr ss h2 → xr z → Q (.inl (some (vi z))) ex h2) (k : (inb amount σ.p ∧ inb blind σ.p) → (σ.L.n + 1 ≤ 16) → ∀ h2 r2 s2, Ag 70 142 h h2 → MX (σ.sL (σ.L.n + 1, (σ.L.mi + (cm1 σ.p amount blind)) % (σ.p : Int), σ.L.pa, σ.L.nn.set σ.L.n (cm1 σ.p amount blind), σ.L.gl.set σ.L.n (MM σ.p (cm1 σ.p amount blind)))) 0 r2 s2 h2 → Q (.inl (some (vi ((σ.L.n : Int))))) ex h2) : X G m_X11_mint (d + 2) rc rs ex 0 (xe m_X11_mint.2.2.1 [.ref 70, vi amount, vi blind]) [] h Q := by
  show X G m_X11_mint _ _ _ _ 0 [some (.ref 70), some (vi amount), some (vi blind)] [] h Q
  have hp := PRb v.p
  have hq := gq_b v.p
  obtain ⟨l1, l2, l3, l4, l5, l6, l7⟩ := v.L
  refine x_aload_n (dT U_X11_mint 0 rfl) rfl ?_
  refine x_aload_n (dT U_X11_mint 1 rfl) rfl ?_
  refine x_iload_n (dT U_X11_mint 2 rfl) rfl ?_
  refine x_invokevirtual (rc' := rc) (rs' := rs) (rc2 := 0) (rs2 := 0) (As := [_]) (st := _) M_X11_isNumber K_X11_174 (dT U_X11_mint 3 rfl) rfl rfl (by decide) rfl rfl w.c70 (Nat.le_of_ble_eq_true rfl) (by decide) rfl (Nat.le_of_ble_eq_true rfl) rfl (by decide) (Nat.le_of_ble_eq_true rfl) rfl rfl ?_
  refine S_X11_isNumber (w.mp) v.p h_amount (fun q1 => ?_) (fun q1 => ?_)
  · refine xRet_some ?_
    refine x_if_eqn (tgt := 21) (dT U_X11_mint 4 rfl) (by decide) (by decide) ?_
    refine x_aload_n (dT U_X11_mint 5 rfl) rfl ?_
    refine x_iload_n (dT U_X11_mint 6 rfl) rfl ?_
    refine x_invokevirtual (rc' := rc) (rs' := rs) (rc2 := 0) (rs2 := 0) (As := [_]) (st := _) M_X11_isNumber K_X11_174 (dT U_X11_mint 7 rfl) rfl rfl (by decide) rfl rfl w.c70 (Nat.le_of_ble_eq_true rfl) (by decide) rfl (Nat.le_of_ble_eq_true rfl) rfl (by decide) (Nat.le_of_ble_eq_true rfl) rfl rfl ?_
    refine S_X11_isNumber (w.mp) v.p h_blind (fun q2 => ?_) (fun q2 => ?_)
    · refine xRet_some ?_
      refine x_if_eqn (tgt := 21) (dT U_X11_mint 8 rfl) (by decide) (by decide) ?_
      refine x_iconst (dT U_X11_mint 9 rfl) ?_
      refine x_goto (tgt := 22) (dT U_X11_mint 10 rfl) (by decide) ?_
      refine x_iconst (dT U_X11_mint 12 rfl) ?_
      refine x_invokevirtual (rc' := rc) (rs' := rs) (rc2 := 0) (rs2 := 0) (As := [_, _]) (st := _) M_X11_lets K_X11_167 (dT U_X11_mint 13 rfl) rfl rfl (by decide) rfl rfl w.c70 (Nat.le_of_ble_eq_true rfl) (by decide) rfl (Nat.le_of_ble_eq_true rfl) rfl (by decide) (Nat.le_of_ble_eq_true rfl) rfl rfl ?_
      refine S_X11_lets1 w (fun h1 g1 w1 => ?_)
      refine xRet_some ?_
      refine x_if_eqn (tgt := 51) (dT U_X11_mint 14 rfl) (by decide) (by decide) ?_
      refine x_aload_n (dT U_X11_mint 15 rfl) rfl ?_
      refine x_aload_n (dT U_X11_mint 16 rfl) rfl ?_
      refine x_getfield F_X11_143 (dT U_X11_mint 17 rfl) w1.c70 (Nat.le_of_ble_eq_true rfl) rfl ?_
      refine x_bipush (dT U_X11_mint 18 rfl) (by decide) ?_
      refine x_icmp_ge (tgt := 43) (dT U_X11_mint 19 rfl) (by decide) (by unfold xr; omega) (by unfold xr; omega) (fun c36 => ?_) (fun c36 => ?_)
      · skip
        refine x_iconst (dT U_X11_mint 22 rfl) ?_
        refine x_iconst (dT U_X11_mint 23 rfl) ?_
        refine x_invokevirtual (rc' := rc) (rs' := rs) (rc2 := 0) (rs2 := 0) (As := [_, _]) (st := _) M_X11_lets K_X11_167 (dT U_X11_mint 24 rfl) rfl rfl (by decide) rfl rfl w1.c70 (Nat.le_of_ble_eq_true rfl) (by decide) rfl (Nat.le_of_ble_eq_true rfl) rfl (by decide) (Nat.le_of_ble_eq_true rfl) rfl rfl ?_
        refine S_X11_lets0 w1 (fun h2 g2 w2 => ?_)
        refine xRet_some ?_
        refine x_if_nen (tgt := 53) (dT U_X11_mint 25 rfl) (by decide) (by decide) ?_
        refine x_iconst (dT U_X11_mint 26 rfl) ?_
        refine x_ireturn (dT U_X11_mint 27 rfl) rfl ?_
        exact e2 (by omega) (by omega) _ _ (Ag.tr (Ag.tr (Ag.rf 70 142 h) (g1.w (by omega))) (g2.w (by omega))) w2 (by unfold xr; omega)
      · skip
        refine x_iconst (dT U_X11_mint 20 rfl) ?_
        refine x_goto (tgt := 44) (dT U_X11_mint 21 rfl) (by decide) ?_
        refine x_iconst (dT U_X11_mint 23 rfl) ?_
        refine x_invokevirtual (rc' := rc) (rs' := rs) (rc2 := 0) (rs2 := 0) (As := [_, _]) (st := _) M_X11_lets K_X11_167 (dT U_X11_mint 24 rfl) rfl rfl (by decide) rfl rfl w1.c70 (Nat.le_of_ble_eq_true rfl) (by decide) rfl (Nat.le_of_ble_eq_true rfl) rfl (by decide) (Nat.le_of_ble_eq_true rfl) rfl rfl ?_
        refine S_X11_lets1 w1 (fun h2 g2 w2 => ?_)
        refine xRet_some ?_
        refine x_if_nej (tgt := 53) (dT U_X11_mint 25 rfl) (by decide) (by decide) ?_
        refine x_aload_n (dT U_X11_mint 28 rfl) rfl ?_
        refine x_aload_n (dT U_X11_mint 29 rfl) rfl ?_
        refine x_iload_n (dT U_X11_mint 30 rfl) rfl ?_
        refine x_iload_n (dT U_X11_mint 31 rfl) rfl ?_
        refine x_invokevirtual (rc' := rc) (rs' := rs) (rc2 := 0) (rs2 := 0) (As := [_, _]) (st := _) M_X11_noted K_X11_327 (dT U_X11_mint 32 rfl) rfl rfl (by decide) rfl rfl w2.c70 (Nat.le_of_ble_eq_true rfl) (by decide) rfl (Nat.le_of_ble_eq_true rfl) rfl (by decide) (Nat.le_of_ble_eq_true rfl) rfl rfl ?_
        refine S_X11_noted (w2.mp) v.p (by omega) (by omega) ?_
        refine xRet_some ?_
        refine x_invokevirtual (rc' := rc) (rs' := rs) (rc2 := 0) (rs2 := 0) (As := [_]) (st := _) M_X11_add K_X11_330 (dT U_X11_mint 33 rfl) rfl rfl (by decide) rfl rfl w2.c70 (Nat.le_of_ble_eq_true rfl) (by decide) rfl (Nat.le_of_ble_eq_true rfl) rfl (by decide) (Nat.le_of_ble_eq_true rfl) rfl rfl ?_
        refine S_X11_add w2.c70 w2.c135 l2 (by omega) ?_
        refine xRet_some ?_
        refine x_ireturn (dT U_X11_mint 34 rfl) rfl ?_
        exact k (by omega) (by omega) _ _ _ (((Ag.tr (Ag.tr (Ag.rf 70 142 h) (g1.w (by omega))) (g2.w (by omega))).set (by omega)).set (by omega)) (w2.ledg (L := (σ.L.n + 1, (σ.L.mi + (cm1 σ.p amount blind)) % (σ.p : Int), σ.L.pa, σ.L.nn.set σ.L.n (cm1 σ.p amount blind), σ.L.gl.set σ.L.n (MM σ.p (cm1 σ.p amount blind)))) (fun a9 ha => by rw [hset_fr (by omega), hset_fr (by omega)]) (hset_eq (hset_ne (by omega) (w2.c70))) (hset_ne (by omega) (hset_eq w2.c135)))
    · refine xRet_some ?_
      refine x_if_eqj (tgt := 21) (dT U_X11_mint 8 rfl) (by decide) (by decide) ?_
      refine x_iconst (dT U_X11_mint 11 rfl) ?_
      refine x_iconst (dT U_X11_mint 12 rfl) ?_
      refine x_invokevirtual (rc' := rc) (rs' := rs) (rc2 := 0) (rs2 := 0) (As := [_, _]) (st := _) M_X11_lets K_X11_167 (dT U_X11_mint 13 rfl) rfl rfl (by decide) rfl rfl w.c70 (Nat.le_of_ble_eq_true rfl) (by decide) rfl (Nat.le_of_ble_eq_true rfl) rfl (by decide) (Nat.le_of_ble_eq_true rfl) rfl rfl ?_
      refine S_X11_lets0 w (fun h1 g1 w1 => ?_)
      refine xRet_some ?_
      refine x_if_eqj (tgt := 51) (dT U_X11_mint 14 rfl) (by decide) (by decide) ?_
      refine x_iconst (dT U_X11_mint 26 rfl) ?_
      refine x_ireturn (dT U_X11_mint 27 rfl) rfl ?_
      exact e1 (by omega) _ _ (Ag.tr (Ag.rf 70 142 h) (g1.w (by omega))) w1 (by unfold xr; omega)
  · refine xRet_some ?_
    refine x_if_eqj (tgt := 21) (dT U_X11_mint 4 rfl) (by decide) (by decide) ?_
    refine x_iconst (dT U_X11_mint 11 rfl) ?_
    refine x_iconst (dT U_X11_mint 12 rfl) ?_
    refine x_invokevirtual (rc' := rc) (rs' := rs) (rc2 := 0) (rs2 := 0) (As := [_, _]) (st := _) M_X11_lets K_X11_167 (dT U_X11_mint 13 rfl) rfl rfl (by decide) rfl rfl w.c70 (Nat.le_of_ble_eq_true rfl) (by decide) rfl (Nat.le_of_ble_eq_true rfl) rfl (by decide) (Nat.le_of_ble_eq_true rfl) rfl rfl ?_
    refine S_X11_lets0 w (fun h1 g1 w1 => ?_)
    refine xRet_some ?_
    refine x_if_eqj (tgt := 51) (dT U_X11_mint 14 rfl) (by decide) (by decide) ?_
    refine x_iconst (dT U_X11_mint 26 rfl) ?_
    refine x_ireturn (dT U_X11_mint 27 rfl) rfl ?_
    exact e1 (by omega) _ _ (Ag.tr (Ag.rf 70 142 h) (g1.w (by omega))) w1 (by unfold xr; omega)

set_option maxRecDepth 20000 in
set_option maxHeartbeats 1000000 in
theorem S_X11_split {G : xG} {d rc rs : Nat} {ex : Bool} {h : xH} {Q : xQ} {σ : St} {cc0 : Int} {rr : Nat} {ss : Int} {note amount blind : Int} (w : MX σ cc0 rr ss h) (v : INV σ) (h_note : xr note) (h_amount : xr amount) (h_blind : xr blind) (e1 : ¬ (inb note σ.L.n) → ∀ h2 z, Ag 70 142 h h2 → MX σ 1 rr ss h2 → xr z → Q (.inl (some (vi z))) ex h2) (e2 : (inb note σ.L.n) → ¬ (inb amount σ.p ∧ inb blind σ.p) → ∀ h2 z, Ag 70 142 h h2 → MX σ 2 rr ss h2 → xr z → Q (.inl (some (vi z))) ex h2) (e3 : (inb note σ.L.n) → (inb amount σ.p ∧ inb blind σ.p) → ¬ (¬ (σ.L.nn.getD note.toNat 0) = -1 ∧ σ.L.n + 2 ≤ 16) → ∀ h2 z, Ag 70 142 h h2 → MX σ 3 rr ss h2 → xr z → Q (.inl (some (vi z))) ex h2) (k : (inb note σ.L.n) → (inb amount σ.p ∧ inb blind σ.p) → (¬ (σ.L.nn.getD note.toNat 0) = -1 ∧ σ.L.n + 2 ≤ 16) → ∀ h2 r2 s2, Ag 70 142 h h2 → MX (σ.sL (σ.L.n + 2, σ.L.mi, σ.L.pa, ((σ.L.nn.set note.toNat (-1)).set σ.L.n (cm1 σ.p amount blind)).set (σ.L.n + 1) (((σ.L.nn.getD note.toNat 0) - (cm1 σ.p amount blind)) % (σ.p : Int)), ((σ.L.gl.set note.toNat 0).set σ.L.n (MM σ.p (cm1 σ.p amount blind))).set (σ.L.n + 1) (MM σ.p (((σ.L.nn.getD note.toNat 0) - (cm1 σ.p amount blind)) % (σ.p : Int))))) 0 r2 s2 h2 → Q (.inl (some (vi ((σ.L.n : Int))))) ex h2) : X G m_X11_split (d + 2) rc rs ex 0 (xe m_X11_split.2.2.1 [.ref 70, vi note, vi amount, vi blind]) [] h Q := by
  show X G m_X11_split _ _ _ _ 0 [some (.ref 70), some (vi note), some (vi amount), some (vi blind), none, none] [] h Q
  have hp := PRb v.p
  have hq := gq_b v.p
  obtain ⟨l1, l2, l3, l4, l5, l6, l7⟩ := v.L
  refine x_aload_n (dT U_X11_split 0 rfl) rfl ?_
  refine x_aload_n (dT U_X11_split 1 rfl) rfl ?_
  refine x_iload_n (dT U_X11_split 2 rfl) rfl ?_
  refine x_invokevirtual (rc' := rc) (rs' := rs) (rc2 := 0) (rs2 := 0) (As := [_]) (st := _) M_X11_isNote K_X11_333 (dT U_X11_split 3 rfl) rfl rfl (by decide) rfl rfl w.c70 (Nat.le_of_ble_eq_true rfl) (by decide) rfl (Nat.le_of_ble_eq_true rfl) rfl (by decide) (Nat.le_of_ble_eq_true rfl) rfl rfl ?_
  refine S_X11_isNote w v h_note (fun q1 => ?_) (fun q1 => ?_)
  · refine xRet_some ?_
    refine x_iconst (dT U_X11_split 4 rfl) ?_
    refine x_invokevirtual (rc' := rc) (rs' := rs) (rc2 := 0) (rs2 := 0) (As := [_, _]) (st := _) M_X11_lets K_X11_167 (dT U_X11_split 5 rfl) rfl rfl (by decide) rfl rfl w.c70 (Nat.le_of_ble_eq_true rfl) (by decide) rfl (Nat.le_of_ble_eq_true rfl) rfl (by decide) (Nat.le_of_ble_eq_true rfl) rfl rfl ?_
    refine S_X11_lets1 w (fun h1 g1 w1 => ?_)
    refine xRet_some ?_
    obtain ⟨k9, hk9, rfl⟩ : ∃ j : Nat, j < σ.L.n ∧ note = (j : Int) := ⟨note.toNat, by omega, by omega⟩
    try simp only [tnc] at e1 e2 e3 k
    refine x_if_eqn (tgt := 76) (dT U_X11_split 6 rfl) (by decide) (by decide) ?_
    refine x_aload_n (dT U_X11_split 7 rfl) rfl ?_
    refine x_aload_n (dT U_X11_split 8 rfl) rfl ?_
    refine x_iload_n (dT U_X11_split 9 rfl) rfl ?_
    refine x_invokevirtual (rc' := rc) (rs' := rs) (rc2 := 0) (rs2 := 0) (As := [_]) (st := _) M_X11_isNumber K_X11_174 (dT U_X11_split 10 rfl) rfl rfl (by decide) rfl rfl w1.c70 (Nat.le_of_ble_eq_true rfl) (by decide) rfl (Nat.le_of_ble_eq_true rfl) rfl (by decide) (Nat.le_of_ble_eq_true rfl) rfl rfl ?_
    refine S_X11_isNumber (w1.mp) v.p h_amount (fun q2 => ?_) (fun q2 => ?_)
    · refine xRet_some ?_
      refine x_if_eqn (tgt := 34) (dT U_X11_split 11 rfl) (by decide) (by decide) ?_
      refine x_aload_n (dT U_X11_split 12 rfl) rfl ?_
      refine x_iload_n (dT U_X11_split 13 rfl) rfl ?_
      refine x_invokevirtual (rc' := rc) (rs' := rs) (rc2 := 0) (rs2 := 0) (As := [_]) (st := _) M_X11_isNumber K_X11_174 (dT U_X11_split 14 rfl) rfl rfl (by decide) rfl rfl w1.c70 (Nat.le_of_ble_eq_true rfl) (by decide) rfl (Nat.le_of_ble_eq_true rfl) rfl (by decide) (Nat.le_of_ble_eq_true rfl) rfl rfl ?_
      refine S_X11_isNumber (w1.mp) v.p h_blind (fun q3 => ?_) (fun q3 => ?_)
      · refine xRet_some ?_
        refine x_if_eqn (tgt := 34) (dT U_X11_split 15 rfl) (by decide) (by decide) ?_
        refine x_iconst (dT U_X11_split 16 rfl) ?_
        refine x_goto (tgt := 35) (dT U_X11_split 17 rfl) (by decide) ?_
        refine x_iconst (dT U_X11_split 19 rfl) ?_
        refine x_invokevirtual (rc' := rc) (rs' := rs) (rc2 := 0) (rs2 := 0) (As := [_, _]) (st := _) M_X11_lets K_X11_167 (dT U_X11_split 20 rfl) rfl rfl (by decide) rfl rfl w1.c70 (Nat.le_of_ble_eq_true rfl) (by decide) rfl (Nat.le_of_ble_eq_true rfl) rfl (by decide) (Nat.le_of_ble_eq_true rfl) rfl rfl ?_
        refine S_X11_lets1 w1 (fun h2 g2 w2 => ?_)
        refine xRet_some ?_
        refine x_if_eqn (tgt := 76) (dT U_X11_split 21 rfl) (by decide) (by decide) ?_
        refine x_aload_n (dT U_X11_split 22 rfl) rfl ?_
        refine x_aload_n (dT U_X11_split 23 rfl) rfl ?_
        refine x_getfield F_X11_94 (dT U_X11_split 24 rfl) w2.c70 (Nat.le_of_ble_eq_true rfl) rfl ?_
        refine x_iload_n (dT U_X11_split 25 rfl) rfl ?_
        refine x_ialoadv (k9) (dT U_X11_split 26 rfl) w2.c135 (Nat.le_of_ble_eq_true rfl) rfl (by omega) (by omega) (show _ = (σ.L.nn.getD k9 0) from rfl) ?_
        refine x_iconst (dT U_X11_split 27 rfl) ?_
        have ub := l4 k9 hk9
        refine x_icmp_eq (tgt := 68) (dT U_X11_split 28 rfl) (by decide) (by unfold xr; omega) (by unfold xr; omega) (fun c50 => ?_) (fun c50 => ?_)
        · skip
          refine x_iconst (dT U_X11_split 37 rfl) ?_
          refine x_iconst (dT U_X11_split 38 rfl) ?_
          refine x_invokevirtual (rc' := rc) (rs' := rs) (rc2 := 0) (rs2 := 0) (As := [_, _]) (st := _) M_X11_lets K_X11_167 (dT U_X11_split 39 rfl) rfl rfl (by decide) rfl rfl w2.c70 (Nat.le_of_ble_eq_true rfl) (by decide) rfl (Nat.le_of_ble_eq_true rfl) rfl (by decide) (Nat.le_of_ble_eq_true rfl) rfl rfl ?_
          refine S_X11_lets0 w2 (fun h3 g3 w3 => ?_)
          refine xRet_some ?_
          refine x_if_nen (tgt := 78) (dT U_X11_split 40 rfl) (by decide) (by decide) ?_
          refine x_iconst (dT U_X11_split 41 rfl) ?_
          refine x_ireturn (dT U_X11_split 42 rfl) rfl ?_
          exact e3 (by omega) (by omega) (by omega) _ _ (Ag.tr (Ag.tr (Ag.tr (Ag.rf 70 142 h) (g1.w (by omega))) (g2.w (by omega))) (g3.w (by omega))) w3 (by unfold xr; omega)
        · skip
          refine x_aload_n (dT U_X11_split 29 rfl) rfl ?_
          refine x_getfield F_X11_143 (dT U_X11_split 30 rfl) w2.c70 (Nat.le_of_ble_eq_true rfl) rfl ?_
          refine x_iconst (dT U_X11_split 31 rfl) ?_
          refine x_iadd (dT U_X11_split 32 rfl) ?_
          refine x_bipush (dT U_X11_split 33 rfl) (by decide) ?_
          refine x_icmp_gt (tgt := 68) (dT U_X11_split 34 rfl) (by decide) (by unfold xr; omega) (by unfold xr; omega) (fun c61 => ?_) (fun c61 => ?_)
          · skip
            refine x_iconst (dT U_X11_split 37 rfl) ?_
            refine x_iconst (dT U_X11_split 38 rfl) ?_
            refine x_invokevirtual (rc' := rc) (rs' := rs) (rc2 := 0) (rs2 := 0) (As := [_, _]) (st := _) M_X11_lets K_X11_167 (dT U_X11_split 39 rfl) rfl rfl (by decide) rfl rfl w2.c70 (Nat.le_of_ble_eq_true rfl) (by decide) rfl (Nat.le_of_ble_eq_true rfl) rfl (by decide) (Nat.le_of_ble_eq_true rfl) rfl rfl ?_
            refine S_X11_lets0 w2 (fun h3 g3 w3 => ?_)
            refine xRet_some ?_
            refine x_if_nen (tgt := 78) (dT U_X11_split 40 rfl) (by decide) (by decide) ?_
            refine x_iconst (dT U_X11_split 41 rfl) ?_
            refine x_ireturn (dT U_X11_split 42 rfl) rfl ?_
            exact e3 (by omega) (by omega) (by omega) _ _ (Ag.tr (Ag.tr (Ag.tr (Ag.rf 70 142 h) (g1.w (by omega))) (g2.w (by omega))) (g3.w (by omega))) w3 (by unfold xr; omega)
          · skip
            refine x_iconst (dT U_X11_split 35 rfl) ?_
            refine x_goto (tgt := 69) (dT U_X11_split 36 rfl) (by decide) ?_
            refine x_iconst (dT U_X11_split 38 rfl) ?_
            refine x_invokevirtual (rc' := rc) (rs' := rs) (rc2 := 0) (rs2 := 0) (As := [_, _]) (st := _) M_X11_lets K_X11_167 (dT U_X11_split 39 rfl) rfl rfl (by decide) rfl rfl w2.c70 (Nat.le_of_ble_eq_true rfl) (by decide) rfl (Nat.le_of_ble_eq_true rfl) rfl (by decide) (Nat.le_of_ble_eq_true rfl) rfl rfl ?_
            refine S_X11_lets1 w2 (fun h3 g3 w3 => ?_)
            refine xRet_some ?_
            refine x_if_nej (tgt := 78) (dT U_X11_split 40 rfl) (by decide) (by decide) ?_
            refine x_aload_n (dT U_X11_split 43 rfl) rfl ?_
            refine x_getfield F_X11_94 (dT U_X11_split 44 rfl) w3.c70 (Nat.le_of_ble_eq_true rfl) rfl ?_
            refine x_iload_n (dT U_X11_split 45 rfl) rfl ?_
            refine x_ialoadv (k9) (dT U_X11_split 46 rfl) w3.c135 (Nat.le_of_ble_eq_true rfl) rfl (by omega) (by omega) (show _ = (σ.L.nn.getD k9 0) from rfl) ?_
            refine x_istore (ls' := [some (.ref _), some (vi _), some (vi _), some (vi _), some (vi _), none]) (dT U_X11_split 47 rfl) (by decide) rfl ?_
            refine x_aload_n (dT U_X11_split 48 rfl) rfl ?_
            refine x_getfield F_X11_94 (dT U_X11_split 49 rfl) w3.c70 (Nat.le_of_ble_eq_true rfl) rfl ?_
            refine x_iload_n (dT U_X11_split 50 rfl) rfl ?_
            refine x_iconst (dT U_X11_split 51 rfl) ?_
            refine x_iastore (k9) (dT U_X11_split 52 rfl) w3.c135 (Nat.le_of_ble_eq_true rfl) rfl (by omega) (by omega) ?_
            refine x_aload_n (dT U_X11_split 53 rfl) rfl ?_
            refine x_aload_n (dT U_X11_split 54 rfl) rfl ?_
            refine x_iload_n (dT U_X11_split 55 rfl) rfl ?_
            refine x_iload_n (dT U_X11_split 56 rfl) rfl ?_
            refine x_invokevirtual (rc' := rc) (rs' := rs) (rc2 := 0) (rs2 := 0) (As := [_, _]) (st := _) M_X11_noted K_X11_327 (dT U_X11_split 57 rfl) rfl rfl (by decide) rfl rfl (hset_ne (by omega) (w3.c70)) (Nat.le_of_ble_eq_true rfl) (by decide) rfl (Nat.le_of_ble_eq_true rfl) rfl (by decide) (Nat.le_of_ble_eq_true rfl) rfl rfl ?_
            refine S_X11_noted (MP.set (by omega) (w3.mp)) v.p (by omega) (by omega) ?_
            have cb := cm1_b (p := σ.p) (n := amount) (b := blind) hp.1
            refine xRet_some ?_
            refine x_invokevirtual (rc' := rc) (rs' := rs) (rc2 := 0) (rs2 := 0) (As := [_]) (st := _) M_X11_add K_X11_330 (dT U_X11_split 58 rfl) rfl rfl (by decide) rfl rfl (hset_ne (by omega) (w3.c70)) (Nat.le_of_ble_eq_true rfl) (by decide) rfl (Nat.le_of_ble_eq_true rfl) rfl (by decide) (Nat.le_of_ble_eq_true rfl) rfl rfl ?_
            refine S_X11_add (hset_ne (by omega) (w3.c70)) (hset_eq w3.c135) (by rw [List.length_set]; exact l2) (by omega) ?_
            refine xRet_some ?_
            refine x_istore (ls' := [some (.ref _), some (vi _), some (vi _), some (vi _), some (vi _), some (vi _)]) (dT U_X11_split 59 rfl) (by decide) rfl ?_
            refine x_aload_n (dT U_X11_split 60 rfl) rfl ?_
            refine x_aload_n (dT U_X11_split 61 rfl) rfl ?_
            refine x_iload (dT U_X11_split 62 rfl) rfl ?_
            refine x_i2l (dT U_X11_split 63 rfl) (by unfold xr; omega) ?_
            refine x_aload_n (dT U_X11_split 64 rfl) rfl ?_
            refine x_getfield F_X11_94 (dT U_X11_split 65 rfl) (hset_eq (hset_ne (by omega) (hset_ne (by omega) (w3.c70)))) (Nat.le_of_ble_eq_true rfl) rfl ?_
            refine x_iload (dT U_X11_split 66 rfl) rfl ?_
            refine x_ialoadv (σ.L.n) (dT U_X11_split 67 rfl) (hset_ne (by omega) (hset_eq (hset_eq w3.c135))) (Nat.le_of_ble_eq_true rfl) rfl (by rw [List.length_set, List.length_set]; omega) (by rw [List.length_set, List.length_set]; omega) (show _ = (cm1 σ.p amount blind) from gset_e (by rw [List.length_set]; omega)) ?_
            refine x_i2l (dT U_X11_split 68 rfl) (by unfold xr; omega) ?_
            refine x_lsub (dT U_X11_split 69 rfl) ?_
            refine x_invokevirtual (rc' := rc) (rs' := rs) (rc2 := 0) (rs2 := 0) (As := [_]) (st := _) M_X11_f K_X11_156 (dT U_X11_split 70 rfl) rfl rfl (by decide) rfl rfl (hset_eq (hset_ne (by omega) (hset_ne (by omega) (w3.c70)))) (Nat.le_of_ble_eq_true rfl) (by decide) rfl (Nat.le_of_ble_eq_true rfl) rfl (by decide) (Nat.le_of_ble_eq_true rfl) rfl rfl ?_
            refine S_X11_f ⟨_, _, _, _, _, _, _, _, _, hset_eq (hset_ne (by omega) (hset_ne (by omega) (w3.c70)))⟩ v.p (by unfold xrl; omega) ?_
            refine xRet_some ?_
            refine x_invokevirtual (rc' := rc) (rs' := rs) (rc2 := 0) (rs2 := 0) (As := [_]) (st := _) M_X11_add K_X11_330 (dT U_X11_split 71 rfl) rfl rfl (by decide) rfl rfl (hset_eq (hset_ne (by omega) (hset_ne (by omega) (w3.c70)))) (Nat.le_of_ble_eq_true rfl) (by decide) rfl (Nat.le_of_ble_eq_true rfl) rfl (by decide) (Nat.le_of_ble_eq_true rfl) rfl rfl ?_
            refine S_X11_add (hset_eq (hset_ne (by omega) (hset_ne (by omega) (w3.c70)))) (hset_ne (by omega) (hset_eq (hset_eq w3.c135))) (by rw [List.length_set, List.length_set]; exact l2) (by omega) ?_
            refine xRet_some ?_
            refine x_pop (dT U_X11_split 72 rfl) rfl ?_
            refine x_iload (dT U_X11_split 73 rfl) rfl ?_
            refine x_ireturn (dT U_X11_split 74 rfl) rfl ?_
            exact k (by omega) (by omega) (by omega) _ _ _ ((((((Ag.tr (Ag.tr (Ag.tr (Ag.rf 70 142 h) (g1.w (by omega))) (g2.w (by omega))) (g3.w (by omega))).set (by omega)).set (by omega)).set (by omega)).set (by omega)).set (by omega)) (w3.ledg (L := (σ.L.n + 2, σ.L.mi, σ.L.pa, ((σ.L.nn.set k9 (-1)).set σ.L.n (cm1 σ.p amount blind)).set (σ.L.n + 1) (((σ.L.nn.getD k9 0) - (cm1 σ.p amount blind)) % (σ.p : Int)), ((σ.L.gl.set k9 0).set σ.L.n (MM σ.p (cm1 σ.p amount blind))).set (σ.L.n + 1) (MM σ.p (((σ.L.nn.getD k9 0) - (cm1 σ.p amount blind)) % (σ.p : Int))))) (fun a9 ha => by rw [hset_fr (by omega), hset_fr (by omega), hset_fr (by omega), hset_fr (by omega), hset_fr (by omega)]) (hset_eq (hset_ne (by omega) (hset_eq (hset_ne (by omega) (hset_ne (by omega) (w3.c70)))))) (hset_ne (by omega) (hset_eq (hset_ne (by omega) (hset_eq (hset_eq w3.c135))))))
      · refine xRet_some ?_
        refine x_if_eqj (tgt := 34) (dT U_X11_split 15 rfl) (by decide) (by decide) ?_
        refine x_iconst (dT U_X11_split 18 rfl) ?_
        refine x_iconst (dT U_X11_split 19 rfl) ?_
        refine x_invokevirtual (rc' := rc) (rs' := rs) (rc2 := 0) (rs2 := 0) (As := [_, _]) (st := _) M_X11_lets K_X11_167 (dT U_X11_split 20 rfl) rfl rfl (by decide) rfl rfl w1.c70 (Nat.le_of_ble_eq_true rfl) (by decide) rfl (Nat.le_of_ble_eq_true rfl) rfl (by decide) (Nat.le_of_ble_eq_true rfl) rfl rfl ?_
        refine S_X11_lets0 w1 (fun h2 g2 w2 => ?_)
        refine xRet_some ?_
        refine x_if_eqj (tgt := 76) (dT U_X11_split 21 rfl) (by decide) (by decide) ?_
        refine x_iconst (dT U_X11_split 41 rfl) ?_
        refine x_ireturn (dT U_X11_split 42 rfl) rfl ?_
        exact e2 (by omega) (by omega) _ _ (Ag.tr (Ag.tr (Ag.rf 70 142 h) (g1.w (by omega))) (g2.w (by omega))) w2 (by unfold xr; omega)
    · refine xRet_some ?_
      refine x_if_eqj (tgt := 34) (dT U_X11_split 11 rfl) (by decide) (by decide) ?_
      refine x_iconst (dT U_X11_split 18 rfl) ?_
      refine x_iconst (dT U_X11_split 19 rfl) ?_
      refine x_invokevirtual (rc' := rc) (rs' := rs) (rc2 := 0) (rs2 := 0) (As := [_, _]) (st := _) M_X11_lets K_X11_167 (dT U_X11_split 20 rfl) rfl rfl (by decide) rfl rfl w1.c70 (Nat.le_of_ble_eq_true rfl) (by decide) rfl (Nat.le_of_ble_eq_true rfl) rfl (by decide) (Nat.le_of_ble_eq_true rfl) rfl rfl ?_
      refine S_X11_lets0 w1 (fun h2 g2 w2 => ?_)
      refine xRet_some ?_
      refine x_if_eqj (tgt := 76) (dT U_X11_split 21 rfl) (by decide) (by decide) ?_
      refine x_iconst (dT U_X11_split 41 rfl) ?_
      refine x_ireturn (dT U_X11_split 42 rfl) rfl ?_
      exact e2 (by omega) (by omega) _ _ (Ag.tr (Ag.tr (Ag.rf 70 142 h) (g1.w (by omega))) (g2.w (by omega))) w2 (by unfold xr; omega)
  · refine xRet_some ?_
    refine x_iconst (dT U_X11_split 4 rfl) ?_
    refine x_invokevirtual (rc' := rc) (rs' := rs) (rc2 := 0) (rs2 := 0) (As := [_, _]) (st := _) M_X11_lets K_X11_167 (dT U_X11_split 5 rfl) rfl rfl (by decide) rfl rfl w.c70 (Nat.le_of_ble_eq_true rfl) (by decide) rfl (Nat.le_of_ble_eq_true rfl) rfl (by decide) (Nat.le_of_ble_eq_true rfl) rfl rfl ?_
    refine S_X11_lets0 w (fun h1 g1 w1 => ?_)
    refine xRet_some ?_
    refine x_if_eqj (tgt := 76) (dT U_X11_split 6 rfl) (by decide) (by decide) ?_
    refine x_iconst (dT U_X11_split 41 rfl) ?_
    refine x_ireturn (dT U_X11_split 42 rfl) rfl ?_
    exact e1 (by omega) _ _ (Ag.tr (Ag.rf 70 142 h) (g1.w (by omega))) w1 (by unfold xr; omega)

set_option maxRecDepth 20000 in
set_option maxHeartbeats 1000000 in
theorem S_X11_merge {G : xG} {d rc rs : Nat} {ex : Bool} {h : xH} {Q : xQ} {σ : St} {cc0 : Int} {rr : Nat} {ss : Int} {note second : Int} (w : MX σ cc0 rr ss h) (v : INV σ) (h_note : xr note) (h_second : xr second) (e1 : ¬ (inb note σ.L.n ∧ inb second σ.L.n) → ∀ h2 z, Ag 70 142 h h2 → MX σ 1 rr ss h2 → xr z → Q (.inl (some (vi z))) ex h2) (e2 : (inb note σ.L.n ∧ inb second σ.L.n) → ¬ (¬ note = second) → ∀ h2 z, Ag 70 142 h h2 → MX σ 2 rr ss h2 → xr z → Q (.inl (some (vi z))) ex h2) (e3 : (inb note σ.L.n ∧ inb second σ.L.n) → (¬ note = second) → ¬ (¬ (σ.L.nn.getD note.toNat 0) = -1 ∧ ¬ (σ.L.nn.getD second.toNat 0) = -1 ∧ σ.L.n + 1 ≤ 16) → ∀ h2 z, Ag 70 142 h h2 → MX σ 3 rr ss h2 → xr z → Q (.inl (some (vi z))) ex h2) (k : (inb note σ.L.n ∧ inb second σ.L.n) → (¬ note = second) → (¬ (σ.L.nn.getD note.toNat 0) = -1 ∧ ¬ (σ.L.nn.getD second.toNat 0) = -1 ∧ σ.L.n + 1 ≤ 16) → ∀ h2 r2 s2, Ag 70 142 h h2 → MX (σ.sL (σ.L.n + 1, σ.L.mi, σ.L.pa, ((σ.L.nn.set note.toNat (-1)).set second.toNat (-1)).set σ.L.n (((σ.L.nn.getD note.toNat 0) + (σ.L.nn.getD second.toNat 0)) % (σ.p : Int)), ((σ.L.gl.set note.toNat 0).set second.toNat 0).set σ.L.n (MM σ.p (((σ.L.nn.getD note.toNat 0) + (σ.L.nn.getD second.toNat 0)) % (σ.p : Int))))) 0 r2 s2 h2 → Q (.inl (some (vi ((σ.L.n : Int))))) ex h2) : X G m_X11_merge (d + 2) rc rs ex 0 (xe m_X11_merge.2.2.1 [.ref 70, vi note, vi second]) [] h Q := by
  show X G m_X11_merge _ _ _ _ 0 [some (.ref 70), some (vi note), some (vi second), none] [] h Q
  have hp := PRb v.p
  have hq := gq_b v.p
  obtain ⟨l1, l2, l3, l4, l5, l6, l7⟩ := v.L
  refine x_aload_n (dT U_X11_merge 0 rfl) rfl ?_
  refine x_aload_n (dT U_X11_merge 1 rfl) rfl ?_
  refine x_iload_n (dT U_X11_merge 2 rfl) rfl ?_
  refine x_invokevirtual (rc' := rc) (rs' := rs) (rc2 := 0) (rs2 := 0) (As := [_]) (st := _) M_X11_isNote K_X11_333 (dT U_X11_merge 3 rfl) rfl rfl (by decide) rfl rfl w.c70 (Nat.le_of_ble_eq_true rfl) (by decide) rfl (Nat.le_of_ble_eq_true rfl) rfl (by decide) (Nat.le_of_ble_eq_true rfl) rfl rfl ?_
  refine S_X11_isNote w v h_note (fun q1 => ?_) (fun q1 => ?_)
  · refine xRet_some ?_
    refine x_if_eqn (tgt := 21) (dT U_X11_merge 4 rfl) (by decide) (by decide) ?_
    refine x_aload_n (dT U_X11_merge 5 rfl) rfl ?_
    refine x_iload_n (dT U_X11_merge 6 rfl) rfl ?_
    refine x_invokevirtual (rc' := rc) (rs' := rs) (rc2 := 0) (rs2 := 0) (As := [_]) (st := _) M_X11_isNote K_X11_333 (dT U_X11_merge 7 rfl) rfl rfl (by decide) rfl rfl w.c70 (Nat.le_of_ble_eq_true rfl) (by decide) rfl (Nat.le_of_ble_eq_true rfl) rfl (by decide) (Nat.le_of_ble_eq_true rfl) rfl rfl ?_
    refine S_X11_isNote w v h_second (fun q2 => ?_) (fun q2 => ?_)
    · refine xRet_some ?_
      refine x_if_eqn (tgt := 21) (dT U_X11_merge 8 rfl) (by decide) (by decide) ?_
      refine x_iconst (dT U_X11_merge 9 rfl) ?_
      refine x_goto (tgt := 22) (dT U_X11_merge 10 rfl) (by decide) ?_
      refine x_iconst (dT U_X11_merge 12 rfl) ?_
      refine x_invokevirtual (rc' := rc) (rs' := rs) (rc2 := 0) (rs2 := 0) (As := [_, _]) (st := _) M_X11_lets K_X11_167 (dT U_X11_merge 13 rfl) rfl rfl (by decide) rfl rfl w.c70 (Nat.le_of_ble_eq_true rfl) (by decide) rfl (Nat.le_of_ble_eq_true rfl) rfl (by decide) (Nat.le_of_ble_eq_true rfl) rfl rfl ?_
      refine S_X11_lets1 w (fun h1 g1 w1 => ?_)
      refine xRet_some ?_
      obtain ⟨k9, hk9, rfl⟩ : ∃ j : Nat, j < σ.L.n ∧ note = (j : Int) := ⟨note.toNat, by omega, by omega⟩
      try simp only [tnc] at e1 e2 e3 k
      obtain ⟨m9, hm9, rfl⟩ : ∃ j : Nat, j < σ.L.n ∧ second = (j : Int) := ⟨second.toNat, by omega, by omega⟩
      try simp only [tnc] at e1 e2 e3 k
      refine x_if_eqn (tgt := 47) (dT U_X11_merge 14 rfl) (by decide) (by decide) ?_
      refine x_aload_n (dT U_X11_merge 15 rfl) rfl ?_
      refine x_iload_n (dT U_X11_merge 16 rfl) rfl ?_
      refine x_iload_n (dT U_X11_merge 17 rfl) rfl ?_
      refine x_icmp_eq (tgt := 39) (dT U_X11_merge 18 rfl) (by decide) (by unfold xr; omega) (by unfold xr; omega) (fun c32 => ?_) (fun c32 => ?_)
      · skip
        refine x_iconst (dT U_X11_merge 21 rfl) ?_
        refine x_iconst (dT U_X11_merge 22 rfl) ?_
        refine x_invokevirtual (rc' := rc) (rs' := rs) (rc2 := 0) (rs2 := 0) (As := [_, _]) (st := _) M_X11_lets K_X11_167 (dT U_X11_merge 23 rfl) rfl rfl (by decide) rfl rfl w1.c70 (Nat.le_of_ble_eq_true rfl) (by decide) rfl (Nat.le_of_ble_eq_true rfl) rfl (by decide) (Nat.le_of_ble_eq_true rfl) rfl rfl ?_
        refine S_X11_lets0 w1 (fun h2 g2 w2 => ?_)
        refine xRet_some ?_
        refine x_if_nen (tgt := 49) (dT U_X11_merge 24 rfl) (by decide) (by decide) ?_
        refine x_iconst (dT U_X11_merge 25 rfl) ?_
        refine x_ireturn (dT U_X11_merge 26 rfl) rfl ?_
        exact e2 (by omega) (by omega) _ _ (Ag.tr (Ag.tr (Ag.rf 70 142 h) (g1.w (by omega))) (g2.w (by omega))) w2 (by unfold xr; omega)
      · skip
        refine x_iconst (dT U_X11_merge 19 rfl) ?_
        refine x_goto (tgt := 40) (dT U_X11_merge 20 rfl) (by decide) ?_
        refine x_iconst (dT U_X11_merge 22 rfl) ?_
        refine x_invokevirtual (rc' := rc) (rs' := rs) (rc2 := 0) (rs2 := 0) (As := [_, _]) (st := _) M_X11_lets K_X11_167 (dT U_X11_merge 23 rfl) rfl rfl (by decide) rfl rfl w1.c70 (Nat.le_of_ble_eq_true rfl) (by decide) rfl (Nat.le_of_ble_eq_true rfl) rfl (by decide) (Nat.le_of_ble_eq_true rfl) rfl rfl ?_
        refine S_X11_lets1 w1 (fun h2 g2 w2 => ?_)
        refine xRet_some ?_
        refine x_if_nej (tgt := 49) (dT U_X11_merge 24 rfl) (by decide) (by decide) ?_
        refine x_aload_n (dT U_X11_merge 27 rfl) rfl ?_
        refine x_aload_n (dT U_X11_merge 28 rfl) rfl ?_
        refine x_getfield F_X11_94 (dT U_X11_merge 29 rfl) w2.c70 (Nat.le_of_ble_eq_true rfl) rfl ?_
        refine x_iload_n (dT U_X11_merge 30 rfl) rfl ?_
        refine x_ialoadv (k9) (dT U_X11_merge 31 rfl) w2.c135 (Nat.le_of_ble_eq_true rfl) rfl (by omega) (by omega) (show _ = (σ.L.nn.getD k9 0) from rfl) ?_
        refine x_iconst (dT U_X11_merge 32 rfl) ?_
        have ub := l4 k9 hk9
        have um := l4 m9 hm9
        refine x_icmp_eq (tgt := 83) (dT U_X11_merge 33 rfl) (by decide) (by unfold xr; omega) (by unfold xr; omega) (fun c57 => ?_) (fun c57 => ?_)
        · skip
          refine x_iconst (dT U_X11_merge 46 rfl) ?_
          refine x_iconst (dT U_X11_merge 47 rfl) ?_
          refine x_invokevirtual (rc' := rc) (rs' := rs) (rc2 := 0) (rs2 := 0) (As := [_, _]) (st := _) M_X11_lets K_X11_167 (dT U_X11_merge 48 rfl) rfl rfl (by decide) rfl rfl w2.c70 (Nat.le_of_ble_eq_true rfl) (by decide) rfl (Nat.le_of_ble_eq_true rfl) rfl (by decide) (Nat.le_of_ble_eq_true rfl) rfl rfl ?_
          refine S_X11_lets0 w2 (fun h3 g3 w3 => ?_)
          refine xRet_some ?_
          refine x_if_nen (tgt := 93) (dT U_X11_merge 49 rfl) (by decide) (by decide) ?_
          refine x_iconst (dT U_X11_merge 50 rfl) ?_
          refine x_ireturn (dT U_X11_merge 51 rfl) rfl ?_
          exact e3 (by omega) (by omega) (by omega) _ _ (Ag.tr (Ag.tr (Ag.tr (Ag.rf 70 142 h) (g1.w (by omega))) (g2.w (by omega))) (g3.w (by omega))) w3 (by unfold xr; omega)
        · skip
          refine x_aload_n (dT U_X11_merge 34 rfl) rfl ?_
          refine x_getfield F_X11_94 (dT U_X11_merge 35 rfl) w2.c70 (Nat.le_of_ble_eq_true rfl) rfl ?_
          refine x_iload_n (dT U_X11_merge 36 rfl) rfl ?_
          refine x_ialoadv (m9) (dT U_X11_merge 37 rfl) w2.c135 (Nat.le_of_ble_eq_true rfl) rfl (by omega) (by omega) (show _ = (σ.L.nn.getD m9 0) from rfl) ?_
          refine x_iconst (dT U_X11_merge 38 rfl) ?_
          refine x_icmp_eq (tgt := 83) (dT U_X11_merge 39 rfl) (by decide) (by unfold xr; omega) (by unfold xr; omega) (fun c67 => ?_) (fun c67 => ?_)
          · skip
            refine x_iconst (dT U_X11_merge 46 rfl) ?_
            refine x_iconst (dT U_X11_merge 47 rfl) ?_
            refine x_invokevirtual (rc' := rc) (rs' := rs) (rc2 := 0) (rs2 := 0) (As := [_, _]) (st := _) M_X11_lets K_X11_167 (dT U_X11_merge 48 rfl) rfl rfl (by decide) rfl rfl w2.c70 (Nat.le_of_ble_eq_true rfl) (by decide) rfl (Nat.le_of_ble_eq_true rfl) rfl (by decide) (Nat.le_of_ble_eq_true rfl) rfl rfl ?_
            refine S_X11_lets0 w2 (fun h3 g3 w3 => ?_)
            refine xRet_some ?_
            refine x_if_nen (tgt := 93) (dT U_X11_merge 49 rfl) (by decide) (by decide) ?_
            refine x_iconst (dT U_X11_merge 50 rfl) ?_
            refine x_ireturn (dT U_X11_merge 51 rfl) rfl ?_
            exact e3 (by omega) (by omega) (by omega) _ _ (Ag.tr (Ag.tr (Ag.tr (Ag.rf 70 142 h) (g1.w (by omega))) (g2.w (by omega))) (g3.w (by omega))) w3 (by unfold xr; omega)
          · skip
            refine x_aload_n (dT U_X11_merge 40 rfl) rfl ?_
            refine x_getfield F_X11_143 (dT U_X11_merge 41 rfl) w2.c70 (Nat.le_of_ble_eq_true rfl) rfl ?_
            refine x_bipush (dT U_X11_merge 42 rfl) (by decide) ?_
            refine x_icmp_ge (tgt := 83) (dT U_X11_merge 43 rfl) (by decide) (by unfold xr; omega) (by unfold xr; omega) (fun c76 => ?_) (fun c76 => ?_)
            · skip
              refine x_iconst (dT U_X11_merge 46 rfl) ?_
              refine x_iconst (dT U_X11_merge 47 rfl) ?_
              refine x_invokevirtual (rc' := rc) (rs' := rs) (rc2 := 0) (rs2 := 0) (As := [_, _]) (st := _) M_X11_lets K_X11_167 (dT U_X11_merge 48 rfl) rfl rfl (by decide) rfl rfl w2.c70 (Nat.le_of_ble_eq_true rfl) (by decide) rfl (Nat.le_of_ble_eq_true rfl) rfl (by decide) (Nat.le_of_ble_eq_true rfl) rfl rfl ?_
              refine S_X11_lets0 w2 (fun h3 g3 w3 => ?_)
              refine xRet_some ?_
              refine x_if_nen (tgt := 93) (dT U_X11_merge 49 rfl) (by decide) (by decide) ?_
              refine x_iconst (dT U_X11_merge 50 rfl) ?_
              refine x_ireturn (dT U_X11_merge 51 rfl) rfl ?_
              exact e3 (by omega) (by omega) (by omega) _ _ (Ag.tr (Ag.tr (Ag.tr (Ag.rf 70 142 h) (g1.w (by omega))) (g2.w (by omega))) (g3.w (by omega))) w3 (by unfold xr; omega)
            · skip
              refine x_iconst (dT U_X11_merge 44 rfl) ?_
              refine x_goto (tgt := 84) (dT U_X11_merge 45 rfl) (by decide) ?_
              refine x_iconst (dT U_X11_merge 47 rfl) ?_
              refine x_invokevirtual (rc' := rc) (rs' := rs) (rc2 := 0) (rs2 := 0) (As := [_, _]) (st := _) M_X11_lets K_X11_167 (dT U_X11_merge 48 rfl) rfl rfl (by decide) rfl rfl w2.c70 (Nat.le_of_ble_eq_true rfl) (by decide) rfl (Nat.le_of_ble_eq_true rfl) rfl (by decide) (Nat.le_of_ble_eq_true rfl) rfl rfl ?_
              refine S_X11_lets1 w2 (fun h3 g3 w3 => ?_)
              refine xRet_some ?_
              refine x_if_nej (tgt := 93) (dT U_X11_merge 49 rfl) (by decide) (by decide) ?_
              refine x_aload_n (dT U_X11_merge 52 rfl) rfl ?_
              refine x_aload_n (dT U_X11_merge 53 rfl) rfl ?_
              refine x_getfield F_X11_94 (dT U_X11_merge 54 rfl) w3.c70 (Nat.le_of_ble_eq_true rfl) rfl ?_
              refine x_iload_n (dT U_X11_merge 55 rfl) rfl ?_
              refine x_ialoadv (k9) (dT U_X11_merge 56 rfl) w3.c135 (Nat.le_of_ble_eq_true rfl) rfl (by omega) (by omega) (show _ = (σ.L.nn.getD k9 0) from rfl) ?_
              refine x_i2l (dT U_X11_merge 57 rfl) (by unfold xr; omega) ?_
              refine x_aload_n (dT U_X11_merge 58 rfl) rfl ?_
              refine x_getfield F_X11_94 (dT U_X11_merge 59 rfl) w3.c70 (Nat.le_of_ble_eq_true rfl) rfl ?_
              refine x_iload_n (dT U_X11_merge 60 rfl) rfl ?_
              refine x_ialoadv (m9) (dT U_X11_merge 61 rfl) w3.c135 (Nat.le_of_ble_eq_true rfl) rfl (by omega) (by omega) (show _ = (σ.L.nn.getD m9 0) from rfl) ?_
              refine x_i2l (dT U_X11_merge 62 rfl) (by unfold xr; omega) ?_
              refine x_ladd (dT U_X11_merge 63 rfl) ?_
              refine x_invokevirtual (rc' := rc) (rs' := rs) (rc2 := 0) (rs2 := 0) (As := [_]) (st := _) M_X11_f K_X11_156 (dT U_X11_merge 64 rfl) rfl rfl (by decide) rfl rfl w3.c70 (Nat.le_of_ble_eq_true rfl) (by decide) rfl (Nat.le_of_ble_eq_true rfl) rfl (by decide) (Nat.le_of_ble_eq_true rfl) rfl rfl ?_
              refine S_X11_f (w3.mp) v.p (by unfold xrl; omega) ?_
              refine xRet_some ?_
              refine x_istore_n (ls' := [some (.ref _), some (vi _), some (vi _), some (vi _)]) (dT U_X11_merge 65 rfl) (by decide) rfl ?_
              refine x_aload_n (dT U_X11_merge 66 rfl) rfl ?_
              refine x_getfield F_X11_94 (dT U_X11_merge 67 rfl) w3.c70 (Nat.le_of_ble_eq_true rfl) rfl ?_
              refine x_iload_n (dT U_X11_merge 68 rfl) rfl ?_
              refine x_iconst (dT U_X11_merge 69 rfl) ?_
              refine x_iastore (k9) (dT U_X11_merge 70 rfl) w3.c135 (Nat.le_of_ble_eq_true rfl) rfl (by omega) (by omega) ?_
              refine x_aload_n (dT U_X11_merge 71 rfl) rfl ?_
              refine x_getfield F_X11_94 (dT U_X11_merge 72 rfl) (hset_ne (by omega) (w3.c70)) (Nat.le_of_ble_eq_true rfl) rfl ?_
              refine x_iload_n (dT U_X11_merge 73 rfl) rfl ?_
              refine x_iconst (dT U_X11_merge 74 rfl) ?_
              refine x_iastore (m9) (dT U_X11_merge 75 rfl) (hset_eq w3.c135) (Nat.le_of_ble_eq_true rfl) rfl (by rw [List.length_set]; omega) (by rw [List.length_set]; omega) ?_
              refine x_aload_n (dT U_X11_merge 76 rfl) rfl ?_
              refine x_iload_n (dT U_X11_merge 77 rfl) rfl ?_
              refine x_invokevirtual (rc' := rc) (rs' := rs) (rc2 := 0) (rs2 := 0) (As := [_]) (st := _) M_X11_add K_X11_330 (dT U_X11_merge 78 rfl) rfl rfl (by decide) rfl rfl (hset_ne (by omega) (hset_ne (by omega) (w3.c70))) (Nat.le_of_ble_eq_true rfl) (by decide) rfl (Nat.le_of_ble_eq_true rfl) rfl (by decide) (Nat.le_of_ble_eq_true rfl) rfl rfl ?_
              refine S_X11_add (hset_ne (by omega) (hset_ne (by omega) (w3.c70))) (hset_eq (hset_eq w3.c135)) (by rw [List.length_set, List.length_set]; exact l2) (by omega) ?_
              refine xRet_some ?_
              refine x_ireturn (dT U_X11_merge 79 rfl) rfl ?_
              exact k (by omega) (by omega) (by omega) _ _ _ (((((Ag.tr (Ag.tr (Ag.tr (Ag.rf 70 142 h) (g1.w (by omega))) (g2.w (by omega))) (g3.w (by omega))).set (by omega)).set (by omega)).set (by omega)).set (by omega)) (w3.ledg (L := (σ.L.n + 1, σ.L.mi, σ.L.pa, ((σ.L.nn.set k9 (-1)).set m9 (-1)).set σ.L.n (((σ.L.nn.getD k9 0) + (σ.L.nn.getD m9 0)) % (σ.p : Int)), ((σ.L.gl.set k9 0).set m9 0).set σ.L.n (MM σ.p (((σ.L.nn.getD k9 0) + (σ.L.nn.getD m9 0)) % (σ.p : Int))))) (fun a9 ha => by rw [hset_fr (by omega), hset_fr (by omega), hset_fr (by omega), hset_fr (by omega)]) (hset_eq (hset_ne (by omega) (hset_ne (by omega) (hset_ne (by omega) (w3.c70))))) (hset_ne (by omega) (hset_eq (hset_eq (hset_eq w3.c135)))))
    · refine xRet_some ?_
      refine x_if_eqj (tgt := 21) (dT U_X11_merge 8 rfl) (by decide) (by decide) ?_
      refine x_iconst (dT U_X11_merge 11 rfl) ?_
      refine x_iconst (dT U_X11_merge 12 rfl) ?_
      refine x_invokevirtual (rc' := rc) (rs' := rs) (rc2 := 0) (rs2 := 0) (As := [_, _]) (st := _) M_X11_lets K_X11_167 (dT U_X11_merge 13 rfl) rfl rfl (by decide) rfl rfl w.c70 (Nat.le_of_ble_eq_true rfl) (by decide) rfl (Nat.le_of_ble_eq_true rfl) rfl (by decide) (Nat.le_of_ble_eq_true rfl) rfl rfl ?_
      refine S_X11_lets0 w (fun h1 g1 w1 => ?_)
      refine xRet_some ?_
      refine x_if_eqj (tgt := 47) (dT U_X11_merge 14 rfl) (by decide) (by decide) ?_
      refine x_iconst (dT U_X11_merge 25 rfl) ?_
      refine x_ireturn (dT U_X11_merge 26 rfl) rfl ?_
      exact e1 (by omega) _ _ (Ag.tr (Ag.rf 70 142 h) (g1.w (by omega))) w1 (by unfold xr; omega)
  · refine xRet_some ?_
    refine x_if_eqj (tgt := 21) (dT U_X11_merge 4 rfl) (by decide) (by decide) ?_
    refine x_iconst (dT U_X11_merge 11 rfl) ?_
    refine x_iconst (dT U_X11_merge 12 rfl) ?_
    refine x_invokevirtual (rc' := rc) (rs' := rs) (rc2 := 0) (rs2 := 0) (As := [_, _]) (st := _) M_X11_lets K_X11_167 (dT U_X11_merge 13 rfl) rfl rfl (by decide) rfl rfl w.c70 (Nat.le_of_ble_eq_true rfl) (by decide) rfl (Nat.le_of_ble_eq_true rfl) rfl (by decide) (Nat.le_of_ble_eq_true rfl) rfl rfl ?_
    refine S_X11_lets0 w (fun h1 g1 w1 => ?_)
    refine xRet_some ?_
    refine x_if_eqj (tgt := 47) (dT U_X11_merge 14 rfl) (by decide) (by decide) ?_
    refine x_iconst (dT U_X11_merge 25 rfl) ?_
    refine x_ireturn (dT U_X11_merge 26 rfl) rfl ?_
    exact e1 (by omega) _ _ (Ag.tr (Ag.rf 70 142 h) (g1.w (by omega))) w1 (by unfold xr; omega)

set_option maxRecDepth 20000 in
set_option maxHeartbeats 1000000 in
theorem S_X11_shown {G : xG} {d rc rs : Nat} {ex : Bool} {h : xH} {Q : xQ} {σ : St} {cc0 : Int} {rr : Nat} {ss : Int} {k9 : Nat} (w : MX σ cc0 rr ss h) (v : INV σ) (hk9 : k9 < σ.L.n) (k : Q (.inl (some (vi (nv σ.p (σ.L.nn.getD k9 0))))) ex h) : X G m_X11_shown d rc rs ex 0 (xe m_X11_shown.2.2.1 [.ref 70, vi (k9 : Int)]) [] h Q := by
  show X G m_X11_shown _ _ _ _ 0 [some (.ref 70), some (vi (k9 : Int))] [] h Q
  have hp := PRb v.p
  have hq := gq_b v.p
  obtain ⟨l1, l2, l3, l4, l5, l6, l7⟩ := v.L
  have ub := l4 k9 hk9
  refine x_aload_n (dT U_X11_shown 0 rfl) rfl ?_
  refine x_getfield F_X11_94 (dT U_X11_shown 1 rfl) w.c70 (Nat.le_of_ble_eq_true rfl) rfl ?_
  refine x_iload_n (dT U_X11_shown 2 rfl) rfl ?_
  refine x_ialoadv (k9) (dT U_X11_shown 3 rfl) w.c135 (Nat.le_of_ble_eq_true rfl) rfl (by omega) (by omega) (show _ = (σ.L.nn.getD k9 0) from rfl) ?_
  refine x_iconst (dT U_X11_shown 4 rfl) ?_
  refine x_icmp_ne (tgt := 14) (dT U_X11_shown 5 rfl) (by decide) (by unfold xr; omega) (by unfold xr; omega) (fun c7 => ?_) (fun c7 => ?_)
  · skip
    refine x_aload_n (dT U_X11_shown 8 rfl) rfl ?_
    refine x_getfield F_X11_7 (dT U_X11_shown 9 rfl) w.c70 (Nat.le_of_ble_eq_true rfl) rfl ?_
    refine x_aload_n (dT U_X11_shown 10 rfl) rfl ?_
    refine x_getfield F_X11_94 (dT U_X11_shown 11 rfl) w.c70 (Nat.le_of_ble_eq_true rfl) rfl ?_
    refine x_iload_n (dT U_X11_shown 12 rfl) rfl ?_
    refine x_ialoadv (k9) (dT U_X11_shown 13 rfl) w.c135 (Nat.le_of_ble_eq_true rfl) rfl (by omega) (by omega) (show _ = (σ.L.nn.getD k9 0) from rfl) ?_
    obtain ⟨ml, m1, m2, m3⟩ := w.pow
    refine x_ialoadv (((σ.L.nn.getD k9 0)).toNat) (dT U_X11_shown 14 rfl) m1 (Nat.le_of_ble_eq_true rfl) (by omega) (by rw [m2]; omega) (by rw [m2]; omega) (show _ = MM σ.p ((σ.L.nn.getD k9 0)) from m3 _ (by omega)) ?_
    refine x_ireturn (dT U_X11_shown 15 rfl) rfl ?_
    first | (rw [show nv σ.p (σ.L.nn.getD k9 0) = 0 from if_pos (by omega)] at k; exact k) | (rw [show nv σ.p (σ.L.nn.getD k9 0) = MM σ.p (σ.L.nn.getD k9 0) from if_neg (by omega)] at k; exact k)
  · skip
    refine x_iconst (dT U_X11_shown 6 rfl) ?_
    refine x_goto (tgt := 25) (dT U_X11_shown 7 rfl) (by decide) ?_
    refine x_ireturn (dT U_X11_shown 15 rfl) rfl ?_
    first | (rw [show nv σ.p (σ.L.nn.getD k9 0) = 0 from if_pos (by omega)] at k; exact k) | (rw [show nv σ.p (σ.L.nn.getD k9 0) = MM σ.p (σ.L.nn.getD k9 0) from if_neg (by omega)] at k; exact k)

set_option maxRecDepth 20000 in
set_option maxHeartbeats 1000000 in
theorem S_X11_note {G : xG} {d rc rs : Nat} {ex : Bool} {h : xH} {Q : xQ} {σ : St} {cc0 : Int} {rr : Nat} {ss : Int} {note : Int} (w : MX σ cc0 rr ss h) (v : INV σ) (h_note : xr note) (e1 : ¬ (inb note σ.L.n) → ∀ h2 z, Ag 70 142 h h2 → MX σ 1 rr ss h2 → xr z → Q (.inl (some (vi z))) ex h2) (k : (inb note σ.L.n) → ∀ h2 r2 s2, Ag 70 142 h h2 → MX σ 0 r2 s2 h2 → Q (.inl (some (vi (nv σ.p (σ.L.nn.getD note.toNat 0))))) ex h2) : X G m_X11_note (d + 2) rc rs ex 0 (xe m_X11_note.2.2.1 [.ref 70, vi note]) [] h Q := by
  show X G m_X11_note _ _ _ _ 0 [some (.ref 70), some (vi note)] [] h Q
  have hp := PRb v.p
  have hq := gq_b v.p
  obtain ⟨l1, l2, l3, l4, l5, l6, l7⟩ := v.L
  refine x_aload_n (dT U_X11_note 0 rfl) rfl ?_
  refine x_aload_n (dT U_X11_note 1 rfl) rfl ?_
  refine x_iload_n (dT U_X11_note 2 rfl) rfl ?_
  refine x_invokevirtual (rc' := rc) (rs' := rs) (rc2 := 0) (rs2 := 0) (As := [_]) (st := _) M_X11_isNote K_X11_333 (dT U_X11_note 3 rfl) rfl rfl (by decide) rfl rfl w.c70 (Nat.le_of_ble_eq_true rfl) (by decide) rfl (Nat.le_of_ble_eq_true rfl) rfl (by decide) (Nat.le_of_ble_eq_true rfl) rfl rfl ?_
  refine S_X11_isNote w v h_note (fun q1 => ?_) (fun q1 => ?_)
  · refine xRet_some ?_
    refine x_iconst (dT U_X11_note 4 rfl) ?_
    refine x_invokevirtual (rc' := rc) (rs' := rs) (rc2 := 0) (rs2 := 0) (As := [_, _]) (st := _) M_X11_lets K_X11_167 (dT U_X11_note 5 rfl) rfl rfl (by decide) rfl rfl w.c70 (Nat.le_of_ble_eq_true rfl) (by decide) rfl (Nat.le_of_ble_eq_true rfl) rfl (by decide) (Nat.le_of_ble_eq_true rfl) rfl rfl ?_
    refine S_X11_lets1 w (fun h1 g1 w1 => ?_)
    refine xRet_some ?_
    obtain ⟨k9, hk9, rfl⟩ : ∃ j : Nat, j < σ.L.n ∧ note = (j : Int) := ⟨note.toNat, by omega, by omega⟩
    try simp only [tnc] at e1 k
    refine x_if_eqn (tgt := 21) (dT U_X11_note 6 rfl) (by decide) (by decide) ?_
    refine x_aload_n (dT U_X11_note 7 rfl) rfl ?_
    refine x_iload_n (dT U_X11_note 8 rfl) rfl ?_
    refine x_invokevirtual (rc' := rc) (rs' := rs) (rc2 := 0) (rs2 := 0) (As := [_]) (st := _) M_X11_shown K_X11_336 (dT U_X11_note 9 rfl) rfl rfl (by decide) rfl rfl w1.c70 (Nat.le_of_ble_eq_true rfl) (by decide) rfl (Nat.le_of_ble_eq_true rfl) rfl (by decide) (Nat.le_of_ble_eq_true rfl) rfl rfl ?_
    refine S_X11_shown w1 v hk9 ?_
    refine xRet_some ?_
    refine x_goto (tgt := 22) (dT U_X11_note 10 rfl) (by decide) ?_
    refine x_ireturn (dT U_X11_note 12 rfl) rfl ?_
    exact k (by omega) _ _ _ (Ag.tr (Ag.rf 70 142 h) (g1.w (by omega))) w1
  · refine xRet_some ?_
    refine x_iconst (dT U_X11_note 4 rfl) ?_
    refine x_invokevirtual (rc' := rc) (rs' := rs) (rc2 := 0) (rs2 := 0) (As := [_, _]) (st := _) M_X11_lets K_X11_167 (dT U_X11_note 5 rfl) rfl rfl (by decide) rfl rfl w.c70 (Nat.le_of_ble_eq_true rfl) (by decide) rfl (Nat.le_of_ble_eq_true rfl) rfl (by decide) (Nat.le_of_ble_eq_true rfl) rfl rfl ?_
    refine S_X11_lets0 w (fun h1 g1 w1 => ?_)
    refine xRet_some ?_
    refine x_if_eqj (tgt := 21) (dT U_X11_note 6 rfl) (by decide) (by decide) ?_
    refine x_iconst (dT U_X11_note 11 rfl) ?_
    refine x_ireturn (dT U_X11_note 12 rfl) rfl ?_
    exact e1 (by omega) _ _ (Ag.tr (Ag.rf 70 142 h) (g1.w (by omega))) w1 (by unfold xr; omega)

set_option maxRecDepth 20000 in
set_option maxHeartbeats 1000000 in
theorem S_X11_isPaid {G : xG} {d rc rs : Nat} {ex : Bool} {h : xH} {Q : xQ} {σ : St} {cc0 : Int} {rr : Nat} {ss : Int} {k9 i : Nat} (w : MX σ cc0 rr ss h) (v : INV σ) (hk9 : k9 < σ.L.n) (hi : i < 4) (k1 : ¬ (σ.L.nn.getD k9 0) = -1 ∧ opn σ.p (σ.R i) (σ.L.nn.getD k9 0) → Q (.inl (some (vi 1))) ex h) (k0 : ¬ (¬ (σ.L.nn.getD k9 0) = -1 ∧ opn σ.p (σ.R i) (σ.L.nn.getD k9 0)) → Q (.inl (some (vi 0))) ex h) : X G m_X11_isPaid (d + 3) rc rs ex 0 (xe m_X11_isPaid.2.2.1 [.ref 70, vi (k9 : Int), vi (i : Int)]) [] h Q := by
  show X G m_X11_isPaid _ _ _ _ 0 [some (.ref 70), some (vi (k9 : Int)), some (vi (i : Int)), none] [] h Q
  have hp := PRb v.p
  have hq := gq_b v.p
  obtain ⟨l1, l2, l3, l4, l5, l6, l7⟩ := v.L
  have ub := l4 k9 hk9
  have ok := (v.R i hi).1
  refine x_aload_n (dT U_X11_isPaid 0 rfl) rfl ?_
  refine x_getfield F_X11_27 (dT U_X11_isPaid 1 rfl) w.c70 (Nat.le_of_ble_eq_true rfl) rfl ?_
  refine x_iload_n (dT U_X11_isPaid 2 rfl) rfl ?_
  refine x_aaload (i) (dT U_X11_isPaid 3 rfl) w.c84 (Nat.le_of_ble_eq_true rfl) (by decide) rfl (mfL_get (by omega)) (Nat.le_of_ble_eq_true rfl) ?_
  refine x_iconst (dT U_X11_isPaid 4 rfl) ?_
  refine x_iaload (0) (dT U_X11_isPaid 5 rfl) (w.forms i hi) (by omega) rfl (by rw [(v.R i hi).1.f24.1]; omega) (by rw [(v.R i hi).1.f24.1]; omega) ?_
  have f0 := ok.f24.2 0
  have db := dg_b (gf (σ.R i).form) 8
  refine x_iconst (dT U_X11_isPaid 6 rfl) ?_
  refine x_icmp_ne (tgt := 28) (dT U_X11_isPaid 7 rfl) (by decide) (by unfold xr; omega) (by unfold xr; omega) (fun c9 => ?_) (fun c9 => ?_)
  · skip
    refine x_iconst (dT U_X11_isPaid 16 rfl) ?_
    refine x_istore_n (ls' := [some (.ref _), some (vi _), some (vi _), some (vi _)]) (dT U_X11_isPaid 17 rfl) (by decide) rfl ?_
    refine x_aload_n (dT U_X11_isPaid 18 rfl) rfl ?_
    refine x_getfield F_X11_94 (dT U_X11_isPaid 19 rfl) w.c70 (Nat.le_of_ble_eq_true rfl) rfl ?_
    refine x_iload_n (dT U_X11_isPaid 20 rfl) rfl ?_
    refine x_ialoadv (k9) (dT U_X11_isPaid 21 rfl) w.c135 (Nat.le_of_ble_eq_true rfl) rfl (by omega) (by omega) (show _ = (σ.L.nn.getD k9 0) from rfl) ?_
    refine x_iconst (dT U_X11_isPaid 22 rfl) ?_
    refine x_icmp_eq (tgt := 90) (dT U_X11_isPaid 23 rfl) (by decide) (by unfold xr; omega) (by unfold xr; omega) (fun c37 => ?_) (fun c37 => ?_)
    · skip
      refine x_iconst (dT U_X11_isPaid 52 rfl) ?_
      refine x_zreturn (dT U_X11_isPaid 53 rfl) rfl (by omega) ?_
      first | exact k0 (fun z => by have := z.1; omega) | exact k0 (fun z => ai z.2.1) | exact k0 (fun z => by have := z.2.2.1; omega) | exact k0 (fun z => by have := z.2.2.2.1; omega) | exact k0 (fun z => by have := z.2.2.2.2.1; omega) | exact k0 (fun z => by have := z.2.2.2.2.2; omega) | exact k1 ⟨by omega, ai, by omega, by omega, by omega, by omega⟩
    · skip
      refine x_aload_n (dT U_X11_isPaid 24 rfl) rfl ?_
      refine x_iload_n (dT U_X11_isPaid 25 rfl) rfl ?_
      refine x_invokevirtual (rc' := rc) (rs' := rs) (rc2 := 0) (rs2 := 0) (As := [_]) (st := _) M_X11_accepted K_X11_254 (dT U_X11_isPaid 26 rfl) rfl rfl (by decide) rfl rfl w.c70 (Nat.le_of_ble_eq_true rfl) (by decide) rfl (Nat.le_of_ble_eq_true rfl) rfl (by decide) (Nat.le_of_ble_eq_true rfl) rfl rfl ?_
      refine S_X11_accepted w v hi (fun ai => ?_) (fun ai => ?_)
      · refine xRet_some ?_
        refine x_if_eqn (tgt := 90) (dT U_X11_isPaid 27 rfl) (by decide) (by decide) ?_
        refine x_aload_n (dT U_X11_isPaid 28 rfl) rfl ?_
        refine x_getfield F_X11_24 (dT U_X11_isPaid 29 rfl) w.c70 (Nat.le_of_ble_eq_true rfl) rfl ?_
        refine x_iload_n (dT U_X11_isPaid 30 rfl) rfl ?_
        refine x_ialoadv (i) (dT U_X11_isPaid 31 rfl) w.c83 (Nat.le_of_ble_eq_true rfl) rfl (show i < 5 by omega) (show 5 < 2147483648 by decide) (show _ = (σ.R i).e from t5_get hi) ?_
        refine x_aload_n (dT U_X11_isPaid 32 rfl) rfl ?_
        refine x_getfield F_X11_94 (dT U_X11_isPaid 33 rfl) w.c70 (Nat.le_of_ble_eq_true rfl) rfl ?_
        refine x_iload_n (dT U_X11_isPaid 34 rfl) rfl ?_
        refine x_ialoadv (k9) (dT U_X11_isPaid 35 rfl) w.c135 (Nat.le_of_ble_eq_true rfl) rfl (by omega) (by omega) (show _ = (σ.L.nn.getD k9 0) from rfl) ?_
        have se := ok.e (by have := ai.1; omega)
        refine x_icmp_ne (tgt := 90) (dT U_X11_isPaid 36 rfl) (by decide) (by unfold xr; omega) (by unfold xr; omega) (fun c60 => ?_) (fun c60 => ?_)
        · skip
          refine x_iconst (dT U_X11_isPaid 52 rfl) ?_
          refine x_zreturn (dT U_X11_isPaid 53 rfl) rfl (by omega) ?_
          first | exact k0 (fun z => by have := z.1; omega) | exact k0 (fun z => ai z.2.1) | exact k0 (fun z => by have := z.2.2.1; omega) | exact k0 (fun z => by have := z.2.2.2.1; omega) | exact k0 (fun z => by have := z.2.2.2.2.1; omega) | exact k0 (fun z => by have := z.2.2.2.2.2; omega) | exact k1 ⟨by omega, ai, by omega, by omega, by omega, by omega⟩
        · skip
          refine x_iload_n (dT U_X11_isPaid 37 rfl) rfl ?_
          refine x_if_eqj (tgt := 90) (dT U_X11_isPaid 38 rfl) (by decide) (by decide) ?_
          refine x_iconst (dT U_X11_isPaid 52 rfl) ?_
          refine x_zreturn (dT U_X11_isPaid 53 rfl) rfl (by omega) ?_
          first | exact k0 (fun z => by have := z.1; omega) | exact k0 (fun z => ai z.2.1) | exact k0 (fun z => by have := z.2.2.1; omega) | exact k0 (fun z => by have := z.2.2.2.1; omega) | exact k0 (fun z => by have := z.2.2.2.2.1; omega) | exact k0 (fun z => by have := z.2.2.2.2.2; omega) | exact k1 ⟨by omega, ai, by omega, by omega, by omega, by omega⟩
      · refine xRet_some ?_
        refine x_if_eqj (tgt := 90) (dT U_X11_isPaid 27 rfl) (by decide) (by decide) ?_
        refine x_iconst (dT U_X11_isPaid 52 rfl) ?_
        refine x_zreturn (dT U_X11_isPaid 53 rfl) rfl (by omega) ?_
        first | exact k0 (fun z => by have := z.1; omega) | exact k0 (fun z => ai z.2.1) | exact k0 (fun z => by have := z.2.2.1; omega) | exact k0 (fun z => by have := z.2.2.2.1; omega) | exact k0 (fun z => by have := z.2.2.2.2.1; omega) | exact k0 (fun z => by have := z.2.2.2.2.2; omega) | exact k1 ⟨by omega, ai, by omega, by omega, by omega, by omega⟩
  · skip
    refine x_aload_n (dT U_X11_isPaid 8 rfl) rfl ?_
    refine x_getfield F_X11_27 (dT U_X11_isPaid 9 rfl) w.c70 (Nat.le_of_ble_eq_true rfl) rfl ?_
    refine x_iload_n (dT U_X11_isPaid 10 rfl) rfl ?_
    refine x_aaload (i) (dT U_X11_isPaid 11 rfl) w.c84 (Nat.le_of_ble_eq_true rfl) (by decide) rfl (mfL_get (by omega)) (Nat.le_of_ble_eq_true rfl) ?_
    refine x_invokestatic (rc' := rc) (rs' := rs) (rc2 := 0) (rs2 := 0) (As := [_]) (st := _) M_X11_top K_X11_177 (dT U_X11_isPaid 12 rfl) rfl rfl rfl rfl (Nat.le_of_ble_eq_true rfl) rfl (by decide) (Nat.le_of_ble_eq_true rfl) rfl rfl ?_
    refine S_X11_top (w.forms i hi) (by omega) (by rw [ok.f24.1]; omega) (fun t => by have := ok.f24.2 t; unfold xr; omega) ?_
    rw [ok.f24.1]
    refine xRet_some ?_
    refine x_if_ne (tgt := 28) (dT U_X11_isPaid 13 rfl) (by decide) (by unfold xr; omega) (fun c21 => ?_) (fun c21 => ?_)
    · skip
      refine x_iconst (dT U_X11_isPaid 16 rfl) ?_
      refine x_istore_n (ls' := [some (.ref _), some (vi _), some (vi _), some (vi _)]) (dT U_X11_isPaid 17 rfl) (by decide) rfl ?_
      refine x_aload_n (dT U_X11_isPaid 18 rfl) rfl ?_
      refine x_getfield F_X11_94 (dT U_X11_isPaid 19 rfl) w.c70 (Nat.le_of_ble_eq_true rfl) rfl ?_
      refine x_iload_n (dT U_X11_isPaid 20 rfl) rfl ?_
      refine x_ialoadv (k9) (dT U_X11_isPaid 21 rfl) w.c135 (Nat.le_of_ble_eq_true rfl) rfl (by omega) (by omega) (show _ = (σ.L.nn.getD k9 0) from rfl) ?_
      refine x_iconst (dT U_X11_isPaid 22 rfl) ?_
      refine x_icmp_eq (tgt := 90) (dT U_X11_isPaid 23 rfl) (by decide) (by unfold xr; omega) (by unfold xr; omega) (fun c37 => ?_) (fun c37 => ?_)
      · skip
        refine x_iconst (dT U_X11_isPaid 52 rfl) ?_
        refine x_zreturn (dT U_X11_isPaid 53 rfl) rfl (by omega) ?_
        first | exact k0 (fun z => by have := z.1; omega) | exact k0 (fun z => ai z.2.1) | exact k0 (fun z => by have := z.2.2.1; omega) | exact k0 (fun z => by have := z.2.2.2.1; omega) | exact k0 (fun z => by have := z.2.2.2.2.1; omega) | exact k0 (fun z => by have := z.2.2.2.2.2; omega) | exact k1 ⟨by omega, ai, by omega, by omega, by omega, by omega⟩
      · skip
        refine x_aload_n (dT U_X11_isPaid 24 rfl) rfl ?_
        refine x_iload_n (dT U_X11_isPaid 25 rfl) rfl ?_
        refine x_invokevirtual (rc' := rc) (rs' := rs) (rc2 := 0) (rs2 := 0) (As := [_]) (st := _) M_X11_accepted K_X11_254 (dT U_X11_isPaid 26 rfl) rfl rfl (by decide) rfl rfl w.c70 (Nat.le_of_ble_eq_true rfl) (by decide) rfl (Nat.le_of_ble_eq_true rfl) rfl (by decide) (Nat.le_of_ble_eq_true rfl) rfl rfl ?_
        refine S_X11_accepted w v hi (fun ai => ?_) (fun ai => ?_)
        · refine xRet_some ?_
          refine x_if_eqn (tgt := 90) (dT U_X11_isPaid 27 rfl) (by decide) (by decide) ?_
          refine x_aload_n (dT U_X11_isPaid 28 rfl) rfl ?_
          refine x_getfield F_X11_24 (dT U_X11_isPaid 29 rfl) w.c70 (Nat.le_of_ble_eq_true rfl) rfl ?_
          refine x_iload_n (dT U_X11_isPaid 30 rfl) rfl ?_
          refine x_ialoadv (i) (dT U_X11_isPaid 31 rfl) w.c83 (Nat.le_of_ble_eq_true rfl) rfl (show i < 5 by omega) (show 5 < 2147483648 by decide) (show _ = (σ.R i).e from t5_get hi) ?_
          refine x_aload_n (dT U_X11_isPaid 32 rfl) rfl ?_
          refine x_getfield F_X11_94 (dT U_X11_isPaid 33 rfl) w.c70 (Nat.le_of_ble_eq_true rfl) rfl ?_
          refine x_iload_n (dT U_X11_isPaid 34 rfl) rfl ?_
          refine x_ialoadv (k9) (dT U_X11_isPaid 35 rfl) w.c135 (Nat.le_of_ble_eq_true rfl) rfl (by omega) (by omega) (show _ = (σ.L.nn.getD k9 0) from rfl) ?_
          have se := ok.e (by have := ai.1; omega)
          refine x_icmp_ne (tgt := 90) (dT U_X11_isPaid 36 rfl) (by decide) (by unfold xr; omega) (by unfold xr; omega) (fun c60 => ?_) (fun c60 => ?_)
          · skip
            refine x_iconst (dT U_X11_isPaid 52 rfl) ?_
            refine x_zreturn (dT U_X11_isPaid 53 rfl) rfl (by omega) ?_
            first | exact k0 (fun z => by have := z.1; omega) | exact k0 (fun z => ai z.2.1) | exact k0 (fun z => by have := z.2.2.1; omega) | exact k0 (fun z => by have := z.2.2.2.1; omega) | exact k0 (fun z => by have := z.2.2.2.2.1; omega) | exact k0 (fun z => by have := z.2.2.2.2.2; omega) | exact k1 ⟨by omega, ai, by omega, by omega, by omega, by omega⟩
          · skip
            refine x_iload_n (dT U_X11_isPaid 37 rfl) rfl ?_
            refine x_if_eqj (tgt := 90) (dT U_X11_isPaid 38 rfl) (by decide) (by decide) ?_
            refine x_iconst (dT U_X11_isPaid 52 rfl) ?_
            refine x_zreturn (dT U_X11_isPaid 53 rfl) rfl (by omega) ?_
            first | exact k0 (fun z => by have := z.1; omega) | exact k0 (fun z => ai z.2.1) | exact k0 (fun z => by have := z.2.2.1; omega) | exact k0 (fun z => by have := z.2.2.2.1; omega) | exact k0 (fun z => by have := z.2.2.2.2.1; omega) | exact k0 (fun z => by have := z.2.2.2.2.2; omega) | exact k1 ⟨by omega, ai, by omega, by omega, by omega, by omega⟩
        · refine xRet_some ?_
          refine x_if_eqj (tgt := 90) (dT U_X11_isPaid 27 rfl) (by decide) (by decide) ?_
          refine x_iconst (dT U_X11_isPaid 52 rfl) ?_
          refine x_zreturn (dT U_X11_isPaid 53 rfl) rfl (by omega) ?_
          first | exact k0 (fun z => by have := z.1; omega) | exact k0 (fun z => ai z.2.1) | exact k0 (fun z => by have := z.2.2.1; omega) | exact k0 (fun z => by have := z.2.2.2.1; omega) | exact k0 (fun z => by have := z.2.2.2.2.1; omega) | exact k0 (fun z => by have := z.2.2.2.2.2; omega) | exact k1 ⟨by omega, ai, by omega, by omega, by omega, by omega⟩
    · skip
      refine x_iconst (dT U_X11_isPaid 14 rfl) ?_
      refine x_goto (tgt := 29) (dT U_X11_isPaid 15 rfl) (by decide) ?_
      refine x_istore_n (ls' := [some (.ref _), some (vi _), some (vi _), some (vi _)]) (dT U_X11_isPaid 17 rfl) (by decide) rfl ?_
      refine x_aload_n (dT U_X11_isPaid 18 rfl) rfl ?_
      refine x_getfield F_X11_94 (dT U_X11_isPaid 19 rfl) w.c70 (Nat.le_of_ble_eq_true rfl) rfl ?_
      refine x_iload_n (dT U_X11_isPaid 20 rfl) rfl ?_
      refine x_ialoadv (k9) (dT U_X11_isPaid 21 rfl) w.c135 (Nat.le_of_ble_eq_true rfl) rfl (by omega) (by omega) (show _ = (σ.L.nn.getD k9 0) from rfl) ?_
      refine x_iconst (dT U_X11_isPaid 22 rfl) ?_
      refine x_icmp_eq (tgt := 90) (dT U_X11_isPaid 23 rfl) (by decide) (by unfold xr; omega) (by unfold xr; omega) (fun c37 => ?_) (fun c37 => ?_)
      · skip
        refine x_iconst (dT U_X11_isPaid 52 rfl) ?_
        refine x_zreturn (dT U_X11_isPaid 53 rfl) rfl (by omega) ?_
        first | exact k0 (fun z => by have := z.1; omega) | exact k0 (fun z => ai z.2.1) | exact k0 (fun z => by have := z.2.2.1; omega) | exact k0 (fun z => by have := z.2.2.2.1; omega) | exact k0 (fun z => by have := z.2.2.2.2.1; omega) | exact k0 (fun z => by have := z.2.2.2.2.2; omega) | exact k1 ⟨by omega, ai, by omega, by omega, by omega, by omega⟩
      · skip
        refine x_aload_n (dT U_X11_isPaid 24 rfl) rfl ?_
        refine x_iload_n (dT U_X11_isPaid 25 rfl) rfl ?_
        refine x_invokevirtual (rc' := rc) (rs' := rs) (rc2 := 0) (rs2 := 0) (As := [_]) (st := _) M_X11_accepted K_X11_254 (dT U_X11_isPaid 26 rfl) rfl rfl (by decide) rfl rfl w.c70 (Nat.le_of_ble_eq_true rfl) (by decide) rfl (Nat.le_of_ble_eq_true rfl) rfl (by decide) (Nat.le_of_ble_eq_true rfl) rfl rfl ?_
        refine S_X11_accepted w v hi (fun ai => ?_) (fun ai => ?_)
        · refine xRet_some ?_
          refine x_if_eqn (tgt := 90) (dT U_X11_isPaid 27 rfl) (by decide) (by decide) ?_
          refine x_aload_n (dT U_X11_isPaid 28 rfl) rfl ?_
          refine x_getfield F_X11_24 (dT U_X11_isPaid 29 rfl) w.c70 (Nat.le_of_ble_eq_true rfl) rfl ?_
          refine x_iload_n (dT U_X11_isPaid 30 rfl) rfl ?_
          refine x_ialoadv (i) (dT U_X11_isPaid 31 rfl) w.c83 (Nat.le_of_ble_eq_true rfl) rfl (show i < 5 by omega) (show 5 < 2147483648 by decide) (show _ = (σ.R i).e from t5_get hi) ?_
          refine x_aload_n (dT U_X11_isPaid 32 rfl) rfl ?_
          refine x_getfield F_X11_94 (dT U_X11_isPaid 33 rfl) w.c70 (Nat.le_of_ble_eq_true rfl) rfl ?_
          refine x_iload_n (dT U_X11_isPaid 34 rfl) rfl ?_
          refine x_ialoadv (k9) (dT U_X11_isPaid 35 rfl) w.c135 (Nat.le_of_ble_eq_true rfl) rfl (by omega) (by omega) (show _ = (σ.L.nn.getD k9 0) from rfl) ?_
          have se := ok.e (by have := ai.1; omega)
          refine x_icmp_ne (tgt := 90) (dT U_X11_isPaid 36 rfl) (by decide) (by unfold xr; omega) (by unfold xr; omega) (fun c60 => ?_) (fun c60 => ?_)
          · skip
            refine x_iconst (dT U_X11_isPaid 52 rfl) ?_
            refine x_zreturn (dT U_X11_isPaid 53 rfl) rfl (by omega) ?_
            first | exact k0 (fun z => by have := z.1; omega) | exact k0 (fun z => ai z.2.1) | exact k0 (fun z => by have := z.2.2.1; omega) | exact k0 (fun z => by have := z.2.2.2.1; omega) | exact k0 (fun z => by have := z.2.2.2.2.1; omega) | exact k0 (fun z => by have := z.2.2.2.2.2; omega) | exact k1 ⟨by omega, ai, by omega, by omega, by omega, by omega⟩
          · skip
            refine x_iload_n (dT U_X11_isPaid 37 rfl) rfl ?_
            refine x_if_eqn (tgt := 90) (dT U_X11_isPaid 38 rfl) (by decide) (by decide) ?_
            refine x_aload_n (dT U_X11_isPaid 39 rfl) rfl ?_
            refine x_getfield F_X11_49 (dT U_X11_isPaid 40 rfl) w.c70 (Nat.le_of_ble_eq_true rfl) rfl ?_
            refine x_iload_n (dT U_X11_isPaid 41 rfl) rfl ?_
            refine x_ialoadv (i) (dT U_X11_isPaid 42 rfl) w.c101 (Nat.le_of_ble_eq_true rfl) rfl (show i < 5 by omega) (show 5 < 2147483648 by decide) (show _ = (σ.R i).c from t5_get hi) ?_
            refine x_aload_n (dT U_X11_isPaid 43 rfl) rfl ?_
            refine x_iload_n (dT U_X11_isPaid 44 rfl) rfl ?_
            refine x_invokevirtual (rc' := rc) (rs' := rs) (rc2 := 0) (rs2 := 0) (As := [_]) (st := _) M_X11_transcript K_X11_251 (dT U_X11_isPaid 45 rfl) rfl rfl (by decide) rfl rfl w.c70 (Nat.le_of_ble_eq_true rfl) (by decide) rfl (Nat.le_of_ble_eq_true rfl) rfl (by decide) (Nat.le_of_ble_eq_true rfl) rfl rfl ?_
            refine S_X11_transcript w v hi (by have := ai.1; omega) ?_
            have tb : 0 ≤ trs σ.p (σ.R i) ∧ trs σ.p (σ.R i) < 251 := sl_b _ _
            refine xRet_some ?_
            refine x_aload_n (dT U_X11_isPaid 46 rfl) rfl ?_
            refine x_getfield F_X11_130 (dT U_X11_isPaid 47 rfl) w.c70 (Nat.le_of_ble_eq_true rfl) rfl ?_
            refine x_irem (dT U_X11_isPaid 48 rfl) (by unfold xr; omega) (by unfold xr; omega) (by omega) ?_
            rw [Int.tmod_eq_emod_of_nonneg tb.1]
            have sc := ok.c (by have := ai.1; omega)
            have tm := modb (z := trs σ.p (σ.R i)) (p := (σ.p : Int)) (by omega)
            refine x_icmp_ne (tgt := 90) (dT U_X11_isPaid 49 rfl) (by decide) (by unfold xr; omega) (by unfold xr; omega) (fun c83 => ?_) (fun c83 => ?_)
            · skip
              refine x_iconst (dT U_X11_isPaid 52 rfl) ?_
              refine x_zreturn (dT U_X11_isPaid 53 rfl) rfl (by omega) ?_
              first | exact k0 (fun z => by have := z.1; omega) | exact k0 (fun z => ai z.2.1) | exact k0 (fun z => by have := z.2.2.1; omega) | exact k0 (fun z => by have := z.2.2.2.1; omega) | exact k0 (fun z => by have := z.2.2.2.2.1; omega) | exact k0 (fun z => by have := z.2.2.2.2.2; omega) | exact k1 ⟨by omega, ai, by omega, by omega, by omega, by omega⟩
            · skip
              refine x_iconst (dT U_X11_isPaid 50 rfl) ?_
              refine x_goto (tgt := 91) (dT U_X11_isPaid 51 rfl) (by decide) ?_
              refine x_zreturn (dT U_X11_isPaid 53 rfl) rfl (by omega) ?_
              first | exact k0 (fun z => by have := z.1; omega) | exact k0 (fun z => ai z.2.1) | exact k0 (fun z => by have := z.2.2.1; omega) | exact k0 (fun z => by have := z.2.2.2.1; omega) | exact k0 (fun z => by have := z.2.2.2.2.1; omega) | exact k0 (fun z => by have := z.2.2.2.2.2; omega) | exact k1 ⟨by omega, ai, by omega, by omega, by omega, by omega⟩
        · refine xRet_some ?_
          refine x_if_eqj (tgt := 90) (dT U_X11_isPaid 27 rfl) (by decide) (by decide) ?_
          refine x_iconst (dT U_X11_isPaid 52 rfl) ?_
          refine x_zreturn (dT U_X11_isPaid 53 rfl) rfl (by omega) ?_
          first | exact k0 (fun z => by have := z.1; omega) | exact k0 (fun z => ai z.2.1) | exact k0 (fun z => by have := z.2.2.1; omega) | exact k0 (fun z => by have := z.2.2.2.1; omega) | exact k0 (fun z => by have := z.2.2.2.2.1; omega) | exact k0 (fun z => by have := z.2.2.2.2.2; omega) | exact k1 ⟨by omega, ai, by omega, by omega, by omega, by omega⟩

set_option maxRecDepth 20000 in
set_option maxHeartbeats 1000000 in
theorem S_X11_pay {G : xG} {d rc rs : Nat} {ex : Bool} {h : xH} {Q : xQ} {σ : St} {cc0 : Int} {rr : Nat} {ss : Int} {note run : Int} (w : MX σ cc0 rr ss h) (v : INV σ) (h_note : xr note) (h_run : xr run) (e1 : ¬ (inb note σ.L.n ∧ inb run 4) → ∀ h2 z, Ag 70 142 h h2 → MX σ 1 rr ss h2 → xr z → Q (.inl (some (vi z))) ex h2) (e2 : (inb note σ.L.n ∧ inb run 4) → ¬ (¬ (σ.L.nn.getD note.toNat 0) = -1 ∧ opn σ.p (σ.R run.toNat) (σ.L.nn.getD note.toNat 0)) → ∀ h2 z, Ag 70 142 h h2 → MX σ 2 rr ss h2 → xr z → Q (.inl (some (vi z))) ex h2) (k : (inb note σ.L.n ∧ inb run 4) → (¬ (σ.L.nn.getD note.toNat 0) = -1 ∧ opn σ.p (σ.R run.toNat) (σ.L.nn.getD note.toNat 0)) → ∀ h2 r2 s2, Ag 70 142 h h2 → MX (σ.sL (σ.L.n, σ.L.mi, (σ.L.pa + (σ.L.nn.getD note.toNat 0)) % (σ.p : Int), σ.L.nn.set note.toNat (-1), σ.L.gl.set note.toNat 0)) 0 r2 s2 h2 → Q (.inl (some (vi ((σ.R run.toNat).v)))) ex h2) : X G m_X11_pay (d + 4) rc rs ex 0 (xe m_X11_pay.2.2.1 [.ref 70, vi note, vi run]) [] h Q := by
  show X G m_X11_pay _ _ _ _ 0 [some (.ref 70), some (vi note), some (vi run)] [] h Q
  have hp := PRb v.p
  have hq := gq_b v.p
  obtain ⟨l1, l2, l3, l4, l5, l6, l7⟩ := v.L
  refine x_aload_n (dT U_X11_pay 0 rfl) rfl ?_
  refine x_aload_n (dT U_X11_pay 1 rfl) rfl ?_
  refine x_iload_n (dT U_X11_pay 2 rfl) rfl ?_
  refine x_invokevirtual (rc' := rc) (rs' := rs) (rc2 := 0) (rs2 := 0) (As := [_]) (st := _) M_X11_isNote K_X11_333 (dT U_X11_pay 3 rfl) rfl rfl (by decide) rfl rfl w.c70 (Nat.le_of_ble_eq_true rfl) (by decide) rfl (Nat.le_of_ble_eq_true rfl) rfl (by decide) (Nat.le_of_ble_eq_true rfl) rfl rfl ?_
  refine S_X11_isNote w v h_note (fun q1 => ?_) (fun q1 => ?_)
  · refine xRet_some ?_
    refine x_if_eqn (tgt := 20) (dT U_X11_pay 4 rfl) (by decide) (by decide) ?_
    refine x_iload_n (dT U_X11_pay 5 rfl) rfl ?_
    refine x_invokestatic (rc' := rc) (rs' := rs) (rc2 := 0) (rs2 := 0) (As := [_]) (st := _) M_X11_isRun K_X11_244 (dT U_X11_pay 6 rfl) rfl rfl rfl rfl (Nat.le_of_ble_eq_true rfl) rfl (by decide) (Nat.le_of_ble_eq_true rfl) rfl rfl ?_
    refine S_X11_isRun h_run (fun q2 => ?_) (fun q2 => ?_)
    · refine xRet_some ?_
      refine x_if_eqn (tgt := 20) (dT U_X11_pay 7 rfl) (by decide) (by decide) ?_
      refine x_iconst (dT U_X11_pay 8 rfl) ?_
      refine x_goto (tgt := 21) (dT U_X11_pay 9 rfl) (by decide) ?_
      refine x_iconst (dT U_X11_pay 11 rfl) ?_
      refine x_invokevirtual (rc' := rc) (rs' := rs) (rc2 := 0) (rs2 := 0) (As := [_, _]) (st := _) M_X11_lets K_X11_167 (dT U_X11_pay 12 rfl) rfl rfl (by decide) rfl rfl w.c70 (Nat.le_of_ble_eq_true rfl) (by decide) rfl (Nat.le_of_ble_eq_true rfl) rfl (by decide) (Nat.le_of_ble_eq_true rfl) rfl rfl ?_
      refine S_X11_lets1 w (fun h1 g1 w1 => ?_)
      refine xRet_some ?_
      obtain ⟨k9, hk9, rfl⟩ : ∃ j : Nat, j < σ.L.n ∧ note = (j : Int) := ⟨note.toNat, by omega, by omega⟩
      try simp only [tnc] at e1 e2 k
      obtain ⟨i, hi, rfl⟩ : ∃ j : Nat, j < 4 ∧ run = (j : Int) := ⟨run.toNat, by omega, by omega⟩
      try simp only [tnc] at e1 e2 k
      refine x_if_eqn (tgt := 42) (dT U_X11_pay 13 rfl) (by decide) (by decide) ?_
      refine x_aload_n (dT U_X11_pay 14 rfl) rfl ?_
      refine x_aload_n (dT U_X11_pay 15 rfl) rfl ?_
      refine x_iload_n (dT U_X11_pay 16 rfl) rfl ?_
      refine x_iload_n (dT U_X11_pay 17 rfl) rfl ?_
      refine x_invokevirtual (rc' := rc) (rs' := rs) (rc2 := 0) (rs2 := 0) (As := [_, _]) (st := _) M_X11_isPaid K_X11_339 (dT U_X11_pay 18 rfl) rfl rfl (by decide) rfl rfl w1.c70 (Nat.le_of_ble_eq_true rfl) (by decide) rfl (Nat.le_of_ble_eq_true rfl) rfl (by decide) (Nat.le_of_ble_eq_true rfl) rfl rfl ?_
      refine S_X11_isPaid w1 v hk9 hi (fun op => ?_) (fun op => ?_)
      · refine xRet_some ?_
        refine x_iconst (dT U_X11_pay 19 rfl) ?_
        refine x_invokevirtual (rc' := rc) (rs' := rs) (rc2 := 0) (rs2 := 0) (As := [_, _]) (st := _) M_X11_lets K_X11_167 (dT U_X11_pay 20 rfl) rfl rfl (by decide) rfl rfl w1.c70 (Nat.le_of_ble_eq_true rfl) (by decide) rfl (Nat.le_of_ble_eq_true rfl) rfl (by decide) (Nat.le_of_ble_eq_true rfl) rfl rfl ?_
        refine S_X11_lets1 w1 (fun h2 g2 w2 => ?_)
        refine xRet_some ?_
        refine x_if_nej (tgt := 44) (dT U_X11_pay 21 rfl) (by decide) (by decide) ?_
        refine x_aload_n (dT U_X11_pay 24 rfl) rfl ?_
        refine x_getfield F_X11_94 (dT U_X11_pay 25 rfl) w2.c70 (Nat.le_of_ble_eq_true rfl) rfl ?_
        refine x_iload_n (dT U_X11_pay 26 rfl) rfl ?_
        refine x_iconst (dT U_X11_pay 27 rfl) ?_
        refine x_iastore (k9) (dT U_X11_pay 28 rfl) w2.c135 (Nat.le_of_ble_eq_true rfl) rfl (by omega) (by omega) ?_
        refine x_aload_n (dT U_X11_pay 29 rfl) rfl ?_
        refine x_getfield F_X11_30 (dT U_X11_pay 30 rfl) (hset_ne (by omega) (w2.c70)) (Nat.le_of_ble_eq_true rfl) rfl ?_
        refine x_iload_n (dT U_X11_pay 31 rfl) rfl ?_
        refine x_ialoadv (i) (dT U_X11_pay 32 rfl) (hset_ne (by omega) (w2.c90)) (Nat.le_of_ble_eq_true rfl) rfl (show i < 5 by omega) (show 5 < 2147483648 by decide) (show _ = (σ.R i).v from t5_get hi) ?_
        refine x_ireturn (dT U_X11_pay 33 rfl) rfl ?_
        exact k (by omega) op _ _ _ ((Ag.tr (Ag.tr (Ag.rf 70 142 h) (g1.w (by omega))) (g2.w (by omega))).set (by omega)) (w2.ledg (L := (σ.L.n, σ.L.mi, (σ.L.pa + (σ.L.nn.getD k9 0)) % (σ.p : Int), σ.L.nn.set k9 (-1), σ.L.gl.set k9 0)) (fun a9 ha => by rw [hset_fr (by omega)]) (hset_ne (by omega) (w2.c70)) (hset_eq w2.c135))
      · refine xRet_some ?_
        refine x_iconst (dT U_X11_pay 19 rfl) ?_
        refine x_invokevirtual (rc' := rc) (rs' := rs) (rc2 := 0) (rs2 := 0) (As := [_, _]) (st := _) M_X11_lets K_X11_167 (dT U_X11_pay 20 rfl) rfl rfl (by decide) rfl rfl w1.c70 (Nat.le_of_ble_eq_true rfl) (by decide) rfl (Nat.le_of_ble_eq_true rfl) rfl (by decide) (Nat.le_of_ble_eq_true rfl) rfl rfl ?_
        refine S_X11_lets0 w1 (fun h2 g2 w2 => ?_)
        refine xRet_some ?_
        refine x_if_nen (tgt := 44) (dT U_X11_pay 21 rfl) (by decide) (by decide) ?_
        refine x_iconst (dT U_X11_pay 22 rfl) ?_
        refine x_ireturn (dT U_X11_pay 23 rfl) rfl ?_
        exact e2 (by omega) op _ _ (Ag.tr (Ag.tr (Ag.rf 70 142 h) (g1.w (by omega))) (g2.w (by omega))) w2 (by unfold xr; omega)
    · refine xRet_some ?_
      refine x_if_eqj (tgt := 20) (dT U_X11_pay 7 rfl) (by decide) (by decide) ?_
      refine x_iconst (dT U_X11_pay 10 rfl) ?_
      refine x_iconst (dT U_X11_pay 11 rfl) ?_
      refine x_invokevirtual (rc' := rc) (rs' := rs) (rc2 := 0) (rs2 := 0) (As := [_, _]) (st := _) M_X11_lets K_X11_167 (dT U_X11_pay 12 rfl) rfl rfl (by decide) rfl rfl w.c70 (Nat.le_of_ble_eq_true rfl) (by decide) rfl (Nat.le_of_ble_eq_true rfl) rfl (by decide) (Nat.le_of_ble_eq_true rfl) rfl rfl ?_
      refine S_X11_lets0 w (fun h1 g1 w1 => ?_)
      refine xRet_some ?_
      refine x_if_eqj (tgt := 42) (dT U_X11_pay 13 rfl) (by decide) (by decide) ?_
      refine x_iconst (dT U_X11_pay 22 rfl) ?_
      refine x_ireturn (dT U_X11_pay 23 rfl) rfl ?_
      exact e1 (by omega) _ _ (Ag.tr (Ag.rf 70 142 h) (g1.w (by omega))) w1 (by unfold xr; omega)
  · refine xRet_some ?_
    refine x_if_eqj (tgt := 20) (dT U_X11_pay 4 rfl) (by decide) (by decide) ?_
    refine x_iconst (dT U_X11_pay 10 rfl) ?_
    refine x_iconst (dT U_X11_pay 11 rfl) ?_
    refine x_invokevirtual (rc' := rc) (rs' := rs) (rc2 := 0) (rs2 := 0) (As := [_, _]) (st := _) M_X11_lets K_X11_167 (dT U_X11_pay 12 rfl) rfl rfl (by decide) rfl rfl w.c70 (Nat.le_of_ble_eq_true rfl) (by decide) rfl (Nat.le_of_ble_eq_true rfl) rfl (by decide) (Nat.le_of_ble_eq_true rfl) rfl rfl ?_
    refine S_X11_lets0 w (fun h1 g1 w1 => ?_)
    refine xRet_some ?_
    refine x_if_eqj (tgt := 42) (dT U_X11_pay 13 rfl) (by decide) (by decide) ?_
    refine x_iconst (dT U_X11_pay 22 rfl) ?_
    refine x_ireturn (dT U_X11_pay 23 rfl) rfl ?_
    exact e1 (by omega) _ _ (Ag.tr (Ag.rf 70 142 h) (g1.w (by omega))) w1 (by unfold xr; omega)

set_option maxRecDepth 20000 in
set_option maxHeartbeats 1000000 in
theorem S_X11_standing {G : xG} {d rc rs : Nat} {ex : Bool} {h : xH} {Q : xQ} {σ : St} {cc0 : Int} {rr : Nat} {ss : Int} (w : MX σ cc0 rr ss h) (v : INV σ) (k : ∀ h2 r2 s2, Ag 70 142 h h2 → MX σ 0 r2 s2 h2 → Q (.inl (some (vi (MM σ.p (stnd σ.p (gf σ.L.nn) σ.L.n))))) ex h2) : X G m_X11_standing (d + 1) rc rs ex 0 (xe m_X11_standing.2.2.1 [.ref 70]) [] h Q := by
  show X G m_X11_standing _ _ _ _ 0 [some (.ref 70), none, none, none] [] h Q
  have hp := PRb v.p
  have hq := gq_b v.p
  obtain ⟨l1, l2, l3, l4, l5, l6, l7⟩ := v.L
  refine x_aload_n (dT U_X11_standing 0 rfl) rfl ?_
  refine x_iconst (dT U_X11_standing 1 rfl) ?_
  refine x_putfield F_X11_122 (dT U_X11_standing 2 rfl) w.c70 (Nat.le_of_ble_eq_true rfl) (Nat.le_of_ble_eq_true rfl) rfl rfl ?_
  change X G _ _ _ _ _ _ _ _ (h.set 70 (mC 0 σ.p σ.G.n σ.g.b rr σ.g.c ss σ.g.z σ.g.o σ.L.n)) _
  have w1 := w.code (e := 0) (h2 := h.set 70 (mC 0 σ.p σ.G.n σ.g.b rr σ.g.c ss σ.g.z σ.g.o σ.L.n)) (fun a ha => hset_fr ha) (hset_eq w.c70)
  refine x_lconst (z := 0) (dT U_X11_standing 3 rfl) rfl ?_
  refine x_lstore_n (ls' := [some (.ref _), some (vl _), none, none]) (dT U_X11_standing 4 rfl) (by decide) rfl ?_
  refine x_iconst (dT U_X11_standing 5 rfl) ?_
  refine x_istore_n (ls' := [some (.ref _), some (vl _), none, some (vi _)]) (dT U_X11_standing 6 rfl) (by decide) rfl ?_
  have L : ∀ (n t : Nat), t + n = σ.L.n → X G m_X11_standing (d + 1) rc rs ex 9 [some (.ref 70), some (vl (sm (nzl σ.L.nn) t)), none, some (vi (t : Int))] [] (h.set 70 (mC 0 σ.p σ.G.n σ.g.b rr σ.g.c ss σ.g.z σ.g.o σ.L.n)) Q := by
    intro n
    induction n with
    | zero =>
      intro t hi_ 
      refine x_iload_n (dT U_X11_standing 7 rfl) rfl ?_
      refine x_aload_n (dT U_X11_standing 8 rfl) rfl ?_
      refine x_getfield F_X11_143 (dT U_X11_standing 9 rfl) w1.c70 (Nat.le_of_ble_eq_true rfl) rfl ?_
      refine x_icmp_ge (tgt := 47) (dT U_X11_standing 10 rfl) (by decide) (by unfold xr; omega) (by unfold xr; omega) (fun c14 => ?_) (fun c14 => ?_)
      · skip
        refine x_aload_n (dT U_X11_standing 29 rfl) rfl ?_
        refine x_getfield F_X11_7 (dT U_X11_standing 30 rfl) w1.c70 (Nat.le_of_ble_eq_true rfl) rfl ?_
        refine x_aload_n (dT U_X11_standing 31 rfl) rfl ?_
        refine x_lload_n (dT U_X11_standing 32 rfl) rfl ?_
        refine x_invokevirtual (rc' := rc) (rs' := rs) (rc2 := 0) (rs2 := 0) (As := [_]) (st := _) M_X11_f K_X11_156 (dT U_X11_standing 33 rfl) rfl rfl (by decide) rfl rfl w1.c70 (Nat.le_of_ble_eq_true rfl) (by decide) rfl (Nat.le_of_ble_eq_true rfl) rfl (by decide) (Nat.le_of_ble_eq_true rfl) rfl rfl ?_
        have e : t = σ.L.n := by omega
        subst e
        have sb := sm_b (f := nzl σ.L.nn) (a := 0) (b := 23) (by omega) (by omega) σ.L.n (fun j hj => by have := l4 j (by omega); unfold nzl; split <;> omega)
        refine S_X11_f (w1.mp) v.p (by unfold xrl; omega) ?_
        rw [← stnd_nzl]
        have sd := stnd_b (p := σ.p) (f := gf σ.L.nn) hp.1 σ.L.n
        refine xRet_some ?_
        obtain ⟨ml, m1, m2, m3⟩ := w1.pow
        refine x_ialoadv ((stnd σ.p (gf σ.L.nn) σ.L.n).toNat) (dT U_X11_standing 34 rfl) m1 (Nat.le_of_ble_eq_true rfl) (by omega) (by rw [m2]; omega) (by rw [m2]; omega) (show _ = MM σ.p (stnd σ.p (gf σ.L.nn) σ.L.n) from m3 _ (by omega)) ?_
        refine x_ireturn (dT U_X11_standing 35 rfl) rfl ?_
        exact k _ _ _ ((Ag.rf 70 142 h).set (by omega)) w1
      · exfalso; omega
    | succ n ih =>
      intro t hi_ 
      refine x_iload_n (dT U_X11_standing 7 rfl) rfl ?_
      refine x_aload_n (dT U_X11_standing 8 rfl) rfl ?_
      refine x_getfield F_X11_143 (dT U_X11_standing 9 rfl) w1.c70 (Nat.le_of_ble_eq_true rfl) rfl ?_
      refine x_icmp_ge (tgt := 47) (dT U_X11_standing 10 rfl) (by decide) (by unfold xr; omega) (by unfold xr; omega) (fun c14 => ?_) (fun c14 => ?_)
      · exfalso; omega
      · skip
        refine x_lload_n (dT U_X11_standing 11 rfl) rfl ?_
        refine x_aload_n (dT U_X11_standing 12 rfl) rfl ?_
        refine x_getfield F_X11_94 (dT U_X11_standing 13 rfl) w1.c70 (Nat.le_of_ble_eq_true rfl) rfl ?_
        refine x_iload_n (dT U_X11_standing 14 rfl) rfl ?_
        refine x_ialoadv (t) (dT U_X11_standing 15 rfl) w1.c135 (Nat.le_of_ble_eq_true rfl) rfl (by omega) (by omega) (show _ = σ.L.nn.getD t 0 from rfl) ?_
        refine x_iconst (dT U_X11_standing 16 rfl) ?_
        have ub := l4 t (by omega)
        refine x_icmp_ne (tgt := 32) (dT U_X11_standing 17 rfl) (by decide) (by unfold xr; omega) (by unfold xr; omega) (fun c25 => ?_) (fun c25 => ?_)
        · skip
          have e1 : nzl σ.L.nn t = σ.L.nn.getD t 0 := if_neg (by omega)
          refine x_aload_n (dT U_X11_standing 20 rfl) rfl ?_
          refine x_getfield F_X11_94 (dT U_X11_standing 21 rfl) w1.c70 (Nat.le_of_ble_eq_true rfl) rfl ?_
          refine x_iload_n (dT U_X11_standing 22 rfl) rfl ?_
          refine x_ialoadv (t) (dT U_X11_standing 23 rfl) w1.c135 (Nat.le_of_ble_eq_true rfl) rfl (by omega) (by omega) (show _ = σ.L.nn.getD t 0 from rfl) ?_
          refine x_i2l (dT U_X11_standing 24 rfl) (by unfold xr; omega) ?_
          refine x_ladd (dT U_X11_standing 25 rfl) ?_
          refine x_lstore_n (ls' := [some (.ref _), some (vl _), none, some (vi _)]) (dT U_X11_standing 26 rfl) (by decide) rfl ?_
          refine x_iinc (ls' := [some (.ref _), some (vl _), none, some (vi _)]) (dT U_X11_standing 27 rfl) (by decide) rfl rfl ?_
          refine x_goto (tgt := 9) (dT U_X11_standing 28 rfl) (by decide) ?_
          have q := ih (t + 1) (by omega)
          rw [show sm (nzl σ.L.nn) (t + 1) = sm (nzl σ.L.nn) t + nzl σ.L.nn t from rfl, e1] at q
          exact q
        · skip
          have e1 : nzl σ.L.nn t = 0 := if_pos (by omega)
          refine x_lconst (z := 0) (dT U_X11_standing 18 rfl) rfl ?_
          refine x_goto (tgt := 39) (dT U_X11_standing 19 rfl) (by decide) ?_
          refine x_ladd (dT U_X11_standing 25 rfl) ?_
          refine x_lstore_n (ls' := [some (.ref _), some (vl _), none, some (vi _)]) (dT U_X11_standing 26 rfl) (by decide) rfl ?_
          refine x_iinc (ls' := [some (.ref _), some (vl _), none, some (vi _)]) (dT U_X11_standing 27 rfl) (by decide) rfl rfl ?_
          refine x_goto (tgt := 9) (dT U_X11_standing 28 rfl) (by decide) ?_
          have q := ih (t + 1) (by omega)
          rw [show sm (nzl σ.L.nn) (t + 1) = sm (nzl σ.L.nn) t + nzl σ.L.nn t from rfl, e1] at q
          exact q
  exact L σ.L.n 0 (by omega)
