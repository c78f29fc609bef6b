theorem fo_m {p : Nat} {e s c t : Int} : (t * (bs p 8 : Int) - c * ((e - s * (bs p 0 : Int)) % (p : Int))) % (p : Int) = fo p e s c t := by
  unfold fo
  obtain ⟨x, hx⟩ := emx (a := e - s * (bs p 0 : Int)) (p := (p : Int))
  rw [hx]
  exact emq (c * x) (by grind)
theorem fo_h {p : Nat} {e s c t : Int} : (t * (bs p 8 : Int)) % (p : Int) = (fo p e s c t + c * ((e - s * (bs p 0 : Int)) % (p : Int))) % (p : Int) := by
  unfold fo
  obtain ⟨x, hx⟩ := emx (a := e - s * (bs p 0 : Int)) (p := (p : Int))
  rw [am_l, hx]
  exact emq (c * x) (by grind)
theorem cm1_m {p : Nat} {z : Int} : (z * (bs p 8 : Int)) % (p : Int) = cm1 p 0 z := by rw [cm1_0, Int.mul_comm]
theorem ct_and {A : Prop} [Decidable A] {p a : Nat} {P : Nat → Prop} [DecidablePred P] (ha : a < p) (h : ∀ t, t < p → (P t ↔ A ∧ t = a)) : ct P p = if A then 1 else 0 := by
  by_cases c : A
  · rw [if_pos c]
    exact ct_one ha (fun x hx => (h x hx).trans ⟨fun z => z.2, fun z => ⟨c, z⟩⟩)
  · rw [if_neg c]
    exact ct_none p (fun x hx z => c ((h x hx).mp z).1)

set_option maxRecDepth 20000 in
set_option maxHeartbeats 1000000 in
theorem S_X11_sideOf0 {G : xG} {d rc rs : Nat} {ex : Bool} {h : xH} {Q : xQ} {p i : Nat} {f : Nat → Int} (w : MP p h) (hp5 : p ∈ PR) (hb : h[110]? = some (cA 0 (t2 f))) (hi : i < 2) (he : 0 ≤ f i ∧ f i < p) (k : Q (.inl (some (vi ((f i - 0 * (bs p 0 : Int)) % (p : Int))))) ex h) : X G m_X11_sideOf (d + 1) rc rs ex 0 (xe m_X11_sideOf.2.2.1 [.ref 70, vi (i : Int), vi 0]) [] h Q := by
  show X G m_X11_sideOf _ _ _ _ 0 [some (.ref 70), some (vi (i : Int)), some (vi 0)] [] h Q
  have hp := PRb hp5
  obtain ⟨c_, gc_, gb_, rr_, gcl_, ss_, gz_, go_, nc_, w70⟩ := id w
  refine x_aload_n (dT U_X11_sideOf 0 rfl) rfl ?_
  refine x_aload_n (dT U_X11_sideOf 1 rfl) rfl ?_
  refine x_getfield F_X11_61 (dT U_X11_sideOf 2 rfl) w70 (Nat.le_of_ble_eq_true rfl) rfl ?_
  refine x_iload_n (dT U_X11_sideOf 3 rfl) rfl ?_
  refine x_ialoadv (i) (dT U_X11_sideOf 4 rfl) hb (Nat.le_of_ble_eq_true rfl) rfl (show i < 2 by omega) (show 2 < 2147483648 by decide) (show _ = f i from t2_get hi) ?_
  refine x_i2l (dT U_X11_sideOf 5 rfl) (by unfold xr; omega) ?_
  refine x_iload_n (dT U_X11_sideOf 6 rfl) rfl ?_
  refine x_iconst (dT U_X11_sideOf 7 rfl) ?_
  refine x_icmp_ne (tgt := 21) (dT U_X11_sideOf 8 rfl) (by decide) (by unfold xr; omega) (by unfold xr; omega) (fun c10 => ?_) (fun c10 => (by exfalso; omega))
  refine x_iconst (dT U_X11_sideOf 13 rfl) ?_
  refine x_i2l (dT U_X11_sideOf 14 rfl) (by unfold xr; omega) ?_
  refine x_lsub (dT U_X11_sideOf 15 rfl) ?_
  refine x_invokevirtual (rc' := rc) (rs' := rs) (rc2 := 0) (rs2 := 0) (As := [_]) (st := _) M_X11_f K_X11_156 (dT U_X11_sideOf 16 rfl) rfl rfl (by decide) rfl rfl w70 (Nat.le_of_ble_eq_true rfl) (by decide) rfl (Nat.le_of_ble_eq_true rfl) rfl (by decide) (Nat.le_of_ble_eq_true rfl) rfl rfl ?_
  refine S_X11_f w hp5 (by unfold xrl; omega) ?_
  rw [show f i - 0 = f i - 0 * (bs p 0 : Int) by omega]
  refine xRet_some ?_
  refine x_ireturn (dT U_X11_sideOf 17 rfl) rfl ?_
  exact k

set_option maxRecDepth 20000 in
set_option maxHeartbeats 1000000 in
theorem S_X11_sideOf1 {G : xG} {d rc rs : Nat} {ex : Bool} {h : xH} {Q : xQ} {p i : Nat} {f : Nat → Int} (w : MP p h) (hp5 : p ∈ PR) (hb : h[110]? = some (cA 0 (t2 f))) (hi : i < 2) (he : 0 ≤ f i ∧ f i < p) (k : Q (.inl (some (vi ((f i - 1 * (bs p 0 : Int)) % (p : Int))))) ex h) : X G m_X11_sideOf (d + 1) rc rs ex 0 (xe m_X11_sideOf.2.2.1 [.ref 70, vi (i : Int), vi 1]) [] h Q := by
  show X G m_X11_sideOf _ _ _ _ 0 [some (.ref 70), some (vi (i : Int)), some (vi 1)] [] h Q
  have hp := PRb hp5
  obtain ⟨c_, gc_, gb_, rr_, gcl_, ss_, gz_, go_, nc_, w70⟩ := id w
  refine x_aload_n (dT U_X11_sideOf 0 rfl) rfl ?_
  refine x_aload_n (dT U_X11_sideOf 1 rfl) rfl ?_
  refine x_getfield F_X11_61 (dT U_X11_sideOf 2 rfl) w70 (Nat.le_of_ble_eq_true rfl) rfl ?_
  refine x_iload_n (dT U_X11_sideOf 3 rfl) rfl ?_
  refine x_ialoadv (i) (dT U_X11_sideOf 4 rfl) hb (Nat.le_of_ble_eq_true rfl) rfl (show i < 2 by omega) (show 2 < 2147483648 by decide) (show _ = f i from t2_get hi) ?_
  refine x_i2l (dT U_X11_sideOf 5 rfl) (by unfold xr; omega) ?_
  refine x_iload_n (dT U_X11_sideOf 6 rfl) rfl ?_
  refine x_iconst (dT U_X11_sideOf 7 rfl) ?_
  refine x_icmp_ne (tgt := 21) (dT U_X11_sideOf 8 rfl) (by decide) (by unfold xr; omega) (by unfold xr; omega) (fun c10 => (by exfalso; omega)) (fun c10 => ?_)
  refine x_aload_n (dT U_X11_sideOf 9 rfl) rfl ?_
  refine x_iconst (dT U_X11_sideOf 10 rfl) ?_
  refine x_invokevirtual (rc' := rc) (rs' := rs) (rc2 := 0) (rs2 := 0) (As := [_]) (st := _) M_X11_of K_X11_160 (dT U_X11_sideOf 11 rfl) rfl rfl (by decide) rfl rfl w70 (Nat.le_of_ble_eq_true rfl) (by decide) rfl (Nat.le_of_ble_eq_true rfl) rfl (by decide) (Nat.le_of_ble_eq_true rfl) rfl rfl ?_
  have bb0 := bs_b hp5 (i := 0) (by omega)
  refine S_X11_of (i := 0) w hp5 (by omega) ?_
  refine xRet_some ?_
  refine x_goto (tgt := 22) (dT U_X11_sideOf 12 rfl) (by decide) ?_
  refine x_i2l (dT U_X11_sideOf 14 rfl) (by unfold xr; omega) ?_
  refine x_lsub (dT U_X11_sideOf 15 rfl) ?_
  refine x_invokevirtual (rc' := rc) (rs' := rs) (rc2 := 0) (rs2 := 0) (As := [_]) (st := _) M_X11_f K_X11_156 (dT U_X11_sideOf 16 rfl) rfl rfl (by decide) rfl rfl w70 (Nat.le_of_ble_eq_true rfl) (by decide) rfl (Nat.le_of_ble_eq_true rfl) rfl (by decide) (Nat.le_of_ble_eq_true rfl) rfl rfl ?_
  refine S_X11_f w hp5 (by unfold xrl; omega) ?_
  rw [show f i - (bs p 0 : Int) = f i - 1 * (bs p 0 : Int) by omega]
  refine xRet_some ?_
  refine x_ireturn (dT U_X11_sideOf 17 rfl) rfl ?_
  exact k

set_option maxRecDepth 20000 in
set_option maxHeartbeats 1000000 in
theorem S_X11_chooseBit {G : xG} {d rc rs : Nat} {ex : Bool} {h : xH} {Q : xQ} {σ : St} {cc0 : Int} {rr : Nat} {ss : Int} {pair bit blind : Int} (w : MX σ cc0 rr ss h) (v : INV σ) (h_pair : xr pair) (h_bit : xr bit) (h_blind : xr blind) (e1 : ¬ (inb pair 2) → ∀ h2 z, Ag 70 142 h h2 → MX σ 1 rr ss h2 → xr z → Q (.inl (some (vi z))) ex h2) (e2 : (inb pair 2) → ¬ (inb bit 2 ∧ inb blind σ.p) → ∀ h2 z, Ag 70 142 h h2 → MX σ 2 rr ss h2 → xr z → Q (.inl (some (vi z))) ex h2) (k : (inb pair 2) → (inb bit 2 ∧ inb blind σ.p) → ∀ h2 r2 s2, Ag 70 142 h h2 → MX (σ.sPair pair.toNat (pBegin σ.p (σ.P pair.toNat) bit blind)) 0 r2 s2 h2 → Q (.inl (some (vi (MM σ.p (cm1 σ.p bit blind))))) ex h2) : X G m_X11_chooseBit (d + 2) rc rs ex 0 (xe m_X11_chooseBit.2.2.1 [.ref 70, vi pair, vi bit, vi blind]) [] h Q := by
  show X G m_X11_chooseBit _ _ _ _ 0 [some (.ref 70), some (vi pair), some (vi bit), some (vi blind)] [] h Q
  have hp := PRb v.p
  have hq := gq_b v.p
  refine x_aload_n (dT U_X11_chooseBit 0 rfl) rfl ?_
  refine x_iload_n (dT U_X11_chooseBit 1 rfl) rfl ?_
  refine x_iconst (dT U_X11_chooseBit 2 rfl) ?_
  refine x_invokestatic (rc' := rc) (rs' := rs) (rc2 := 0) (rs2 := 0) (As := [_, _]) (st := _) M_X11_in K_X11_126 (dT U_X11_chooseBit 3 rfl) rfl rfl rfl rfl (Nat.le_of_ble_eq_true rfl) rfl (by decide) (Nat.le_of_ble_eq_true rfl) rfl rfl ?_
  refine S_X11_in h_pair (by unfold xr; omega) (fun q1 => ?_) (fun q1 => ?_)
  · refine xRet_some ?_
    refine x_iconst (dT U_X11_chooseBit 4 rfl) ?_
    refine x_invokevirtual (rc' := rc) (rs' := rs) (rc2 := 0) (rs2 := 0) (As := [_, _]) (st := _) M_X11_lets K_X11_167 (dT U_X11_chooseBit 5 rfl) rfl rfl (by decide) rfl rfl w.c70 (Nat.le_of_ble_eq_true rfl) (by decide) rfl (Nat.le_of_ble_eq_true rfl) rfl (by decide) (Nat.le_of_ble_eq_true rfl) rfl rfl ?_
    refine S_X11_lets1 w (fun h1 g1 w1 => ?_)
    refine xRet_some ?_
    obtain ⟨i, hi, rfl⟩ : ∃ j : Nat, j < 2 ∧ pair = (j : Int) := ⟨pair.toNat, by omega, by omega⟩
    try simp only [tnc] at e1 e2 k
    refine x_if_eqn (tgt := 42) (dT U_X11_chooseBit 6 rfl) (by decide) (by decide) ?_
    refine x_aload_n (dT U_X11_chooseBit 7 rfl) rfl ?_
    refine x_iload_n (dT U_X11_chooseBit 8 rfl) rfl ?_
    refine x_iconst (dT U_X11_chooseBit 9 rfl) ?_
    refine x_invokestatic (rc' := rc) (rs' := rs) (rc2 := 0) (rs2 := 0) (As := [_, _]) (st := _) M_X11_in K_X11_126 (dT U_X11_chooseBit 10 rfl) rfl rfl rfl rfl (Nat.le_of_ble_eq_true rfl) rfl (by decide) (Nat.le_of_ble_eq_true rfl) rfl rfl ?_
    refine S_X11_in h_bit (by unfold xr; omega) (fun q2 => ?_) (fun q2 => ?_)
    · refine xRet_some ?_
      refine x_if_eqn (tgt := 34) (dT U_X11_chooseBit 11 rfl) (by decide) (by decide) ?_
      refine x_aload_n (dT U_X11_chooseBit 12 rfl) rfl ?_
      refine x_iload_n (dT U_X11_chooseBit 13 rfl) rfl ?_
      refine x_invokevirtual (rc' := rc) (rs' := rs) (rc2 := 0) (rs2 := 0) (As := [_]) (st := _) M_X11_isNumber K_X11_174 (dT U_X11_chooseBit 14 rfl) rfl rfl (by decide) rfl rfl w1.c70 (Nat.le_of_ble_eq_true rfl) (by decide) rfl (Nat.le_of_ble_eq_true rfl) rfl (by decide) (Nat.le_of_ble_eq_true rfl) rfl rfl ?_
      refine S_X11_isNumber (w1.mp) v.p h_blind (fun q3 => ?_) (fun q3 => ?_)
      · refine xRet_some ?_
        refine x_if_eqn (tgt := 34) (dT U_X11_chooseBit 15 rfl) (by decide) (by decide) ?_
        refine x_iconst (dT U_X11_chooseBit 16 rfl) ?_
        refine x_goto (tgt := 35) (dT U_X11_chooseBit 17 rfl) (by decide) ?_
        refine x_iconst (dT U_X11_chooseBit 19 rfl) ?_
        refine x_invokevirtual (rc' := rc) (rs' := rs) (rc2 := 0) (rs2 := 0) (As := [_, _]) (st := _) M_X11_lets K_X11_167 (dT U_X11_chooseBit 20 rfl) rfl rfl (by decide) rfl rfl w1.c70 (Nat.le_of_ble_eq_true rfl) (by decide) rfl (Nat.le_of_ble_eq_true rfl) rfl (by decide) (Nat.le_of_ble_eq_true rfl) rfl rfl ?_
        refine S_X11_lets1 w1 (fun h2 g2 w2 => ?_)
        refine xRet_some ?_
        refine x_if_nej (tgt := 44) (dT U_X11_chooseBit 21 rfl) (by decide) (by decide) ?_
        refine x_aload_n (dT U_X11_chooseBit 24 rfl) rfl ?_
        refine x_getfield F_X11_58 (dT U_X11_chooseBit 25 rfl) w2.c70 (Nat.le_of_ble_eq_true rfl) rfl ?_
        refine x_iload_n (dT U_X11_chooseBit 26 rfl) rfl ?_
        refine x_iconst (dT U_X11_chooseBit 27 rfl) ?_
        refine x_iastore (i) (dT U_X11_chooseBit 28 rfl) w2.c109 (Nat.le_of_ble_eq_true rfl) rfl (show i < 2 by omega) (show 2 < 2147483648 by decide) ?_
        refine x_aload_n (dT U_X11_chooseBit 29 rfl) rfl ?_
        refine x_getfield F_X11_64 (dT U_X11_chooseBit 30 rfl) (hset_ne (by omega) (w2.c70)) (Nat.le_of_ble_eq_true rfl) rfl ?_
        refine x_iload_n (dT U_X11_chooseBit 31 rfl) rfl ?_
        refine x_iload_n (dT U_X11_chooseBit 32 rfl) rfl ?_
        refine x_iastore (i) (dT U_X11_chooseBit 33 rfl) (hset_ne (by omega) (w2.c111)) (Nat.le_of_ble_eq_true rfl) rfl (show i < 2 by omega) (show 2 < 2147483648 by decide) ?_
        refine x_aload_n (dT U_X11_chooseBit 34 rfl) rfl ?_
        refine x_getfield F_X11_67 (dT U_X11_chooseBit 35 rfl) (hset_ne (by omega) (hset_ne (by omega) (w2.c70))) (Nat.le_of_ble_eq_true rfl) rfl ?_
        refine x_iload_n (dT U_X11_chooseBit 36 rfl) rfl ?_
        refine x_iload_n (dT U_X11_chooseBit 37 rfl) rfl ?_
        refine x_iastore (i) (dT U_X11_chooseBit 38 rfl) (hset_ne (by omega) (hset_ne (by omega) (w2.c112))) (Nat.le_of_ble_eq_true rfl) rfl (show i < 2 by omega) (show 2 < 2147483648 by decide) ?_
        refine x_aload_n (dT U_X11_chooseBit 39 rfl) rfl ?_
        refine x_getfield F_X11_61 (dT U_X11_chooseBit 40 rfl) (hset_ne (by omega) (hset_ne (by omega) (hset_ne (by omega) (w2.c70)))) (Nat.le_of_ble_eq_true rfl) rfl ?_
        refine x_iload_n (dT U_X11_chooseBit 41 rfl) rfl ?_
        refine x_aload_n (dT U_X11_chooseBit 42 rfl) rfl ?_
        refine x_iload_n (dT U_X11_chooseBit 43 rfl) rfl ?_
        refine x_i2l (dT U_X11_chooseBit 44 rfl) (by unfold xr; omega) ?_
        refine x_aload_n (dT U_X11_chooseBit 45 rfl) rfl ?_
        refine x_iconst (dT U_X11_chooseBit 46 rfl) ?_
        refine x_invokevirtual (rc' := rc) (rs' := rs) (rc2 := 0) (rs2 := 0) (As := [_]) (st := _) M_X11_of K_X11_160 (dT U_X11_chooseBit 47 rfl) rfl rfl (by decide) rfl rfl (hset_ne (by omega) (hset_ne (by omega) (hset_ne (by omega) (w2.c70)))) (Nat.le_of_ble_eq_true rfl) (by decide) rfl (Nat.le_of_ble_eq_true rfl) rfl (by decide) (Nat.le_of_ble_eq_true rfl) rfl rfl ?_
        have bb0 := bs_b v.p (i := 0) (by omega)
        refine S_X11_of (i := 0) (MP.set (by omega) (MP.set (by omega) (MP.set (by omega) (w2.mp)))) v.p (by omega) ?_
        refine xRet_some ?_
        refine x_i2l (dT U_X11_chooseBit 48 rfl) (by unfold xr; omega) ?_
        refine x_lmul (dT U_X11_chooseBit 49 rfl) ?_
        refine x_iload_n (dT U_X11_chooseBit 50 rfl) rfl ?_
        refine x_i2l (dT U_X11_chooseBit 51 rfl) (by unfold xr; omega) ?_
        refine x_aload_n (dT U_X11_chooseBit 52 rfl) rfl ?_
        refine x_bipush (dT U_X11_chooseBit 53 rfl) (by decide) ?_
        refine x_invokevirtual (rc' := rc) (rs' := rs) (rc2 := 0) (rs2 := 0) (As := [_]) (st := _) M_X11_of K_X11_160 (dT U_X11_chooseBit 54 rfl) rfl rfl (by decide) rfl rfl (hset_ne (by omega) (hset_ne (by omega) (hset_ne (by omega) (w2.c70)))) (Nat.le_of_ble_eq_true rfl) (by decide) rfl (Nat.le_of_ble_eq_true rfl) rfl (by decide) (Nat.le_of_ble_eq_true rfl) rfl rfl ?_
        have bb8 := bs_b v.p (i := 8) (by omega)
        refine S_X11_of (i := 8) (MP.set (by omega) (MP.set (by omega) (MP.set (by omega) (w2.mp)))) v.p (by omega) ?_
        refine xRet_some ?_
        refine x_i2l (dT U_X11_chooseBit 55 rfl) (by unfold xr; omega) ?_
        refine x_lmul (dT U_X11_chooseBit 56 rfl) ?_
        refine x_ladd (dT U_X11_chooseBit 57 rfl) ?_
        refine x_invokevirtual (rc' := rc) (rs' := rs) (rc2 := 0) (rs2 := 0) (As := [_]) (st := _) M_X11_f K_X11_156 (dT U_X11_chooseBit 58 rfl) rfl rfl (by decide) rfl rfl (hset_ne (by omega) (hset_ne (by omega) (hset_ne (by omega) (w2.c70)))) (Nat.le_of_ble_eq_true rfl) (by decide) rfl (Nat.le_of_ble_eq_true rfl) rfl (by decide) (Nat.le_of_ble_eq_true rfl) rfl rfl ?_
        have m1 := mulg (a := bit) (b := (bs σ.p 0 : Int)) (m := 1) (n := 23) (by omega) (by omega)
        have m2 := mulg (a := blind) (b := (bs σ.p 8 : Int)) (m := 23) (n := 23) (by omega) (by omega)
        refine S_X11_f (MP.set (by omega) (MP.set (by omega) (MP.set (by omega) (w2.mp)))) v.p (by unfold xrl; omega) ?_
        have cb := cm1_b (p := σ.p) (n := bit) (b := blind) hp.1
        rw [show (bit * (bs σ.p 0 : Int) + blind * (bs σ.p 8 : Int)) % (σ.p : Int) = cm1 σ.p bit blind by unfold cm1; rw [Int.mul_comm bit, Int.mul_comm blind]]
        refine xRet_some ?_
        refine x_iastore (i) (dT U_X11_chooseBit 59 rfl) (hset_ne (by omega) (hset_ne (by omega) (hset_ne (by omega) (w2.c110)))) (Nat.le_of_ble_eq_true rfl) rfl (show i < 2 by omega) (show 2 < 2147483648 by decide) ?_
        refine x_aload_n (dT U_X11_chooseBit 60 rfl) rfl ?_
        refine x_getfield F_X11_7 (dT U_X11_chooseBit 61 rfl) (hset_ne (by omega) (hset_ne (by omega) (hset_ne (by omega) (hset_ne (by omega) (w2.c70))))) (Nat.le_of_ble_eq_true rfl) rfl ?_
        refine x_aload_n (dT U_X11_chooseBit 62 rfl) rfl ?_
        refine x_getfield F_X11_61 (dT U_X11_chooseBit 63 rfl) (hset_ne (by omega) (hset_ne (by omega) (hset_ne (by omega) (hset_ne (by omega) (w2.c70))))) (Nat.le_of_ble_eq_true rfl) rfl ?_
        refine x_iload_n (dT U_X11_chooseBit 64 rfl) rfl ?_
        refine x_ialoadv (i) (dT U_X11_chooseBit 65 rfl) (hset_eq (hset_ne (by omega) (hset_ne (by omega) (hset_ne (by omega) (w2.c110))))) (Nat.le_of_ble_eq_true rfl) rfl (by rw [t2_set hi]; show i < 2; omega) (by rw [t2_set hi]; show 2 < 2147483648; omega) (show _ = cm1 σ.p bit blind from by rw [t2_set hi, t2_get hi, fup_eq]) ?_
        obtain ⟨ml, m1, m2, m3⟩ := w2.pow
        refine x_ialoadv ((cm1 σ.p bit blind).toNat) (dT U_X11_chooseBit 66 rfl) (hset_ne (by omega) (hset_ne (by omega) (hset_ne (by omega) (hset_ne (by omega) (m1))))) (Nat.le_of_ble_eq_true rfl) (by omega) (by rw [m2]; omega) (by rw [m2]; omega) (show _ = MM σ.p (cm1 σ.p bit blind) from m3 _ (by omega)) ?_
        refine x_ireturn (dT U_X11_chooseBit 67 rfl) rfl ?_
        exact k (by omega) (by omega) _ _ _ (((((Ag.tr (Ag.tr (Ag.rf 70 142 h) (g1.w (by omega))) (g2.w (by omega))).set (by omega)).set (by omega)).set (by omega)).set (by omega)) (w2.pair (i := i) (P := pBegin σ.p (σ.P i) bit blind) (fun a ha => by rw [hset_fr (by omega), hset_fr (by omega), hset_fr (by omega), hset_fr (by omega)]) hi (c2 (R' := pBegin σ.p (σ.P i) bit blind) gPT hi (hset_ne (by omega) (hset_ne (by omega) (hset_ne (by omega) (hset_eq (w2.c109)))))) (c2 (R' := pBegin σ.p (σ.P i) bit blind) PS.e hi (hset_eq (hset_ne (by omega) (hset_ne (by omega) (hset_ne (by omega) (w2.c110)))))) (c2 (R' := pBegin σ.p (σ.P i) bit blind) PS.b hi (hset_ne (by omega) (hset_ne (by omega) (hset_eq (hset_ne (by omega) (w2.c111)))))) (c2 (R' := pBegin σ.p (σ.P i) bit blind) PS.bl hi (hset_ne (by omega) (hset_eq (hset_ne (by omega) (hset_ne (by omega) (w2.c112)))))) (k2 (R' := pBegin σ.p (σ.P i) bit blind) PS.m rfl (hset_ne (by omega) (hset_ne (by omega) (hset_ne (by omega) (hset_ne (by omega) (w2.c113)))))) (k2 (R' := pBegin σ.p (σ.P i) bit blind) PS.c rfl (hset_ne (by omega) (hset_ne (by omega) (hset_ne (by omega) (hset_ne (by omega) (w2.c114)))))) (hset_ne (by omega) (hset_ne (by omega) (hset_ne (by omega) (hset_ne (by omega) (w2.bf i hi))))) (hset_ne (by omega) (hset_ne (by omega) (hset_ne (by omega) (hset_ne (by omega) (w2.bc i hi))))) (hset_ne (by omega) (hset_ne (by omega) (hset_ne (by omega) (hset_ne (by omega) (w2.bt i hi))))))
      · refine xRet_some ?_
        refine x_if_eqj (tgt := 34) (dT U_X11_chooseBit 15 rfl) (by decide) (by decide) ?_
        refine x_iconst (dT U_X11_chooseBit 18 rfl) ?_
        refine x_iconst (dT U_X11_chooseBit 19 rfl) ?_
        refine x_invokevirtual (rc' := rc) (rs' := rs) (rc2 := 0) (rs2 := 0) (As := [_, _]) (st := _) M_X11_lets K_X11_167 (dT U_X11_chooseBit 20 rfl) rfl rfl (by decide) rfl rfl w1.c70 (Nat.le_of_ble_eq_true rfl) (by decide) rfl (Nat.le_of_ble_eq_true rfl) rfl (by decide) (Nat.le_of_ble_eq_true rfl) rfl rfl ?_
        refine S_X11_lets0 w1 (fun h2 g2 w2 => ?_)
        refine xRet_some ?_
        refine x_if_nen (tgt := 44) (dT U_X11_chooseBit 21 rfl) (by decide) (by decide) ?_
        refine x_iconst (dT U_X11_chooseBit 22 rfl) ?_
        refine x_ireturn (dT U_X11_chooseBit 23 rfl) rfl ?_
        exact e2 (by omega) (by omega) _ _ (Ag.tr (Ag.tr (Ag.rf 70 142 h) (g1.w (by omega))) (g2.w (by omega))) w2 (by unfold xr; omega)
    · refine xRet_some ?_
      refine x_if_eqj (tgt := 34) (dT U_X11_chooseBit 11 rfl) (by decide) (by decide) ?_
      refine x_iconst (dT U_X11_chooseBit 18 rfl) ?_
      refine x_iconst (dT U_X11_chooseBit 19 rfl) ?_
      refine x_invokevirtual (rc' := rc) (rs' := rs) (rc2 := 0) (rs2 := 0) (As := [_, _]) (st := _) M_X11_lets K_X11_167 (dT U_X11_chooseBit 20 rfl) rfl rfl (by decide) rfl rfl w1.c70 (Nat.le_of_ble_eq_true rfl) (by decide) rfl (Nat.le_of_ble_eq_true rfl) rfl (by decide) (Nat.le_of_ble_eq_true rfl) rfl rfl ?_
      refine S_X11_lets0 w1 (fun h2 g2 w2 => ?_)
      refine xRet_some ?_
      refine x_if_nen (tgt := 44) (dT U_X11_chooseBit 21 rfl) (by decide) (by decide) ?_
      refine x_iconst (dT U_X11_chooseBit 22 rfl) ?_
      refine x_ireturn (dT U_X11_chooseBit 23 rfl) rfl ?_
      exact e2 (by omega) (by omega) _ _ (Ag.tr (Ag.tr (Ag.rf 70 142 h) (g1.w (by omega))) (g2.w (by omega))) w2 (by unfold xr; omega)
  · refine xRet_some ?_
    refine x_iconst (dT U_X11_chooseBit 4 rfl) ?_
    refine x_invokevirtual (rc' := rc) (rs' := rs) (rc2 := 0) (rs2 := 0) (As := [_, _]) (st := _) M_X11_lets K_X11_167 (dT U_X11_chooseBit 5 rfl) rfl rfl (by decide) rfl rfl w.c70 (Nat.le_of_ble_eq_true rfl) (by decide) rfl (Nat.le_of_ble_eq_true rfl) rfl (by decide) (Nat.le_of_ble_eq_true rfl) rfl rfl ?_
    refine S_X11_lets0 w (fun h1 g1 w1 => ?_)
    refine xRet_some ?_
    refine x_if_eqj (tgt := 42) (dT U_X11_chooseBit 6 rfl) (by decide) (by decide) ?_
    refine x_iconst (dT U_X11_chooseBit 22 rfl) ?_
    refine x_ireturn (dT U_X11_chooseBit 23 rfl) rfl ?_
    exact e1 (by omega) _ _ (Ag.tr (Ag.rf 70 142 h) (g1.w (by omega))) w1 (by unfold xr; omega)

set_option maxRecDepth 20000 in
set_option maxHeartbeats 1000000 in
theorem S_X11_hideBit {G : xG} {d rc rs : Nat} {ex : Bool} {h : xH} {Q : xQ} {σ : St} {cc0 : Int} {rr : Nat} {ss : Int} {pair mask c t : Int} (w : MX σ cc0 rr ss h) (v : INV σ) (h_pair : xr pair) (h_mask : xr mask) (h_c : xr c) (h_t : xr t) (e1 : ¬ (inb pair 2) → ∀ h2 z, Ag 70 142 h h2 → MX σ 1 rr ss h2 → xr z → Q (.inl (some (vi z))) ex h2) (e2 : (inb pair 2) → ¬ (inb mask σ.p ∧ inb c σ.p ∧ inb t σ.p) → ∀ h2 z, Ag 70 142 h h2 → MX σ 2 rr ss h2 → xr z → Q (.inl (some (vi z))) ex h2) (e3 : (inb pair 2) → (inb mask σ.p ∧ inb c σ.p ∧ inb t σ.p) → ¬ ((σ.P pair.toNat).st = 1) → ∀ h2 z, Ag 70 142 h h2 → MX σ 3 rr ss h2 → xr z → Q (.inl (some (vi z))) ex h2) (k : (inb pair 2) → (inb mask σ.p ∧ inb c σ.p ∧ inb t σ.p) → ((σ.P pair.toNat).st = 1) → ∀ h2 r2 s2, Ag 70 142 h h2 → MX (σ.sPair pair.toNat (pHide σ.p (σ.P pair.toNat) mask c t)) 0 r2 s2 h2 → Q (.inl (some (vi (191 * MM σ.p (pHide σ.p (σ.P pair.toNat) mask c t).f0 + MM σ.p (pHide σ.p (σ.P pair.toNat) mask c t).f1)))) ex h2) : X G m_X11_hideBit (d + 2) rc rs ex 0 (xe m_X11_hideBit.2.2.1 [.ref 70, vi pair, vi mask, vi c, vi t]) [] h Q := by
  show X G m_X11_hideBit _ _ _ _ 0 [some (.ref 70), some (vi pair), some (vi mask), some (vi c), some (vi t), none] [] h Q
  have hp := PRb v.p
  have hq := gq_b v.p
  refine x_aload_n (dT U_X11_hideBit 0 rfl) rfl ?_
  refine x_iload_n (dT U_X11_hideBit 1 rfl) rfl ?_
  refine x_iconst (dT U_X11_hideBit 2 rfl) ?_
  refine x_invokestatic (rc' := rc) (rs' := rs) (rc2 := 0) (rs2 := 0) (As := [_, _]) (st := _) M_X11_in K_X11_126 (dT U_X11_hideBit 3 rfl) rfl rfl rfl rfl (Nat.le_of_ble_eq_true rfl) rfl (by decide) (Nat.le_of_ble_eq_true rfl) rfl rfl ?_
  refine S_X11_in h_pair (by unfold xr; omega) (fun q1 => ?_) (fun q1 => ?_)
  · refine xRet_some ?_
    refine x_iconst (dT U_X11_hideBit 4 rfl) ?_
    refine x_invokevirtual (rc' := rc) (rs' := rs) (rc2 := 0) (rs2 := 0) (As := [_, _]) (st := _) M_X11_lets K_X11_167 (dT U_X11_hideBit 5 rfl) rfl rfl (by decide) rfl rfl w.c70 (Nat.le_of_ble_eq_true rfl) (by decide) rfl (Nat.le_of_ble_eq_true rfl) rfl (by decide) (Nat.le_of_ble_eq_true rfl) rfl rfl ?_
    refine S_X11_lets1 w (fun h1 g1 w1 => ?_)
    refine xRet_some ?_
    obtain ⟨i, hi, rfl⟩ : ∃ j : Nat, j < 2 ∧ pair = (j : Int) := ⟨pair.toNat, by omega, by omega⟩
    try simp only [tnc] at e1 e2 e3 k
    refine x_if_eqn (tgt := 74) (dT U_X11_hideBit 6 rfl) (by decide) (by decide) ?_
    refine x_aload_n (dT U_X11_hideBit 7 rfl) rfl ?_
    refine x_aload_n (dT U_X11_hideBit 8 rfl) rfl ?_
    refine x_iload_n (dT U_X11_hideBit 9 rfl) rfl ?_
    refine x_invokevirtual (rc' := rc) (rs' := rs) (rc2 := 0) (rs2 := 0) (As := [_]) (st := _) M_X11_isNumber K_X11_174 (dT U_X11_hideBit 10 rfl) rfl rfl (by decide) rfl rfl w1.c70 (Nat.le_of_ble_eq_true rfl) (by decide) rfl (Nat.le_of_ble_eq_true rfl) rfl (by decide) (Nat.le_of_ble_eq_true rfl) rfl rfl ?_
    refine S_X11_isNumber (w1.mp) v.p h_mask (fun q2 => ?_) (fun q2 => ?_)
    · refine xRet_some ?_
      refine x_if_eqn (tgt := 43) (dT U_X11_hideBit 11 rfl) (by decide) (by decide) ?_
      refine x_aload_n (dT U_X11_hideBit 12 rfl) rfl ?_
      refine x_iload_n (dT U_X11_hideBit 13 rfl) rfl ?_
      refine x_invokevirtual (rc' := rc) (rs' := rs) (rc2 := 0) (rs2 := 0) (As := [_]) (st := _) M_X11_isNumber K_X11_174 (dT U_X11_hideBit 14 rfl) rfl rfl (by decide) rfl rfl w1.c70 (Nat.le_of_ble_eq_true rfl) (by decide) rfl (Nat.le_of_ble_eq_true rfl) rfl (by decide) (Nat.le_of_ble_eq_true rfl) rfl rfl ?_
      refine S_X11_isNumber (w1.mp) v.p h_c (fun q3 => ?_) (fun q3 => ?_)
      · refine xRet_some ?_
        refine x_if_eqn (tgt := 43) (dT U_X11_hideBit 15 rfl) (by decide) (by decide) ?_
        refine x_aload_n (dT U_X11_hideBit 16 rfl) rfl ?_
        refine x_iload (dT U_X11_hideBit 17 rfl) rfl ?_
        refine x_invokevirtual (rc' := rc) (rs' := rs) (rc2 := 0) (rs2 := 0) (As := [_]) (st := _) M_X11_isNumber K_X11_174 (dT U_X11_hideBit 18 rfl) rfl rfl (by decide) rfl rfl w1.c70 (Nat.le_of_ble_eq_true rfl) (by decide) rfl (Nat.le_of_ble_eq_true rfl) rfl (by decide) (Nat.le_of_ble_eq_true rfl) rfl rfl ?_
        refine S_X11_isNumber (w1.mp) v.p h_t (fun q4 => ?_) (fun q4 => ?_)
        · refine xRet_some ?_
          refine x_if_eqn (tgt := 43) (dT U_X11_hideBit 19 rfl) (by decide) (by decide) ?_
          refine x_iconst (dT U_X11_hideBit 20 rfl) ?_
          refine x_goto (tgt := 44) (dT U_X11_hideBit 21 rfl) (by decide) ?_
          refine x_iconst (dT U_X11_hideBit 23 rfl) ?_
          refine x_invokevirtual (rc' := rc) (rs' := rs) (rc2 := 0) (rs2 := 0) (As := [_, _]) (st := _) M_X11_lets K_X11_167 (dT U_X11_hideBit 24 rfl) rfl rfl (by decide) rfl rfl w1.c70 (Nat.le_of_ble_eq_true rfl) (by decide) rfl (Nat.le_of_ble_eq_true rfl) rfl (by decide) (Nat.le_of_ble_eq_true rfl) rfl rfl ?_
          refine S_X11_lets1 w1 (fun h2 g2 w2 => ?_)
          refine xRet_some ?_
          refine x_if_eqn (tgt := 74) (dT U_X11_hideBit 25 rfl) (by decide) (by decide) ?_
          refine x_aload_n (dT U_X11_hideBit 26 rfl) rfl ?_
          refine x_aload_n (dT U_X11_hideBit 27 rfl) rfl ?_
          refine x_getfield F_X11_58 (dT U_X11_hideBit 28 rfl) w2.c70 (Nat.le_of_ble_eq_true rfl) rfl ?_
          refine x_iload_n (dT U_X11_hideBit 29 rfl) rfl ?_
          refine x_ialoadv (i) (dT U_X11_hideBit 30 rfl) w2.c109 (Nat.le_of_ble_eq_true rfl) rfl (show i < 2 by omega) (show 2 < 2147483648 by decide) (show _ = ((σ.P i).st : Int) from t2_get hi) ?_
          refine x_iconst (dT U_X11_hideBit 31 rfl) ?_
          have s4 := (v.P i hi).1
          refine x_icmp_ne (tgt := 66) (dT U_X11_hideBit 32 rfl) (by decide) (by unfold xr; omega) (by unfold xr; omega) (fun c59 => ?_) (fun c59 => ?_)
          · skip
            refine x_iconst (dT U_X11_hideBit 35 rfl) ?_
            refine x_iconst (dT U_X11_hideBit 36 rfl) ?_
            refine x_invokevirtual (rc' := rc) (rs' := rs) (rc2 := 0) (rs2 := 0) (As := [_, _]) (st := _) M_X11_lets K_X11_167 (dT U_X11_hideBit 37 rfl) rfl rfl (by decide) rfl rfl w2.c70 (Nat.le_of_ble_eq_true rfl) (by decide) rfl (Nat.le_of_ble_eq_true rfl) rfl (by decide) (Nat.le_of_ble_eq_true rfl) rfl rfl ?_
            refine S_X11_lets0 w2 (fun h3 g3 w3 => ?_)
            refine xRet_some ?_
            refine x_if_nen (tgt := 76) (dT U_X11_hideBit 38 rfl) (by decide) (by decide) ?_
            refine x_iconst (dT U_X11_hideBit 39 rfl) ?_
            refine x_ireturn (dT U_X11_hideBit 40 rfl) rfl ?_
            exact e3 (by omega) (by omega) (by omega) _ _ (Ag.tr (Ag.tr (Ag.tr (Ag.rf 70 142 h) (g1.w (by omega))) (g2.w (by omega))) (g3.w (by omega))) w3 (by unfold xr; omega)
          · skip
            refine x_iconst (dT U_X11_hideBit 33 rfl) ?_
            refine x_goto (tgt := 67) (dT U_X11_hideBit 34 rfl) (by decide) ?_
            refine x_iconst (dT U_X11_hideBit 36 rfl) ?_
            refine x_invokevirtual (rc' := rc) (rs' := rs) (rc2 := 0) (rs2 := 0) (As := [_, _]) (st := _) M_X11_lets K_X11_167 (dT U_X11_hideBit 37 rfl) rfl rfl (by decide) rfl rfl w2.c70 (Nat.le_of_ble_eq_true rfl) (by decide) rfl (Nat.le_of_ble_eq_true rfl) rfl (by decide) (Nat.le_of_ble_eq_true rfl) rfl rfl ?_
            refine S_X11_lets1 w2 (fun h3 g3 w3 => ?_)
            refine xRet_some ?_
            refine x_if_nej (tgt := 76) (dT U_X11_hideBit 38 rfl) (by decide) (by decide) ?_
            have okp := v.P i hi
            have kb := okp.bC (by omega)
            have se := okp.eb hp.1 (by omega)
            rcases kb with hb0 | hb1
            · skip
              refine x_aload_n (dT U_X11_hideBit 41 rfl) rfl ?_
              refine x_getfield F_X11_64 (dT U_X11_hideBit 42 rfl) w3.c70 (Nat.le_of_ble_eq_true rfl) rfl ?_
              refine x_iload_n (dT U_X11_hideBit 43 rfl) rfl ?_
              refine x_ialoadv (i) (dT U_X11_hideBit 44 rfl) w3.c111 (Nat.le_of_ble_eq_true rfl) rfl (show i < 2 by omega) (show 2 < 2147483648 by decide) (show _ = 0 from (t2_get hi).trans hb0) ?_
              refine x_istore (ls' := [some (.ref _), some (vi _), some (vi _), some (vi _), some (vi _), some (vi _)]) (dT U_X11_hideBit 45 rfl) (by decide) rfl ?_
              refine x_aload_n (dT U_X11_hideBit 46 rfl) rfl ?_
              refine x_getfield F_X11_70 (dT U_X11_hideBit 47 rfl) w3.c70 (Nat.le_of_ble_eq_true rfl) rfl ?_
              refine x_iload_n (dT U_X11_hideBit 48 rfl) rfl ?_
              refine x_iload_n (dT U_X11_hideBit 49 rfl) rfl ?_
              refine x_iastore (i) (dT U_X11_hideBit 50 rfl) w3.c113 (Nat.le_of_ble_eq_true rfl) rfl (show i < 2 by omega) (show 2 < 2147483648 by decide) ?_
              refine x_aload_n (dT U_X11_hideBit 51 rfl) rfl ?_
              refine x_getfield F_X11_76 (dT U_X11_hideBit 52 rfl) (hset_ne (by omega) (w3.c70)) (Nat.le_of_ble_eq_true rfl) rfl ?_
              refine x_iload_n (dT U_X11_hideBit 53 rfl) rfl ?_
              refine x_aaload (i) (dT U_X11_hideBit 54 rfl) (hset_ne (by omega) (w3.c115)) (Nat.le_of_ble_eq_true rfl) (by decide) rfl (bfL_get (by omega)) (Nat.le_of_ble_eq_true rfl) ?_
              refine x_iload (dT U_X11_hideBit 55 rfl) rfl ?_
              refine x_aload_n (dT U_X11_hideBit 56 rfl) rfl ?_
              refine x_iload_n (dT U_X11_hideBit 57 rfl) rfl ?_
              refine x_i2l (dT U_X11_hideBit 58 rfl) (by unfold xr; omega) ?_
              refine x_aload_n (dT U_X11_hideBit 59 rfl) rfl ?_
              refine x_bipush (dT U_X11_hideBit 60 rfl) (by decide) ?_
              refine x_invokevirtual (rc' := rc) (rs' := rs) (rc2 := 0) (rs2 := 0) (As := [_]) (st := _) M_X11_of K_X11_160 (dT U_X11_hideBit 61 rfl) rfl rfl (by decide) rfl rfl (hset_ne (by omega) (w3.c70)) (Nat.le_of_ble_eq_true rfl) (by decide) rfl (Nat.le_of_ble_eq_true rfl) rfl (by decide) (Nat.le_of_ble_eq_true rfl) rfl rfl ?_
              have bb8 := bs_b v.p (i := 8) (by omega)
              refine S_X11_of (i := 8) (MP.set (by omega) (w3.mp)) v.p (by omega) ?_
              refine xRet_some ?_
              refine x_i2l (dT U_X11_hideBit 62 rfl) (by unfold xr; omega) ?_
              refine x_lmul (dT U_X11_hideBit 63 rfl) ?_
              refine x_invokevirtual (rc' := rc) (rs' := rs) (rc2 := 0) (rs2 := 0) (As := [_]) (st := _) M_X11_f K_X11_156 (dT U_X11_hideBit 64 rfl) rfl rfl (by decide) rfl rfl (hset_ne (by omega) (w3.c70)) (Nat.le_of_ble_eq_true rfl) (by decide) rfl (Nat.le_of_ble_eq_true rfl) rfl (by decide) (Nat.le_of_ble_eq_true rfl) rfl rfl ?_
              have m8 := mulg (a := mask) (b := (bs σ.p 8 : Int)) (m := 23) (n := 23) (by omega) (by omega)
              refine S_X11_f (MP.set (by omega) (w3.mp)) v.p (by unfold xrl; omega) ?_
              rw [cm1_m]
              refine xRet_some ?_
              refine x_iastore (0) (dT U_X11_hideBit 65 rfl) (hset_ne (by omega) (w3.bf i hi)) (by omega) rfl (show 0 < 2 by omega) (show 2 < 2147483648 by decide) ?_
              refine x_aload_n (dT U_X11_hideBit 66 rfl) rfl ?_
              refine x_getfield F_X11_79 (dT U_X11_hideBit 67 rfl) (hset_ne (by omega) (hset_ne (by omega) (w3.c70))) (Nat.le_of_ble_eq_true rfl) rfl ?_
              refine x_iload_n (dT U_X11_hideBit 68 rfl) rfl ?_
              refine x_aaload (i) (dT U_X11_hideBit 69 rfl) (hset_ne (by omega) (hset_ne (by omega) (w3.c118))) (Nat.le_of_ble_eq_true rfl) (by decide) rfl (bcL_get (by omega)) (Nat.le_of_ble_eq_true rfl) ?_
              refine x_iconst (dT U_X11_hideBit 70 rfl) ?_
              refine x_iload (dT U_X11_hideBit 71 rfl) rfl ?_
              refine x_isub (dT U_X11_hideBit 72 rfl) ?_
              refine x_iload_n (dT U_X11_hideBit 73 rfl) rfl ?_
              refine x_iastore (1) (dT U_X11_hideBit 74 rfl) (hset_ne (by omega) (hset_ne (by omega) (w3.bc i hi))) (by omega) rfl (show 1 < 2 by omega) (show 2 < 2147483648 by decide) ?_
              refine x_aload_n (dT U_X11_hideBit 75 rfl) rfl ?_
              refine x_getfield F_X11_82 (dT U_X11_hideBit 76 rfl) (hset_ne (by omega) (hset_ne (by omega) (hset_ne (by omega) (w3.c70)))) (Nat.le_of_ble_eq_true rfl) rfl ?_
              refine x_iload_n (dT U_X11_hideBit 77 rfl) rfl ?_
              refine x_aaload (i) (dT U_X11_hideBit 78 rfl) (hset_ne (by omega) (hset_ne (by omega) (hset_ne (by omega) (w3.c121)))) (Nat.le_of_ble_eq_true rfl) (by decide) rfl (btL_get (by omega)) (Nat.le_of_ble_eq_true rfl) ?_
              refine x_iconst (dT U_X11_hideBit 79 rfl) ?_
              refine x_iload (dT U_X11_hideBit 80 rfl) rfl ?_
              refine x_isub (dT U_X11_hideBit 81 rfl) ?_
              refine x_iload (dT U_X11_hideBit 82 rfl) rfl ?_
              refine x_iastore (1) (dT U_X11_hideBit 83 rfl) (hset_ne (by omega) (hset_ne (by omega) (hset_ne (by omega) (w3.bt i hi)))) (by omega) rfl (show 1 < 2 by omega) (show 2 < 2147483648 by decide) ?_
              refine x_aload_n (dT U_X11_hideBit 84 rfl) rfl ?_
              refine x_getfield F_X11_76 (dT U_X11_hideBit 85 rfl) (hset_ne (by omega) (hset_ne (by omega) (hset_ne (by omega) (hset_ne (by omega) (w3.c70))))) (Nat.le_of_ble_eq_true rfl) rfl ?_
              refine x_iload_n (dT U_X11_hideBit 86 rfl) rfl ?_
              refine x_aaload (i) (dT U_X11_hideBit 87 rfl) (hset_ne (by omega) (hset_ne (by omega) (hset_ne (by omega) (hset_ne (by omega) (w3.c115))))) (Nat.le_of_ble_eq_true rfl) (by decide) rfl (bfL_get (by omega)) (Nat.le_of_ble_eq_true rfl) ?_
              refine x_iconst (dT U_X11_hideBit 88 rfl) ?_
              refine x_iload (dT U_X11_hideBit 89 rfl) rfl ?_
              refine x_isub (dT U_X11_hideBit 90 rfl) ?_
              refine x_aload_n (dT U_X11_hideBit 91 rfl) rfl ?_
              refine x_iload (dT U_X11_hideBit 92 rfl) rfl ?_
              refine x_i2l (dT U_X11_hideBit 93 rfl) (by unfold xr; omega) ?_
              refine x_aload_n (dT U_X11_hideBit 94 rfl) rfl ?_
              refine x_bipush (dT U_X11_hideBit 95 rfl) (by decide) ?_
              refine x_invokevirtual (rc' := rc) (rs' := rs) (rc2 := 0) (rs2 := 0) (As := [_]) (st := _) M_X11_of K_X11_160 (dT U_X11_hideBit 96 rfl) rfl rfl (by decide) rfl rfl (hset_ne (by omega) (hset_ne (by omega) (hset_ne (by omega) (hset_ne (by omega) (w3.c70))))) (Nat.le_of_ble_eq_true rfl) (by decide) rfl (Nat.le_of_ble_eq_true rfl) rfl (by decide) (Nat.le_of_ble_eq_true rfl) rfl rfl ?_
              have bb8 := bs_b v.p (i := 8) (by omega)
              refine S_X11_of (i := 8) (MP.set (by omega) (MP.set (by omega) (MP.set (by omega) (MP.set (by omega) (w3.mp))))) v.p (by omega) ?_
              refine xRet_some ?_
              refine x_i2l (dT U_X11_hideBit 97 rfl) (by unfold xr; omega) ?_
              refine x_lmul (dT U_X11_hideBit 98 rfl) ?_
              refine x_iload_n (dT U_X11_hideBit 99 rfl) rfl ?_
              refine x_i2l (dT U_X11_hideBit 100 rfl) (by unfold xr at *; omega) ?_
              refine x_aload_n (dT U_X11_hideBit 101 rfl) rfl ?_
              refine x_iload_n (dT U_X11_hideBit 102 rfl) rfl ?_
              refine x_iconst (dT U_X11_hideBit 103 rfl) ?_
              refine x_iload (dT U_X11_hideBit 104 rfl) rfl ?_
              refine x_isub (dT U_X11_hideBit 105 rfl) ?_
              refine x_invokevirtual (rc' := rc) (rs' := rs) (rc2 := 0) (rs2 := 0) (As := [_, _]) (st := _) M_X11_sideOf K_X11_281 (dT U_X11_hideBit 106 rfl) rfl rfl (by decide) rfl rfl (hset_ne (by omega) (hset_ne (by omega) (hset_ne (by omega) (hset_ne (by omega) (w3.c70))))) (Nat.le_of_ble_eq_true rfl) (by decide) rfl (Nat.le_of_ble_eq_true rfl) rfl (by decide) (Nat.le_of_ble_eq_true rfl) rfl rfl ?_
              rw [show (1 : Int) - 0 = 1 by omega]
              have sd := modb (z := (σ.P i).e - 1 * (bs σ.p 0 : Int)) (p := (σ.p : Int)) (by omega)
              refine S_X11_sideOf1 (f := fun j => (σ.P j).e) (MP.set (by omega) (MP.set (by omega) (MP.set (by omega) (MP.set (by omega) (w3.mp))))) v.p (hset_ne (by omega) (hset_ne (by omega) (hset_ne (by omega) (hset_ne (by omega) (w3.c110))))) hi se ?_
              change xRet _ _ _ _ _ _ _ _ _ _ (.inl (some (vi (((σ.P i).e - 1 * (bs σ.p 0 : Int)) % (σ.p : Int))))) _ _
              refine xRet_some ?_
              refine x_i2l (dT U_X11_hideBit 107 rfl) (by unfold xr; omega) ?_
              refine x_lmul (dT U_X11_hideBit 108 rfl) ?_
              refine x_lsub (dT U_X11_hideBit 109 rfl) ?_
              refine x_invokevirtual (rc' := rc) (rs' := rs) (rc2 := 0) (rs2 := 0) (As := [_]) (st := _) M_X11_f K_X11_156 (dT U_X11_hideBit 110 rfl) rfl rfl (by decide) rfl rfl (hset_ne (by omega) (hset_ne (by omega) (hset_ne (by omega) (hset_ne (by omega) (w3.c70))))) (Nat.le_of_ble_eq_true rfl) (by decide) rfl (Nat.le_of_ble_eq_true rfl) rfl (by decide) (Nat.le_of_ble_eq_true rfl) rfl rfl ?_
              have mt := mulg (a := t) (b := (bs σ.p 8 : Int)) (m := 23) (n := 23) (by omega) (by omega)
              have mc := mulb (a := c) (b := ((σ.P i).e - 1 * (bs σ.p 0 : Int)) % (σ.p : Int)) (p := (σ.p : Int)) (by omega) sd (by omega)
              refine S_X11_f (MP.set (by omega) (MP.set (by omega) (MP.set (by omega) (MP.set (by omega) (w3.mp))))) v.p (by unfold xrl; omega) ?_
              rw [fo_m]
              have ff9 := fo_b (p := σ.p) (e := (σ.P i).e) (s := 1) (c := c) (t := t) hp.1
              have cc9 := cm1_b (p := σ.p) (n := 0) (b := mask) hp.1
              refine xRet_some ?_
              refine x_iastore (1) (dT U_X11_hideBit 111 rfl) (hset_ne (by omega) (hset_ne (by omega) (hset_eq (hset_ne (by omega) (w3.bf i hi))))) (by omega) rfl (show 1 < 2 by omega) (show 2 < 2147483648 by decide) ?_
              refine x_aload_n (dT U_X11_hideBit 112 rfl) rfl ?_
              refine x_getfield F_X11_58 (dT U_X11_hideBit 113 rfl) (hset_ne (by omega) (hset_ne (by omega) (hset_ne (by omega) (hset_ne (by omega) (hset_ne (by omega) (w3.c70)))))) (Nat.le_of_ble_eq_true rfl) rfl ?_
              refine x_iload_n (dT U_X11_hideBit 114 rfl) rfl ?_
              refine x_iconst (dT U_X11_hideBit 115 rfl) ?_
              refine x_iastore (i) (dT U_X11_hideBit 116 rfl) (hset_ne (by omega) (hset_ne (by omega) (hset_ne (by omega) (hset_ne (by omega) (hset_ne (by omega) (w3.c109)))))) (Nat.le_of_ble_eq_true rfl) rfl (show i < 2 by omega) (show 2 < 2147483648 by decide) ?_
              refine x_sipush (dT U_X11_hideBit 117 rfl) (by decide) ?_
              refine x_aload_n (dT U_X11_hideBit 118 rfl) rfl ?_
              refine x_getfield F_X11_7 (dT U_X11_hideBit 119 rfl) (hset_ne (by omega) (hset_ne (by omega) (hset_ne (by omega) (hset_ne (by omega) (hset_ne (by omega) (hset_ne (by omega) (w3.c70))))))) (Nat.le_of_ble_eq_true rfl) rfl ?_
              refine x_aload_n (dT U_X11_hideBit 120 rfl) rfl ?_
              refine x_getfield F_X11_76 (dT U_X11_hideBit 121 rfl) (hset_ne (by omega) (hset_ne (by omega) (hset_ne (by omega) (hset_ne (by omega) (hset_ne (by omega) (hset_ne (by omega) (w3.c70))))))) (Nat.le_of_ble_eq_true rfl) rfl ?_
              refine x_iload_n (dT U_X11_hideBit 122 rfl) rfl ?_
              refine x_aaload (i) (dT U_X11_hideBit 123 rfl) (hset_ne (by omega) (hset_ne (by omega) (hset_ne (by omega) (hset_ne (by omega) (hset_ne (by omega) (hset_ne (by omega) (w3.c115))))))) (Nat.le_of_ble_eq_true rfl) (by decide) rfl (bfL_get (by omega)) (Nat.le_of_ble_eq_true rfl) ?_
              refine x_iconst (dT U_X11_hideBit 124 rfl) ?_
              refine x_ialoadv (0) (dT U_X11_hideBit 125 rfl) (hset_ne (by omega) (hset_eq (hset_ne (by omega) (hset_ne (by omega) (hset_eq (hset_ne (by omega) (w3.bf i hi))))))) (by omega) rfl (show 0 < 2 by omega) (show 2 < 2147483648 by decide) (show _ = cm1 σ.p 0 mask from rfl) ?_
              obtain ⟨ml, m1, m2, m3⟩ := w3.pow
              refine x_ialoadv ((cm1 σ.p 0 mask).toNat) (dT U_X11_hideBit 126 rfl) (hset_ne (by omega) (hset_ne (by omega) (hset_ne (by omega) (hset_ne (by omega) (hset_ne (by omega) (hset_ne (by omega) (m1))))))) (Nat.le_of_ble_eq_true rfl) (by omega) (by rw [m2]; omega) (by rw [m2]; omega) (show _ = MM σ.p (cm1 σ.p 0 mask) from m3 _ (by omega)) ?_
              refine x_imul (dT U_X11_hideBit 127 rfl) ?_
              refine x_aload_n (dT U_X11_hideBit 128 rfl) rfl ?_
              refine x_getfield F_X11_7 (dT U_X11_hideBit 129 rfl) (hset_ne (by omega) (hset_ne (by omega) (hset_ne (by omega) (hset_ne (by omega) (hset_ne (by omega) (hset_ne (by omega) (w3.c70))))))) (Nat.le_of_ble_eq_true rfl) rfl ?_
              refine x_aload_n (dT U_X11_hideBit 130 rfl) rfl ?_
              refine x_getfield F_X11_76 (dT U_X11_hideBit 131 rfl) (hset_ne (by omega) (hset_ne (by omega) (hset_ne (by omega) (hset_ne (by omega) (hset_ne (by omega) (hset_ne (by omega) (w3.c70))))))) (Nat.le_of_ble_eq_true rfl) rfl ?_
              refine x_iload_n (dT U_X11_hideBit 132 rfl) rfl ?_
              refine x_aaload (i) (dT U_X11_hideBit 133 rfl) (hset_ne (by omega) (hset_ne (by omega) (hset_ne (by omega) (hset_ne (by omega) (hset_ne (by omega) (hset_ne (by omega) (w3.c115))))))) (Nat.le_of_ble_eq_true rfl) (by decide) rfl (bfL_get (by omega)) (Nat.le_of_ble_eq_true rfl) ?_
              refine x_iconst (dT U_X11_hideBit 134 rfl) ?_
              refine x_ialoadv (1) (dT U_X11_hideBit 135 rfl) (hset_ne (by omega) (hset_eq (hset_ne (by omega) (hset_ne (by omega) (hset_eq (hset_ne (by omega) (w3.bf i hi))))))) (by omega) rfl (show 1 < 2 by omega) (show 2 < 2147483648 by decide) (show _ = fo σ.p (σ.P i).e 1 c t from rfl) ?_
              obtain ⟨ml, m1, m2, m3⟩ := w3.pow
              refine x_ialoadv ((fo σ.p (σ.P i).e 1 c t).toNat) (dT U_X11_hideBit 136 rfl) (hset_ne (by omega) (hset_ne (by omega) (hset_ne (by omega) (hset_ne (by omega) (hset_ne (by omega) (hset_ne (by omega) (m1))))))) (Nat.le_of_ble_eq_true rfl) (by omega) (by rw [m2]; omega) (by rw [m2]; omega) (show _ = MM σ.p (fo σ.p (σ.P i).e 1 c t) from m3 _ (by omega)) ?_
              refine x_iadd (dT U_X11_hideBit 137 rfl) ?_
              refine x_ireturn (dT U_X11_hideBit 138 rfl) rfl ?_
              rw [show pHide σ.p (σ.P i) mask c t = _ from if_pos hb0] at k
              exact k (by omega) (by omega) (by omega) _ _ _ (((((((Ag.tr (Ag.tr (Ag.tr (Ag.rf 70 142 h) (g1.w (by omega))) (g2.w (by omega))) (g3.w (by omega))).set (by omega)).set (by omega)).set (by omega)).set (by omega)).set (by omega)).set (by omega)) (w3.pair (i := i) (P := ((2, (σ.P i).b, (σ.P i).bl, (σ.P i).e, mask, (σ.P i).c, cm1 σ.p 0 mask, fo σ.p (σ.P i).e 1 c t, (σ.P i).c0, c, (σ.P i).t0, t, (σ.P i).g0, (σ.P i).g1) : PS)) (fun a ha => by rw [hset_fr (by omega), hset_fr (by omega), hset_fr (by omega), hset_fr (by omega), hset_fr (by omega), hset_fr (by omega)]) hi (c2 (R' := ((2, (σ.P i).b, (σ.P i).bl, (σ.P i).e, mask, (σ.P i).c, cm1 σ.p 0 mask, fo σ.p (σ.P i).e 1 c t, (σ.P i).c0, c, (σ.P i).t0, t, (σ.P i).g0, (σ.P i).g1) : PS)) gPT hi (hset_eq (hset_ne (by omega) (hset_ne (by omega) (hset_ne (by omega) (hset_ne (by omega) (hset_ne (by omega) (w3.c109)))))))) (k2 (R' := ((2, (σ.P i).b, (σ.P i).bl, (σ.P i).e, mask, (σ.P i).c, cm1 σ.p 0 mask, fo σ.p (σ.P i).e 1 c t, (σ.P i).c0, c, (σ.P i).t0, t, (σ.P i).g0, (σ.P i).g1) : PS)) PS.e rfl (hset_ne (by omega) (hset_ne (by omega) (hset_ne (by omega) (hset_ne (by omega) (hset_ne (by omega) (hset_ne (by omega) (w3.c110)))))))) (k2 (R' := ((2, (σ.P i).b, (σ.P i).bl, (σ.P i).e, mask, (σ.P i).c, cm1 σ.p 0 mask, fo σ.p (σ.P i).e 1 c t, (σ.P i).c0, c, (σ.P i).t0, t, (σ.P i).g0, (σ.P i).g1) : PS)) PS.b rfl (hset_ne (by omega) (hset_ne (by omega) (hset_ne (by omega) (hset_ne (by omega) (hset_ne (by omega) (hset_ne (by omega) (w3.c111)))))))) (k2 (R' := ((2, (σ.P i).b, (σ.P i).bl, (σ.P i).e, mask, (σ.P i).c, cm1 σ.p 0 mask, fo σ.p (σ.P i).e 1 c t, (σ.P i).c0, c, (σ.P i).t0, t, (σ.P i).g0, (σ.P i).g1) : PS)) PS.bl rfl (hset_ne (by omega) (hset_ne (by omega) (hset_ne (by omega) (hset_ne (by omega) (hset_ne (by omega) (hset_ne (by omega) (w3.c112)))))))) (c2 (R' := ((2, (σ.P i).b, (σ.P i).bl, (σ.P i).e, mask, (σ.P i).c, cm1 σ.p 0 mask, fo σ.p (σ.P i).e 1 c t, (σ.P i).c0, c, (σ.P i).t0, t, (σ.P i).g0, (σ.P i).g1) : PS)) PS.m hi (hset_ne (by omega) (hset_ne (by omega) (hset_ne (by omega) (hset_ne (by omega) (hset_ne (by omega) (hset_eq (w3.c113)))))))) (k2 (R' := ((2, (σ.P i).b, (σ.P i).bl, (σ.P i).e, mask, (σ.P i).c, cm1 σ.p 0 mask, fo σ.p (σ.P i).e 1 c t, (σ.P i).c0, c, (σ.P i).t0, t, (σ.P i).g0, (σ.P i).g1) : PS)) PS.c rfl (hset_ne (by omega) (hset_ne (by omega) (hset_ne (by omega) (hset_ne (by omega) (hset_ne (by omega) (hset_ne (by omega) (w3.c114)))))))) (hset_ne (by omega) (hset_eq (hset_ne (by omega) (hset_ne (by omega) (hset_eq (hset_ne (by omega) (w3.bf i hi))))))) (hset_ne (by omega) (hset_ne (by omega) (hset_ne (by omega) (hset_eq (hset_ne (by omega) (hset_ne (by omega) (w3.bc i hi))))))) (hset_ne (by omega) (hset_ne (by omega) (hset_eq (hset_ne (by omega) (hset_ne (by omega) (hset_ne (by omega) (w3.bt i hi))))))))
            · skip
              refine x_aload_n (dT U_X11_hideBit 41 rfl) rfl ?_
              refine x_getfield F_X11_64 (dT U_X11_hideBit 42 rfl) w3.c70 (Nat.le_of_ble_eq_true rfl) rfl ?_
              refine x_iload_n (dT U_X11_hideBit 43 rfl) rfl ?_
              refine x_ialoadv (i) (dT U_X11_hideBit 44 rfl) w3.c111 (Nat.le_of_ble_eq_true rfl) rfl (show i < 2 by omega) (show 2 < 2147483648 by decide) (show _ = 1 from (t2_get hi).trans hb1) ?_
              refine x_istore (ls' := [some (.ref _), some (vi _), some (vi _), some (vi _), some (vi _), some (vi _)]) (dT U_X11_hideBit 45 rfl) (by decide) rfl ?_
              refine x_aload_n (dT U_X11_hideBit 46 rfl) rfl ?_
              refine x_getfield F_X11_70 (dT U_X11_hideBit 47 rfl) w3.c70 (Nat.le_of_ble_eq_true rfl) rfl ?_
              refine x_iload_n (dT U_X11_hideBit 48 rfl) rfl ?_
              refine x_iload_n (dT U_X11_hideBit 49 rfl) rfl ?_
              refine x_iastore (i) (dT U_X11_hideBit 50 rfl) w3.c113 (Nat.le_of_ble_eq_true rfl) rfl (show i < 2 by omega) (show 2 < 2147483648 by decide) ?_
              refine x_aload_n (dT U_X11_hideBit 51 rfl) rfl ?_
              refine x_getfield F_X11_76 (dT U_X11_hideBit 52 rfl) (hset_ne (by omega) (w3.c70)) (Nat.le_of_ble_eq_true rfl) rfl ?_
              refine x_iload_n (dT U_X11_hideBit 53 rfl) rfl ?_
              refine x_aaload (i) (dT U_X11_hideBit 54 rfl) (hset_ne (by omega) (w3.c115)) (Nat.le_of_ble_eq_true rfl) (by decide) rfl (bfL_get (by omega)) (Nat.le_of_ble_eq_true rfl) ?_
              refine x_iload (dT U_X11_hideBit 55 rfl) rfl ?_
              refine x_aload_n (dT U_X11_hideBit 56 rfl) rfl ?_
              refine x_iload_n (dT U_X11_hideBit 57 rfl) rfl ?_
              refine x_i2l (dT U_X11_hideBit 58 rfl) (by unfold xr; omega) ?_
              refine x_aload_n (dT U_X11_hideBit 59 rfl) rfl ?_
              refine x_bipush (dT U_X11_hideBit 60 rfl) (by decide) ?_
              refine x_invokevirtual (rc' := rc) (rs' := rs) (rc2 := 0) (rs2 := 0) (As := [_]) (st := _) M_X11_of K_X11_160 (dT U_X11_hideBit 61 rfl) rfl rfl (by decide) rfl rfl (hset_ne (by omega) (w3.c70)) (Nat.le_of_ble_eq_true rfl) (by decide) rfl (Nat.le_of_ble_eq_true rfl) rfl (by decide) (Nat.le_of_ble_eq_true rfl) rfl rfl ?_
              have bb8 := bs_b v.p (i := 8) (by omega)
              refine S_X11_of (i := 8) (MP.set (by omega) (w3.mp)) v.p (by omega) ?_
              refine xRet_some ?_
              refine x_i2l (dT U_X11_hideBit 62 rfl) (by unfold xr; omega) ?_
              refine x_lmul (dT U_X11_hideBit 63 rfl) ?_
              refine x_invokevirtual (rc' := rc) (rs' := rs) (rc2 := 0) (rs2 := 0) (As := [_]) (st := _) M_X11_f K_X11_156 (dT U_X11_hideBit 64 rfl) rfl rfl (by decide) rfl rfl (hset_ne (by omega) (w3.c70)) (Nat.le_of_ble_eq_true rfl) (by decide) rfl (Nat.le_of_ble_eq_true rfl) rfl (by decide) (Nat.le_of_ble_eq_true rfl) rfl rfl ?_
              have m8 := mulg (a := mask) (b := (bs σ.p 8 : Int)) (m := 23) (n := 23) (by omega) (by omega)
              refine S_X11_f (MP.set (by omega) (w3.mp)) v.p (by unfold xrl; omega) ?_
              rw [cm1_m]
              refine xRet_some ?_
              refine x_iastore (1) (dT U_X11_hideBit 65 rfl) (hset_ne (by omega) (w3.bf i hi)) (by omega) rfl (show 1 < 2 by omega) (show 2 < 2147483648 by decide) ?_
              refine x_aload_n (dT U_X11_hideBit 66 rfl) rfl ?_
              refine x_getfield F_X11_79 (dT U_X11_hideBit 67 rfl) (hset_ne (by omega) (hset_ne (by omega) (w3.c70))) (Nat.le_of_ble_eq_true rfl) rfl ?_
              refine x_iload_n (dT U_X11_hideBit 68 rfl) rfl ?_
              refine x_aaload (i) (dT U_X11_hideBit 69 rfl) (hset_ne (by omega) (hset_ne (by omega) (w3.c118))) (Nat.le_of_ble_eq_true rfl) (by decide) rfl (bcL_get (by omega)) (Nat.le_of_ble_eq_true rfl) ?_
              refine x_iconst (dT U_X11_hideBit 70 rfl) ?_
              refine x_iload (dT U_X11_hideBit 71 rfl) rfl ?_
              refine x_isub (dT U_X11_hideBit 72 rfl) ?_
              refine x_iload_n (dT U_X11_hideBit 73 rfl) rfl ?_
              refine x_iastore (0) (dT U_X11_hideBit 74 rfl) (hset_ne (by omega) (hset_ne (by omega) (w3.bc i hi))) (by omega) rfl (show 0 < 2 by omega) (show 2 < 2147483648 by decide) ?_
              refine x_aload_n (dT U_X11_hideBit 75 rfl) rfl ?_
              refine x_getfield F_X11_82 (dT U_X11_hideBit 76 rfl) (hset_ne (by omega) (hset_ne (by omega) (hset_ne (by omega) (w3.c70)))) (Nat.le_of_ble_eq_true rfl) rfl ?_
              refine x_iload_n (dT U_X11_hideBit 77 rfl) rfl ?_
              refine x_aaload (i) (dT U_X11_hideBit 78 rfl) (hset_ne (by omega) (hset_ne (by omega) (hset_ne (by omega) (w3.c121)))) (Nat.le_of_ble_eq_true rfl) (by decide) rfl (btL_get (by omega)) (Nat.le_of_ble_eq_true rfl) ?_
              refine x_iconst (dT U_X11_hideBit 79 rfl) ?_
              refine x_iload (dT U_X11_hideBit 80 rfl) rfl ?_
              refine x_isub (dT U_X11_hideBit 81 rfl) ?_
              refine x_iload (dT U_X11_hideBit 82 rfl) rfl ?_
              refine x_iastore (0) (dT U_X11_hideBit 83 rfl) (hset_ne (by omega) (hset_ne (by omega) (hset_ne (by omega) (w3.bt i hi)))) (by omega) rfl (show 0 < 2 by omega) (show 2 < 2147483648 by decide) ?_
              refine x_aload_n (dT U_X11_hideBit 84 rfl) rfl ?_
              refine x_getfield F_X11_76 (dT U_X11_hideBit 85 rfl) (hset_ne (by omega) (hset_ne (by omega) (hset_ne (by omega) (hset_ne (by omega) (w3.c70))))) (Nat.le_of_ble_eq_true rfl) rfl ?_
              refine x_iload_n (dT U_X11_hideBit 86 rfl) rfl ?_
              refine x_aaload (i) (dT U_X11_hideBit 87 rfl) (hset_ne (by omega) (hset_ne (by omega) (hset_ne (by omega) (hset_ne (by omega) (w3.c115))))) (Nat.le_of_ble_eq_true rfl) (by decide) rfl (bfL_get (by omega)) (Nat.le_of_ble_eq_true rfl) ?_
              refine x_iconst (dT U_X11_hideBit 88 rfl) ?_
              refine x_iload (dT U_X11_hideBit 89 rfl) rfl ?_
              refine x_isub (dT U_X11_hideBit 90 rfl) ?_
              refine x_aload_n (dT U_X11_hideBit 91 rfl) rfl ?_
              refine x_iload (dT U_X11_hideBit 92 rfl) rfl ?_
              refine x_i2l (dT U_X11_hideBit 93 rfl) (by unfold xr; omega) ?_
              refine x_aload_n (dT U_X11_hideBit 94 rfl) rfl ?_
              refine x_bipush (dT U_X11_hideBit 95 rfl) (by decide) ?_
              refine x_invokevirtual (rc' := rc) (rs' := rs) (rc2 := 0) (rs2 := 0) (As := [_]) (st := _) M_X11_of K_X11_160 (dT U_X11_hideBit 96 rfl) rfl rfl (by decide) rfl rfl (hset_ne (by omega) (hset_ne (by omega) (hset_ne (by omega) (hset_ne (by omega) (w3.c70))))) (Nat.le_of_ble_eq_true rfl) (by decide) rfl (Nat.le_of_ble_eq_true rfl) rfl (by decide) (Nat.le_of_ble_eq_true rfl) rfl rfl ?_
              have bb8 := bs_b v.p (i := 8) (by omega)
              refine S_X11_of (i := 8) (MP.set (by omega) (MP.set (by omega) (MP.set (by omega) (MP.set (by omega) (w3.mp))))) v.p (by omega) ?_
              refine xRet_some ?_
              refine x_i2l (dT U_X11_hideBit 97 rfl) (by unfold xr; omega) ?_
              refine x_lmul (dT U_X11_hideBit 98 rfl) ?_
              refine x_iload_n (dT U_X11_hideBit 99 rfl) rfl ?_
              refine x_i2l (dT U_X11_hideBit 100 rfl) (by unfold xr at *; omega) ?_
              refine x_aload_n (dT U_X11_hideBit 101 rfl) rfl ?_
              refine x_iload_n (dT U_X11_hideBit 102 rfl) rfl ?_
              refine x_iconst (dT U_X11_hideBit 103 rfl) ?_
              refine x_iload (dT U_X11_hideBit 104 rfl) rfl ?_
              refine x_isub (dT U_X11_hideBit 105 rfl) ?_
              refine x_invokevirtual (rc' := rc) (rs' := rs) (rc2 := 0) (rs2 := 0) (As := [_, _]) (st := _) M_X11_sideOf K_X11_281 (dT U_X11_hideBit 106 rfl) rfl rfl (by decide) rfl rfl (hset_ne (by omega) (hset_ne (by omega) (hset_ne (by omega) (hset_ne (by omega) (w3.c70))))) (Nat.le_of_ble_eq_true rfl) (by decide) rfl (Nat.le_of_ble_eq_true rfl) rfl (by decide) (Nat.le_of_ble_eq_true rfl) rfl rfl ?_
              rw [show (1 : Int) - 1 = 0 by omega]
              have sd := modb (z := (σ.P i).e - 0 * (bs σ.p 0 : Int)) (p := (σ.p : Int)) (by omega)
              refine S_X11_sideOf0 (f := fun j => (σ.P j).e) (MP.set (by omega) (MP.set (by omega) (MP.set (by omega) (MP.set (by omega) (w3.mp))))) v.p (hset_ne (by omega) (hset_ne (by omega) (hset_ne (by omega) (hset_ne (by omega) (w3.c110))))) hi se ?_
              change xRet _ _ _ _ _ _ _ _ _ _ (.inl (some (vi (((σ.P i).e - 0 * (bs σ.p 0 : Int)) % (σ.p : Int))))) _ _
              refine xRet_some ?_
              refine x_i2l (dT U_X11_hideBit 107 rfl) (by unfold xr; omega) ?_
              refine x_lmul (dT U_X11_hideBit 108 rfl) ?_
              refine x_lsub (dT U_X11_hideBit 109 rfl) ?_
              refine x_invokevirtual (rc' := rc) (rs' := rs) (rc2 := 0) (rs2 := 0) (As := [_]) (st := _) M_X11_f K_X11_156 (dT U_X11_hideBit 110 rfl) rfl rfl (by decide) rfl rfl (hset_ne (by omega) (hset_ne (by omega) (hset_ne (by omega) (hset_ne (by omega) (w3.c70))))) (Nat.le_of_ble_eq_true rfl) (by decide) rfl (Nat.le_of_ble_eq_true rfl) rfl (by decide) (Nat.le_of_ble_eq_true rfl) rfl rfl ?_
              have mt := mulg (a := t) (b := (bs σ.p 8 : Int)) (m := 23) (n := 23) (by omega) (by omega)
              have mc := mulb (a := c) (b := ((σ.P i).e - 0 * (bs σ.p 0 : Int)) % (σ.p : Int)) (p := (σ.p : Int)) (by omega) sd (by omega)
              refine S_X11_f (MP.set (by omega) (MP.set (by omega) (MP.set (by omega) (MP.set (by omega) (w3.mp))))) v.p (by unfold xrl; omega) ?_
              rw [fo_m]
              have ff9 := fo_b (p := σ.p) (e := (σ.P i).e) (s := 0) (c := c) (t := t) hp.1
              have cc9 := cm1_b (p := σ.p) (n := 0) (b := mask) hp.1
              refine xRet_some ?_
              refine x_iastore (0) (dT U_X11_hideBit 111 rfl) (hset_ne (by omega) (hset_ne (by omega) (hset_eq (hset_ne (by omega) (w3.bf i hi))))) (by omega) rfl (show 0 < 2 by omega) (show 2 < 2147483648 by decide) ?_
              refine x_aload_n (dT U_X11_hideBit 112 rfl) rfl ?_
              refine x_getfield F_X11_58 (dT U_X11_hideBit 113 rfl) (hset_ne (by omega) (hset_ne (by omega) (hset_ne (by omega) (hset_ne (by omega) (hset_ne (by omega) (w3.c70)))))) (Nat.le_of_ble_eq_true rfl) rfl ?_
              refine x_iload_n (dT U_X11_hideBit 114 rfl) rfl ?_
              refine x_iconst (dT U_X11_hideBit 115 rfl) ?_
              refine x_iastore (i) (dT U_X11_hideBit 116 rfl) (hset_ne (by omega) (hset_ne (by omega) (hset_ne (by omega) (hset_ne (by omega) (hset_ne (by omega) (w3.c109)))))) (Nat.le_of_ble_eq_true rfl) rfl (show i < 2 by omega) (show 2 < 2147483648 by decide) ?_
              refine x_sipush (dT U_X11_hideBit 117 rfl) (by decide) ?_
              refine x_aload_n (dT U_X11_hideBit 118 rfl) rfl ?_
              refine x_getfield F_X11_7 (dT U_X11_hideBit 119 rfl) (hset_ne (by omega) (hset_ne (by omega) (hset_ne (by omega) (hset_ne (by omega) (hset_ne (by omega) (hset_ne (by omega) (w3.c70))))))) (Nat.le_of_ble_eq_true rfl) rfl ?_
              refine x_aload_n (dT U_X11_hideBit 120 rfl) rfl ?_
              refine x_getfield F_X11_76 (dT U_X11_hideBit 121 rfl) (hset_ne (by omega) (hset_ne (by omega) (hset_ne (by omega) (hset_ne (by omega) (hset_ne (by omega) (hset_ne (by omega) (w3.c70))))))) (Nat.le_of_ble_eq_true rfl) rfl ?_
              refine x_iload_n (dT U_X11_hideBit 122 rfl) rfl ?_
              refine x_aaload (i) (dT U_X11_hideBit 123 rfl) (hset_ne (by omega) (hset_ne (by omega) (hset_ne (by omega) (hset_ne (by omega) (hset_ne (by omega) (hset_ne (by omega) (w3.c115))))))) (Nat.le_of_ble_eq_true rfl) (by decide) rfl (bfL_get (by omega)) (Nat.le_of_ble_eq_true rfl) ?_
              refine x_iconst (dT U_X11_hideBit 124 rfl) ?_
              refine x_ialoadv (0) (dT U_X11_hideBit 125 rfl) (hset_ne (by omega) (hset_eq (hset_ne (by omega) (hset_ne (by omega) (hset_eq (hset_ne (by omega) (w3.bf i hi))))))) (by omega) rfl (show 0 < 2 by omega) (show 2 < 2147483648 by decide) (show _ = fo σ.p (σ.P i).e 0 c t from rfl) ?_
              obtain ⟨ml, m1, m2, m3⟩ := w3.pow
              refine x_ialoadv ((fo σ.p (σ.P i).e 0 c t).toNat) (dT U_X11_hideBit 126 rfl) (hset_ne (by omega) (hset_ne (by omega) (hset_ne (by omega) (hset_ne (by omega) (hset_ne (by omega) (hset_ne (by omega) (m1))))))) (Nat.le_of_ble_eq_true rfl) (by omega) (by rw [m2]; omega) (by rw [m2]; omega) (show _ = MM σ.p (fo σ.p (σ.P i).e 0 c t) from m3 _ (by omega)) ?_
              refine x_imul (dT U_X11_hideBit 127 rfl) ?_
              refine x_aload_n (dT U_X11_hideBit 128 rfl) rfl ?_
              refine x_getfield F_X11_7 (dT U_X11_hideBit 129 rfl) (hset_ne (by omega) (hset_ne (by omega) (hset_ne (by omega) (hset_ne (by omega) (hset_ne (by omega) (hset_ne (by omega) (w3.c70))))))) (Nat.le_of_ble_eq_true rfl) rfl ?_
              refine x_aload_n (dT U_X11_hideBit 130 rfl) rfl ?_
              refine x_getfield F_X11_76 (dT U_X11_hideBit 131 rfl) (hset_ne (by omega) (hset_ne (by omega) (hset_ne (by omega) (hset_ne (by omega) (hset_ne (by omega) (hset_ne (by omega) (w3.c70))))))) (Nat.le_of_ble_eq_true rfl) rfl ?_
              refine x_iload_n (dT U_X11_hideBit 132 rfl) rfl ?_
              refine x_aaload (i) (dT U_X11_hideBit 133 rfl) (hset_ne (by omega) (hset_ne (by omega) (hset_ne (by omega) (hset_ne (by omega) (hset_ne (by omega) (hset_ne (by omega) (w3.c115))))))) (Nat.le_of_ble_eq_true rfl) (by decide) rfl (bfL_get (by omega)) (Nat.le_of_ble_eq_true rfl) ?_
              refine x_iconst (dT U_X11_hideBit 134 rfl) ?_
              refine x_ialoadv (1) (dT U_X11_hideBit 135 rfl) (hset_ne (by omega) (hset_eq (hset_ne (by omega) (hset_ne (by omega) (hset_eq (hset_ne (by omega) (w3.bf i hi))))))) (by omega) rfl (show 1 < 2 by omega) (show 2 < 2147483648 by decide) (show _ = cm1 σ.p 0 mask from rfl) ?_
              obtain ⟨ml, m1, m2, m3⟩ := w3.pow
              refine x_ialoadv ((cm1 σ.p 0 mask).toNat) (dT U_X11_hideBit 136 rfl) (hset_ne (by omega) (hset_ne (by omega) (hset_ne (by omega) (hset_ne (by omega) (hset_ne (by omega) (hset_ne (by omega) (m1))))))) (Nat.le_of_ble_eq_true rfl) (by omega) (by rw [m2]; omega) (by rw [m2]; omega) (show _ = MM σ.p (cm1 σ.p 0 mask) from m3 _ (by omega)) ?_
              refine x_iadd (dT U_X11_hideBit 137 rfl) ?_
              refine x_ireturn (dT U_X11_hideBit 138 rfl) rfl ?_
              rw [show pHide σ.p (σ.P i) mask c t = _ from if_neg (by omega)] at k
              exact k (by omega) (by omega) (by omega) _ _ _ (((((((Ag.tr (Ag.tr (Ag.tr (Ag.rf 70 142 h) (g1.w (by omega))) (g2.w (by omega))) (g3.w (by omega))).set (by omega)).set (by omega)).set (by omega)).set (by omega)).set (by omega)).set (by omega)) (w3.pair (i := i) (P := ((2, (σ.P i).b, (σ.P i).bl, (σ.P i).e, mask, (σ.P i).c, fo σ.p (σ.P i).e 0 c t, cm1 σ.p 0 mask, c, (σ.P i).c1, t, (σ.P i).t1, (σ.P i).g0, (σ.P i).g1) : PS)) (fun a ha => by rw [hset_fr (by omega), hset_fr (by omega), hset_fr (by omega), hset_fr (by omega), hset_fr (by omega), hset_fr (by omega)]) hi (c2 (R' := ((2, (σ.P i).b, (σ.P i).bl, (σ.P i).e, mask, (σ.P i).c, fo σ.p (σ.P i).e 0 c t, cm1 σ.p 0 mask, c, (σ.P i).c1, t, (σ.P i).t1, (σ.P i).g0, (σ.P i).g1) : PS)) gPT hi (hset_eq (hset_ne (by omega) (hset_ne (by omega) (hset_ne (by omega) (hset_ne (by omega) (hset_ne (by omega) (w3.c109)))))))) (k2 (R' := ((2, (σ.P i).b, (σ.P i).bl, (σ.P i).e, mask, (σ.P i).c, fo σ.p (σ.P i).e 0 c t, cm1 σ.p 0 mask, c, (σ.P i).c1, t, (σ.P i).t1, (σ.P i).g0, (σ.P i).g1) : PS)) PS.e rfl (hset_ne (by omega) (hset_ne (by omega) (hset_ne (by omega) (hset_ne (by omega) (hset_ne (by omega) (hset_ne (by omega) (w3.c110)))))))) (k2 (R' := ((2, (σ.P i).b, (σ.P i).bl, (σ.P i).e, mask, (σ.P i).c, fo σ.p (σ.P i).e 0 c t, cm1 σ.p 0 mask, c, (σ.P i).c1, t, (σ.P i).t1, (σ.P i).g0, (σ.P i).g1) : PS)) PS.b rfl (hset_ne (by omega) (hset_ne (by omega) (hset_ne (by omega) (hset_ne (by omega) (hset_ne (by omega) (hset_ne (by omega) (w3.c111)))))))) (k2 (R' := ((2, (σ.P i).b, (σ.P i).bl, (σ.P i).e, mask, (σ.P i).c, fo σ.p (σ.P i).e 0 c t, cm1 σ.p 0 mask, c, (σ.P i).c1, t, (σ.P i).t1, (σ.P i).g0, (σ.P i).g1) : PS)) PS.bl rfl (hset_ne (by omega) (hset_ne (by omega) (hset_ne (by omega) (hset_ne (by omega) (hset_ne (by omega) (hset_ne (by omega) (w3.c112)))))))) (c2 (R' := ((2, (σ.P i).b, (σ.P i).bl, (σ.P i).e, mask, (σ.P i).c, fo σ.p (σ.P i).e 0 c t, cm1 σ.p 0 mask, c, (σ.P i).c1, t, (σ.P i).t1, (σ.P i).g0, (σ.P i).g1) : PS)) PS.m hi (hset_ne (by omega) (hset_ne (by omega) (hset_ne (by omega) (hset_ne (by omega) (hset_ne (by omega) (hset_eq (w3.c113)))))))) (k2 (R' := ((2, (σ.P i).b, (σ.P i).bl, (σ.P i).e, mask, (σ.P i).c, fo σ.p (σ.P i).e 0 c t, cm1 σ.p 0 mask, c, (σ.P i).c1, t, (σ.P i).t1, (σ.P i).g0, (σ.P i).g1) : PS)) PS.c rfl (hset_ne (by omega) (hset_ne (by omega) (hset_ne (by omega) (hset_ne (by omega) (hset_ne (by omega) (hset_ne (by omega) (w3.c114)))))))) (hset_ne (by omega) (hset_eq (hset_ne (by omega) (hset_ne (by omega) (hset_eq (hset_ne (by omega) (w3.bf i hi))))))) (hset_ne (by omega) (hset_ne (by omega) (hset_ne (by omega) (hset_eq (hset_ne (by omega) (hset_ne (by omega) (w3.bc i hi))))))) (hset_ne (by omega) (hset_ne (by omega) (hset_eq (hset_ne (by omega) (hset_ne (by omega) (hset_ne (by omega) (w3.bt i hi))))))))
        · refine xRet_some ?_
          refine x_if_eqj (tgt := 43) (dT U_X11_hideBit 19 rfl) (by decide) (by decide) ?_
          refine x_iconst (dT U_X11_hideBit 22 rfl) ?_
          refine x_iconst (dT U_X11_hideBit 23 rfl) ?_
          refine x_invokevirtual (rc' := rc) (rs' := rs) (rc2 := 0) (rs2 := 0) (As := [_, _]) (st := _) M_X11_lets K_X11_167 (dT U_X11_hideBit 24 rfl) rfl rfl (by decide) rfl rfl w1.c70 (Nat.le_of_ble_eq_true rfl) (by decide) rfl (Nat.le_of_ble_eq_true rfl) rfl (by decide) (Nat.le_of_ble_eq_true rfl) rfl rfl ?_
          refine S_X11_lets0 w1 (fun h2 g2 w2 => ?_)
          refine xRet_some ?_
          refine x_if_eqj (tgt := 74) (dT U_X11_hideBit 25 rfl) (by decide) (by decide) ?_
          refine x_iconst (dT U_X11_hideBit 39 rfl) ?_
          refine x_ireturn (dT U_X11_hideBit 40 rfl) rfl ?_
          exact e2 (by omega) (by omega) _ _ (Ag.tr (Ag.tr (Ag.rf 70 142 h) (g1.w (by omega))) (g2.w (by omega))) w2 (by unfold xr; omega)
      · refine xRet_some ?_
        refine x_if_eqj (tgt := 43) (dT U_X11_hideBit 15 rfl) (by decide) (by decide) ?_
        refine x_iconst (dT U_X11_hideBit 22 rfl) ?_
        refine x_iconst (dT U_X11_hideBit 23 rfl) ?_
        refine x_invokevirtual (rc' := rc) (rs' := rs) (rc2 := 0) (rs2 := 0) (As := [_, _]) (st := _) M_X11_lets K_X11_167 (dT U_X11_hideBit 24 rfl) rfl rfl (by decide) rfl rfl w1.c70 (Nat.le_of_ble_eq_true rfl) (by decide) rfl (Nat.le_of_ble_eq_true rfl) rfl (by decide) (Nat.le_of_ble_eq_true rfl) rfl rfl ?_
        refine S_X11_lets0 w1 (fun h2 g2 w2 => ?_)
        refine xRet_some ?_
        refine x_if_eqj (tgt := 74) (dT U_X11_hideBit 25 rfl) (by decide) (by decide) ?_
        refine x_iconst (dT U_X11_hideBit 39 rfl) ?_
        refine x_ireturn (dT U_X11_hideBit 40 rfl) rfl ?_
        exact e2 (by omega) (by omega) _ _ (Ag.tr (Ag.tr (Ag.rf 70 142 h) (g1.w (by omega))) (g2.w (by omega))) w2 (by unfold xr; omega)
    · refine xRet_some ?_
      refine x_if_eqj (tgt := 43) (dT U_X11_hideBit 11 rfl) (by decide) (by decide) ?_
      refine x_iconst (dT U_X11_hideBit 22 rfl) ?_
      refine x_iconst (dT U_X11_hideBit 23 rfl) ?_
      refine x_invokevirtual (rc' := rc) (rs' := rs) (rc2 := 0) (rs2 := 0) (As := [_, _]) (st := _) M_X11_lets K_X11_167 (dT U_X11_hideBit 24 rfl) rfl rfl (by decide) rfl rfl w1.c70 (Nat.le_of_ble_eq_true rfl) (by decide) rfl (Nat.le_of_ble_eq_true rfl) rfl (by decide) (Nat.le_of_ble_eq_true rfl) rfl rfl ?_
      refine S_X11_lets0 w1 (fun h2 g2 w2 => ?_)
      refine xRet_some ?_
      refine x_if_eqj (tgt := 74) (dT U_X11_hideBit 25 rfl) (by decide) (by decide) ?_
      refine x_iconst (dT U_X11_hideBit 39 rfl) ?_
      refine x_ireturn (dT U_X11_hideBit 40 rfl) rfl ?_
      exact e2 (by omega) (by omega) _ _ (Ag.tr (Ag.tr (Ag.rf 70 142 h) (g1.w (by omega))) (g2.w (by omega))) w2 (by unfold xr; omega)
  · refine xRet_some ?_
    refine x_iconst (dT U_X11_hideBit 4 rfl) ?_
    refine x_invokevirtual (rc' := rc) (rs' := rs) (rc2 := 0) (rs2 := 0) (As := [_, _]) (st := _) M_X11_lets K_X11_167 (dT U_X11_hideBit 5 rfl) rfl rfl (by decide) rfl rfl w.c70 (Nat.le_of_ble_eq_true rfl) (by decide) rfl (Nat.le_of_ble_eq_true rfl) rfl (by decide) (Nat.le_of_ble_eq_true rfl) rfl rfl ?_
    refine S_X11_lets0 w (fun h1 g1 w1 => ?_)
    refine xRet_some ?_
    refine x_if_eqj (tgt := 74) (dT U_X11_hideBit 6 rfl) (by decide) (by decide) ?_
    refine x_iconst (dT U_X11_hideBit 39 rfl) ?_
    refine x_ireturn (dT U_X11_hideBit 40 rfl) rfl ?_
    exact e1 (by omega) _ _ (Ag.tr (Ag.rf 70 142 h) (g1.w (by omega))) w1 (by unfold xr; omega)

set_option maxRecDepth 20000 in
set_option maxHeartbeats 1000000 in
theorem S_X11_dareBit {G : xG} {d rc rs : Nat} {ex : Bool} {h : xH} {Q : xQ} {σ : St} {cc0 : Int} {rr : Nat} {ss : Int} {pair c : Int} (w : MX σ cc0 rr ss h) (v : INV σ) (h_pair : xr pair) (h_c : xr c) (e1 : ¬ (inb pair 2) → ∀ h2 z, Ag 70 142 h h2 → MX σ 1 rr ss h2 → xr z → Q (.inl (some (vi z))) ex h2) (e2 : (inb pair 2) → ¬ (inb c σ.p) → ∀ h2 z, Ag 70 142 h h2 → MX σ 2 rr ss h2 → xr z → Q (.inl (some (vi z))) ex h2) (e3 : (inb pair 2) → (inb c σ.p) → ¬ ((σ.P pair.toNat).st = 2) → ∀ h2 z, Ag 70 142 h h2 → MX σ 3 rr ss h2 → xr z → Q (.inl (some (vi z))) ex h2) (k : (inb pair 2) → (inb c σ.p) → ((σ.P pair.toNat).st = 2) → ∀ h2 r2 s2, Ag 70 142 h h2 → MX (σ.sPair pair.toNat (pDare σ.p (σ.P pair.toNat) c)) 0 r2 s2 h2 → Q (.inl (some (vi (if (σ.P pair.toNat).b = 0 then (pDare σ.p (σ.P pair.toNat) c).t0 else (pDare σ.p (σ.P pair.toNat) c).t1)))) ex h2) : X G m_X11_dareBit (d + 2) rc rs ex 0 (xe m_X11_dareBit.2.2.1 [.ref 70, vi pair, vi c]) [] h Q := by
  show X G m_X11_dareBit _ _ _ _ 0 [some (.ref 70), some (vi pair), some (vi c), none] [] h Q
  have hp := PRb v.p
  have hq := gq_b v.p
  refine x_aload_n (dT U_X11_dareBit 0 rfl) rfl ?_
  refine x_iload_n (dT U_X11_dareBit 1 rfl) rfl ?_
  refine x_iconst (dT U_X11_dareBit 2 rfl) ?_
  refine x_invokestatic (rc' := rc) (rs' := rs) (rc2 := 0) (rs2 := 0) (As := [_, _]) (st := _) M_X11_in K_X11_126 (dT U_X11_dareBit 3 rfl) rfl rfl rfl rfl (Nat.le_of_ble_eq_true rfl) rfl (by decide) (Nat.le_of_ble_eq_true rfl) rfl rfl ?_
  refine S_X11_in h_pair (by unfold xr; omega) (fun q1 => ?_) (fun q1 => ?_)
  · refine xRet_some ?_
    refine x_iconst (dT U_X11_dareBit 4 rfl) ?_
    refine x_invokevirtual (rc' := rc) (rs' := rs) (rc2 := 0) (rs2 := 0) (As := [_, _]) (st := _) M_X11_lets K_X11_167 (dT U_X11_dareBit 5 rfl) rfl rfl (by decide) rfl rfl w.c70 (Nat.le_of_ble_eq_true rfl) (by decide) rfl (Nat.le_of_ble_eq_true rfl) rfl (by decide) (Nat.le_of_ble_eq_true rfl) rfl rfl ?_
    refine S_X11_lets1 w (fun h1 g1 w1 => ?_)
    refine xRet_some ?_
    obtain ⟨i, hi, rfl⟩ : ∃ j : Nat, j < 2 ∧ pair = (j : Int) := ⟨pair.toNat, by omega, by omega⟩
    try simp only [tnc] at e1 e2 e3 k
    refine x_if_eqn (tgt := 49) (dT U_X11_dareBit 6 rfl) (by decide) (by decide) ?_
    refine x_aload_n (dT U_X11_dareBit 7 rfl) rfl ?_
    refine x_aload_n (dT U_X11_dareBit 8 rfl) rfl ?_
    refine x_iload_n (dT U_X11_dareBit 9 rfl) rfl ?_
    refine x_invokevirtual (rc' := rc) (rs' := rs) (rc2 := 0) (rs2 := 0) (As := [_]) (st := _) M_X11_isNumber K_X11_174 (dT U_X11_dareBit 10 rfl) rfl rfl (by decide) rfl rfl w1.c70 (Nat.le_of_ble_eq_true rfl) (by decide) rfl (Nat.le_of_ble_eq_true rfl) rfl (by decide) (Nat.le_of_ble_eq_true rfl) rfl rfl ?_
    refine S_X11_isNumber (w1.mp) v.p h_c (fun q2 => ?_) (fun q2 => ?_)
    · refine xRet_some ?_
      refine x_iconst (dT U_X11_dareBit 11 rfl) ?_
      refine x_invokevirtual (rc' := rc) (rs' := rs) (rc2 := 0) (rs2 := 0) (As := [_, _]) (st := _) M_X11_lets K_X11_167 (dT U_X11_dareBit 12 rfl) rfl rfl (by decide) rfl rfl w1.c70 (Nat.le_of_ble_eq_true rfl) (by decide) rfl (Nat.le_of_ble_eq_true rfl) rfl (by decide) (Nat.le_of_ble_eq_true rfl) rfl rfl ?_
      refine S_X11_lets1 w1 (fun h2 g2 w2 => ?_)
      refine xRet_some ?_
      refine x_if_eqn (tgt := 49) (dT U_X11_dareBit 13 rfl) (by decide) (by decide) ?_
      refine x_aload_n (dT U_X11_dareBit 14 rfl) rfl ?_
      refine x_aload_n (dT U_X11_dareBit 15 rfl) rfl ?_
      refine x_getfield F_X11_58 (dT U_X11_dareBit 16 rfl) w2.c70 (Nat.le_of_ble_eq_true rfl) rfl ?_
      refine x_iload_n (dT U_X11_dareBit 17 rfl) rfl ?_
      refine x_ialoadv (i) (dT U_X11_dareBit 18 rfl) w2.c109 (Nat.le_of_ble_eq_true rfl) rfl (show i < 2 by omega) (show 2 < 2147483648 by decide) (show _ = ((σ.P i).st : Int) from t2_get hi) ?_
      refine x_iconst (dT U_X11_dareBit 19 rfl) ?_
      have s4 := (v.P i hi).1
      refine x_icmp_ne (tgt := 41) (dT U_X11_dareBit 20 rfl) (by decide) (by unfold xr; omega) (by unfold xr; omega) (fun c34 => ?_) (fun c34 => ?_)
      · skip
        refine x_iconst (dT U_X11_dareBit 23 rfl) ?_
        refine x_iconst (dT U_X11_dareBit 24 rfl) ?_
        refine x_invokevirtual (rc' := rc) (rs' := rs) (rc2 := 0) (rs2 := 0) (As := [_, _]) (st := _) M_X11_lets K_X11_167 (dT U_X11_dareBit 25 rfl) rfl rfl (by decide) rfl rfl w2.c70 (Nat.le_of_ble_eq_true rfl) (by decide) rfl (Nat.le_of_ble_eq_true rfl) rfl (by decide) (Nat.le_of_ble_eq_true rfl) rfl rfl ?_
        refine S_X11_lets0 w2 (fun h3 g3 w3 => ?_)
        refine xRet_some ?_
        refine x_if_nen (tgt := 51) (dT U_X11_dareBit 26 rfl) (by decide) (by decide) ?_
        refine x_iconst (dT U_X11_dareBit 27 rfl) ?_
        refine x_ireturn (dT U_X11_dareBit 28 rfl) rfl ?_
        exact e3 (by omega) (by omega) (by omega) _ _ (Ag.tr (Ag.tr (Ag.tr (Ag.rf 70 142 h) (g1.w (by omega))) (g2.w (by omega))) (g3.w (by omega))) w3 (by unfold xr; omega)
      · skip
        refine x_iconst (dT U_X11_dareBit 21 rfl) ?_
        refine x_goto (tgt := 42) (dT U_X11_dareBit 22 rfl) (by decide) ?_
        refine x_iconst (dT U_X11_dareBit 24 rfl) ?_
        refine x_invokevirtual (rc' := rc) (rs' := rs) (rc2 := 0) (rs2 := 0) (As := [_, _]) (st := _) M_X11_lets K_X11_167 (dT U_X11_dareBit 25 rfl) rfl rfl (by decide) rfl rfl w2.c70 (Nat.le_of_ble_eq_true rfl) (by decide) rfl (Nat.le_of_ble_eq_true rfl) rfl (by decide) (Nat.le_of_ble_eq_true rfl) rfl rfl ?_
        refine S_X11_lets1 w2 (fun h3 g3 w3 => ?_)
        refine xRet_some ?_
        refine x_if_nej (tgt := 51) (dT U_X11_dareBit 26 rfl) (by decide) (by decide) ?_
        have okp := v.P i hi
        have kb := okp.bC (by omega)
        have se := okp.eb hp.1 (by omega)
        have mb9 := okp.mr (by omega)
        have blb := (okp.2.1 (by omega)).2.1
        have b24 := okp.2.2.2.2
        rcases kb with hb0 | hb1
        · skip
          refine x_aload_n (dT U_X11_dareBit 29 rfl) rfl ?_
          refine x_getfield F_X11_64 (dT U_X11_dareBit 30 rfl) w3.c70 (Nat.le_of_ble_eq_true rfl) rfl ?_
          refine x_iload_n (dT U_X11_dareBit 31 rfl) rfl ?_
          refine x_ialoadv (i) (dT U_X11_dareBit 32 rfl) w3.c111 (Nat.le_of_ble_eq_true rfl) rfl (show i < 2 by omega) (show 2 < 2147483648 by decide) (show _ = 0 from (t2_get hi).trans hb0) ?_
          refine x_istore_n (ls' := [some (.ref _), some (vi _), some (vi _), some (vi _)]) (dT U_X11_dareBit 33 rfl) (by decide) rfl ?_
          refine x_aload_n (dT U_X11_dareBit 34 rfl) rfl ?_
          refine x_getfield F_X11_73 (dT U_X11_dareBit 35 rfl) w3.c70 (Nat.le_of_ble_eq_true rfl) rfl ?_
          refine x_iload_n (dT U_X11_dareBit 36 rfl) rfl ?_
          refine x_iload_n (dT U_X11_dareBit 37 rfl) rfl ?_
          refine x_iastore (i) (dT U_X11_dareBit 38 rfl) w3.c114 (Nat.le_of_ble_eq_true rfl) rfl (show i < 2 by omega) (show 2 < 2147483648 by decide) ?_
          refine x_aload_n (dT U_X11_dareBit 39 rfl) rfl ?_
          refine x_getfield F_X11_79 (dT U_X11_dareBit 40 rfl) (hset_ne (by omega) (w3.c70)) (Nat.le_of_ble_eq_true rfl) rfl ?_
          refine x_iload_n (dT U_X11_dareBit 41 rfl) rfl ?_
          refine x_aaload (i) (dT U_X11_dareBit 42 rfl) (hset_ne (by omega) (w3.c118)) (Nat.le_of_ble_eq_true rfl) (by decide) rfl (bcL_get (by omega)) (Nat.le_of_ble_eq_true rfl) ?_
          refine x_iload_n (dT U_X11_dareBit 43 rfl) rfl ?_
          refine x_aload_n (dT U_X11_dareBit 44 rfl) rfl ?_
          refine x_iload_n (dT U_X11_dareBit 45 rfl) rfl ?_
          refine x_i2l (dT U_X11_dareBit 46 rfl) (by unfold xr; omega) ?_
          refine x_aload_n (dT U_X11_dareBit 47 rfl) rfl ?_
          refine x_getfield F_X11_79 (dT U_X11_dareBit 48 rfl) (hset_ne (by omega) (w3.c70)) (Nat.le_of_ble_eq_true rfl) rfl ?_
          refine x_iload_n (dT U_X11_dareBit 49 rfl) rfl ?_
          refine x_aaload (i) (dT U_X11_dareBit 50 rfl) (hset_ne (by omega) (w3.c118)) (Nat.le_of_ble_eq_true rfl) (by decide) rfl (bcL_get (by omega)) (Nat.le_of_ble_eq_true rfl) ?_
          refine x_iconst (dT U_X11_dareBit 51 rfl) ?_
          refine x_iload_n (dT U_X11_dareBit 52 rfl) rfl ?_
          refine x_isub (dT U_X11_dareBit 53 rfl) ?_
          refine x_ialoadv (1) (dT U_X11_dareBit 54 rfl) (hset_ne (by omega) (w3.bc i hi)) (by omega) rfl (show 1 < 2 by omega) (show 2 < 2147483648 by decide) (show _ = (σ.P i).c1 from rfl) ?_
          refine x_i2l (dT U_X11_dareBit 55 rfl) (by unfold xr; omega) ?_
          refine x_lsub (dT U_X11_dareBit 56 rfl) ?_
          refine x_invokevirtual (rc' := rc) (rs' := rs) (rc2 := 0) (rs2 := 0) (As := [_]) (st := _) M_X11_f K_X11_156 (dT U_X11_dareBit 57 rfl) rfl rfl (by decide) rfl rfl (hset_ne (by omega) (w3.c70)) (Nat.le_of_ble_eq_true rfl) (by decide) rfl (Nat.le_of_ble_eq_true rfl) rfl (by decide) (Nat.le_of_ble_eq_true rfl) rfl rfl ?_
          refine S_X11_f (MP.set (by omega) (w3.mp)) v.p (by unfold xrl; omega) ?_
          have zc := modb (z := c - (σ.P i).c1) (p := (σ.p : Int)) (by omega)
          have zm := mulb zc blb (by omega)
          refine xRet_some ?_
          refine x_iastore (0) (dT U_X11_dareBit 58 rfl) (hset_ne (by omega) (w3.bc i hi)) (by omega) rfl (show 0 < 2 by omega) (show 2 < 2147483648 by decide) ?_
          refine x_aload_n (dT U_X11_dareBit 59 rfl) rfl ?_
          refine x_getfield F_X11_82 (dT U_X11_dareBit 60 rfl) (hset_ne (by omega) (hset_ne (by omega) (w3.c70))) (Nat.le_of_ble_eq_true rfl) rfl ?_
          refine x_iload_n (dT U_X11_dareBit 61 rfl) rfl ?_
          refine x_aaload (i) (dT U_X11_dareBit 62 rfl) (hset_ne (by omega) (hset_ne (by omega) (w3.c121))) (Nat.le_of_ble_eq_true rfl) (by decide) rfl (btL_get (by omega)) (Nat.le_of_ble_eq_true rfl) ?_
          refine x_iload_n (dT U_X11_dareBit 63 rfl) rfl ?_
          refine x_aload_n (dT U_X11_dareBit 64 rfl) rfl ?_
          refine x_aload_n (dT U_X11_dareBit 65 rfl) rfl ?_
          refine x_getfield F_X11_70 (dT U_X11_dareBit 66 rfl) (hset_ne (by omega) (hset_ne (by omega) (w3.c70))) (Nat.le_of_ble_eq_true rfl) rfl ?_
          refine x_iload_n (dT U_X11_dareBit 67 rfl) rfl ?_
          refine x_ialoadv (i) (dT U_X11_dareBit 68 rfl) (hset_ne (by omega) (hset_ne (by omega) (w3.c113))) (Nat.le_of_ble_eq_true rfl) rfl (show i < 2 by omega) (show 2 < 2147483648 by decide) (show _ = (σ.P i).m from t2_get hi) ?_
          refine x_i2l (dT U_X11_dareBit 69 rfl) (by unfold xr; omega) ?_
          refine x_aload_n (dT U_X11_dareBit 70 rfl) rfl ?_
          refine x_getfield F_X11_79 (dT U_X11_dareBit 71 rfl) (hset_ne (by omega) (hset_ne (by omega) (w3.c70))) (Nat.le_of_ble_eq_true rfl) rfl ?_
          refine x_iload_n (dT U_X11_dareBit 72 rfl) rfl ?_
          refine x_aaload (i) (dT U_X11_dareBit 73 rfl) (hset_ne (by omega) (hset_ne (by omega) (w3.c118))) (Nat.le_of_ble_eq_true rfl) (by decide) rfl (bcL_get (by omega)) (Nat.le_of_ble_eq_true rfl) ?_
          refine x_iload_n (dT U_X11_dareBit 74 rfl) rfl ?_
          refine x_ialoadv (0) (dT U_X11_dareBit 75 rfl) (hset_eq (hset_ne (by omega) (w3.bc i hi))) (by omega) rfl (show 0 < 2 by omega) (show 2 < 2147483648 by decide) (show _ = (c - (σ.P i).c1) % (σ.p : Int) from rfl) ?_
          refine x_i2l (dT U_X11_dareBit 76 rfl) (by unfold xr; omega) ?_
          refine x_aload_n (dT U_X11_dareBit 77 rfl) rfl ?_
          refine x_getfield F_X11_67 (dT U_X11_dareBit 78 rfl) (hset_ne (by omega) (hset_ne (by omega) (w3.c70))) (Nat.le_of_ble_eq_true rfl) rfl ?_
          refine x_iload_n (dT U_X11_dareBit 79 rfl) rfl ?_
          refine x_ialoadv (i) (dT U_X11_dareBit 80 rfl) (hset_ne (by omega) (hset_ne (by omega) (w3.c112))) (Nat.le_of_ble_eq_true rfl) rfl (show i < 2 by omega) (show 2 < 2147483648 by decide) (show _ = (σ.P i).bl from t2_get hi) ?_
          refine x_i2l (dT U_X11_dareBit 81 rfl) (by unfold xr; omega) ?_
          refine x_lmul (dT U_X11_dareBit 82 rfl) ?_
          refine x_ladd (dT U_X11_dareBit 83 rfl) ?_
          refine x_invokevirtual (rc' := rc) (rs' := rs) (rc2 := 0) (rs2 := 0) (As := [_]) (st := _) M_X11_f K_X11_156 (dT U_X11_dareBit 84 rfl) rfl rfl (by decide) rfl rfl (hset_ne (by omega) (hset_ne (by omega) (w3.c70))) (Nat.le_of_ble_eq_true rfl) (by decide) rfl (Nat.le_of_ble_eq_true rfl) rfl (by decide) (Nat.le_of_ble_eq_true rfl) rfl rfl ?_
          refine S_X11_f (MP.set (by omega) (MP.set (by omega) (w3.mp))) v.p (by unfold xrl; omega) ?_
          refine xRet_some ?_
          refine x_iastore (0) (dT U_X11_dareBit 85 rfl) (hset_ne (by omega) (hset_ne (by omega) (w3.bt i hi))) (by omega) rfl (show 0 < 2 by omega) (show 2 < 2147483648 by decide) ?_
          refine x_aload_n (dT U_X11_dareBit 86 rfl) rfl ?_
          refine x_getfield F_X11_58 (dT U_X11_dareBit 87 rfl) (hset_ne (by omega) (hset_ne (by omega) (hset_ne (by omega) (w3.c70)))) (Nat.le_of_ble_eq_true rfl) rfl ?_
          refine x_iload_n (dT U_X11_dareBit 88 rfl) rfl ?_
          refine x_iconst (dT U_X11_dareBit 89 rfl) ?_
          refine x_iastore (i) (dT U_X11_dareBit 90 rfl) (hset_ne (by omega) (hset_ne (by omega) (hset_ne (by omega) (w3.c109)))) (Nat.le_of_ble_eq_true rfl) rfl (show i < 2 by omega) (show 2 < 2147483648 by decide) ?_
          refine x_aload_n (dT U_X11_dareBit 91 rfl) rfl ?_
          refine x_getfield F_X11_82 (dT U_X11_dareBit 92 rfl) (hset_ne (by omega) (hset_ne (by omega) (hset_ne (by omega) (hset_ne (by omega) (w3.c70))))) (Nat.le_of_ble_eq_true rfl) rfl ?_
          refine x_iload_n (dT U_X11_dareBit 93 rfl) rfl ?_
          refine x_aaload (i) (dT U_X11_dareBit 94 rfl) (hset_ne (by omega) (hset_ne (by omega) (hset_ne (by omega) (hset_ne (by omega) (w3.c121))))) (Nat.le_of_ble_eq_true rfl) (by decide) rfl (btL_get (by omega)) (Nat.le_of_ble_eq_true rfl) ?_
          refine x_iload_n (dT U_X11_dareBit 95 rfl) rfl ?_
          refine x_ialoadv (0) (dT U_X11_dareBit 96 rfl) (hset_ne (by omega) (hset_eq (hset_ne (by omega) (hset_ne (by omega) (w3.bt i hi))))) (by omega) rfl (show 0 < 2 by omega) (show 2 < 2147483648 by decide) (show _ = ((σ.P i).m + (c - (σ.P i).c1) % (σ.p : Int) * (σ.P i).bl) % (σ.p : Int) from rfl) ?_
          refine x_ireturn (dT U_X11_dareBit 97 rfl) rfl ?_
          rw [show pDare σ.p (σ.P i) c = _ from if_pos hb0, if_pos hb0] at k
          exact k (by omega) (by omega) (by omega) _ _ _ (((((Ag.tr (Ag.tr (Ag.tr (Ag.rf 70 142 h) (g1.w (by omega))) (g2.w (by omega))) (g3.w (by omega))).set (by omega)).set (by omega)).set (by omega)).set (by omega)) (w3.pair (i := i) (P := ((3, (σ.P i).b, (σ.P i).bl, (σ.P i).e, (σ.P i).m, c, (σ.P i).f0, (σ.P i).f1, (c - (σ.P i).c1) % (σ.p : Int), (σ.P i).c1, ((σ.P i).m + (c - (σ.P i).c1) % (σ.p : Int) * (σ.P i).bl) % (σ.p : Int), (σ.P i).t1, (σ.P i).g0, (σ.P i).g1) : PS)) (fun a ha => by rw [hset_fr (by omega), hset_fr (by omega), hset_fr (by omega), hset_fr (by omega)]) hi (c2 (R' := ((3, (σ.P i).b, (σ.P i).bl, (σ.P i).e, (σ.P i).m, c, (σ.P i).f0, (σ.P i).f1, (c - (σ.P i).c1) % (σ.p : Int), (σ.P i).c1, ((σ.P i).m + (c - (σ.P i).c1) % (σ.p : Int) * (σ.P i).bl) % (σ.p : Int), (σ.P i).t1, (σ.P i).g0, (σ.P i).g1) : PS)) gPT hi (hset_eq (hset_ne (by omega) (hset_ne (by omega) (hset_ne (by omega) (w3.c109)))))) (k2 (R' := ((3, (σ.P i).b, (σ.P i).bl, (σ.P i).e, (σ.P i).m, c, (σ.P i).f0, (σ.P i).f1, (c - (σ.P i).c1) % (σ.p : Int), (σ.P i).c1, ((σ.P i).m + (c - (σ.P i).c1) % (σ.p : Int) * (σ.P i).bl) % (σ.p : Int), (σ.P i).t1, (σ.P i).g0, (σ.P i).g1) : PS)) PS.e rfl (hset_ne (by omega) (hset_ne (by omega) (hset_ne (by omega) (hset_ne (by omega) (w3.c110)))))) (k2 (R' := ((3, (σ.P i).b, (σ.P i).bl, (σ.P i).e, (σ.P i).m, c, (σ.P i).f0, (σ.P i).f1, (c - (σ.P i).c1) % (σ.p : Int), (σ.P i).c1, ((σ.P i).m + (c - (σ.P i).c1) % (σ.p : Int) * (σ.P i).bl) % (σ.p : Int), (σ.P i).t1, (σ.P i).g0, (σ.P i).g1) : PS)) PS.b rfl (hset_ne (by omega) (hset_ne (by omega) (hset_ne (by omega) (hset_ne (by omega) (w3.c111)))))) (k2 (R' := ((3, (σ.P i).b, (σ.P i).bl, (σ.P i).e, (σ.P i).m, c, (σ.P i).f0, (σ.P i).f1, (c - (σ.P i).c1) % (σ.p : Int), (σ.P i).c1, ((σ.P i).m + (c - (σ.P i).c1) % (σ.p : Int) * (σ.P i).bl) % (σ.p : Int), (σ.P i).t1, (σ.P i).g0, (σ.P i).g1) : PS)) PS.bl rfl (hset_ne (by omega) (hset_ne (by omega) (hset_ne (by omega) (hset_ne (by omega) (w3.c112)))))) (k2 (R' := ((3, (σ.P i).b, (σ.P i).bl, (σ.P i).e, (σ.P i).m, c, (σ.P i).f0, (σ.P i).f1, (c - (σ.P i).c1) % (σ.p : Int), (σ.P i).c1, ((σ.P i).m + (c - (σ.P i).c1) % (σ.p : Int) * (σ.P i).bl) % (σ.p : Int), (σ.P i).t1, (σ.P i).g0, (σ.P i).g1) : PS)) PS.m rfl (hset_ne (by omega) (hset_ne (by omega) (hset_ne (by omega) (hset_ne (by omega) (w3.c113)))))) (c2 (R' := ((3, (σ.P i).b, (σ.P i).bl, (σ.P i).e, (σ.P i).m, c, (σ.P i).f0, (σ.P i).f1, (c - (σ.P i).c1) % (σ.p : Int), (σ.P i).c1, ((σ.P i).m + (c - (σ.P i).c1) % (σ.p : Int) * (σ.P i).bl) % (σ.p : Int), (σ.P i).t1, (σ.P i).g0, (σ.P i).g1) : PS)) PS.c hi (hset_ne (by omega) (hset_ne (by omega) (hset_ne (by omega) (hset_eq (w3.c114)))))) (hset_ne (by omega) (hset_ne (by omega) (hset_ne (by omega) (hset_ne (by omega) (w3.bf i hi))))) (hset_ne (by omega) (hset_ne (by omega) (hset_eq (hset_ne (by omega) (w3.bc i hi))))) (hset_ne (by omega) (hset_eq (hset_ne (by omega) (hset_ne (by omega) (w3.bt i hi))))))
        · skip
          refine x_aload_n (dT U_X11_dareBit 29 rfl) rfl ?_
          refine x_getfield F_X11_64 (dT U_X11_dareBit 30 rfl) w3.c70 (Nat.le_of_ble_eq_true rfl) rfl ?_
          refine x_iload_n (dT U_X11_dareBit 31 rfl) rfl ?_
          refine x_ialoadv (i) (dT U_X11_dareBit 32 rfl) w3.c111 (Nat.le_of_ble_eq_true rfl) rfl (show i < 2 by omega) (show 2 < 2147483648 by decide) (show _ = 1 from (t2_get hi).trans hb1) ?_
          refine x_istore_n (ls' := [some (.ref _), some (vi _), some (vi _), some (vi _)]) (dT U_X11_dareBit 33 rfl) (by decide) rfl ?_
          refine x_aload_n (dT U_X11_dareBit 34 rfl) rfl ?_
          refine x_getfield F_X11_73 (dT U_X11_dareBit 35 rfl) w3.c70 (Nat.le_of_ble_eq_true rfl) rfl ?_
          refine x_iload_n (dT U_X11_dareBit 36 rfl) rfl ?_
          refine x_iload_n (dT U_X11_dareBit 37 rfl) rfl ?_
          refine x_iastore (i) (dT U_X11_dareBit 38 rfl) w3.c114 (Nat.le_of_ble_eq_true rfl) rfl (show i < 2 by omega) (show 2 < 2147483648 by decide) ?_
          refine x_aload_n (dT U_X11_dareBit 39 rfl) rfl ?_
          refine x_getfield F_X11_79 (dT U_X11_dareBit 40 rfl) (hset_ne (by omega) (w3.c70)) (Nat.le_of_ble_eq_true rfl) rfl ?_
          refine x_iload_n (dT U_X11_dareBit 41 rfl) rfl ?_
          refine x_aaload (i) (dT U_X11_dareBit 42 rfl) (hset_ne (by omega) (w3.c118)) (Nat.le_of_ble_eq_true rfl) (by decide) rfl (bcL_get (by omega)) (Nat.le_of_ble_eq_true rfl) ?_
          refine x_iload_n (dT U_X11_dareBit 43 rfl) rfl ?_
          refine x_aload_n (dT U_X11_dareBit 44 rfl) rfl ?_
          refine x_iload_n (dT U_X11_dareBit 45 rfl) rfl ?_
          refine x_i2l (dT U_X11_dareBit 46 rfl) (by unfold xr; omega) ?_
          refine x_aload_n (dT U_X11_dareBit 47 rfl) rfl ?_
          refine x_getfield F_X11_79 (dT U_X11_dareBit 48 rfl) (hset_ne (by omega) (w3.c70)) (Nat.le_of_ble_eq_true rfl) rfl ?_
          refine x_iload_n (dT U_X11_dareBit 49 rfl) rfl ?_
          refine x_aaload (i) (dT U_X11_dareBit 50 rfl) (hset_ne (by omega) (w3.c118)) (Nat.le_of_ble_eq_true rfl) (by decide) rfl (bcL_get (by omega)) (Nat.le_of_ble_eq_true rfl) ?_
          refine x_iconst (dT U_X11_dareBit 51 rfl) ?_
          refine x_iload_n (dT U_X11_dareBit 52 rfl) rfl ?_
          refine x_isub (dT U_X11_dareBit 53 rfl) ?_
          refine x_ialoadv (0) (dT U_X11_dareBit 54 rfl) (hset_ne (by omega) (w3.bc i hi)) (by omega) rfl (show 0 < 2 by omega) (show 2 < 2147483648 by decide) (show _ = (σ.P i).c0 from rfl) ?_
          refine x_i2l (dT U_X11_dareBit 55 rfl) (by unfold xr; omega) ?_
          refine x_lsub (dT U_X11_dareBit 56 rfl) ?_
          refine x_invokevirtual (rc' := rc) (rs' := rs) (rc2 := 0) (rs2 := 0) (As := [_]) (st := _) M_X11_f K_X11_156 (dT U_X11_dareBit 57 rfl) rfl rfl (by decide) rfl rfl (hset_ne (by omega) (w3.c70)) (Nat.le_of_ble_eq_true rfl) (by decide) rfl (Nat.le_of_ble_eq_true rfl) rfl (by decide) (Nat.le_of_ble_eq_true rfl) rfl rfl ?_
          refine S_X11_f (MP.set (by omega) (w3.mp)) v.p (by unfold xrl; omega) ?_
          have zc := modb (z := c - (σ.P i).c0) (p := (σ.p : Int)) (by omega)
          have zm := mulb zc blb (by omega)
          refine xRet_some ?_
          refine x_iastore (1) (dT U_X11_dareBit 58 rfl) (hset_ne (by omega) (w3.bc i hi)) (by omega) rfl (show 1 < 2 by omega) (show 2 < 2147483648 by decide) ?_
          refine x_aload_n (dT U_X11_dareBit 59 rfl) rfl ?_
          refine x_getfield F_X11_82 (dT U_X11_dareBit 60 rfl) (hset_ne (by omega) (hset_ne (by omega) (w3.c70))) (Nat.le_of_ble_eq_true rfl) rfl ?_
          refine x_iload_n (dT U_X11_dareBit 61 rfl) rfl ?_
          refine x_aaload (i) (dT U_X11_dareBit 62 rfl) (hset_ne (by omega) (hset_ne (by omega) (w3.c121))) (Nat.le_of_ble_eq_true rfl) (by decide) rfl (btL_get (by omega)) (Nat.le_of_ble_eq_true rfl) ?_
          refine x_iload_n (dT U_X11_dareBit 63 rfl) rfl ?_
          refine x_aload_n (dT U_X11_dareBit 64 rfl) rfl ?_
          refine x_aload_n (dT U_X11_dareBit 65 rfl) rfl ?_
          refine x_getfield F_X11_70 (dT U_X11_dareBit 66 rfl) (hset_ne (by omega) (hset_ne (by omega) (w3.c70))) (Nat.le_of_ble_eq_true rfl) rfl ?_
          refine x_iload_n (dT U_X11_dareBit 67 rfl) rfl ?_
          refine x_ialoadv (i) (dT U_X11_dareBit 68 rfl) (hset_ne (by omega) (hset_ne (by omega) (w3.c113))) (Nat.le_of_ble_eq_true rfl) rfl (show i < 2 by omega) (show 2 < 2147483648 by decide) (show _ = (σ.P i).m from t2_get hi) ?_
          refine x_i2l (dT U_X11_dareBit 69 rfl) (by unfold xr; omega) ?_
          refine x_aload_n (dT U_X11_dareBit 70 rfl) rfl ?_
          refine x_getfield F_X11_79 (dT U_X11_dareBit 71 rfl) (hset_ne (by omega) (hset_ne (by omega) (w3.c70))) (Nat.le_of_ble_eq_true rfl) rfl ?_
          refine x_iload_n (dT U_X11_dareBit 72 rfl) rfl ?_
          refine x_aaload (i) (dT U_X11_dareBit 73 rfl) (hset_ne (by omega) (hset_ne (by omega) (w3.c118))) (Nat.le_of_ble_eq_true rfl) (by decide) rfl (bcL_get (by omega)) (Nat.le_of_ble_eq_true rfl) ?_
          refine x_iload_n (dT U_X11_dareBit 74 rfl) rfl ?_
          refine x_ialoadv (1) (dT U_X11_dareBit 75 rfl) (hset_eq (hset_ne (by omega) (w3.bc i hi))) (by omega) rfl (show 1 < 2 by omega) (show 2 < 2147483648 by decide) (show _ = (c - (σ.P i).c0) % (σ.p : Int) from rfl) ?_
          refine x_i2l (dT U_X11_dareBit 76 rfl) (by unfold xr; omega) ?_
          refine x_aload_n (dT U_X11_dareBit 77 rfl) rfl ?_
          refine x_getfield F_X11_67 (dT U_X11_dareBit 78 rfl) (hset_ne (by omega) (hset_ne (by omega) (w3.c70))) (Nat.le_of_ble_eq_true rfl) rfl ?_
          refine x_iload_n (dT U_X11_dareBit 79 rfl) rfl ?_
          refine x_ialoadv (i) (dT U_X11_dareBit 80 rfl) (hset_ne (by omega) (hset_ne (by omega) (w3.c112))) (Nat.le_of_ble_eq_true rfl) rfl (show i < 2 by omega) (show 2 < 2147483648 by decide) (show _ = (σ.P i).bl from t2_get hi) ?_
          refine x_i2l (dT U_X11_dareBit 81 rfl) (by unfold xr; omega) ?_
          refine x_lmul (dT U_X11_dareBit 82 rfl) ?_
          refine x_ladd (dT U_X11_dareBit 83 rfl) ?_
          refine x_invokevirtual (rc' := rc) (rs' := rs) (rc2 := 0) (rs2 := 0) (As := [_]) (st := _) M_X11_f K_X11_156 (dT U_X11_dareBit 84 rfl) rfl rfl (by decide) rfl rfl (hset_ne (by omega) (hset_ne (by omega) (w3.c70))) (Nat.le_of_ble_eq_true rfl) (by decide) rfl (Nat.le_of_ble_eq_true rfl) rfl (by decide) (Nat.le_of_ble_eq_true rfl) rfl rfl ?_
          refine S_X11_f (MP.set (by omega) (MP.set (by omega) (w3.mp))) v.p (by unfold xrl; omega) ?_
          refine xRet_some ?_
          refine x_iastore (1) (dT U_X11_dareBit 85 rfl) (hset_ne (by omega) (hset_ne (by omega) (w3.bt i hi))) (by omega) rfl (show 1 < 2 by omega) (show 2 < 2147483648 by decide) ?_
          refine x_aload_n (dT U_X11_dareBit 86 rfl) rfl ?_
          refine x_getfield F_X11_58 (dT U_X11_dareBit 87 rfl) (hset_ne (by omega) (hset_ne (by omega) (hset_ne (by omega) (w3.c70)))) (Nat.le_of_ble_eq_true rfl) rfl ?_
          refine x_iload_n (dT U_X11_dareBit 88 rfl) rfl ?_
          refine x_iconst (dT U_X11_dareBit 89 rfl) ?_
          refine x_iastore (i) (dT U_X11_dareBit 90 rfl) (hset_ne (by omega) (hset_ne (by omega) (hset_ne (by omega) (w3.c109)))) (Nat.le_of_ble_eq_true rfl) rfl (show i < 2 by omega) (show 2 < 2147483648 by decide) ?_
          refine x_aload_n (dT U_X11_dareBit 91 rfl) rfl ?_
          refine x_getfield F_X11_82 (dT U_X11_dareBit 92 rfl) (hset_ne (by omega) (hset_ne (by omega) (hset_ne (by omega) (hset_ne (by omega) (w3.c70))))) (Nat.le_of_ble_eq_true rfl) rfl ?_
          refine x_iload_n (dT U_X11_dareBit 93 rfl) rfl ?_
          refine x_aaload (i) (dT U_X11_dareBit 94 rfl) (hset_ne (by omega) (hset_ne (by omega) (hset_ne (by omega) (hset_ne (by omega) (w3.c121))))) (Nat.le_of_ble_eq_true rfl) (by decide) rfl (btL_get (by omega)) (Nat.le_of_ble_eq_true rfl) ?_
          refine x_iload_n (dT U_X11_dareBit 95 rfl) rfl ?_
          refine x_ialoadv (1) (dT U_X11_dareBit 96 rfl) (hset_ne (by omega) (hset_eq (hset_ne (by omega) (hset_ne (by omega) (w3.bt i hi))))) (by omega) rfl (show 1 < 2 by omega) (show 2 < 2147483648 by decide) (show _ = ((σ.P i).m + (c - (σ.P i).c0) % (σ.p : Int) * (σ.P i).bl) % (σ.p : Int) from rfl) ?_
          refine x_ireturn (dT U_X11_dareBit 97 rfl) rfl ?_
          rw [show pDare σ.p (σ.P i) c = _ from if_neg (by omega), if_neg (show ¬ (σ.P i).b = 0 by omega)] at k
          exact k (by omega) (by omega) (by omega) _ _ _ (((((Ag.tr (Ag.tr (Ag.tr (Ag.rf 70 142 h) (g1.w (by omega))) (g2.w (by omega))) (g3.w (by omega))).set (by omega)).set (by omega)).set (by omega)).set (by omega)) (w3.pair (i := i) (P := ((3, (σ.P i).b, (σ.P i).bl, (σ.P i).e, (σ.P i).m, c, (σ.P i).f0, (σ.P i).f1, (σ.P i).c0, (c - (σ.P i).c0) % (σ.p : Int), (σ.P i).t0, ((σ.P i).m + (c - (σ.P i).c0) % (σ.p : Int) * (σ.P i).bl) % (σ.p : Int), (σ.P i).g0, (σ.P i).g1) : PS)) (fun a ha => by rw [hset_fr (by omega), hset_fr (by omega), hset_fr (by omega), hset_fr (by omega)]) hi (c2 (R' := ((3, (σ.P i).b, (σ.P i).bl, (σ.P i).e, (σ.P i).m, c, (σ.P i).f0, (σ.P i).f1, (σ.P i).c0, (c - (σ.P i).c0) % (σ.p : Int), (σ.P i).t0, ((σ.P i).m + (c - (σ.P i).c0) % (σ.p : Int) * (σ.P i).bl) % (σ.p : Int), (σ.P i).g0, (σ.P i).g1) : PS)) gPT hi (hset_eq (hset_ne (by omega) (hset_ne (by omega) (hset_ne (by omega) (w3.c109)))))) (k2 (R' := ((3, (σ.P i).b, (σ.P i).bl, (σ.P i).e, (σ.P i).m, c, (σ.P i).f0, (σ.P i).f1, (σ.P i).c0, (c - (σ.P i).c0) % (σ.p : Int), (σ.P i).t0, ((σ.P i).m + (c - (σ.P i).c0) % (σ.p : Int) * (σ.P i).bl) % (σ.p : Int), (σ.P i).g0, (σ.P i).g1) : PS)) PS.e rfl (hset_ne (by omega) (hset_ne (by omega) (hset_ne (by omega) (hset_ne (by omega) (w3.c110)))))) (k2 (R' := ((3, (σ.P i).b, (σ.P i).bl, (σ.P i).e, (σ.P i).m, c, (σ.P i).f0, (σ.P i).f1, (σ.P i).c0, (c - (σ.P i).c0) % (σ.p : Int), (σ.P i).t0, ((σ.P i).m + (c - (σ.P i).c0) % (σ.p : Int) * (σ.P i).bl) % (σ.p : Int), (σ.P i).g0, (σ.P i).g1) : PS)) PS.b rfl (hset_ne (by omega) (hset_ne (by omega) (hset_ne (by omega) (hset_ne (by omega) (w3.c111)))))) (k2 (R' := ((3, (σ.P i).b, (σ.P i).bl, (σ.P i).e, (σ.P i).m, c, (σ.P i).f0, (σ.P i).f1, (σ.P i).c0, (c - (σ.P i).c0) % (σ.p : Int), (σ.P i).t0, ((σ.P i).m + (c - (σ.P i).c0) % (σ.p : Int) * (σ.P i).bl) % (σ.p : Int), (σ.P i).g0, (σ.P i).g1) : PS)) PS.bl rfl (hset_ne (by omega) (hset_ne (by omega) (hset_ne (by omega) (hset_ne (by omega) (w3.c112)))))) (k2 (R' := ((3, (σ.P i).b, (σ.P i).bl, (σ.P i).e, (σ.P i).m, c, (σ.P i).f0, (σ.P i).f1, (σ.P i).c0, (c - (σ.P i).c0) % (σ.p : Int), (σ.P i).t0, ((σ.P i).m + (c - (σ.P i).c0) % (σ.p : Int) * (σ.P i).bl) % (σ.p : Int), (σ.P i).g0, (σ.P i).g1) : PS)) PS.m rfl (hset_ne (by omega) (hset_ne (by omega) (hset_ne (by omega) (hset_ne (by omega) (w3.c113)))))) (c2 (R' := ((3, (σ.P i).b, (σ.P i).bl, (σ.P i).e, (σ.P i).m, c, (σ.P i).f0, (σ.P i).f1, (σ.P i).c0, (c - (σ.P i).c0) % (σ.p : Int), (σ.P i).t0, ((σ.P i).m + (c - (σ.P i).c0) % (σ.p : Int) * (σ.P i).bl) % (σ.p : Int), (σ.P i).g0, (σ.P i).g1) : PS)) PS.c hi (hset_ne (by omega) (hset_ne (by omega) (hset_ne (by omega) (hset_eq (w3.c114)))))) (hset_ne (by omega) (hset_ne (by omega) (hset_ne (by omega) (hset_ne (by omega) (w3.bf i hi))))) (hset_ne (by omega) (hset_ne (by omega) (hset_eq (hset_ne (by omega) (w3.bc i hi))))) (hset_ne (by omega) (hset_eq (hset_ne (by omega) (hset_ne (by omega) (w3.bt i hi))))))
    · refine xRet_some ?_
      refine x_iconst (dT U_X11_dareBit 11 rfl) ?_
      refine x_invokevirtual (rc' := rc) (rs' := rs) (rc2 := 0) (rs2 := 0) (As := [_, _]) (st := _) M_X11_lets K_X11_167 (dT U_X11_dareBit 12 rfl) rfl rfl (by decide) rfl rfl w1.c70 (Nat.le_of_ble_eq_true rfl) (by decide) rfl (Nat.le_of_ble_eq_true rfl) rfl (by decide) (Nat.le_of_ble_eq_true rfl) rfl rfl ?_
      refine S_X11_lets0 w1 (fun h2 g2 w2 => ?_)
      refine xRet_some ?_
      refine x_if_eqj (tgt := 49) (dT U_X11_dareBit 13 rfl) (by decide) (by decide) ?_
      refine x_iconst (dT U_X11_dareBit 27 rfl) ?_
      refine x_ireturn (dT U_X11_dareBit 28 rfl) rfl ?_
      exact e2 (by omega) (by omega) _ _ (Ag.tr (Ag.tr (Ag.rf 70 142 h) (g1.w (by omega))) (g2.w (by omega))) w2 (by unfold xr; omega)
  · refine xRet_some ?_
    refine x_iconst (dT U_X11_dareBit 4 rfl) ?_
    refine x_invokevirtual (rc' := rc) (rs' := rs) (rc2 := 0) (rs2 := 0) (As := [_, _]) (st := _) M_X11_lets K_X11_167 (dT U_X11_dareBit 5 rfl) rfl rfl (by decide) rfl rfl w.c70 (Nat.le_of_ble_eq_true rfl) (by decide) rfl (Nat.le_of_ble_eq_true rfl) rfl (by decide) (Nat.le_of_ble_eq_true rfl) rfl rfl ?_
    refine S_X11_lets0 w (fun h1 g1 w1 => ?_)
    refine xRet_some ?_
    refine x_if_eqj (tgt := 49) (dT U_X11_dareBit 6 rfl) (by decide) (by decide) ?_
    refine x_iconst (dT U_X11_dareBit 27 rfl) ?_
    refine x_ireturn (dT U_X11_dareBit 28 rfl) rfl ?_
    exact e1 (by omega) _ _ (Ag.tr (Ag.rf 70 142 h) (g1.w (by omega))) w1 (by unfold xr; omega)
