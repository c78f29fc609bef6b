theorem tnc (n : Nat) : ((n : Int)).toNat = n := rfl

set_option maxRecDepth 20000 in
set_option maxHeartbeats 1000000 in
theorem S_X11_thrown {G : xG} {d rc rs : Nat} {ex : Bool} {h : xH} {Q : xQ} {σ : St} {cc0 : Int} {rr : Nat} {ss : Int} (w : MX σ cc0 rr ss h) (k : Q (.inl (some (vi cc0))) ex h) : X G m_X11_thrown d rc rs ex 0 (xe m_X11_thrown.2.2.1 [.ref 70]) [] h Q := by
  show X G m_X11_thrown _ _ _ _ 0 [some (.ref 70)] [] h Q
  refine x_aload_n (dT U_X11_thrown 0 rfl) rfl ?_
  refine x_getfield F_X11_122 (dT U_X11_thrown 1 rfl) w.c70 (Nat.le_of_ble_eq_true rfl) rfl ?_
  refine x_ireturn (dT U_X11_thrown 2 rfl) rfl ?_
  exact k

set_option maxRecDepth 20000 in
set_option maxHeartbeats 1000000 in
theorem S_X11_lets1 {G : xG} {d rc rs : Nat} {ex : Bool} {h : xH} {Q : xQ} {σ : St} {cc0 : Int} {rr : Nat} {ss : Int} {e : Int} (w : MX σ cc0 rr ss h) (k : ∀ h2, Ag 70 70 h h2 → MX σ 0 rr ss h2 → Q (.inl (some (vi 1))) ex h2) : X G m_X11_lets d rc rs ex 0 (xe m_X11_lets.2.2.1 [.ref 70, vi 1, vi e]) [] h Q := by
  show X G m_X11_lets _ _ _ _ 0 [some (.ref 70), some (vi 1), some (vi e)] [] h Q
  refine x_aload_n (dT U_X11_lets 0 rfl) rfl ?_
  refine x_iload_n (dT U_X11_lets 1 rfl) rfl ?_
  refine x_if_eqn (tgt := 9) (dT U_X11_lets 2 rfl) (by decide) (by decide) ?_
  refine x_iconst (dT U_X11_lets 3 rfl) ?_
  refine x_goto (tgt := 10) (dT U_X11_lets 4 rfl) (by decide) ?_
  refine x_putfield F_X11_122 (dT U_X11_lets 6 rfl) w.c70 (Nat.le_of_ble_eq_true rfl) (Nat.le_of_ble_eq_true rfl) rfl rfl ?_
  refine x_iload_n (dT U_X11_lets 7 rfl) rfl ?_
  refine x_zreturn (dT U_X11_lets 8 rfl) rfl (by omega) ?_
  exact k _ ((Ag.rf 70 70 h).set (by omega)) (w.code (fun a ha => hset_fr (by omega)) (hset_eq w.c70))

set_option maxRecDepth 20000 in
set_option maxHeartbeats 1000000 in
theorem S_X11_lets0 {G : xG} {d rc rs : Nat} {ex : Bool} {h : xH} {Q : xQ} {σ : St} {cc0 : Int} {rr : Nat} {ss : Int} {e : Int} (w : MX σ cc0 rr ss h) (k : ∀ h2, Ag 70 70 h h2 → MX σ e rr ss h2 → Q (.inl (some (vi 0))) ex h2) : X G m_X11_lets d rc rs ex 0 (xe m_X11_lets.2.2.1 [.ref 70, vi 0, vi e]) [] h Q := by
  show X G m_X11_lets _ _ _ _ 0 [some (.ref 70), some (vi 0), some (vi e)] [] h Q
  refine x_aload_n (dT U_X11_lets 0 rfl) rfl ?_
  refine x_iload_n (dT U_X11_lets 1 rfl) rfl ?_
  refine x_if_eqj (tgt := 9) (dT U_X11_lets 2 rfl) (by decide) (by decide) ?_
  refine x_iload_n (dT U_X11_lets 5 rfl) rfl ?_
  refine x_putfield F_X11_122 (dT U_X11_lets 6 rfl) w.c70 (Nat.le_of_ble_eq_true rfl) (Nat.le_of_ble_eq_true rfl) rfl rfl ?_
  refine x_iload_n (dT U_X11_lets 7 rfl) rfl ?_
  refine x_zreturn (dT U_X11_lets 8 rfl) rfl (by omega) ?_
  exact k _ ((Ag.rf 70 70 h).set (by omega)) (w.code (fun a ha => hset_fr (by omega)) (hset_eq w.c70))

set_option maxRecDepth 20000 in
set_option maxHeartbeats 1000000 in
theorem S_X11_in {G : xG} {d rc rs : Nat} {ex : Bool} {h : xH} {Q : xQ} {z m : Int} (hz : xr z) (hm : xr m) (k1 : 0 ≤ z ∧ z ≤ m → Q (.inl (some (vi 1))) ex h) (k0 : ¬ (0 ≤ z ∧ z ≤ m) → Q (.inl (some (vi 0))) ex h) : X G m_X11_in d rc rs ex 0 (xe m_X11_in.2.2.1 [vi z, vi m]) [] h Q := by
  show X G m_X11_in _ _ _ _ 0 [some (vi z), some (vi m)] [] h Q
  refine x_iload_n (dT U_X11_in 0 rfl) rfl ?_
  refine x_if_lt (tgt := 13) (dT U_X11_in 1 rfl) (by decide) hz (fun c1 => ?_) (fun c1 => ?_)
  · skip
    refine x_iconst (dT U_X11_in 7 rfl) ?_
    refine x_zreturn (dT U_X11_in 8 rfl) rfl (by omega) ?_
    first | exact k1 (by omega) | exact k0 (by omega)
  · skip
    refine x_iload_n (dT U_X11_in 2 rfl) rfl ?_
    refine x_iload_n (dT U_X11_in 3 rfl) rfl ?_
    refine x_icmp_gt (tgt := 13) (dT U_X11_in 4 rfl) (by decide) hz hm (fun c6 => ?_) (fun c6 => ?_)
    · skip
      refine x_iconst (dT U_X11_in 7 rfl) ?_
      refine x_zreturn (dT U_X11_in 8 rfl) rfl (by omega) ?_
      first | exact k1 (by omega) | exact k0 (by omega)
    · skip
      refine x_iconst (dT U_X11_in 5 rfl) ?_
      refine x_goto (tgt := 14) (dT U_X11_in 6 rfl) (by decide) ?_
      refine x_zreturn (dT U_X11_in 8 rfl) rfl (by omega) ?_
      first | exact k1 (by omega) | exact k0 (by omega)

set_option maxRecDepth 20000 in
set_option maxHeartbeats 1000000 in
theorem S_X11_isRow {G : xG} {d rc rs : Nat} {ex : Bool} {h : xH} {Q : xQ} {z : Int} (hz : xr z) (k1 : inb z 8 → Q (.inl (some (vi 1))) ex h) (k0 : ¬ inb z 8 → Q (.inl (some (vi 0))) ex h) : X G m_X11_isRow (d + 1) rc rs ex 0 (xe m_X11_isRow.2.2.1 [vi z]) [] h Q := by
  show X G m_X11_isRow _ _ _ _ 0 [some (vi z)] [] h Q
  refine x_iload_n (dT U_X11_isRow 0 rfl) rfl ?_
  refine x_bipush (dT U_X11_isRow 1 rfl) (by decide) ?_
  refine x_invokestatic (rc' := rc) (rs' := rs) (rc2 := 0) (rs2 := 0) (As := [_, _]) (st := _) M_X11_in K_X11_126 (dT U_X11_isRow 2 rfl) rfl rfl rfl rfl (Nat.le_of_ble_eq_true rfl) rfl (by decide) (Nat.le_of_ble_eq_true rfl) rfl rfl ?_
  refine S_X11_in hz (by unfold xr; omega) (fun q => ?_) (fun q => ?_)
  · refine xRet_some ?_
    refine x_zreturn (dT U_X11_isRow 3 rfl) rfl (by omega) ?_
    first | exact k1 (by omega) | exact k0 (by omega)
  · refine xRet_some ?_
    refine x_zreturn (dT U_X11_isRow 3 rfl) rfl (by omega) ?_
    first | exact k1 (by omega) | exact k0 (by omega)

set_option maxRecDepth 20000 in
set_option maxHeartbeats 1000000 in
theorem S_X11_isRun {G : xG} {d rc rs : Nat} {ex : Bool} {h : xH} {Q : xQ} {z : Int} (hz : xr z) (k1 : inb z 4 → Q (.inl (some (vi 1))) ex h) (k0 : ¬ inb z 4 → Q (.inl (some (vi 0))) ex h) : X G m_X11_isRun (d + 1) rc rs ex 0 (xe m_X11_isRun.2.2.1 [vi z]) [] h Q := by
  show X G m_X11_isRun _ _ _ _ 0 [some (vi z)] [] h Q
  refine x_iload_n (dT U_X11_isRun 0 rfl) rfl ?_
  refine x_iconst (dT U_X11_isRun 1 rfl) ?_
  refine x_invokestatic (rc' := rc) (rs' := rs) (rc2 := 0) (rs2 := 0) (As := [_, _]) (st := _) M_X11_in K_X11_126 (dT U_X11_isRun 2 rfl) rfl rfl rfl rfl (Nat.le_of_ble_eq_true rfl) rfl (by decide) (Nat.le_of_ble_eq_true rfl) rfl rfl ?_
  refine S_X11_in hz (by unfold xr; omega) (fun q => ?_) (fun q => ?_)
  · refine xRet_some ?_
    refine x_zreturn (dT U_X11_isRun 3 rfl) rfl (by omega) ?_
    first | exact k1 (by omega) | exact k0 (by omega)
  · refine xRet_some ?_
    refine x_zreturn (dT U_X11_isRun 3 rfl) rfl (by omega) ?_
    first | exact k1 (by omega) | exact k0 (by omega)

set_option maxRecDepth 20000 in
set_option maxHeartbeats 1000000 in
theorem S_X11_isSeal {G : xG} {d rc rs : Nat} {ex : Bool} {h : xH} {Q : xQ} {z : Int} (hz : xr z) (k1 : inb z 251 → Q (.inl (some (vi 1))) ex h) (k0 : ¬ inb z 251 → Q (.inl (some (vi 0))) ex h) : X G m_X11_isSeal (d + 1) rc rs ex 0 (xe m_X11_isSeal.2.2.1 [vi z]) [] h Q := by
  show X G m_X11_isSeal _ _ _ _ 0 [some (vi z)] [] h Q
  refine x_iload_n (dT U_X11_isSeal 0 rfl) rfl ?_
  refine x_sipush (dT U_X11_isSeal 1 rfl) (by decide) ?_
  refine x_invokestatic (rc' := rc) (rs' := rs) (rc2 := 0) (rs2 := 0) (As := [_, _]) (st := _) M_X11_in K_X11_126 (dT U_X11_isSeal 2 rfl) rfl rfl rfl rfl (Nat.le_of_ble_eq_true rfl) rfl (by decide) (Nat.le_of_ble_eq_true rfl) rfl rfl ?_
  refine S_X11_in hz (by unfold xr; omega) (fun q => ?_) (fun q => ?_)
  · refine xRet_some ?_
    refine x_zreturn (dT U_X11_isSeal 3 rfl) rfl (by omega) ?_
    first | exact k1 (by omega) | exact k0 (by omega)
  · refine xRet_some ?_
    refine x_zreturn (dT U_X11_isSeal 3 rfl) rfl (by omega) ?_
    first | exact k1 (by omega) | exact k0 (by omega)

set_option maxRecDepth 20000 in
set_option maxHeartbeats 1000000 in
theorem S_X11_isNumber {G : xG} {d rc rs : Nat} {ex : Bool} {h : xH} {Q : xQ} {p : Nat} {z : Int} (w : MP p h) (hp5 : p ∈ PR) (hz : xr z) (k1 : inb z p → Q (.inl (some (vi 1))) ex h) (k0 : ¬ inb z p → Q (.inl (some (vi 0))) ex h) : X G m_X11_isNumber (d + 1) rc rs ex 0 (xe m_X11_isNumber.2.2.1 [.ref 70, vi z]) [] h Q := by
  show X G m_X11_isNumber _ _ _ _ 0 [some (.ref 70), some (vi z)] [] h Q
  have hp := PRb hp5
  have hq := gq_b hp5
  have w9 := w
  obtain ⟨c_, gc_, gb_, rr_, gcl_, ss_, gz_, go_, nc_, w70⟩ := w9
  refine x_iload_n (dT U_X11_isNumber 0 rfl) rfl ?_
  refine x_aload_n (dT U_X11_isNumber 1 rfl) rfl ?_
  refine x_getfield F_X11_130 (dT U_X11_isNumber 2 rfl) w70 (Nat.le_of_ble_eq_true rfl) rfl ?_
  refine x_iconst (dT U_X11_isNumber 3 rfl) ?_
  refine x_isub (dT U_X11_isNumber 4 rfl) ?_
  refine x_invokestatic (rc' := rc) (rs' := rs) (rc2 := 0) (rs2 := 0) (As := [_, _]) (st := _) M_X11_in K_X11_126 (dT U_X11_isNumber 5 rfl) rfl rfl rfl rfl (Nat.le_of_ble_eq_true rfl) rfl (by decide) (Nat.le_of_ble_eq_true rfl) rfl rfl ?_
  refine S_X11_in hz (by unfold xr; omega) (fun q => ?_) (fun q => ?_)
  · refine xRet_some ?_
    refine x_zreturn (dT U_X11_isNumber 6 rfl) rfl (by omega) ?_
    first | exact k1 (by omega) | exact k0 (by omega)
  · refine xRet_some ?_
    refine x_zreturn (dT U_X11_isNumber 6 rfl) rfl (by omega) ?_
    first | exact k1 (by omega) | exact k0 (by omega)

theorem exI_out {p : Nat} {y : Int} (hp : p ∈ PR) (h : y ≤ 0 ∨ (gq p : Int) ≤ y) : exI p y = -1 := by
  refine Decidable.byContradiction (fun q => ?_)
  have h1 := exI_some q
  have h2 := MM_b hp ⟨h1.1, h1.2.1⟩
  omega
theorem exI_in {p : Nat} {y : Nat} (hy : y < 192) : exo p y = exI p (y : Int) := by
  unfold exI
  rw [if_pos (by omega)]
  rfl

set_option maxRecDepth 20000 in
set_option maxHeartbeats 1000000 in
theorem S_X11_isOf {G : xG} {d rc rs : Nat} {ex : Bool} {h : xH} {Q : xQ} {σ : St} {cc0 : Int} {rr : Nat} {ss : Int} {z : Int} (w : MX σ cc0 rr ss h) (v : INV σ) (hz : xr z) (k1 : ¬ exI σ.p z = -1 → Q (.inl (some (vi 1))) ex h) (k0 : exI σ.p z = -1 → Q (.inl (some (vi 0))) ex h) : X G m_X11_isOf d rc rs ex 0 (xe m_X11_isOf.2.2.1 [.ref 70, vi z]) [] h Q := by
  show X G m_X11_isOf _ _ _ _ 0 [some (.ref 70), some (vi z)] [] h Q
  have hp := PRb v.p
  have hq := gq_b v.p
  refine x_iload_n (dT U_X11_isOf 0 rfl) rfl ?_
  refine x_if_le (tgt := 25) (dT U_X11_isOf 1 rfl) (by decide) hz (fun c1 => ?_) (fun c1 => ?_)
  · skip
    refine x_iconst (dT U_X11_isOf 13 rfl) ?_
    refine x_zreturn (dT U_X11_isOf 14 rfl) rfl (by omega) ?_
    first | exact k0 (exI_out v.p (by omega)) | exact k1 (by omega) | exact k0 (by omega)
  · skip
    refine x_iload_n (dT U_X11_isOf 2 rfl) rfl ?_
    refine x_aload_n (dT U_X11_isOf 3 rfl) rfl ?_
    refine x_getfield F_X11_133 (dT U_X11_isOf 4 rfl) w.c70 (Nat.le_of_ble_eq_true rfl) rfl ?_
    refine x_icmp_ge (tgt := 25) (dT U_X11_isOf 5 rfl) (by decide) hz (by unfold xr; omega) (fun c9 => ?_) (fun c9 => ?_)
    · skip
      refine x_iconst (dT U_X11_isOf 13 rfl) ?_
      refine x_zreturn (dT U_X11_isOf 14 rfl) rfl (by omega) ?_
      first | exact k0 (exI_out v.p (by omega)) | exact k1 (by omega) | exact k0 (by omega)
    · skip
      refine x_aload_n (dT U_X11_isOf 6 rfl) rfl ?_
      refine x_getfield F_X11_13 (dT U_X11_isOf 7 rfl) w.c70 (Nat.le_of_ble_eq_true rfl) rfl ?_
      refine x_iload_n (dT U_X11_isOf 8 rfl) rfl ?_
      refine x_ialoadv (z.toNat) (dT U_X11_isOf 9 rfl) w.c72 (Nat.le_of_ble_eq_true rfl) (by omega) (by rw [tab_len]; omega) (by rw [tab_len]; omega) (show _ = exI σ.p z from by rw [tab_get _ (by omega), exI_in (by omega)]; congr 1; omega) ?_
      have eb := exI_b σ.p z
      refine x_if_lt (tgt := 25) (dT U_X11_isOf 10 rfl) (by decide) (by unfold xr; omega) (fun c18 => ?_) (fun c18 => ?_)
      · skip
        refine x_iconst (dT U_X11_isOf 13 rfl) ?_
        refine x_zreturn (dT U_X11_isOf 14 rfl) rfl (by omega) ?_
        first | exact k0 (exI_out v.p (by omega)) | exact k1 (by omega) | exact k0 (by omega)
      · skip
        refine x_iconst (dT U_X11_isOf 11 rfl) ?_
        refine x_goto (tgt := 26) (dT U_X11_isOf 12 rfl) (by decide) ?_
        refine x_zreturn (dT U_X11_isOf 14 rfl) rfl (by omega) ?_
        first | exact k0 (exI_out v.p (by omega)) | exact k1 (by omega) | exact k0 (by omega)

set_option maxRecDepth 20000 in
set_option maxHeartbeats 1000000 in
theorem S_X11_f {G : xG} {d rc rs : Nat} {ex : Bool} {h : xH} {Q : xQ} {p : Nat} {z : Int} (w : MP p h) (hp5 : p ∈ PR) (hz : xrl z) (k : Q (.inl (some (vi (z % (p : Int))))) ex h) : X G m_X11_f d rc rs ex 0 (xe m_X11_f.2.2.1 [.ref 70, vl z]) [] h Q := by
  show X G m_X11_f _ _ _ _ 0 [some (.ref 70), some (vl z), none, none] [] h Q
  have hp := PRb hp5
  have hq := gq_b hp5
  have w9 := w
  obtain ⟨c_, gc_, gb_, rr_, gcl_, ss_, gz_, go_, nc_, w70⟩ := w9
  refine x_lload_n (dT U_X11_f 0 rfl) rfl ?_
  refine x_aload_n (dT U_X11_f 1 rfl) rfl ?_
  refine x_getfield F_X11_130 (dT U_X11_f 2 rfl) w70 (Nat.le_of_ble_eq_true rfl) rfl ?_
  refine x_i2l (dT U_X11_f 3 rfl) (by unfold xr; omega) ?_
  refine x_lrem (dT U_X11_f 4 rfl) hz (by unfold xrl; omega) (by omega) ?_
  refine x_l2i (dT U_X11_f 5 rfl) ?_
  refine x_istore_n (ls' := [some (.ref _), some (vl _), none, some (vi _)]) (dT U_X11_f 6 rfl) (by decide) rfl ?_
  have hb := tmod_neg (z := z) (p := (p : Int)) (by omega)
  have hb2 := tmod_nn (z := z) (p := (p : Int)) (by omega)
  have hb3 : xr (z.tmod p) := by
    have h2 := modb (z := z) (p := (p : Int)) (by omega)
    unfold xr
    by_cases h3 : z.tmod p < 0
    · have := hb h3; have h5 : -(p : Int) < z.tmod p := Int.lt_tmod_of_pos z (by omega); omega
    · have := hb2 h3; omega
  refine x_iload_n (dT U_X11_f 7 rfl) rfl ?_
  refine x_if_ge (tgt := 22) (dT U_X11_f 8 rfl) (by decide) hb3 (fun c10 => ?_) (fun c10 => ?_)
  · skip
    refine x_iload_n (dT U_X11_f 14 rfl) rfl ?_
    refine x_ireturn (dT U_X11_f 15 rfl) rfl ?_
    first | (rw [hb (by omega)]; exact k) | (rw [hb2 (by omega)]; exact k)
  · skip
    refine x_iload_n (dT U_X11_f 9 rfl) rfl ?_
    refine x_aload_n (dT U_X11_f 10 rfl) rfl ?_
    refine x_getfield F_X11_130 (dT U_X11_f 11 rfl) w70 (Nat.le_of_ble_eq_true rfl) rfl ?_
    refine x_iadd (dT U_X11_f 12 rfl) ?_
    refine x_goto (tgt := 23) (dT U_X11_f 13 rfl) (by decide) ?_
    refine x_ireturn (dT U_X11_f 15 rfl) rfl ?_
    first | (rw [hb (by omega)]; exact k) | (rw [hb2 (by omega)]; exact k)

theorem ov_is {p a x : Nat} {b : Nat} (hp : p ∈ PR) (hb : 0 < b ∧ b < p) (hx : x < p) (ha : a < p) (e : ((x : Int) * (b : Int)) % (p : Int) = (a : Int)) : (x : Int) = ((a : Int) * (iv p b : Int)) % (p : Int) := by
  have hb9 := PRb hp
  have h1 := iv_ok hp hb.2 hb.1
  have h2 : ((b : Int) * (iv p b : Int)) % (p : Int) = 1 := by rw [← Int.natCast_mul, ← Int.natCast_emod, h1.1]; rfl
  rw [← e, ml_l, Int.mul_assoc, Int.mul_emod, h2, Int.mul_one, Int.emod_emod, Int.emod_eq_of_lt (by omega) (by omega)]
theorem ov_ok {p a : Nat} {b : Nat} (hp : p ∈ PR) (hb : 0 < b ∧ b < p) (ha : a < p) : ((((a : Int) * (iv p b : Int)) % (p : Int)) * (b : Int)) % (p : Int) = (a : Int) := by
  have hb9 := PRb hp
  have h1 := iv_ok hp hb.2 hb.1
  have h2 : ((b : Int) * (iv p b : Int)) % (p : Int) = 1 := by rw [← Int.natCast_mul, ← Int.natCast_emod, h1.1]; rfl
  rw [ml_l, Int.mul_assoc, Int.mul_comm (iv p b : Int), Int.mul_emod, h2, Int.mul_one, Int.emod_emod, Int.emod_eq_of_lt (by omega) (by omega)]

set_option maxRecDepth 20000 in
set_option maxHeartbeats 1000000 in
theorem S_X11_over {G : xG} {d rc rs : Nat} {ex : Bool} {h : xH} {Q : xQ} {p : Nat} {a b : Nat} (w : MP p h) (hp5 : p ∈ PR) (ha : a < p) (hb : 0 < b ∧ b < p) (k : Q (.inl (some (vi (((a : Int) * (iv p b : Int)) % (p : Int))))) ex h) : X G m_X11_over (d + 1) rc rs ex 0 (xe m_X11_over.2.2.1 [.ref 70, vi (a : Int), vi (b : Int)]) [] h Q := by
  show X G m_X11_over _ _ _ _ 0 [some (.ref 70), some (vi (a : Int)), some (vi (b : Int)), none] [] h Q
  have hp := PRb hp5
  have hq := gq_b hp5
  have w9 := w
  obtain ⟨c_, gc_, gb_, rr_, gcl_, ss_, gz_, go_, nc_, w70⟩ := w9
  have hm := modb (z := (a : Int) * (iv p b : Int)) (p := (p : Int)) (by omega)
  have L : ∀ (n x : Nat), x + n = (((a : Int) * (iv p b : Int)) % (p : Int)).toNat → X G m_X11_over (d + 1) rc rs ex 2 [some (.ref 70), some (vi (a : Int)), some (vi (b : Int)), some (vi (x : Int))] [] h Q := by
    intro n
    induction n with
    | zero =>
      intro x hi_ 
      refine x_aload_n (dT U_X11_over 2 rfl) rfl ?_
      refine x_iload_n (dT U_X11_over 3 rfl) rfl ?_
      refine x_i2l (dT U_X11_over 4 rfl) (by unfold xr; omega) ?_
      refine x_iload_n (dT U_X11_over 5 rfl) rfl ?_
      refine x_i2l (dT U_X11_over 6 rfl) (by unfold xr; omega) ?_
      refine x_lmul (dT U_X11_over 7 rfl) ?_
      refine x_invokevirtual (rc' := rc) (rs' := rs) (rc2 := 0) (rs2 := 0) (As := [_]) (st := _) M_X11_f K_X11_156 (dT U_X11_over 8 rfl) rfl rfl (by decide) rfl rfl w70 (Nat.le_of_ble_eq_true rfl) (by decide) rfl (Nat.le_of_ble_eq_true rfl) rfl (by decide) (Nat.le_of_ble_eq_true rfl) rfl rfl ?_
      refine S_X11_f w hp5 (by unfold xrl; have := mulb (a := (x : Int)) (b := (b : Int)) (p := (p : Int)) (by omega) (by omega) (by omega); omega) ?_
      refine xRet_some ?_
      refine x_iload_n (dT U_X11_over 9 rfl) rfl ?_
      have e : (x : Int) = ((a : Int) * (iv p b : Int)) % (p : Int) := by omega
      rw [e, ov_ok hp5 hb ha]
      refine x_icmp_eq (tgt := 21) (dT U_X11_over 10 rfl) (by decide) (by unfold xr; omega) (by unfold xr; omega) (fun c12 => ?_) (fun c12 => ?_)
      · skip
        refine x_iload_n (dT U_X11_over 13 rfl) rfl ?_
        refine x_ireturn (dT U_X11_over 14 rfl) rfl ?_
        exact k
      · exfalso; omega
    | succ n ih =>
      intro x hi_ 
      refine x_aload_n (dT U_X11_over 2 rfl) rfl ?_
      refine x_iload_n (dT U_X11_over 3 rfl) rfl ?_
      refine x_i2l (dT U_X11_over 4 rfl) (by unfold xr; omega) ?_
      refine x_iload_n (dT U_X11_over 5 rfl) rfl ?_
      refine x_i2l (dT U_X11_over 6 rfl) (by unfold xr; omega) ?_
      refine x_lmul (dT U_X11_over 7 rfl) ?_
      refine x_invokevirtual (rc' := rc) (rs' := rs) (rc2 := 0) (rs2 := 0) (As := [_]) (st := _) M_X11_f K_X11_156 (dT U_X11_over 8 rfl) rfl rfl (by decide) rfl rfl w70 (Nat.le_of_ble_eq_true rfl) (by decide) rfl (Nat.le_of_ble_eq_true rfl) rfl (by decide) (Nat.le_of_ble_eq_true rfl) rfl rfl ?_
      refine S_X11_f w hp5 (by unfold xrl; have := mulb (a := (x : Int)) (b := (b : Int)) (p := (p : Int)) (by omega) (by omega) (by omega); omega) ?_
      refine xRet_some ?_
      refine x_iload_n (dT U_X11_over 9 rfl) rfl ?_
      refine x_icmp_eq (tgt := 21) (dT U_X11_over 10 rfl) (by decide) (by have := modb (z := (x : Int) * (b : Int)) (p := (p : Int)) (by omega); unfold xr; omega) (by unfold xr; omega) (fun c12 => ?_) (fun c12 => ?_)
      · exact absurd (ov_is hp5 hb (by omega) ha c12) (by omega)
      · skip
        refine x_iinc (ls' := [some (.ref _), some (vi _), some (vi _), some (vi _)]) (dT U_X11_over 11 rfl) (by decide) rfl rfl ?_
        refine x_goto (tgt := 2) (dT U_X11_over 12 rfl) (by decide) ?_
        exact ih (x + 1) (by omega)
  refine x_iconst (dT U_X11_over 0 rfl) ?_
  refine x_istore_n (ls' := [some (.ref _), some (vi _), some (vi _), some (vi _)]) (dT U_X11_over 1 rfl) (by decide) rfl ?_
  exact L (((a : Int) * (iv p b : Int)) % (p : Int)).toNat 0 (by omega)

set_option maxRecDepth 20000 in
set_option maxHeartbeats 1000000 in
theorem S_X11_of {G : xG} {d rc rs : Nat} {ex : Bool} {h : xH} {Q : xQ} {p : Nat} {i : Nat} (w : MP p h) (hp5 : p ∈ PR) (hi : i < 9) (k : Q (.inl (some (vi (bs p i : Int)))) ex h) : X G m_X11_of d rc rs ex 0 (xe m_X11_of.2.2.1 [.ref 70, vi (i : Int)]) [] h Q := by
  show X G m_X11_of _ _ _ _ 0 [some (.ref 70), some (vi (i : Int))] [] h Q
  have hp := PRb hp5
  have hq := gq_b hp5
  have w9 := w
  obtain ⟨c_, gc_, gb_, rr_, gcl_, ss_, gz_, go_, nc_, w70⟩ := w9
  refine x_iconst (dT U_X11_of 0 rfl) ?_
  refine x_iload_n (dT U_X11_of 1 rfl) rfl ?_
  refine x_iload_n (dT U_X11_of 2 rfl) rfl ?_
  refine x_imul (dT U_X11_of 3 rfl) ?_
  refine x_iload_n (dT U_X11_of 4 rfl) rfl ?_
  refine x_iadd (dT U_X11_of 5 rfl) ?_
  refine x_aload_n (dT U_X11_of 6 rfl) rfl ?_
  refine x_getfield F_X11_130 (dT U_X11_of 7 rfl) w70 (Nat.le_of_ble_eq_true rfl) rfl ?_
  refine x_iconst (dT U_X11_of 8 rfl) ?_
  refine x_isub (dT U_X11_of 9 rfl) ?_
  refine x_irem (dT U_X11_of 10 rfl) (by have := mulg (a := (i : Int)) (b := (i : Int)) (m := 8) (n := 8) (by omega) (by omega); unfold xr; omega) (by unfold xr; omega) (by omega) ?_
  refine x_iadd (dT U_X11_of 11 rfl) ?_
  refine x_ireturn (dT U_X11_of 12 rfl) rfl ?_
  rw [bs_eq hp hi]
  exact k

set_option maxRecDepth 20000 in
set_option maxHeartbeats 1000000 in
theorem S_X11_committed {G : xG} {d rc rs : Nat} {ex : Bool} {h : xH} {Q : xQ} {p : Nat} {b : Int} {aa : Nat} {al : List Int} (w : MP p h) (hp5 : p ∈ PR) (ha : h[aa]? = some (cA 0 al)) (a3 : 3 ≤ aa) (la : Fl (p : Int) al) (hb : 0 ≤ b ∧ b < p) (k : Q (.inl (some (vi (cm p al b)))) ex h) : X G m_X11_committed (d + 1) rc rs ex 0 (xe m_X11_committed.2.2.1 [.ref 70, .ref aa, vi b]) [] h Q := by
  show X G m_X11_committed _ _ _ _ 0 [some (.ref 70), some (.ref aa), some (vi b), none, none, none] [] h Q
  have hp := PRb hp5
  have hq := gq_b hp5
  have w9 := w
  obtain ⟨c_, gc_, gb_, rr_, gcl_, ss_, gz_, go_, nc_, w70⟩ := w9
  have L : ∀ (n t : Nat), t + n = 8 → X G m_X11_committed (d + 1) rc rs ex 14 [some (.ref 70), some (.ref aa), some (vi b), some (vl ((bs p 8 : Int) * b + sm (fun t => (bs p t : Int) * al.getD t 0) t)), none, some (vi (t : Int))] [] h Q := by
    intro n
    induction n with
    | zero =>
      intro t hi_ 
      refine x_iload (dT U_X11_committed 10 rfl) rfl ?_
      refine x_bipush (dT U_X11_committed 11 rfl) (by decide) ?_
      refine x_icmp_ge (tgt := 43) (dT U_X11_committed 12 rfl) (by decide) (by unfold xr; omega) (by unfold xr at *; omega) (fun c18 => ?_) (fun c18 => ?_)
      · skip
        refine x_aload_n (dT U_X11_committed 27 rfl) rfl ?_
        refine x_lload_n (dT U_X11_committed 28 rfl) rfl ?_
        refine x_invokevirtual (rc' := rc) (rs' := rs) (rc2 := 0) (rs2 := 0) (As := [_]) (st := _) M_X11_f K_X11_156 (dT U_X11_committed 29 rfl) rfl rfl (by decide) rfl rfl w70 (Nat.le_of_ble_eq_true rfl) (by decide) rfl (Nat.le_of_ble_eq_true rfl) rfl (by decide) (Nat.le_of_ble_eq_true rfl) rfl rfl ?_
        have e : t = 8 := by omega
        subst e
        refine S_X11_f w hp5 (by have h1 := wt_b hp5 la; unfold wt at h1; have h2 := bs_b hp5 (i := 8) (by omega); have h3 := mulg (a := (bs p 8 : Int)) (b := b) (m := 23) (n := 23) (by omega) (by omega); unfold xrl; omega) ?_
        have e2 : ((bs p 8 : Int) * b + sm (fun t => (bs p t : Int) * al.getD t 0) 8) % (p : Int) = cm p al b := by unfold cm wt; rw [Int.add_comm]
        rw [e2]
        refine xRet_some ?_
        refine x_ireturn (dT U_X11_committed 30 rfl) rfl ?_
        exact k
      · exfalso; omega
    | succ n ih =>
      intro t hi_ 
      refine x_iload (dT U_X11_committed 10 rfl) rfl ?_
      refine x_bipush (dT U_X11_committed 11 rfl) (by decide) ?_
      refine x_icmp_ge (tgt := 43) (dT U_X11_committed 12 rfl) (by decide) (by unfold xr; omega) (by unfold xr at *; omega) (fun c18 => ?_) (fun c18 => ?_)
      · exfalso; omega
      · skip
        refine x_lload_n (dT U_X11_committed 13 rfl) rfl ?_
        refine x_aload_n (dT U_X11_committed 14 rfl) rfl ?_
        refine x_iload (dT U_X11_committed 15 rfl) rfl ?_
        refine x_invokevirtual (rc' := rc) (rs' := rs) (rc2 := 0) (rs2 := 0) (As := [_]) (st := _) M_X11_of K_X11_160 (dT U_X11_committed 16 rfl) rfl rfl (by decide) rfl rfl w70 (Nat.le_of_ble_eq_true rfl) (by decide) rfl (Nat.le_of_ble_eq_true rfl) rfl (by decide) (Nat.le_of_ble_eq_true rfl) rfl rfl ?_
        have bt := bs_b hp5 (i := t) (by omega)
        have at_ := la.2 t
        refine S_X11_of w hp5 (by omega) ?_
        refine xRet_some ?_
        refine x_i2l (dT U_X11_committed 17 rfl) (by unfold xr; omega) ?_
        refine x_aload_n (dT U_X11_committed 18 rfl) rfl ?_
        refine x_iload (dT U_X11_committed 19 rfl) rfl ?_
        refine x_iaload (t) (dT U_X11_committed 20 rfl) ha a3 rfl (by have := la.1; omega) (by have := la.1; omega) ?_
        refine x_i2l (dT U_X11_committed 21 rfl) (by unfold xr; omega) ?_
        refine x_lmul (dT U_X11_committed 22 rfl) ?_
        refine x_ladd (dT U_X11_committed 23 rfl) ?_
        refine x_lstore_n (ls' := [some (.ref _), some (.ref _), some (vi _), some (vl _), none, some (vi _)]) (dT U_X11_committed 24 rfl) (by decide) rfl ?_
        refine x_iinc (ls' := [some (.ref _), some (.ref _), some (vi _), some (vl _), none, some (vi _)]) (dT U_X11_committed 25 rfl) (by decide) rfl rfl ?_
        refine x_goto (tgt := 14) (dT U_X11_committed 26 rfl) (by decide) ?_
        have q := ih (t + 1) (by omega)
        rw [show (bs p 8 : Int) * b + sm (fun t => (bs p t : Int) * al.getD t 0) t + (bs p t : Int) * al.getD t 0 = (bs p 8 : Int) * b + sm (fun t => (bs p t : Int) * al.getD t 0) (t + 1) from Int.add_assoc _ _ _]
        exact q
  refine x_aload_n (dT U_X11_committed 0 rfl) rfl ?_
  refine x_bipush (dT U_X11_committed 1 rfl) (by decide) ?_
  refine x_invokevirtual (rc' := rc) (rs' := rs) (rc2 := 0) (rs2 := 0) (As := [_]) (st := _) M_X11_of K_X11_160 (dT U_X11_committed 2 rfl) rfl rfl (by decide) rfl rfl w70 (Nat.le_of_ble_eq_true rfl) (by decide) rfl (Nat.le_of_ble_eq_true rfl) rfl (by decide) (Nat.le_of_ble_eq_true rfl) rfl rfl ?_
  have b8 := bs_b hp5 (i := 8) (by omega)
  refine S_X11_of (i := 8) w hp5 (by omega) ?_
  refine xRet_some ?_
  refine x_i2l (dT U_X11_committed 3 rfl) (by unfold xr; omega) ?_
  refine x_iload_n (dT U_X11_committed 4 rfl) rfl ?_
  refine x_i2l (dT U_X11_committed 5 rfl) (by unfold xr; omega) ?_
  refine x_lmul (dT U_X11_committed 6 rfl) ?_
  refine x_lstore_n (ls' := [some (.ref _), some (.ref _), some (vi _), some (vl _), none, none]) (dT U_X11_committed 7 rfl) (by decide) rfl ?_
  refine x_iconst (dT U_X11_committed 8 rfl) ?_
  refine x_istore (ls' := [some (.ref _), some (.ref _), some (vi _), some (vl _), none, some (vi _)]) (dT U_X11_committed 9 rfl) (by decide) rfl ?_
  have q := L 8 0 (by omega)
  rw [show (bs p 8 : Int) * b + sm (fun t => (bs p t : Int) * al.getD t 0) 0 = (bs p 8 : Int) * b from Int.add_zero _] at q
  exact q

set_option maxRecDepth 20000 in
set_option maxHeartbeats 1000000 in
theorem S_X11_product {G : xG} {d rc rs : Nat} {ex : Bool} {h : xH} {Q : xQ} {p : Nat} {aa : Nat} {al : List Int}{ba : Nat} {bl : List Int} (w : MP p h) (hp5 : p ∈ PR) (ha : h[aa]? = some (cA 0 al)) (a3 : 3 ≤ aa) (la : Fl 24 al) (hb : h[ba]? = some (cA 0 bl)) (b3 : 3 ≤ ba) (lb : Fl 24 bl) (k : Q (.inl (some (vi (inn al bl % (p : Int))))) ex h) : X G m_X11_product (d + 1) rc rs ex 0 (xe m_X11_product.2.2.1 [.ref 70, .ref aa, .ref ba]) [] h Q := by
  show X G m_X11_product _ _ _ _ 0 [some (.ref 70), some (.ref aa), some (.ref ba), none, none, none] [] h Q
  have hp := PRb hp5
  have hq := gq_b hp5
  have w9 := w
  obtain ⟨c_, gc_, gb_, rr_, gcl_, ss_, gz_, go_, nc_, w70⟩ := w9
  have L : ∀ (n t : Nat), t + n = 8 → X G m_X11_product (d + 1) rc rs ex 5 [some (.ref 70), some (.ref aa), some (.ref ba), some (vl (sm (fun j => al.getD j 0 * bl.getD j 0) t)), none, some (vi (t : Int))] [] h Q := by
    intro n
    induction n with
    | zero =>
      intro t hi_ 
      refine x_iload (dT U_X11_product 4 rfl) rfl ?_
      refine x_bipush (dT U_X11_product 5 rfl) (by decide) ?_
      refine x_icmp_ge (tgt := 32) (dT U_X11_product 6 rfl) (by decide) (by unfold xr; omega) (by unfold xr at *; omega) (fun c9 => ?_) (fun c9 => ?_)
      · skip
        refine x_aload_n (dT U_X11_product 21 rfl) rfl ?_
        refine x_lload_n (dT U_X11_product 22 rfl) rfl ?_
        refine x_invokevirtual (rc' := rc) (rs' := rs) (rc2 := 0) (rs2 := 0) (As := [_]) (st := _) M_X11_f K_X11_156 (dT U_X11_product 23 rfl) rfl rfl (by decide) rfl rfl w70 (Nat.le_of_ble_eq_true rfl) (by decide) rfl (Nat.le_of_ble_eq_true rfl) rfl (by decide) (Nat.le_of_ble_eq_true rfl) rfl rfl ?_
        have e : t = 8 := by omega
        subst e
        have ib := inn_b la lb
        refine S_X11_f w hp5 (show xrl (inn al bl) by unfold xrl; omega) ?_
        refine xRet_some ?_
        refine x_ireturn (dT U_X11_product 24 rfl) rfl ?_
        exact k
      · exfalso; omega
    | succ n ih =>
      intro t hi_ 
      refine x_iload (dT U_X11_product 4 rfl) rfl ?_
      refine x_bipush (dT U_X11_product 5 rfl) (by decide) ?_
      refine x_icmp_ge (tgt := 32) (dT U_X11_product 6 rfl) (by decide) (by unfold xr; omega) (by unfold xr at *; omega) (fun c9 => ?_) (fun c9 => ?_)
      · exfalso; omega
      · skip
        have at_ := la.2 t
        have bt := lb.2 t
        refine x_lload_n (dT U_X11_product 7 rfl) rfl ?_
        refine x_aload_n (dT U_X11_product 8 rfl) rfl ?_
        refine x_iload (dT U_X11_product 9 rfl) rfl ?_
        refine x_iaload (t) (dT U_X11_product 10 rfl) ha a3 rfl (by have := la.1; omega) (by have := la.1; omega) ?_
        refine x_i2l (dT U_X11_product 11 rfl) (by unfold xr; omega) ?_
        refine x_aload_n (dT U_X11_product 12 rfl) rfl ?_
        refine x_iload (dT U_X11_product 13 rfl) rfl ?_
        refine x_iaload (t) (dT U_X11_product 14 rfl) hb b3 rfl (by have := lb.1; omega) (by have := lb.1; omega) ?_
        refine x_i2l (dT U_X11_product 15 rfl) (by unfold xr; omega) ?_
        refine x_lmul (dT U_X11_product 16 rfl) ?_
        refine x_ladd (dT U_X11_product 17 rfl) ?_
        refine x_lstore_n (ls' := [some (.ref _), some (.ref _), some (.ref _), some (vl _), none, some (vi _)]) (dT U_X11_product 18 rfl) (by decide) rfl ?_
        refine x_iinc (ls' := [some (.ref _), some (.ref _), some (.ref _), some (vl _), none, some (vi _)]) (dT U_X11_product 19 rfl) (by decide) rfl rfl ?_
        refine x_goto (tgt := 5) (dT U_X11_product 20 rfl) (by decide) ?_
        exact ih (t + 1) (by omega)
  refine x_lconst (z := 0) (dT U_X11_product 0 rfl) rfl ?_
  refine x_lstore_n (ls' := [some (.ref _), some (.ref _), some (.ref _), some (vl _), none, none]) (dT U_X11_product 1 rfl) (by decide) rfl ?_
  refine x_iconst (dT U_X11_product 2 rfl) ?_
  refine x_istore (ls' := [some (.ref _), some (.ref _), some (.ref _), some (vl _), none, some (vi _)]) (dT U_X11_product 3 rfl) (by decide) rfl ?_
  exact L 8 0 (by omega)

set_option maxRecDepth 20000 in
set_option maxHeartbeats 1000000 in
theorem S_X11_top {G : xG} {d rc rs : Nat} {ex : Bool} {h : xH} {Q : xQ} {aa : Nat} {al : List Int} (ha : h[aa]? = some (cA 0 al)) (a3 : 3 ≤ aa) (la : al.length < 1000) (hr : ∀ j, xr (al.getD j 0)) (k : Q (.inl (some (vi (dg (gf al) al.length)))) ex h) : X G m_X11_top d rc rs ex 0 (xe m_X11_top.2.2.1 [.ref aa]) [] h Q := by
  show X G m_X11_top _ _ _ _ 0 [some (.ref aa), none, none] [] h Q
  have L : ∀ (n t : Nat), t + n = al.length → X G m_X11_top d rc rs ex 4 [some (.ref aa), some (vi (dg (gf al) t)), some (vi (t : Int))] [] h Q := by
    intro n
    induction n with
    | zero =>
      intro t hi_ 
      refine x_iload_n (dT U_X11_top 4 rfl) rfl ?_
      refine x_aload_n (dT U_X11_top 5 rfl) rfl ?_
      refine x_arraylength (dT U_X11_top 6 rfl) ha a3 (by decide) (by omega) ?_
      refine x_icmp_ge (tgt := 28) (dT U_X11_top 7 rfl) (by decide) (by unfold xr; omega) (by unfold xr; omega) (fun c7 => ?_) (fun c7 => ?_)
      · skip
        have e : t = al.length := by omega
        subst e
        refine x_iload_n (dT U_X11_top 18 rfl) rfl ?_
        refine x_ireturn (dT U_X11_top 19 rfl) rfl ?_
        exact k
      · exfalso; omega
    | succ n ih =>
      intro t hi_ 
      refine x_iload_n (dT U_X11_top 4 rfl) rfl ?_
      refine x_aload_n (dT U_X11_top 5 rfl) rfl ?_
      refine x_arraylength (dT U_X11_top 6 rfl) ha a3 (by decide) (by omega) ?_
      refine x_icmp_ge (tgt := 28) (dT U_X11_top 7 rfl) (by decide) (by unfold xr; omega) (by unfold xr; omega) (fun c7 => ?_) (fun c7 => ?_)
      · exfalso; omega
      · skip
        refine x_aload_n (dT U_X11_top 8 rfl) rfl ?_
        refine x_iload_n (dT U_X11_top 9 rfl) rfl ?_
        refine x_iaload (t) (dT U_X11_top 10 rfl) ha a3 rfl (by omega) (by omega) ?_
        refine x_if_eq (tgt := 20) (dT U_X11_top 11 rfl) (by decide) (hr t) (fun c13 => ?_) (fun c13 => ?_)
        · skip
          have e1 : dg (gf al) (t + 1) = dg (gf al) t := by show (if _ then _ else _) = _; rw [if_neg (fun z => z c13)]
          refine x_iload_n (dT U_X11_top 14 rfl) rfl ?_
          refine x_istore_n (ls' := [some (.ref _), some (vi _), some (vi _)]) (dT U_X11_top 15 rfl) (by decide) rfl ?_
          refine x_iinc (ls' := [some (.ref _), some (vi _), some (vi _)]) (dT U_X11_top 16 rfl) (by decide) rfl rfl ?_
          refine x_goto (tgt := 4) (dT U_X11_top 17 rfl) (by decide) ?_
          have q := ih (t + 1) (by omega)
          rw [e1] at q
          exact q
        · skip
          have e1 : dg (gf al) (t + 1) = (t : Int) := by show (if _ then _ else _) = _; rw [if_pos (show gf al t ≠ 0 from c13)]
          refine x_iload_n (dT U_X11_top 12 rfl) rfl ?_
          refine x_goto (tgt := 21) (dT U_X11_top 13 rfl) (by decide) ?_
          refine x_istore_n (ls' := [some (.ref _), some (vi _), some (vi _)]) (dT U_X11_top 15 rfl) (by decide) rfl ?_
          refine x_iinc (ls' := [some (.ref _), some (vi _), some (vi _)]) (dT U_X11_top 16 rfl) (by decide) rfl rfl ?_
          refine x_goto (tgt := 4) (dT U_X11_top 17 rfl) (by decide) ?_
          have q := ih (t + 1) (by omega)
          rw [e1] at q
          exact q
  refine x_iconst (dT U_X11_top 0 rfl) ?_
  refine x_istore_n (ls' := [some (.ref _), some (vi _), none]) (dT U_X11_top 1 rfl) (by decide) rfl ?_
  refine x_iconst (dT U_X11_top 2 rfl) ?_
  refine x_istore_n (ls' := [some (.ref _), some (vi _), some (vi _)]) (dT U_X11_top 3 rfl) (by decide) rfl ?_
  exact L al.length 0 (by omega)

set_option maxRecDepth 20000 in
set_option maxHeartbeats 1000000 in
theorem S_X11_becomes {G : xG} {d rc rs : Nat} {ex : Bool} {h : xH} {Q : xQ} {ta fa : Nat} {tl fl : List Int} (ht : h[ta]? = some (cA 0 tl)) (t3 : 3 ≤ ta) (lt : 8 ≤ tl.length ∧ tl.length < 1000) (hf : h[fa]? = some (cA 0 fl)) (f3 : 3 ≤ fa) (lf : 8 ≤ fl.length ∧ fl.length < 1000) (k : Q (.inl none) ex (h.set ta (cA 0 (fillL (gf fl) tl 8)))) : X G m_X11_becomes d rc rs ex 0 (xe m_X11_becomes.2.2.1 [.ref ta, .ref fa]) [] h Q := by
  show X G m_X11_becomes _ _ _ _ 0 [some (.ref ta), some (.ref fa), none] [] h Q
  have L : ∀ (n i : Nat), i + n = 8 → X G m_X11_becomes d rc rs ex 2 [some (.ref ta), some (.ref fa), some (vi (i : Int))] [] (h.set ta (cA 0 (fillL (gf fl) tl i))) Q := by
    intro n
    induction n with
    | zero =>
      intro i hi_ 
      refine x_iload_n (dT U_X11_becomes 2 rfl) rfl ?_
      refine x_bipush (dT U_X11_becomes 3 rfl) (by decide) ?_
      refine x_icmp_ge (tgt := 20) (dT U_X11_becomes 4 rfl) (by decide) (by unfold xr; omega) (by unfold xr at *; omega) (fun c5 => ?_) (fun c5 => ?_)
      · skip
        refine x_return (dT U_X11_becomes 13 rfl) rfl ?_
        have e : i = 8 := by omega
        subst e
        exact k
      · exfalso; omega
    | succ n ih =>
      intro i hi_ 
      obtain ⟨fl2, ea1, ea2, ea3⟩ := hset_al (f := gf fl) (i := i) hf ht
      refine x_iload_n (dT U_X11_becomes 2 rfl) rfl ?_
      refine x_bipush (dT U_X11_becomes 3 rfl) (by decide) ?_
      refine x_icmp_ge (tgt := 20) (dT U_X11_becomes 4 rfl) (by decide) (by unfold xr; omega) (by unfold xr at *; omega) (fun c5 => ?_) (fun c5 => ?_)
      · exfalso; omega
      · skip
        refine x_aload_n (dT U_X11_becomes 5 rfl) rfl ?_
        refine x_iload_n (dT U_X11_becomes 6 rfl) rfl ?_
        refine x_aload_n (dT U_X11_becomes 7 rfl) rfl ?_
        refine x_iload_n (dT U_X11_becomes 8 rfl) rfl ?_
        refine x_iaload (i) (dT U_X11_becomes 9 rfl) ea1 f3 rfl (by omega) (by omega) ?_
        refine x_iastore (i) (dT U_X11_becomes 10 rfl) (hset_eq ht) t3 rfl (by rw [fillL_len]; omega) (by rw [fillL_len]; omega) ?_
        rw [List.set_set, ea3 i (Nat.le_refl i)]
        refine x_iinc (ls' := [some (.ref _), some (.ref _), some (vi _)]) (dT U_X11_becomes 11 rfl) (by decide) rfl rfl ?_
        refine x_goto (tgt := 2) (dT U_X11_becomes 12 rfl) (by decide) ?_
        exact ih (i + 1) (by omega)
  refine x_iconst (dT U_X11_becomes 0 rfl) ?_
  refine x_istore_n (ls' := [some (.ref _), some (.ref _), some (vi _)]) (dT U_X11_becomes 1 rfl) (by decide) rfl ?_
  have q := L 8 0 (by omega)
  rw [show fillL (gf fl) tl 0 = tl from rfl, hset_self ht] at q
  exact q

theorem fill8 {tl fl : List Int} (ht : tl.length = 8) (hf : fl.length = 8) : fillL (gf fl) tl 8 = fl := by rw [fillL_all ht]; exact tab_self hf
theorem S_becomes8 {G : xG} {d rc rs ta fa : Nat} {ex : Bool} {h : xH} {Q : xQ} {tl fl : List Int} (ht : h[ta]? = some (cA 0 tl)) (t3 : 3 ≤ ta) (lt : tl.length = 8) (hf : h[fa]? = some (cA 0 fl)) (f3 : 3 ≤ fa) (lf : fl.length = 8) (k : Q (.inl none) ex (h.set ta (cA 0 fl))) : X G m_X11_becomes d rc rs ex 0 (xe m_X11_becomes.2.2.1 [.ref ta, .ref fa]) [] h Q :=
  S_X11_becomes ht t3 (by omega) hf f3 (by omega) (by rw [fill8 lt lf]; exact k)
def horm (m : Nat) (f : Nat → Int) (p x : Int) : Nat → Int
  | 0 => 0
  | t + 1 => (horm m f p x t * x + f (m - 1 - t)) % p
theorem horm_b {m : Nat} {f : Nat → Int} {p x : Int} (hp : 0 < p) : ∀ t, 0 ≤ horm m f p x t ∧ horm m f p x t < p
  | 0 => ⟨Int.le_refl 0, hp⟩
  | t + 1 => modb hp
theorem horm8 {f : Nat → Int} {p x : Int} : ∀ t, horm 8 f p x t = hor f p x t
  | 0 => rfl
  | t + 1 => by show (horm 8 f p x t * x + f (8 - 1 - t)) % p = (hor f p x t * x + f (7 - t)) % p; rw [horm8 t]

set_option maxRecDepth 20000 in
set_option maxHeartbeats 1000000 in
theorem S_X11_valueOf {G : xG} {d rc rs : Nat} {ex : Bool} {h : xH} {Q : xQ} {p : Nat} {x : Int} {m : Nat} {aa : Nat} {al : List Int} (w : MP p h) (hp5 : p ∈ PR) (ha : h[aa]? = some (cA 0 al)) (a3 : 3 ≤ aa) (la : m ≤ al.length ∧ al.length < 1000) (hr : ∀ j, 0 ≤ al.getD j 0 ∧ al.getD j 0 < p) (hx : 0 ≤ x ∧ x < p) (k : Q (.inl (some (vi (horm m (gf al) p x m)))) ex h) : X G m_X11_valueOf (d + 1) rc rs ex 0 (xe m_X11_valueOf.2.2.1 [.ref 70, .ref aa, vi (m : Int), vi x]) [] h Q := by
  show X G m_X11_valueOf _ _ _ _ 0 [some (.ref 70), some (.ref aa), some (vi (m : Int)), some (vi x), none, none, none] [] h Q
  have hp := PRb hp5
  have hq := gq_b hp5
  have w9 := w
  obtain ⟨c_, gc_, gb_, rr_, gcl_, ss_, gz_, go_, nc_, w70⟩ := w9
  have L : ∀ (n t : Nat), t + n = m → X G m_X11_valueOf (d + 1) rc rs ex 8 [some (.ref 70), some (.ref aa), some (vi (m : Int)), some (vi x), some (vl (horm m (gf al) p x t)), none, some (vi ((m : Int) - 1 - (t : Int)))] [] h Q := by
    intro n
    induction n with
    | zero =>
      intro t hi_ 
      refine x_iload (dT U_X11_valueOf 6 rfl) rfl ?_
      refine x_if_lt (tgt := 37) (dT U_X11_valueOf 7 rfl) (by decide) (by unfold xr; omega) (fun c10 => ?_) (fun c10 => ?_)
      · skip
        have e : t = m := by omega
        subst e
        refine x_lload (dT U_X11_valueOf 23 rfl) rfl ?_
        refine x_l2i (dT U_X11_valueOf 24 rfl) ?_
        refine x_ireturn (dT U_X11_valueOf 25 rfl) rfl ?_
        exact k
      · exfalso; omega
    | succ n ih =>
      intro t hi_ 
      refine x_iload (dT U_X11_valueOf 6 rfl) rfl ?_
      refine x_if_lt (tgt := 37) (dT U_X11_valueOf 7 rfl) (by decide) (by unfold xr; omega) (fun c10 => ?_) (fun c10 => ?_)
      · exfalso; omega
      · skip
        have hq9 := horm_b (m := m) (f := gf al) (p := (p : Int)) (x := x) (by omega) t
        have hm9 := mulb hq9 hx (by omega)
        have h7 := hr (m - 1 - t)
        refine x_aload_n (dT U_X11_valueOf 8 rfl) rfl ?_
        refine x_lload (dT U_X11_valueOf 9 rfl) rfl ?_
        refine x_iload_n (dT U_X11_valueOf 10 rfl) rfl ?_
        refine x_i2l (dT U_X11_valueOf 11 rfl) (by unfold xr; omega) ?_
        refine x_lmul (dT U_X11_valueOf 12 rfl) ?_
        refine x_aload_n (dT U_X11_valueOf 13 rfl) rfl ?_
        refine x_iload (dT U_X11_valueOf 14 rfl) rfl ?_
        refine x_iaload (m - 1 - t) (dT U_X11_valueOf 15 rfl) ha a3 (by omega) (by omega) (by omega) ?_
        refine x_i2l (dT U_X11_valueOf 16 rfl) (by unfold xr; omega) ?_
        refine x_ladd (dT U_X11_valueOf 17 rfl) ?_
        refine x_invokevirtual (rc' := rc) (rs' := rs) (rc2 := 0) (rs2 := 0) (As := [_]) (st := _) M_X11_f K_X11_156 (dT U_X11_valueOf 18 rfl) rfl rfl (by decide) rfl rfl w70 (Nat.le_of_ble_eq_true rfl) (by decide) rfl (Nat.le_of_ble_eq_true rfl) rfl (by decide) (Nat.le_of_ble_eq_true rfl) rfl rfl ?_
        refine S_X11_f w hp5 (by unfold xrl; omega) ?_
        refine xRet_some ?_
        refine x_i2l (dT U_X11_valueOf 19 rfl) (by have := modb (z := horm m (gf al) (p : Int) x t * x + al.getD (m - 1 - t) 0) (p := (p : Int)) (by omega); unfold xr; omega) ?_
        refine x_lstore (ls' := [some (.ref _), some (.ref _), some (vi _), some (vi _), some (vl _), none, some (vi _)]) (dT U_X11_valueOf 20 rfl) (by decide) rfl ?_
        refine x_iinc (ls' := [some (.ref _), some (.ref _), some (vi _), some (vi _), some (vl _), none, some (vi _)]) (dT U_X11_valueOf 21 rfl) (by decide) rfl rfl ?_
        refine x_goto (tgt := 8) (dT U_X11_valueOf 22 rfl) (by decide) ?_
        have e : (m : Int) - 1 - (t : Int) + -1 = (m : Int) - 1 - ((t + 1 : Nat) : Int) := by omega
        rw [e]
        exact ih (t + 1) (by omega)
  refine x_lconst (z := 0) (dT U_X11_valueOf 0 rfl) rfl ?_
  refine x_lstore (ls' := [some (.ref _), some (.ref _), some (vi _), some (vi _), some (vl _), none, none]) (dT U_X11_valueOf 1 rfl) (by decide) rfl ?_
  refine x_iload_n (dT U_X11_valueOf 2 rfl) rfl ?_
  refine x_iconst (dT U_X11_valueOf 3 rfl) ?_
  refine x_isub (dT U_X11_valueOf 4 rfl) ?_
  refine x_istore (ls' := [some (.ref _), some (.ref _), some (vi _), some (vi _), some (vl _), none, some (vi _)]) (dT U_X11_valueOf 5 rfl) (by decide) rfl ?_
  have q := L m 0 (by omega)
  rw [show (m : Int) - 1 - ((0 : Nat) : Int) = (m : Int) - 1 by omega] at q
  exact q

set_option maxRecDepth 20000 in
set_option maxHeartbeats 1000000 in
theorem S_X11_areSame {G : xG} {d rc rs : Nat} {ex : Bool} {h : xH} {Q : xQ} {aa : Nat} {al : List Int}{ba : Nat} {bl : List Int} (ha : h[aa]? = some (cA 0 al)) (a3 : 3 ≤ aa) (la : al.length = 8) (hb : h[ba]? = some (cA 0 bl)) (b3 : 3 ≤ ba) (lb : bl.length = 8) (hr : ∀ j, xr (al.getD j 0) ∧ xr (bl.getD j 0)) (k1 : al = bl → Q (.inl (some (vi 1))) ex h) (k0 : ¬ al = bl → Q (.inl (some (vi 0))) ex h) : X G m_X11_areSame d rc rs ex 0 (xe m_X11_areSame.2.2.1 [.ref aa, .ref ba]) [] h Q := by
  show X G m_X11_areSame _ _ _ _ 0 [some (.ref aa), some (.ref ba), none] [] h Q
  have L : ∀ (n i : Nat), i + n = 8 → (∀ j, j < i → al.getD j 0 = bl.getD j 0) → X G m_X11_areSame d rc rs ex 2 [some (.ref aa), some (.ref ba), some (vi (i : Int))] [] h Q := by
    intro n
    induction n with
    | zero =>
      intro i hi_ hx
      refine x_iload_n (dT U_X11_areSame 2 rfl) rfl ?_
      refine x_bipush (dT U_X11_areSame 3 rfl) (by decide) ?_
      refine x_icmp_ge (tgt := 25) (dT U_X11_areSame 4 rfl) (by decide) (by unfold xr; omega) (by unfold xr at *; omega) (fun c5 => ?_) (fun c5 => ?_)
      · skip
        refine x_iconst (dT U_X11_areSame 16 rfl) ?_
        refine x_zreturn (dT U_X11_areSame 17 rfl) rfl (by omega) ?_
        exact k1 (list_ext (by omega) (fun j hj => hx j (by omega)))
      · exfalso; omega
    | succ n ih =>
      intro i hi_ hx
      refine x_iload_n (dT U_X11_areSame 2 rfl) rfl ?_
      refine x_bipush (dT U_X11_areSame 3 rfl) (by decide) ?_
      refine x_icmp_ge (tgt := 25) (dT U_X11_areSame 4 rfl) (by decide) (by unfold xr; omega) (by unfold xr at *; omega) (fun c5 => ?_) (fun c5 => ?_)
      · exfalso; omega
      · skip
        refine x_aload_n (dT U_X11_areSame 5 rfl) rfl ?_
        refine x_iload_n (dT U_X11_areSame 6 rfl) rfl ?_
        refine x_iaload (i) (dT U_X11_areSame 7 rfl) ha a3 rfl (by omega) (by omega) ?_
        refine x_aload_n (dT U_X11_areSame 8 rfl) rfl ?_
        refine x_iload_n (dT U_X11_areSame 9 rfl) rfl ?_
        refine x_iaload (i) (dT U_X11_areSame 10 rfl) hb b3 rfl (by omega) (by omega) ?_
        refine x_icmp_eq (tgt := 19) (dT U_X11_areSame 11 rfl) (by decide) (hr i).1 (hr i).2 (fun c14 => ?_) (fun c14 => ?_)
        · skip
          refine x_iinc (ls' := [some (.ref _), some (.ref _), some (vi _)]) (dT U_X11_areSame 14 rfl) (by decide) rfl rfl ?_
          refine x_goto (tgt := 2) (dT U_X11_areSame 15 rfl) (by decide) ?_
          refine ih (i + 1) (by omega) (fun j hj => ?_)
          by_cases e : j = i
          · rw [e]; exact c14
          · exact hx j (by omega)
        · skip
          refine x_iconst (dT U_X11_areSame 12 rfl) ?_
          refine x_zreturn (dT U_X11_areSame 13 rfl) rfl (by omega) ?_
          exact k0 (fun z => c14 (by rw [z]))
  refine x_iconst (dT U_X11_areSame 0 rfl) ?_
  refine x_istore_n (ls' := [some (.ref _), some (.ref _), some (vi _)]) (dT U_X11_areSame 1 rfl) (by decide) rfl ?_
  exact L 8 0 (by omega) (fun j hj => absurd hj (Nat.not_lt_zero j))

set_option maxRecDepth 20000 in
set_option maxHeartbeats 1000000 in
theorem S_X11_often {G : xG} {d rc rs : Nat} {ex : Bool} {h : xH} {Q : xQ} {z : Int} {aa : Nat} {al : List Int} (ha : h[aa]? = some (cA 0 al)) (a3 : 3 ≤ aa) (la : al.length = 8) (hr : ∀ j, xr (al.getD j 0)) (hz : xr z) (k : Q (.inl (some (vi (ct (fun j => gf al j = z) 8 : Int)))) ex h) : X G m_X11_often d rc rs ex 0 (xe m_X11_often.2.2.1 [.ref aa, vi z]) [] h Q := by
  show X G m_X11_often _ _ _ _ 0 [some (.ref aa), some (vi z), none, none] [] h Q
  have L : ∀ (n i : Nat), i + n = 8 → X G m_X11_often d rc rs ex 4 [some (.ref aa), some (vi z), some (vi (ct (fun j => gf al j = z) i : Int)), some (vi (i : Int))] [] h Q := by
    intro n
    induction n with
    | zero =>
      intro i hi_ 
      refine x_iload_n (dT U_X11_often 4 rfl) rfl ?_
      refine x_bipush (dT U_X11_often 5 rfl) (by decide) ?_
      refine x_icmp_ge (tgt := 31) (dT U_X11_often 6 rfl) (by decide) (by unfold xr; omega) (by unfold xr at *; omega) (fun c7 => ?_) (fun c7 => ?_)
      · skip
        have e : i = 8 := by omega
        subst e
        refine x_iload_n (dT U_X11_often 20 rfl) rfl ?_
        refine x_ireturn (dT U_X11_often 21 rfl) rfl ?_
        exact k
      · exfalso; omega
    | succ n ih =>
      intro i hi_ 
      refine x_iload_n (dT U_X11_often 4 rfl) rfl ?_
      refine x_bipush (dT U_X11_often 5 rfl) (by decide) ?_
      refine x_icmp_ge (tgt := 31) (dT U_X11_often 6 rfl) (by decide) (by unfold xr; omega) (by unfold xr at *; omega) (fun c7 => ?_) (fun c7 => ?_)
      · exfalso; omega
      · skip
        refine x_iload_n (dT U_X11_often 7 rfl) rfl ?_
        refine x_aload_n (dT U_X11_often 8 rfl) rfl ?_
        refine x_iload_n (dT U_X11_often 9 rfl) rfl ?_
        refine x_iaload (i) (dT U_X11_often 10 rfl) ha a3 rfl (by omega) (by omega) ?_
        refine x_iload_n (dT U_X11_often 11 rfl) rfl ?_
        refine x_icmp_ne (tgt := 22) (dT U_X11_often 12 rfl) (by decide) (hr i) hz (fun c15 => ?_) (fun c15 => ?_)
        · skip
          refine x_iconst (dT U_X11_often 15 rfl) ?_
          refine x_iadd (dT U_X11_often 16 rfl) ?_
          refine x_istore_n (ls' := [some (.ref _), some (vi _), some (vi _), some (vi _)]) (dT U_X11_often 17 rfl) (by decide) rfl ?_
          refine x_iinc (ls' := [some (.ref _), some (vi _), some (vi _), some (vi _)]) (dT U_X11_often 18 rfl) (by decide) rfl rfl ?_
          refine x_goto (tgt := 4) (dT U_X11_often 19 rfl) (by decide) ?_
          have q := ih (i + 1) (by omega)
          first | rw [ct_yes (P := (fun j => gf al j = z)) c15] at q | rw [ct_no (P := (fun j => gf al j = z)) c15] at q
          first | exact q | (rw [show (ct (fun j => gf al j = z) i : Int) + 0 = (ct (fun j => gf al j = z) i : Int) from Int.add_zero _]; exact q)
        · skip
          refine x_iconst (dT U_X11_often 13 rfl) ?_
          refine x_goto (tgt := 23) (dT U_X11_often 14 rfl) (by decide) ?_
          refine x_iadd (dT U_X11_often 16 rfl) ?_
          refine x_istore_n (ls' := [some (.ref _), some (vi _), some (vi _), some (vi _)]) (dT U_X11_often 17 rfl) (by decide) rfl ?_
          refine x_iinc (ls' := [some (.ref _), some (vi _), some (vi _), some (vi _)]) (dT U_X11_often 18 rfl) (by decide) rfl rfl ?_
          refine x_goto (tgt := 4) (dT U_X11_often 19 rfl) (by decide) ?_
          have q := ih (i + 1) (by omega)
          first | rw [ct_yes (P := (fun j => gf al j = z)) c15] at q | rw [ct_no (P := (fun j => gf al j = z)) c15] at q
          first | exact q | (rw [show (ct (fun j => gf al j = z) i : Int) + 0 = (ct (fun j => gf al j = z) i : Int) from Int.add_zero _]; exact q)
  refine x_iconst (dT U_X11_often 0 rfl) ?_
  refine x_istore_n (ls' := [some (.ref _), some (vi _), some (vi _), none]) (dT U_X11_often 1 rfl) (by decide) rfl ?_
  refine x_iconst (dT U_X11_often 2 rfl) ?_
  refine x_istore_n (ls' := [some (.ref _), some (vi _), some (vi _), some (vi _)]) (dT U_X11_often 3 rfl) (by decide) rfl ?_
  exact L 8 0 (by omega)

set_option maxRecDepth 20000 in
set_option maxHeartbeats 1000000 in
theorem S_X11_powered {G : xG} {d rc rs : Nat} {ex : Bool} {h : xH} {Q : xQ} {n0 t : Nat} (ht : t < 100) (k : Q (.inl (some (vi ((n0 ^ t : Nat) : Int)))) ex h) : X G m_X11_powered d rc rs ex 0 (xe m_X11_powered.2.2.1 [vi (n0 : Int), vi (t : Int)]) [] h Q := by
  show X G m_X11_powered _ _ _ _ 0 [some (vi (n0 : Int)), some (vi (t : Int)), none, none] [] h Q
  have L : ∀ (n i : Nat), i + n = t → X G m_X11_powered d rc rs ex 4 [some (vi (n0 : Int)), some (vi (t : Int)), some (vi (((n0 ^ i : Nat)) : Int)), some (vi (i : Int))] [] h Q := by
    intro n
    induction n with
    | zero =>
      intro i hi_ 
      refine x_iload_n (dT U_X11_powered 4 rfl) rfl ?_
      refine x_iload_n (dT U_X11_powered 5 rfl) rfl ?_
      refine x_icmp_ge (tgt := 19) (dT U_X11_powered 6 rfl) (by decide) (by unfold xr; omega) (by unfold xr; omega) (fun c6 => ?_) (fun c6 => ?_)
      · skip
        have e : i = t := by omega
        subst e
        refine x_iload_n (dT U_X11_powered 13 rfl) rfl ?_
        refine x_ireturn (dT U_X11_powered 14 rfl) rfl ?_
        exact k
      · exfalso; omega
    | succ n ih =>
      intro i hi_ 
      refine x_iload_n (dT U_X11_powered 4 rfl) rfl ?_
      refine x_iload_n (dT U_X11_powered 5 rfl) rfl ?_
      refine x_icmp_ge (tgt := 19) (dT U_X11_powered 6 rfl) (by decide) (by unfold xr; omega) (by unfold xr; omega) (fun c6 => ?_) (fun c6 => ?_)
      · exfalso; omega
      · skip
        refine x_iload_n (dT U_X11_powered 7 rfl) rfl ?_
        refine x_iload_n (dT U_X11_powered 8 rfl) rfl ?_
        refine x_imul (dT U_X11_powered 9 rfl) ?_
        refine x_istore_n (ls' := [some (vi _), some (vi _), some (vi _), some (vi _)]) (dT U_X11_powered 10 rfl) (by decide) rfl ?_
        refine x_iinc (ls' := [some (vi _), some (vi _), some (vi _), some (vi _)]) (dT U_X11_powered 11 rfl) (by decide) rfl rfl ?_
        refine x_goto (tgt := 4) (dT U_X11_powered 12 rfl) (by decide) ?_
        have q := ih (i + 1) (by omega)
        rw [Nat.pow_succ, Int.natCast_mul] at q
        exact q
  refine x_iconst (dT U_X11_powered 0 rfl) ?_
  refine x_istore_n (ls' := [some (vi _), some (vi _), some (vi _), none]) (dT U_X11_powered 1 rfl) (by decide) rfl ?_
  refine x_iconst (dT U_X11_powered 2 rfl) ?_
  refine x_istore_n (ls' := [some (vi _), some (vi _), some (vi _), some (vi _)]) (dT U_X11_powered 3 rfl) (by decide) rfl ?_
  exact L t 0 (by omega)
