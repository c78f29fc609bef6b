set_option maxRecDepth 20000 in
set_option maxHeartbeats 1000000 in
theorem S_X10_rowAt {G : xG} {d rc rs : Nat} {ex : Bool} {h : xH} {Q : xQ} {σ : St} {z : Int} (w : CW σ h) (v : INV σ) (hz : xr z) (e1 : ¬ inb z 8 → Q (.inr IOE) false h) (k : ∀ j : Nat, j < 8 → z = (j : Int) → Q (.inl (some (.ref (10 + j)))) ex h) : X G m_X10_rowAt (d + 6) (rc + 1) (rs + 6) ex 0 (xe m_X10_rowAt.2.2.1 [.ref 3, vi z]) [] h Q := by
  show X G m_X10_rowAt _ _ _ _ 0 [some (.ref 3), some (vi z)] [] h Q
  have hp := PRb v.p
  have hq := gq_b v.p
  refine x_iload_n (dT U_X10_rowAt 0 rfl) rfl ?_
  refine x_if_lt (tgt := 10) (dT U_X10_rowAt 1 rfl) (by decide) hz (fun c1 => ?_) (fun c1 => ?_)
  · skip
    refine x_throwW T_IO rfl (is := 598) (text := "there is no such row") (by decide) rfl (by omega) (Nat.le_of_ble_eq_true rfl) (by omega) (by omega) (dT U_X10_rowAt 5 rfl) (dT U_X10_rowAt 6 rfl) (dT U_X10_rowAt 7 rfl) (dT U_X10_rowAt 8 rfl) (dT U_X10_rowAt 9 rfl) ?_
    exact e1 (by omega)
  · skip
    refine x_iload_n (dT U_X10_rowAt 2 rfl) rfl ?_
    refine x_bipush (dT U_X10_rowAt 3 rfl) (by decide) ?_
    refine x_icmp_lt (tgt := 21) (dT U_X10_rowAt 4 rfl) (by decide) hz (by unfold xr; omega) (fun c7 => ?_) (fun c7 => ?_)
    · skip
      refine x_aload_n (dT U_X10_rowAt 10 rfl) rfl ?_
      refine x_getfield F_X10_27 (dT U_X10_rowAt 11 rfl) w.c3 (Nat.le_of_ble_eq_true rfl) rfl ?_
      refine x_iload_n (dT U_X10_rowAt 12 rfl) rfl ?_
      refine x_aaload (z.toNat) (dT U_X10_rowAt 13 rfl) w.c9 (Nat.le_of_ble_eq_true rfl) (by decide) (by omega) (rowsL_get (by omega)) (Nat.le_of_ble_eq_true rfl) ?_
      refine x_areturn (dT U_X10_rowAt 14 rfl) rfl (Or.inr ⟨_, rfl⟩) ?_
      exact k z.toNat (by omega) (by omega)
    · skip
      refine x_throwW T_IO rfl (is := 598) (text := "there is no such row") (by decide) rfl (by omega) (Nat.le_of_ble_eq_true rfl) (by omega) (by omega) (dT U_X10_rowAt 5 rfl) (dT U_X10_rowAt 6 rfl) (dT U_X10_rowAt 7 rfl) (dT U_X10_rowAt 8 rfl) (dT U_X10_rowAt 9 rfl) ?_
      exact e1 (by omega)

set_option maxRecDepth 20000 in
set_option maxHeartbeats 1000000 in
theorem S_X10_runAt {G : xG} {d rc rs : Nat} {ex : Bool} {h : xH} {Q : xQ} {σ : St} {z : Int} (w : CW σ h) (v : INV σ) (hz : xr z) (e1 : ¬ inb z 4 → Q (.inr IOE) false h) (k : ∀ j : Nat, j < 4 → z = (j : Int) → Q (.inl (some (.ref (22 + 4 * j)))) ex h) : X G m_X10_runAt (d + 6) (rc + 1) (rs + 6) ex 0 (xe m_X10_runAt.2.2.1 [.ref 3, vi z]) [] h Q := by
  show X G m_X10_runAt _ _ _ _ 0 [some (.ref 3), some (vi z)] [] h Q
  have hp := PRb v.p
  have hq := gq_b v.p
  refine x_iload_n (dT U_X10_runAt 0 rfl) rfl ?_
  refine x_if_lt (tgt := 9) (dT U_X10_runAt 1 rfl) (by decide) hz (fun c1 => ?_) (fun c1 => ?_)
  · skip
    refine x_throwW T_IO rfl (is := 600) (text := "there is no such run") (by decide) rfl (by omega) (Nat.le_of_ble_eq_true rfl) (by omega) (by omega) (dT U_X10_runAt 5 rfl) (dT U_X10_runAt 6 rfl) (dT U_X10_runAt 7 rfl) (dT U_X10_runAt 8 rfl) (dT U_X10_runAt 9 rfl) ?_
    exact e1 (by omega)
  · skip
    refine x_iload_n (dT U_X10_runAt 2 rfl) rfl ?_
    refine x_iconst (dT U_X10_runAt 3 rfl) ?_
    refine x_icmp_lt (tgt := 20) (dT U_X10_runAt 4 rfl) (by decide) hz (by unfold xr; omega) (fun c6 => ?_) (fun c6 => ?_)
    · skip
      refine x_aload_n (dT U_X10_runAt 10 rfl) rfl ?_
      refine x_getfield F_X10_39 (dT U_X10_runAt 11 rfl) w.c3 (Nat.le_of_ble_eq_true rfl) rfl ?_
      refine x_iload_n (dT U_X10_runAt 12 rfl) rfl ?_
      refine x_aaload (z.toNat) (dT U_X10_runAt 13 rfl) w.c21 (Nat.le_of_ble_eq_true rfl) (by decide) (by omega) (runsL_get (by omega)) (Nat.le_of_ble_eq_true rfl) ?_
      refine x_areturn (dT U_X10_runAt 14 rfl) rfl (Or.inl ⟨_, rfl⟩) ?_
      exact k z.toNat (by omega) (by omega)
    · skip
      refine x_throwW T_IO rfl (is := 600) (text := "there is no such run") (by decide) rfl (by omega) (Nat.le_of_ble_eq_true rfl) (by omega) (by omega) (dT U_X10_runAt 5 rfl) (dT U_X10_runAt 6 rfl) (dT U_X10_runAt 7 rfl) (dT U_X10_runAt 8 rfl) (dT U_X10_runAt 9 rfl) ?_
      exact e1 (by omega)

set_option maxRecDepth 20000 in
set_option maxHeartbeats 1000000 in
theorem S_X10_pairAt {G : xG} {d rc rs : Nat} {ex : Bool} {h : xH} {Q : xQ} {σ : St} {z : Int} (w : CW σ h) (v : INV σ) (hz : xr z) (e1 : ¬ inb z 2 → Q (.inr IOE) false h) (k : ∀ j : Nat, j < 2 → z = (j : Int) → Q (.inl (some (.ref (39 + 4 * j)))) ex h) : X G m_X10_pairAt (d + 6) (rc + 1) (rs + 6) ex 0 (xe m_X10_pairAt.2.2.1 [.ref 3, vi z]) [] h Q := by
  show X G m_X10_pairAt _ _ _ _ 0 [some (.ref 3), some (vi z)] [] h Q
  have hp := PRb v.p
  have hq := gq_b v.p
  refine x_iload_n (dT U_X10_pairAt 0 rfl) rfl ?_
  refine x_if_lt (tgt := 9) (dT U_X10_pairAt 1 rfl) (by decide) hz (fun c1 => ?_) (fun c1 => ?_)
  · skip
    refine x_throwW T_IO rfl (is := 602) (text := "there is no such pair") (by decide) rfl (by omega) (Nat.le_of_ble_eq_true rfl) (by omega) (by omega) (dT U_X10_pairAt 5 rfl) (dT U_X10_pairAt 6 rfl) (dT U_X10_pairAt 7 rfl) (dT U_X10_pairAt 8 rfl) (dT U_X10_pairAt 9 rfl) ?_
    exact e1 (by omega)
  · skip
    refine x_iload_n (dT U_X10_pairAt 2 rfl) rfl ?_
    refine x_iconst (dT U_X10_pairAt 3 rfl) ?_
    refine x_icmp_lt (tgt := 20) (dT U_X10_pairAt 4 rfl) (by decide) hz (by unfold xr; omega) (fun c6 => ?_) (fun c6 => ?_)
    · skip
      refine x_aload_n (dT U_X10_pairAt 10 rfl) rfl ?_
      refine x_getfield F_X10_48 (dT U_X10_pairAt 11 rfl) w.c3 (Nat.le_of_ble_eq_true rfl) rfl ?_
      refine x_iload_n (dT U_X10_pairAt 12 rfl) rfl ?_
      refine x_aaload (z.toNat) (dT U_X10_pairAt 13 rfl) w.c38 (Nat.le_of_ble_eq_true rfl) (by decide) (by omega) (pairsL_get (by omega)) (Nat.le_of_ble_eq_true rfl) ?_
      refine x_areturn (dT U_X10_pairAt 14 rfl) rfl (Or.inl ⟨_, rfl⟩) ?_
      exact k z.toNat (by omega) (by omega)
    · skip
      refine x_throwW T_IO rfl (is := 602) (text := "there is no such pair") (by decide) rfl (by omega) (Nat.le_of_ble_eq_true rfl) (by omega) (by omega) (dT U_X10_pairAt 5 rfl) (dT U_X10_pairAt 6 rfl) (dT U_X10_pairAt 7 rfl) (dT U_X10_pairAt 8 rfl) (dT U_X10_pairAt 9 rfl) ?_
      exact e1 (by omega)

set_option maxRecDepth 20000 in
set_option maxHeartbeats 1000000 in
theorem S_X10_needPlace {G : xG} {d rc rs : Nat} {ex : Bool} {h : xH} {Q : xQ} {σ : St} {z : Int} (v : INV σ) (hz : xr z) (e1 : ¬ inb z 8 → Q (.inr IOE) false h) (k : ∀ j : Nat, j < 8 → z = (j : Int) → Q (.inl none) ex h) : X G m_X10_needPlace (d + 6) (rc + 1) (rs + 6) ex 0 (xe m_X10_needPlace.2.2.1 [vi z]) [] h Q := by
  show X G m_X10_needPlace _ _ _ _ 0 [some (vi z)] [] h Q
  have hp := PRb v.p
  have hq := gq_b v.p
  refine x_iload_n (dT U_X10_needPlace 0 rfl) rfl ?_
  refine x_if_lt (tgt := 10) (dT U_X10_needPlace 1 rfl) (by decide) hz (fun c1 => ?_) (fun c1 => ?_)
  · skip
    refine x_throwW T_IO rfl (is := 604) (text := "there is no such place") (by decide) rfl (by omega) (Nat.le_of_ble_eq_true rfl) (by omega) (by omega) (dT U_X10_needPlace 5 rfl) (dT U_X10_needPlace 6 rfl) (dT U_X10_needPlace 7 rfl) (dT U_X10_needPlace 8 rfl) (dT U_X10_needPlace 9 rfl) ?_
    exact e1 (by omega)
  · skip
    refine x_iload_n (dT U_X10_needPlace 2 rfl) rfl ?_
    refine x_bipush (dT U_X10_needPlace 3 rfl) (by decide) ?_
    refine x_icmp_lt (tgt := 21) (dT U_X10_needPlace 4 rfl) (by decide) hz (by unfold xr; omega) (fun c7 => ?_) (fun c7 => ?_)
    · skip
      refine x_return (dT U_X10_needPlace 10 rfl) rfl ?_
      exact k z.toNat (by omega) (by omega)
    · skip
      refine x_throwW T_IO rfl (is := 604) (text := "there is no such place") (by decide) rfl (by omega) (Nat.le_of_ble_eq_true rfl) (by omega) (by omega) (dT U_X10_needPlace 5 rfl) (dT U_X10_needPlace 6 rfl) (dT U_X10_needPlace 7 rfl) (dT U_X10_needPlace 8 rfl) (dT U_X10_needPlace 9 rfl) ?_
      exact e1 (by omega)

set_option maxRecDepth 20000 in
set_option maxHeartbeats 1000000 in
theorem S_X10_needSeal {G : xG} {d rc rs : Nat} {ex : Bool} {h : xH} {Q : xQ} {σ : St} {z : Int} (v : INV σ) (hz : xr z) (e1 : ¬ inb z 251 → Q (.inr IAE) false h) (k : inb z 251 → Q (.inl none) ex h) : X G m_X10_needSeal (d + 6) (rc + 1) (rs + 6) ex 0 (xe m_X10_needSeal.2.2.1 [vi z]) [] h Q := by
  show X G m_X10_needSeal _ _ _ _ 0 [some (vi z)] [] h Q
  have hp := PRb v.p
  have hq := gq_b v.p
  refine x_iload_n (dT U_X10_needSeal 0 rfl) rfl ?_
  refine x_if_lt (tgt := 11) (dT U_X10_needSeal 1 rfl) (by decide) hz (fun c1 => ?_) (fun c1 => ?_)
  · skip
    refine x_throwW T_IA rfl (is := 613) (text := "it is no seal") (by decide) rfl (by omega) (Nat.le_of_ble_eq_true rfl) (by omega) (by omega) (dT U_X10_needSeal 5 rfl) (dT U_X10_needSeal 6 rfl) (dT U_X10_needSeal 7 rfl) (dT U_X10_needSeal 8 rfl) (dT U_X10_needSeal 9 rfl) ?_
    exact e1 (by omega)
  · skip
    refine x_iload_n (dT U_X10_needSeal 2 rfl) rfl ?_
    refine x_sipush (dT U_X10_needSeal 3 rfl) (by decide) ?_
    refine x_icmp_lt (tgt := 22) (dT U_X10_needSeal 4 rfl) (by decide) hz (by unfold xr; omega) (fun c8 => ?_) (fun c8 => ?_)
    · skip
      refine x_return (dT U_X10_needSeal 10 rfl) rfl ?_
      exact k (by omega)
    · skip
      refine x_throwW T_IA rfl (is := 613) (text := "it is no seal") (by decide) rfl (by omega) (Nat.le_of_ble_eq_true rfl) (by omega) (by omega) (dT U_X10_needSeal 5 rfl) (dT U_X10_needSeal 6 rfl) (dT U_X10_needSeal 7 rfl) (dT U_X10_needSeal 8 rfl) (dT U_X10_needSeal 9 rfl) ?_
      exact e1 (by omega)

set_option maxRecDepth 20000 in
set_option maxHeartbeats 1000000 in
theorem S_X10_needBit {G : xG} {d rc rs : Nat} {ex : Bool} {h : xH} {Q : xQ} {σ : St} {z : Int} (v : INV σ) (hz : xr z) (e1 : ¬ inb z 2 → Q (.inr IAE) false h) (k : inb z 2 → Q (.inl none) ex h) : X G m_X10_needBit (d + 6) (rc + 1) (rs + 6) ex 0 (xe m_X10_needBit.2.2.1 [vi z]) [] h Q := by
  show X G m_X10_needBit _ _ _ _ 0 [some (vi z)] [] h Q
  have hp := PRb v.p
  have hq := gq_b v.p
  refine x_iload_n (dT U_X10_needBit 0 rfl) rfl ?_
  refine x_if_eq (tgt := 20) (dT U_X10_needBit 1 rfl) (by decide) hz (fun c1 => ?_) (fun c1 => ?_)
  · skip
    refine x_return (dT U_X10_needBit 10 rfl) rfl ?_
    exact k (by omega)
  · skip
    refine x_iload_n (dT U_X10_needBit 2 rfl) rfl ?_
    refine x_iconst (dT U_X10_needBit 3 rfl) ?_
    refine x_icmp_eq (tgt := 20) (dT U_X10_needBit 4 rfl) (by decide) hz (by unfold xr; omega) (fun c6 => ?_) (fun c6 => ?_)
    · skip
      refine x_return (dT U_X10_needBit 10 rfl) rfl ?_
      exact k (by omega)
    · skip
      refine x_throwW T_IA rfl (is := 615) (text := "it is neither 0 nor 1") (by decide) rfl (by omega) (Nat.le_of_ble_eq_true rfl) (by omega) (by omega) (dT U_X10_needBit 5 rfl) (dT U_X10_needBit 6 rfl) (dT U_X10_needBit 7 rfl) (dT U_X10_needBit 8 rfl) (dT U_X10_needBit 9 rfl) ?_
      exact e1 (by omega)

set_option maxRecDepth 20000 in
set_option maxHeartbeats 1000000 in
theorem S_X10_needNumber {G : xG} {d rc rs : Nat} {ex : Bool} {h : xH} {Q : xQ} {σ : St} {z : Int} (w : CW σ h) (v : INV σ) (hz : xr z) (e1 : ¬ inb z σ.p → Q (.inr IAE) false h) (k : inb z σ.p → Q (.inl none) ex h) : X G m_X10_needNumber (d + 6) (rc + 1) (rs + 6) ex 0 (xe m_X10_needNumber.2.2.1 [.ref 3, vi z]) [] h Q := by
  show X G m_X10_needNumber _ _ _ _ 0 [some (.ref 3), some (vi z)] [] h Q
  have hp := PRb v.p
  have hq := gq_b v.p
  refine x_aload_n (dT U_X10_needNumber 0 rfl) rfl ?_
  refine x_getfield F_X10_10 (dT U_X10_needNumber 1 rfl) w.c3 (Nat.le_of_ble_eq_true rfl) rfl ?_
  refine x_iload_n (dT U_X10_needNumber 2 rfl) rfl ?_
  refine x_invokevirtual (rc' := rc + 1) (rs' := rs + 6) (rc2 := 0) (rs2 := 0) (As := [_]) (st := _) M_X1_has K_X10_606 (dT U_X10_needNumber 3 rfl) rfl rfl (by decide) rfl rfl w.gw.1 (Nat.le_of_ble_eq_true rfl) (by decide) rfl (Nat.le_of_ble_eq_true rfl) rfl (by decide) (Nat.le_of_ble_eq_true rfl) rfl rfl ?_
  refine S_X1_has w.gw.1 hp hz (fun q1 => ?_) (fun q0 => ?_)
  · refine xRet_some ?_
    refine x_if_ne (tgt := 22) (dT U_X10_needNumber 4 rfl) (by decide) (by unfold xr at *; omega) (fun c8 => ?_) (fun c8 => ?_)
    · skip
      refine x_return (dT U_X10_needNumber 10 rfl) rfl ?_
      exact k q1
    · exfalso; omega
  · refine xRet_some ?_
    refine x_if_ne (tgt := 22) (dT U_X10_needNumber 4 rfl) (by decide) (by unfold xr at *; omega) (fun c8 => ?_) (fun c8 => ?_)
    · exfalso; omega
    · skip
      refine x_throwW T_IA rfl (is := 609) (text := "it is no number of the field") (by decide) rfl (by omega) (Nat.le_of_ble_eq_true rfl) (by omega) (by omega) (dT U_X10_needNumber 5 rfl) (dT U_X10_needNumber 6 rfl) (dT U_X10_needNumber 7 rfl) (dT U_X10_needNumber 8 rfl) (dT U_X10_needNumber 9 rfl) ?_
      exact e1 q0

set_option maxRecDepth 20000 in
set_option maxHeartbeats 1000000 in
theorem S_X10_needMember {G : xG} {d rc rs : Nat} {ex : Bool} {h : xH} {Q : xQ} {σ : St} {z : Int} (w : CW σ h) (v : INV σ) (hz : xr z) (e1 : exI σ.p z = -1 → Q (.inr IAE) false h) (k : ∀ e : Int, inb e σ.p → z = MM σ.p e → exI σ.p z = e → Q (.inl none) ex h) : X G m_X10_needMember (d + 6) (rc + 1) (rs + 6) ex 0 (xe m_X10_needMember.2.2.1 [.ref 3, vi z]) [] h Q := by
  show X G m_X10_needMember _ _ _ _ 0 [some (.ref 3), some (vi z)] [] h Q
  have hp := PRb v.p
  have hq := gq_b v.p
  refine x_aload_n (dT U_X10_needMember 0 rfl) rfl ?_
  refine x_getfield F_X10_21 (dT U_X10_needMember 1 rfl) w.c3 (Nat.le_of_ble_eq_true rfl) rfl ?_
  refine x_iload_n (dT U_X10_needMember 2 rfl) rfl ?_
  refine x_invokevirtual (rc' := rc + 1) (rs' := rs + 6) (rc2 := 0) (rs2 := 0) (As := [_]) (st := _) M_X3_exponentOf K_X10_223 (dT U_X10_needMember 3 rfl) rfl rfl (by decide) rfl rfl w.gw.2.1 (Nat.le_of_ble_eq_true rfl) (by decide) rfl (Nat.le_of_ble_eq_true rfl) rfl (by decide) (Nat.le_of_ble_eq_true rfl) rfl rfl ?_
  refine S_X3_exponentOf w.gw v.p hz ?_
  have eb := exI_b σ.p z
  refine xRet_some ?_
  refine x_iconst (dT U_X10_needMember 4 rfl) ?_
  refine x_icmp_ne (tgt := 23) (dT U_X10_needMember 5 rfl) (by decide) (by unfold xr; omega) (by unfold xr; omega) (fun c9 => ?_) (fun c9 => ?_)
  · skip
    refine x_return (dT U_X10_needMember 11 rfl) rfl ?_
    have es := exI_some (p := σ.p) (y := z) (by omega)
    exact k _ ⟨es.1, es.2.1⟩ es.2.2.symm rfl
  · skip
    refine x_throwW T_IA rfl (is := 611) (text := "it is no member of the group") (by decide) rfl (by omega) (Nat.le_of_ble_eq_true rfl) (by omega) (by omega) (dT U_X10_needMember 6 rfl) (dT U_X10_needMember 7 rfl) (dT U_X10_needMember 8 rfl) (dT U_X10_needMember 9 rfl) (dT U_X10_needMember 10 rfl) ?_
    exact e1 (by omega)

set_option maxRecDepth 20000 in
set_option maxHeartbeats 1000000 in
theorem S_X10_needWay {G : xG} {d rc rs : Nat} {ex : Bool} {h : xH} {Q : xQ} {σ : St} {z a b c : Int} (w : CW σ h) (v : INV σ) (hz : xr z) (ha : xr a) (hb : xr b) (hc : xr c) (e1 : ¬ (inb z σ.p ∧ inb a 251 ∧ inb b 251 ∧ inb c 251) → Q (.inr IAE) false h) (k : inb z σ.p → inb a 251 → inb b 251 → inb c 251 → Q (.inl none) ex h) : X G m_X10_needWay (d + 7) (rc + 4) (rs + 24) ex 0 (xe m_X10_needWay.2.2.1 [.ref 3, vi z, vi a, vi b, vi c]) [] h Q := by
  show X G m_X10_needWay _ _ _ _ 0 [some (.ref 3), some (vi z), some (vi a), some (vi b), some (vi c)] [] h Q
  have hp := PRb v.p
  have hq := gq_b v.p
  refine x_aload_n (dT U_X10_needWay 0 rfl) rfl ?_
  refine x_iload_n (dT U_X10_needWay 1 rfl) rfl ?_
  refine x_invokevirtual (rc' := rc + 3) (rs' := rs + 18) (rc2 := 1) (rs2 := 6) (As := [_]) (st := _) M_X10_needNumber K_X10_147 (dT U_X10_needWay 2 rfl) rfl rfl (by decide) rfl rfl w.c3 (Nat.le_of_ble_eq_true rfl) (by decide) rfl (Nat.le_of_ble_eq_true rfl) rfl (by decide) (Nat.le_of_ble_eq_true rfl) rfl rfl ?_
  refine S_X10_needNumber w v hz (fun q => xRet_thr (e1 (fun y => q y.1))) (fun q1 => ?_)
  refine xRet_none ?_
  refine x_iload_n (dT U_X10_needWay 3 rfl) rfl ?_
  refine x_invokestatic (rc' := rc + 2) (rs' := rs + 12) (rc2 := 1) (rs2 := 6) (As := [_]) (st := _) M_X10_needSeal K_X10_242 (dT U_X10_needWay 4 rfl) rfl rfl rfl rfl (Nat.le_of_ble_eq_true rfl) rfl (by decide) (Nat.le_of_ble_eq_true rfl) rfl rfl ?_
  refine S_X10_needSeal v ha (fun q => xRet_thr (e1 (fun y => q y.2.1))) (fun q2 => ?_)
  refine xRet_none ?_
  refine x_iload_n (dT U_X10_needWay 5 rfl) rfl ?_
  refine x_invokestatic (rc' := rc + 1) (rs' := rs + 6) (rc2 := 1) (rs2 := 6) (As := [_]) (st := _) M_X10_needSeal K_X10_242 (dT U_X10_needWay 6 rfl) rfl rfl rfl rfl (Nat.le_of_ble_eq_true rfl) rfl (by decide) (Nat.le_of_ble_eq_true rfl) rfl rfl ?_
  refine S_X10_needSeal v hb (fun q => xRet_thr (e1 (fun y => q y.2.2.1))) (fun q3 => ?_)
  refine xRet_none ?_
  refine x_iload (dT U_X10_needWay 7 rfl) rfl ?_
  refine x_invokestatic (rc' := rc) (rs' := rs) (rc2 := 1) (rs2 := 6) (As := [_]) (st := _) M_X10_needSeal K_X10_242 (dT U_X10_needWay 8 rfl) rfl rfl rfl rfl (Nat.le_of_ble_eq_true rfl) rfl (by decide) (Nat.le_of_ble_eq_true rfl) rfl rfl ?_
  refine S_X10_needSeal v hc (fun q => xRet_thr (e1 (fun y => q y.2.2.2))) (fun q4 => ?_)
  refine xRet_none ?_
  refine x_return (dT U_X10_needWay 9 rfl) rfl ?_
  exact k q1 q2 q3 q4

set_option maxRecDepth 20000 in
set_option maxHeartbeats 1000000 in
theorem S_X10_needStatement {G : xG} {d rc rs : Nat} {ex : Bool} {h : xH} {Q : xQ} {σ : St} {i : Nat} (w : CW σ h) (v : INV σ) (hi : i < 4) (e1 : ¬ 1 ≤ (σ.R i).st → Q (.inr ISE) false h) (k : 1 ≤ (σ.R i).st → Q (.inl none) ex h) : X G m_X10_needStatement (d + 6) (rc + 1) (rs + 6) ex 0 (xe m_X10_needStatement.2.2.1 [.ref (22 + 4 * i)]) [] h Q := by
  show X G m_X10_needStatement _ _ _ _ 0 [some (.ref (22 + 4 * i))] [] h Q
  have hp := PRb v.p
  have hq := gq_b v.p
  have hr := w.runs i hi
  have ok := (v.R i hi).1
  have hR : h[22 + 4 * i]? = some (cO 7 [.ref 5, .ref 4, .ref (22 + 4 * i + 1), .ref (22 + 4 * i + 2), .ref (22 + 4 * i + 3), vi ((σ.R i).y σ.p), vi (σ.R i).vv, vi ((σ.R i).a σ.p), vi (σ.R i).ww, vi (σ.R i).cc, vi (σ.R i).tt, vi (σ.R i).mm, vi (σ.R i).rr]) := hr.2.1
  have s4 := ok.s4
  refine x_aload_n (dT U_X10_needStatement 0 rfl) rfl ?_
  refine x_invokevirtual (rc' := rc + 1) (rs' := rs + 6) (rc2 := 0) (rs2 := 0) (As := []) (st := _) M_X7_hasStatement K_X10_617 (dT U_X10_needStatement 1 rfl) rfl rfl (by decide) rfl rfl hR (by omega) (by decide) rfl (Nat.le_of_ble_eq_true rfl) rfl (by decide) (Nat.le_of_ble_eq_true rfl) rfl rfl ?_
  refine S_X7_hasStatement v.p hr ok w.gw (fun s1 => ?_) (fun s0 => ?_)
  · refine xRet_some ?_
    refine x_if_ne (tgt := 18) (dT U_X10_needStatement 2 rfl) (by decide) (by unfold xr at *; omega) (fun c4 => ?_) (fun c4 => ?_)
    · skip
      refine x_return (dT U_X10_needStatement 8 rfl) rfl ?_
      exact k s1
    · exfalso; omega
  · refine xRet_some ?_
    refine x_if_ne (tgt := 18) (dT U_X10_needStatement 2 rfl) (by decide) (by unfold xr at *; omega) (fun c4 => ?_) (fun c4 => ?_)
    · exfalso; omega
    · skip
      refine x_throwW T_IS rfl (is := 620) (text := "the run has no statement") (by decide) rfl (by omega) (Nat.le_of_ble_eq_true rfl) (by omega) (by omega) (dT U_X10_needStatement 3 rfl) (dT U_X10_needStatement 4 rfl) (dT U_X10_needStatement 5 rfl) (dT U_X10_needStatement 6 rfl) (dT U_X10_needStatement 7 rfl) ?_
      exact e1 s0

set_option maxRecDepth 20000 in
set_option maxHeartbeats 1000000 in
theorem S_X10_needBare {G : xG} {d rc rs : Nat} {ex : Bool} {h : xH} {Q : xQ} {σ : St} {i : Nat} (w : CW σ h) (v : INV σ) (hi : i < 4) (e1 : ¬ (σ.R i).st = 1 → Q (.inr ISE) false h) (k : (σ.R i).st = 1 → Q (.inl none) ex h) : X G m_X10_needBare (d + 6) (rc + 1) (rs + 6) ex 0 (xe m_X10_needBare.2.2.1 [.ref (22 + 4 * i)]) [] h Q := by
  show X G m_X10_needBare _ _ _ _ 0 [some (.ref (22 + 4 * i))] [] h Q
  have hp := PRb v.p
  have hq := gq_b v.p
  have hr := w.runs i hi
  have ok := (v.R i hi).1
  have hR : h[22 + 4 * i]? = some (cO 7 [.ref 5, .ref 4, .ref (22 + 4 * i + 1), .ref (22 + 4 * i + 2), .ref (22 + 4 * i + 3), vi ((σ.R i).y σ.p), vi (σ.R i).vv, vi ((σ.R i).a σ.p), vi (σ.R i).ww, vi (σ.R i).cc, vi (σ.R i).tt, vi (σ.R i).mm, vi (σ.R i).rr]) := hr.2.1
  have s4 := ok.s4
  refine x_aload_n (dT U_X10_needBare 0 rfl) rfl ?_
  refine x_invokevirtual (rc' := rc + 1) (rs' := rs + 6) (rc2 := 0) (rs2 := 0) (As := []) (st := _) M_X7_hasStatement K_X10_617 (dT U_X10_needBare 1 rfl) rfl rfl (by decide) rfl rfl hR (by omega) (by decide) rfl (Nat.le_of_ble_eq_true rfl) rfl (by decide) (Nat.le_of_ble_eq_true rfl) rfl rfl ?_
  refine S_X7_hasStatement v.p hr ok w.gw (fun s1 => ?_) (fun s0 => ?_)
  · refine xRet_some ?_
    refine x_if_eq (tgt := 14) (dT U_X10_needBare 2 rfl) (by decide) (by unfold xr at *; omega) (fun c4 => ?_) (fun c4 => ?_)
    · exfalso; omega
    · skip
      refine x_aload_n (dT U_X10_needBare 3 rfl) rfl ?_
      refine x_invokevirtual (rc' := rc + 1) (rs' := rs + 6) (rc2 := 0) (rs2 := 0) (As := []) (st := _) M_X7_hasFirst K_X10_353 (dT U_X10_needBare 4 rfl) rfl rfl (by decide) rfl rfl hR (by omega) (by decide) rfl (Nat.le_of_ble_eq_true rfl) rfl (by decide) (Nat.le_of_ble_eq_true rfl) rfl rfl ?_
      refine S_X7_hasFirst v.p hr ok w.gw (fun t1 => ?_) (fun t0 => ?_)
      · refine xRet_some ?_
        refine x_if_eq (tgt := 25) (dT U_X10_needBare 5 rfl) (by decide) (by unfold xr at *; omega) (fun c11 => ?_) (fun c11 => ?_)
        · exfalso; omega
        · skip
          refine x_throwW T_IS rfl (is := 622) (text := "the run has no statement, or has a first message") (by decide) rfl (by omega) (Nat.le_of_ble_eq_true rfl) (by omega) (by omega) (dT U_X10_needBare 6 rfl) (dT U_X10_needBare 7 rfl) (dT U_X10_needBare 8 rfl) (dT U_X10_needBare 9 rfl) (dT U_X10_needBare 10 rfl) ?_
          exact e1 (by omega)
      · refine xRet_some ?_
        refine x_if_eq (tgt := 25) (dT U_X10_needBare 5 rfl) (by decide) (by unfold xr at *; omega) (fun c11 => ?_) (fun c11 => ?_)
        · skip
          refine x_return (dT U_X10_needBare 11 rfl) rfl ?_
          exact k (by omega)
        · exfalso; omega
  · refine xRet_some ?_
    refine x_if_eq (tgt := 14) (dT U_X10_needBare 2 rfl) (by decide) (by unfold xr at *; omega) (fun c4 => ?_) (fun c4 => ?_)
    · skip
      refine x_throwW T_IS rfl (is := 622) (text := "the run has no statement, or has a first message") (by decide) rfl (by omega) (Nat.le_of_ble_eq_true rfl) (by omega) (by omega) (dT U_X10_needBare 6 rfl) (dT U_X10_needBare 7 rfl) (dT U_X10_needBare 8 rfl) (dT U_X10_needBare 9 rfl) (dT U_X10_needBare 10 rfl) ?_
      exact e1 (by omega)
    · exfalso; omega

set_option maxRecDepth 20000 in
set_option maxHeartbeats 1000000 in
theorem S_X10_needUnchallenged {G : xG} {d rc rs : Nat} {ex : Bool} {h : xH} {Q : xQ} {σ : St} {i : Nat} (w : CW σ h) (v : INV σ) (hi : i < 4) (e1 : ¬ (σ.R i).st = 2 → Q (.inr ISE) false h) (k : (σ.R i).st = 2 → Q (.inl none) ex h) : X G m_X10_needUnchallenged (d + 6) (rc + 1) (rs + 6) ex 0 (xe m_X10_needUnchallenged.2.2.1 [.ref (22 + 4 * i)]) [] h Q := by
  show X G m_X10_needUnchallenged _ _ _ _ 0 [some (.ref (22 + 4 * i))] [] h Q
  have hp := PRb v.p
  have hq := gq_b v.p
  have hr := w.runs i hi
  have ok := (v.R i hi).1
  have hR : h[22 + 4 * i]? = some (cO 7 [.ref 5, .ref 4, .ref (22 + 4 * i + 1), .ref (22 + 4 * i + 2), .ref (22 + 4 * i + 3), vi ((σ.R i).y σ.p), vi (σ.R i).vv, vi ((σ.R i).a σ.p), vi (σ.R i).ww, vi (σ.R i).cc, vi (σ.R i).tt, vi (σ.R i).mm, vi (σ.R i).rr]) := hr.2.1
  have s4 := ok.s4
  refine x_aload_n (dT U_X10_needUnchallenged 0 rfl) rfl ?_
  refine x_invokevirtual (rc' := rc + 1) (rs' := rs + 6) (rc2 := 0) (rs2 := 0) (As := []) (st := _) M_X7_hasFirst K_X10_353 (dT U_X10_needUnchallenged 1 rfl) rfl rfl (by decide) rfl rfl hR (by omega) (by decide) rfl (Nat.le_of_ble_eq_true rfl) rfl (by decide) (Nat.le_of_ble_eq_true rfl) rfl rfl ?_
  refine S_X7_hasFirst v.p hr ok w.gw (fun s1 => ?_) (fun s0 => ?_)
  · refine xRet_some ?_
    refine x_if_eq (tgt := 14) (dT U_X10_needUnchallenged 2 rfl) (by decide) (by unfold xr at *; omega) (fun c4 => ?_) (fun c4 => ?_)
    · exfalso; omega
    · skip
      refine x_aload_n (dT U_X10_needUnchallenged 3 rfl) rfl ?_
      refine x_invokevirtual (rc' := rc + 1) (rs' := rs + 6) (rc2 := 0) (rs2 := 0) (As := []) (st := _) M_X7_hasChallenge K_X10_624 (dT U_X10_needUnchallenged 4 rfl) rfl rfl (by decide) rfl rfl hR (by omega) (by decide) rfl (Nat.le_of_ble_eq_true rfl) rfl (by decide) (Nat.le_of_ble_eq_true rfl) rfl rfl ?_
      refine S_X7_hasChallenge v.p hr ok w.gw (fun t1 => ?_) (fun t0 => ?_)
      · refine xRet_some ?_
        refine x_if_eq (tgt := 25) (dT U_X10_needUnchallenged 5 rfl) (by decide) (by unfold xr at *; omega) (fun c11 => ?_) (fun c11 => ?_)
        · exfalso; omega
        · skip
          refine x_throwW T_IS rfl (is := 625) (text := "the run has no first message, or has a challenge") (by decide) rfl (by omega) (Nat.le_of_ble_eq_true rfl) (by omega) (by omega) (dT U_X10_needUnchallenged 6 rfl) (dT U_X10_needUnchallenged 7 rfl) (dT U_X10_needUnchallenged 8 rfl) (dT U_X10_needUnchallenged 9 rfl) (dT U_X10_needUnchallenged 10 rfl) ?_
          exact e1 (by omega)
      · refine xRet_some ?_
        refine x_if_eq (tgt := 25) (dT U_X10_needUnchallenged 5 rfl) (by decide) (by unfold xr at *; omega) (fun c11 => ?_) (fun c11 => ?_)
        · skip
          refine x_return (dT U_X10_needUnchallenged 11 rfl) rfl ?_
          exact k (by omega)
        · exfalso; omega
  · refine xRet_some ?_
    refine x_if_eq (tgt := 14) (dT U_X10_needUnchallenged 2 rfl) (by decide) (by unfold xr at *; omega) (fun c4 => ?_) (fun c4 => ?_)
    · skip
      refine x_throwW T_IS rfl (is := 625) (text := "the run has no first message, or has a challenge") (by decide) rfl (by omega) (Nat.le_of_ble_eq_true rfl) (by omega) (by omega) (dT U_X10_needUnchallenged 6 rfl) (dT U_X10_needUnchallenged 7 rfl) (dT U_X10_needUnchallenged 8 rfl) (dT U_X10_needUnchallenged 9 rfl) (dT U_X10_needUnchallenged 10 rfl) ?_
      exact e1 (by omega)
    · exfalso; omega

set_option maxRecDepth 20000 in
set_option maxHeartbeats 1000000 in
theorem S_X10_needUnanswered {G : xG} {d rc rs : Nat} {ex : Bool} {h : xH} {Q : xQ} {σ : St} {i : Nat} (w : CW σ h) (v : INV σ) (hi : i < 4) (e1 : ¬ (σ.R i).st = 3 → Q (.inr ISE) false h) (k : (σ.R i).st = 3 → Q (.inl none) ex h) : X G m_X10_needUnanswered (d + 6) (rc + 1) (rs + 6) ex 0 (xe m_X10_needUnanswered.2.2.1 [.ref (22 + 4 * i)]) [] h Q := by
  show X G m_X10_needUnanswered _ _ _ _ 0 [some (.ref (22 + 4 * i))] [] h Q
  have hp := PRb v.p
  have hq := gq_b v.p
  have hr := w.runs i hi
  have ok := (v.R i hi).1
  have hR : h[22 + 4 * i]? = some (cO 7 [.ref 5, .ref 4, .ref (22 + 4 * i + 1), .ref (22 + 4 * i + 2), .ref (22 + 4 * i + 3), vi ((σ.R i).y σ.p), vi (σ.R i).vv, vi ((σ.R i).a σ.p), vi (σ.R i).ww, vi (σ.R i).cc, vi (σ.R i).tt, vi (σ.R i).mm, vi (σ.R i).rr]) := hr.2.1
  have s4 := ok.s4
  refine x_aload_n (dT U_X10_needUnanswered 0 rfl) rfl ?_
  refine x_invokevirtual (rc' := rc + 1) (rs' := rs + 6) (rc2 := 0) (rs2 := 0) (As := []) (st := _) M_X7_hasChallenge K_X10_624 (dT U_X10_needUnanswered 1 rfl) rfl rfl (by decide) rfl rfl hR (by omega) (by decide) rfl (Nat.le_of_ble_eq_true rfl) rfl (by decide) (Nat.le_of_ble_eq_true rfl) rfl rfl ?_
  refine S_X7_hasChallenge v.p hr ok w.gw (fun s1 => ?_) (fun s0 => ?_)
  · refine xRet_some ?_
    refine x_if_eq (tgt := 14) (dT U_X10_needUnanswered 2 rfl) (by decide) (by unfold xr at *; omega) (fun c4 => ?_) (fun c4 => ?_)
    · exfalso; omega
    · skip
      refine x_aload_n (dT U_X10_needUnanswered 3 rfl) rfl ?_
      refine x_invokevirtual (rc' := rc + 1) (rs' := rs + 6) (rc2 := 0) (rs2 := 0) (As := []) (st := _) M_X7_hasAnswer K_X10_366 (dT U_X10_needUnanswered 4 rfl) rfl rfl (by decide) rfl rfl hR (by omega) (by decide) rfl (Nat.le_of_ble_eq_true rfl) rfl (by decide) (Nat.le_of_ble_eq_true rfl) rfl rfl ?_
      refine S_X7_hasAnswer v.p hr ok w.gw (fun t1 => ?_) (fun t0 => ?_)
      · refine xRet_some ?_
        refine x_if_eq (tgt := 25) (dT U_X10_needUnanswered 5 rfl) (by decide) (by unfold xr at *; omega) (fun c11 => ?_) (fun c11 => ?_)
        · exfalso; omega
        · skip
          refine x_throwW T_IS rfl (is := 627) (text := "the run has no challenge, or has an answer") (by decide) rfl (by omega) (Nat.le_of_ble_eq_true rfl) (by omega) (by omega) (dT U_X10_needUnanswered 6 rfl) (dT U_X10_needUnanswered 7 rfl) (dT U_X10_needUnanswered 8 rfl) (dT U_X10_needUnanswered 9 rfl) (dT U_X10_needUnanswered 10 rfl) ?_
          exact e1 (by omega)
      · refine xRet_some ?_
        refine x_if_eq (tgt := 25) (dT U_X10_needUnanswered 5 rfl) (by decide) (by unfold xr at *; omega) (fun c11 => ?_) (fun c11 => ?_)
        · skip
          refine x_return (dT U_X10_needUnanswered 11 rfl) rfl ?_
          exact k (by omega)
        · exfalso; omega
  · refine xRet_some ?_
    refine x_if_eq (tgt := 14) (dT U_X10_needUnanswered 2 rfl) (by decide) (by unfold xr at *; omega) (fun c4 => ?_) (fun c4 => ?_)
    · skip
      refine x_throwW T_IS rfl (is := 627) (text := "the run has no challenge, or has an answer") (by decide) rfl (by omega) (Nat.le_of_ble_eq_true rfl) (by omega) (by omega) (dT U_X10_needUnanswered 6 rfl) (dT U_X10_needUnanswered 7 rfl) (dT U_X10_needUnanswered 8 rfl) (dT U_X10_needUnanswered 9 rfl) (dT U_X10_needUnanswered 10 rfl) ?_
      exact e1 (by omega)
    · exfalso; omega

set_option maxRecDepth 20000 in
set_option maxHeartbeats 1000000 in
theorem S_X10_needJoinable {G : xG} {d rc rs : Nat} {ex : Bool} {h : xH} {Q : xQ} {σ : St} {i j : Nat} {b : Int} (w : CW σ h) (v : INV σ) (hi : i < 4) (hj : j < 4) (hb : b = 0 ∨ b = 1) (e1 : ¬ joinable (σ.R i) (σ.R j) b → Q (.inr ISE) false h) (k : joinable (σ.R i) (σ.R j) b → Q (.inl none) ex h) : X G m_X10_needJoinable (d + 6) (rc + 1) (rs + 6) ex 0 (xe m_X10_needJoinable.2.2.1 [.ref (22 + 4 * i), .ref (22 + 4 * j), vi b]) [] h Q := by
  show X G m_X10_needJoinable _ _ _ _ 0 [some (.ref (22 + 4 * i)), some (.ref (22 + 4 * j)), some (vi b)] [] h Q
  have hp := PRb v.p
  have hq := gq_b v.p
  have hr := w.runs i hi
  have ok := (v.R i hi).1
  have hR : h[22 + 4 * i]? = some (cO 7 [.ref 5, .ref 4, .ref (22 + 4 * i + 1), .ref (22 + 4 * i + 2), .ref (22 + 4 * i + 3), vi ((σ.R i).y σ.p), vi (σ.R i).vv, vi ((σ.R i).a σ.p), vi (σ.R i).ww, vi (σ.R i).cc, vi (σ.R i).tt, vi (σ.R i).mm, vi (σ.R i).rr]) := hr.2.1
  have s4 := ok.s4
  refine x_aload_n (dT U_X10_needJoinable 0 rfl) rfl ?_
  refine x_aload_n (dT U_X10_needJoinable 1 rfl) rfl ?_
  refine x_iload_n (dT U_X10_needJoinable 2 rfl) rfl ?_
  refine x_invokevirtual (rc' := rc + 1) (rs' := rs + 6) (rc2 := 0) (rs2 := 0) (As := [_, _]) (st := _) M_X7_isJoinable K_X10_580 (dT U_X10_needJoinable 3 rfl) rfl rfl (by decide) rfl rfl hR (by omega) (by decide) rfl (Nat.le_of_ble_eq_true rfl) rfl (by decide) (Nat.le_of_ble_eq_true rfl) rfl rfl ?_
  refine S_X7_isJoinable v.p hr ok (w.runs j hj) (v.R j hj).1 w.gw hb (fun q1 => ?_) (fun q0 => ?_)
  · refine xRet_some ?_
    refine x_if_ne (tgt := 20) (dT U_X10_needJoinable 4 rfl) (by decide) (by unfold xr at *; omega) (fun c6 => ?_) (fun c6 => ?_)
    · skip
      refine x_return (dT U_X10_needJoinable 10 rfl) rfl ?_
      exact k q1
    · exfalso; omega
  · refine xRet_some ?_
    refine x_if_ne (tgt := 20) (dT U_X10_needJoinable 4 rfl) (by decide) (by unfold xr at *; omega) (fun c6 => ?_) (fun c6 => ?_)
    · exfalso; omega
    · skip
      refine x_throwW T_IS rfl (is := 629) (text := "the two statements can not be joined so") (by decide) rfl (by omega) (Nat.le_of_ble_eq_true rfl) (by omega) (by omega) (dT U_X10_needJoinable 5 rfl) (dT U_X10_needJoinable 6 rfl) (dT U_X10_needJoinable 7 rfl) (dT U_X10_needJoinable 8 rfl) (dT U_X10_needJoinable 9 rfl) ?_
      exact e1 q0

set_option maxRecDepth 20000 in
set_option maxHeartbeats 1000000 in
theorem S_X10_needPairChallenge {G : xG} {d rc rs : Nat} {ex : Bool} {h : xH} {Q : xQ} {σ : St} {i : Nat} (w : CW σ h) (v : INV σ) (hi : i < 2) (e1 : ¬ (σ.P i).st = 3 → Q (.inr ISE) false h) (k : (σ.P i).st = 3 → Q (.inl none) ex h) : X G m_X10_needPairChallenge (d + 6) (rc + 1) (rs + 6) ex 0 (xe m_X10_needPairChallenge.2.2.1 [.ref (39 + 4 * i)]) [] h Q := by
  show X G m_X10_needPairChallenge _ _ _ _ 0 [some (.ref (39 + 4 * i))] [] h Q
  have hp := PRb v.p
  have hq := gq_b v.p
  have hr := w.pairs i hi
  have ok := v.P i hi
  have hP : h[39 + 4 * i]? = some (cO 5 [.ref 5, .ref 4, .ref (39 + 4 * i + 1), .ref (39 + 4 * i + 2), .ref (39 + 4 * i + 3), vi ((σ.P i).y σ.p), vi (σ.P i).bb, vi (σ.P i).ll, vi (σ.P i).mm, vi (σ.P i).cc]) := hr.2.1
  have s4 := ok.1
  refine x_aload_n (dT U_X10_needPairChallenge 0 rfl) rfl ?_
  refine x_invokevirtual (rc' := rc + 1) (rs' := rs + 6) (rc2 := 0) (rs2 := 0) (As := []) (st := _) M_X5_hasChallenge K_X10_418 (dT U_X10_needPairChallenge 1 rfl) rfl rfl (by decide) rfl rfl hP (by omega) (by decide) rfl (Nat.le_of_ble_eq_true rfl) rfl (by decide) (Nat.le_of_ble_eq_true rfl) rfl rfl ?_
  refine S_X5_hasChallenge v.p hr ok w.gw (fun s1 => ?_) (fun s0 => ?_)
  · refine xRet_some ?_
    refine x_if_ne (tgt := 18) (dT U_X10_needPairChallenge 2 rfl) (by decide) (by unfold xr at *; omega) (fun c4 => ?_) (fun c4 => ?_)
    · skip
      refine x_return (dT U_X10_needPairChallenge 8 rfl) rfl ?_
      exact k (by omega)
    · exfalso; omega
  · refine xRet_some ?_
    refine x_if_ne (tgt := 18) (dT U_X10_needPairChallenge 2 rfl) (by decide) (by unfold xr at *; omega) (fun c4 => ?_) (fun c4 => ?_)
    · exfalso; omega
    · skip
      refine x_throwW T_IS rfl (is := 631) (text := "the pair has no challenge") (by decide) rfl (by omega) (Nat.le_of_ble_eq_true rfl) (by omega) (by omega) (dT U_X10_needPairChallenge 3 rfl) (dT U_X10_needPairChallenge 4 rfl) (dT U_X10_needPairChallenge 5 rfl) (dT U_X10_needPairChallenge 6 rfl) (dT U_X10_needPairChallenge 7 rfl) ?_
      exact e1 (by omega)

set_option maxRecDepth 20000 in
set_option maxHeartbeats 1000000 in
theorem S_X10_needGame {G : xG} {d rc rs : Nat} {ex : Bool} {h : xH} {Q : xQ} {σ : St} (w : CW σ h) (v : INV σ) (e1 : ¬ σ.g.b = 1 → Q (.inr ISE) false h) (k : σ.g.b = 1 → Q (.inl none) ex h) : X G m_X10_needGame (d + 6) (rc + 1) (rs + 6) ex 0 (xe m_X10_needGame.2.2.1 [.ref 3]) [] h Q := by
  show X G m_X10_needGame _ _ _ _ 0 [some (.ref 3)] [] h Q
  have hp := PRb v.p
  have hq := gq_b v.p
  have hG : h[52]? = some (cO 2 [.ref 4, .ref 53, vi σ.g.b, vi σ.g.s, vi σ.g.i, vi σ.g.c, vi (σ.g.r : Int), vi σ.g.z, vi σ.g.o]) := w.c52
  have gb := v.g.1
  have gs9 := v.g.2.1
  have gr := v.g.2.2.2.1
  refine x_aload_n (dT U_X10_needGame 0 rfl) rfl ?_
  refine x_getfield F_X10_65 (dT U_X10_needGame 1 rfl) w.c3 (Nat.le_of_ble_eq_true rfl) rfl ?_
  refine x_getfield F_X10_131 (dT U_X10_needGame 2 rfl) hG (Nat.le_of_ble_eq_true rfl) rfl ?_
  refine x_if_ne (tgt := 21) (dT U_X10_needGame 3 rfl) (by decide) (by unfold xr; omega) (fun c7 => ?_) (fun c7 => ?_)
  · skip
    refine x_return (dT U_X10_needGame 9 rfl) rfl ?_
    exact k (by omega)
  · skip
    refine x_throwW T_IS rfl (is := 633) (text := "there is no game") (by decide) rfl (by omega) (Nat.le_of_ble_eq_true rfl) (by omega) (by omega) (dT U_X10_needGame 4 rfl) (dT U_X10_needGame 5 rfl) (dT U_X10_needGame 6 rfl) (dT U_X10_needGame 7 rfl) (dT U_X10_needGame 8 rfl) ?_
    exact e1 (by omega)

set_option maxRecDepth 20000 in
set_option maxHeartbeats 1000000 in
theorem S_X10_needProversTurn {G : xG} {d rc rs : Nat} {ex : Bool} {h : xH} {Q : xQ} {σ : St} (w : CW σ h) (v : INV σ) (e1 : ¬ (σ.g.b = 1 ∧ σ.g.s = 0 ∧ σ.g.r < 3) → Q (.inr ISE) false h) (k : σ.g.b = 1 → σ.g.s = 0 → σ.g.r < 3 → Q (.inl none) ex h) : X G m_X10_needProversTurn (d + 6) (rc + 1) (rs + 6) ex 0 (xe m_X10_needProversTurn.2.2.1 [.ref 3]) [] h Q := by
  show X G m_X10_needProversTurn _ _ _ _ 0 [some (.ref 3)] [] h Q
  have hp := PRb v.p
  have hq := gq_b v.p
  have hG : h[52]? = some (cO 2 [.ref 4, .ref 53, vi σ.g.b, vi σ.g.s, vi σ.g.i, vi σ.g.c, vi (σ.g.r : Int), vi σ.g.z, vi σ.g.o]) := w.c52
  have gb := v.g.1
  have gs9 := v.g.2.1
  have gr := v.g.2.2.2.1
  refine x_aload_n (dT U_X10_needProversTurn 0 rfl) rfl ?_
  refine x_getfield F_X10_65 (dT U_X10_needProversTurn 1 rfl) w.c3 (Nat.le_of_ble_eq_true rfl) rfl ?_
  refine x_getfield F_X10_131 (dT U_X10_needProversTurn 2 rfl) hG (Nat.le_of_ble_eq_true rfl) rfl ?_
  refine x_if_eq (tgt := 31) (dT U_X10_needProversTurn 3 rfl) (by decide) (by unfold xr; omega) (fun c7 => ?_) (fun c7 => ?_)
  · skip
    refine x_throwW T_IS rfl (is := 635) (text := "there is nothing to send now") (by decide) rfl (by omega) (Nat.le_of_ble_eq_true rfl) (by omega) (by omega) (dT U_X10_needProversTurn 13 rfl) (dT U_X10_needProversTurn 14 rfl) (dT U_X10_needProversTurn 15 rfl) (dT U_X10_needProversTurn 16 rfl) (dT U_X10_needProversTurn 17 rfl) ?_
    exact e1 (by omega)
  · skip
    refine x_aload_n (dT U_X10_needProversTurn 4 rfl) rfl ?_
    refine x_getfield F_X10_65 (dT U_X10_needProversTurn 5 rfl) w.c3 (Nat.le_of_ble_eq_true rfl) rfl ?_
    refine x_getfield F_X10_474 (dT U_X10_needProversTurn 6 rfl) hG (Nat.le_of_ble_eq_true rfl) rfl ?_
    refine x_if_ne (tgt := 31) (dT U_X10_needProversTurn 7 rfl) (by decide) (by unfold xr; omega) (fun c17 => ?_) (fun c17 => ?_)
    · skip
      refine x_throwW T_IS rfl (is := 635) (text := "there is nothing to send now") (by decide) rfl (by omega) (Nat.le_of_ble_eq_true rfl) (by omega) (by omega) (dT U_X10_needProversTurn 13 rfl) (dT U_X10_needProversTurn 14 rfl) (dT U_X10_needProversTurn 15 rfl) (dT U_X10_needProversTurn 16 rfl) (dT U_X10_needProversTurn 17 rfl) ?_
      exact e1 (by omega)
    · skip
      refine x_aload_n (dT U_X10_needProversTurn 8 rfl) rfl ?_
      refine x_getfield F_X10_65 (dT U_X10_needProversTurn 9 rfl) w.c3 (Nat.le_of_ble_eq_true rfl) rfl ?_
      refine x_getfield F_X10_491 (dT U_X10_needProversTurn 10 rfl) hG (Nat.le_of_ble_eq_true rfl) rfl ?_
      refine x_iconst (dT U_X10_needProversTurn 11 rfl) ?_
      refine x_icmp_lt (tgt := 42) (dT U_X10_needProversTurn 12 rfl) (by decide) (by unfold xr; omega) (by unfold xr; omega) (fun c28 => ?_) (fun c28 => ?_)
      · skip
        refine x_return (dT U_X10_needProversTurn 18 rfl) rfl ?_
        exact k (by omega) (by omega) (by omega)
      · skip
        refine x_throwW T_IS rfl (is := 635) (text := "there is nothing to send now") (by decide) rfl (by omega) (Nat.le_of_ble_eq_true rfl) (by omega) (by omega) (dT U_X10_needProversTurn 13 rfl) (dT U_X10_needProversTurn 14 rfl) (dT U_X10_needProversTurn 15 rfl) (dT U_X10_needProversTurn 16 rfl) (dT U_X10_needProversTurn 17 rfl) ?_
        exact e1 (by omega)

set_option maxRecDepth 20000 in
set_option maxHeartbeats 1000000 in
theorem S_X10_needNote {G : xG} {d rc rs : Nat} {ex : Bool} {h : xH} {Q : xQ} {σ : St} {z : Int} (w : CW σ h) (v : INV σ) (hz : xr z) (e1 : ¬ inb z σ.L.n → Q (.inr IOE) false h) (k : ∀ j : Nat, j < σ.L.n → z = (j : Int) → Q (.inl none) ex h) : X G m_X10_needNote (d + 6) (rc + 1) (rs + 6) ex 0 (xe m_X10_needNote.2.2.1 [.ref 3, vi z]) [] h Q := by
  show X G m_X10_needNote _ _ _ _ 0 [some (.ref 3), some (vi z)] [] h Q
  have hp := PRb v.p
  have hq := gq_b v.p
  have hL : h[54]? = some (cO 4 [.ref 5, .ref 55, vi (σ.L.n : Int), vi (MM σ.p σ.L.mi), vi (MM σ.p σ.L.pa)]) := w.c54
  have ln := v.L.1
  refine x_iload_n (dT U_X10_needNote 0 rfl) rfl ?_
  refine x_if_lt (tgt := 21) (dT U_X10_needNote 1 rfl) (by decide) hz (fun c1 => ?_) (fun c1 => ?_)
  · skip
    refine x_throwW T_IO rfl (is := 637) (text := "there is no such note") (by decide) rfl (by omega) (Nat.le_of_ble_eq_true rfl) (by omega) (by omega) (dT U_X10_needNote 10 rfl) (dT U_X10_needNote 11 rfl) (dT U_X10_needNote 12 rfl) (dT U_X10_needNote 13 rfl) (dT U_X10_needNote 14 rfl) ?_
    exact e1 (by omega)
  · skip
    refine x_iload_n (dT U_X10_needNote 2 rfl) rfl ?_
    refine x_aload_n (dT U_X10_needNote 3 rfl) rfl ?_
    refine x_getfield F_X10_72 (dT U_X10_needNote 4 rfl) w.c3 (Nat.le_of_ble_eq_true rfl) rfl ?_
    refine x_getfield F_X10_539 (dT U_X10_needNote 5 rfl) hL (Nat.le_of_ble_eq_true rfl) rfl ?_
    refine x_icmp_ge (tgt := 21) (dT U_X10_needNote 6 rfl) (by decide) hz (by unfold xr; omega) (fun c12 => ?_) (fun c12 => ?_)
    · skip
      refine x_throwW T_IO rfl (is := 637) (text := "there is no such note") (by decide) rfl (by omega) (Nat.le_of_ble_eq_true rfl) (by omega) (by omega) (dT U_X10_needNote 10 rfl) (dT U_X10_needNote 11 rfl) (dT U_X10_needNote 12 rfl) (dT U_X10_needNote 13 rfl) (dT U_X10_needNote 14 rfl) ?_
      exact e1 (by omega)
    · skip
      refine x_iload_n (dT U_X10_needNote 7 rfl) rfl ?_
      refine x_bipush (dT U_X10_needNote 8 rfl) (by decide) ?_
      refine x_icmp_lt (tgt := 32) (dT U_X10_needNote 9 rfl) (by decide) hz (by unfold xr; omega) (fun c18 => ?_) (fun c18 => ?_)
      · skip
        refine x_return (dT U_X10_needNote 15 rfl) rfl ?_
        exact k z.toNat (by omega) (by omega)
      · skip
        refine x_throwW T_IO rfl (is := 637) (text := "there is no such note") (by decide) rfl (by omega) (Nat.le_of_ble_eq_true rfl) (by omega) (by omega) (dT U_X10_needNote 10 rfl) (dT U_X10_needNote 11 rfl) (dT U_X10_needNote 12 rfl) (dT U_X10_needNote 13 rfl) (dT U_X10_needNote 14 rfl) ?_
        exact e1 (by omega)

set_option maxRecDepth 20000 in
set_option maxHeartbeats 1000000 in
theorem S_X10_needUnspent {G : xG} {d rc rs : Nat} {ex : Bool} {h : xH} {Q : xQ} {σ : St} {j : Nat} (w : CW σ h) (v : INV σ) (hj : j < σ.L.n) (e1 : σ.L.nn.getD j 0 = -1 → Q (.inr ISE) false h) (k : ¬ σ.L.nn.getD j 0 = -1 → Q (.inl none) ex h) : X G m_X10_needUnspent (d + 6) (rc + 1) (rs + 6) ex 0 (xe m_X10_needUnspent.2.2.1 [.ref 3, vi (j : Int)]) [] h Q := by
  show X G m_X10_needUnspent _ _ _ _ 0 [some (.ref 3), some (vi (j : Int))] [] h Q
  have hp := PRb v.p
  have hq := gq_b v.p
  have hL : h[54]? = some (cO 4 [.ref 5, .ref 55, vi (σ.L.n : Int), vi (MM σ.p σ.L.mi), vi (MM σ.p σ.L.pa)]) := w.c54
  have ln := v.L.1
  refine x_aload_n (dT U_X10_needUnspent 0 rfl) rfl ?_
  refine x_getfield F_X10_72 (dT U_X10_needUnspent 1 rfl) w.c3 (Nat.le_of_ble_eq_true rfl) rfl ?_
  refine x_getfield F_X10_520 (dT U_X10_needUnspent 2 rfl) hL (Nat.le_of_ble_eq_true rfl) rfl ?_
  refine x_iload_n (dT U_X10_needUnspent 3 rfl) rfl ?_
  refine x_iaload (j) (dT U_X10_needUnspent 4 rfl) w.c55 (Nat.le_of_ble_eq_true rfl) rfl (by rw [v.L.2.2.1]; omega) (by rw [v.L.2.2.1]; omega) ?_
  have nb := nv_b v.p (v.L.2.2.2.1 j hj)
  rw [← v.L.2.2.2.2.1 j hj] at nb
  refine x_if_ne (tgt := 23) (dT U_X10_needUnspent 5 rfl) (by decide) (by have := nb.1; unfold xr; omega) (fun c9 => ?_) (fun c9 => ?_)
  · skip
    refine x_return (dT U_X10_needUnspent 11 rfl) rfl ?_
    exact k (nb.2.2 (by assumption)).1
  · skip
    refine x_throwW T_IS rfl (is := 639) (text := "the note is spent") (by decide) rfl (by omega) (Nat.le_of_ble_eq_true rfl) (by omega) (by omega) (dT U_X10_needUnspent 6 rfl) (dT U_X10_needUnspent 7 rfl) (dT U_X10_needUnspent 8 rfl) (dT U_X10_needUnspent 9 rfl) (dT U_X10_needUnspent 10 rfl) ?_
    exact e1 (nb.2.1 (by omega))

set_option maxRecDepth 20000 in
set_option maxHeartbeats 1000000 in
theorem S_X10_needRoomForNotes {G : xG} {d rc rs : Nat} {ex : Bool} {h : xH} {Q : xQ} {σ : St} {m : Nat} (w : CW σ h) (v : INV σ) (hm : m ≤ 2) (e1 : ¬ σ.L.n + m ≤ 16 → Q (.inr ISE) false h) (k : σ.L.n + m ≤ 16 → Q (.inl none) ex h) : X G m_X10_needRoomForNotes (d + 6) (rc + 1) (rs + 6) ex 0 (xe m_X10_needRoomForNotes.2.2.1 [.ref 3, vi (m : Int)]) [] h Q := by
  show X G m_X10_needRoomForNotes _ _ _ _ 0 [some (.ref 3), some (vi (m : Int))] [] h Q
  have hp := PRb v.p
  have hq := gq_b v.p
  have hL : h[54]? = some (cO 4 [.ref 5, .ref 55, vi (σ.L.n : Int), vi (MM σ.p σ.L.mi), vi (MM σ.p σ.L.pa)]) := w.c54
  have ln := v.L.1
  refine x_aload_n (dT U_X10_needRoomForNotes 0 rfl) rfl ?_
  refine x_getfield F_X10_72 (dT U_X10_needRoomForNotes 1 rfl) w.c3 (Nat.le_of_ble_eq_true rfl) rfl ?_
  refine x_getfield F_X10_539 (dT U_X10_needRoomForNotes 2 rfl) hL (Nat.le_of_ble_eq_true rfl) rfl ?_
  refine x_iload_n (dT U_X10_needRoomForNotes 3 rfl) rfl ?_
  refine x_iadd (dT U_X10_needRoomForNotes 4 rfl) ?_
  refine x_bipush (dT U_X10_needRoomForNotes 5 rfl) (by decide) ?_
  refine x_icmp_le (tgt := 25) (dT U_X10_needRoomForNotes 6 rfl) (by decide) (by unfold xr; omega) (by unfold xr; omega) (fun c11 => ?_) (fun c11 => ?_)
  · skip
    refine x_return (dT U_X10_needRoomForNotes 12 rfl) rfl ?_
    exact k (by omega)
  · skip
    refine x_throwW T_IS rfl (is := 641) (text := "there would be more than sixteen notes") (by decide) rfl (by omega) (Nat.le_of_ble_eq_true rfl) (by omega) (by omega) (dT U_X10_needRoomForNotes 7 rfl) (dT U_X10_needRoomForNotes 8 rfl) (dT U_X10_needRoomForNotes 9 rfl) (dT U_X10_needRoomForNotes 10 rfl) (dT U_X10_needRoomForNotes 11 rfl) ?_
    exact e1 (by omega)
