def bnd (p : Int) (l : List Int) (r : Nat) (w : Int) : List Int := fillL (fun j => (l.getD j 0 + w * (l.getD (j + hlf r) 0 - l.getD j 0)) % p) l (hlf r)

set_option maxRecDepth 20000 in
set_option maxHeartbeats 1000000 in
theorem S_X2_beginWith {G : xG} {d rc rs : Nat} {ex : Bool} {h : xH} {Q : xQ} {p r xa : Nat} {b s i c z o n : Int} {l xl : List Int} (hp5 : p ∈ PR) (hf : h[4]? = some (cO 1 [vi (p : Int)])) (hg : h[52]? = some (cG b s i c r z o)) (hl : h[53]? = some (cA 0 l)) (ll8 : l.length = 8) (hx : h[xa]? = some (cA 0 xl)) (x3 : 3 ≤ xa ∧ xa ≠ 52) (lx : Fl (p : Int) xl) (hn : 0 ≤ n ∧ n < p) (k : ∀ i9 : Int, (i9 = 1 ∧ n = cr p xl 0 ∨ i9 = 0) → Q (.inl none) ex ((h.set 52 (cG 1 0 i9 n 0 z o)).set 53 (cA 0 xl))) : X G m_X2_beginWith (d + 3) rc rs ex 0 (xe m_X2_beginWith.2.2.1 [.ref 52, .ref xa, vi n]) [] h Q := by
  show X G m_X2_beginWith _ _ _ _ 0 [some (.ref 52), some (.ref xa), some (vi n)] [] h Q
  have hp := PRb hp5
  have hG : h[52]? = some (cO 2 [.ref 4, .ref 53, vi (b), vi (s), vi (i), vi (c), vi ((r : Int)), vi (z), vi (o)]) := hg
  refine x_aload_n (dT U_X2_beginWith 0 rfl) rfl ?_
  refine x_aload_n (dT U_X2_beginWith 1 rfl) rfl ?_
  refine x_getfield F_X2_15 (dT U_X2_beginWith 2 rfl) hG (Nat.le_of_ble_eq_true rfl) rfl ?_
  refine x_invokestatic (rc' := rc) (rs' := rs) (rc2 := 0) (rs2 := 0) (As := [_, _]) (st := _) M_X1_copy K_X2_19 (dT U_X2_beginWith 3 rfl) rfl rfl rfl rfl (Nat.le_of_ble_eq_true rfl) rfl (by decide) (Nat.le_of_ble_eq_true rfl) rfl rfl ?_
  refine S_X1_copy hx x3.1 lx.1 hl (by omega) ll8 ?_
  refine xRet_none ?_
  refine x_aload_n (dT U_X2_beginWith 4 rfl) rfl ?_
  refine x_iconst (dT U_X2_beginWith 5 rfl) ?_
  refine x_putfield F_X2_25 (dT U_X2_beginWith 6 rfl) (hset_ne (by decide) hG) (Nat.le_of_ble_eq_true rfl) (Nat.le_of_ble_eq_true rfl) rfl rfl ?_
  refine x_aload_n (dT U_X2_beginWith 7 rfl) rfl ?_
  refine x_iconst (dT U_X2_beginWith 8 rfl) ?_
  refine x_putfield F_X2_29 (dT U_X2_beginWith 9 rfl) (hset_eq (hset_ne (by decide) hG)) (Nat.le_of_ble_eq_true rfl) (Nat.le_of_ble_eq_true rfl) rfl rfl ?_
  rw [List.set_set]
  refine x_aload_n (dT U_X2_beginWith 10 rfl) rfl ?_
  refine x_iload_n (dT U_X2_beginWith 11 rfl) rfl ?_
  refine x_putfield F_X2_32 (dT U_X2_beginWith 12 rfl) (hset_eq (hset_ne (by decide) hG)) (Nat.le_of_ble_eq_true rfl) (Nat.le_of_ble_eq_true rfl) rfl rfl ?_
  rw [List.set_set]
  refine x_aload_n (dT U_X2_beginWith 13 rfl) rfl ?_
  refine x_iconst (dT U_X2_beginWith 14 rfl) ?_
  refine x_putfield F_X2_36 (dT U_X2_beginWith 15 rfl) (hset_eq (hset_ne (by decide) hG)) (Nat.le_of_ble_eq_true rfl) (Nat.le_of_ble_eq_true rfl) rfl rfl ?_
  rw [List.set_set]
  have hG2 : ((h.set 53 (cA 0 xl)).set 52 (cG 1 0 i n 0 z o))[52]? = some (cG 1 0 i n 0 z o) := (hset_eq (hset_ne (by decide) hG))
  refine x_aload_n (dT U_X2_beginWith 16 rfl) rfl ?_
  refine x_aload_n (dT U_X2_beginWith 17 rfl) rfl ?_
  refine x_invokevirtual (rc' := rc) (rs' := rs) (rc2 := 0) (rs2 := 0) (As := []) (st := _) M_X2_claimIsRight K_X2_39 (dT U_X2_beginWith 18 rfl) rfl rfl (by decide) rfl rfl hG2 (Nat.le_of_ble_eq_true rfl) (by decide) rfl (Nat.le_of_ble_eq_true rfl) rfl (by decide) (Nat.le_of_ble_eq_true rfl) rfl rfl ?_
  refine S_X2_claimIsRight (h := (h.set 53 (cA 0 xl)).set 52 (cG 1 0 i n 0 z o)) (l := xl) hp5 (hset_ne (by decide) (hset_ne (by decide) hf)) hG2 (hset_ne (by decide) (hset_eq hl)) lx (by omega) (by unfold xr; omega) (fun q1 => ?_) (fun q0 => ?_)
  · refine xRet_some ?_
    refine x_putfield F_X2_43 (dT U_X2_beginWith 19 rfl) hG2 (Nat.le_of_ble_eq_true rfl) (Nat.le_of_ble_eq_true rfl) rfl rfl ?_
    rw [List.set_set]
    refine x_return (dT U_X2_beginWith 20 rfl) rfl ?_
    have q := k 1 (Or.inl ⟨rfl, q1⟩)
    rw [List.set_comm _ _ (show 52 ≠ 53 by decide)] at q
    exact q
  · refine xRet_some ?_
    refine x_putfield F_X2_43 (dT U_X2_beginWith 19 rfl) hG2 (Nat.le_of_ble_eq_true rfl) (Nat.le_of_ble_eq_true rfl) rfl rfl ?_
    rw [List.set_set]
    refine x_return (dT U_X2_beginWith 20 rfl) rfl ?_
    have q := k 0 (Or.inr rfl)
    rw [List.set_comm _ _ (show 52 ≠ 53 by decide)] at q
    exact q

set_option maxRecDepth 20000 in
set_option maxHeartbeats 1000000 in
theorem S_X2_take {G : xG} {d rc rs : Nat} {ex : Bool} {h : xH} {Q : xQ} {p r : Nat} {b s i c z o : Int} {l : List Int} {x y : Int} (hp5 : p ∈ PR) (hf : h[4]? = some (cO 1 [vi (p : Int)])) (hg : h[52]? = some (cG b s i c r z o)) (hl : h[53]? = some (cA 0 l)) (ll : Fl (p : Int) l) (hr : r ≤ 3) (hi : i = 0 ∨ i = 1) (hx : 0 ≤ x ∧ x < p) (hy : 0 ≤ y ∧ y < p) (k : ∀ i9 : Int, (i9 = 1 ∧ i = 1 ∧ x = rz p l r ∧ y = ro p l r ∨ i9 = 0) → Q (.inl none) ex (h.set 52 (cG b 1 i9 c r x y))) : X G m_X2_take (d + 3) rc rs ex 0 (xe m_X2_take.2.2.1 [.ref 52, vi x, vi y]) [] h Q := by
  show X G m_X2_take _ _ _ _ 0 [some (.ref 52), some (vi x), some (vi y)] [] h Q
  have hp := PRb hp5
  have hk := hlf_ok hr
  have hG : h[52]? = some (cO 2 [.ref 4, .ref 53, vi (b), vi (s), vi (i), vi (c), vi ((r : Int)), vi (z), vi (o)]) := hg
  refine x_aload_n (dT U_X2_take 0 rfl) rfl ?_
  refine x_aload_n (dT U_X2_take 1 rfl) rfl ?_
  refine x_getfield F_X2_43 (dT U_X2_take 2 rfl) hG (Nat.le_of_ble_eq_true rfl) rfl ?_
  refine x_if_eq (tgt := 28) (dT U_X2_take 3 rfl) (by decide) (by unfold xr; omega) (fun c5 => ?_) (fun c5 => ?_)
  · skip
    refine x_iconst (dT U_X2_take 14 rfl) ?_
    refine x_putfield F_X2_43 (dT U_X2_take 15 rfl) hG (Nat.le_of_ble_eq_true rfl) (Nat.le_of_ble_eq_true rfl) rfl rfl ?_
    refine x_aload_n (dT U_X2_take 16 rfl) rfl ?_
    refine x_iconst (dT U_X2_take 17 rfl) ?_
    refine x_putfield F_X2_29 (dT U_X2_take 18 rfl) (hset_eq hG) (Nat.le_of_ble_eq_true rfl) (Nat.le_of_ble_eq_true rfl) rfl rfl ?_
    rw [List.set_set]
    refine x_aload_n (dT U_X2_take 19 rfl) rfl ?_
    refine x_iload_n (dT U_X2_take 20 rfl) rfl ?_
    refine x_putfield F_X2_60 (dT U_X2_take 21 rfl) (hset_eq hG) (Nat.le_of_ble_eq_true rfl) (Nat.le_of_ble_eq_true rfl) rfl rfl ?_
    rw [List.set_set]
    refine x_aload_n (dT U_X2_take 22 rfl) rfl ?_
    refine x_iload_n (dT U_X2_take 23 rfl) rfl ?_
    refine x_putfield F_X2_63 (dT U_X2_take 24 rfl) (hset_eq hG) (Nat.le_of_ble_eq_true rfl) (Nat.le_of_ble_eq_true rfl) rfl rfl ?_
    rw [List.set_set]
    refine x_return (dT U_X2_take 25 rfl) rfl ?_
    first | exact k 0 (Or.inr rfl) | exact k 1 (Or.inl ⟨rfl, by omega, by omega, by omega⟩)
  · skip
    refine x_iload_n (dT U_X2_take 4 rfl) rfl ?_
    refine x_aload_n (dT U_X2_take 5 rfl) rfl ?_
    refine x_invokevirtual (rc' := rc) (rs' := rs) (rc2 := 0) (rs2 := 0) (As := []) (st := _) M_X2_rightZero K_X2_54 (dT U_X2_take 6 rfl) rfl rfl (by decide) rfl rfl hG (Nat.le_of_ble_eq_true rfl) (by decide) rfl (Nat.le_of_ble_eq_true rfl) rfl (by decide) (Nat.le_of_ble_eq_true rfl) rfl rfl ?_
    refine S_X2_rightZero hp5 hf hg hl ll hr ?_
    have zb : 0 ≤ rz p l r ∧ rz p l r < p := modb (by omega)
    refine xRet_some ?_
    refine x_icmp_ne (tgt := 28) (dT U_X2_take 7 rfl) (by decide) (by unfold xr; omega) (by unfold xr; omega) (fun c13 => ?_) (fun c13 => ?_)
    · skip
      refine x_iconst (dT U_X2_take 14 rfl) ?_
      refine x_putfield F_X2_43 (dT U_X2_take 15 rfl) hG (Nat.le_of_ble_eq_true rfl) (Nat.le_of_ble_eq_true rfl) rfl rfl ?_
      refine x_aload_n (dT U_X2_take 16 rfl) rfl ?_
      refine x_iconst (dT U_X2_take 17 rfl) ?_
      refine x_putfield F_X2_29 (dT U_X2_take 18 rfl) (hset_eq hG) (Nat.le_of_ble_eq_true rfl) (Nat.le_of_ble_eq_true rfl) rfl rfl ?_
      rw [List.set_set]
      refine x_aload_n (dT U_X2_take 19 rfl) rfl ?_
      refine x_iload_n (dT U_X2_take 20 rfl) rfl ?_
      refine x_putfield F_X2_60 (dT U_X2_take 21 rfl) (hset_eq hG) (Nat.le_of_ble_eq_true rfl) (Nat.le_of_ble_eq_true rfl) rfl rfl ?_
      rw [List.set_set]
      refine x_aload_n (dT U_X2_take 22 rfl) rfl ?_
      refine x_iload_n (dT U_X2_take 23 rfl) rfl ?_
      refine x_putfield F_X2_63 (dT U_X2_take 24 rfl) (hset_eq hG) (Nat.le_of_ble_eq_true rfl) (Nat.le_of_ble_eq_true rfl) rfl rfl ?_
      rw [List.set_set]
      refine x_return (dT U_X2_take 25 rfl) rfl ?_
      first | exact k 0 (Or.inr rfl) | exact k 1 (Or.inl ⟨rfl, by omega, by omega, by omega⟩)
    · skip
      refine x_iload_n (dT U_X2_take 8 rfl) rfl ?_
      refine x_aload_n (dT U_X2_take 9 rfl) rfl ?_
      refine x_invokevirtual (rc' := rc) (rs' := rs) (rc2 := 0) (rs2 := 0) (As := []) (st := _) M_X2_rightOne K_X2_57 (dT U_X2_take 10 rfl) rfl rfl (by decide) rfl rfl hG (Nat.le_of_ble_eq_true rfl) (by decide) rfl (Nat.le_of_ble_eq_true rfl) rfl (by decide) (Nat.le_of_ble_eq_true rfl) rfl rfl ?_
      refine S_X2_rightOne hp5 hf hg hl ll hr ?_
      have ob : 0 ≤ ro p l r ∧ ro p l r < p := modb (by omega)
      refine xRet_some ?_
      refine x_icmp_ne (tgt := 28) (dT U_X2_take 11 rfl) (by decide) (by unfold xr; omega) (by unfold xr; omega) (fun c21 => ?_) (fun c21 => ?_)
      · skip
        refine x_iconst (dT U_X2_take 14 rfl) ?_
        refine x_putfield F_X2_43 (dT U_X2_take 15 rfl) hG (Nat.le_of_ble_eq_true rfl) (Nat.le_of_ble_eq_true rfl) rfl rfl ?_
        refine x_aload_n (dT U_X2_take 16 rfl) rfl ?_
        refine x_iconst (dT U_X2_take 17 rfl) ?_
        refine x_putfield F_X2_29 (dT U_X2_take 18 rfl) (hset_eq hG) (Nat.le_of_ble_eq_true rfl) (Nat.le_of_ble_eq_true rfl) rfl rfl ?_
        rw [List.set_set]
        refine x_aload_n (dT U_X2_take 19 rfl) rfl ?_
        refine x_iload_n (dT U_X2_take 20 rfl) rfl ?_
        refine x_putfield F_X2_60 (dT U_X2_take 21 rfl) (hset_eq hG) (Nat.le_of_ble_eq_true rfl) (Nat.le_of_ble_eq_true rfl) rfl rfl ?_
        rw [List.set_set]
        refine x_aload_n (dT U_X2_take 22 rfl) rfl ?_
        refine x_iload_n (dT U_X2_take 23 rfl) rfl ?_
        refine x_putfield F_X2_63 (dT U_X2_take 24 rfl) (hset_eq hG) (Nat.le_of_ble_eq_true rfl) (Nat.le_of_ble_eq_true rfl) rfl rfl ?_
        rw [List.set_set]
        refine x_return (dT U_X2_take 25 rfl) rfl ?_
        first | exact k 0 (Or.inr rfl) | exact k 1 (Or.inl ⟨rfl, by omega, by omega, by omega⟩)
      · skip
        refine x_iconst (dT U_X2_take 12 rfl) ?_
        refine x_goto (tgt := 29) (dT U_X2_take 13 rfl) (by decide) ?_
        refine x_putfield F_X2_43 (dT U_X2_take 15 rfl) hG (Nat.le_of_ble_eq_true rfl) (Nat.le_of_ble_eq_true rfl) rfl rfl ?_
        refine x_aload_n (dT U_X2_take 16 rfl) rfl ?_
        refine x_iconst (dT U_X2_take 17 rfl) ?_
        refine x_putfield F_X2_29 (dT U_X2_take 18 rfl) (hset_eq hG) (Nat.le_of_ble_eq_true rfl) (Nat.le_of_ble_eq_true rfl) rfl rfl ?_
        rw [List.set_set]
        refine x_aload_n (dT U_X2_take 19 rfl) rfl ?_
        refine x_iload_n (dT U_X2_take 20 rfl) rfl ?_
        refine x_putfield F_X2_60 (dT U_X2_take 21 rfl) (hset_eq hG) (Nat.le_of_ble_eq_true rfl) (Nat.le_of_ble_eq_true rfl) rfl rfl ?_
        rw [List.set_set]
        refine x_aload_n (dT U_X2_take 22 rfl) rfl ?_
        refine x_iload_n (dT U_X2_take 23 rfl) rfl ?_
        refine x_putfield F_X2_63 (dT U_X2_take 24 rfl) (hset_eq hG) (Nat.le_of_ble_eq_true rfl) (Nat.le_of_ble_eq_true rfl) rfl rfl ?_
        rw [List.set_set]
        refine x_return (dT U_X2_take 25 rfl) rfl ?_
        first | exact k 0 (Or.inr rfl) | exact k 1 (Or.inl ⟨rfl, by omega, by omega, by omega⟩)

set_option maxRecDepth 20000 in
set_option maxHeartbeats 1000000 in
theorem S_X2_goOn {G : xG} {d rc rs : Nat} {ex : Bool} {h : xH} {Q : xQ} {p r : Nat} {b s i c z o : Int} {l : List Int} {w : Int} (hp5 : p ∈ PR) (hf : h[4]? = some (cO 1 [vi (p : Int)])) (hg : h[52]? = some (cG b s i c r z o)) (hl : h[53]? = some (cA 0 l)) (ll : Fl (p : Int) l) (hr : r ≤ 3) (hz : 0 ≤ z ∧ z < p) (ho : 0 ≤ o ∧ o < p) (hw : 0 ≤ w ∧ w < p) (k : Q (.inl none) ex ((h.set 52 (cG b 0 i (ln p z o w) (r + 1) z o)).set 53 (cA 0 (bnd p l r w)))) : X G m_X2_goOn (d + 2) rc rs ex 0 (xe m_X2_goOn.2.2.1 [.ref 52, vi w]) [] h Q := by
  show X G m_X2_goOn _ _ _ _ 0 [some (.ref 52), some (vi w)] [] h Q
  have hp := PRb hp5
  have hk := hlf_ok hr
  have hG : h[52]? = some (cO 2 [.ref 4, .ref 53, vi (b), vi (s), vi (i), vi (c), vi ((r : Int)), vi (z), vi (o)]) := hg
  refine x_aload_n (dT U_X2_goOn 0 rfl) rfl ?_
  refine x_aload_n (dT U_X2_goOn 1 rfl) rfl ?_
  refine x_aload_n (dT U_X2_goOn 2 rfl) rfl ?_
  refine x_getfield F_X2_60 (dT U_X2_goOn 3 rfl) hG (Nat.le_of_ble_eq_true rfl) rfl ?_
  refine x_aload_n (dT U_X2_goOn 4 rfl) rfl ?_
  refine x_getfield F_X2_63 (dT U_X2_goOn 5 rfl) hG (Nat.le_of_ble_eq_true rfl) rfl ?_
  refine x_iload_n (dT U_X2_goOn 6 rfl) rfl ?_
  refine x_invokevirtual (rc' := rc) (rs' := rs) (rc2 := 0) (rs2 := 0) (As := [_, _, _]) (st := _) M_X2_lineAt K_X2_66 (dT U_X2_goOn 7 rfl) rfl rfl (by decide) rfl rfl hG (Nat.le_of_ble_eq_true rfl) (by decide) rfl (Nat.le_of_ble_eq_true rfl) rfl (by decide) (Nat.le_of_ble_eq_true rfl) rfl rfl ?_
  refine S_X2_lineAt hp5 hf hg hl ll hr hz ho hw ?_
  refine xRet_some ?_
  refine x_putfield F_X2_32 (dT U_X2_goOn 8 rfl) hG (Nat.le_of_ble_eq_true rfl) (Nat.le_of_ble_eq_true rfl) rfl rfl ?_
  refine x_aload_n (dT U_X2_goOn 9 rfl) rfl ?_
  refine x_getfield F_X2_9 (dT U_X2_goOn 10 rfl) (hset_eq hG) (Nat.le_of_ble_eq_true rfl) rfl ?_
  refine x_aload_n (dT U_X2_goOn 11 rfl) rfl ?_
  refine x_getfield F_X2_15 (dT U_X2_goOn 12 rfl) (hset_eq hG) (Nat.le_of_ble_eq_true rfl) rfl ?_
  refine x_aload_n (dT U_X2_goOn 13 rfl) rfl ?_
  refine x_invokevirtual (rc' := rc) (rs' := rs) (rc2 := 0) (rs2 := 0) (As := []) (st := _) M_X2_half K_X2_46 (dT U_X2_goOn 14 rfl) rfl rfl (by decide) rfl rfl (hset_eq hG) (Nat.le_of_ble_eq_true rfl) (by decide) rfl (Nat.le_of_ble_eq_true rfl) rfl (by decide) (Nat.le_of_ble_eq_true rfl) rfl rfl ?_
  refine S_X2_half (h := h.set 52 (cG b s i (ln p z o w) r z o)) hp5 (hset_ne (by decide) hf) (hset_eq hG) (hset_ne (by decide) hl) ll hr ?_
  refine xRet_some ?_
  refine x_iload_n (dT U_X2_goOn 15 rfl) rfl ?_
  refine x_invokevirtual (rc' := rc) (rs' := rs) (rc2 := 0) (rs2 := 0) (As := [_, _, _]) (st := _) M_X1_bind K_X2_70 (dT U_X2_goOn 16 rfl) rfl rfl (by decide) rfl rfl (hset_ne (by decide) hf) (Nat.le_of_ble_eq_true rfl) (by decide) rfl (Nat.le_of_ble_eq_true rfl) rfl (by decide) (Nat.le_of_ble_eq_true rfl) rfl rfl ?_
  refine S_X1_bind (hset_ne (by decide) hf) hp (hset_ne (by decide) hl) (by omega) ll hk.2.2.1 hw ?_
  refine xRet_none ?_
  refine x_aload_n (dT U_X2_goOn 17 rfl) rfl ?_
  refine x_iconst (dT U_X2_goOn 18 rfl) ?_
  refine x_putfield F_X2_29 (dT U_X2_goOn 19 rfl) (hset_ne (by decide) (hset_eq hG)) (Nat.le_of_ble_eq_true rfl) (Nat.le_of_ble_eq_true rfl) rfl rfl ?_
  rw [st2a (by decide)]
  refine x_aload_n (dT U_X2_goOn 20 rfl) rfl ?_
  refine x_dup (dT U_X2_goOn 21 rfl) rfl ?_
  refine x_getfield F_X2_36 (dT U_X2_goOn 22 rfl) (hset_ne (by decide) (hset_eq hG)) (Nat.le_of_ble_eq_true rfl) rfl ?_
  refine x_iconst (dT U_X2_goOn 23 rfl) ?_
  refine x_iadd (dT U_X2_goOn 24 rfl) ?_
  refine x_putfield F_X2_36 (dT U_X2_goOn 25 rfl) (hset_ne (by decide) (hset_eq hG)) (Nat.le_of_ble_eq_true rfl) (Nat.le_of_ble_eq_true rfl) rfl rfl ?_
  rw [st2a (by decide)]
  refine x_return (dT U_X2_goOn 26 rfl) rfl ?_
  exact k
