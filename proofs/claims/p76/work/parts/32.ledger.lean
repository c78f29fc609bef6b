def cL (n : Nat) (mi pa : Int) : xC := cO 4 [.ref 5, .ref 55, vi (n : Int), vi mi, vi pa]
def nv (p : Nat) (e : Int) : Int := if e = -1 then 0 else MM p e
def stnd (p : Nat) (f : Nat → Int) (n : Nat) : Int := sm (fun i => if f i = -1 then 0 else f i) n % (p : Int)

set_option maxRecDepth 20000 in
set_option maxHeartbeats 1000000 in
theorem S_X4_forget {G : xG} {d rc rs : Nat} {ex : Bool} {h : xH} {Q : xQ} {n : Nat} {mi pa : Int} (hl : h[54]? = some (cL n mi pa)) (k : Q (.inl none) ex (h.set 54 (cL 0 1 1))) : X G m_X4_forget d rc rs ex 0 (xe m_X4_forget.2.2.1 [.ref 54]) [] h Q := by
  show X G m_X4_forget _ _ _ _ 0 [some (.ref 54)] [] h Q
  have hL : h[54]? = some (cO 4 [.ref 5, .ref 55, vi (n : Int), vi mi, vi pa]) := hl
  refine x_aload_n (dT U_X4_forget 0 rfl) rfl ?_
  refine x_iconst (dT U_X4_forget 1 rfl) ?_
  refine x_putfield F_X4_22 (dT U_X4_forget 2 rfl) hL (Nat.le_of_ble_eq_true rfl) (Nat.le_of_ble_eq_true rfl) rfl rfl ?_
  refine x_aload_n (dT U_X4_forget 3 rfl) rfl ?_
  refine x_iconst (dT U_X4_forget 4 rfl) ?_
  refine x_putfield F_X4_26 (dT U_X4_forget 5 rfl) (hset_eq hL) (Nat.le_of_ble_eq_true rfl) (Nat.le_of_ble_eq_true rfl) rfl rfl ?_
  rw [List.set_set]
  refine x_aload_n (dT U_X4_forget 6 rfl) rfl ?_
  refine x_iconst (dT U_X4_forget 7 rfl) ?_
  refine x_putfield F_X4_29 (dT U_X4_forget 8 rfl) (hset_eq hL) (Nat.le_of_ble_eq_true rfl) (Nat.le_of_ble_eq_true rfl) rfl rfl ?_
  rw [List.set_set]
  refine x_return (dT U_X4_forget 9 rfl) rfl ?_
  exact k

set_option maxRecDepth 20000 in
set_option maxHeartbeats 1000000 in
theorem S_X4_add {G : xG} {d rc rs : Nat} {ex : Bool} {h : xH} {Q : xQ} {n : Nat} {mi pa : Int} {gl : List Int}{y : Int} (hl : h[54]? = some (cL n mi pa)) (hN : h[55]? = some (cA 0 gl)) (lN : gl.length = 16) (hn : n < 16) (k : Q (.inl (some (vi (n : Int)))) ex ((h.set 54 (cL (n + 1) mi pa)).set 55 (cA 0 (gl.set n y)))) : X G m_X4_add d rc rs ex 0 (xe m_X4_add.2.2.1 [.ref 54, vi y]) [] h Q := by
  show X G m_X4_add _ _ _ _ 0 [some (.ref 54), some (vi y)] [] h Q
  have hL : h[54]? = some (cO 4 [.ref 5, .ref 55, vi (n : Int), vi mi, vi pa]) := hl
  refine x_aload_n (dT U_X4_add 0 rfl) rfl ?_
  refine x_getfield F_X4_22 (dT U_X4_add 1 rfl) hL (Nat.le_of_ble_eq_true rfl) rfl ?_
  refine x_if_lt (tgt := 16) (dT U_X4_add 2 rfl) (by decide) (by unfold xr at *; omega) (fun c4 => ?_) (fun c4 => ?_)
  · exfalso; omega
  · skip
    refine x_aload_n (dT U_X4_add 3 rfl) rfl ?_
    refine x_getfield F_X4_22 (dT U_X4_add 4 rfl) hL (Nat.le_of_ble_eq_true rfl) rfl ?_
    refine x_bipush (dT U_X4_add 5 rfl) (by decide) ?_
    refine x_icmp_lt (tgt := 18) (dT U_X4_add 6 rfl) (by decide) (by unfold xr at *; omega) (by unfold xr at *; omega) (fun c13 => ?_) (fun c13 => ?_)
    · skip
      refine x_aload_n (dT U_X4_add 9 rfl) rfl ?_
      refine x_getfield F_X4_15 (dT U_X4_add 10 rfl) hL (Nat.le_of_ble_eq_true rfl) rfl ?_
      refine x_aload_n (dT U_X4_add 11 rfl) rfl ?_
      refine x_getfield F_X4_22 (dT U_X4_add 12 rfl) hL (Nat.le_of_ble_eq_true rfl) rfl ?_
      refine x_iload_n (dT U_X4_add 13 rfl) rfl ?_
      refine x_iastore (n) (dT U_X4_add 14 rfl) hN (Nat.le_of_ble_eq_true rfl) rfl (by omega) (by omega) ?_
      refine x_aload_n (dT U_X4_add 15 rfl) rfl ?_
      refine x_dup (dT U_X4_add 16 rfl) rfl ?_
      refine x_getfield F_X4_22 (dT U_X4_add 17 rfl) (hset_ne (by decide) hL) (Nat.le_of_ble_eq_true rfl) rfl ?_
      refine x_iconst (dT U_X4_add 18 rfl) ?_
      refine x_iadd (dT U_X4_add 19 rfl) ?_
      refine x_putfield F_X4_22 (dT U_X4_add 20 rfl) (hset_ne (by decide) hL) (Nat.le_of_ble_eq_true rfl) (Nat.le_of_ble_eq_true rfl) rfl rfl ?_
      rw [List.set_comm _ _ (by decide)]
      refine x_aload_n (dT U_X4_add 21 rfl) rfl ?_
      refine x_getfield F_X4_22 (dT U_X4_add 22 rfl) (hset_ne (by decide) (hset_eq hL)) (Nat.le_of_ble_eq_true rfl) rfl ?_
      refine x_iconst (dT U_X4_add 23 rfl) ?_
      refine x_isub (dT U_X4_add 24 rfl) ?_
      rw [show (n : Int) + 1 - 1 = (n : Int) by omega]
      refine x_ireturn (dT U_X4_add 25 rfl) rfl ?_
      exact k
    · exfalso; omega

set_option maxRecDepth 20000 in
set_option maxHeartbeats 1000000 in
theorem S_X4_addMinted {G : xG} {d rc rs : Nat} {ex : Bool} {h : xH} {Q : xQ} {p n : Nat} {em pa e : Int} {gl : List Int} (hp5 : p ∈ PR) (hw : GW p h) (hl : h[54]? = some (cL n (MM p em) pa)) (hN : h[55]? = some (cA 0 gl)) (lN : gl.length = 16) (hn : n < 16) (hem : 0 ≤ em ∧ em < p) (he : 0 ≤ e ∧ e < p) (k : Q (.inl (some (vi (n : Int)))) ex ((h.set 54 (cL (n + 1) (MM p ((em + e) % (p : Int))) pa)).set 55 (cA 0 (gl.set n (MM p e))))) : X G m_X4_addMinted (d + 1) rc rs ex 0 (xe m_X4_addMinted.2.2.1 [.ref 54, vi (MM p e)]) [] h Q := by
  show X G m_X4_addMinted _ _ _ _ 0 [some (.ref 54), some (vi (MM p e))] [] h Q
  have hp := PRb hp5
  have hq := gq_b hp5
  obtain ⟨hf, hg, hml, hex, hbs⟩ := id hw
  have hL : h[54]? = some (cO 4 [.ref 5, .ref 55, vi (n : Int), vi (MM p em), vi pa]) := hl
  refine x_aload_n (dT U_X4_addMinted 0 rfl) rfl ?_
  refine x_aload_n (dT U_X4_addMinted 1 rfl) rfl ?_
  refine x_getfield F_X4_9 (dT U_X4_addMinted 2 rfl) hL (Nat.le_of_ble_eq_true rfl) rfl ?_
  refine x_aload_n (dT U_X4_addMinted 3 rfl) rfl ?_
  refine x_getfield F_X4_26 (dT U_X4_addMinted 4 rfl) hL (Nat.le_of_ble_eq_true rfl) rfl ?_
  refine x_iload_n (dT U_X4_addMinted 5 rfl) rfl ?_
  refine x_invokevirtual (rc' := rc) (rs' := rs) (rc2 := 0) (rs2 := 0) (As := [_, _]) (st := _) M_X3_product K_X4_32 (dT U_X4_addMinted 6 rfl) rfl rfl (by decide) rfl rfl hg (Nat.le_of_ble_eq_true rfl) (by decide) rfl (Nat.le_of_ble_eq_true rfl) rfl (by decide) (Nat.le_of_ble_eq_true rfl) rfl rfl ?_
  have m1 := MM_b hp5 hem
  have m2 := MM_b hp5 he
  refine S_X3_product hg (by omega) (by omega) (by omega) ?_
  rw [MM_mul hp5 hem he]
  refine xRet_some ?_
  refine x_putfield F_X4_26 (dT U_X4_addMinted 7 rfl) hL (Nat.le_of_ble_eq_true rfl) (Nat.le_of_ble_eq_true rfl) rfl rfl ?_
  refine x_aload_n (dT U_X4_addMinted 8 rfl) rfl ?_
  refine x_iload_n (dT U_X4_addMinted 9 rfl) rfl ?_
  refine x_invokevirtual (rc' := rc) (rs' := rs) (rc2 := 0) (rs2 := 0) (As := [_]) (st := _) M_X4_add K_X4_38 (dT U_X4_addMinted 10 rfl) rfl rfl (by decide) rfl rfl (hset_eq hL) (Nat.le_of_ble_eq_true rfl) (by decide) rfl (Nat.le_of_ble_eq_true rfl) rfl (by decide) (Nat.le_of_ble_eq_true rfl) rfl rfl ?_
  refine S_X4_add (hset_eq hL) (hset_ne (by decide) hN) lN hn ?_
  rw [List.set_set]
  refine xRet_some ?_
  refine x_ireturn (dT U_X4_addMinted 11 rfl) rfl ?_
  exact k

set_option maxRecDepth 20000 in
set_option maxHeartbeats 1000000 in
theorem S_X4_divideNote {G : xG} {d rc rs : Nat} {ex : Bool} {h : xH} {Q : xQ} {p n : Nat} {mi pa : Int} {gl : List Int}{i : Nat} {a e : Int} (hp5 : p ∈ PR) (hw : GW p h) (hl : h[54]? = some (cL n mi pa)) (hN : h[55]? = some (cA 0 gl)) (lN : gl.length = 16) (hn : n + 2 ≤ 16) (hi : i < n) (hv : gl.getD i 0 = MM p a) (ha : 0 ≤ a ∧ a < p) (he : 0 ≤ e ∧ e < p) (k : Q (.inl (some (vi (n : Int)))) ex ((h.set 54 (cL (n + 2) mi pa)).set 55 (cA 0 (((gl.set i 0).set n (MM p e)).set (n + 1) (MM p ((a - e) % (p : Int))))))) : X G m_X4_divideNote (d + 3) rc rs ex 0 (xe m_X4_divideNote.2.2.1 [.ref 54, vi (i : Int), vi (MM p e)]) [] h Q := by
  show X G m_X4_divideNote _ _ _ _ 0 [some (.ref 54), some (vi (i : Int)), some (vi (MM p e)), none, none] [] h Q
  have hp := PRb hp5
  have hq := gq_b hp5
  obtain ⟨hf, hg, hml, hex, hbs⟩ := id hw
  have hL : h[54]? = some (cO 4 [.ref 5, .ref 55, vi (n : Int), vi mi, vi pa]) := hl
  refine x_aload_n (dT U_X4_divideNote 0 rfl) rfl ?_
  refine x_getfield F_X4_9 (dT U_X4_divideNote 1 rfl) hL (Nat.le_of_ble_eq_true rfl) rfl ?_
  refine x_aload_n (dT U_X4_divideNote 2 rfl) rfl ?_
  refine x_getfield F_X4_15 (dT U_X4_divideNote 3 rfl) hL (Nat.le_of_ble_eq_true rfl) rfl ?_
  refine x_iload_n (dT U_X4_divideNote 4 rfl) rfl ?_
  refine x_iaload (i) (dT U_X4_divideNote 5 rfl) hN (Nat.le_of_ble_eq_true rfl) rfl (by omega) (by omega) ?_
  refine x_iload_n (dT U_X4_divideNote 6 rfl) rfl ?_
  refine x_invokevirtual (rc' := rc) (rs' := rs) (rc2 := 0) (rs2 := 0) (As := [_, _]) (st := _) M_X3_quotient K_X4_42 (dT U_X4_divideNote 7 rfl) rfl rfl (by decide) rfl rfl hg (Nat.le_of_ble_eq_true rfl) (by decide) rfl (Nat.le_of_ble_eq_true rfl) rfl (by decide) (Nat.le_of_ble_eq_true rfl) rfl rfl ?_
  rw [hv]
  refine S_X3_quotient hw hp5 ha he ?_
  refine xRet_some ?_
  refine x_istore_n (ls' := [some (.ref _), some (vi _), some (vi _), some (vi _), none]) (dT U_X4_divideNote 8 rfl) (by decide) rfl ?_
  refine x_aload_n (dT U_X4_divideNote 9 rfl) rfl ?_
  refine x_getfield F_X4_15 (dT U_X4_divideNote 10 rfl) hL (Nat.le_of_ble_eq_true rfl) rfl ?_
  refine x_iload_n (dT U_X4_divideNote 11 rfl) rfl ?_
  refine x_iconst (dT U_X4_divideNote 12 rfl) ?_
  refine x_iastore (i) (dT U_X4_divideNote 13 rfl) hN (Nat.le_of_ble_eq_true rfl) rfl (by omega) (by omega) ?_
  refine x_aload_n (dT U_X4_divideNote 14 rfl) rfl ?_
  refine x_iload_n (dT U_X4_divideNote 15 rfl) rfl ?_
  refine x_invokevirtual (rc' := rc) (rs' := rs) (rc2 := 0) (rs2 := 0) (As := [_]) (st := _) M_X4_add K_X4_38 (dT U_X4_divideNote 16 rfl) rfl rfl (by decide) rfl rfl (hset_ne (by decide) hL) (Nat.le_of_ble_eq_true rfl) (by decide) rfl (Nat.le_of_ble_eq_true rfl) rfl (by decide) (Nat.le_of_ble_eq_true rfl) rfl rfl ?_
  refine S_X4_add (hset_ne (by decide) hL) (hset_eq hN) (by rw [List.length_set, lN]) (by omega) ?_
  refine xRet_some ?_
  rw [st2a (by decide)]
  refine x_istore (ls' := [some (.ref _), some (vi _), some (vi _), some (vi _), some (vi _)]) (dT U_X4_divideNote 17 rfl) (by decide) rfl ?_
  refine x_aload_n (dT U_X4_divideNote 18 rfl) rfl ?_
  refine x_iload_n (dT U_X4_divideNote 19 rfl) rfl ?_
  refine x_invokevirtual (rc' := rc) (rs' := rs) (rc2 := 0) (rs2 := 0) (As := [_]) (st := _) M_X4_add K_X4_38 (dT U_X4_divideNote 20 rfl) rfl rfl (by decide) rfl rfl (hset_eq (hset_ne (by decide) hL)) (Nat.le_of_ble_eq_true rfl) (by decide) rfl (Nat.le_of_ble_eq_true rfl) rfl (by decide) (Nat.le_of_ble_eq_true rfl) rfl rfl ?_
  refine S_X4_add (n := n + 1) (hset_eq (hset_ne (by decide) hL)) (hset_ne (by decide) (hset_eq hN)) (by rw [List.length_set, List.length_set, lN]) (by omega) ?_
  refine xRet_some ?_
  rw [List.set_set, st2a (by decide), List.set_comm _ _ (show 55 ≠ 54 by decide)]
  refine x_pop (dT U_X4_divideNote 21 rfl) rfl ?_
  refine x_iload (dT U_X4_divideNote 22 rfl) rfl ?_
  refine x_ireturn (dT U_X4_divideNote 23 rfl) rfl ?_
  exact k

set_option maxRecDepth 20000 in
set_option maxHeartbeats 1000000 in
theorem S_X4_join {G : xG} {d rc rs : Nat} {ex : Bool} {h : xH} {Q : xQ} {p n : Nat} {mi pa : Int} {gl : List Int}{i j : Nat} {a b : Int} (hp5 : p ∈ PR) (hw : GW p h) (hl : h[54]? = some (cL n mi pa)) (hN : h[55]? = some (cA 0 gl)) (lN : gl.length = 16) (hn : n < 16) (hi : i < n) (hj : j < n) (hv : gl.getD i 0 = MM p a) (hv2 : gl.getD j 0 = MM p b) (ha : 0 ≤ a ∧ a < p) (hb : 0 ≤ b ∧ b < p) (k : Q (.inl (some (vi (n : Int)))) ex ((h.set 54 (cL (n + 1) mi pa)).set 55 (cA 0 (((gl.set i 0).set j 0).set n (MM p ((a + b) % (p : Int))))))) : X G m_X4_join (d + 1) rc rs ex 0 (xe m_X4_join.2.2.1 [.ref 54, vi (i : Int), vi (j : Int)]) [] h Q := by
  show X G m_X4_join _ _ _ _ 0 [some (.ref 54), some (vi (i : Int)), some (vi (j : Int)), none] [] h Q
  have hp := PRb hp5
  have hq := gq_b hp5
  obtain ⟨hf, hg, hml, hex, hbs⟩ := id hw
  have hL : h[54]? = some (cO 4 [.ref 5, .ref 55, vi (n : Int), vi mi, vi pa]) := hl
  refine x_aload_n (dT U_X4_join 0 rfl) rfl ?_
  refine x_getfield F_X4_9 (dT U_X4_join 1 rfl) hL (Nat.le_of_ble_eq_true rfl) rfl ?_
  refine x_aload_n (dT U_X4_join 2 rfl) rfl ?_
  refine x_getfield F_X4_15 (dT U_X4_join 3 rfl) hL (Nat.le_of_ble_eq_true rfl) rfl ?_
  refine x_iload_n (dT U_X4_join 4 rfl) rfl ?_
  refine x_iaload (i) (dT U_X4_join 5 rfl) hN (Nat.le_of_ble_eq_true rfl) rfl (by omega) (by omega) ?_
  refine x_aload_n (dT U_X4_join 6 rfl) rfl ?_
  refine x_getfield F_X4_15 (dT U_X4_join 7 rfl) hL (Nat.le_of_ble_eq_true rfl) rfl ?_
  refine x_iload_n (dT U_X4_join 8 rfl) rfl ?_
  refine x_iaload (j) (dT U_X4_join 9 rfl) hN (Nat.le_of_ble_eq_true rfl) rfl (by omega) (by omega) ?_
  refine x_invokevirtual (rc' := rc) (rs' := rs) (rc2 := 0) (rs2 := 0) (As := [_, _]) (st := _) M_X3_product K_X4_32 (dT U_X4_join 10 rfl) rfl rfl (by decide) rfl rfl hg (Nat.le_of_ble_eq_true rfl) (by decide) rfl (Nat.le_of_ble_eq_true rfl) rfl (by decide) (Nat.le_of_ble_eq_true rfl) rfl rfl ?_
  rw [hv, hv2]
  have m1 := MM_b hp5 ha
  have m2 := MM_b hp5 hb
  refine S_X3_product hg (by omega) (by omega) (by omega) ?_
  rw [MM_mul hp5 ha hb]
  refine xRet_some ?_
  refine x_istore_n (ls' := [some (.ref _), some (vi _), some (vi _), some (vi _)]) (dT U_X4_join 11 rfl) (by decide) rfl ?_
  refine x_aload_n (dT U_X4_join 12 rfl) rfl ?_
  refine x_getfield F_X4_15 (dT U_X4_join 13 rfl) hL (Nat.le_of_ble_eq_true rfl) rfl ?_
  refine x_iload_n (dT U_X4_join 14 rfl) rfl ?_
  refine x_iconst (dT U_X4_join 15 rfl) ?_
  refine x_iastore (i) (dT U_X4_join 16 rfl) hN (Nat.le_of_ble_eq_true rfl) rfl (by omega) (by omega) ?_
  refine x_aload_n (dT U_X4_join 17 rfl) rfl ?_
  refine x_getfield F_X4_15 (dT U_X4_join 18 rfl) (hset_ne (by decide) hL) (Nat.le_of_ble_eq_true rfl) rfl ?_
  refine x_iload_n (dT U_X4_join 19 rfl) rfl ?_
  refine x_iconst (dT U_X4_join 20 rfl) ?_
  refine x_iastore (j) (dT U_X4_join 21 rfl) (hset_eq hN) (Nat.le_of_ble_eq_true rfl) rfl (by rw [List.length_set]; omega) (by rw [List.length_set]; omega) ?_
  rw [List.set_set]
  refine x_aload_n (dT U_X4_join 22 rfl) rfl ?_
  refine x_iload_n (dT U_X4_join 23 rfl) rfl ?_
  refine x_invokevirtual (rc' := rc) (rs' := rs) (rc2 := 0) (rs2 := 0) (As := [_]) (st := _) M_X4_add K_X4_38 (dT U_X4_join 24 rfl) rfl rfl (by decide) rfl rfl (hset_ne (by decide) hL) (Nat.le_of_ble_eq_true rfl) (by decide) rfl (Nat.le_of_ble_eq_true rfl) rfl (by decide) (Nat.le_of_ble_eq_true rfl) rfl rfl ?_
  refine S_X4_add (hset_ne (by decide) hL) (hset_eq hN) (by rw [List.length_set, List.length_set, lN]) (by omega) ?_
  rw [st2a (by decide), List.set_comm _ _ (show 55 ≠ 54 by decide)]
  refine xRet_some ?_
  refine x_ireturn (dT U_X4_join 25 rfl) rfl ?_
  exact k

set_option maxRecDepth 20000 in
set_option maxHeartbeats 1000000 in
theorem S_X4_payOut {G : xG} {d rc rs : Nat} {ex : Bool} {h : xH} {Q : xQ} {p n i : Nat} {mi ep a : Int} {gl : List Int} (hp5 : p ∈ PR) (hw : GW p h) (hl : h[54]? = some (cL n mi (MM p ep))) (hN : h[55]? = some (cA 0 gl)) (lN : gl.length = 16) (hn : n ≤ 16) (hi : i < n) (hv : gl.getD i 0 = MM p a) (ha : 0 ≤ a ∧ a < p) (hep : 0 ≤ ep ∧ ep < p) (k : Q (.inl none) ex ((h.set 54 (cL n mi (MM p ((ep + a) % (p : Int))))).set 55 (cA 0 (gl.set i 0)))) : X G m_X4_payOut (d + 1) rc rs ex 0 (xe m_X4_payOut.2.2.1 [.ref 54, vi (i : Int)]) [] h Q := by
  show X G m_X4_payOut _ _ _ _ 0 [some (.ref 54), some (vi (i : Int))] [] h Q
  have hp := PRb hp5
  have hq := gq_b hp5
  obtain ⟨hf, hg, hml, hex, hbs⟩ := id hw
  have hL : h[54]? = some (cO 4 [.ref 5, .ref 55, vi (n : Int), vi mi, vi (MM p ep)]) := hl
  refine x_aload_n (dT U_X4_payOut 0 rfl) rfl ?_
  refine x_aload_n (dT U_X4_payOut 1 rfl) rfl ?_
  refine x_getfield F_X4_9 (dT U_X4_payOut 2 rfl) hL (Nat.le_of_ble_eq_true rfl) rfl ?_
  refine x_aload_n (dT U_X4_payOut 3 rfl) rfl ?_
  refine x_getfield F_X4_29 (dT U_X4_payOut 4 rfl) hL (Nat.le_of_ble_eq_true rfl) rfl ?_
  refine x_aload_n (dT U_X4_payOut 5 rfl) rfl ?_
  refine x_getfield F_X4_15 (dT U_X4_payOut 6 rfl) hL (Nat.le_of_ble_eq_true rfl) rfl ?_
  refine x_iload_n (dT U_X4_payOut 7 rfl) rfl ?_
  refine x_iaload (i) (dT U_X4_payOut 8 rfl) hN (Nat.le_of_ble_eq_true rfl) rfl (by omega) (by omega) ?_
  refine x_invokevirtual (rc' := rc) (rs' := rs) (rc2 := 0) (rs2 := 0) (As := [_, _]) (st := _) M_X3_product K_X4_32 (dT U_X4_payOut 9 rfl) rfl rfl (by decide) rfl rfl hg (Nat.le_of_ble_eq_true rfl) (by decide) rfl (Nat.le_of_ble_eq_true rfl) rfl (by decide) (Nat.le_of_ble_eq_true rfl) rfl rfl ?_
  rw [hv]
  have m1 := MM_b hp5 hep
  have m2 := MM_b hp5 ha
  refine S_X3_product hg (by omega) (by omega) (by omega) ?_
  rw [MM_mul hp5 hep ha]
  refine xRet_some ?_
  refine x_putfield F_X4_29 (dT U_X4_payOut 10 rfl) hL (Nat.le_of_ble_eq_true rfl) (Nat.le_of_ble_eq_true rfl) rfl rfl ?_
  refine x_aload_n (dT U_X4_payOut 11 rfl) rfl ?_
  refine x_getfield F_X4_15 (dT U_X4_payOut 12 rfl) (hset_eq hL) (Nat.le_of_ble_eq_true rfl) rfl ?_
  refine x_iload_n (dT U_X4_payOut 13 rfl) rfl ?_
  refine x_iconst (dT U_X4_payOut 14 rfl) ?_
  refine x_iastore (i) (dT U_X4_payOut 15 rfl) (hset_ne (by decide) hN) (Nat.le_of_ble_eq_true rfl) rfl (by omega) (by omega) ?_
  refine x_return (dT U_X4_payOut 16 rfl) rfl ?_
  exact k

theorem nv_b {p : Nat} {e : Int} (hp : p ∈ PR) (h : e = -1 ∨ (0 ≤ e ∧ e < p)) : (0 ≤ nv p e ∧ nv p e < 192) ∧ (nv p e = 0 → e = -1) ∧ (¬ nv p e = 0 → ¬ e = -1 ∧ nv p e = MM p e) := by
  have hq := gq_b hp
  unfold nv
  by_cases c : e = -1
  · rw [if_pos c]
    exact ⟨by omega, fun _ => c, fun q => absurd rfl q⟩
  · rw [if_neg c]
    have := MM_b hp (e := e) (by omega)
    exact ⟨by omega, fun q => by omega, fun _ => ⟨c, rfl⟩⟩
theorem stnd_b {p : Nat} {f : Nat → Int} (hp : 2 < p) (n : Nat) : 0 ≤ stnd p f n ∧ stnd p f n < p := modb (by omega)
theorem stnd_y {p : Nat} {f : Nat → Int} {n : Nat} (h : f n = -1) : stnd p f (n + 1) = stnd p f n := by
  show (sm _ n + (if f n = -1 then 0 else f n)) % _ = _
  rw [if_pos h, Int.add_zero]
  rfl
theorem stnd_n {p : Nat} {f : Nat → Int} {n : Nat} (h : ¬ f n = -1) : stnd p f (n + 1) = (stnd p f n + f n) % (p : Int) := by
  show (sm _ n + (if f n = -1 then 0 else f n)) % _ = _
  rw [if_neg h]
  unfold stnd
  rw [am_l]

set_option maxRecDepth 20000 in
set_option maxHeartbeats 1000000 in
theorem S_X4_productOfStanding {G : xG} {d rc rs : Nat} {ex : Bool} {h : xH} {Q : xQ} {p cn : Nat} {mi pa : Int} {gl : List Int}{f : Nat → Int} (hp5 : p ∈ PR) (hw : GW p h) (hl : h[54]? = some (cL cn mi pa)) (hN : h[55]? = some (cA 0 gl)) (lN : gl.length = 16) (hn : cn ≤ 16) (hg9 : ∀ i, i < cn → gl.getD i 0 = nv p (f i)) (hf9 : ∀ i, i < cn → f i = -1 ∨ (0 ≤ f i ∧ f i < p)) (k : Q (.inl (some (vi (MM p (stnd p f cn))))) ex h) : X G m_X4_productOfStanding (d + 1) rc rs ex 0 (xe m_X4_productOfStanding.2.2.1 [.ref 54]) [] h Q := by
  show X G m_X4_productOfStanding _ _ _ _ 0 [some (.ref 54), none, none] [] h Q
  have hp := PRb hp5
  have hq := gq_b hp5
  obtain ⟨hf, hg, hml, hex, hbs⟩ := id hw
  have hL : h[54]? = some (cO 4 [.ref 5, .ref 55, vi (cn : Int), vi mi, vi pa]) := hl
  have L : ∀ (n i : Nat), i + n = cn → X G m_X4_productOfStanding (d + 1) rc rs ex 4 [some (.ref 54), some (vi (MM p (stnd p f i))), some (vi (i : Int))] [] h Q := by
    intro n
    induction n with
    | zero =>
      intro i hi 
      refine x_iload_n (dT U_X4_productOfStanding 4 rfl) rfl ?_
      refine x_aload_n (dT U_X4_productOfStanding 5 rfl) rfl ?_
      refine x_getfield F_X4_22 (dT U_X4_productOfStanding 6 rfl) hL (Nat.le_of_ble_eq_true rfl) rfl ?_
      refine x_icmp_ge (tgt := 48) (dT U_X4_productOfStanding 7 rfl) (by decide) (by unfold xr at *; omega) (by unfold xr at *; omega) (fun c9 => ?_) (fun c9 => ?_)
      · skip
        refine x_iload_n (dT U_X4_productOfStanding 27 rfl) rfl ?_
        refine x_ireturn (dT U_X4_productOfStanding 28 rfl) rfl ?_
        have e : i = cn := by omega
        subst e
        exact k
      · exfalso; omega
    | succ n ih =>
      intro i hi 
      refine x_iload_n (dT U_X4_productOfStanding 4 rfl) rfl ?_
      refine x_aload_n (dT U_X4_productOfStanding 5 rfl) rfl ?_
      refine x_getfield F_X4_22 (dT U_X4_productOfStanding 6 rfl) hL (Nat.le_of_ble_eq_true rfl) rfl ?_
      refine x_icmp_ge (tgt := 48) (dT U_X4_productOfStanding 7 rfl) (by decide) (by unfold xr at *; omega) (by unfold xr at *; omega) (fun c9 => ?_) (fun c9 => ?_)
      · exfalso; omega
      · skip
        refine x_iload_n (dT U_X4_productOfStanding 8 rfl) rfl ?_
        refine x_bipush (dT U_X4_productOfStanding 9 rfl) (by decide) ?_
        refine x_icmp_ge (tgt := 48) (dT U_X4_productOfStanding 10 rfl) (by decide) (by unfold xr at *; omega) (by unfold xr at *; omega) (fun c15 => ?_) (fun c15 => ?_)
        · exfalso; omega
        · skip
          refine x_aload_n (dT U_X4_productOfStanding 11 rfl) rfl ?_
          refine x_getfield F_X4_15 (dT U_X4_productOfStanding 12 rfl) hL (Nat.le_of_ble_eq_true rfl) rfl ?_
          refine x_iload_n (dT U_X4_productOfStanding 13 rfl) rfl ?_
          have g1 := hg9 i (by omega)
          have f1 := hf9 i (by omega)
          have sb := stnd_b (p := p) (f := f) hp.1 i
          refine x_iaload (i) (dT U_X4_productOfStanding 14 rfl) hN (Nat.le_of_ble_eq_true rfl) rfl (by omega) (by omega) ?_
          have nb := nv_b hp5 f1
          rw [← g1] at nb
          refine x_if_eq (tgt := 42) (dT U_X4_productOfStanding 15 rfl) (by decide) (by unfold xr; omega) (fun c24 => ?_) (fun c24 => ?_)
          · skip
            have e1 := stnd_y (p := p) (nb.2.1 (by omega))
            refine x_iinc (ls' := [some (.ref _), some (vi _), some (vi _)]) (dT U_X4_productOfStanding 25 rfl) (by decide) rfl rfl ?_
            refine x_goto (tgt := 4) (dT U_X4_productOfStanding 26 rfl) (by decide) ?_
            have q := ih (i + 1) (by omega)
            rw [e1] at q
            exact q
          · skip
            have e0 := nb.2.2 (by omega)
            have e1 := stnd_n (p := p) e0.1
            refine x_aload_n (dT U_X4_productOfStanding 16 rfl) rfl ?_
            refine x_getfield F_X4_9 (dT U_X4_productOfStanding 17 rfl) hL (Nat.le_of_ble_eq_true rfl) rfl ?_
            refine x_iload_n (dT U_X4_productOfStanding 18 rfl) rfl ?_
            refine x_aload_n (dT U_X4_productOfStanding 19 rfl) rfl ?_
            refine x_getfield F_X4_15 (dT U_X4_productOfStanding 20 rfl) hL (Nat.le_of_ble_eq_true rfl) rfl ?_
            refine x_iload_n (dT U_X4_productOfStanding 21 rfl) rfl ?_
            refine x_iaload (i) (dT U_X4_productOfStanding 22 rfl) hN (Nat.le_of_ble_eq_true rfl) rfl (by omega) (by omega) ?_
            refine x_invokevirtual (rc' := rc) (rs' := rs) (rc2 := 0) (rs2 := 0) (As := [_, _]) (st := _) M_X3_product K_X4_32 (dT U_X4_productOfStanding 23 rfl) rfl rfl (by decide) rfl rfl hg (Nat.le_of_ble_eq_true rfl) (by decide) rfl (Nat.le_of_ble_eq_true rfl) rfl (by decide) (Nat.le_of_ble_eq_true rfl) rfl rfl ?_
            rw [e0.2]
            have m1 := MM_b hp5 sb
            have m2 := MM_b hp5 (e := f i) (by omega)
            refine S_X3_product hg (by omega) (by omega) (by omega) ?_
            rw [MM_mul hp5 sb (by omega)]
            refine xRet_some ?_
            refine x_istore_n (ls' := [some (.ref _), some (vi _), some (vi _)]) (dT U_X4_productOfStanding 24 rfl) (by decide) rfl ?_
            refine x_iinc (ls' := [some (.ref _), some (vi _), some (vi _)]) (dT U_X4_productOfStanding 25 rfl) (by decide) rfl rfl ?_
            refine x_goto (tgt := 4) (dT U_X4_productOfStanding 26 rfl) (by decide) ?_
            have q := ih (i + 1) (by omega)
            rw [e1] at q
            exact q
  refine x_iconst (dT U_X4_productOfStanding 0 rfl) ?_
  refine x_istore_n (ls' := [some (.ref _), some (vi _), none]) (dT U_X4_productOfStanding 1 rfl) (by decide) rfl ?_
  refine x_iconst (dT U_X4_productOfStanding 2 rfl) ?_
  refine x_istore_n (ls' := [some (.ref _), some (vi _), some (vi _)]) (dT U_X4_productOfStanding 3 rfl) (by decide) rfl ?_
  have q := L cn 0 (by omega)
  rw [show stnd p f 0 = 0 from Int.zero_emod _, MM_0 hp5] at q
  exact q

set_option maxRecDepth 20000 in
set_option maxHeartbeats 1000000 in
theorem S_X4_isBalanced {G : xG} {d rc rs : Nat} {ex : Bool} {h : xH} {Q : xQ} {p n : Nat} {em ep : Int} {gl : List Int}{f : Nat → Int} (hp5 : p ∈ PR) (hw : GW p h) (hl : h[54]? = some (cL n (MM p em) (MM p ep))) (hN : h[55]? = some (cA 0 gl)) (lN : gl.length = 16) (hn : n ≤ 16) (hg9 : ∀ i, i < n → gl.getD i 0 = nv p (f i)) (hf9 : ∀ i, i < n → f i = -1 ∨ (0 ≤ f i ∧ f i < p)) (hep : 0 ≤ ep ∧ ep < p) (hem : em = (stnd p f n + ep) % (p : Int)) (k : Q (.inl (some (vi 1))) ex h) : X G m_X4_isBalanced (d + 2) rc rs ex 0 (xe m_X4_isBalanced.2.2.1 [.ref 54]) [] h Q := by
  show X G m_X4_isBalanced _ _ _ _ 0 [some (.ref 54)] [] h Q
  have hp := PRb hp5
  have hq := gq_b hp5
  obtain ⟨hf, hg, hml, hex, hbs⟩ := id hw
  have hL : h[54]? = some (cO 4 [.ref 5, .ref 55, vi (n : Int), vi (MM p em), vi (MM p ep)]) := hl
  refine x_aload_n (dT U_X4_isBalanced 0 rfl) rfl ?_
  refine x_getfield F_X4_26 (dT U_X4_isBalanced 1 rfl) hL (Nat.le_of_ble_eq_true rfl) rfl ?_
  refine x_aload_n (dT U_X4_isBalanced 2 rfl) rfl ?_
  refine x_getfield F_X4_9 (dT U_X4_isBalanced 3 rfl) hL (Nat.le_of_ble_eq_true rfl) rfl ?_
  refine x_aload_n (dT U_X4_isBalanced 4 rfl) rfl ?_
  refine x_invokevirtual (rc' := rc) (rs' := rs) (rc2 := 0) (rs2 := 0) (As := []) (st := _) M_X4_productOfStanding K_X4_45 (dT U_X4_isBalanced 5 rfl) rfl rfl (by decide) rfl rfl hL (Nat.le_of_ble_eq_true rfl) (by decide) rfl (Nat.le_of_ble_eq_true rfl) rfl (by decide) (Nat.le_of_ble_eq_true rfl) rfl rfl ?_
  refine S_X4_productOfStanding hp5 hw hl hN lN hn hg9 hf9 ?_
  refine xRet_some ?_
  refine x_aload_n (dT U_X4_isBalanced 6 rfl) rfl ?_
  refine x_getfield F_X4_29 (dT U_X4_isBalanced 7 rfl) hL (Nat.le_of_ble_eq_true rfl) rfl ?_
  refine x_invokevirtual (rc' := rc) (rs' := rs) (rc2 := 0) (rs2 := 0) (As := [_, _]) (st := _) M_X3_product K_X4_32 (dT U_X4_isBalanced 8 rfl) rfl rfl (by decide) rfl rfl hg (Nat.le_of_ble_eq_true rfl) (by decide) rfl (Nat.le_of_ble_eq_true rfl) rfl (by decide) (Nat.le_of_ble_eq_true rfl) rfl rfl ?_
  have sb := stnd_b (p := p) (f := f) hp.1 n
  have m1 := MM_b hp5 sb
  have m2 := MM_b hp5 hep
  refine S_X3_product hg (by omega) (by omega) (by omega) ?_
  rw [MM_mul hp5 sb hep, ← hem]
  have sb2 := modb (z := stnd p f n + ep) (p := (p : Int)) (by omega)
  rw [← hem] at sb2
  have m3 := MM_b hp5 sb2
  refine xRet_some ?_
  refine x_icmp_ne (tgt := 26) (dT U_X4_isBalanced 9 rfl) (by decide) (by unfold xr; omega) (by unfold xr; omega) (fun c19 => ?_) (fun c19 => ?_)
  · exact absurd rfl c19
  · skip
    refine x_iconst (dT U_X4_isBalanced 10 rfl) ?_
    refine x_goto (tgt := 27) (dT U_X4_isBalanced 11 rfl) (by decide) ?_
    refine x_zreturn (dT U_X4_isBalanced 13 rfl) rfl (by omega) ?_
    exact k
