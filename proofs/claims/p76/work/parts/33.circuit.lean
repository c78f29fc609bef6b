def rowsL : List (Option Nat) := [some 10, some 11, some 12, some 13, some 14, some 15, some 16, some 17]
theorem rowsL_get0 : ∀ j ∈ List.range 8, rowsL[j]? = some (some (10 + j)) := by decide
theorem rowsL_get {j : Nat} (h : j < 8) : rowsL[j]? = some (some (10 + j)) := rowsL_get0 j (List.mem_range.mpr h)
def cC (n : Nat) : xC := cO 0 [.ref 4, .ref 9, .ref 48, .ref 49, .ref 50, .ref 51, vi (n : Int)]
def tf (p : Int) (a : Int) (r : Nat → Int) : Nat → Int
  | 0 => 1
  | i + 1 => (tf p a r i * (a - r i)) % p
theorem tf_b {p a : Int} {r : Nat → Int} (hp : 2 < p) : ∀ i, 0 ≤ tf p a r i ∧ tf p a r i < p
  | 0 => by unfold tf; omega
  | i + 1 => modb (by omega)
def gfault (p : Int) (rw : Nat → List Int) (x : Nat → Int) (k a b c : Int) : Int :=
  if k = 0 then (x a.toNat + x b.toNat - x c.toNat) % p else if k = 1 then (x a.toNat * x b.toNat - x c.toNat) % p else if k = 2 then (x a.toNat - b) % p else if k = 3 then (x a.toNat * x a.toNat - x a.toNat) % p else tf p (x a.toNat) (gf (rw b.toNat)) 8
theorem gfault_b {p : Int} {rw : Nat → List Int} {x : Nat → Int} {k a b c : Int} (hp : 2 < p) : 0 ≤ gfault p rw x k a b c ∧ gfault p rw x k a b c < p := by
  unfold gfault
  split
  · exact modb (by omega)
  · split
    · exact modb (by omega)
    · split
      · exact modb (by omega)
      · split
        · exact modb (by omega)
        · exact tf_b hp 8
/-- a gate that stands -/
abbrev gok (p k a b c : Int) : Prop := (0 ≤ k ∧ k ≤ 4) ∧ (0 ≤ a ∧ a < 8) ∧ (k = 0 ∨ k = 1 → (0 ≤ b ∧ b < 8) ∧ (0 ≤ c ∧ c < 8)) ∧ (k = 2 → 0 ≤ b ∧ b < p) ∧ (k = 4 → 0 ≤ b ∧ b < 8)
/-- the circuit's cells -/
abbrev CA (p n : Nat) (rw : Nat → List Int) (gk ga gb gc : List Int) (h : xH) : Prop := h[4]? = some (cO 1 [vi (p : Int)]) ∧ h[9]? = some (cQ 4 rowsL) ∧ (∀ j, j < 8 → h[10 + j]? = some (cA 0 (rw j))) ∧ h[47]? = some (cC n) ∧ (h[48]? = some (cA 0 gk) ∧ gk.length = 8) ∧ (h[49]? = some (cA 0 ga) ∧ ga.length = 8) ∧ (h[50]? = some (cA 0 gb) ∧ gb.length = 8) ∧ (h[51]? = some (cA 0 gc) ∧ gc.length = 8)

set_option maxRecDepth 20000 in
set_option maxHeartbeats 1000000 in
theorem S_X0_numberAt {G : xG} {d rc rs : Nat} {ex : Bool} {h : xH} {Q : xQ} {p i xa : Nat} {xl : List Int} (hx : h[xa]? = some (cA 0 xl)) (x3 : 3 ≤ xa) (lx : Fl (p : Int) xl) (hi : i < 8) (k : Q (.inl (some (vi (gf xl i)))) ex h) : X G m_X0_numberAt d rc rs ex 0 (xe m_X0_numberAt.2.2.1 [.ref xa, vi (i : Int)]) [] h Q := by
  show X G m_X0_numberAt _ _ _ _ 0 [some (.ref xa), some (vi (i : Int))] [] h Q
  refine x_iload_n (dT U_X0_numberAt 0 rfl) rfl ?_
  refine x_if_lt (tgt := 16) (dT U_X0_numberAt 1 rfl) (by decide) (by unfold xr at *; omega) (fun c1 => ?_) (fun c1 => ?_)
  · exfalso; omega
  · skip
    refine x_iload_n (dT U_X0_numberAt 2 rfl) rfl ?_
    refine x_bipush (dT U_X0_numberAt 3 rfl) (by decide) ?_
    refine x_icmp_ge (tgt := 16) (dT U_X0_numberAt 4 rfl) (by decide) (by unfold xr at *; omega) (by unfold xr at *; omega) (fun c7 => ?_) (fun c7 => ?_)
    · exfalso; omega
    · skip
      refine x_aload_n (dT U_X0_numberAt 5 rfl) rfl ?_
      refine x_iload_n (dT U_X0_numberAt 6 rfl) rfl ?_
      refine x_iaload (i) (dT U_X0_numberAt 7 rfl) hx x3 rfl (by rw [lx.1]; omega) (by rw [lx.1]; omega) ?_
      refine x_goto (tgt := 17) (dT U_X0_numberAt 8 rfl) (by decide) ?_
      refine x_ireturn (dT U_X0_numberAt 10 rfl) rfl ?_
      exact k

set_option maxRecDepth 20000 in
set_option maxHeartbeats 1000000 in
theorem S_X0_tableFault {G : xG} {d rc rs : Nat} {ex : Bool} {h : xH} {Q : xQ} {p n : Nat} {rw : Nat → List Int} {gk ga gb gc : List Int} {a : Int} {b : Nat} (hp5 : p ∈ PR) (hc : CA p n rw gk ga gb gc h) (frw : ∀ j, j < 8 → Fl (p : Int) (rw j)) (ha9 : 0 ≤ a ∧ a < p) (hb9 : b < 8) (k : Q (.inl (some (vi (tf p a (gf (rw b)) 8)))) ex h) : X G m_X0_tableFault (d + 1) rc rs ex 0 (xe m_X0_tableFault.2.2.1 [.ref 47, vi a, vi (b : Int)]) [] h Q := by
  show X G m_X0_tableFault _ _ _ _ 0 [some (.ref 47), some (vi a), some (vi (b : Int)), none, none] [] h Q
  have hp := PRb hp5
  obtain ⟨hf, h9, hrw, hC, ⟨hk, lk⟩, ⟨ha, la⟩, ⟨hb, lb⟩, ⟨hcc, lc⟩⟩ := id hc
  have hC : h[47]? = some (cO 0 [.ref 4, .ref 9, .ref 48, .ref 49, .ref 50, .ref 51, vi (n : Int)]) := hC
  have L : ∀ (n i : Nat), i + n = 8 → X G m_X0_tableFault (d + 1) rc rs ex 17 [some (.ref 47), some (vi a), some (vi (b : Int)), some (vi (tf p a (gf (rw b)) i)), some (vi (i : Int))] [] h Q := by
    intro n
    induction n with
    | zero =>
      intro i hi 
      refine x_iload (dT U_X0_tableFault 11 rfl) rfl ?_
      refine x_bipush (dT U_X0_tableFault 12 rfl) (by decide) ?_
      refine x_icmp_ge (tgt := 51) (dT U_X0_tableFault 13 rfl) (by decide) (by unfold xr at *; omega) (by unfold xr at *; omega) (fun c21 => ?_) (fun c21 => ?_)
      · skip
        refine x_iload_n (dT U_X0_tableFault 30 rfl) rfl ?_
        refine x_ireturn (dT U_X0_tableFault 31 rfl) rfl ?_
        have e : i = 8 := by omega
        subst e
        exact k
      · exfalso; omega
    | succ n ih =>
      intro i hi 
      refine x_iload (dT U_X0_tableFault 11 rfl) rfl ?_
      refine x_bipush (dT U_X0_tableFault 12 rfl) (by decide) ?_
      refine x_icmp_ge (tgt := 51) (dT U_X0_tableFault 13 rfl) (by decide) (by unfold xr at *; omega) (by unfold xr at *; omega) (fun c21 => ?_) (fun c21 => ?_)
      · exfalso; omega
      · skip
        refine x_aload_n (dT U_X0_tableFault 14 rfl) rfl ?_
        refine x_getfield F_X0_9 (dT U_X0_tableFault 15 rfl) hC (Nat.le_of_ble_eq_true rfl) rfl ?_
        refine x_iload_n (dT U_X0_tableFault 16 rfl) rfl ?_
        refine x_iload_n (dT U_X0_tableFault 17 rfl) rfl ?_
        refine x_aload_n (dT U_X0_tableFault 18 rfl) rfl ?_
        refine x_getfield F_X0_15 (dT U_X0_tableFault 19 rfl) hC (Nat.le_of_ble_eq_true rfl) rfl ?_
        refine x_iload_n (dT U_X0_tableFault 20 rfl) rfl ?_
        refine x_aaload (b) (dT U_X0_tableFault 21 rfl) h9 (Nat.le_of_ble_eq_true rfl) (by decide) rfl (rowsL_get hb9) (Nat.le_of_ble_eq_true rfl) ?_
        refine x_iload (dT U_X0_tableFault 22 rfl) rfl ?_
        refine x_iaload (i) (dT U_X0_tableFault 23 rfl) (hrw b hb9) (by omega) rfl (by rw [(frw b hb9).1]; omega) (by rw [(frw b hb9).1]; omega) ?_
        refine x_isub (dT U_X0_tableFault 24 rfl) ?_
        refine x_imul (dT U_X0_tableFault 25 rfl) ?_
        refine x_invokevirtual (rc' := rc) (rs' := rs) (rc2 := 0) (rs2 := 0) (As := [_]) (st := _) M_X1_rest K_X0_44 (dT U_X0_tableFault 26 rfl) rfl rfl (by decide) rfl rfl hf (Nat.le_of_ble_eq_true rfl) (by decide) rfl (Nat.le_of_ble_eq_true rfl) rfl (by decide) (Nat.le_of_ble_eq_true rfl) rfl rfl ?_
        have v1 := tf_b (p := (p : Int)) (a := a) (r := gf (rw b)) (by omega) i
        have v2 := (frw b hb9).2 i
        have v3 := mulb2 (a := a - (rw b).getD i 0) (b := tf p a (gf (rw b)) i) (p := (p : Int)) (by omega) v1 (by omega)
        rw [Int.mul_comm] at v3
        refine S_X1_rest hf hp (by unfold xr; omega) ?_
        refine xRet_some ?_
        refine x_istore_n (ls' := [some (.ref _), some (vi _), some (vi _), some (vi _), some (vi _)]) (dT U_X0_tableFault 27 rfl) (by decide) rfl ?_
        refine x_iinc (ls' := [some (.ref _), some (vi _), some (vi _), some (vi _), some (vi _)]) (dT U_X0_tableFault 28 rfl) (by decide) rfl rfl ?_
        refine x_goto (tgt := 17) (dT U_X0_tableFault 29 rfl) (by decide) ?_
        exact ih (i + 1) (by omega)
  refine x_iload_n (dT U_X0_tableFault 0 rfl) rfl ?_
  refine x_if_lt (tgt := 10) (dT U_X0_tableFault 1 rfl) (by decide) (by unfold xr at *; omega) (fun c1 => ?_) (fun c1 => ?_)
  · exfalso; omega
  · skip
    refine x_iload_n (dT U_X0_tableFault 2 rfl) rfl ?_
    refine x_bipush (dT U_X0_tableFault 3 rfl) (by decide) ?_
    refine x_icmp_lt (tgt := 12) (dT U_X0_tableFault 4 rfl) (by decide) (by unfold xr at *; omega) (by unfold xr at *; omega) (fun c7 => ?_) (fun c7 => ?_)
    · skip
      refine x_iconst (dT U_X0_tableFault 7 rfl) ?_
      refine x_istore_n (ls' := [some (.ref _), some (vi _), some (vi _), some (vi _), none]) (dT U_X0_tableFault 8 rfl) (by decide) rfl ?_
      refine x_iconst (dT U_X0_tableFault 9 rfl) ?_
      refine x_istore (ls' := [some (.ref _), some (vi _), some (vi _), some (vi _), some (vi _)]) (dT U_X0_tableFault 10 rfl) (by decide) rfl ?_
      exact L 8 0 (by omega)
    · exfalso; omega

set_option maxRecDepth 20000 in
set_option maxHeartbeats 1000000 in
theorem S_X0_faultOf {G : xG} {d rc rs : Nat} {ex : Bool} {h : xH} {Q : xQ} {p n : Nat} {rw : Nat → List Int} {gk ga gb gc : List Int} {i xa : Nat} {xl : List Int} (hp5 : p ∈ PR) (hc : CA p n rw gk ga gb gc h) (frw : ∀ j, j < 8 → Fl (p : Int) (rw j)) (hx : h[xa]? = some (cA 0 xl)) (x3 : 3 ≤ xa) (lx : Fl (p : Int) xl) (hi : i < 8) (hg : gok (p : Int) (gk.getD i 0) (ga.getD i 0) (gb.getD i 0) (gc.getD i 0)) (k : Q (.inl (some (vi (gfault p rw (gf xl) (gk.getD i 0) (ga.getD i 0) (gb.getD i 0) (gc.getD i 0))))) ex h) : X G m_X0_faultOf (d + 2) rc rs ex 0 (xe m_X0_faultOf.2.2.1 [.ref 47, vi (i : Int), .ref xa]) [] h Q := by
  show X G m_X0_faultOf _ _ _ _ 0 [some (.ref 47), some (vi (i : Int)), some (.ref xa), none, none] [] h Q
  have hp := PRb hp5
  obtain ⟨hf, h9, hrw, hC, ⟨hk, lk⟩, ⟨ha, la⟩, ⟨hb, lb⟩, ⟨hcc, lc⟩⟩ := id hc
  have hC : h[47]? = some (cO 0 [.ref 4, .ref 9, .ref 48, .ref 49, .ref 50, .ref 51, vi (n : Int)]) := hC
  have xb : ∀ j, 0 ≤ gf xl j ∧ gf xl j < p := lx.2
  obtain ⟨gkr, gar, g01, g2, g4⟩ := hg
  have ea : ga.getD i 0 = (((ga.getD i 0).toNat : Nat) : Int) := by omega
  refine x_aload_n (dT U_X0_faultOf 0 rfl) rfl ?_
  refine x_aload_n (dT U_X0_faultOf 1 rfl) rfl ?_
  refine x_getfield F_X0_23 (dT U_X0_faultOf 2 rfl) hC (Nat.le_of_ble_eq_true rfl) rfl ?_
  refine x_iload_n (dT U_X0_faultOf 3 rfl) rfl ?_
  refine x_iaload (i) (dT U_X0_faultOf 4 rfl) ha (Nat.le_of_ble_eq_true rfl) rfl (by omega) (by omega) ?_
  refine x_invokestatic (rc' := rc) (rs' := rs) (rc2 := 0) (rs2 := 0) (As := [_, _]) (st := _) M_X0_numberAt K_X0_40 (dT U_X0_faultOf 5 rfl) rfl rfl rfl rfl (Nat.le_of_ble_eq_true rfl) rfl (by decide) (Nat.le_of_ble_eq_true rfl) rfl rfl ?_
  rw [ea]
  refine S_X0_numberAt hx x3 lx (by omega) ?_
  refine xRet_some ?_
  refine x_istore_n (ls' := [some (.ref _), some (vi _), some (.ref _), some (vi _), none]) (dT U_X0_faultOf 6 rfl) (by decide) rfl ?_
  refine x_aload_n (dT U_X0_faultOf 7 rfl) rfl ?_
  refine x_getfield F_X0_26 (dT U_X0_faultOf 8 rfl) hC (Nat.le_of_ble_eq_true rfl) rfl ?_
  refine x_iload_n (dT U_X0_faultOf 9 rfl) rfl ?_
  refine x_iaload (i) (dT U_X0_faultOf 10 rfl) hb (Nat.le_of_ble_eq_true rfl) rfl (by omega) (by omega) ?_
  refine x_istore (ls' := [some (.ref _), some (vi _), some (.ref _), some (vi _), some (vi _)]) (dT U_X0_faultOf 11 rfl) (by decide) rfl ?_
  refine x_aload_n (dT U_X0_faultOf 12 rfl) rfl ?_
  refine x_getfield F_X0_19 (dT U_X0_faultOf 13 rfl) hC (Nat.le_of_ble_eq_true rfl) rfl ?_
  refine x_iload_n (dT U_X0_faultOf 14 rfl) rfl ?_
  refine x_iaload (i) (dT U_X0_faultOf 15 rfl) hk (Nat.le_of_ble_eq_true rfl) rfl (by omega) (by omega) ?_
  have x0 := xb (ga.getD i 0).toNat
  have xb1 := xb (gb.getD i 0).toNat
  have xc1 := xb (gc.getD i 0).toNat
  have kc : gk.getD i 0 = 0 ∨ gk.getD i 0 = 1 ∨ gk.getD i 0 = 2 ∨ gk.getD i 0 = 3 ∨ gk.getD i 0 = 4 := by omega
  generalize hkk : gk.getD i 0 = kk at *
  rcases kc with rfl | rfl | rfl | rfl | rfl
  · have gb9 := g01 (Or.inl rfl)
    have eb : gb.getD i 0 = (((gb.getD i 0).toNat : Nat) : Int) := by omega
    have ec : gc.getD i 0 = (((gc.getD i 0).toNat : Nat) : Int) := by omega
    refine x_tableIn (tgt := 56) (dT U_X0_faultOf 16 rfl) (by unfold xr; omega) (by omega) (by omega) rfl (by decide) ?_
    refine x_aload_n (dT U_X0_faultOf 17 rfl) rfl ?_
    refine x_getfield F_X0_9 (dT U_X0_faultOf 18 rfl) hC (Nat.le_of_ble_eq_true rfl) rfl ?_
    refine x_iload_n (dT U_X0_faultOf 19 rfl) rfl ?_
    refine x_aload_n (dT U_X0_faultOf 20 rfl) rfl ?_
    refine x_iload (dT U_X0_faultOf 21 rfl) rfl ?_
    refine x_invokestatic (rc' := rc) (rs' := rs) (rc2 := 0) (rs2 := 0) (As := [_, _]) (st := _) M_X0_numberAt K_X0_40 (dT U_X0_faultOf 22 rfl) rfl rfl rfl rfl (Nat.le_of_ble_eq_true rfl) rfl (by decide) (Nat.le_of_ble_eq_true rfl) rfl rfl ?_
    rw [eb]
    refine S_X0_numberAt hx x3 lx (by omega) ?_
    refine xRet_some ?_
    refine x_iadd (dT U_X0_faultOf 23 rfl) ?_
    refine x_aload_n (dT U_X0_faultOf 24 rfl) rfl ?_
    refine x_aload_n (dT U_X0_faultOf 25 rfl) rfl ?_
    refine x_getfield F_X0_29 (dT U_X0_faultOf 26 rfl) hC (Nat.le_of_ble_eq_true rfl) rfl ?_
    refine x_iload_n (dT U_X0_faultOf 27 rfl) rfl ?_
    refine x_iaload (i) (dT U_X0_faultOf 28 rfl) hcc (Nat.le_of_ble_eq_true rfl) rfl (by omega) (by omega) ?_
    refine x_invokestatic (rc' := rc) (rs' := rs) (rc2 := 0) (rs2 := 0) (As := [_, _]) (st := _) M_X0_numberAt K_X0_40 (dT U_X0_faultOf 29 rfl) rfl rfl rfl rfl (Nat.le_of_ble_eq_true rfl) rfl (by decide) (Nat.le_of_ble_eq_true rfl) rfl rfl ?_
    rw [ec]
    refine S_X0_numberAt hx x3 lx (by omega) ?_
    refine xRet_some ?_
    refine x_isub (dT U_X0_faultOf 30 rfl) ?_
    refine x_invokevirtual (rc' := rc) (rs' := rs) (rc2 := 0) (rs2 := 0) (As := [_]) (st := _) M_X1_rest K_X0_44 (dT U_X0_faultOf 31 rfl) rfl rfl (by decide) rfl rfl hf (Nat.le_of_ble_eq_true rfl) (by decide) rfl (Nat.le_of_ble_eq_true rfl) rfl (by decide) (Nat.le_of_ble_eq_true rfl) rfl rfl ?_
    refine S_X1_rest hf hp (by unfold xr; omega) ?_
    refine xRet_some ?_
    refine x_ireturn (dT U_X0_faultOf 32 rfl) rfl ?_
    exact k
  · have gb9 := g01 (Or.inr rfl)
    have eb : gb.getD i 0 = (((gb.getD i 0).toNat : Nat) : Int) := by omega
    have ec : gc.getD i 0 = (((gc.getD i 0).toNat : Nat) : Int) := by omega
    refine x_tableIn (tgt := 83) (dT U_X0_faultOf 16 rfl) (by unfold xr; omega) (by omega) (by omega) rfl (by decide) ?_
    refine x_aload_n (dT U_X0_faultOf 33 rfl) rfl ?_
    refine x_getfield F_X0_9 (dT U_X0_faultOf 34 rfl) hC (Nat.le_of_ble_eq_true rfl) rfl ?_
    refine x_iload_n (dT U_X0_faultOf 35 rfl) rfl ?_
    refine x_aload_n (dT U_X0_faultOf 36 rfl) rfl ?_
    refine x_iload (dT U_X0_faultOf 37 rfl) rfl ?_
    refine x_invokestatic (rc' := rc) (rs' := rs) (rc2 := 0) (rs2 := 0) (As := [_, _]) (st := _) M_X0_numberAt K_X0_40 (dT U_X0_faultOf 38 rfl) rfl rfl rfl rfl (Nat.le_of_ble_eq_true rfl) rfl (by decide) (Nat.le_of_ble_eq_true rfl) rfl rfl ?_
    rw [eb]
    refine S_X0_numberAt hx x3 lx (by omega) ?_
    refine xRet_some ?_
    refine x_imul (dT U_X0_faultOf 39 rfl) ?_
    refine x_aload_n (dT U_X0_faultOf 40 rfl) rfl ?_
    refine x_aload_n (dT U_X0_faultOf 41 rfl) rfl ?_
    refine x_getfield F_X0_29 (dT U_X0_faultOf 42 rfl) hC (Nat.le_of_ble_eq_true rfl) rfl ?_
    refine x_iload_n (dT U_X0_faultOf 43 rfl) rfl ?_
    refine x_iaload (i) (dT U_X0_faultOf 44 rfl) hcc (Nat.le_of_ble_eq_true rfl) rfl (by omega) (by omega) ?_
    refine x_invokestatic (rc' := rc) (rs' := rs) (rc2 := 0) (rs2 := 0) (As := [_, _]) (st := _) M_X0_numberAt K_X0_40 (dT U_X0_faultOf 45 rfl) rfl rfl rfl rfl (Nat.le_of_ble_eq_true rfl) rfl (by decide) (Nat.le_of_ble_eq_true rfl) rfl rfl ?_
    rw [ec]
    refine S_X0_numberAt hx x3 lx (by omega) ?_
    refine xRet_some ?_
    refine x_isub (dT U_X0_faultOf 46 rfl) ?_
    refine x_invokevirtual (rc' := rc) (rs' := rs) (rc2 := 0) (rs2 := 0) (As := [_]) (st := _) M_X1_rest K_X0_44 (dT U_X0_faultOf 47 rfl) rfl rfl (by decide) rfl rfl hf (Nat.le_of_ble_eq_true rfl) (by decide) rfl (Nat.le_of_ble_eq_true rfl) rfl (by decide) (Nat.le_of_ble_eq_true rfl) rfl rfl ?_
    have mv := mulb x0 xb1 (by omega)
    refine S_X1_rest hf hp (by unfold xr; omega) ?_
    refine xRet_some ?_
    refine x_ireturn (dT U_X0_faultOf 48 rfl) rfl ?_
    exact k
  · have gb9 := g2 rfl
    refine x_tableIn (tgt := 110) (dT U_X0_faultOf 16 rfl) (by unfold xr; omega) (by omega) (by omega) rfl (by decide) ?_
    refine x_aload_n (dT U_X0_faultOf 49 rfl) rfl ?_
    refine x_getfield F_X0_9 (dT U_X0_faultOf 50 rfl) hC (Nat.le_of_ble_eq_true rfl) rfl ?_
    refine x_iload_n (dT U_X0_faultOf 51 rfl) rfl ?_
    refine x_iload (dT U_X0_faultOf 52 rfl) rfl ?_
    refine x_invokevirtual (rc' := rc) (rs' := rs) (rc2 := 0) (rs2 := 0) (As := [_, _]) (st := _) M_X1_less K_X0_50 (dT U_X0_faultOf 53 rfl) rfl rfl (by decide) rfl rfl hf (Nat.le_of_ble_eq_true rfl) (by decide) rfl (Nat.le_of_ble_eq_true rfl) rfl (by decide) (Nat.le_of_ble_eq_true rfl) rfl rfl ?_
    refine S_X1_less hf hp (by unfold xr; omega) ?_
    refine xRet_some ?_
    refine x_ireturn (dT U_X0_faultOf 54 rfl) rfl ?_
    exact k
  · skip
    refine x_tableIn (tgt := 121) (dT U_X0_faultOf 16 rfl) (by unfold xr; omega) (by omega) (by omega) rfl (by decide) ?_
    refine x_aload_n (dT U_X0_faultOf 55 rfl) rfl ?_
    refine x_getfield F_X0_9 (dT U_X0_faultOf 56 rfl) hC (Nat.le_of_ble_eq_true rfl) rfl ?_
    refine x_iload_n (dT U_X0_faultOf 57 rfl) rfl ?_
    refine x_iload_n (dT U_X0_faultOf 58 rfl) rfl ?_
    refine x_imul (dT U_X0_faultOf 59 rfl) ?_
    refine x_iload_n (dT U_X0_faultOf 60 rfl) rfl ?_
    refine x_isub (dT U_X0_faultOf 61 rfl) ?_
    refine x_invokevirtual (rc' := rc) (rs' := rs) (rc2 := 0) (rs2 := 0) (As := [_]) (st := _) M_X1_rest K_X0_44 (dT U_X0_faultOf 62 rfl) rfl rfl (by decide) rfl rfl hf (Nat.le_of_ble_eq_true rfl) (by decide) rfl (Nat.le_of_ble_eq_true rfl) rfl (by decide) (Nat.le_of_ble_eq_true rfl) rfl rfl ?_
    have mv := mulb x0 x0 (by omega)
    refine S_X1_rest hf hp (by unfold xr; omega) ?_
    refine xRet_some ?_
    refine x_ireturn (dT U_X0_faultOf 63 rfl) rfl ?_
    exact k
  · have gb9 := g4 rfl
    have eb : gb.getD i 0 = (((gb.getD i 0).toNat : Nat) : Int) := by omega
    refine x_tableOut (tgt := 134) (dT U_X0_faultOf 16 rfl) (by unfold xr; omega) (Or.inr (by omega)) (by decide) ?_
    refine x_aload_n (dT U_X0_faultOf 64 rfl) rfl ?_
    refine x_iload_n (dT U_X0_faultOf 65 rfl) rfl ?_
    refine x_iload (dT U_X0_faultOf 66 rfl) rfl ?_
    refine x_invokevirtual (rc' := rc) (rs' := rs) (rc2 := 0) (rs2 := 0) (As := [_, _]) (st := _) M_X0_tableFault K_X0_54 (dT U_X0_faultOf 67 rfl) rfl rfl (by decide) rfl rfl hC (Nat.le_of_ble_eq_true rfl) (by decide) rfl (Nat.le_of_ble_eq_true rfl) rfl (by decide) (Nat.le_of_ble_eq_true rfl) rfl rfl ?_
    rw [eb]
    refine S_X0_tableFault hp5 hc frw x0 (by omega) ?_
    refine xRet_some ?_
    refine x_ireturn (dT U_X0_faultOf 68 rfl) rfl ?_
    exact k

theorem CA.s68 {p n : Nat} {rw : Nat → List Int} {gk ga gb gc : List Int} {h : xH} {x : xC} (c : CA p n rw gk ga gb gc h) : CA p n rw gk ga gb gc (h.set 68 x) := by
  obtain ⟨hf, h9, hrw, hC, ⟨hk, lk⟩, ⟨ha, la⟩, ⟨hb, lb⟩, ⟨hcc, lc⟩⟩ := c
  exact ⟨hset_ne (by decide) hf, hset_ne (by decide) h9, fun j hj => hset_ne (by omega) (hrw j hj), hset_ne (by decide) hC, ⟨hset_ne (by decide) hk, lk⟩, ⟨hset_ne (by decide) ha, la⟩, ⟨hset_ne (by decide) hb, lb⟩, ⟨hset_ne (by decide) hcc, lc⟩⟩

set_option maxRecDepth 20000 in
set_option maxHeartbeats 1000000 in
theorem S_X0_faultsOf {G : xG} {d rc rs : Nat} {ex : Bool} {h : xH} {Q : xQ} {p n : Nat} {rw : Nat → List Int} {gk ga gb gc : List Int} {xa : Nat} {xl tl : List Int} (hp5 : p ∈ PR) (hc : CA p n rw gk ga gb gc h) (frw : ∀ j, j < 8 → Fl (p : Int) (rw j)) (hx : h[xa]? = some (cA 0 xl)) (x3 : 3 ≤ xa ∧ xa ≠ 68) (lx : Fl (p : Int) xl) (hn : n ≤ 8) (hg : ∀ i, i < n → gok (p : Int) (gk.getD i 0) (ga.getD i 0) (gb.getD i 0) (gc.getD i 0)) (ht : h[68]? = some (cA 0 tl)) (lt : tl.length = 8) (k : Q (.inl none) ex (h.set 68 (cA 0 (tab (fun i => if i < n then gfault p rw (gf xl) (gk.getD i 0) (ga.getD i 0) (gb.getD i 0) (gc.getD i 0) else 0) 8)))) : X G m_X0_faultsOf (d + 3) rc rs ex 0 (xe m_X0_faultsOf.2.2.1 [.ref 47, .ref xa, .ref 68]) [] h Q := by
  show X G m_X0_faultsOf _ _ _ _ 0 [some (.ref 47), some (.ref xa), some (.ref 68), none] [] h Q
  have hp := PRb hp5
  obtain ⟨hf, h9, hrw, hC, ⟨hk, lk⟩, ⟨ha, la⟩, ⟨hb, lb⟩, ⟨hcc, lc⟩⟩ := id hc
  have hC : h[47]? = some (cO 0 [.ref 4, .ref 9, .ref 48, .ref 49, .ref 50, .ref 51, vi (n : Int)]) := hC
  have L : ∀ (m i : Nat), i + m = 8 → X G m_X0_faultsOf (d + 3) rc rs ex 2 [some (.ref 47), some (.ref xa), some (.ref 68), some (vi (i : Int))] [] (h.set 68 (cA 0 (fillL (fun i => if i < n then gfault p rw (gf xl) (gk.getD i 0) (ga.getD i 0) (gb.getD i 0) (gc.getD i 0) else 0) tl i))) Q := by
    intro m
    induction m with
    | zero =>
      intro i hi 
      refine x_iload_n (dT U_X0_faultsOf 2 rfl) rfl ?_
      refine x_bipush (dT U_X0_faultsOf 3 rfl) (by decide) ?_
      refine x_icmp_ge (tgt := 41) (dT U_X0_faultsOf 4 rfl) (by decide) (by unfold xr at *; omega) (by unfold xr at *; omega) (fun c5 => ?_) (fun c5 => ?_)
      · skip
        refine x_return (dT U_X0_faultsOf 23 rfl) rfl ?_
        have e : i = 8 := by omega
        subst e
        rw [fillL_all lt]
        exact k
      · exfalso; omega
    | succ m ih =>
      intro i hi 
      refine x_iload_n (dT U_X0_faultsOf 2 rfl) rfl ?_
      refine x_bipush (dT U_X0_faultsOf 3 rfl) (by decide) ?_
      refine x_icmp_ge (tgt := 41) (dT U_X0_faultsOf 4 rfl) (by decide) (by unfold xr at *; omega) (by unfold xr at *; omega) (fun c5 => ?_) (fun c5 => ?_)
      · exfalso; omega
      · skip
        refine x_aload_n (dT U_X0_faultsOf 5 rfl) rfl ?_
        refine x_iload_n (dT U_X0_faultsOf 6 rfl) rfl ?_
        refine x_iload_n (dT U_X0_faultsOf 7 rfl) rfl ?_
        refine x_aload_n (dT U_X0_faultsOf 8 rfl) rfl ?_
        refine x_getfield F_X0_32 (dT U_X0_faultsOf 9 rfl) (hset_ne (by decide) hC) (Nat.le_of_ble_eq_true rfl) rfl ?_
        refine x_icmp_ge (tgt := 33) (dT U_X0_faultsOf 10 rfl) (by decide) (by unfold xr at *; omega) (by unfold xr at *; omega) (fun c15 => ?_) (fun c15 => ?_)
        · skip
          have e1 : (0 : Int) = (fun i => if i < n then gfault p rw (gf xl) (gk.getD i 0) (ga.getD i 0) (gb.getD i 0) (gc.getD i 0) else 0) i := (if_neg (by omega)).symm
          skip
          refine x_iconst (dT U_X0_faultsOf 19 rfl) ?_
          refine x_iastore (i) (dT U_X0_faultsOf 20 rfl) (hset_eq ht) (Nat.le_of_ble_eq_true rfl) rfl (by rw [fillL_len, lt]; omega) (by rw [fillL_len, lt]; omega) ?_
          rw [List.set_set, show (fillL (fun i => if i < n then gfault p rw (gf xl) (gk.getD i 0) (ga.getD i 0) (gb.getD i 0) (gc.getD i 0) else 0) tl i).set i _ = fillL (fun i => if i < n then gfault p rw (gf xl) (gk.getD i 0) (ga.getD i 0) (gb.getD i 0) (gc.getD i 0) else 0) tl (i + 1) from congrArg ((fillL (fun i => if i < n then gfault p rw (gf xl) (gk.getD i 0) (ga.getD i 0) (gb.getD i 0) (gc.getD i 0) else 0) tl i).set i) e1]
          refine x_iinc (ls' := [some (.ref _), some (.ref _), some (.ref _), some (vi _)]) (dT U_X0_faultsOf 21 rfl) (by decide) rfl rfl ?_
          refine x_goto (tgt := 2) (dT U_X0_faultsOf 22 rfl) (by decide) ?_
          exact ih (i + 1) (by omega)
        · skip
          have e1 : gfault p rw (gf xl) (gk.getD i 0) (ga.getD i 0) (gb.getD i 0) (gc.getD i 0) = (fun i => if i < n then gfault p rw (gf xl) (gk.getD i 0) (ga.getD i 0) (gb.getD i 0) (gc.getD i 0) else 0) i := (if_pos (by omega)).symm
          refine x_iload_n (dT U_X0_faultsOf 11 rfl) rfl ?_
          refine x_bipush (dT U_X0_faultsOf 12 rfl) (by decide) ?_
          refine x_icmp_ge (tgt := 33) (dT U_X0_faultsOf 13 rfl) (by decide) (by unfold xr at *; omega) (by unfold xr at *; omega) (fun c21 => ?_) (fun c21 => ?_)
          · exfalso; omega
          · skip
            refine x_aload_n (dT U_X0_faultsOf 14 rfl) rfl ?_
            refine x_iload_n (dT U_X0_faultsOf 15 rfl) rfl ?_
            refine x_aload_n (dT U_X0_faultsOf 16 rfl) rfl ?_
            refine x_invokevirtual (rc' := rc) (rs' := rs) (rc2 := 0) (rs2 := 0) (As := [_, _]) (st := _) M_X0_faultOf K_X0_36 (dT U_X0_faultsOf 17 rfl) rfl rfl (by decide) rfl rfl (hset_ne (by decide) hC) (Nat.le_of_ble_eq_true rfl) (by decide) rfl (Nat.le_of_ble_eq_true rfl) rfl (by decide) (Nat.le_of_ble_eq_true rfl) rfl rfl ?_
            refine S_X0_faultOf hp5 hc.s68 frw (hset_ne (Ne.symm x3.2) hx) x3.1 lx (by omega) (hg i (by omega)) ?_
            refine xRet_some ?_
            refine x_goto (tgt := 34) (dT U_X0_faultsOf 18 rfl) (by decide) ?_
            refine x_iastore (i) (dT U_X0_faultsOf 20 rfl) (hset_eq ht) (Nat.le_of_ble_eq_true rfl) rfl (by rw [fillL_len, lt]; omega) (by rw [fillL_len, lt]; omega) ?_
            rw [List.set_set, show (fillL (fun i => if i < n then gfault p rw (gf xl) (gk.getD i 0) (ga.getD i 0) (gb.getD i 0) (gc.getD i 0) else 0) tl i).set i _ = fillL (fun i => if i < n then gfault p rw (gf xl) (gk.getD i 0) (ga.getD i 0) (gb.getD i 0) (gc.getD i 0) else 0) tl (i + 1) from congrArg ((fillL (fun i => if i < n then gfault p rw (gf xl) (gk.getD i 0) (ga.getD i 0) (gb.getD i 0) (gc.getD i 0) else 0) tl i).set i) e1]
            refine x_iinc (ls' := [some (.ref _), some (.ref _), some (.ref _), some (vi _)]) (dT U_X0_faultsOf 21 rfl) (by decide) rfl rfl ?_
            refine x_goto (tgt := 2) (dT U_X0_faultsOf 22 rfl) (by decide) ?_
            exact ih (i + 1) (by omega)
  refine x_iconst (dT U_X0_faultsOf 0 rfl) ?_
  refine x_istore_n (ls' := [some (.ref _), some (.ref _), some (.ref _), some (vi _)]) (dT U_X0_faultsOf 1 rfl) (by decide) rfl ?_
  have q := L 8 0 (by omega)
  rw [show fillL (fun i => if i < n then gfault p rw (gf xl) (gk.getD i 0) (ga.getD i 0) (gb.getD i 0) (gc.getD i 0) else 0) tl 0 = tl from rfl, hset_self ht] at q
  exact q
