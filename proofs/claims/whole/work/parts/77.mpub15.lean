abbrev mCq (c p0 q0 : Int) (gc : Nat) (gb : Int) (rr : Nat) (gcl ss gz go : Int) (nc : Nat) : xC := cO 11 [vi c, vi p0, vi q0, .ref 71, .ref 72, .ref 73, .ref 82, .ref 83, .ref 84, .ref 90, .ref 91, .ref 92, .ref 93, .ref 94, .ref 100, .ref 101, .ref 102, .ref 108, .ref 109, .ref 110, .ref 111, .ref 112, .ref 113, .ref 114, .ref 115, .ref 118, .ref 121, .ref 124, vi (gc : Int), vi gb, .ref 133, .ref 134, vi (rr : Int), vi gcl, vi ss, vi gz, vi go, .ref 135, vi (nc : Int), .ref 136, .ref 137, .ref 138, .ref 139, .ref 140, .ref 141, .ref 142]
def exrm (p : Nat) : Nat → List Int
  | 0 => tab (fun _ => -1) 191
  | e + 1 => (exrm p e).set (mm p e) (e : Int)
theorem exrm_is : ∀ p ∈ PR, exrm p p = tab (fun y => exo p y) 191 := by decide +kernel
theorem exrm_len (p : Nat) : ∀ e, (exrm p e).length = 191
  | 0 => tab_len _ _
  | e + 1 => by show (List.set _ _ _).length = 191; rw [List.length_set]; exact exrm_len p e
theorem bq_no0 : ∀ p ∈ PR, ∀ n ∈ List.range 192, p < n → n < gq p → n % p = 1 → ∃ d ∈ List.range n, 2 ≤ d ∧ n % d = 0 := by decide +kernel
theorem bq_yes0 : ∀ p ∈ PR, gq p % p = 1 ∧ ∀ d ∈ List.range (gq p), 2 ≤ d → gq p % d ≠ 0 := by decide +kernel
theorem bq_pow0 : ∀ p ∈ PR, ∀ i ∈ List.range ((gq p - 1) / p), 2 ^ i % gq p * 2 % gq p = 2 ^ (i + 1) % gq p := by decide +kernel

set_option maxRecDepth 20000 in
set_option maxHeartbeats 1000000 in
theorem S_X11_isPrime {G : xG} {d rc rs : Nat} {ex : Bool} {h : xH} {Q : xQ} {nn9 : Nat} (h1 : 2 ≤ nn9 ∧ nn9 < 192) (k1 : (∀ x, 2 ≤ x → x < nn9 → nn9 % x ≠ 0) → Q (.inl (some (vi 1))) ex h) (k0 : (∃ x, 2 ≤ x ∧ x < nn9 ∧ nn9 % x = 0) → Q (.inl (some (vi 0))) ex h) : X G m_X11_isPrime d rc rs ex 0 (xe m_X11_isPrime.2.2.1 [vi (nn9 : Int)]) [] h Q := by
  show X G m_X11_isPrime _ _ _ _ 0 [some (vi (nn9 : Int)), none] [] h Q
  have L : ∀ (n d9 : Nat), d9 + n = nn9 → 2 ≤ d9 → (∀ x, 2 ≤ x → x < d9 → nn9 % x ≠ 0) → X G m_X11_isPrime d rc rs ex 2 [some (vi (nn9 : Int)), some (vi ((d9 : Nat) : Int))] [] h Q := by
    intro n
    induction n with
    | zero =>
      intro d9 hi_ h2 hx
      refine x_iload_n (dT U_X11_isPrime 2 rfl) rfl ?_
      refine x_iload_n (dT U_X11_isPrime 3 rfl) rfl ?_
      refine x_icmp_ge (tgt := 21) (dT U_X11_isPrime 4 rfl) (by decide) (by unfold xr; omega) (by unfold xr; omega) (fun c4 => ?_) (fun c4 => ?_)
      · skip
        refine x_iload_n (dT U_X11_isPrime 13 rfl) rfl ?_
        refine x_iconst (dT U_X11_isPrime 14 rfl) ?_
        refine x_icmp_le (tgt := 30) (dT U_X11_isPrime 15 rfl) (by decide) (by unfold xr; omega) (by unfold xr; omega) (fun c23 => ?_) (fun c23 => ?_)
        · exfalso; omega
        · skip
          refine x_iconst (dT U_X11_isPrime 16 rfl) ?_
          refine x_goto (tgt := 31) (dT U_X11_isPrime 17 rfl) (by decide) ?_
          refine x_zreturn (dT U_X11_isPrime 19 rfl) rfl (by omega) ?_
          exact k1 (fun x h1 h2 => hx x h1 (by omega))
      · exfalso; omega
    | succ n ih =>
      intro d9 hi_ h2 hx
      refine x_iload_n (dT U_X11_isPrime 2 rfl) rfl ?_
      refine x_iload_n (dT U_X11_isPrime 3 rfl) rfl ?_
      refine x_icmp_ge (tgt := 21) (dT U_X11_isPrime 4 rfl) (by decide) (by unfold xr; omega) (by unfold xr; omega) (fun c4 => ?_) (fun c4 => ?_)
      · exfalso; omega
      · skip
        refine x_iload_n (dT U_X11_isPrime 5 rfl) rfl ?_
        refine x_iload_n (dT U_X11_isPrime 6 rfl) rfl ?_
        refine x_irem (dT U_X11_isPrime 7 rfl) (by unfold xr; omega) (by unfold xr; omega) (by omega) ?_
        have e9 : (nn9 : Int).tmod (d9 : Int) = ((nn9 % d9 : Nat) : Int) := by rw [Int.tmod_eq_emod_of_nonneg (by omega)]; exact (Int.natCast_emod nn9 d9).symm
        have e8 : nn9 % d9 < d9 := Nat.mod_lt _ (by omega)
        rw [e9]
        refine x_if_ne (tgt := 15) (dT U_X11_isPrime 8 rfl) (by decide) (by unfold xr; omega) (fun c10 => ?_) (fun c10 => ?_)
        · skip
          refine x_iinc (ls' := [some (vi _), some (vi _)]) (dT U_X11_isPrime 11 rfl) (by decide) rfl rfl ?_
          refine x_goto (tgt := 2) (dT U_X11_isPrime 12 rfl) (by decide) ?_
          refine ih (d9 + 1) (by omega) (by omega) (fun x h1 h2 => ?_)
          by_cases e : x = d9
          · rw [e]; omega
          · exact hx x h1 (by omega)
        · skip
          refine x_iconst (dT U_X11_isPrime 9 rfl) ?_
          refine x_zreturn (dT U_X11_isPrime 10 rfl) rfl (by omega) ?_
          exact k0 ⟨d9, by omega, by omega, by omega⟩
  refine x_iconst (dT U_X11_isPrime 0 rfl) ?_
  refine x_istore_n (ls' := [some (vi _), some (vi _)]) (dT U_X11_isPrime 1 rfl) (by decide) rfl ?_
  exact L (nn9 - 2) 2 (by omega) (by omega) (fun x h1 h2 => absurd h2 (by omega))

set_option maxRecDepth 20000 in
set_option maxHeartbeats 1000000 in
theorem S_bg1 {G : xG} {d rc rs : Nat} {ex : Bool} {h : xH} {Q : xQ} {p gc rr nc : Nat} {c9 p0 q0 gb gcl ss gz go : Int} (hp5 : p ∈ PR) (h70 : h[70]? = some (mCq c9 p0 q0 gc gb rr gcl ss gz go nc))
    (M : X G m_X11_begin (d + 1) rc rs ex 51 [some (.ref 70), some (vi (p : Int)), none, none, none, none] [] (h.set 70 (mCq c9 (p : Int) (gq p : Int) gc gb rr gcl ss gz go nc)) Q) : X G m_X11_begin (d + 1) rc rs ex 0 [some (.ref 70), some (vi (p : Int)), none, none, none, none] [] h Q := by
  have hp := PRb hp5
  have hq := gq_b hp5
  have L : ∀ (n t : Nat), t + n = gq p - (p + 1) → X G m_X11_begin (d + 1) rc rs ex 15 [some (.ref 70), some (vi (p : Int)), none, none, none, none] [] (h.set 70 (mCq c9 (p : Int) ((p : Int) + 1 + (t : Int)) gc gb rr gcl ss gz go nc)) Q := by
    intro n
    induction n with
    | zero =>
      intro t hi_ 
      refine x_aload_n (dT U_X11_begin 9 rfl) rfl ?_
      refine x_getfield F_X11_133 (dT U_X11_begin 10 rfl) (hset_eq h70) (Nat.le_of_ble_eq_true rfl) rfl ?_
      refine x_aload_n (dT U_X11_begin 11 rfl) rfl ?_
      refine x_getfield F_X11_130 (dT U_X11_begin 12 rfl) (hset_eq h70) (Nat.le_of_ble_eq_true rfl) rfl ?_
      refine x_irem (dT U_X11_begin 13 rfl) (by unfold xr; omega) (by unfold xr; omega) (by omega) ?_
      refine x_iconst (dT U_X11_begin 14 rfl) ?_
      have et : p + 1 + t = gq p := by omega
      have e9 : ((p : Int) + 1 + (t : Int)).tmod (p : Int) = (((p + 1 + t) % p : Nat) : Int) := by rw [Int.tmod_eq_emod_of_nonneg (by omega), Int.natCast_emod]; congr 1
      rw [e9, et, (bq_yes0 p hp5).1]
      refine x_icmp_ne (tgt := 38) (dT U_X11_begin 15 rfl) (by decide) (by unfold xr; omega) (by unfold xr; omega) (fun c25 => ?_) (fun c25 => ?_)
      · exfalso; omega
      · skip
        refine x_aload_n (dT U_X11_begin 16 rfl) rfl ?_
        refine x_getfield F_X11_133 (dT U_X11_begin 17 rfl) (hset_eq h70) (Nat.le_of_ble_eq_true rfl) rfl ?_
        refine x_invokestatic (rc' := rc) (rs' := rs) (rc2 := 0) (rs2 := 0) (As := [_]) (st := _) M_X11_isPrime K_X11_136 (dT U_X11_begin 18 rfl) rfl rfl rfl rfl (Nat.le_of_ble_eq_true rfl) rfl (by decide) (Nat.le_of_ble_eq_true rfl) rfl rfl ?_
        rw [show (p : Int) + 1 + (t : Int) = ((gq p : Nat) : Int) by omega]
        refine S_X11_isPrime (by omega) (fun pr => ?_) (fun npr => ?_)
        · refine xRet_some ?_
          refine x_if_nej (tgt := 51) (dT U_X11_begin 19 rfl) (by decide) (by decide) ?_
          exact M
        · refine xRet_some ?_
          exfalso
          obtain ⟨x, hx1, hx2, hx3⟩ := npr
          exact (bq_yes0 p hp5).2 x (List.mem_range.mpr hx2) hx1 hx3
    | succ n ih =>
      intro t hi_ 
      refine x_aload_n (dT U_X11_begin 9 rfl) rfl ?_
      refine x_getfield F_X11_133 (dT U_X11_begin 10 rfl) (hset_eq h70) (Nat.le_of_ble_eq_true rfl) rfl ?_
      refine x_aload_n (dT U_X11_begin 11 rfl) rfl ?_
      refine x_getfield F_X11_130 (dT U_X11_begin 12 rfl) (hset_eq h70) (Nat.le_of_ble_eq_true rfl) rfl ?_
      refine x_irem (dT U_X11_begin 13 rfl) (by unfold xr; omega) (by unfold xr; omega) (by omega) ?_
      refine x_iconst (dT U_X11_begin 14 rfl) ?_
      have e9 : ((p : Int) + 1 + (t : Int)).tmod (p : Int) = (((p + 1 + t) % p : Nat) : Int) := by rw [Int.tmod_eq_emod_of_nonneg (by omega), Int.natCast_emod]; congr 1
      have e8 : (p + 1 + t) % p < p := Nat.mod_lt _ (by omega)
      rw [e9]
      refine x_icmp_ne (tgt := 38) (dT U_X11_begin 15 rfl) (by decide) (by unfold xr; omega) (by unfold xr; omega) (fun c25 => ?_) (fun c25 => ?_)
      · skip
        refine x_aload_n (dT U_X11_begin 20 rfl) rfl ?_
        refine x_dup (dT U_X11_begin 21 rfl) rfl ?_
        refine x_getfield F_X11_133 (dT U_X11_begin 22 rfl) (hset_eq h70) (Nat.le_of_ble_eq_true rfl) rfl ?_
        refine x_iconst (dT U_X11_begin 23 rfl) ?_
        refine x_iadd (dT U_X11_begin 24 rfl) ?_
        refine x_putfield F_X11_133 (dT U_X11_begin 25 rfl) (hset_eq h70) (Nat.le_of_ble_eq_true rfl) (Nat.le_of_ble_eq_true rfl) rfl rfl ?_
        rw [List.set_set]
        rw [show (p : Int) + 1 + (t : Int) + 1 = (p : Int) + 1 + ((t + 1 : Nat) : Int) by omega]
        change X G _ _ _ _ _ _ _ _ (h.set 70 (mCq c9 (p : Int) ((p : Int) + 1 + ((t + 1 : Nat) : Int)) gc gb rr gcl ss gz go nc)) _
        refine x_goto (tgt := 15) (dT U_X11_begin 26 rfl) (by decide) ?_
        exact ih (t + 1) (by omega)
      · skip
        refine x_aload_n (dT U_X11_begin 16 rfl) rfl ?_
        refine x_getfield F_X11_133 (dT U_X11_begin 17 rfl) (hset_eq h70) (Nat.le_of_ble_eq_true rfl) rfl ?_
        refine x_invokestatic (rc' := rc) (rs' := rs) (rc2 := 0) (rs2 := 0) (As := [_]) (st := _) M_X11_isPrime K_X11_136 (dT U_X11_begin 18 rfl) rfl rfl rfl rfl (Nat.le_of_ble_eq_true rfl) rfl (by decide) (Nat.le_of_ble_eq_true rfl) rfl rfl ?_
        rw [show (p : Int) + 1 + (t : Int) = ((p + 1 + t : Nat) : Int) by omega]
        refine S_X11_isPrime (by omega) (fun pr => ?_) (fun npr => ?_)
        · refine xRet_some ?_
          exfalso
          obtain ⟨x, hx1, hx2, hx3⟩ := bq_no0 p hp5 (p + 1 + t) (List.mem_range.mpr (by omega)) (by omega) (by omega) (by omega)
          exact pr x hx2 (List.mem_range.mp hx1) hx3
        · refine xRet_some ?_
          rw [show ((p + 1 + t : Nat) : Int) = (p : Int) + 1 + (t : Int) by omega]
          refine x_if_nen (tgt := 51) (dT U_X11_begin 19 rfl) (by decide) (by decide) ?_
          refine x_aload_n (dT U_X11_begin 20 rfl) rfl ?_
          refine x_dup (dT U_X11_begin 21 rfl) rfl ?_
          refine x_getfield F_X11_133 (dT U_X11_begin 22 rfl) (hset_eq h70) (Nat.le_of_ble_eq_true rfl) rfl ?_
          refine x_iconst (dT U_X11_begin 23 rfl) ?_
          refine x_iadd (dT U_X11_begin 24 rfl) ?_
          refine x_putfield F_X11_133 (dT U_X11_begin 25 rfl) (hset_eq h70) (Nat.le_of_ble_eq_true rfl) (Nat.le_of_ble_eq_true rfl) rfl rfl ?_
          rw [List.set_set]
          rw [show (p : Int) + 1 + (t : Int) + 1 = (p : Int) + 1 + ((t + 1 : Nat) : Int) by omega]
          change X G _ _ _ _ _ _ _ _ (h.set 70 (mCq c9 (p : Int) ((p : Int) + 1 + ((t + 1 : Nat) : Int)) gc gb rr gcl ss gz go nc)) _
          refine x_goto (tgt := 15) (dT U_X11_begin 26 rfl) (by decide) ?_
          exact ih (t + 1) (by omega)
  refine x_aload_n (dT U_X11_begin 0 rfl) rfl ?_
  refine x_iload_n (dT U_X11_begin 1 rfl) rfl ?_
  refine x_putfield F_X11_130 (dT U_X11_begin 2 rfl) h70 (Nat.le_of_ble_eq_true rfl) (Nat.le_of_ble_eq_true rfl) rfl rfl ?_
  change X G _ _ _ _ _ _ _ _ (List.set _ 70 (mCq c9 (p : Int) q0 gc gb rr gcl ss gz go nc)) _
  refine x_aload_n (dT U_X11_begin 3 rfl) rfl ?_
  refine x_aload_n (dT U_X11_begin 4 rfl) rfl ?_
  refine x_getfield F_X11_130 (dT U_X11_begin 5 rfl) (hset_eq h70) (Nat.le_of_ble_eq_true rfl) rfl ?_
  refine x_iconst (dT U_X11_begin 6 rfl) ?_
  refine x_iadd (dT U_X11_begin 7 rfl) ?_
  refine x_putfield F_X11_133 (dT U_X11_begin 8 rfl) (hset_eq h70) (Nat.le_of_ble_eq_true rfl) (Nat.le_of_ble_eq_true rfl) rfl rfl ?_
  rw [List.set_set]
  change X G _ _ _ _ _ _ _ _ (h.set 70 (mCq c9 (p : Int) ((p : Int) + 1) gc gb rr gcl ss gz go nc)) _
  have q := L (gq p - (p + 1)) 0 (by omega)
  rw [show (p : Int) + 1 + ((0 : Nat) : Int) = (p : Int) + 1 by omega] at q
  exact q

set_option maxRecDepth 20000 in
set_option maxHeartbeats 1000000 in
theorem S_bg2 {G : xG} {d rc rs : Nat} {ex : Bool} {h : xH} {Q : xQ} {p gc rr nc : Nat} {c9 gb gcl ss gz go : Int} (hp5 : p ∈ PR) (hm : h[70]? = some (mCq c9 (p : Int) (gq p : Int) gc gb rr gcl ss gz go nc))
    (M : X G m_X11_begin (d + 1) rc rs ex 102 [some (.ref 70), some (vi (p : Int)), some (vi (gB p : Int)), none, none, none] [] h Q) : X G m_X11_begin (d + 1) rc rs ex 51 [some (.ref 70), some (vi (p : Int)), none, none, none, none] [] h Q := by
  have hp := PRb hp5
  have hq := gq_b hp5
  have ed : ((gq p - 1 : Nat) : Int).tdiv (p : Int) = (((gq p - 1) / p : Nat) : Int) := by rw [Int.tdiv_eq_ediv_of_nonneg (by omega)]; exact (Int.natCast_ediv _ _).symm
  have lp9 := (gen_ne0 p hp5).2.2
  have L : ∀ (n t : Nat), t + n = ((gq p - 1) / p) → X G m_X11_begin (d + 1) rc rs ex 65 [some (.ref 70), some (vi (p : Int)), some (vi ((2 ^ t % gq p : Nat) : Int)), some (vi 2), some (vi (t : Int)), none] [] h Q := by
    intro n
    induction n with
    | zero =>
      intro t hi_ 
      refine x_iload (dT U_X11_begin 38 rfl) rfl ?_
      refine x_aload_n (dT U_X11_begin 39 rfl) rfl ?_
      refine x_getfield F_X11_133 (dT U_X11_begin 40 rfl) hm (Nat.le_of_ble_eq_true rfl) rfl ?_
      refine x_iconst (dT U_X11_begin 41 rfl) ?_
      refine x_isub (dT U_X11_begin 42 rfl) ?_
      refine x_aload_n (dT U_X11_begin 43 rfl) rfl ?_
      refine x_getfield F_X11_130 (dT U_X11_begin 44 rfl) hm (Nat.le_of_ble_eq_true rfl) rfl ?_
      rw [show ((gq p : Nat) : Int) - 1 = ((gq p - 1 : Nat) : Int) by omega]
      refine x_idiv (dT U_X11_begin 45 rfl) (by unfold xr; omega) (by omega) ?_
      rw [ed]
      refine x_icmp_ge (tgt := 96) (dT U_X11_begin 46 rfl) (by decide) (by unfold xr; omega) (by unfold xr; omega) (fun c78 => ?_) (fun c78 => ?_)
      · skip
        refine x_iinc (ls' := [some (.ref _), some (vi _), some (vi _), some (vi _), some (vi _), none]) (dT U_X11_begin 56 rfl) (by decide) rfl rfl ?_
        refine x_goto (tgt := 55) (dT U_X11_begin 57 rfl) (by decide) ?_
        refine x_iload_n (dT U_X11_begin 31 rfl) rfl ?_
        refine x_iconst (dT U_X11_begin 32 rfl) ?_
        have e : t = (gq p - 1) / p := by omega
        rw [e]
        refine x_icmp_ne (tgt := 102) (dT U_X11_begin 33 rfl) (by decide) (by have := Nat.mod_lt (2 ^ ((gq p - 1) / p)) (show 0 < gq p by omega); unfold xr; omega) (by unfold xr; omega) (fun c57 => ?_) (fun c57 => ?_)
        · skip
          refine x_drop ?_ M
          repeat (first | exact trivial | refine ⟨rfl, ?_⟩ | refine ⟨trivial, ?_⟩)
        · exact absurd c57 (by have := (gen_ne0 p hp5).1; unfold gB at this; omega)
      · exfalso; omega
    | succ n ih =>
      intro t hi_ 
      refine x_iload (dT U_X11_begin 38 rfl) rfl ?_
      refine x_aload_n (dT U_X11_begin 39 rfl) rfl ?_
      refine x_getfield F_X11_133 (dT U_X11_begin 40 rfl) hm (Nat.le_of_ble_eq_true rfl) rfl ?_
      refine x_iconst (dT U_X11_begin 41 rfl) ?_
      refine x_isub (dT U_X11_begin 42 rfl) ?_
      refine x_aload_n (dT U_X11_begin 43 rfl) rfl ?_
      refine x_getfield F_X11_130 (dT U_X11_begin 44 rfl) hm (Nat.le_of_ble_eq_true rfl) rfl ?_
      rw [show ((gq p : Nat) : Int) - 1 = ((gq p - 1 : Nat) : Int) by omega]
      refine x_idiv (dT U_X11_begin 45 rfl) (by unfold xr; omega) (by omega) ?_
      rw [ed]
      refine x_icmp_ge (tgt := 96) (dT U_X11_begin 46 rfl) (by decide) (by unfold xr; omega) (by unfold xr; omega) (fun c78 => ?_) (fun c78 => ?_)
      · exfalso; omega
      · skip
        refine x_iload_n (dT U_X11_begin 47 rfl) rfl ?_
        refine x_iload_n (dT U_X11_begin 48 rfl) rfl ?_
        refine x_imul (dT U_X11_begin 49 rfl) ?_
        refine x_aload_n (dT U_X11_begin 50 rfl) rfl ?_
        refine x_getfield F_X11_133 (dT U_X11_begin 51 rfl) hm (Nat.le_of_ble_eq_true rfl) rfl ?_
        have bt := Nat.mod_lt (2 ^ t) (show 0 < gq p by omega)
        refine x_irem (dT U_X11_begin 52 rfl) (by unfold xr; omega) (by unfold xr; omega) (by omega) ?_
        refine x_istore_n (ls' := [some (.ref _), some (vi _), some (vi _), some (vi _), some (vi _), none]) (dT U_X11_begin 53 rfl) (by decide) rfl ?_
        refine x_iinc (ls' := [some (.ref _), some (vi _), some (vi _), some (vi _), some (vi _), none]) (dT U_X11_begin 54 rfl) (by decide) rfl rfl ?_
        refine x_goto (tgt := 65) (dT U_X11_begin 55 rfl) (by decide) ?_
        have q := ih (t + 1) (by omega)
        rw [← bq_pow0 p hp5 t (List.mem_range.mpr (by omega))] at q
        rw [show ((2 ^ t % gq p : Nat) : Int) * 2 = ((2 ^ t % gq p * 2 : Nat) : Int) by omega, Int.tmod_eq_emod_of_nonneg (by omega), ← Int.natCast_emod]
        exact q
  refine x_iconst (dT U_X11_begin 27 rfl) ?_
  refine x_istore_n (ls' := [some (.ref _), some (vi _), some (vi _), none, none, none]) (dT U_X11_begin 28 rfl) (by decide) rfl ?_
  refine x_iconst (dT U_X11_begin 29 rfl) ?_
  refine x_istore_n (ls' := [some (.ref _), some (vi _), some (vi _), some (vi _), none, none]) (dT U_X11_begin 30 rfl) (by decide) rfl ?_
  refine x_iload_n (dT U_X11_begin 31 rfl) rfl ?_
  refine x_iconst (dT U_X11_begin 32 rfl) ?_
  refine x_icmp_ne (tgt := 102) (dT U_X11_begin 33 rfl) (by decide) (by unfold xr; omega) (by unfold xr; omega) (fun c57 => ?_) (fun c57 => ?_)
  · exfalso; omega
  · skip
    refine x_iconst (dT U_X11_begin 34 rfl) ?_
    refine x_istore_n (ls' := [some (.ref _), some (vi _), some (vi _), some (vi _), none, none]) (dT U_X11_begin 35 rfl) (by decide) rfl ?_
    refine x_iconst (dT U_X11_begin 36 rfl) ?_
    refine x_istore (ls' := [some (.ref _), some (vi _), some (vi _), some (vi _), some (vi _), none]) (dT U_X11_begin 37 rfl) (by decide) rfl ?_
    have q := L ((gq p - 1) / p) 0 (by omega)
    rw [show ((2 ^ 0 % gq p : Nat) : Int) = 1 by rw [Nat.pow_zero, Nat.mod_eq_of_lt (by omega)]; rfl] at q
    exact q

set_option maxRecDepth 20000 in
set_option maxHeartbeats 1000000 in
theorem S_bg3 {G : xG} {d rc rs : Nat} {ex : Bool} {h : xH} {Q : xQ} {p gc rr nc : Nat} {c9 gb gcl ss gz go : Int} (hp5 : p ∈ PR) {el : List Int} (hm : h[70]? = some (mCq c9 (p : Int) (gq p : Int) gc gb rr gcl ss gz go nc)) (h72 : h[72]? = some (cA 0 el)) (l72 : el.length = 191)
    (M : X G m_X11_begin (d + 1) rc rs ex 124 [some (.ref 70), some (vi (p : Int)), some (vi (gB p : Int)), none, none, none] [] (h.set 72 (cA 0 (tab (fun _ => (-1 : Int)) 191))) Q) : X G m_X11_begin (d + 1) rc rs ex 102 [some (.ref 70), some (vi (p : Int)), some (vi (gB p : Int)), none, none, none] [] h Q := by
  have hp := PRb hp5
  have hq := gq_b hp5
  have L : ∀ (n t : Nat), t + n = 191 → X G m_X11_begin (d + 1) rc rs ex 104 [some (.ref 70), some (vi (p : Int)), some (vi (gB p : Int)), some (vi (t : Int)), none, none] [] (h.set 72 (cA 0 (fillL (fun _ => (-1 : Int)) el t))) Q := by
    intro n
    induction n with
    | zero =>
      intro t hi_ 
      refine x_iload_n (dT U_X11_begin 60 rfl) rfl ?_
      refine x_sipush (dT U_X11_begin 61 rfl) (by decide) ?_
      refine x_icmp_ge (tgt := 124) (dT U_X11_begin 62 rfl) (by decide) (by unfold xr; omega) (by unfold xr; omega) (fun c108 => ?_) (fun c108 => ?_)
      · skip
        have e : t = 191 := by omega
        subst e
        rw [fillL_all l72]
        refine x_drop ?_ (M)
        repeat (first | exact trivial | refine ⟨rfl, ?_⟩ | refine ⟨trivial, ?_⟩)
      · exfalso; omega
    | succ n ih =>
      intro t hi_ 
      refine x_iload_n (dT U_X11_begin 60 rfl) rfl ?_
      refine x_sipush (dT U_X11_begin 61 rfl) (by decide) ?_
      refine x_icmp_ge (tgt := 124) (dT U_X11_begin 62 rfl) (by decide) (by unfold xr; omega) (by unfold xr; omega) (fun c108 => ?_) (fun c108 => ?_)
      · exfalso; omega
      · skip
        refine x_aload_n (dT U_X11_begin 63 rfl) rfl ?_
        refine x_getfield F_X11_13 (dT U_X11_begin 64 rfl) (hset_ne (by omega) hm) (Nat.le_of_ble_eq_true rfl) rfl ?_
        refine x_iload_n (dT U_X11_begin 65 rfl) rfl ?_
        refine x_iconst (dT U_X11_begin 66 rfl) ?_
        refine x_iastore (t) (dT U_X11_begin 67 rfl) (hset_eq h72) (Nat.le_of_ble_eq_true rfl) rfl (by rw [fillL_len, l72]; omega) (by rw [fillL_len, l72]; omega) ?_
        rw [List.set_set]
        refine x_iinc (ls' := [some (.ref _), some (vi _), some (vi _), some (vi _), none, none]) (dT U_X11_begin 68 rfl) (by decide) rfl rfl ?_
        refine x_goto (tgt := 104) (dT U_X11_begin 69 rfl) (by decide) ?_
        exact ih (t + 1) (by omega)
  refine x_iconst (dT U_X11_begin 58 rfl) ?_
  refine x_istore_n (ls' := [some (.ref _), some (vi _), some (vi _), some (vi _), none, none]) (dT U_X11_begin 59 rfl) (by decide) rfl ?_
  have q := L 191 0 (by omega)
  rw [show fillL (fun _ => (-1 : Int)) el 0 = el from rfl, hset_self h72] at q
  exact q

set_option maxRecDepth 20000 in
set_option maxHeartbeats 1000000 in
theorem S_bg4 {G : xG} {d rc rs : Nat} {ex : Bool} {h : xH} {Q : xQ} {p gc rr nc : Nat} {c9 gb gcl ss gz go : Int} (hp5 : p ∈ PR) {ml : List Int} (hm : h[70]? = some (mCq c9 (p : Int) (gq p : Int) gc gb rr gcl ss gz go nc)) (h71 : h[71]? = some (cA 0 ml)) (l71 : ml.length = 23) (h72 : h[72]? = some (cA 0 (exrm p 0)))
    (M : X G m_X11_begin (d + 1) rc rs ex 169 [some (.ref 70), some (vi (p : Int)), some (vi (gB p : Int)), none, none, none] [] ((h.set 71 (cA 0 (fillL (fun e => (mm p e : Int)) ml p))).set 72 (cA 0 (exrm p p))) Q) : X G m_X11_begin (d + 1) rc rs ex 124 [some (.ref 70), some (vi (p : Int)), some (vi (gB p : Int)), none, none, none] [] h Q := by
  have hp := PRb hp5
  have hq := gq_b hp5
  have L : ∀ (n e : Nat), e + n = p → X G m_X11_begin (d + 1) rc rs ex 129 [some (.ref 70), some (vi (p : Int)), some (vi (gB p : Int)), some (vi (mm p e : Int)), some (vi (e : Int)), none] [] ((h.set 71 (cA 0 (fillL (fun e => (mm p e : Int)) ml e))).set 72 (cA 0 (exrm p e))) Q := by
    intro n
    induction n with
    | zero =>
      intro e hi_ 
      refine x_iload (dT U_X11_begin 74 rfl) rfl ?_
      refine x_aload_n (dT U_X11_begin 75 rfl) rfl ?_
      refine x_getfield F_X11_130 (dT U_X11_begin 76 rfl) (hset_ne (by omega) (hset_ne (by omega) hm)) (Nat.le_of_ble_eq_true rfl) rfl ?_
      refine x_icmp_ge (tgt := 169) (dT U_X11_begin 77 rfl) (by decide) (by unfold xr; omega) (by unfold xr; omega) (fun c135 => ?_) (fun c135 => ?_)
      · skip
        have e9 : e = p := by omega
        subst e9
        refine x_drop ?_ (M)
        repeat (first | exact trivial | refine ⟨rfl, ?_⟩ | refine ⟨trivial, ?_⟩)
      · exfalso; omega
    | succ n ih =>
      intro e hi_ 
      refine x_iload (dT U_X11_begin 74 rfl) rfl ?_
      refine x_aload_n (dT U_X11_begin 75 rfl) rfl ?_
      refine x_getfield F_X11_130 (dT U_X11_begin 76 rfl) (hset_ne (by omega) (hset_ne (by omega) hm)) (Nat.le_of_ble_eq_true rfl) rfl ?_
      refine x_icmp_ge (tgt := 169) (dT U_X11_begin 77 rfl) (by decide) (by unfold xr; omega) (by unfold xr; omega) (fun c135 => ?_) (fun c135 => ?_)
      · exfalso; omega
      · skip
        have mb := mm_b hp5 (show e < p by omega)
        refine x_aload_n (dT U_X11_begin 78 rfl) rfl ?_
        refine x_getfield F_X11_7 (dT U_X11_begin 79 rfl) (hset_ne (by omega) (hset_ne (by omega) hm)) (Nat.le_of_ble_eq_true rfl) rfl ?_
        refine x_iload (dT U_X11_begin 80 rfl) rfl ?_
        refine x_iload_n (dT U_X11_begin 81 rfl) rfl ?_
        refine x_iastore (e) (dT U_X11_begin 82 rfl) (hset_ne (by omega) (hset_eq h71)) (Nat.le_of_ble_eq_true rfl) rfl (by rw [fillL_len, l71]; omega) (by rw [fillL_len, l71]; omega) ?_
        rw [List.set_comm _ _ (show (72 : Nat) ≠ 71 by decide), List.set_set]
        change X G _ _ _ _ _ _ _ _ ((h.set 71 (cA 0 (fillL (fun e => (mm p e : Int)) ml (e + 1)))).set 72 (cA 0 (exrm p e))) _
        refine x_aload_n (dT U_X11_begin 83 rfl) rfl ?_
        refine x_getfield F_X11_13 (dT U_X11_begin 84 rfl) (hset_ne (by omega) (hset_ne (by omega) hm)) (Nat.le_of_ble_eq_true rfl) rfl ?_
        refine x_iload_n (dT U_X11_begin 85 rfl) rfl ?_
        refine x_iload (dT U_X11_begin 86 rfl) rfl ?_
        refine x_iastore ((mm p e)) (dT U_X11_begin 87 rfl) (hset_eq (hset_ne (by omega) h72)) (Nat.le_of_ble_eq_true rfl) rfl (by rw [exrm_len]; omega) (by rw [exrm_len]; omega) ?_
        rw [List.set_set]
        change X G _ _ _ _ _ _ _ _ ((h.set 71 (cA 0 (fillL (fun e => (mm p e : Int)) ml (e + 1)))).set 72 (cA 0 (exrm p (e + 1)))) _
        refine x_iload_n (dT U_X11_begin 88 rfl) rfl ?_
        refine x_iload_n (dT U_X11_begin 89 rfl) rfl ?_
        have gb9 : gB p < gq p := Nat.mod_lt _ (by omega)
        have mg := Nat.mul_lt_mul_of_lt_of_lt (show mm p e < 192 by omega) (show gB p < 192 by omega)
        have e5 : ((mm p e : Int) * (gB p : Int)).tmod (gq p : Int) = (mm p (e + 1) : Int) := by rw [← mm_step hp5 (show e < p by omega), Int.tmod_eq_emod_of_nonneg (by rw [← Int.natCast_mul]; omega), Int.natCast_emod, Int.natCast_mul]
        refine x_imul (dT U_X11_begin 90 rfl) ?_
        refine x_aload_n (dT U_X11_begin 91 rfl) rfl ?_
        refine x_getfield F_X11_133 (dT U_X11_begin 92 rfl) (hset_ne (by omega) (hset_ne (by omega) hm)) (Nat.le_of_ble_eq_true rfl) rfl ?_
        refine x_irem (dT U_X11_begin 93 rfl) (by rw [← Int.natCast_mul]; unfold xr; omega) (by unfold xr; omega) (by omega) ?_
        refine x_istore_n (ls' := [some (.ref _), some (vi _), some (vi _), some (vi _), some (vi _), none]) (dT U_X11_begin 94 rfl) (by decide) rfl ?_
        refine x_iinc (ls' := [some (.ref _), some (vi _), some (vi _), some (vi _), some (vi _), none]) (dT U_X11_begin 95 rfl) (by decide) rfl rfl ?_
        refine x_goto (tgt := 129) (dT U_X11_begin 96 rfl) (by decide) ?_
        rw [e5]
        exact ih (e + 1) (by omega)
  refine x_iconst (dT U_X11_begin 70 rfl) ?_
  refine x_istore_n (ls' := [some (.ref _), some (vi _), some (vi _), some (vi _), none, none]) (dT U_X11_begin 71 rfl) (by decide) rfl ?_
  refine x_iconst (dT U_X11_begin 72 rfl) ?_
  refine x_istore (ls' := [some (.ref _), some (vi _), some (vi _), some (vi _), some (vi _), none]) (dT U_X11_begin 73 rfl) (by decide) rfl ?_
  have q := L p 0 (by omega)
  rw [show fillL (fun e => (mm p e : Int)) ml 0 = ml from rfl, hset_self h71, hset_self h72, mm_0 p hp5] at q
  exact q

set_option maxRecDepth 20000 in
set_option maxHeartbeats 1000000 in
theorem S_bg5 {G : xG} {d rc rs : Nat} {ex : Bool} {h : xH} {Q : xQ} {p gc rr nc : Nat} {c9 gb gcl ss gz go : Int} (hp5 : p ∈ PR) {t : Nat} (ht : t < 8) {l : List Int} (hm : h[70]? = some (mCq c9 (p : Int) (gq p : Int) gc gb rr gcl ss gz go nc)) (h73 : h[73]? = some (cQ 4 mrL)) (hr : h[74 + t]? = some (cA 0 l)) (hl : l.length = 8)
    (M : X G m_X11_begin (d + 1) rc rs ex 206 [some (.ref 70), some (vi (p : Int)), some (vi (gB p : Int)), none, some (vi (t : Int)), none] [] (h.set (74 + t) (cA 0 zr8)) Q) : X G m_X11_begin (d + 1) rc rs ex 179 [some (.ref 70), some (vi (p : Int)), some (vi (gB p : Int)), none, some (vi (t : Int)), none] [] h Q := by
  have hp := PRb hp5
  have hq := gq_b hp5
  have L : ∀ (n u : Nat), u + n = 8 → X G m_X11_begin (d + 1) rc rs ex 182 [some (.ref 70), some (vi (p : Int)), some (vi (gB p : Int)), none, some (vi (t : Int)), some (vi (u : Int))] [] (h.set (74 + t) (cA 0 (fillL (fun _ => (0 : Int)) l u))) Q := by
    intro n
    induction n with
    | zero =>
      intro u hi_ 
      refine x_iload (dT U_X11_begin 104 rfl) rfl ?_
      refine x_bipush (dT U_X11_begin 105 rfl) (by decide) ?_
      refine x_icmp_ge (tgt := 206) (dT U_X11_begin 106 rfl) (by decide) (by unfold xr; omega) (by unfold xr; omega) (fun c186 => ?_) (fun c186 => ?_)
      · skip
        have e : u = 8 := by omega
        subst e
        rw [fillL_all hl]
        refine x_drop ?_ (M)
        repeat (first | exact trivial | refine ⟨rfl, ?_⟩ | refine ⟨trivial, ?_⟩)
      · exfalso; omega
    | succ n ih =>
      intro u hi_ 
      refine x_iload (dT U_X11_begin 104 rfl) rfl ?_
      refine x_bipush (dT U_X11_begin 105 rfl) (by decide) ?_
      refine x_icmp_ge (tgt := 206) (dT U_X11_begin 106 rfl) (by decide) (by unfold xr; omega) (by unfold xr; omega) (fun c186 => ?_) (fun c186 => ?_)
      · exfalso; omega
      · skip
        refine x_aload_n (dT U_X11_begin 107 rfl) rfl ?_
        refine x_getfield F_X11_18 (dT U_X11_begin 108 rfl) (hset_ne (by omega) hm) (Nat.le_of_ble_eq_true rfl) rfl ?_
        refine x_iload (dT U_X11_begin 109 rfl) rfl ?_
        refine x_aaload (t) (dT U_X11_begin 110 rfl) (hset_ne (by omega) h73) (Nat.le_of_ble_eq_true rfl) (by decide) rfl (mrL_get (by omega)) (Nat.le_of_ble_eq_true rfl) ?_
        refine x_iload (dT U_X11_begin 111 rfl) rfl ?_
        refine x_iconst (dT U_X11_begin 112 rfl) ?_
        refine x_iastore (u) (dT U_X11_begin 113 rfl) (hset_eq hr) (by omega) rfl (by rw [fillL_len, hl]; omega) (by rw [fillL_len, hl]; omega) ?_
        rw [List.set_set]
        refine x_iinc (ls' := [some (.ref _), some (vi _), some (vi _), none, some (vi _), some (vi _)]) (dT U_X11_begin 114 rfl) (by decide) rfl rfl ?_
        refine x_goto (tgt := 182) (dT U_X11_begin 115 rfl) (by decide) ?_
        exact ih (u + 1) (by omega)
  refine x_iconst (dT U_X11_begin 102 rfl) ?_
  refine x_istore (ls' := [some (.ref _), some (vi _), some (vi _), none, some (vi _), some (vi _)]) (dT U_X11_begin 103 rfl) (by decide) rfl ?_
  have q := L 8 0 (by omega)
  rw [show fillL (fun _ => (0 : Int)) l 0 = l from rfl, hset_self hr] at q
  exact q

set_option maxRecDepth 20000 in
set_option maxHeartbeats 1000000 in
theorem S_bg6 {G : xG} {d rc rs : Nat} {ex : Bool} {h : xH} {Q : xQ} {p gc rr nc : Nat} {c9 gb gcl ss gz go : Int} (hp5 : p ∈ PR) (hm : h[70]? = some (mCq c9 (p : Int) (gq p : Int) gc gb rr gcl ss gz go nc)) (h73 : h[73]? = some (cQ 4 mrL)) (hrw : ∀ j, j < 8 → ∃ l : List Int, h[74 + j]? = some (cA 0 l) ∧ l.length = 8)
    (M : X G m_X11_begin (d + 1) rc rs ex 212 [some (.ref 70), some (vi (p : Int)), some (vi (gB p : Int)), none, none, none] [] (setN (fun u => 74 + u) (fun _ => cA 0 zr8) h 8) Q) : X G m_X11_begin (d + 1) rc rs ex 169 [some (.ref 70), some (vi (p : Int)), some (vi (gB p : Int)), none, none, none] [] h Q := by
  have hp := PRb hp5
  have hq := gq_b hp5
  have L : ∀ (n t : Nat), t + n = 8 → X G m_X11_begin (d + 1) rc rs ex 172 [some (.ref 70), some (vi (p : Int)), some (vi (gB p : Int)), none, some (vi (t : Int)), none] [] (setN (fun u => 74 + u) (fun _ => cA 0 zr8) h t) Q := by
    intro n
    induction n with
    | zero =>
      intro t hi_ 
      refine x_iload (dT U_X11_begin 99 rfl) rfl ?_
      refine x_bipush (dT U_X11_begin 100 rfl) (by decide) ?_
      refine x_icmp_ge (tgt := 212) (dT U_X11_begin 101 rfl) (by decide) (by unfold xr; omega) (by unfold xr; omega) (fun c176 => ?_) (fun c176 => ?_)
      · skip
        have e : t = 8 := by omega
        subst e
        refine x_drop ?_ (M)
        repeat (first | exact trivial | refine ⟨rfl, ?_⟩ | refine ⟨trivial, ?_⟩)
      · exfalso; omega
    | succ n ih =>
      intro t hi_ 
      refine x_iload (dT U_X11_begin 99 rfl) rfl ?_
      refine x_bipush (dT U_X11_begin 100 rfl) (by decide) ?_
      refine x_icmp_ge (tgt := 212) (dT U_X11_begin 101 rfl) (by decide) (by unfold xr; omega) (by unfold xr; omega) (fun c176 => ?_) (fun c176 => ?_)
      · exfalso; omega
      · skip
        obtain ⟨l, hl1, hl2⟩ := hrw t (by omega)
        refine S_bg5 hp5 (show t < 8 by omega) ((sN_ne (fun u hu => by omega)).trans hm) ((sN_ne (fun u hu => by omega)).trans h73) ((sN_ne (fun u hu => by omega)).trans hl1) hl2 ?_
        refine x_iinc (ls' := [some (.ref _), some (vi _), some (vi _), none, some (vi _), none]) (dT U_X11_begin 116 rfl) (by decide) rfl rfl ?_
        refine x_goto (tgt := 172) (dT U_X11_begin 117 rfl) (by decide) ?_
        exact ih (t + 1) (by omega)
  refine x_iconst (dT U_X11_begin 97 rfl) ?_
  refine x_istore (ls' := [some (.ref _), some (vi _), some (vi _), none, some (vi _), none]) (dT U_X11_begin 98 rfl) (by decide) rfl ?_
  exact L 8 0 (by omega)

set_option maxRecDepth 20000 in
set_option maxHeartbeats 1000000 in
theorem S_bg7 {G : xG} {d rc rs : Nat} {ex : Bool} {h : xH} {Q : xQ} {p gc rr nc : Nat} {c9 gb gcl ss gz go : Int} (hp5 : p ∈ PR) {f82 f93 : Nat → Int} (hm : h[70]? = some (mCq c9 (p : Int) (gq p : Int) gc gb rr gcl ss gz go nc)) (h82 : h[82]? = some (cA 0 (t5 f82))) (h93 : h[93]? = some (cA 1 (t5 f93)))
    (M : X G m_X11_begin (d + 1) rc rs ex 243 [some (.ref 70), some (vi (p : Int)), some (vi (gB p : Int)), none, none, none] [] ((h.set 82 (cA 0 (t5 (fun _ => (0 : Int))))).set 93 (cA 1 (t5 (fun _ => (0 : Int))))) Q) : X G m_X11_begin (d + 1) rc rs ex 212 [some (.ref 70), some (vi (p : Int)), some (vi (gB p : Int)), none, none, none] [] h Q := by
  have hp := PRb hp5
  have hq := gq_b hp5
  have M : X G m_X11_begin (d + 1) rc rs ex 243 [some (.ref 70), some (vi (p : Int)), some (vi (gB p : Int)), none, none, none] [] ((h.set 82 (cA 0 (fillL (fun _ => (0 : Int)) (t5 f82) 4))).set 93 (cA 1 (fillL (fun _ => (0 : Int)) (t5 f93) 4))) Q := M
  have L : ∀ (n t : Nat), t + n = 4 → X G m_X11_begin (d + 1) rc rs ex 215 [some (.ref 70), some (vi (p : Int)), some (vi (gB p : Int)), none, some (vi (t : Int)), none] [] ((h.set 82 (cA 0 (fillL (fun _ => (0 : Int)) (t5 f82) t))).set 93 (cA 1 (fillL (fun _ => (0 : Int)) (t5 f93) t))) Q := by
    intro n
    induction n with
    | zero =>
      intro t hi_ 
      refine x_iload (dT U_X11_begin 120 rfl) rfl ?_
      refine x_iconst (dT U_X11_begin 121 rfl) ?_
      refine x_icmp_ge (tgt := 243) (dT U_X11_begin 122 rfl) (by decide) (by unfold xr; omega) (by unfold xr; omega) (fun c218 => ?_) (fun c218 => ?_)
      · skip
        have e : t = 4 := by omega
        subst e
        refine x_drop ?_ (M)
        repeat (first | exact trivial | refine ⟨rfl, ?_⟩ | refine ⟨trivial, ?_⟩)
      · exfalso; omega
    | succ n ih =>
      intro t hi_ 
      refine x_iload (dT U_X11_begin 120 rfl) rfl ?_
      refine x_iconst (dT U_X11_begin 121 rfl) ?_
      refine x_icmp_ge (tgt := 243) (dT U_X11_begin 122 rfl) (by decide) (by unfold xr; omega) (by unfold xr; omega) (fun c218 => ?_) (fun c218 => ?_)
      · exfalso; omega
      · skip
        refine x_aload_n (dT U_X11_begin 123 rfl) rfl ?_
        refine x_getfield F_X11_21 (dT U_X11_begin 124 rfl) (hset_ne (by omega) (hset_ne (by omega) hm)) (Nat.le_of_ble_eq_true rfl) rfl ?_
        refine x_iload (dT U_X11_begin 125 rfl) rfl ?_
        refine x_iconst (dT U_X11_begin 126 rfl) ?_
        refine x_iastore (t) (dT U_X11_begin 127 rfl) (hset_ne (by omega) (hset_eq h82)) (Nat.le_of_ble_eq_true rfl) rfl (by rw [fillL_len]; show t < 5; omega) (by rw [fillL_len]; show 5 < 2147483648; decide) ?_
        rw [List.set_comm _ _ (show (93 : Nat) ≠ 82 by decide), List.set_set]
        refine x_aload_n (dT U_X11_begin 128 rfl) rfl ?_
        refine x_getfield F_X11_39 (dT U_X11_begin 129 rfl) (hset_ne (by omega) (hset_ne (by omega) hm)) (Nat.le_of_ble_eq_true rfl) rfl ?_
        refine x_iload (dT U_X11_begin 130 rfl) rfl ?_
        refine x_iconst (dT U_X11_begin 131 rfl) ?_
        refine x_bastore (t) (dT U_X11_begin 132 rfl) (by omega) (hset_eq (hset_ne (by omega) h93)) (Nat.le_of_ble_eq_true rfl) rfl (by rw [fillL_len]; show t < 5; omega) (by rw [fillL_len]; show 5 < 2147483648; decide) ?_
        rw [List.set_set]
        change X G _ _ _ _ _ _ _ _ ((h.set 82 (cA 0 (fillL (fun _ => (0 : Int)) (t5 f82) (t + 1)))).set 93 (cA 1 (fillL (fun _ => (0 : Int)) (t5 f93) (t + 1)))) _
        refine x_iinc (ls' := [some (.ref _), some (vi _), some (vi _), none, some (vi _), none]) (dT U_X11_begin 133 rfl) (by decide) rfl rfl ?_
        refine x_goto (tgt := 215) (dT U_X11_begin 134 rfl) (by decide) ?_
        exact ih (t + 1) (by omega)
  refine x_iconst (dT U_X11_begin 118 rfl) ?_
  refine x_istore (ls' := [some (.ref _), some (vi _), some (vi _), none, some (vi _), none]) (dT U_X11_begin 119 rfl) (by decide) rfl ?_
  have q := L 4 0 (by omega)
  rw [show fillL (fun _ => (0 : Int)) (t5 f82) 0 = t5 f82 from rfl, show fillL (fun _ => (0 : Int)) (t5 f93) 0 = t5 f93 from rfl, hset_self h82, hset_self h93] at q
  exact q

set_option maxRecDepth 20000 in
set_option maxHeartbeats 1000000 in
theorem S_bg8 {G : xG} {d rc rs : Nat} {ex : Bool} {h : xH} {Q : xQ} {p gc rr nc : Nat} {c9 gb gcl ss gz go : Int} (hp5 : p ∈ PR) {f109 : Nat → Int} (hm : h[70]? = some (mCq c9 (p : Int) (gq p : Int) gc gb rr gcl ss gz go nc)) (h109 : h[109]? = some (cA 0 (t2 f109)))
    (M : Q (.inl none) ex ((h.set 109 (cA 0 (t2 (fun _ => (0 : Int))))).set 70 (mC c9 p 0 0 0 gcl 0 gz go 0))) : X G m_X11_begin (d + 1) rc rs ex 243 [some (.ref 70), some (vi (p : Int)), some (vi (gB p : Int)), none, none, none] [] h Q := by
  have hp := PRb hp5
  have hq := gq_b hp5
  refine x_aload_n (dT U_X11_begin 135 rfl) rfl ?_
  refine x_getfield F_X11_58 (dT U_X11_begin 136 rfl) hm (Nat.le_of_ble_eq_true rfl) rfl ?_
  refine x_iconst (dT U_X11_begin 137 rfl) ?_
  refine x_iconst (dT U_X11_begin 138 rfl) ?_
  refine x_iastore (0) (dT U_X11_begin 139 rfl) h109 (Nat.le_of_ble_eq_true rfl) rfl (show 0 < 2 by decide) (show 2 < 2147483648 by decide) ?_
  refine x_aload_n (dT U_X11_begin 140 rfl) rfl ?_
  refine x_getfield F_X11_58 (dT U_X11_begin 141 rfl) (hset_ne (by omega) hm) (Nat.le_of_ble_eq_true rfl) rfl ?_
  refine x_iconst (dT U_X11_begin 142 rfl) ?_
  refine x_iconst (dT U_X11_begin 143 rfl) ?_
  refine x_iastore (1) (dT U_X11_begin 144 rfl) (hset_eq h109) (Nat.le_of_ble_eq_true rfl) rfl (show 1 < 2 by decide) (show 2 < 2147483648 by decide) ?_
  rw [List.set_set]
  change X G _ _ _ _ _ _ _ _ (h.set 109 (cA 0 (t2 (fun _ => (0 : Int))))) _
  refine x_aload_n (dT U_X11_begin 145 rfl) rfl ?_
  refine x_iconst (dT U_X11_begin 146 rfl) ?_
  refine x_putfield F_X11_140 (dT U_X11_begin 147 rfl) (hset_ne (by omega) hm) (Nat.le_of_ble_eq_true rfl) (Nat.le_of_ble_eq_true rfl) rfl rfl ?_
  change X G _ _ _ _ _ _ _ _ ((h.set 109 (cA 0 (t2 (fun _ => (0 : Int))))).set 70 (mC c9 p 0 gb rr gcl ss gz go nc)) _
  refine x_aload_n (dT U_X11_begin 148 rfl) rfl ?_
  refine x_iconst (dT U_X11_begin 149 rfl) ?_
  refine x_putfield F_X11_143 (dT U_X11_begin 150 rfl) (hset_eq (hset_ne (by omega) hm)) (Nat.le_of_ble_eq_true rfl) (Nat.le_of_ble_eq_true rfl) rfl rfl ?_
  rw [List.set_set]
  change X G _ _ _ _ _ _ _ _ ((h.set 109 (cA 0 (t2 (fun _ => (0 : Int))))).set 70 (mC c9 p 0 gb rr gcl ss gz go 0)) _
  refine x_aload_n (dT U_X11_begin 151 rfl) rfl ?_
  refine x_iconst (dT U_X11_begin 152 rfl) ?_
  refine x_putfield F_X11_146 (dT U_X11_begin 153 rfl) (hset_eq (hset_ne (by omega) hm)) (Nat.le_of_ble_eq_true rfl) (Nat.le_of_ble_eq_true rfl) rfl rfl ?_
  rw [List.set_set]
  change X G _ _ _ _ _ _ _ _ ((h.set 109 (cA 0 (t2 (fun _ => (0 : Int))))).set 70 (mC c9 p 0 0 rr gcl ss gz go 0)) _
  refine x_aload_n (dT U_X11_begin 154 rfl) rfl ?_
  refine x_iconst (dT U_X11_begin 155 rfl) ?_
  refine x_putfield F_X11_150 (dT U_X11_begin 156 rfl) (hset_eq (hset_ne (by omega) hm)) (Nat.le_of_ble_eq_true rfl) (Nat.le_of_ble_eq_true rfl) rfl rfl ?_
  rw [List.set_set]
  change X G _ _ _ _ _ _ _ _ ((h.set 109 (cA 0 (t2 (fun _ => (0 : Int))))).set 70 (mC c9 p 0 0 rr gcl 0 gz go 0)) _
  refine x_aload_n (dT U_X11_begin 157 rfl) rfl ?_
  refine x_iconst (dT U_X11_begin 158 rfl) ?_
  refine x_putfield F_X11_153 (dT U_X11_begin 159 rfl) (hset_eq (hset_ne (by omega) hm)) (Nat.le_of_ble_eq_true rfl) (Nat.le_of_ble_eq_true rfl) rfl rfl ?_
  rw [List.set_set]
  change X G _ _ _ _ _ _ _ _ ((h.set 109 (cA 0 (t2 (fun _ => (0 : Int))))).set 70 (mC c9 p 0 0 0 gcl 0 gz go 0)) _
  refine x_return (dT U_X11_begin 160 rfl) rfl ?_
  exact M

set_option maxRecDepth 20000 in
set_option maxHeartbeats 1000000 in
theorem S_X11_begin {G : xG} {d rc rs : Nat} {ex : Bool} {h : xH} {Q : xQ} {p gc rr nc : Nat} {c9 p0 q0 gb gcl ss gz go : Int} {ml el : List Int} {f82 f93 f109 : Nat → Int} (hp5 : p ∈ PR) (h70 : h[70]? = some (mCq c9 p0 q0 gc gb rr gcl ss gz go nc)) (h71 : h[71]? = some (cA 0 ml)) (l71 : ml.length = 23) (h72 : h[72]? = some (cA 0 el)) (l72 : el.length = 191) (h73 : h[73]? = some (cQ 4 mrL)) (hrw : ∀ j, j < 8 → ∃ l : List Int, h[74 + j]? = some (cA 0 l) ∧ l.length = 8) (h82 : h[82]? = some (cA 0 (t5 f82))) (h93 : h[93]? = some (cA 1 (t5 f93))) (h109 : h[109]? = some (cA 0 (t2 f109))) (k : ∀ h2, Ag 70 142 h h2 → (∀ a, ¬ (70 ≤ a ∧ a ≤ 72) ∧ ¬ (74 ≤ a ∧ a ≤ 81) ∧ a ≠ 82 ∧ a ≠ 93 ∧ a ≠ 109 → h2[a]? = h[a]?) → h2[70]? = some (mC c9 p 0 0 0 gcl 0 gz go 0) → (∃ l : List Int, h2[71]? = some (cA 0 l) ∧ l.length = 23 ∧ ∀ e, e < p → l.getD e 0 = (mm p e : Int)) → h2[72]? = some (cA 0 (tab (fun y => exo p y) 191)) → (∀ j, j < 8 → h2[74 + j]? = some (cA 0 zr8)) → h2[82]? = some (cA 0 (t5 (fun _ => 0))) → h2[93]? = some (cA 1 (t5 (fun _ => 0))) → h2[109]? = some (cA 0 (t2 (fun _ => 0))) → Q (.inl none) ex h2) : X G m_X11_begin (d + 1) rc rs ex 0 (xe m_X11_begin.2.2.1 [.ref 70, vi (p : Int)]) [] h Q := by
  show X G m_X11_begin _ _ _ _ 0 [some (.ref 70), some (vi (p : Int)), none, none, none, none] [] h Q
  have hp := PRb hp5
  have hq := gq_b hp5
  refine S_bg1 hp5 h70 ?_
  have e70 : (h.set 70 (mCq c9 (p : Int) (gq p : Int) gc gb rr gcl ss gz go nc))[70]? = some (mCq c9 (p : Int) (gq p : Int) gc gb rr gcl ss gz go nc) := hset_eq h70
  refine S_bg2 hp5 e70 ?_
  refine S_bg3 hp5 e70 (hset_ne (by omega) h72) l72 ?_
  refine S_bg4 hp5 (hset_ne (by omega) e70) (hset_ne (by omega) (hset_ne (by omega) h71)) l71 (show _ = some (cA 0 (exrm p 0)) from hset_eq (hset_ne (by omega) h72)) ?_
  have g70 : ((((h.set 70 (mCq c9 (p : Int) (gq p : Int) gc gb rr gcl ss gz go nc)).set 72 (cA 0 (tab (fun _ => (-1 : Int)) 191))).set 71 (cA 0 (fillL (fun e => (mm p e : Int)) ml p))).set 72 (cA 0 (exrm p p)))[70]? = some (mCq c9 (p : Int) (gq p : Int) gc gb rr gcl ss gz go nc) := hset_ne (by omega) (hset_ne (by omega) (hset_ne (by omega) e70))
  refine S_bg6 hp5 g70 (hset_ne (by omega) (hset_ne (by omega) (hset_ne (by omega) (hset_ne (by omega) (h73))))) (fun j hj => Exists.elim (hrw j hj) (fun l q => ⟨l, (hset_ne (by omega) (hset_ne (by omega) (hset_ne (by omega) (hset_ne (by omega) (q.1))))), q.2⟩)) ?_
  refine S_bg7 hp5 ((sN_ne (fun u hu => by omega)).trans g70) ((sN_ne (fun u hu => by omega)).trans (hset_ne (by omega) (hset_ne (by omega) (hset_ne (by omega) (hset_ne (by omega) (h82)))))) ((sN_ne (fun u hu => by omega)).trans (hset_ne (by omega) (hset_ne (by omega) (hset_ne (by omega) (hset_ne (by omega) (h93)))))) ?_
  refine S_bg8 hp5 (hset_ne (by omega) (hset_ne (by omega) ((sN_ne (fun u hu => by omega)).trans g70))) (hset_ne (by omega) (hset_ne (by omega) ((sN_ne (fun u hu => by omega)).trans (hset_ne (by omega) (hset_ne (by omega) (hset_ne (by omega) (hset_ne (by omega) (h109)))))))) ?_
  exact k _ (((((sN_ag (((((Ag.rf 70 142 h).set (by omega)).set (by omega)).set (by omega)).set (by omega)) (fun u hu => by omega)).set (by omega)).set (by omega)).set (by omega)).set (by omega)) (fun a ha => by rw [hset_fr (by omega), hset_fr (by omega), hset_fr (by omega), hset_fr (by omega), sN_ne (fun u hu => by omega), hset_fr (by omega), hset_fr (by omega), hset_fr (by omega), hset_fr (by omega)]) (hset_eq (hset_ne (by omega) (hset_ne (by omega) (hset_ne (by omega) (((sN_ne (fun u hu => by omega)).trans g70)))))) ⟨fillL (fun e => (mm p e : Int)) ml p, (hset_ne (by omega) (hset_ne (by omega) (hset_ne (by omega) (hset_ne (by omega) (((sN_ne (fun u hu => by omega)).trans (hset_ne (by omega) (hset_eq (hset_ne (by omega) (hset_ne (by omega) (h71))))))))))), by rw [fillL_len]; exact l71, fun e he => fillL_lt _ _ _ _ he (by omega)⟩ (by rw [← exrm_is p hp5]; exact (hset_ne (by omega) (hset_ne (by omega) (hset_ne (by omega) (hset_ne (by omega) (((sN_ne (fun u hu => by omega)).trans (hset_eq (hset_ne (by omega) (hset_eq (hset_ne (by omega) h72))))))))))) (fun j hj => (hset_ne (by omega) (hset_ne (by omega) (hset_ne (by omega) (hset_ne (by omega) (Exists.elim (hrw j hj) (fun l q => sN_eq (f := fun u => 74 + u) (fun u v z => by omega) (hset_ne (by omega) (hset_ne (by omega) (hset_ne (by omega) (hset_ne (by omega) (q.1))))) hj))))))) (hset_ne (by omega) (hset_ne (by omega) (hset_ne (by omega) (hset_eq ((sN_ne (fun u hu => by omega)).trans (hset_ne (by omega) (hset_ne (by omega) (hset_ne (by omega) (hset_ne (by omega) (h82)))))))))) (hset_ne (by omega) (hset_ne (by omega) (hset_eq (hset_ne (by omega) (((sN_ne (fun u hu => by omega)).trans (hset_ne (by omega) (hset_ne (by omega) (hset_ne (by omega) (hset_ne (by omega) (h93))))))))))) (hset_ne (by omega) (hset_eq (hset_ne (by omega) (hset_ne (by omega) (((sN_ne (fun u hu => by omega)).trans (hset_ne (by omega) (hset_ne (by omega) (hset_ne (by omega) (hset_ne (by omega) (h109)))))))))))
