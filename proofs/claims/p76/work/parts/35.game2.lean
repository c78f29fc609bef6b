theorem sm_ite {P : Nat → Prop} [DecidablePred P] (a b : Int) : ∀ n, sm (fun c => if P c then a else b) n = (n : Int) * b + (ct P n : Int) * (a - b)
  | 0 => by show (0 : Int) = _; rw [show (ct P 0 : Int) = 0 from rfl]; grind
  | n + 1 => by
    show sm (fun c => if P c then a else b) n + (if P n then a else b) = _
    rw [sm_ite a b n]
    by_cases c : P n
    · rw [if_pos c, ct_yes c]; grind
    · rw [if_neg c, ct_no c]; grind
theorem ct_ge {P : Nat → Prop} [DecidablePred P] {j : Nat} : ∀ {n : Nat}, j < n → P j → 1 ≤ ct P n
  | 0, h, _ => absurd h (Nat.not_lt_zero j)
  | n + 1, h, q => by
    by_cases c : P n
    · rw [ct_yes c]; omega
    · rw [ct_no c]
      exact ct_ge (by by_cases e : j = n; · rw [e] at q; exact absurd q c
                      · omega) q
theorem ct_all {P : Nat → Prop} [DecidablePred P] : ∀ n, (∀ j, j < n → P j) → ct P n = n
  | 0, _ => rfl
  | n + 1, h => by rw [ct_yes (h n (by omega)), ct_all n (fun j hj => h j (by omega))]
theorem ln_iff {p z o x y c : Int} : ln p z o c = ln p x y c ↔ ((z - x) % p + c * ((o - z - (y - x)) % p)) % p = 0 := by
  unfold ln
  rw [Int.emod_eq_emod_iff_emod_sub_eq_zero, am_l, ← am_r, ml_r, am_r, show z + c * (o - z) - (x + c * (y - x)) = z - x + c * (o - z - (y - x)) by grind]
theorem ln_ct {p : Nat} {z o x y : Int} (hp : p ∈ PR) (hne : (z - x) % (p : Int) ≠ 0 ∨ (o - z - (y - x)) % (p : Int) ≠ 0) : ct (fun c => ln p z o (c : Int) = ln p x y (c : Int)) p ≤ 1 := by
  have hb := PRb hp
  rw [ct_congr (Q := fun c : Nat => ((z - x) % (p : Int) + (c : Int) * ((o - z - (y - x)) % (p : Int))) % (p : Int) = 0) p (fun c _ => ln_iff)]
  exact root1 hp (modb (by omega)) (modb (by omega)) (by omega)
theorem ww_val {p : Nat} {l : List Int} {r : Nat} {z o : Int} (n : Nat) : ww p l r z o n = (n : Int) * wo p (2 - r) false + (ct (fun c => ln p z o (c : Int) = ln p (rz p l r) (ro p l r) (c : Int)) n : Int) * (wo p (2 - r) true - wo p (2 - r) false) := sm_ite _ _ n
theorem wo_up {p r : Nat} (hp : 2 < p) (hr : r ≤ 2) : wo p (3 - r) true = wo p (2 - r) true * p ∧ wo p (3 - r) false = (p : Int) * wo p (2 - r) false + (wo p (2 - r) true - wo p (2 - r) false) := by
  unfold wo
  rw [show 3 - r = (2 - r) + 1 by omega, Nat.pow_succ, Nat.pow_succ, Int.natCast_mul, Int.natCast_mul, Int.natCast_sub (show 1 ≤ p by omega)]
  rw [if_pos rfl, if_pos rfl, if_neg (by decide), if_neg (by decide)]
  refine ⟨rfl, ?_⟩
  generalize ((p ^ (2 - r) : Nat) : Int) = A
  generalize (((p - 1) ^ (2 - r) : Nat) : Int) = B
  grind
theorem crz {p : Nat} {l : List Int} {r : Nat} (hr : r ≤ 2) : (rz p l r + ro p l r) % (p : Int) = cr p l r := by
  unfold rz ro cr
  rw [am_l, am_r, (hlf_ok (r := r) (by omega)).2.2.2.2 (by omega)]
  congr 1
  omega
def bst (w : Nat → Int) : Nat → Int
  | 0 => 0
  | n + 1 => if bst w n < w n then w n else bst w n
theorem bst_le {w : Nat → Int} {M : Int} (h0 : 0 ≤ M) : ∀ n, (∀ j, j < n → w j ≤ M) → bst w n ≤ M
  | 0, _ => h0
  | n + 1, h => by
    have ih := bst_le h0 n (fun j hj => h j (by omega))
    have h1 := h n (by omega)
    unfold bst
    split <;> omega
theorem bst_ge {w : Nat → Int} {j : Nat} : ∀ n, j < n → w j ≤ bst w n
  | 0, h => absurd h (Nat.not_lt_zero j)
  | n + 1, h => by
    unfold bst
    by_cases e : j = n
    · rw [e]; split <;> omega
    · have ih := bst_ge (w := w) (j := j) n (by omega)
      split <;> omega
theorem bst_b {w : Nat → Int} {M : Int} (h0 : 0 ≤ M) (h : ∀ j, w j ≤ M) : ∀ n, 0 ≤ bst w n ∧ bst w n ≤ M
  | 0 => ⟨Int.le_refl 0, h0⟩
  | n + 1 => by
    have ih := bst_b h0 h n
    have h1 := h n
    unfold bst
    split <;> omega
/-- the best of all ways is what the claim is worth -/
theorem bst_is {p : Nat} {l : List Int} {r : Nat} {c : Int} (hp : p ∈ PR) (hr : r ≤ 2) (hc : 0 ≤ c ∧ c < p) : bst (fun z => ww p l r (z : Int) ((c - (z : Int)) % (p : Int)) p) p = wo p (3 - r) (decide (c = cr p l r)) := by
  have hb := PRb hp
  obtain ⟨u1, u2⟩ := wo_up (p := p) (r := r) hb.1 hr
  have w1 := wo_b (b := true) hp (show 2 - r < 4 by omega)
  have w2 := wo_b (b := false) hp (show 2 - r < 4 by omega)
  have w3 := wo_b (b := true) hp (show 3 - r < 4 by omega)
  have w4 := wo_b (b := false) hp (show 3 - r < 4 by omega)
  have w5 : wo p (2 - r) false ≤ wo p (2 - r) true := by
    unfold wo
    rw [if_pos rfl, if_neg (by decide)]
    omega
  have zb : 0 ≤ rz p l r ∧ rz p l r < p := modb (by omega)
  have ob : 0 ≤ ro p l r ∧ ro p l r < p := modb (by omega)
  have hs := crz (p := p) (l := l) (r := r) hr
  have ez : (((rz p l r).toNat : Nat) : Int) = rz p l r := by omega
  have key : ww p l r (rz p l r) ((c - rz p l r) % (p : Int)) p ≤ bst (fun z => ww p l r (z : Int) ((c - (z : Int)) % (p : Int)) p) p := by
    have := bst_ge (w := fun z : Nat => ww p l r (z : Int) ((c - (z : Int)) % (p : Int)) p) (j := (rz p l r).toNat) p (by omega)
    rw [ez] at this
    exact this
  by_cases q : c = cr p l r
  · rw [decide_eq_true q]
    have e1 : (c - rz p l r) % (p : Int) = ro p l r := by
      rw [q, ← hs, sm_l, show rz p l r + ro p l r - rz p l r = ro p l r by omega, Int.emod_eq_of_lt ob.1 ob.2]
    rw [e1, ww_val, ct_all p (fun j _ => rfl)] at key
    refine Int.le_antisymm (bst_le w3.1 p (fun j hj => ?_)) ?_
    · rw [ww_val, u1]
      have h1 := ct_le (fun k : Nat => ln p (j : Int) ((c - (j : Int)) % (p : Int)) (k : Int) = ln p (rz p l r) (ro p l r) (k : Int)) p
      generalize ct (fun k : Nat => ln p (j : Int) ((c - (j : Int)) % (p : Int)) (k : Int) = ln p (rz p l r) (ro p l r) (k : Int)) p = n at *
      have h2 : (n : Int) * (wo p (2 - r) true - wo p (2 - r) false) ≤ (p : Int) * (wo p (2 - r) true - wo p (2 - r) false) := Int.mul_le_mul_of_nonneg_right (by omega) (by omega)
      have h3 : (p : Int) * wo p (2 - r) false + (p : Int) * (wo p (2 - r) true - wo p (2 - r) false) = wo p (2 - r) true * p := by grind
      omega
    · rw [u1]; grind
  · rw [decide_eq_false q]
    refine Int.le_antisymm (bst_le w4.1 p (fun j hj => ?_)) ?_
    · rw [ww_val, u2]
      have h1 := ln_ct (z := (j : Int)) (o := (c - (j : Int)) % (p : Int)) (x := rz p l r) (y := ro p l r) hp (by
        by_cases a1 : ((j : Int) - rz p l r) % (p : Int) = 0
        · right
          intro a2
          have b1 := (sub_m0 (p := (p : Int)) ⟨by omega, by omega⟩ zb).mp a1
          rw [b1] at a2
          have b2 := modb (z := c - rz p l r) (p := (p : Int)) (by omega)
          have b3 := (sub_m0 (p := (p : Int)) b2 ob).mp (by rw [← a2]; congr 1; omega)
          refine q ?_
          rw [← hs, ← b3, am_r, show rz p l r + (c - rz p l r) = c by omega, Int.emod_eq_of_lt hc.1 hc.2]
        · exact Or.inl a1)
      generalize ct (fun k : Nat => ln p (j : Int) ((c - (j : Int)) % (p : Int)) (k : Int) = ln p (rz p l r) (ro p l r) (k : Int)) p = n at *
      have h2 : (n : Int) * (wo p (2 - r) true - wo p (2 - r) false) ≤ 1 * (wo p (2 - r) true - wo p (2 - r) false) := Int.mul_le_mul_of_nonneg_right (by omega) (by omega)
      omega
    · refine Int.le_trans ?_ key
      rw [ww_val, u2]
      have h1 := ct_ge (P := fun k : Nat => ln p (rz p l r) ((c - rz p l r) % (p : Int)) (k : Int) = ln p (rz p l r) (ro p l r) (k : Int)) (j := 0) (n := p) (by omega) (by unfold ln; rw [show ((0 : Nat) : Int) = 0 from rfl, Int.zero_mul, Int.zero_mul])
      generalize ct (fun k : Nat => ln p (rz p l r) ((c - rz p l r) % (p : Int)) (k : Int) = ln p (rz p l r) (ro p l r) (k : Int)) p = n at *
      have h2 : 1 * (wo p (2 - r) true - wo p (2 - r) false) ≤ (n : Int) * (wo p (2 - r) true - wo p (2 - r) false) := Int.mul_le_mul_of_nonneg_right (by omega) (by omega)
      omega
/-- an open claim's worth; what was sent, its worth -/
def wnn (p : Nat) (l : List Int) (r : Nat) (s c z o : Int) : Int := if s = 1 then ww p l r z o p else wo p (3 - r) (decide (c = cr p l r))

set_option maxRecDepth 20000 in
set_option maxHeartbeats 1000000 in
theorem S_X2_winning {G : xG} {d rc rs : Nat} {ex : Bool} {h : xH} {Q : xQ} {p r : Nat} {b s i c z o : Int} {l : List Int} (hp5 : p ∈ PR) (hf : h[4]? = some (cO 1 [vi (p : Int)])) (hg : h[52]? = some (cG b s i c r z o)) (hl : h[53]? = some (cA 0 l)) (ll : Fl (p : Int) l) (hr : r ≤ 3) (hs : s = 0 ∨ s = 1) (hsr : s = 1 → r ≤ 2) (hcx : xr c) (hz : s = 1 → 0 ≤ z ∧ z < p) (ho : s = 1 → 0 ≤ o ∧ o < p) (k : Q (.inl (some (vi (wnn p l r s c z o)))) ex h) : X G m_X2_winning (d + 4) rc rs ex 0 (xe m_X2_winning.2.2.1 [.ref 52]) [] h Q := by
  show X G m_X2_winning _ _ _ _ 0 [some (.ref 52)] [] h Q
  have hp := PRb hp5
  have hk := hlf_ok hr
  have hG : h[52]? = some (cO 2 [.ref 4, .ref 53, vi (b), vi (s), vi (i), vi (c), vi ((r : Int)), vi (z), vi (o)]) := hg
  refine x_aload_n (dT U_X2_winning 0 rfl) rfl ?_
  refine x_getfield F_X2_29 (dT U_X2_winning 1 rfl) hG (Nat.le_of_ble_eq_true rfl) rfl ?_
  refine x_if_eq (tgt := 22) (dT U_X2_winning 2 rfl) (by decide) (by unfold xr; omega) (fun c4 => ?_) (fun c4 => ?_)
  · skip
    refine x_aload_n (dT U_X2_winning 10 rfl) rfl ?_
    refine x_iconst (dT U_X2_winning 11 rfl) ?_
    refine x_aload_n (dT U_X2_winning 12 rfl) rfl ?_
    refine x_getfield F_X2_36 (dT U_X2_winning 13 rfl) hG (Nat.le_of_ble_eq_true rfl) rfl ?_
    refine x_isub (dT U_X2_winning 14 rfl) ?_
    refine x_aload_n (dT U_X2_winning 15 rfl) rfl ?_
    refine x_invokevirtual (rc' := rc) (rs' := rs) (rc2 := 0) (rs2 := 0) (As := []) (st := _) M_X2_claimIsRight K_X2_39 (dT U_X2_winning 16 rfl) rfl rfl (by decide) rfl rfl hG (Nat.le_of_ble_eq_true rfl) (by decide) rfl (Nat.le_of_ble_eq_true rfl) rfl (by decide) (Nat.le_of_ble_eq_true rfl) rfl rfl ?_
    refine S_X2_claimIsRight hp5 hf hg hl ll hr hcx (fun q1 => ?_) (fun q0 => ?_)
    · refine xRet_some ?_
      refine x_invokevirtual (rc' := rc) (rs' := rs) (rc2 := 0) (rs2 := 0) (As := [_, _]) (st := _) M_X2_winningOf K_X2_82 (dT U_X2_winning 17 rfl) rfl rfl (by decide) rfl rfl hG (Nat.le_of_ble_eq_true rfl) (by decide) rfl (Nat.le_of_ble_eq_true rfl) rfl (by decide) (Nat.le_of_ble_eq_true rfl) rfl rfl ?_
      rw [show (3 : Int) - (r : Int) = ((3 - r : Nat) : Int) by omega]
      refine S_X2_winningOf hp5 hf hg hl ll hr (by omega) (Or.inr rfl) ?_
      refine xRet_some ?_
      refine x_ireturn (dT U_X2_winning 18 rfl) rfl ?_
      rw [wnn, if_neg (by omega), decide_eq_true q1] at k
      exact k
    · refine xRet_some ?_
      refine x_invokevirtual (rc' := rc) (rs' := rs) (rc2 := 0) (rs2 := 0) (As := [_, _]) (st := _) M_X2_winningOf K_X2_82 (dT U_X2_winning 17 rfl) rfl rfl (by decide) rfl rfl hG (Nat.le_of_ble_eq_true rfl) (by decide) rfl (Nat.le_of_ble_eq_true rfl) rfl (by decide) (Nat.le_of_ble_eq_true rfl) rfl rfl ?_
      rw [show (3 : Int) - (r : Int) = ((3 - r : Nat) : Int) by omega]
      refine S_X2_winningOf hp5 hf hg hl ll hr (by omega) (Or.inl rfl) ?_
      refine xRet_some ?_
      refine x_ireturn (dT U_X2_winning 18 rfl) rfl ?_
      rw [wnn, if_neg (by omega), decide_eq_false q0] at k
      exact k
  · skip
    refine x_aload_n (dT U_X2_winning 3 rfl) rfl ?_
    refine x_aload_n (dT U_X2_winning 4 rfl) rfl ?_
    refine x_getfield F_X2_60 (dT U_X2_winning 5 rfl) hG (Nat.le_of_ble_eq_true rfl) rfl ?_
    refine x_aload_n (dT U_X2_winning 6 rfl) rfl ?_
    refine x_getfield F_X2_63 (dT U_X2_winning 7 rfl) hG (Nat.le_of_ble_eq_true rfl) rfl ?_
    refine x_invokevirtual (rc' := rc) (rs' := rs) (rc2 := 0) (rs2 := 0) (As := [_, _]) (st := _) M_X2_winningWith K_X2_78 (dT U_X2_winning 8 rfl) rfl rfl (by decide) rfl rfl hG (Nat.le_of_ble_eq_true rfl) (by decide) rfl (Nat.le_of_ble_eq_true rfl) rfl (by decide) (Nat.le_of_ble_eq_true rfl) rfl rfl ?_
    have s1 : s = 1 := by omega
    refine S_X2_winningWith hp5 hf hg hl ll hr (hsr s1) (hz s1) (ho s1) ?_
    rw [wnn, if_pos s1] at k
    refine xRet_some ?_
    refine x_goto (tgt := 36) (dT U_X2_winning 9 rfl) (by decide) ?_
    refine x_ireturn (dT U_X2_winning 18 rfl) rfl ?_
    exact k

set_option maxRecDepth 20000 in
set_option maxHeartbeats 1000000 in
theorem S_X2_bestOfAllWays {G : xG} {d rc rs : Nat} {ex : Bool} {h : xH} {Q : xQ} {p r : Nat} {b s i c z o : Int} {l : List Int} (hp5 : p ∈ PR) (hf : h[4]? = some (cO 1 [vi (p : Int)])) (hg : h[52]? = some (cG b s i c r z o)) (hl : h[53]? = some (cA 0 l)) (ll : Fl (p : Int) l) (hr : r ≤ 3) (hr2 : r ≤ 2) (hc : 0 ≤ c ∧ c < p) (k : Q (.inl (some (vi (wo p (3 - r) (decide (c = cr p l r)))))) ex h) : X G m_X2_bestOfAllWays (d + 4) rc rs ex 0 (xe m_X2_bestOfAllWays.2.2.1 [.ref 52]) [] h Q := by
  show X G m_X2_bestOfAllWays _ _ _ _ 0 [some (.ref 52), none, none] [] h Q
  have hp := PRb hp5
  have hk := hlf_ok hr
  have hG : h[52]? = some (cO 2 [.ref 4, .ref 53, vi (b), vi (s), vi (i), vi (c), vi ((r : Int)), vi (z), vi (o)]) := hg
  have L : ∀ (n w : Nat), w + n = p → X G m_X2_bestOfAllWays (d + 4) rc rs ex 4 [some (.ref 52), some (vi (bst (fun z : Nat => ww p l r (z : Int) ((c - (z : Int)) % (p : Int)) p) w)), some (vi (w : Int))] [] h Q := by
    intro n
    induction n with
    | zero =>
      intro w hi 
      refine x_iload_n (dT U_X2_bestOfAllWays 4 rfl) rfl ?_
      refine x_aload_n (dT U_X2_bestOfAllWays 5 rfl) rfl ?_
      refine x_getfield F_X2_9 (dT U_X2_bestOfAllWays 6 rfl) hG (Nat.le_of_ble_eq_true rfl) rfl ?_
      refine x_getfield F_X2_86 (dT U_X2_bestOfAllWays 7 rfl) hf (Nat.le_of_ble_eq_true rfl) rfl ?_
      refine x_icmp_ge (tgt := 43) (dT U_X2_bestOfAllWays 8 rfl) (by decide) (by unfold xr at *; omega) (by unfold xr at *; omega) (fun c12 => ?_) (fun c12 => ?_)
      · skip
        refine x_iload_n (dT U_X2_bestOfAllWays 23 rfl) rfl ?_
        refine x_ireturn (dT U_X2_bestOfAllWays 24 rfl) rfl ?_
        have e : w = p := by omega
        subst e
        rw [bst_is hp5 hr2 hc]
        exact k
      · exfalso; omega
    | succ n ih =>
      intro w hi 
      refine x_iload_n (dT U_X2_bestOfAllWays 4 rfl) rfl ?_
      refine x_aload_n (dT U_X2_bestOfAllWays 5 rfl) rfl ?_
      refine x_getfield F_X2_9 (dT U_X2_bestOfAllWays 6 rfl) hG (Nat.le_of_ble_eq_true rfl) rfl ?_
      refine x_getfield F_X2_86 (dT U_X2_bestOfAllWays 7 rfl) hf (Nat.le_of_ble_eq_true rfl) rfl ?_
      refine x_icmp_ge (tgt := 43) (dT U_X2_bestOfAllWays 8 rfl) (by decide) (by unfold xr at *; omega) (by unfold xr at *; omega) (fun c12 => ?_) (fun c12 => ?_)
      · exfalso; omega
      · skip
        refine x_iload_n (dT U_X2_bestOfAllWays 9 rfl) rfl ?_
        refine x_aload_n (dT U_X2_bestOfAllWays 10 rfl) rfl ?_
        refine x_iload_n (dT U_X2_bestOfAllWays 11 rfl) rfl ?_
        refine x_aload_n (dT U_X2_bestOfAllWays 12 rfl) rfl ?_
        refine x_getfield F_X2_9 (dT U_X2_bestOfAllWays 13 rfl) hG (Nat.le_of_ble_eq_true rfl) rfl ?_
        refine x_aload_n (dT U_X2_bestOfAllWays 14 rfl) rfl ?_
        refine x_getfield F_X2_32 (dT U_X2_bestOfAllWays 15 rfl) hG (Nat.le_of_ble_eq_true rfl) rfl ?_
        refine x_iload_n (dT U_X2_bestOfAllWays 16 rfl) rfl ?_
        refine x_invokevirtual (rc' := rc) (rs' := rs) (rc2 := 0) (rs2 := 0) (As := [_, _]) (st := _) M_X1_less K_X2_95 (dT U_X2_bestOfAllWays 17 rfl) rfl rfl (by decide) rfl rfl hf (Nat.le_of_ble_eq_true rfl) (by decide) rfl (Nat.le_of_ble_eq_true rfl) rfl (by decide) (Nat.le_of_ble_eq_true rfl) rfl rfl ?_
        refine S_X1_less hf hp (by unfold xr; omega) ?_
        have ob := modb (z := c - (w : Int)) (p := (p : Int)) (by omega)
        refine xRet_some ?_
        refine x_invokevirtual (rc' := rc) (rs' := rs) (rc2 := 0) (rs2 := 0) (As := [_, _]) (st := _) M_X2_winningWith K_X2_78 (dT U_X2_bestOfAllWays 18 rfl) rfl rfl (by decide) rfl rfl hG (Nat.le_of_ble_eq_true rfl) (by decide) rfl (Nat.le_of_ble_eq_true rfl) rfl (by decide) (Nat.le_of_ble_eq_true rfl) rfl rfl ?_
        refine S_X2_winningWith hp5 hf hg hl ll hr hr2 (by omega) ob ?_
        have b1 := bst_b (w := (fun z : Nat => ww p l r (z : Int) ((c - (z : Int)) % (p : Int)) p)) (M := 279841) (by omega) (fun j => by have := ww_b (p := p) (l := l) (r := r) (z := (j : Int)) (o := (c - (j : Int)) % (p : Int)) hp5 p; omega) w
        have b2 := ww_b (p := p) (l := l) (r := r) (z := (w : Int)) (o := (c - (w : Int)) % (p : Int)) hp5 p
        refine xRet_some ?_
        refine x_mmax K_max S_max I_max C_max (dT U_X2_bestOfAllWays 19 rfl) (Nat.le_add_left _ _) (Nat.le_of_ble_eq_true rfl) (by unfold xr; omega) (by unfold xr; omega) ?_
        refine x_istore_n (ls' := [some (.ref _), some (vi _), some (vi _)]) (dT U_X2_bestOfAllWays 20 rfl) (by decide) rfl ?_
        refine x_iinc (ls' := [some (.ref _), some (vi _), some (vi _)]) (dT U_X2_bestOfAllWays 21 rfl) (by decide) rfl rfl ?_
        refine x_goto (tgt := 4) (dT U_X2_bestOfAllWays 22 rfl) (by decide) ?_
        exact ih (w + 1) (by omega)
  refine x_iconst (dT U_X2_bestOfAllWays 0 rfl) ?_
  refine x_istore_n (ls' := [some (.ref _), some (vi _), none]) (dT U_X2_bestOfAllWays 1 rfl) (by decide) rfl ?_
  refine x_iconst (dT U_X2_bestOfAllWays 2 rfl) ?_
  refine x_istore_n (ls' := [some (.ref _), some (vi _), some (vi _)]) (dT U_X2_bestOfAllWays 3 rfl) (by decide) rfl ?_
  exact L p 0 (by omega)

set_option maxRecDepth 20000 in
set_option maxHeartbeats 1000000 in
theorem S_X2_isFair {G : xG} {d rc rs : Nat} {ex : Bool} {h : xH} {Q : xQ} {p r : Nat} {b s i c z o : Int} {l : List Int} (hp5 : p ∈ PR) (hf : h[4]? = some (cO 1 [vi (p : Int)])) (hg : h[52]? = some (cG b s i c r z o)) (hl : h[53]? = some (cA 0 l)) (ll : Fl (p : Int) l) (hr : r ≤ 3) (hs : s = 0 ∨ s = 1) (hsr : s = 1 → r ≤ 2) (hcx : xr c) (hz : s = 1 → 0 ≤ z ∧ z < p) (ho : s = 1 → 0 ≤ o ∧ o < p) (hc : 0 ≤ c ∧ c < p) (hbb : b = 0 ∨ b = 1) (hi : i = 0 ∨ i = 1) (inv0 : i = 1 → s = 0 → c = cr p l r) (inv1 : i = 1 → s = 1 → z = rz p l r ∧ o = ro p l r) (k : Q (.inl (some (vi 1))) ex h) : X G m_X2_isFair (d + 5) rc rs ex 0 (xe m_X2_isFair.2.2.1 [.ref 52]) [] h Q := by
  show X G m_X2_isFair _ _ _ _ 0 [some (.ref 52)] [] h Q
  have hp := PRb hp5
  have hk := hlf_ok hr
  have hG : h[52]? = some (cO 2 [.ref 4, .ref 53, vi (b), vi (s), vi (i), vi (c), vi ((r : Int)), vi (z), vi (o)]) := hg
  have wb1 := ww_b (p := p) (l := l) (r := r) (z := z) (o := o) hp5 p
  have wb2 := wo_b (b := decide (c = cr p l r)) hp5 (show 3 - r < 4 by omega)
  have wb3 := wo_b (b := true) hp5 (show 3 - r < 4 by omega)
  have wnb : 0 ≤ wnn p l r s c z o ∧ wnn p l r s c z o ≤ 279841 := by unfold wnn; split <;> omega
  have fair : i = 1 → wnn p l r s c z o = wo p (3 - r) true := by
    intro i1
    unfold wnn
    rcases hs with rfl | rfl
    · rw [if_neg (by omega), decide_eq_true (inv0 i1 rfl)]
    · rw [if_pos rfl]
      obtain ⟨e1, e2⟩ := inv1 i1 rfl
      rw [ww_val, ct_all p (fun j _ => by rw [e1, e2]), (wo_up hp.1 (hsr rfl)).1]
      grind
  refine x_aload_n (dT U_X2_isFair 0 rfl) rfl ?_
  refine x_getfield F_X2_25 (dT U_X2_isFair 1 rfl) hG (Nat.le_of_ble_eq_true rfl) rfl ?_
  refine x_if_ne (tgt := 9) (dT U_X2_isFair 2 rfl) (by decide) (by have := hbb; unfold xr; omega) (fun c4 => ?_) (fun c4 => ?_)
  · skip
    refine x_aload_n (dT U_X2_isFair 5 rfl) rfl ?_
    refine x_getfield F_X2_43 (dT U_X2_isFair 6 rfl) hG (Nat.le_of_ble_eq_true rfl) rfl ?_
    refine x_if_eq (tgt := 36) (dT U_X2_isFair 7 rfl) (by decide) (by unfold xr; omega) (fun c13 => ?_) (fun c13 => ?_)
    · skip
      refine x_aload_n (dT U_X2_isFair 20 rfl) rfl ?_
      refine x_getfield F_X2_29 (dT U_X2_isFair 21 rfl) hG (Nat.le_of_ble_eq_true rfl) rfl ?_
      refine x_if_ne (tgt := 62) (dT U_X2_isFair 22 rfl) (by decide) (by unfold xr; omega) (fun c40 => ?_) (fun c40 => ?_)
      · skip
        refine x_iconst (dT U_X2_isFair 32 rfl) ?_
        refine x_goto (tgt := 67) (dT U_X2_isFair 33 rfl) (by decide) ?_
        refine x_zreturn (dT U_X2_isFair 35 rfl) rfl (by omega) ?_
        exact k
      · skip
        refine x_aload_n (dT U_X2_isFair 23 rfl) rfl ?_
        refine x_getfield F_X2_36 (dT U_X2_isFair 24 rfl) hG (Nat.le_of_ble_eq_true rfl) rfl ?_
        refine x_iconst (dT U_X2_isFair 25 rfl) ?_
        refine x_icmp_ge (tgt := 62) (dT U_X2_isFair 26 rfl) (by decide) (by unfold xr at *; omega) (by unfold xr at *; omega) (fun c48 => ?_) (fun c48 => ?_)
        · skip
          refine x_iconst (dT U_X2_isFair 32 rfl) ?_
          refine x_goto (tgt := 67) (dT U_X2_isFair 33 rfl) (by decide) ?_
          refine x_zreturn (dT U_X2_isFair 35 rfl) rfl (by omega) ?_
          exact k
        · skip
          refine x_aload_n (dT U_X2_isFair 27 rfl) rfl ?_
          refine x_invokevirtual (rc' := rc) (rs' := rs) (rc2 := 0) (rs2 := 0) (As := []) (st := _) M_X2_winning K_X2_89 (dT U_X2_isFair 28 rfl) rfl rfl (by decide) rfl rfl hG (Nat.le_of_ble_eq_true rfl) (by decide) rfl (Nat.le_of_ble_eq_true rfl) rfl (by decide) (Nat.le_of_ble_eq_true rfl) rfl rfl ?_
          refine S_X2_winning hp5 hf hg hl ll hr hs hsr hcx hz ho ?_
          rw [wnn, if_neg (by omega)]
          refine xRet_some ?_
          refine x_aload_n (dT U_X2_isFair 29 rfl) rfl ?_
          refine x_invokevirtual (rc' := rc) (rs' := rs) (rc2 := 0) (rs2 := 0) (As := []) (st := _) M_X2_bestOfAllWays K_X2_92 (dT U_X2_isFair 30 rfl) rfl rfl (by decide) rfl rfl hG (Nat.le_of_ble_eq_true rfl) (by decide) rfl (Nat.le_of_ble_eq_true rfl) rfl (by decide) (Nat.le_of_ble_eq_true rfl) rfl rfl ?_
          refine S_X2_bestOfAllWays hp5 hf hg hl ll hr (by omega) hc ?_
          refine xRet_some ?_
          refine x_icmp_ne (tgt := 66) (dT U_X2_isFair 31 rfl) (by decide) (by unfold xr; omega) (by unfold xr; omega) (fun c59 => ?_) (fun c59 => ?_)
          · exact absurd rfl c59
          · skip
            refine x_iconst (dT U_X2_isFair 32 rfl) ?_
            refine x_goto (tgt := 67) (dT U_X2_isFair 33 rfl) (by decide) ?_
            refine x_zreturn (dT U_X2_isFair 35 rfl) rfl (by omega) ?_
            exact k
    · skip
      refine x_aload_n (dT U_X2_isFair 8 rfl) rfl ?_
      refine x_invokevirtual (rc' := rc) (rs' := rs) (rc2 := 0) (rs2 := 0) (As := []) (st := _) M_X2_winning K_X2_89 (dT U_X2_isFair 9 rfl) rfl rfl (by decide) rfl rfl hG (Nat.le_of_ble_eq_true rfl) (by decide) rfl (Nat.le_of_ble_eq_true rfl) rfl (by decide) (Nat.le_of_ble_eq_true rfl) rfl rfl ?_
      refine S_X2_winning hp5 hf hg hl ll hr hs hsr hcx hz ho ?_
      refine xRet_some ?_
      refine x_aload_n (dT U_X2_isFair 10 rfl) rfl ?_
      refine x_iconst (dT U_X2_isFair 11 rfl) ?_
      refine x_aload_n (dT U_X2_isFair 12 rfl) rfl ?_
      refine x_getfield F_X2_36 (dT U_X2_isFair 13 rfl) hG (Nat.le_of_ble_eq_true rfl) rfl ?_
      refine x_isub (dT U_X2_isFair 14 rfl) ?_
      refine x_iconst (dT U_X2_isFair 15 rfl) ?_
      refine x_invokevirtual (rc' := rc) (rs' := rs) (rc2 := 0) (rs2 := 0) (As := [_, _]) (st := _) M_X2_winningOf K_X2_82 (dT U_X2_isFair 16 rfl) rfl rfl (by decide) rfl rfl hG (Nat.le_of_ble_eq_true rfl) (by decide) rfl (Nat.le_of_ble_eq_true rfl) rfl (by decide) (Nat.le_of_ble_eq_true rfl) rfl rfl ?_
      rw [show (3 : Int) - (r : Int) = ((3 - r : Nat) : Int) by omega]
      refine S_X2_winningOf hp5 hf hg hl ll hr (by omega) (Or.inr rfl) ?_
      rw [fair (by omega)]
      rw [show decide ((1 : Int) = 1) = true from rfl]
      refine xRet_some ?_
      refine x_icmp_eq (tgt := 36) (dT U_X2_isFair 17 rfl) (by decide) (by unfold xr; omega) (by unfold xr; omega) (fun c31 => ?_) (fun c31 => ?_)
      · skip
        refine x_aload_n (dT U_X2_isFair 20 rfl) rfl ?_
        refine x_getfield F_X2_29 (dT U_X2_isFair 21 rfl) hG (Nat.le_of_ble_eq_true rfl) rfl ?_
        refine x_if_ne (tgt := 62) (dT U_X2_isFair 22 rfl) (by decide) (by unfold xr; omega) (fun c40 => ?_) (fun c40 => ?_)
        · skip
          refine x_iconst (dT U_X2_isFair 32 rfl) ?_
          refine x_goto (tgt := 67) (dT U_X2_isFair 33 rfl) (by decide) ?_
          refine x_zreturn (dT U_X2_isFair 35 rfl) rfl (by omega) ?_
          exact k
        · skip
          refine x_aload_n (dT U_X2_isFair 23 rfl) rfl ?_
          refine x_getfield F_X2_36 (dT U_X2_isFair 24 rfl) hG (Nat.le_of_ble_eq_true rfl) rfl ?_
          refine x_iconst (dT U_X2_isFair 25 rfl) ?_
          refine x_icmp_ge (tgt := 62) (dT U_X2_isFair 26 rfl) (by decide) (by unfold xr at *; omega) (by unfold xr at *; omega) (fun c48 => ?_) (fun c48 => ?_)
          · skip
            refine x_iconst (dT U_X2_isFair 32 rfl) ?_
            refine x_goto (tgt := 67) (dT U_X2_isFair 33 rfl) (by decide) ?_
            refine x_zreturn (dT U_X2_isFair 35 rfl) rfl (by omega) ?_
            exact k
          · skip
            refine x_aload_n (dT U_X2_isFair 27 rfl) rfl ?_
            refine x_invokevirtual (rc' := rc) (rs' := rs) (rc2 := 0) (rs2 := 0) (As := []) (st := _) M_X2_winning K_X2_89 (dT U_X2_isFair 28 rfl) rfl rfl (by decide) rfl rfl hG (Nat.le_of_ble_eq_true rfl) (by decide) rfl (Nat.le_of_ble_eq_true rfl) rfl (by decide) (Nat.le_of_ble_eq_true rfl) rfl rfl ?_
            refine S_X2_winning hp5 hf hg hl ll hr hs hsr hcx hz ho ?_
            rw [wnn, if_neg (by omega)]
            refine xRet_some ?_
            refine x_aload_n (dT U_X2_isFair 29 rfl) rfl ?_
            refine x_invokevirtual (rc' := rc) (rs' := rs) (rc2 := 0) (rs2 := 0) (As := []) (st := _) M_X2_bestOfAllWays K_X2_92 (dT U_X2_isFair 30 rfl) rfl rfl (by decide) rfl rfl hG (Nat.le_of_ble_eq_true rfl) (by decide) rfl (Nat.le_of_ble_eq_true rfl) rfl (by decide) (Nat.le_of_ble_eq_true rfl) rfl rfl ?_
            refine S_X2_bestOfAllWays hp5 hf hg hl ll hr (by omega) hc ?_
            refine xRet_some ?_
            refine x_icmp_ne (tgt := 66) (dT U_X2_isFair 31 rfl) (by decide) (by unfold xr; omega) (by unfold xr; omega) (fun c59 => ?_) (fun c59 => ?_)
            · exact absurd rfl c59
            · skip
              refine x_iconst (dT U_X2_isFair 32 rfl) ?_
              refine x_goto (tgt := 67) (dT U_X2_isFair 33 rfl) (by decide) ?_
              refine x_zreturn (dT U_X2_isFair 35 rfl) rfl (by omega) ?_
              exact k
      · exact absurd rfl c31
  · skip
    refine x_iconst (dT U_X2_isFair 3 rfl) ?_
    refine x_zreturn (dT U_X2_isFair 4 rfl) rfl (by omega) ?_
    exact k
