theorem tab_set {f g : Nat → Int} {m n : Nat} {v : Int} (hn : n < m) (h1 : g n = v) (h2 : ∀ j, j < m → j ≠ n → g j = f j) : (tab f m).set n v = tab g m := by
  refine list_ext (by rw [List.length_set, tab_len, tab_len]) (fun j hj => ?_)
  rw [List.length_set, tab_len] at hj
  rw [tab_get g hj]
  by_cases e : j = n
  · subst e
    rw [List.getD_eq_getElem?_getD, List.getElem?_set_self (by rw [tab_len]; exact hj), h1]
    rfl
  · rw [List.getD_eq_getElem?_getD, List.getElem?_set_ne (Ne.symm e), ← List.getD_eq_getElem?_getD, tab_get f hj, h2 j hj e]
theorem ite_cg {P Q : Prop} [Decidable P] [Decidable Q] {x y : Int} (h : P ↔ Q) : (if P then x else y) = (if Q then x else y) := by
  by_cases q : Q
  · rw [if_pos q, if_pos (h.mpr q)]
  · rw [if_neg q, if_neg (fun z => q (h.mp z))]
def pm (r o : Nat → Int) (i n : Nat) : Int := sm (fun t => if t ≤ n then r t * o (n - t) else 0) i
theorem pm_s {r o : Nat → Int} {i j : Nat} : pm r o (i + 1) (i + j) = pm r o i (i + j) + r i * o j := by
  show sm _ i + (if i ≤ i + j then _ else _) = _
  rw [if_pos (by omega), show i + j - i = j by omega]
  rfl
theorem pm_n {r o : Nat → Int} {i n : Nat} (h : n < i) : pm r o (i + 1) n = pm r o i n := by
  show sm _ i + (if i ≤ n then _ else _) = _
  rw [if_neg (by omega)]
  exact Int.add_zero _
def gf (l : List Int) (j : Nat) : Int := l.getD j 0

set_option maxRecDepth 20000 in
set_option maxHeartbeats 1000000 in
theorem S_X6_isTooHigh {G : xG} {d rc rs : Nat} {ex : Bool} {h : xH} {Q : xQ} {p : Nat} {ra : Nat} {rl : List Int}{oa : Nat} {ol : List Int} (hp : 2 < p ∧ p < 24) (hr : h[ra]? = some (cA 0 rl)) (r3 : 3 ≤ ra ∧ ra ≠ 4 ∧ ra ≠ 18 ∧ ra ≠ 19 ∧ ra ≠ 20) (lr : Fl (p : Int) rl) (ho : h[oa]? = some (cA 0 ol)) (o3 : 3 ≤ oa ∧ oa ≠ 4 ∧ oa ≠ 18 ∧ oa ≠ 19 ∧ oa ≠ 20) (lo : Fl (p : Int) ol) (k1 : 8 ≤ dg (gf rl) 8 + dg (gf ol) 8 → 0 ≤ dg (gf rl) 8 → 0 ≤ dg (gf ol) 8 → Q (.inl (some (vi 1))) ex h) (k0 : ¬ (8 ≤ dg (gf rl) 8 + dg (gf ol) 8 ∧ 0 ≤ dg (gf rl) 8 ∧ 0 ≤ dg (gf ol) 8) → Q (.inl (some (vi 0))) ex h) : X G m_X6_isTooHigh (d + 1) rc rs ex 0 (xe m_X6_isTooHigh.2.2.1 [.ref 18, .ref ra, .ref oa]) [] h Q := by
  show X G m_X6_isTooHigh _ _ _ _ 0 [some (.ref 18), some (.ref ra), some (.ref oa), none, none] [] h Q
  have b1 := dg_b (gf rl) 8
  have b2 := dg_b (gf ol) 8
  refine x_aload_n (dT U_X6_isTooHigh 0 rfl) rfl ?_
  refine x_invokestatic (rc' := rc) (rs' := rs) (rc2 := 0) (rs2 := 0) (As := [_]) (st := _) M_X1_degreeOf K_X6_22 (dT U_X6_isTooHigh 1 rfl) rfl rfl rfl rfl (Nat.le_of_ble_eq_true rfl) rfl (by decide) (Nat.le_of_ble_eq_true rfl) rfl rfl ?_
  refine S_X1_degreeOf hr r3.1 lr.1 (fun j => by have := lr.2 j; unfold xr; omega) ?_
  refine xRet_some ?_
  change X G _ _ _ _ _ _ _ [vi (dg (gf rl) 8)] _ _
  refine x_istore_n (ls' := [some (.ref _), some (.ref _), some (.ref _), some (vi _), none]) (dT U_X6_isTooHigh 2 rfl) (by decide) rfl ?_
  refine x_aload_n (dT U_X6_isTooHigh 3 rfl) rfl ?_
  refine x_invokestatic (rc' := rc) (rs' := rs) (rc2 := 0) (rs2 := 0) (As := [_]) (st := _) M_X1_degreeOf K_X6_22 (dT U_X6_isTooHigh 4 rfl) rfl rfl rfl rfl (Nat.le_of_ble_eq_true rfl) rfl (by decide) (Nat.le_of_ble_eq_true rfl) rfl rfl ?_
  refine S_X1_degreeOf ho o3.1 lo.1 (fun j => by have := lo.2 j; unfold xr; omega) ?_
  refine xRet_some ?_
  change X G _ _ _ _ _ _ _ [vi (dg (gf ol) 8)] _ _
  refine x_istore (ls' := [some (.ref _), some (.ref _), some (.ref _), some (vi _), some (vi _)]) (dT U_X6_isTooHigh 5 rfl) (by decide) rfl ?_
  refine x_iload_n (dT U_X6_isTooHigh 6 rfl) rfl ?_
  refine x_iconst (dT U_X6_isTooHigh 7 rfl) ?_
  refine x_icmp_eq (tgt := 35) (dT U_X6_isTooHigh 8 rfl) (by decide) (by unfold xr at *; omega) (by unfold xr at *; omega) (fun c13 => ?_) (fun c13 => ?_)
  · skip
    refine x_iconst (dT U_X6_isTooHigh 19 rfl) ?_
    refine x_zreturn (dT U_X6_isTooHigh 20 rfl) rfl (by omega) ?_
    first | exact k1 (by omega) (by omega) (by omega) | exact k0 (by omega)
  · skip
    refine x_iload (dT U_X6_isTooHigh 9 rfl) rfl ?_
    refine x_iconst (dT U_X6_isTooHigh 10 rfl) ?_
    refine x_icmp_eq (tgt := 35) (dT U_X6_isTooHigh 11 rfl) (by decide) (by unfold xr at *; omega) (by unfold xr at *; omega) (fun c19 => ?_) (fun c19 => ?_)
    · skip
      refine x_iconst (dT U_X6_isTooHigh 19 rfl) ?_
      refine x_zreturn (dT U_X6_isTooHigh 20 rfl) rfl (by omega) ?_
      first | exact k1 (by omega) (by omega) (by omega) | exact k0 (by omega)
    · skip
      refine x_iload_n (dT U_X6_isTooHigh 12 rfl) rfl ?_
      refine x_iload (dT U_X6_isTooHigh 13 rfl) rfl ?_
      refine x_iadd (dT U_X6_isTooHigh 14 rfl) ?_
      refine x_bipush (dT U_X6_isTooHigh 15 rfl) (by decide) ?_
      refine x_icmp_lt (tgt := 35) (dT U_X6_isTooHigh 16 rfl) (by decide) (by unfold xr at *; omega) (by unfold xr at *; omega) (fun c28 => ?_) (fun c28 => ?_)
      · skip
        refine x_iconst (dT U_X6_isTooHigh 19 rfl) ?_
        refine x_zreturn (dT U_X6_isTooHigh 20 rfl) rfl (by omega) ?_
        first | exact k1 (by omega) (by omega) (by omega) | exact k0 (by omega)
      · skip
        refine x_iconst (dT U_X6_isTooHigh 17 rfl) ?_
        refine x_goto (tgt := 36) (dT U_X6_isTooHigh 18 rfl) (by decide) ?_
        refine x_zreturn (dT U_X6_isTooHigh 20 rfl) rfl (by omega) ?_
        first | exact k1 (by omega) (by omega) (by omega) | exact k0 (by omega)

set_option maxRecDepth 20000 in
set_option maxHeartbeats 1000000 in
theorem S_X6_mul1 {G : xG} {d rc rs : Nat} {ex : Bool} {h : xH} {Q : xQ} {p i ta : Nat} {sl0 : List Int} {ra : Nat} {rl : List Int} {oa : Nat} {ol : List Int} (hf : h[4]? = some (cO 1 [vi (p : Int)])) (hp : 2 < p ∧ p < 24) (hP : h[18]? = some (cO 6 [.ref 4, .ref 19, .ref 20])) (hs : h[19]? = some (cA 0 sl0)) (hr : h[ra]? = some (cA 0 rl)) (r3 : 3 ≤ ra ∧ ra ≠ 4 ∧ ra ≠ 18 ∧ ra ≠ 19 ∧ ra ≠ 20) (lr : Fl (p : Int) rl) (ho : h[oa]? = some (cA 0 ol)) (o3 : 3 ≤ oa ∧ oa ≠ 4 ∧ oa ≠ 18 ∧ oa ≠ 19 ∧ oa ≠ 20) (lo : Fl (p : Int) ol) (hi8 : i < 8)
    (M : X G m_X6_multiply (d + 1) rc rs ex 73 [some (.ref 18), some (.ref ra), some (.ref oa), some (.ref ta), some (vi (i : Int)), some (vi ((8 - i : Nat) : Int))] [] (h.set 19 (cA 0 (tab (fun n => pm (gf rl) (gf ol) (i + 1) n % (p : Int)) 8))) Q) :
    X G m_X6_multiply (d + 1) rc rs ex 20 [some (.ref 18), some (.ref ra), some (.ref oa), some (.ref ta), some (vi (i : Int)), some (vi 0)] [] (h.set 19 (cA 0 (tab (fun n => pm (gf rl) (gf ol) i n % (p : Int)) 8))) Q := by
  have L : ∀ (n j : Nat), j + n = 8 - i → X G m_X6_multiply (d + 1) rc rs ex 20 [some (.ref 18), some (.ref ra), some (.ref oa), some (.ref ta), some (vi (i : Int)), some (vi (j : Int))] [] (h.set 19 (cA 0 (tab (fun n => (if n < i + j then pm (gf rl) (gf ol) (i + 1) n else pm (gf rl) (gf ol) i n) % (p : Int)) 8))) Q := by
    intro n
    induction n with
    | zero =>
      intro j hi 
      refine x_iload (dT U_X6_multiply 10 rfl) rfl ?_
      refine x_iload (dT U_X6_multiply 11 rfl) rfl ?_
      refine x_iadd (dT U_X6_multiply 12 rfl) ?_
      refine x_bipush (dT U_X6_multiply 13 rfl) (by decide) ?_
      refine x_icmp_ge (tgt := 73) (dT U_X6_multiply 14 rfl) (by decide) (by unfold xr at *; omega) (by unfold xr at *; omega) (fun c27 => ?_) (fun c27 => ?_)
      · skip
        have e : j = 8 - i := by omega
        subst e
        rw [show (tab (fun n => (if n < i + (8 - i) then pm (gf rl) (gf ol) (i + 1) n else pm (gf rl) (gf ol) i n) % (p : Int)) 8) = (tab (fun n => pm (gf rl) (gf ol) (i + 1) n % (p : Int)) 8) from tab_congr (fun n hn => by rw [if_pos (by omega)])]
        exact M
      · exfalso; omega
    | succ n ih =>
      intro j hi 
      refine x_iload (dT U_X6_multiply 10 rfl) rfl ?_
      refine x_iload (dT U_X6_multiply 11 rfl) rfl ?_
      refine x_iadd (dT U_X6_multiply 12 rfl) ?_
      refine x_bipush (dT U_X6_multiply 13 rfl) (by decide) ?_
      refine x_icmp_ge (tgt := 73) (dT U_X6_multiply 14 rfl) (by decide) (by unfold xr at *; omega) (by unfold xr at *; omega) (fun c27 => ?_) (fun c27 => ?_)
      · exfalso; omega
      · skip
        refine x_aload_n (dT U_X6_multiply 15 rfl) rfl ?_
        refine x_getfield F_X6_15 (dT U_X6_multiply 16 rfl) (hset_ne (by omega) hP) (by omega) rfl ?_
        refine x_iload (dT U_X6_multiply 17 rfl) rfl ?_
        refine x_iload (dT U_X6_multiply 18 rfl) rfl ?_
        refine x_iadd (dT U_X6_multiply 19 rfl) ?_
        refine x_aload_n (dT U_X6_multiply 20 rfl) rfl ?_
        refine x_getfield F_X6_9 (dT U_X6_multiply 21 rfl) (hset_ne (by omega) hP) (by omega) rfl ?_
        refine x_aload_n (dT U_X6_multiply 22 rfl) rfl ?_
        refine x_getfield F_X6_15 (dT U_X6_multiply 23 rfl) (hset_ne (by omega) hP) (by omega) rfl ?_
        refine x_iload (dT U_X6_multiply 24 rfl) rfl ?_
        refine x_iload (dT U_X6_multiply 25 rfl) rfl ?_
        refine x_iadd (dT U_X6_multiply 26 rfl) ?_
        refine x_iaload (i + j) (dT U_X6_multiply 27 rfl) (hset_eq hs) (by omega) (by omega) (by rw [tab_len]; omega) (by rw [tab_len]; omega) ?_
        refine x_aload_n (dT U_X6_multiply 28 rfl) rfl ?_
        refine x_iload (dT U_X6_multiply 29 rfl) rfl ?_
        refine x_iaload (i) (dT U_X6_multiply 30 rfl) (hset_ne (by omega) hr) r3.1 rfl (by rw [lr.1]; omega) (by rw [lr.1]; omega) ?_
        refine x_aload_n (dT U_X6_multiply 31 rfl) rfl ?_
        refine x_iload (dT U_X6_multiply 32 rfl) rfl ?_
        refine x_iaload (j) (dT U_X6_multiply 33 rfl) (hset_ne (by omega) ho) o3.1 rfl (by rw [lo.1]; omega) (by rw [lo.1]; omega) ?_
        refine x_imul (dT U_X6_multiply 34 rfl) ?_
        refine x_iadd (dT U_X6_multiply 35 rfl) ?_
        refine x_invokevirtual (rc' := rc) (rs' := rs) (rc2 := 0) (rs2 := 0) (As := [_]) (st := _) M_X1_rest K_X6_32 (dT U_X6_multiply 36 rfl) rfl rfl (by decide) rfl rfl (hset_ne (by omega) hf) (by omega) (by decide) rfl (Nat.le_of_ble_eq_true rfl) rfl (by decide) (Nat.le_of_ble_eq_true rfl) rfl rfl ?_
        have v1 : (tab (fun n => (if n < i + j then pm (gf rl) (gf ol) (i + 1) n else pm (gf rl) (gf ol) i n) % (p : Int)) 8).getD (i + j) 0 = pm (gf rl) (gf ol) i (i + j) % (p : Int) := by rw [tab_get _ (by omega), if_neg (by omega)]
        rw [v1]
        have v2 := modb (z := pm (gf rl) (gf ol) i (i + j)) (p := (p : Int)) (by omega)
        have v3 := mulb (lr.2 i) (lo.2 j) (by omega)
        refine S_X1_rest (hset_ne (by omega) hf) hp (by unfold xr; omega) ?_
        rw [Int.emod_add_emod]
        rw [show pm (gf rl) (gf ol) i (i + j) + rl.getD i 0 * ol.getD j 0 = pm (gf rl) (gf ol) (i + 1) (i + j) from pm_s.symm]
        refine xRet_some ?_
        refine x_iastore (i + j) (dT U_X6_multiply 37 rfl) (hset_eq hs) (by omega) (by omega) (by rw [tab_len]; omega) (by rw [tab_len]; omega) ?_
        rw [List.set_set, tab_set (g := fun n => (if n < i + (j + 1) then pm (gf rl) (gf ol) (i + 1) n else pm (gf rl) (gf ol) i n) % (p : Int)) (by omega) (by rw [if_pos (by omega)]) (fun n h1 h2 => by congr 1; exact if q : n < i + j then (by rw [if_pos q, if_pos (by omega)]) else (by rw [if_neg q, if_neg (by omega)]))]
        refine x_iinc (ls' := [some (.ref _), some (.ref _), some (.ref _), some (.ref _), some (vi _), some (vi _)]) (dT U_X6_multiply 38 rfl) (by decide) rfl rfl ?_
        refine x_goto (tgt := 20) (dT U_X6_multiply 39 rfl) (by decide) ?_
        exact ih (j + 1) (by omega)
  have q := L (8 - i) 0 (by omega)
  rw [show (tab (fun n => (if n < i + 0 then pm (gf rl) (gf ol) (i + 1) n else pm (gf rl) (gf ol) i n) % (p : Int)) 8) = (tab (fun n => pm (gf rl) (gf ol) i n % (p : Int)) 8) from tab_congr (fun n hn => by congr 1; exact if z : n < i + 0 then (by rw [if_pos z, pm_n (by omega)]) else (by rw [if_neg z]))] at q
  exact q

set_option maxRecDepth 20000 in
set_option maxHeartbeats 1000000 in
theorem S_X6_multiply {G : xG} {d rc rs : Nat} {ex : Bool} {h : xH} {Q : xQ} {p : Nat} {sl0 tl : List Int} {ta : Nat} {ra : Nat} {rl : List Int}{oa : Nat} {ol : List Int} (hf : h[4]? = some (cO 1 [vi (p : Int)])) (hp : 2 < p ∧ p < 24) (hP : h[18]? = some (cO 6 [.ref 4, .ref 19, .ref 20])) (hs : h[19]? = some (cA 0 sl0)) (ls : sl0.length = 8) (hr : h[ra]? = some (cA 0 rl)) (r3 : 3 ≤ ra ∧ ra ≠ 4 ∧ ra ≠ 18 ∧ ra ≠ 19 ∧ ra ≠ 20) (lr : Fl (p : Int) rl) (ho : h[oa]? = some (cA 0 ol)) (o3 : 3 ≤ oa ∧ oa ≠ 4 ∧ oa ≠ 18 ∧ oa ≠ 19 ∧ oa ≠ 20) (lo : Fl (p : Int) ol) (ht : h[ta]? = some (cA 0 tl)) (t3 : 3 ≤ ta ∧ ta ≠ 19) (lt : tl.length = 8) (k : Q (.inl none) ex ((h.set 19 (cA 0 (tab (fun n => pm (gf rl) (gf ol) 8 n % (p : Int)) 8))).set ta (cA 0 (tab (fun n => pm (gf rl) (gf ol) 8 n % (p : Int)) 8)))) : X G m_X6_multiply (d + 1) rc rs ex 0 (xe m_X6_multiply.2.2.1 [.ref 18, .ref ra, .ref oa, .ref ta]) [] h Q := by
  show X G m_X6_multiply _ _ _ _ 0 [some (.ref 18), some (.ref ra), some (.ref oa), some (.ref ta), none, none] [] h Q
  have L : ∀ (n i : Nat), i + n = 8 → X G m_X6_multiply (d + 1) rc rs ex 10 [some (.ref 18), some (.ref ra), some (.ref oa), some (.ref ta), some (vi (i : Int)), none] [] (h.set 19 (cA 0 (tab (fun n => pm (gf rl) (gf ol) i n % (p : Int)) 8))) Q := by
    intro n
    induction n with
    | zero =>
      intro i hi 
      refine x_iload (dT U_X6_multiply 5 rfl) rfl ?_
      refine x_bipush (dT U_X6_multiply 6 rfl) (by decide) ?_
      refine x_icmp_ge (tgt := 79) (dT U_X6_multiply 7 rfl) (by decide) (by unfold xr at *; omega) (by unfold xr at *; omega) (fun c14 => ?_) (fun c14 => ?_)
      · skip
        refine x_aload_n (dT U_X6_multiply 42 rfl) rfl ?_
        refine x_getfield F_X6_15 (dT U_X6_multiply 43 rfl) (hset_ne (by omega) hP) (by omega) rfl ?_
        refine x_aload_n (dT U_X6_multiply 44 rfl) rfl ?_
        refine x_invokestatic (rc' := rc) (rs' := rs) (rc2 := 0) (rs2 := 0) (As := [_, _]) (st := _) M_X1_copy K_X6_36 (dT U_X6_multiply 45 rfl) rfl rfl rfl rfl (Nat.le_of_ble_eq_true rfl) rfl (by decide) (Nat.le_of_ble_eq_true rfl) rfl rfl ?_
        have e : i = 8 := by omega
        subst e
        refine S_X1_copy (hset_eq hs) (by omega) (tab_len _ _) (hset_ne (by omega) ht) t3.1 lt ?_
        refine xRet_none ?_
        refine x_return (dT U_X6_multiply 46 rfl) rfl ?_
        exact k
      · exfalso; omega
    | succ n ih =>
      intro i hi 
      refine x_iload (dT U_X6_multiply 5 rfl) rfl ?_
      refine x_bipush (dT U_X6_multiply 6 rfl) (by decide) ?_
      refine x_icmp_ge (tgt := 79) (dT U_X6_multiply 7 rfl) (by decide) (by unfold xr at *; omega) (by unfold xr at *; omega) (fun c14 => ?_) (fun c14 => ?_)
      · exfalso; omega
      · skip
        refine x_iconst (dT U_X6_multiply 8 rfl) ?_
        refine x_istore (ls' := [some (.ref _), some (.ref _), some (.ref _), some (.ref _), some (vi _), some (vi _)]) (dT U_X6_multiply 9 rfl) (by decide) rfl ?_
        refine S_X6_mul1 hf hp hP hs hr r3 lr ho o3 lo (by omega) ?_
        refine x_iinc (ls' := [some (.ref _), some (.ref _), some (.ref _), some (.ref _), some (vi _), some (vi _)]) (dT U_X6_multiply 40 rfl) (by decide) rfl rfl ?_
        refine x_goto (tgt := 10) (dT U_X6_multiply 41 rfl) (by decide) ?_
        refine x_drop ?_ (ih (i + 1) (by omega))
        repeat (first | exact trivial | refine ⟨rfl, ?_⟩ | refine ⟨trivial, ?_⟩)
  refine x_aload_n (dT U_X6_multiply 0 rfl) rfl ?_
  refine x_getfield F_X6_15 (dT U_X6_multiply 1 rfl) hP (by omega) rfl ?_
  refine x_invokestatic (rc' := rc) (rs' := rs) (rc2 := 0) (rs2 := 0) (As := [_]) (st := _) M_X1_clear K_X6_28 (dT U_X6_multiply 2 rfl) rfl rfl rfl rfl (Nat.le_of_ble_eq_true rfl) rfl (by decide) (Nat.le_of_ble_eq_true rfl) rfl rfl ?_
  refine S_X1_clear hs (by omega) ls ?_
  refine xRet_none ?_
  refine x_iconst (dT U_X6_multiply 3 rfl) ?_
  refine x_istore (ls' := [some (.ref _), some (.ref _), some (.ref _), some (.ref _), some (vi _), none]) (dT U_X6_multiply 4 rfl) (by decide) rfl ?_
  have q := L 8 0 (by omega)
  rw [show (tab (fun n => pm (gf rl) (gf ol) 0 n % (p : Int)) 8) = tab (fun _ => 0) 8 from tab_congr (fun n hn => by show (0 : Int) % _ = 0; exact Int.zero_emod _)] at q
  exact q

/-- the rest after t steps of the division by a row of degree g, whose highest number's inverse is v -/
def dvR (p : Int) (b : Nat → Int) (g : Nat) (v : Int) (r : Nat → Int) : Nat → Nat → Int
  | 0 => r
  | t + 1 => fun m => if 7 - g - t ≤ m ∧ m ≤ 7 - t then (dvR p b g v r t m - (dvR p b g v r t (7 - t) * v % p) * b (m - (7 - g - t))) % p else dvR p b g v r t m
def dvQ (p : Int) (b : Nat → Int) (g : Nat) (v : Int) (r : Nat → Int) (t : Nat) (i : Nat) : Int := if 8 - g - t ≤ i ∧ i + g < 8 then dvR p b g v r (7 - g - i) (i + g) * v % p else 0
theorem dvR_b {p : Int} (hp : 0 < p) {b r : Nat → Int} {g : Nat} {v : Int} (hr : ∀ j, 0 ≤ r j ∧ r j < p) : ∀ t j, 0 ≤ dvR p b g v r t j ∧ dvR p b g v r t j < p
  | 0, j => hr j
  | t + 1, j => by
    unfold dvR
    split
    · exact modb hp
    · exact dvR_b hp hr t j
theorem dg_nz (f : Nat → Int) : ∀ (n g : Nat), dg f n = (g : Int) → f g ≠ 0 ∧ ∀ j, g < j → j < n → f j = 0
  | 0, g, h => by unfold dg at h; omega
  | n + 1, g, h => by
    unfold dg at h
    split at h
    · rename_i h1
      have e : g = n := by omega
      subst e
      exact ⟨h1, fun j h2 h3 => by omega⟩
    · rename_i h1
      obtain ⟨h2, h3⟩ := dg_nz f n g h
      refine ⟨h2, fun j h4 h5 => ?_⟩
      by_cases e : j = n
      · subst e; exact Decidable.byContradiction h1
      · exact h3 j h4 (by omega)

set_option maxRecDepth 20000 in
set_option maxHeartbeats 1000000 in
theorem S_X6_div1 {G : xG} {d rc rs : Nat} {ex : Bool} {h : xH} {Q : xQ} {p g t ra qa ta : Nat} {v w : Int} {r : Nat → Int} {sl0 pl : List Int} {ba : Nat} {bl : List Int} (hf : h[4]? = some (cO 1 [vi (p : Int)])) (hp : 2 < p ∧ p < 24) (hP : h[18]? = some (cO 6 [.ref 4, .ref 19, .ref 20])) (hs : h[19]? = some (cA 0 sl0)) (ls : sl0.length = 8) (hpt : h[20]? = some (cA 0 pl)) (hb : h[ba]? = some (cA 0 bl)) (b3 : 3 ≤ ba ∧ ba ≠ 4 ∧ ba ≠ 18 ∧ ba ≠ 19 ∧ ba ≠ 20) (lb : Fl (p : Int) bl) (hg : g < 8) (ht : t + g < 8) (hr : ∀ j, 0 ≤ r j ∧ r j < p) (hw : sl0.getD (7 - g - t) 0 = w) (hwb : 0 ≤ w ∧ w < p)
    (M : X G m_X6_divideBy (d + 3) rc rs ex 145 [some (.ref 18), some (.ref ra), some (.ref ba), some (.ref qa), some (.ref ta), some (vi (g : Int)), some (vi v), some (vi ((7 - g - t : Nat) : Int)), some (vi ((g + 1 : Nat) : Int))] [] (h.set 20 (cA 0 (tab (fun m => if 7 - g - t ≤ m ∧ m ≤ 7 - t then (dvR p (gf bl) g v r t m - w * gf bl (m - (7 - g - t))) % (p : Int) else dvR p (gf bl) g v r t m) 8))) Q) :
    X G m_X6_divideBy (d + 3) rc rs ex 82 [some (.ref 18), some (.ref ra), some (.ref ba), some (.ref qa), some (.ref ta), some (vi (g : Int)), some (vi v), some (vi ((7 - g - t : Nat) : Int)), some (vi 0)] [] (h.set 20 (cA 0 (tab (dvR p (gf bl) g v r t) 8))) Q := by
  have hb9 := dvR_b (p := (p : Int)) (b := gf bl) (g := g) (v := v) (by omega) hr t
  have L : ∀ (n j : Nat), j + n = (g + 1) → X G m_X6_divideBy (d + 3) rc rs ex 82 [some (.ref 18), some (.ref ra), some (.ref ba), some (.ref qa), some (.ref ta), some (vi (g : Int)), some (vi v), some (vi ((7 - g - t : Nat) : Int)), some (vi (j : Int))] [] (h.set 20 (cA 0 (tab (fun m => if (7 - g - t) ≤ m ∧ m < (7 - g - t) + j then (dvR p (gf bl) g v r t m - w * gf bl (m - (7 - g - t))) % (p : Int) else dvR p (gf bl) g v r t m) 8))) Q := by
    intro n
    induction n with
    | zero =>
      intro j hi 
      refine x_iload (dT U_X6_divideBy 43 rfl) rfl ?_
      refine x_iload (dT U_X6_divideBy 44 rfl) rfl ?_
      refine x_icmp_gt (tgt := 145) (dT U_X6_divideBy 45 rfl) (by decide) (by unfold xr at *; omega) (by unfold xr at *; omega) (fun c86 => ?_) (fun c86 => ?_)
      · skip
        have e : j = g + 1 := by omega
        subst e
        rw [show (tab (fun m => if (7 - g - t) ≤ m ∧ m < (7 - g - t) + (g + 1) then (dvR p (gf bl) g v r t m - w * gf bl (m - (7 - g - t))) % (p : Int) else dvR p (gf bl) g v r t m) 8) = (tab (fun m => if (7 - g - t) ≤ m ∧ m ≤ 7 - t then (dvR p (gf bl) g v r t m - w * gf bl (m - (7 - g - t))) % (p : Int) else dvR p (gf bl) g v r t m) 8) from tab_congr (fun m hm => ite_cg (Iff.intro (fun q => by omega) (fun q => by omega)))]
        exact M
      · exfalso; omega
    | succ n ih =>
      intro j hi 
      refine x_iload (dT U_X6_divideBy 43 rfl) rfl ?_
      refine x_iload (dT U_X6_divideBy 44 rfl) rfl ?_
      refine x_icmp_gt (tgt := 145) (dT U_X6_divideBy 45 rfl) (by decide) (by unfold xr at *; omega) (by unfold xr at *; omega) (fun c86 => ?_) (fun c86 => ?_)
      · exfalso; omega
      · skip
        refine x_iload (dT U_X6_divideBy 46 rfl) rfl ?_
        refine x_iload (dT U_X6_divideBy 47 rfl) rfl ?_
        refine x_iadd (dT U_X6_divideBy 48 rfl) ?_
        refine x_bipush (dT U_X6_divideBy 49 rfl) (by decide) ?_
        refine x_icmp_ge (tgt := 145) (dT U_X6_divideBy 50 rfl) (by decide) (by unfold xr at *; omega) (by unfold xr at *; omega) (fun c96 => ?_) (fun c96 => ?_)
        · exfalso; omega
        · skip
          refine x_aload_n (dT U_X6_divideBy 51 rfl) rfl ?_
          refine x_getfield F_X6_19 (dT U_X6_divideBy 52 rfl) (hset_ne (by omega) hP) (by omega) rfl ?_
          refine x_iload (dT U_X6_divideBy 53 rfl) rfl ?_
          refine x_iload (dT U_X6_divideBy 54 rfl) rfl ?_
          refine x_iadd (dT U_X6_divideBy 55 rfl) ?_
          refine x_aload_n (dT U_X6_divideBy 56 rfl) rfl ?_
          refine x_getfield F_X6_9 (dT U_X6_divideBy 57 rfl) (hset_ne (by omega) hP) (by omega) rfl ?_
          refine x_aload_n (dT U_X6_divideBy 58 rfl) rfl ?_
          refine x_getfield F_X6_19 (dT U_X6_divideBy 59 rfl) (hset_ne (by omega) hP) (by omega) rfl ?_
          refine x_iload (dT U_X6_divideBy 60 rfl) rfl ?_
          refine x_iload (dT U_X6_divideBy 61 rfl) rfl ?_
          refine x_iadd (dT U_X6_divideBy 62 rfl) ?_
          refine x_iaload (7 - g - t + j) (dT U_X6_divideBy 63 rfl) (hset_eq hpt) (by omega) (by omega) (by rw [tab_len]; omega) (by rw [tab_len]; omega) ?_
          refine x_aload_n (dT U_X6_divideBy 64 rfl) rfl ?_
          refine x_getfield F_X6_15 (dT U_X6_divideBy 65 rfl) (hset_ne (by omega) hP) (by omega) rfl ?_
          refine x_iload (dT U_X6_divideBy 66 rfl) rfl ?_
          refine x_iaload (7 - g - t) (dT U_X6_divideBy 67 rfl) (hset_ne (by omega) hs) (by omega) rfl (by rw [ls]; omega) (by rw [ls]; omega) ?_
          refine x_aload_n (dT U_X6_divideBy 68 rfl) rfl ?_
          refine x_iload (dT U_X6_divideBy 69 rfl) rfl ?_
          refine x_iaload (j) (dT U_X6_divideBy 70 rfl) (hset_ne (by omega) hb) b3.1 rfl (by rw [lb.1]; omega) (by rw [lb.1]; omega) ?_
          refine x_imul (dT U_X6_divideBy 71 rfl) ?_
          refine x_isub (dT U_X6_divideBy 72 rfl) ?_
          refine x_invokevirtual (rc' := rc) (rs' := rs) (rc2 := 0) (rs2 := 0) (As := [_]) (st := _) M_X1_rest K_X6_32 (dT U_X6_divideBy 73 rfl) rfl rfl (by decide) rfl rfl (hset_ne (by omega) hf) (by omega) (by decide) rfl (Nat.le_of_ble_eq_true rfl) rfl (by decide) (Nat.le_of_ble_eq_true rfl) rfl rfl ?_
          rw [hw]
          have v1 : (tab (fun m => if (7 - g - t) ≤ m ∧ m < (7 - g - t) + j then (dvR p (gf bl) g v r t m - w * gf bl (m - (7 - g - t))) % (p : Int) else dvR p (gf bl) g v r t m) 8).getD (7 - g - t + j) 0 = dvR p (gf bl) g v r t (7 - g - t + j) := by rw [tab_get _ (by omega), if_neg (by omega)]
          rw [v1]
          have v2 := hb9 (7 - g - t + j)
          have v3 := mulb hwb (lb.2 j) (by omega)
          refine S_X1_rest (hset_ne (by omega) hf) hp (by unfold xr; omega) ?_
          refine xRet_some ?_
          refine x_iastore (7 - g - t + j) (dT U_X6_divideBy 74 rfl) (hset_eq hpt) (by omega) (by omega) (by rw [tab_len]; omega) (by rw [tab_len]; omega) ?_
          rw [List.set_set, tab_set (g := fun m => if 7 - g - t ≤ m ∧ m < 7 - g - t + (j + 1) then (dvR p (gf bl) g v r t m - w * gf bl (m - (7 - g - t))) % (p : Int) else dvR p (gf bl) g v r t m) (by omega) (by rw [if_pos (by omega), show 7 - g - t + j - (7 - g - t) = j by omega]; rfl) (fun m h1 h2 => if q : 7 - g - t ≤ m ∧ m < 7 - g - t + j then (by rw [if_pos q, if_pos (by omega)]) else (by rw [if_neg q, if_neg (by omega)]))]
          refine x_iinc (ls' := [some (.ref _), some (.ref _), some (.ref _), some (.ref _), some (.ref _), some (vi _), some (vi _), some (vi _), some (vi _)]) (dT U_X6_divideBy 75 rfl) (by decide) rfl rfl ?_
          refine x_goto (tgt := 82) (dT U_X6_divideBy 76 rfl) (by decide) ?_
          exact ih (j + 1) (by omega)
  have q := L (g + 1) 0 (by omega)
  rw [show (tab (fun m => if (7 - g - t) ≤ m ∧ m < (7 - g - t) + 0 then (dvR p (gf bl) g v r t m - w * gf bl (m - (7 - g - t))) % (p : Int) else dvR p (gf bl) g v r t m) 8) = tab (dvR p (gf bl) g v r t) 8 from tab_congr (fun m hm => by rw [if_neg (by omega)])] at q
  exact q

set_option maxRecDepth 20000 in
set_option maxHeartbeats 1000000 in
theorem S_X6_divideBy {G : xG} {d rc rs : Nat} {ex : Bool} {h : xH} {Q : xQ} {p g qa ta : Nat} {sl0 pl ql tl : List Int} {ra : Nat} {rl : List Int}{ba : Nat} {bl : List Int} (hf : h[4]? = some (cO 1 [vi (p : Int)])) (hp5 : p ∈ PR) (hP : h[18]? = some (cO 6 [.ref 4, .ref 19, .ref 20])) (hs : h[19]? = some (cA 0 sl0)) (ls : sl0.length = 8) (hpt : h[20]? = some (cA 0 pl)) (lpt : pl.length = 8) (hr : h[ra]? = some (cA 0 rl)) (r3 : 3 ≤ ra ∧ ra ≠ 4 ∧ ra ≠ 18 ∧ ra ≠ 19 ∧ ra ≠ 20) (lr : Fl (p : Int) rl) (hb : h[ba]? = some (cA 0 bl)) (b3 : 3 ≤ ba ∧ ba ≠ 4 ∧ ba ≠ 18 ∧ ba ≠ 19 ∧ ba ≠ 20) (lb : Fl (p : Int) bl) (hq : h[qa]? = some (cA 0 ql)) (q3 : 3 ≤ qa ∧ qa ≠ 19 ∧ qa ≠ 20 ∧ qa ≠ 18 ∧ qa ≠ ta) (lq : ql.length = 8) (ht : h[ta]? = some (cA 0 tl)) (t3 : 3 ≤ ta ∧ ta ≠ 19 ∧ ta ≠ 20) (lt : tl.length = 8) (hdg : dg (gf bl) 8 = (g : Int)) (k : Q (.inl none) ex ((((h.set 19 (cA 0 (tab (dvQ p (gf bl) g (iv p (gf bl g).toNat : Int) (gf rl) (8 - g)) 8))).set 20 (cA 0 (tab (dvR p (gf bl) g (iv p (gf bl g).toNat : Int) (gf rl) (8 - g)) 8))).set qa (cA 0 (tab (dvQ p (gf bl) g (iv p (gf bl g).toNat : Int) (gf rl) (8 - g)) 8))).set ta (cA 0 (tab (dvR p (gf bl) g (iv p (gf bl g).toNat : Int) (gf rl) (8 - g)) 8)))) : X G m_X6_divideBy (d + 3) rc rs ex 0 (xe m_X6_divideBy.2.2.1 [.ref 18, .ref ra, .ref ba, .ref qa, .ref ta]) [] h Q := by
  show X G m_X6_divideBy _ _ _ _ 0 [some (.ref 18), some (.ref ra), some (.ref ba), some (.ref qa), some (.ref ta), none, none, none, none] [] h Q
  have hp := PRb hp5
  have b2 := dg_b (gf bl) 8
  have ⟨nz, _⟩ := dg_nz (gf bl) 8 g hdg
  have lg : 0 ≤ gf bl g ∧ gf bl g < p := lb.2 g
  have hiv := iv_ok hp5 (a := (gf bl g).toNat) (by omega) (by omega)
  generalize hv : (iv p (gf bl g).toNat : Int) = v at k
  have hvb : 0 ≤ v ∧ v < p := by omega
  have L : ∀ (n t : Nat), t + n = 8 - g → X G m_X6_divideBy (d + 3) rc rs ex 48 [some (.ref 18), some (.ref ra), some (.ref ba), some (.ref qa), some (.ref ta), some (vi (g : Int)), some (vi v), some (vi (7 - (g : Int) - (t : Int))), none] [] ((h.set 19 (cA 0 (tab (dvQ p (gf bl) g v (gf rl) t) 8))).set 20 (cA 0 (tab (dvR p (gf bl) g v (gf rl) t) 8))) Q := by
    intro n
    induction n with
    | zero =>
      intro t hi 
      refine x_iload (dT U_X6_divideBy 25 rfl) rfl ?_
      refine x_if_lt (tgt := 151) (dT U_X6_divideBy 26 rfl) (by decide) (by unfold xr at *; omega) (fun c50 => ?_) (fun c50 => ?_)
      · skip
        have e : t = 8 - g := by omega
        subst e
        refine x_aload_n (dT U_X6_divideBy 79 rfl) rfl ?_
        refine x_getfield F_X6_15 (dT U_X6_divideBy 80 rfl) (hset_ne (by omega) (hset_ne (by omega) hP)) (by omega) rfl ?_
        refine x_aload_n (dT U_X6_divideBy 81 rfl) rfl ?_
        refine x_invokestatic (rc' := rc) (rs' := rs) (rc2 := 0) (rs2 := 0) (As := [_, _]) (st := _) M_X1_copy K_X6_36 (dT U_X6_divideBy 82 rfl) rfl rfl rfl rfl (Nat.le_of_ble_eq_true rfl) rfl (by decide) (Nat.le_of_ble_eq_true rfl) rfl rfl ?_
        refine S_X1_copy (hset_ne (by omega) (hset_eq hs)) (by omega) (tab_len _ _) (hset_ne (by omega) (hset_ne (by omega) hq)) q3.1 lq ?_
        refine xRet_none ?_
        refine x_aload_n (dT U_X6_divideBy 83 rfl) rfl ?_
        refine x_getfield F_X6_19 (dT U_X6_divideBy 84 rfl) (hset_ne (by omega) (hset_ne (by omega) (hset_ne (by omega) hP))) (by omega) rfl ?_
        refine x_aload (dT U_X6_divideBy 85 rfl) rfl ?_
        refine x_invokestatic (rc' := rc) (rs' := rs) (rc2 := 0) (rs2 := 0) (As := [_, _]) (st := _) M_X1_copy K_X6_36 (dT U_X6_divideBy 86 rfl) rfl rfl rfl rfl (Nat.le_of_ble_eq_true rfl) rfl (by decide) (Nat.le_of_ble_eq_true rfl) rfl rfl ?_
        refine S_X1_copy (hset_ne (by omega) (hset_eq (hset_ne (by omega) hpt))) (by omega) (tab_len _ _) (hset_ne (by omega) (hset_ne (by omega) (hset_ne (by omega) ht))) t3.1 lt ?_
        refine xRet_none ?_
        refine x_return (dT U_X6_divideBy 87 rfl) rfl ?_
        exact k
      · exfalso; omega
    | succ n ih =>
      intro t hi 
      rw [show 7 - (g : Int) - (t : Int) = ((7 - g - t : Nat) : Int) by omega]
      have ev : (dvR p (gf bl) g v (gf rl) t) (7 - t) = (tab (dvR p (gf bl) g v (gf rl) t) 8).getD (7 - t) 0 := (tab_get _ (by omega)).symm
      skip
      have eb : 0 ≤ dvR p (gf bl) g v (gf rl) t (7 - t) ∧ dvR p (gf bl) g v (gf rl) t (7 - t) < p := dvR_b (b := gf bl) (by omega) (fun j => lr.2 j) t (7 - t)
      refine x_iload (dT U_X6_divideBy 25 rfl) rfl ?_
      refine x_if_lt (tgt := 151) (dT U_X6_divideBy 26 rfl) (by decide) (by unfold xr at *; omega) (fun c50 => ?_) (fun c50 => ?_)
      · exfalso; omega
      · skip
        refine x_aload_n (dT U_X6_divideBy 27 rfl) rfl ?_
        refine x_getfield F_X6_15 (dT U_X6_divideBy 28 rfl) (hset_ne (by omega) (hset_ne (by omega) hP)) (by omega) rfl ?_
        refine x_iload (dT U_X6_divideBy 29 rfl) rfl ?_
        refine x_aload_n (dT U_X6_divideBy 30 rfl) rfl ?_
        refine x_getfield F_X6_9 (dT U_X6_divideBy 31 rfl) (hset_ne (by omega) (hset_ne (by omega) hP)) (by omega) rfl ?_
        refine x_aload_n (dT U_X6_divideBy 32 rfl) rfl ?_
        refine x_getfield F_X6_19 (dT U_X6_divideBy 33 rfl) (hset_ne (by omega) (hset_ne (by omega) hP)) (by omega) rfl ?_
        refine x_iload (dT U_X6_divideBy 34 rfl) rfl ?_
        refine x_iload (dT U_X6_divideBy 35 rfl) rfl ?_
        refine x_iadd (dT U_X6_divideBy 36 rfl) ?_
        refine x_iaload (7 - t) (dT U_X6_divideBy 37 rfl) (hset_eq (hset_ne (by omega) hpt)) (by omega) (by omega) (by rw [tab_len]; omega) (by rw [tab_len]; omega) ?_
        refine x_iload (dT U_X6_divideBy 38 rfl) rfl ?_
        refine x_invokevirtual (rc' := rc) (rs' := rs) (rc2 := 0) (rs2 := 0) (As := [_, _]) (st := _) M_X1_product K_X6_43 (dT U_X6_divideBy 39 rfl) rfl rfl (by decide) rfl rfl (hset_ne (by omega) (hset_ne (by omega) hf)) (by omega) (by decide) rfl (Nat.le_of_ble_eq_true rfl) rfl (by decide) (Nat.le_of_ble_eq_true rfl) rfl rfl ?_
        rw [← ev]
        have em := mulb eb hvb (by omega)
        refine S_X1_product (hset_ne (by omega) (hset_ne (by omega) hf)) hp (by unfold xr; omega) ?_
        refine xRet_some ?_
        refine x_iastore (7 - g - t) (dT U_X6_divideBy 40 rfl) (hset_ne (by omega) (hset_eq hs)) (by omega) rfl (by rw [tab_len]; omega) (by rw [tab_len]; omega) ?_
        rw [List.set_comm _ _ (by omega), List.set_set, tab_set (g := dvQ p (gf bl) g v (gf rl) (t + 1)) (by omega) (by unfold dvQ; rw [if_pos (by omega), show 7 - g - (7 - g - t) = t by omega, show 7 - g - t + g = 7 - t by omega]) (fun m h1 h2 => by unfold dvQ; exact if q : 8 - g - t ≤ m ∧ m + g < 8 then (by rw [if_pos q, if_pos (by omega)]) else (by rw [if_neg q, if_neg (by omega)]))]
        refine x_iconst (dT U_X6_divideBy 41 rfl) ?_
        refine x_istore (ls' := [some (.ref _), some (.ref _), some (.ref _), some (.ref _), some (.ref _), some (vi _), some (vi _), some (vi _), some (vi _)]) (dT U_X6_divideBy 42 rfl) (by decide) rfl ?_
        rw [show (h.set 19 (cA 0 (tab (dvQ p (gf bl) g v (gf rl) (t + 1)) 8))).set 20 (cA 0 (tab (dvR p (gf bl) g v (gf rl) t) 8)) = _ from rfl]
        refine S_X6_div1 (w := dvR p (gf bl) g v (gf rl) t (7 - t) * v % (p : Int)) (h := h.set 19 (cA 0 (tab (dvQ p (gf bl) g v (gf rl) (t + 1)) 8))) (hset_ne (by omega) hf) hp (hset_ne (by omega) hP) (hset_eq hs) (tab_len _ _) (hset_ne (by omega) hpt) (hset_ne (by omega) hb) b3 lb (by omega) (by omega) (fun j => lr.2 j) (by rw [tab_get _ (by omega)]; unfold dvQ; rw [if_pos (by omega), show 7 - g - (7 - g - t) = t by omega, show 7 - g - t + g = 7 - t by omega]) (modb (by omega)) ?_
        refine x_iinc (ls' := [some (.ref _), some (.ref _), some (.ref _), some (.ref _), some (.ref _), some (vi _), some (vi _), some (vi _), some (vi _)]) (dT U_X6_divideBy 77 rfl) (by decide) rfl rfl ?_
        refine x_goto (tgt := 48) (dT U_X6_divideBy 78 rfl) (by decide) ?_
        have q := ih (t + 1) (by omega)
        rw [show 7 - (g : Int) - ((t + 1 : Nat) : Int) = ((7 - g - t : Nat) : Int) + -1 by omega] at q
        refine x_drop ?_ q
        repeat (first | exact trivial | refine ⟨rfl, ?_⟩ | refine ⟨trivial, ?_⟩)
  refine x_aload_n (dT U_X6_divideBy 0 rfl) rfl ?_
  refine x_invokestatic (rc' := rc) (rs' := rs) (rc2 := 0) (rs2 := 0) (As := [_]) (st := _) M_X1_degreeOf K_X6_22 (dT U_X6_divideBy 1 rfl) rfl rfl rfl rfl (Nat.le_of_ble_eq_true rfl) rfl (by decide) (Nat.le_of_ble_eq_true rfl) rfl rfl ?_
  refine S_X1_degreeOf hb b3.1 lb.1 (fun j => by have := lb.2 j; unfold xr; omega) ?_
  rw [show dg (fun j => bl.getD j 0) 8 = (g : Int) from hdg]
  refine xRet_some ?_
  refine x_istore (ls' := [some (.ref _), some (.ref _), some (.ref _), some (.ref _), some (.ref _), some (vi _), none, none, none]) (dT U_X6_divideBy 2 rfl) (by decide) rfl ?_
  refine x_iload (dT U_X6_divideBy 3 rfl) rfl ?_
  refine x_iconst (dT U_X6_divideBy 4 rfl) ?_
  refine x_icmp_ne (tgt := 13) (dT U_X6_divideBy 5 rfl) (by decide) (by unfold xr at *; omega) (by unfold xr at *; omega) (fun c9 => ?_) (fun c9 => ?_)
  · skip
    refine x_aload_n (dT U_X6_divideBy 7 rfl) rfl ?_
    refine x_getfield F_X6_9 (dT U_X6_divideBy 8 rfl) hP (by omega) rfl ?_
    refine x_aload_n (dT U_X6_divideBy 9 rfl) rfl ?_
    refine x_iload (dT U_X6_divideBy 10 rfl) rfl ?_
    refine x_iaload (g) (dT U_X6_divideBy 11 rfl) hb b3.1 rfl (by rw [lb.1]; omega) (by rw [lb.1]; omega) ?_
    refine x_invokevirtual (rc' := rc) (rs' := rs) (rc2 := 0) (rs2 := 0) (As := [_]) (st := _) M_X1_inverse K_X6_40 (dT U_X6_divideBy 12 rfl) rfl rfl (by decide) rfl rfl hf (by omega) (by decide) rfl (Nat.le_of_ble_eq_true rfl) rfl (by decide) (Nat.le_of_ble_eq_true rfl) rfl rfl ?_
    rw [show bl.getD g 0 = (((gf bl g).toNat : Nat) : Int) from by have := lg.1; unfold gf at *; omega]
    refine S_X1_inverse hf hp5 (by omega) ?_
    rw [hv]
    refine xRet_some ?_
    refine x_istore (ls' := [some (.ref _), some (.ref _), some (.ref _), some (.ref _), some (.ref _), some (vi _), some (vi _), none, none]) (dT U_X6_divideBy 13 rfl) (by decide) rfl ?_
    refine x_aload_n (dT U_X6_divideBy 14 rfl) rfl ?_
    refine x_getfield F_X6_15 (dT U_X6_divideBy 15 rfl) hP (by omega) rfl ?_
    refine x_invokestatic (rc' := rc) (rs' := rs) (rc2 := 0) (rs2 := 0) (As := [_]) (st := _) M_X1_clear K_X6_28 (dT U_X6_divideBy 16 rfl) rfl rfl rfl rfl (Nat.le_of_ble_eq_true rfl) rfl (by decide) (Nat.le_of_ble_eq_true rfl) rfl rfl ?_
    refine S_X1_clear hs (by omega) ls ?_
    refine xRet_none ?_
    refine x_aload_n (dT U_X6_divideBy 17 rfl) rfl ?_
    refine x_aload_n (dT U_X6_divideBy 18 rfl) rfl ?_
    refine x_getfield F_X6_19 (dT U_X6_divideBy 19 rfl) (hset_ne (by omega) hP) (by omega) rfl ?_
    refine x_invokestatic (rc' := rc) (rs' := rs) (rc2 := 0) (rs2 := 0) (As := [_, _]) (st := _) M_X1_copy K_X6_36 (dT U_X6_divideBy 20 rfl) rfl rfl rfl rfl (Nat.le_of_ble_eq_true rfl) rfl (by decide) (Nat.le_of_ble_eq_true rfl) rfl rfl ?_
    refine S_X1_copy (hset_ne (by omega) hr) r3.1 lr.1 (hset_ne (by omega) hpt) (by omega) lpt ?_
    refine xRet_none ?_
    refine x_bipush (dT U_X6_divideBy 21 rfl) (by decide) ?_
    refine x_iload (dT U_X6_divideBy 22 rfl) rfl ?_
    refine x_isub (dT U_X6_divideBy 23 rfl) ?_
    refine x_istore (ls' := [some (.ref _), some (.ref _), some (.ref _), some (.ref _), some (.ref _), some (vi _), some (vi _), some (vi _), none]) (dT U_X6_divideBy 24 rfl) (by decide) rfl ?_
    have q := L (8 - g) 0 (by omega)
    rw [show tab (dvQ p (gf bl) g v (gf rl) 0) 8 = tab (fun _ => 0) 8 from tab_congr (fun n hn => by unfold dvQ; rw [if_neg (by omega)]), show tab (dvR p (gf bl) g v (gf rl) 0) 8 = rl from tab_self lr.1] at q
    rw [show 7 - (g : Int) - ((0 : Nat) : Int) = 7 - (g : Int) by omega] at q
    exact q
  · exfalso; omega
