def lsub : List (Option Value) → List (Option Value) → Prop
  | [], _ => True
  | none :: a, _ :: b => True ∧ lsub a b
  | none :: a, [] => True ∧ lsub a []
  | some v :: a, some w :: b => v = w ∧ lsub a b
  | some _ :: _, _ => False
theorem lsub_get : ∀ {a b : List (Option Value)}, lsub a b → ∀ (i : Nat) (v : Value), a[i]? = some (some v) → b[i]? = some (some v)
  | [], _, _, i, v, h => by rw [List.getElem?_nil] at h; cases h
  | none :: a, x :: b, q, 0, v, h => by cases h
  | none :: a, x :: b, q, i + 1, v, h => lsub_get (a := a) (b := b) q.2 i v h
  | none :: a, [], q, 0, v, h => by cases h
  | none :: a, [], q, i + 1, v, h => by have := lsub_get (a := a) (b := []) q.2 i v h; rw [List.getElem?_nil] at this; cases this
  | some w :: a, some u :: b, q, 0, v, h => by rw [← h]; show some (some u) = some (some w); rw [show w = u from q.1]
  | some w :: a, some u :: b, q, i + 1, v, h => lsub_get (a := a) (b := b) q.2 i v h
  | some w :: a, none :: b, q, _, _, _ => q.elim
  | some w :: a, [], q, _, _, _ => q.elim
theorem x_drop {G : xG} {mt : xM} {d rc rs pc : Nat} {ex : Bool} {ls ls' : List (Option Value)} {st : List Value} {h : xH} {Q : xQ} (hs : lsub ls' ls) (k : X G mt d rc rs ex pc ls' st h Q) : X G mt d rc rs ex pc ls st h Q := x_locals (lsub_get hs) k
def sl (a b : Int) : Int := (a * a * a + 7 * b * b + 5 * a * b + 3 * a + b + 11) % 251
theorem sl_b (a b : Int) : 0 ≤ sl a b ∧ sl a b < 251 := modb (by omega)
theorem sl_r {a b : Int} (ha : 0 ≤ a ∧ a < 251) (hb : 0 ≤ b ∧ b < 251) : 0 ≤ a * a * a + 7 * b * b + 5 * a * b + 3 * a + b + 11 ∧ a * a * a + 7 * b * b + 5 * a * b + 3 * a + b + 11 < 100000000 := by
  have h1 := mulg (a := a) (b := a) (m := 250) (n := 250) (by omega) (by omega)
  have h2 := mulg (a := a * a) (b := a) (m := 62500) (n := 250) (by omega) (by omega)
  have h3 := mulg (a := 7 * b) (b := b) (m := 1750) (n := 250) (by omega) (by omega)
  have h4 := mulg (a := 5 * a) (b := b) (m := 1250) (n := 250) (by omega) (by omega)
  omega
theorem st3a {h : xH} {a b c : Nat} {x y z x' : xC} (ab : a ≠ b) (ac : a ≠ c) : (((h.set a x).set b y).set c z).set a x' = ((h.set a x').set b y).set c z := by
  rw [List.set_comm _ _ (Ne.symm ac), List.set_comm _ _ (Ne.symm ab), List.set_set]
theorem st3b {h : xH} {a b c : Nat} {x y z y' : xC} (bc : b ≠ c) : (((h.set a x).set b y).set c z).set b y' = ((h.set a x).set b y').set c z := by
  rw [List.set_comm _ _ (Ne.symm bc), List.set_set]
theorem st2a {h : xH} {a b : Nat} {x y x' : xC} (ab : a ≠ b) : ((h.set a x).set b y).set a x' = (h.set a x').set b y := by
  rw [List.set_comm _ _ (Ne.symm ab), List.set_set]
def s3 (r : Nat → Int) (n : Nat) : Int := sl (r (n - 8)) ((n - 8 : Nat) : Int)
def s2 (r : Nat → Int) (n : Nat) : Int := sl (s3 r (2 * n)) (s3 r (2 * n + 1))
def s1 (r : Nat → Int) (n : Nat) : Int := sl (s2 r (2 * n)) (s2 r (2 * n + 1))
def s0 (r : Nat → Int) (n : Nat) : Int := sl (s1 r (2 * n)) (s1 r (2 * n + 1))
def gs (r : Nat → Int) (n : Nat) : Int := if 8 ≤ n then s3 r n else if 4 ≤ n then s2 r n else if 2 ≤ n then s1 r n else s0 r n
theorem gs_b (r : Nat → Int) (n : Nat) : 0 ≤ gs r n ∧ gs r n < 251 := by
  unfold gs
  split
  · exact sl_b _ _
  · split
    · exact sl_b _ _
    · split
      · exact sl_b _ _
      · exact sl_b _ _
theorem gs_top (r : Nat → Int) {i : Nat} (h : i < 8) : gs r (8 + i) = sl (r i) (i : Int) := by
  unfold gs
  rw [if_pos (by omega)]
  unfold s3
  rw [show 8 + i - 8 = i by omega]
theorem gs_step (r : Nat → Int) {n : Nat} (h : 1 ≤ n ∧ n < 8) : gs r n = sl (gs r (2 * n)) (gs r (2 * n + 1)) := by
  have : n = 1 ∨ n = 2 ∨ n = 3 ∨ n = 4 ∨ n = 5 ∨ n = 6 ∨ n = 7 := by omega
  rcases this with rfl | rfl | rfl | rfl | rfl | rfl | rfl <;> rfl
theorem shr_ok0 : ∀ a ∈ List.range 16, ∀ s ∈ List.range 4, xI (a : Int) >>> (xI (s : Int) &&& 31) = xI ((a / 2 ^ s : Nat) : Int) := by decide +kernel
theorem shr_ok {a s : Nat} (ha : a < 16) (hs : s < 4) : xI (a : Int) >>> (xI (s : Int) &&& 31) = xI ((a / 2 ^ s : Nat) : Int) := shr_ok0 a (List.mem_range.mpr ha) s (List.mem_range.mpr hs)
theorem shr_okm {a t : Nat} (ha : a < 16) (h1 : 1 ≤ t) (ht : t < 4) : xI (a : Int) >>> (xI ((t : Int) - 1) &&& 31) = xI ((a / 2 ^ (t - 1) : Nat) : Int) := by
  have e : (t : Int) - 1 = ((t - 1 : Nat) : Int) := by omega
  rw [e]
  exact shr_ok ha (by omega)
def nx (n : Nat) : Nat := if n % 2 = 0 then n + 1 else n - 1
theorem xor_ok0 : ∀ a ∈ List.range 16, xI (a : Int) ^^^ xI 1 = xI (nx a : Int) := by decide +kernel
theorem xor_ok {a : Nat} (ha : a < 16) : xI (a : Int) ^^^ xI 1 = xI (nx a : Int) := xor_ok0 a (List.mem_range.mpr ha)
theorem and_ok0 : ∀ a ∈ List.range 16, xI (a : Int) &&& xI 1 = xI ((a % 2 : Nat) : Int) := by decide +kernel
theorem and_ok {a : Nat} (ha : a < 16) : xI (a : Int) &&& xI 1 = xI ((a % 2 : Nat) : Int) := and_ok0 a (List.mem_range.mpr ha)
def bsd (place step : Nat) : Nat := nx ((8 + place) / 2 ^ step)
theorem bsd_b {i s : Nat} (hi : i < 8) (hs : s < 3) : 1 ≤ bsd i s ∧ bsd i s < 16 ∧ (8 + i) / 2 ^ s < 16 := by
  have h1 : ∀ i ∈ List.range 8, ∀ s ∈ List.range 3, 1 ≤ bsd i s ∧ bsd i s < 16 ∧ (8 + i) / 2 ^ s < 16 := by decide +kernel
  exact h1 i (List.mem_range.mpr hi) s (List.mem_range.mpr hs)
/-- the pair at each step of a way -/
def wq (i : Nat) (v a b c : Int) : Nat → Int × Int
  | 0 => (v, (i : Int))
  | k + 1 => let w := wq i v a b c k; let n := if k = 0 then a else if k = 1 then b else c; if i / 2 ^ k % 2 = 0 then (sl w.1 w.2, n) else (n, sl w.1 w.2)
def ws (i : Nat) (v a b c : Int) (k : Nat) : Int := sl (wq i v a b c k).1 (wq i v a b c k).2
theorem wq_b {i : Nat} {v a b c : Int} (hi : i < 8) (hv : 0 ≤ v ∧ v < 251) (ha : 0 ≤ a ∧ a < 251) (hb : 0 ≤ b ∧ b < 251) (hc : 0 ≤ c ∧ c < 251) : ∀ k, (0 ≤ (wq i v a b c k).1 ∧ (wq i v a b c k).1 < 251) ∧ (0 ≤ (wq i v a b c k).2 ∧ (wq i v a b c k).2 < 251)
  | 0 => by unfold wq; exact ⟨hv, by show 0 ≤ (i : Int) ∧ (i : Int) < 251; omega⟩
  | k + 1 => by
    have h1 := sl_b (wq i v a b c k).1 (wq i v a b c k).2
    have h2 : 0 ≤ (if k = 0 then a else if k = 1 then b else c) ∧ (if k = 0 then a else if k = 1 then b else c) < 251 := by
      split
      · exact ha
      · split
        · exact hb
        · exact hc
    unfold wq
    dsimp only
    split
    · exact ⟨h1, h2⟩
    · exact ⟨h2, h1⟩
def wst (h : xH) (wa i : Nat) (v a b c : Int) : xH := (((h.set (wa + 1) (cA 0 (tab (fun j => (wq i v a b c j).1) 4))).set (wa + 2) (cA 0 (tab (fun j => (wq i v a b c j).2) 4))).set (wa + 3) (cA 0 (tab (ws i v a b c) 4)))
def ff (P : Nat → Prop) [DecidablePred P] : Nat → Nat → Int
  | _, 0 => -1
  | i, n + 1 => if P i then (i : Int) else ff P (i + 1) n

set_option maxRecDepth 20000 in
set_option maxHeartbeats 1000000 in
theorem S_X8_sealOf {G : xG} {d rc rs : Nat} {ex : Bool} {h : xH} {Q : xQ} {a b : Int} (ha : 0 ≤ a ∧ a < 251) (hb : 0 ≤ b ∧ b < 251) (k : Q (.inl (some (vi (sl a b)))) ex h) : X G m_X8_sealOf d rc rs ex 0 (xe m_X8_sealOf.2.2.1 [vi a, vi b]) [] h Q := by
  show X G m_X8_sealOf _ _ _ _ 0 [some (vi a), some (vi b)] [] h Q
  have hr := sl_r ha hb
  refine x_iload_n (dT U_X8_sealOf 0 rfl) rfl ?_
  refine x_iload_n (dT U_X8_sealOf 1 rfl) rfl ?_
  refine x_imul (dT U_X8_sealOf 2 rfl) ?_
  refine x_iload_n (dT U_X8_sealOf 3 rfl) rfl ?_
  refine x_imul (dT U_X8_sealOf 4 rfl) ?_
  refine x_bipush (dT U_X8_sealOf 5 rfl) (by decide) ?_
  refine x_iload_n (dT U_X8_sealOf 6 rfl) rfl ?_
  refine x_imul (dT U_X8_sealOf 7 rfl) ?_
  refine x_iload_n (dT U_X8_sealOf 8 rfl) rfl ?_
  refine x_imul (dT U_X8_sealOf 9 rfl) ?_
  refine x_iadd (dT U_X8_sealOf 10 rfl) ?_
  refine x_iconst (dT U_X8_sealOf 11 rfl) ?_
  refine x_iload_n (dT U_X8_sealOf 12 rfl) rfl ?_
  refine x_imul (dT U_X8_sealOf 13 rfl) ?_
  refine x_iload_n (dT U_X8_sealOf 14 rfl) rfl ?_
  refine x_imul (dT U_X8_sealOf 15 rfl) ?_
  refine x_iadd (dT U_X8_sealOf 16 rfl) ?_
  refine x_iconst (dT U_X8_sealOf 17 rfl) ?_
  refine x_iload_n (dT U_X8_sealOf 18 rfl) rfl ?_
  refine x_imul (dT U_X8_sealOf 19 rfl) ?_
  refine x_iadd (dT U_X8_sealOf 20 rfl) ?_
  refine x_iload_n (dT U_X8_sealOf 21 rfl) rfl ?_
  refine x_iadd (dT U_X8_sealOf 22 rfl) ?_
  refine x_bipush (dT U_X8_sealOf 23 rfl) (by decide) ?_
  refine x_iadd (dT U_X8_sealOf 24 rfl) ?_
  refine x_sipush (dT U_X8_sealOf 25 rfl) (by decide) ?_
  refine x_irem (dT U_X8_sealOf 26 rfl) (by unfold xr; omega) (by unfold xr; omega) (by omega) ?_
  rw [Int.tmod_eq_emod_of_nonneg hr.1]
  refine x_ireturn (dT U_X8_sealOf 27 rfl) rfl ?_
  exact k

set_option maxRecDepth 20000 in
set_option maxHeartbeats 1000000 in
theorem S_X8_grow2 {G : xG} {d rc rs : Nat} {ex : Bool} {h : xH} {Q : xQ} {ta ra : Nat} {sl0 : List Int} {rw : Nat → Int} (ht : h[ta]? = some (cO 8 [.ref (ta + 1)])) (t3 : 3 ≤ ta) (hs : h[ta + 1]? = some (cA 0 sl0))
    (k : ∀ l : List Int, l.length = 16 → (∀ j, 1 ≤ j → j < 16 → l.getD j 0 = gs rw j) → Q (.inl none) ex (h.set (ta + 1) (cA 0 l))) :
    ∀ (n : Nat), n ≤ 7 → ∀ l : List Int, l.length = 16 → (∀ j, n + 1 ≤ j → j < 16 → l.getD j 0 = gs rw j) → X G m_X8_grow (d + 1) rc rs ex 33 [some (.ref ta), some (.ref ra), some (vi (n : Int))] [] (h.set (ta + 1) (cA 0 l)) Q := by
  intro n
  induction n with
  | zero =>
    intro hn l hl hP
    refine x_iload_n (dT U_X8_grow 20 rfl) rfl ?_
    refine x_iconst (dT U_X8_grow 21 rfl) ?_
    refine x_icmp_lt (tgt := 71) (dT U_X8_grow 22 rfl) (by decide) (by unfold xr at *; omega) (by unfold xr at *; omega) (fun c35 => ?_) (fun c35 => ?_)
    · skip
      refine x_return (dT U_X8_grow 44 rfl) rfl ?_
      exact k l hl (fun j h1 h2 => hP j (by omega) h2)
    · exfalso; omega
  | succ n ih =>
    intro hn l hl hP
    refine x_iload_n (dT U_X8_grow 20 rfl) rfl ?_
    refine x_iconst (dT U_X8_grow 21 rfl) ?_
    refine x_icmp_lt (tgt := 71) (dT U_X8_grow 22 rfl) (by decide) (by unfold xr at *; omega) (by unfold xr at *; omega) (fun c35 => ?_) (fun c35 => ?_)
    · exfalso; omega
    · skip
      refine x_aload_n (dT U_X8_grow 23 rfl) rfl ?_
      refine x_getfield F_X8_9 (dT U_X8_grow 24 rfl) (hset_ne (by omega) ht) (by omega) rfl ?_
      refine x_iload_n (dT U_X8_grow 25 rfl) rfl ?_
      refine x_aload_n (dT U_X8_grow 26 rfl) rfl ?_
      refine x_getfield F_X8_9 (dT U_X8_grow 27 rfl) (hset_ne (by omega) ht) (by omega) rfl ?_
      refine x_iconst (dT U_X8_grow 28 rfl) ?_
      refine x_iload_n (dT U_X8_grow 29 rfl) rfl ?_
      refine x_imul (dT U_X8_grow 30 rfl) ?_
      refine x_iaload (2 * (n + 1)) (dT U_X8_grow 31 rfl) (hset_eq hs) (by omega) (by omega) (by rw [hl]; omega) (by rw [hl]; omega) ?_
      refine x_aload_n (dT U_X8_grow 32 rfl) rfl ?_
      refine x_getfield F_X8_9 (dT U_X8_grow 33 rfl) (hset_ne (by omega) ht) (by omega) rfl ?_
      refine x_iconst (dT U_X8_grow 34 rfl) ?_
      refine x_iload_n (dT U_X8_grow 35 rfl) rfl ?_
      refine x_imul (dT U_X8_grow 36 rfl) ?_
      refine x_iconst (dT U_X8_grow 37 rfl) ?_
      refine x_iadd (dT U_X8_grow 38 rfl) ?_
      refine x_iaload (2 * (n + 1) + 1) (dT U_X8_grow 39 rfl) (hset_eq hs) (by omega) (by omega) (by rw [hl]; omega) (by rw [hl]; omega) ?_
      refine x_invokestatic (rc' := rc) (rs' := rs) (rc2 := 0) (rs2 := 0) (As := [_, _]) (st := _) M_X8_sealOf K_X8_15 (dT U_X8_grow 40 rfl) rfl rfl rfl rfl (Nat.le_of_ble_eq_true rfl) rfl (by decide) (Nat.le_of_ble_eq_true rfl) rfl rfl ?_
      rw [hP _ (by omega) (by omega), hP _ (by omega) (by omega)]
      refine S_X8_sealOf (gs_b _ _) (gs_b _ _) ?_
      rw [← gs_step rw (n := n + 1) (by omega)]
      refine xRet_some ?_
      refine x_iastore (n + 1) (dT U_X8_grow 41 rfl) (hset_eq hs) (by omega) rfl (by rw [hl]; omega) (by rw [hl]; omega) ?_
      rw [List.set_set]
      refine x_iinc (ls' := [some (.ref _), some (.ref _), some (vi _)]) (dT U_X8_grow 42 rfl) (by decide) rfl rfl ?_
      rw [show ((n + 1 : Nat) : Int) + -1 = (n : Int) by omega]
      refine x_goto (tgt := 33) (dT U_X8_grow 43 rfl) (by decide) ?_
      refine ih (by omega) _ (by rw [List.length_set, hl]) (fun j h1 h2 => ?_)
      by_cases e : j = n + 1
      · subst e
        rw [List.getD_eq_getElem?_getD, List.getElem?_set_self (by rw [hl]; omega)]
        rfl
      · rw [List.getD_eq_getElem?_getD, List.getElem?_set_ne (by omega), ← List.getD_eq_getElem?_getD]
        exact hP j (by omega) h2

set_option maxRecDepth 20000 in
set_option maxHeartbeats 1000000 in
theorem S_X8_grow {G : xG} {d rc rs : Nat} {ex : Bool} {h : xH} {Q : xQ} {ta ra : Nat} {rl sl0 : List Int} {p : Int} (ht : h[ta]? = some (cO 8 [.ref (ta + 1)])) (t3 : 3 ≤ ta) (hs : h[ta + 1]? = some (cA 0 sl0)) (ls : sl0.length = 16) (hr : h[ra]? = some (cA 0 rl)) (r3 : 3 ≤ ra) (hne : ra ≠ ta + 1) (lr : Fl p rl) (hp : p < 24) (k : ∀ l : List Int, l.length = 16 → (∀ j, 1 ≤ j → j < 16 → l.getD j 0 = gs (fun j => rl.getD j 0) j) → Q (.inl none) ex (h.set (ta + 1) (cA 0 l))) : X G m_X8_grow (d + 1) rc rs ex 0 (xe m_X8_grow.2.2.1 [.ref ta, .ref ra]) [] h Q := by
  show X G m_X8_grow _ _ _ _ 0 [some (.ref ta), some (.ref ra), none] [] h Q
  have M : ∀ l : List Int, l.length = 16 → (∀ j, 8 ≤ j → j < 16 → l.getD j 0 = gs (fun j => rl.getD j 0) j) → X G m_X8_grow (d + 1) rc rs ex 30 [some (.ref ta), some (.ref ra), some (vi (8 : Int))] [] (h.set (ta + 1) (cA 0 l)) Q := by
    intro l hl hP
    refine x_bipush (dT U_X8_grow 18 rfl) (by decide) ?_
    refine x_istore_n (ls' := [some (.ref _), some (.ref _), some (vi _)]) (dT U_X8_grow 19 rfl) (by decide) rfl ?_
    exact S_X8_grow2 ht t3 hs k 7 (by omega) l hl (fun j h1 h2 => hP j h1 h2)
  have L1 : ∀ (n i : Nat), i + n = 8 → ∀ l : List Int, l.length = 16 → (∀ j, j < i → l.getD (8 + j) 0 = gs (fun j => rl.getD j 0) (8 + j)) → X G m_X8_grow (d + 1) rc rs ex 2 [some (.ref ta), some (.ref ra), some (vi (i : Int))] [] (h.set (ta + 1) (cA 0 l)) Q := by
    intro n
    induction n with
    | zero =>
      intro i hi l hl hP
      refine x_iload_n (dT U_X8_grow 2 rfl) rfl ?_
      refine x_bipush (dT U_X8_grow 3 rfl) (by decide) ?_
      refine x_icmp_ge (tgt := 30) (dT U_X8_grow 4 rfl) (by decide) (by unfold xr at *; omega) (by unfold xr at *; omega) (fun c5 => ?_) (fun c5 => ?_)
      · skip
        have e : i = 8 := by omega
        subst e
        exact M l hl (fun j h1 h2 => by rw [show j = 8 + (j - 8) by omega]; exact hP (j - 8) (by omega))
      · exfalso; omega
    | succ n ih =>
      intro i hi l hl hP
      refine x_iload_n (dT U_X8_grow 2 rfl) rfl ?_
      refine x_bipush (dT U_X8_grow 3 rfl) (by decide) ?_
      refine x_icmp_ge (tgt := 30) (dT U_X8_grow 4 rfl) (by decide) (by unfold xr at *; omega) (by unfold xr at *; omega) (fun c5 => ?_) (fun c5 => ?_)
      · exfalso; omega
      · skip
        refine x_aload_n (dT U_X8_grow 5 rfl) rfl ?_
        refine x_getfield F_X8_9 (dT U_X8_grow 6 rfl) (hset_ne (by omega) ht) (by omega) rfl ?_
        refine x_bipush (dT U_X8_grow 7 rfl) (by decide) ?_
        refine x_iload_n (dT U_X8_grow 8 rfl) rfl ?_
        refine x_iadd (dT U_X8_grow 9 rfl) ?_
        refine x_aload_n (dT U_X8_grow 10 rfl) rfl ?_
        refine x_iload_n (dT U_X8_grow 11 rfl) rfl ?_
        refine x_iaload (i) (dT U_X8_grow 12 rfl) (hset_ne (by omega) hr) r3 rfl (by rw [lr.1]; omega) (by rw [lr.1]; omega) ?_
        refine x_iload_n (dT U_X8_grow 13 rfl) rfl ?_
        refine x_invokestatic (rc' := rc) (rs' := rs) (rc2 := 0) (rs2 := 0) (As := [_, _]) (st := _) M_X8_sealOf K_X8_15 (dT U_X8_grow 14 rfl) rfl rfl rfl rfl (Nat.le_of_ble_eq_true rfl) rfl (by decide) (Nat.le_of_ble_eq_true rfl) rfl rfl ?_
        have hv := lr.2 i
        refine S_X8_sealOf (by omega) (by omega) ?_
        refine xRet_some ?_
        refine x_iastore (8 + i) (dT U_X8_grow 15 rfl) (hset_eq hs) (by omega) (by omega) (by rw [hl]; omega) (by rw [hl]; omega) ?_
        rw [List.set_set]
        refine x_iinc (ls' := [some (.ref _), some (.ref _), some (vi _)]) (dT U_X8_grow 16 rfl) (by decide) rfl rfl ?_
        refine x_goto (tgt := 2) (dT U_X8_grow 17 rfl) (by decide) ?_
        refine ih (i + 1) (by omega) _ (by rw [List.length_set, hl]) (fun j hj => ?_)
        by_cases e : j = i
        · subst e
          rw [List.getD_eq_getElem?_getD, List.getElem?_set_self (by rw [hl]; omega), gs_top _ (by omega)]
          rfl
        · rw [List.getD_eq_getElem?_getD, List.getElem?_set_ne (by omega), ← List.getD_eq_getElem?_getD]
          exact hP j (by omega)
  refine x_iconst (dT U_X8_grow 0 rfl) ?_
  refine x_istore_n (ls' := [some (.ref _), some (.ref _), some (vi _)]) (dT U_X8_grow 1 rfl) (by decide) rfl ?_
  have q := L1 8 0 (by omega) sl0 ls (fun j hj => absurd hj (Nat.not_lt_zero j))
  rw [hset_self hs] at q
  exact q

set_option maxRecDepth 20000 in
set_option maxHeartbeats 1000000 in
theorem S_X8_top {G : xG} {d rc rs : Nat} {ex : Bool} {h : xH} {Q : xQ} {ta : Nat} {sl0 : List Int} {f : Nat → Int} (ht : h[ta]? = some (cO 8 [.ref (ta + 1)])) (t3 : 3 ≤ ta) (hs : h[ta + 1]? = some (cA 0 sl0)) (ls : sl0.length = 16) (vs : ∀ j, 1 ≤ j → j < 16 → sl0.getD j 0 = f j) (k : Q (.inl (some (vi (f 1)))) ex h) : X G m_X8_top d rc rs ex 0 (xe m_X8_top.2.2.1 [.ref ta]) [] h Q := by
  show X G m_X8_top _ _ _ _ 0 [some (.ref ta)] [] h Q
  refine x_aload_n (dT U_X8_top 0 rfl) rfl ?_
  refine x_getfield F_X8_9 (dT U_X8_top 1 rfl) ht (by omega) rfl ?_
  refine x_iconst (dT U_X8_top 2 rfl) ?_
  refine x_iaload (1) (dT U_X8_top 3 rfl) hs (by omega) rfl (by rw [ls]; omega) (by rw [ls]; omega) ?_
  rw [vs 1 (by omega) (by omega)]
  refine x_ireturn (dT U_X8_top 4 rfl) rfl ?_
  exact k

set_option maxRecDepth 20000 in
set_option maxHeartbeats 1000000 in
theorem S_X8_nextTo {G : xG} {d rc rs : Nat} {ex : Bool} {h : xH} {Q : xQ} {ta i s : Nat} {sl0 : List Int} {f : Nat → Int} (ht : h[ta]? = some (cO 8 [.ref (ta + 1)])) (t3 : 3 ≤ ta) (hs : h[ta + 1]? = some (cA 0 sl0)) (ls : sl0.length = 16) (vs : ∀ j, 1 ≤ j → j < 16 → sl0.getD j 0 = f j) (hi : i < 8) (hst : s < 3) (k : Q (.inl (some (vi (f (bsd i s))))) ex h) : X G m_X8_nextTo d rc rs ex 0 (xe m_X8_nextTo.2.2.1 [.ref ta, vi (i : Int), vi (s : Int)]) [] h Q := by
  show X G m_X8_nextTo _ _ _ _ 0 [some (.ref ta), some (vi (i : Int)), some (vi (s : Int)), none] [] h Q
  have hb := bsd_b hi hst
  refine x_bipush (dT U_X8_nextTo 0 rfl) (by decide) ?_
  refine x_iload_n (dT U_X8_nextTo 1 rfl) rfl ?_
  refine x_iadd (dT U_X8_nextTo 2 rfl) ?_
  refine x_iload_n (dT U_X8_nextTo 3 rfl) rfl ?_
  refine x_ishr (r := (((8 + i) / 2 ^ s : Nat) : Int)) (dT U_X8_nextTo 4 rfl) (by have := shr_ok (a := 8 + i) (s := s) (by omega) (by omega); simpa using this) ?_
  refine x_iconst (dT U_X8_nextTo 5 rfl) ?_
  refine x_ixor (r := (bsd i s : Int)) (dT U_X8_nextTo 6 rfl) (xor_ok hb.2.2) ?_
  refine x_istore_n (ls' := [some (.ref _), some (vi _), some (vi _), some (vi _)]) (dT U_X8_nextTo 7 rfl) (by decide) rfl ?_
  refine x_iload_n (dT U_X8_nextTo 8 rfl) rfl ?_
  refine x_if_lt (tgt := 28) (dT U_X8_nextTo 9 rfl) (by decide) (by unfold xr at *; omega) (fun c10 => ?_) (fun c10 => ?_)
  · exfalso; omega
  · skip
    refine x_iload_n (dT U_X8_nextTo 10 rfl) rfl ?_
    refine x_bipush (dT U_X8_nextTo 11 rfl) (by decide) ?_
    refine x_icmp_ge (tgt := 28) (dT U_X8_nextTo 12 rfl) (by decide) (by unfold xr at *; omega) (by unfold xr at *; omega) (fun c16 => ?_) (fun c16 => ?_)
    · exfalso; omega
    · skip
      refine x_aload_n (dT U_X8_nextTo 13 rfl) rfl ?_
      refine x_getfield F_X8_9 (dT U_X8_nextTo 14 rfl) ht (by omega) rfl ?_
      refine x_iload_n (dT U_X8_nextTo 15 rfl) rfl ?_
      refine x_iaload (bsd i s) (dT U_X8_nextTo 16 rfl) hs (by omega) rfl (by rw [ls]; omega) (by rw [ls]; omega) ?_
      refine x_goto (tgt := 29) (dT U_X8_nextTo 17 rfl) (by decide) ?_
      rw [vs _ hb.1 hb.2.1]
      refine x_ireturn (dT U_X8_nextTo 19 rfl) rfl ?_
      exact k

set_option maxRecDepth 20000 in
set_option maxHeartbeats 1000000 in
theorem S_X9_walk {G : xG} {d rc rs : Nat} {ex : Bool} {h : xH} {Q : xQ} {wa i : Nat} {v a b c : Int} {xl yl zl : List Int} (hw : h[wa]? = some (cO 9 [.ref (wa + 1), .ref (wa + 2), .ref (wa + 3)])) (w3 : 3 ≤ wa) (hl : h[wa + 1]? = some (cA 0 xl)) (hr : h[wa + 2]? = some (cA 0 yl)) (hs : h[wa + 3]? = some (cA 0 zl)) (ll : xl.length = 4) (lr : yl.length = 4) (ls : zl.length = 4) (hpl : i < 8) (hv : 0 ≤ v ∧ v < 251) (ha : 0 ≤ a ∧ a < 251) (hb : 0 ≤ b ∧ b < 251) (hc : 0 ≤ c ∧ c < 251) (k : Q (.inl none) ex (wst h wa i v a b c)) : X G m_X9_walk (d + 1) rc rs ex 0 (xe m_X9_walk.2.2.1 [.ref wa, vi (i : Int), vi v, vi a, vi b, vi c]) [] h Q := by
  show X G m_X9_walk _ _ _ _ 0 [some (.ref wa), some (vi (i : Int)), some (vi v), some (vi a), some (vi b), some (vi c), none, none, none, none] [] h Q
  have L1 : ∀ (n t : Nat), t + n = 4 → 1 ≤ t → X G m_X9_walk (d + 1) rc rs ex 28 [some (.ref wa), some (vi (i : Int)), some (vi v), some (vi a), some (vi b), some (vi c), some (vi (t : Int)), none, none, none] [] (((h.set (wa + 1) (cA 0 (fillL (fun j => (wq i v a b c j).1) xl t))).set (wa + 2) (cA 0 (fillL (fun j => (wq i v a b c j).2) yl t))).set (wa + 3) (cA 0 (fillL (ws i v a b c) zl t))) Q := by
    intro n
    induction n with
    | zero =>
      intro t hi ht1
      refine x_iload (dT U_X9_walk 19 rfl) rfl ?_
      refine x_iconst (dT U_X9_walk 20 rfl) ?_
      refine x_icmp_ge (tgt := 156) (dT U_X9_walk 21 rfl) (by decide) (by unfold xr at *; omega) (by unfold xr at *; omega) (fun c31 => ?_) (fun c31 => ?_)
      · skip
        refine x_return (dT U_X9_walk 86 rfl) rfl ?_
        have e : t = 4 := by omega
        subst e
        rw [fillL_all ll, fillL_all lr, fillL_all ls]
        exact k
      · exfalso; omega
    | succ n ih =>
      intro t hi ht1
      have hwA : (((h.set (wa + 1) (cA 0 (fillL (fun j => (wq i v a b c j).1) xl t))).set (wa + 2) (cA 0 (fillL (fun j => (wq i v a b c j).2) yl t))).set (wa + 3) (cA 0 (fillL (ws i v a b c) zl t)))[wa]? = _ := hset_ne (by omega) (hset_ne (by omega) (hset_ne (by omega) hw))
      have hlA : (((h.set (wa + 1) (cA 0 (fillL (fun j => (wq i v a b c j).1) xl t))).set (wa + 2) (cA 0 (fillL (fun j => (wq i v a b c j).2) yl t))).set (wa + 3) (cA 0 (fillL (ws i v a b c) zl t)))[wa + 1]? = _ := hset_ne (by omega) (hset_ne (by omega) (hset_eq hl))
      have hrA : (((h.set (wa + 1) (cA 0 (fillL (fun j => (wq i v a b c j).1) xl t))).set (wa + 2) (cA 0 (fillL (fun j => (wq i v a b c j).2) yl t))).set (wa + 3) (cA 0 (fillL (ws i v a b c) zl t)))[wa + 2]? = _ := hset_ne (by omega) (hset_eq (hset_ne (by omega) hr))
      have hsA : (((h.set (wa + 1) (cA 0 (fillL (fun j => (wq i v a b c j).1) xl t))).set (wa + 2) (cA 0 (fillL (fun j => (wq i v a b c j).2) yl t))).set (wa + 3) (cA 0 (fillL (ws i v a b c) zl t)))[wa + 3]? = _ := hset_eq (hset_ne (by omega) (hset_ne (by omega) hs))
      have hwB : (((h.set (wa + 1) (cA 0 (fillL (fun j => (wq i v a b c j).1) xl (t + 1)))).set (wa + 2) (cA 0 (fillL (fun j => (wq i v a b c j).2) yl t))).set (wa + 3) (cA 0 (fillL (ws i v a b c) zl t)))[wa]? = _ := hset_ne (by omega) (hset_ne (by omega) (hset_ne (by omega) hw))
      have hlB : (((h.set (wa + 1) (cA 0 (fillL (fun j => (wq i v a b c j).1) xl (t + 1)))).set (wa + 2) (cA 0 (fillL (fun j => (wq i v a b c j).2) yl t))).set (wa + 3) (cA 0 (fillL (ws i v a b c) zl t)))[wa + 1]? = _ := hset_ne (by omega) (hset_ne (by omega) (hset_eq hl))
      have hrB : (((h.set (wa + 1) (cA 0 (fillL (fun j => (wq i v a b c j).1) xl (t + 1)))).set (wa + 2) (cA 0 (fillL (fun j => (wq i v a b c j).2) yl t))).set (wa + 3) (cA 0 (fillL (ws i v a b c) zl t)))[wa + 2]? = _ := hset_ne (by omega) (hset_eq (hset_ne (by omega) hr))
      have hsB : (((h.set (wa + 1) (cA 0 (fillL (fun j => (wq i v a b c j).1) xl (t + 1)))).set (wa + 2) (cA 0 (fillL (fun j => (wq i v a b c j).2) yl t))).set (wa + 3) (cA 0 (fillL (ws i v a b c) zl t)))[wa + 3]? = _ := hset_eq (hset_ne (by omega) (hset_ne (by omega) hs))
      have hwC : (((h.set (wa + 1) (cA 0 (fillL (fun j => (wq i v a b c j).1) xl (t + 1)))).set (wa + 2) (cA 0 (fillL (fun j => (wq i v a b c j).2) yl (t + 1)))).set (wa + 3) (cA 0 (fillL (ws i v a b c) zl t)))[wa]? = _ := hset_ne (by omega) (hset_ne (by omega) (hset_ne (by omega) hw))
      have hlC : (((h.set (wa + 1) (cA 0 (fillL (fun j => (wq i v a b c j).1) xl (t + 1)))).set (wa + 2) (cA 0 (fillL (fun j => (wq i v a b c j).2) yl (t + 1)))).set (wa + 3) (cA 0 (fillL (ws i v a b c) zl t)))[wa + 1]? = _ := hset_ne (by omega) (hset_ne (by omega) (hset_eq hl))
      have hrC : (((h.set (wa + 1) (cA 0 (fillL (fun j => (wq i v a b c j).1) xl (t + 1)))).set (wa + 2) (cA 0 (fillL (fun j => (wq i v a b c j).2) yl (t + 1)))).set (wa + 3) (cA 0 (fillL (ws i v a b c) zl t)))[wa + 2]? = _ := hset_ne (by omega) (hset_eq (hset_ne (by omega) hr))
      have hsC : (((h.set (wa + 1) (cA 0 (fillL (fun j => (wq i v a b c j).1) xl (t + 1)))).set (wa + 2) (cA 0 (fillL (fun j => (wq i v a b c j).2) yl (t + 1)))).set (wa + 3) (cA 0 (fillL (ws i v a b c) zl t)))[wa + 3]? = _ := hset_eq (hset_ne (by omega) (hset_ne (by omega) hs))
      have wb := wq_b hpl hv ha hb hc t
      have hd : i / 2 ^ (t - 1) < 16 := Nat.lt_of_le_of_lt (Nat.div_le_self _ _) (by omega)
      have ews : (fillL (ws i v a b c) zl t).getD (t - 1) 0 = ws i v a b c (t - 1) := fillL_lt _ _ _ _ (show t - 1 < t by omega) (by rw [ls]; omega)
      have K : ∀ nv : Int, nv = (if t - 1 = 0 then a else if t - 1 = 1 then b else c) → X G m_X9_walk (d + 1) rc rs ex 68 [some (.ref wa), some (vi (i : Int)), some (vi v), some (vi a), some (vi b), some (vi c), some (vi (t : Int)), some (vi (ws i v a b c (t - 1))), none, none] [vi nv] (((h.set (wa + 1) (cA 0 (fillL (fun j => (wq i v a b c j).1) xl t))).set (wa + 2) (cA 0 (fillL (fun j => (wq i v a b c j).2) yl t))).set (wa + 3) (cA 0 (fillL (ws i v a b c) zl t))) Q := by
        intro nv hn
        refine x_istore (ls' := [some (.ref _), some (vi _), some (vi _), some (vi _), some (vi _), some (vi _), some (vi _), some (vi _), some (vi _), none]) (dT U_X9_walk 40 rfl) (by decide) rfl ?_
        by_cases cb : i / 2 ^ (t - 1) % 2 = 0
        · skip
          have e1 : ws i v a b c (t - 1) = (wq i v a b c t).1 := by
            obtain ⟨u, rfl⟩ : ∃ u, t = u + 1 := ⟨t - 1, by omega⟩
            (try rw [hn]); unfold wq; dsimp only; rw [Nat.add_sub_cancel] at cb; rw [if_pos cb]; try rfl
          have e2 : nv = (wq i v a b c t).2 := by
            obtain ⟨u, rfl⟩ : ∃ u, t = u + 1 := ⟨t - 1, by omega⟩
            (try rw [hn]); unfold wq; dsimp only; rw [Nat.add_sub_cancel] at cb; rw [if_pos cb]; try rfl
          refine x_iload_n (dT U_X9_walk 41 rfl) rfl ?_
          refine x_iload (dT U_X9_walk 42 rfl) rfl ?_
          refine x_iconst (dT U_X9_walk 43 rfl) ?_
          refine x_isub (dT U_X9_walk 44 rfl) ?_
          refine x_ishr (r := ((i / 2 ^ (t - 1) : Nat) : Int)) (dT U_X9_walk 45 rfl) (shr_okm (by omega) ht1 (by omega)) ?_
          refine x_iconst (dT U_X9_walk 46 rfl) ?_
          refine x_iand (r := ((i / 2 ^ (t - 1) % 2 : Nat) : Int)) (dT U_X9_walk 47 rfl) (and_ok hd) ?_
          refine x_if_ne (tgt := 85) (dT U_X9_walk 48 rfl) (by decide) (by unfold xr at *; omega) (fun c78 => ?_) (fun c78 => ?_)
          · exfalso; omega
          · skip
            refine x_iconst (dT U_X9_walk 49 rfl) ?_
            refine x_goto (tgt := 86) (dT U_X9_walk 50 rfl) (by decide) ?_
            refine x_istore (ls' := [some (.ref _), some (vi _), some (vi _), some (vi _), some (vi _), some (vi _), some (vi _), some (vi _), some (vi _), some (vi _)]) (dT U_X9_walk 52 rfl) (by decide) rfl ?_
            refine x_aload_n (dT U_X9_walk 53 rfl) rfl ?_
            refine x_getfield F_X9_9 (dT U_X9_walk 54 rfl) hwA (by omega) rfl ?_
            refine x_iload (dT U_X9_walk 55 rfl) rfl ?_
            refine x_iload (dT U_X9_walk 56 rfl) rfl ?_
            refine x_if_eq (tgt := 104) (dT U_X9_walk 57 rfl) (by decide) (by unfold xr at *; omega) (fun c96 => ?_) (fun c96 => ?_)
            · exfalso; omega
            · skip
              refine x_iload (dT U_X9_walk 58 rfl) rfl ?_
              refine x_goto (tgt := 106) (dT U_X9_walk 59 rfl) (by decide) ?_
              refine x_iastore (t) (dT U_X9_walk 61 rfl) hlA (by omega) rfl (by rw [fillL_len, ll]; omega) (by rw [fillL_len, ll]; omega) ?_
              rw [e1, st3a (by omega) (by omega)]
              show X G _ _ _ _ _ _ _ _ (((h.set (wa + 1) (cA 0 (fillL (fun j => (wq i v a b c j).1) xl (t + 1)))).set (wa + 2) (cA 0 (fillL (fun j => (wq i v a b c j).2) yl t))).set (wa + 3) (cA 0 (fillL (ws i v a b c) zl t))) _
              refine x_aload_n (dT U_X9_walk 62 rfl) rfl ?_
              refine x_getfield F_X9_15 (dT U_X9_walk 63 rfl) hwB (by omega) rfl ?_
              refine x_iload (dT U_X9_walk 64 rfl) rfl ?_
              refine x_iload (dT U_X9_walk 65 rfl) rfl ?_
              refine x_if_eq (tgt := 123) (dT U_X9_walk 66 rfl) (by decide) (by unfold xr at *; omega) (fun c115 => ?_) (fun c115 => ?_)
              · exfalso; omega
              · skip
                refine x_iload (dT U_X9_walk 67 rfl) rfl ?_
                refine x_goto (tgt := 125) (dT U_X9_walk 68 rfl) (by decide) ?_
                refine x_iastore (t) (dT U_X9_walk 70 rfl) hrB (by omega) rfl (by rw [fillL_len, lr]; omega) (by rw [fillL_len, lr]; omega) ?_
                rw [e2, st3b (by omega)]
                show X G _ _ _ _ _ _ _ _ (((h.set (wa + 1) (cA 0 (fillL (fun j => (wq i v a b c j).1) xl (t + 1)))).set (wa + 2) (cA 0 (fillL (fun j => (wq i v a b c j).2) yl (t + 1)))).set (wa + 3) (cA 0 (fillL (ws i v a b c) zl t))) _
                refine x_aload_n (dT U_X9_walk 71 rfl) rfl ?_
                refine x_getfield F_X9_18 (dT U_X9_walk 72 rfl) hwC (by omega) rfl ?_
                refine x_iload (dT U_X9_walk 73 rfl) rfl ?_
                refine x_aload_n (dT U_X9_walk 74 rfl) rfl ?_
                refine x_getfield F_X9_9 (dT U_X9_walk 75 rfl) hwC (by omega) rfl ?_
                refine x_iload (dT U_X9_walk 76 rfl) rfl ?_
                refine x_iaload (t) (dT U_X9_walk 77 rfl) hlC (by omega) rfl (by rw [fillL_len, ll]; omega) (by rw [fillL_len, ll]; omega) ?_
                refine x_aload_n (dT U_X9_walk 78 rfl) rfl ?_
                refine x_getfield F_X9_15 (dT U_X9_walk 79 rfl) hwC (by omega) rfl ?_
                refine x_iload (dT U_X9_walk 80 rfl) rfl ?_
                refine x_iaload (t) (dT U_X9_walk 81 rfl) hrC (by omega) rfl (by rw [fillL_len, lr]; omega) (by rw [fillL_len, lr]; omega) ?_
                refine x_invokestatic (rc' := rc) (rs' := rs) (rc2 := 0) (rs2 := 0) (As := [_, _]) (st := _) M_X8_sealOf K_X9_21 (dT U_X9_walk 82 rfl) rfl rfl rfl rfl (Nat.le_of_ble_eq_true rfl) rfl (by decide) (Nat.le_of_ble_eq_true rfl) rfl rfl ?_
                rw [fillL_lt _ _ _ _ (show t < t + 1 by omega) (by rw [ll]; omega), fillL_lt _ _ _ _ (show t < t + 1 by omega) (by rw [lr]; omega)]
                refine S_X8_sealOf wb.1 wb.2 ?_
                refine xRet_some ?_
                refine x_iastore (t) (dT U_X9_walk 83 rfl) hsC (by omega) rfl (by rw [fillL_len, ls]; omega) (by rw [fillL_len, ls]; omega) ?_
                rw [List.set_set]
                refine x_iinc (ls' := [some (.ref _), some (vi _), some (vi _), some (vi _), some (vi _), some (vi _), some (vi _), some (vi _), some (vi _), some (vi _)]) (dT U_X9_walk 84 rfl) (by decide) rfl rfl ?_
                refine x_goto (tgt := 28) (dT U_X9_walk 85 rfl) (by decide) ?_
                refine x_drop ?_ (ih (t + 1) (by omega) (by omega))
                repeat (first | exact trivial | refine ⟨rfl, ?_⟩ | refine ⟨trivial, ?_⟩)
        · skip
          have e1 : nv = (wq i v a b c t).1 := by
            obtain ⟨u, rfl⟩ : ∃ u, t = u + 1 := ⟨t - 1, by omega⟩
            (try rw [hn]); unfold wq; dsimp only; rw [Nat.add_sub_cancel] at cb; rw [if_neg cb]; try rfl
          have e2 : ws i v a b c (t - 1) = (wq i v a b c t).2 := by
            obtain ⟨u, rfl⟩ : ∃ u, t = u + 1 := ⟨t - 1, by omega⟩
            (try rw [hn]); unfold wq; dsimp only; rw [Nat.add_sub_cancel] at cb; rw [if_neg cb]; try rfl
          refine x_iload_n (dT U_X9_walk 41 rfl) rfl ?_
          refine x_iload (dT U_X9_walk 42 rfl) rfl ?_
          refine x_iconst (dT U_X9_walk 43 rfl) ?_
          refine x_isub (dT U_X9_walk 44 rfl) ?_
          refine x_ishr (r := ((i / 2 ^ (t - 1) : Nat) : Int)) (dT U_X9_walk 45 rfl) (shr_okm (by omega) ht1 (by omega)) ?_
          refine x_iconst (dT U_X9_walk 46 rfl) ?_
          refine x_iand (r := ((i / 2 ^ (t - 1) % 2 : Nat) : Int)) (dT U_X9_walk 47 rfl) (and_ok hd) ?_
          refine x_if_ne (tgt := 85) (dT U_X9_walk 48 rfl) (by decide) (by unfold xr at *; omega) (fun c78 => ?_) (fun c78 => ?_)
          · skip
            refine x_iconst (dT U_X9_walk 51 rfl) ?_
            refine x_istore (ls' := [some (.ref _), some (vi _), some (vi _), some (vi _), some (vi _), some (vi _), some (vi _), some (vi _), some (vi _), some (vi _)]) (dT U_X9_walk 52 rfl) (by decide) rfl ?_
            refine x_aload_n (dT U_X9_walk 53 rfl) rfl ?_
            refine x_getfield F_X9_9 (dT U_X9_walk 54 rfl) hwA (by omega) rfl ?_
            refine x_iload (dT U_X9_walk 55 rfl) rfl ?_
            refine x_iload (dT U_X9_walk 56 rfl) rfl ?_
            refine x_if_eq (tgt := 104) (dT U_X9_walk 57 rfl) (by decide) (by unfold xr at *; omega) (fun c96 => ?_) (fun c96 => ?_)
            · skip
              refine x_iload (dT U_X9_walk 60 rfl) rfl ?_
              refine x_iastore (t) (dT U_X9_walk 61 rfl) hlA (by omega) rfl (by rw [fillL_len, ll]; omega) (by rw [fillL_len, ll]; omega) ?_
              rw [e1, st3a (by omega) (by omega)]
              show X G _ _ _ _ _ _ _ _ (((h.set (wa + 1) (cA 0 (fillL (fun j => (wq i v a b c j).1) xl (t + 1)))).set (wa + 2) (cA 0 (fillL (fun j => (wq i v a b c j).2) yl t))).set (wa + 3) (cA 0 (fillL (ws i v a b c) zl t))) _
              refine x_aload_n (dT U_X9_walk 62 rfl) rfl ?_
              refine x_getfield F_X9_15 (dT U_X9_walk 63 rfl) hwB (by omega) rfl ?_
              refine x_iload (dT U_X9_walk 64 rfl) rfl ?_
              refine x_iload (dT U_X9_walk 65 rfl) rfl ?_
              refine x_if_eq (tgt := 123) (dT U_X9_walk 66 rfl) (by decide) (by unfold xr at *; omega) (fun c115 => ?_) (fun c115 => ?_)
              · skip
                refine x_iload (dT U_X9_walk 69 rfl) rfl ?_
                refine x_iastore (t) (dT U_X9_walk 70 rfl) hrB (by omega) rfl (by rw [fillL_len, lr]; omega) (by rw [fillL_len, lr]; omega) ?_
                rw [e2, st3b (by omega)]
                show X G _ _ _ _ _ _ _ _ (((h.set (wa + 1) (cA 0 (fillL (fun j => (wq i v a b c j).1) xl (t + 1)))).set (wa + 2) (cA 0 (fillL (fun j => (wq i v a b c j).2) yl (t + 1)))).set (wa + 3) (cA 0 (fillL (ws i v a b c) zl t))) _
                refine x_aload_n (dT U_X9_walk 71 rfl) rfl ?_
                refine x_getfield F_X9_18 (dT U_X9_walk 72 rfl) hwC (by omega) rfl ?_
                refine x_iload (dT U_X9_walk 73 rfl) rfl ?_
                refine x_aload_n (dT U_X9_walk 74 rfl) rfl ?_
                refine x_getfield F_X9_9 (dT U_X9_walk 75 rfl) hwC (by omega) rfl ?_
                refine x_iload (dT U_X9_walk 76 rfl) rfl ?_
                refine x_iaload (t) (dT U_X9_walk 77 rfl) hlC (by omega) rfl (by rw [fillL_len, ll]; omega) (by rw [fillL_len, ll]; omega) ?_
                refine x_aload_n (dT U_X9_walk 78 rfl) rfl ?_
                refine x_getfield F_X9_15 (dT U_X9_walk 79 rfl) hwC (by omega) rfl ?_
                refine x_iload (dT U_X9_walk 80 rfl) rfl ?_
                refine x_iaload (t) (dT U_X9_walk 81 rfl) hrC (by omega) rfl (by rw [fillL_len, lr]; omega) (by rw [fillL_len, lr]; omega) ?_
                refine x_invokestatic (rc' := rc) (rs' := rs) (rc2 := 0) (rs2 := 0) (As := [_, _]) (st := _) M_X8_sealOf K_X9_21 (dT U_X9_walk 82 rfl) rfl rfl rfl rfl (Nat.le_of_ble_eq_true rfl) rfl (by decide) (Nat.le_of_ble_eq_true rfl) rfl rfl ?_
                rw [fillL_lt _ _ _ _ (show t < t + 1 by omega) (by rw [ll]; omega), fillL_lt _ _ _ _ (show t < t + 1 by omega) (by rw [lr]; omega)]
                refine S_X8_sealOf wb.1 wb.2 ?_
                refine xRet_some ?_
                refine x_iastore (t) (dT U_X9_walk 83 rfl) hsC (by omega) rfl (by rw [fillL_len, ls]; omega) (by rw [fillL_len, ls]; omega) ?_
                rw [List.set_set]
                refine x_iinc (ls' := [some (.ref _), some (vi _), some (vi _), some (vi _), some (vi _), some (vi _), some (vi _), some (vi _), some (vi _), some (vi _)]) (dT U_X9_walk 84 rfl) (by decide) rfl rfl ?_
                refine x_goto (tgt := 28) (dT U_X9_walk 85 rfl) (by decide) ?_
                refine x_drop ?_ (ih (t + 1) (by omega) (by omega))
                repeat (first | exact trivial | refine ⟨rfl, ?_⟩ | refine ⟨trivial, ?_⟩)
              · exfalso; omega
            · exfalso; omega
          · exfalso; omega
      refine x_iload (dT U_X9_walk 19 rfl) rfl ?_
      refine x_iconst (dT U_X9_walk 20 rfl) ?_
      refine x_icmp_ge (tgt := 156) (dT U_X9_walk 21 rfl) (by decide) (by unfold xr at *; omega) (by unfold xr at *; omega) (fun c31 => ?_) (fun c31 => ?_)
      · exfalso; omega
      · skip
        refine x_aload_n (dT U_X9_walk 22 rfl) rfl ?_
        refine x_getfield F_X9_18 (dT U_X9_walk 23 rfl) hwA (by omega) rfl ?_
        refine x_iload (dT U_X9_walk 24 rfl) rfl ?_
        refine x_iconst (dT U_X9_walk 25 rfl) ?_
        refine x_isub (dT U_X9_walk 26 rfl) ?_
        refine x_iaload (t - 1) (dT U_X9_walk 27 rfl) hsA (by omega) (by omega) (by rw [fillL_len, ls]; omega) (by rw [fillL_len, ls]; omega) ?_
        rw [ews]
        refine x_istore (ls' := [some (.ref _), some (vi _), some (vi _), some (vi _), some (vi _), some (vi _), some (vi _), some (vi _), none, none]) (dT U_X9_walk 28 rfl) (by decide) rfl ?_
        refine x_iload (dT U_X9_walk 29 rfl) rfl ?_
        refine x_iconst (dT U_X9_walk 30 rfl) ?_
        refine x_icmp_ne (tgt := 55) (dT U_X9_walk 31 rfl) (by decide) (by unfold xr at *; omega) (by unfold xr at *; omega) (fun c48 => ?_) (fun c48 => ?_)
        · skip
          refine x_iload (dT U_X9_walk 34 rfl) rfl ?_
          refine x_iconst (dT U_X9_walk 35 rfl) ?_
          refine x_icmp_ne (tgt := 66) (dT U_X9_walk 36 rfl) (by decide) (by unfold xr at *; omega) (by unfold xr at *; omega) (fun c58 => ?_) (fun c58 => ?_)
          · skip
            refine x_iload (dT U_X9_walk 39 rfl) rfl ?_
            exact K _ (by split <;> (try split) <;> omega)
          · skip
            refine x_iload (dT U_X9_walk 37 rfl) rfl ?_
            refine x_goto (tgt := 68) (dT U_X9_walk 38 rfl) (by decide) ?_
            exact K _ (by split <;> (try split) <;> omega)
        · skip
          refine x_iload_n (dT U_X9_walk 32 rfl) rfl ?_
          refine x_goto (tgt := 68) (dT U_X9_walk 33 rfl) (by decide) ?_
          exact K _ (by split <;> (try split) <;> omega)
  refine x_aload_n (dT U_X9_walk 0 rfl) rfl ?_
  refine x_getfield F_X9_9 (dT U_X9_walk 1 rfl) hw (by omega) rfl ?_
  refine x_iconst (dT U_X9_walk 2 rfl) ?_
  refine x_iload_n (dT U_X9_walk 3 rfl) rfl ?_
  refine x_iastore (0) (dT U_X9_walk 4 rfl) hl (by omega) rfl (by rw [ll]; omega) (by rw [ll]; omega) ?_
  refine x_aload_n (dT U_X9_walk 5 rfl) rfl ?_
  refine x_getfield F_X9_15 (dT U_X9_walk 6 rfl) (hset_ne (by omega) hw) (by omega) rfl ?_
  refine x_iconst (dT U_X9_walk 7 rfl) ?_
  refine x_iload_n (dT U_X9_walk 8 rfl) rfl ?_
  refine x_iastore (0) (dT U_X9_walk 9 rfl) (hset_ne (by omega) hr) (by omega) rfl (by rw [lr]; omega) (by rw [lr]; omega) ?_
  refine x_aload_n (dT U_X9_walk 10 rfl) rfl ?_
  refine x_getfield F_X9_18 (dT U_X9_walk 11 rfl) (hset_ne (by omega) (hset_ne (by omega) hw)) (by omega) rfl ?_
  refine x_iconst (dT U_X9_walk 12 rfl) ?_
  refine x_iload_n (dT U_X9_walk 13 rfl) rfl ?_
  refine x_iload_n (dT U_X9_walk 14 rfl) rfl ?_
  refine x_invokestatic (rc' := rc) (rs' := rs) (rc2 := 0) (rs2 := 0) (As := [_, _]) (st := _) M_X8_sealOf K_X9_21 (dT U_X9_walk 15 rfl) rfl rfl rfl rfl (Nat.le_of_ble_eq_true rfl) rfl (by decide) (Nat.le_of_ble_eq_true rfl) rfl rfl ?_
  refine S_X8_sealOf (by omega) (by omega) ?_
  refine xRet_some ?_
  refine x_iastore (0) (dT U_X9_walk 16 rfl) (hset_ne (by omega) (hset_ne (by omega) hs)) (by omega) rfl (by rw [ls]; omega) (by rw [ls]; omega) ?_
  refine x_iconst (dT U_X9_walk 17 rfl) ?_
  refine x_istore (ls' := [some (.ref _), some (vi _), some (vi _), some (vi _), some (vi _), some (vi _), some (vi _), none, none, none]) (dT U_X9_walk 18 rfl) (by decide) rfl ?_
  exact L1 3 1 (by omega) (by omega)

set_option maxRecDepth 20000 in
set_option maxHeartbeats 1000000 in
theorem S_X8_lead {G : xG} {d rc rs : Nat} {ex : Bool} {h : xH} {Q : xQ} {ta wa ra i : Nat} {sl0 rl xl yl zl : List Int} {f : Nat → Int} {p : Int} (ht : h[ta]? = some (cO 8 [.ref (ta + 1)])) (t3 : 3 ≤ ta) (hs : h[ta + 1]? = some (cA 0 sl0)) (ls : sl0.length = 16) (vs : ∀ j, 1 ≤ j → j < 16 → sl0.getD j 0 = f j) (fb : ∀ j, 0 ≤ f j ∧ f j < 251) (hw : h[wa]? = some (cO 9 [.ref (wa + 1), .ref (wa + 2), .ref (wa + 3)])) (w3 : 3 ≤ wa) (hl : h[wa + 1]? = some (cA 0 xl)) (hr : h[wa + 2]? = some (cA 0 yl)) (hsw : h[wa + 3]? = some (cA 0 zl)) (ll : xl.length = 4) (lr : yl.length = 4) (lsw : zl.length = 4) (hrow : h[ra]? = some (cA 0 rl)) (r3 : 3 ≤ ra) (lrow : Fl p rl) (hp : p < 24) (hpl : i < 8) (k : Q (.inl none) ex (wst h wa i (rl.getD i 0) (f (bsd i 0)) (f (bsd i 1)) (f (bsd i 2)))) : X G m_X8_lead (d + 2) rc rs ex 0 (xe m_X8_lead.2.2.1 [.ref ta, .ref wa, .ref ra, vi (i : Int)]) [] h Q := by
  show X G m_X8_lead _ _ _ _ 0 [some (.ref ta), some (.ref wa), some (.ref ra), some (vi (i : Int))] [] h Q
  refine x_iload_n (dT U_X8_lead 0 rfl) rfl ?_
  refine x_if_lt (tgt := 36) (dT U_X8_lead 1 rfl) (by decide) (by unfold xr at *; omega) (fun c1 => ?_) (fun c1 => ?_)
  · exfalso; omega
  · skip
    refine x_iload_n (dT U_X8_lead 2 rfl) rfl ?_
    refine x_bipush (dT U_X8_lead 3 rfl) (by decide) ?_
    refine x_icmp_ge (tgt := 36) (dT U_X8_lead 4 rfl) (by decide) (by unfold xr at *; omega) (by unfold xr at *; omega) (fun c7 => ?_) (fun c7 => ?_)
    · exfalso; omega
    · skip
      refine x_aload_n (dT U_X8_lead 5 rfl) rfl ?_
      refine x_iload_n (dT U_X8_lead 6 rfl) rfl ?_
      refine x_aload_n (dT U_X8_lead 7 rfl) rfl ?_
      refine x_iload_n (dT U_X8_lead 8 rfl) rfl ?_
      refine x_iaload (i) (dT U_X8_lead 9 rfl) hrow r3 rfl (by rw [lrow.1]; omega) (by rw [lrow.1]; omega) ?_
      refine x_aload_n (dT U_X8_lead 10 rfl) rfl ?_
      refine x_iload_n (dT U_X8_lead 11 rfl) rfl ?_
      refine x_iconst (dT U_X8_lead 12 rfl) ?_
      refine x_invokevirtual (rc' := rc) (rs' := rs) (rc2 := 0) (rs2 := 0) (As := [_, _]) (st := _) M_X8_nextTo K_X8_19 (dT U_X8_lead 13 rfl) rfl rfl (by decide) rfl rfl ht (by omega) (by decide) rfl (Nat.le_of_ble_eq_true rfl) rfl (by decide) (Nat.le_of_ble_eq_true rfl) rfl rfl ?_
      refine S_X8_nextTo (s := 0) ht t3 hs ls vs hpl (by omega) ?_
      refine xRet_some ?_
      refine x_aload_n (dT U_X8_lead 14 rfl) rfl ?_
      refine x_iload_n (dT U_X8_lead 15 rfl) rfl ?_
      refine x_iconst (dT U_X8_lead 16 rfl) ?_
      refine x_invokevirtual (rc' := rc) (rs' := rs) (rc2 := 0) (rs2 := 0) (As := [_, _]) (st := _) M_X8_nextTo K_X8_19 (dT U_X8_lead 17 rfl) rfl rfl (by decide) rfl rfl ht (by omega) (by decide) rfl (Nat.le_of_ble_eq_true rfl) rfl (by decide) (Nat.le_of_ble_eq_true rfl) rfl rfl ?_
      refine S_X8_nextTo (s := 1) ht t3 hs ls vs hpl (by omega) ?_
      refine xRet_some ?_
      refine x_aload_n (dT U_X8_lead 18 rfl) rfl ?_
      refine x_iload_n (dT U_X8_lead 19 rfl) rfl ?_
      refine x_iconst (dT U_X8_lead 20 rfl) ?_
      refine x_invokevirtual (rc' := rc) (rs' := rs) (rc2 := 0) (rs2 := 0) (As := [_, _]) (st := _) M_X8_nextTo K_X8_19 (dT U_X8_lead 21 rfl) rfl rfl (by decide) rfl rfl ht (by omega) (by decide) rfl (Nat.le_of_ble_eq_true rfl) rfl (by decide) (Nat.le_of_ble_eq_true rfl) rfl rfl ?_
      refine S_X8_nextTo (s := 2) ht t3 hs ls vs hpl (by omega) ?_
      refine xRet_some ?_
      refine x_invokevirtual (rc' := rc) (rs' := rs) (rc2 := 0) (rs2 := 0) (As := [_, _, _, _, _]) (st := _) M_X9_walk K_X8_22 (dT U_X8_lead 22 rfl) rfl rfl (by decide) rfl rfl hw (by omega) (by decide) rfl (Nat.le_of_ble_eq_true rfl) rfl (by decide) (Nat.le_of_ble_eq_true rfl) rfl rfl ?_
      have hv := lrow.2 i
      refine S_X9_walk hw w3 hl hr hsw ll lr lsw hpl (by omega) (fb _) (fb _) (fb _) ?_
      refine xRet_none ?_
      refine x_return (dT U_X8_lead 23 rfl) rfl ?_
      exact k

set_option maxRecDepth 20000 in
set_option maxHeartbeats 1000000 in
theorem S_X9_top {G : xG} {d rc rs : Nat} {ex : Bool} {h : xH} {Q : xQ} {wa : Nat} {zl : List Int} (hw : h[wa]? = some (cO 9 [.ref (wa + 1), .ref (wa + 2), .ref (wa + 3)])) (w3 : 3 ≤ wa) (hs : h[wa + 3]? = some (cA 0 zl)) (ls : zl.length = 4) (k : Q (.inl (some (vi (zl.getD 3 0)))) ex h) : X G m_X9_top d rc rs ex 0 (xe m_X9_top.2.2.1 [.ref wa]) [] h Q := by
  show X G m_X9_top _ _ _ _ 0 [some (.ref wa)] [] h Q
  refine x_aload_n (dT U_X9_top 0 rfl) rfl ?_
  refine x_getfield F_X9_18 (dT U_X9_top 1 rfl) hw (by omega) rfl ?_
  refine x_iconst (dT U_X9_top 2 rfl) ?_
  refine x_iaload (3) (dT U_X9_top 3 rfl) hs (by omega) rfl (by rw [ls]; omega) (by rw [ls]; omega) ?_
  refine x_ireturn (dT U_X9_top 4 rfl) rfl ?_
  exact k

set_option maxRecDepth 20000 in
set_option maxHeartbeats 1000000 in
theorem S_X9_hasOtherPair {G : xG} {d rc rs : Nat} {ex : Bool} {h : xH} {Q : xQ} {wa va : Nat} {xl yl zl xl2 yl2 zl2 : List Int} {i : Nat} (hw : h[wa]? = some (cO 9 [.ref (wa + 1), .ref (wa + 2), .ref (wa + 3)])) (w3 : 3 ≤ wa) (hl : h[wa + 1]? = some (cA 0 xl)) (hr : h[wa + 2]? = some (cA 0 yl)) (hs : h[wa + 3]? = some (cA 0 zl)) (ll : xl.length = 4) (lr : yl.length = 4) (ls : zl.length = 4) (hw2 : h[va]? = some (cO 9 [.ref (va + 1), .ref (va + 2), .ref (va + 3)])) (w32 : 3 ≤ va) (hl2 : h[va + 1]? = some (cA 0 xl2)) (hr2 : h[va + 2]? = some (cA 0 yl2)) (hs2 : h[va + 3]? = some (cA 0 zl2)) (ll2 : xl2.length = 4) (lr2 : yl2.length = 4) (ls2 : zl2.length = 4) (vr : ∀ j, xr (xl.getD j 0) ∧ xr (yl.getD j 0) ∧ xr (zl.getD j 0) ∧ xr (xl2.getD j 0) ∧ xr (yl2.getD j 0) ∧ xr (zl2.getD j 0)) (hi : i < 4) (k1 : ¬ (xl.getD i 0 = xl2.getD i 0 ∧ yl.getD i 0 = yl2.getD i 0) → Q (.inl (some (vi 1))) ex h) (k0 : (xl.getD i 0 = xl2.getD i 0 ∧ yl.getD i 0 = yl2.getD i 0) → Q (.inl (some (vi 0))) ex h) : X G m_X9_hasOtherPair d rc rs ex 0 (xe m_X9_hasOtherPair.2.2.1 [.ref wa, .ref va, vi (i : Int)]) [] h Q := by
  show X G m_X9_hasOtherPair _ _ _ _ 0 [some (.ref wa), some (.ref va), some (vi (i : Int))] [] h Q
  refine x_aload_n (dT U_X9_hasOtherPair 0 rfl) rfl ?_
  refine x_getfield F_X9_9 (dT U_X9_hasOtherPair 1 rfl) hw (by omega) rfl ?_
  refine x_iload_n (dT U_X9_hasOtherPair 2 rfl) rfl ?_
  refine x_iaload (i) (dT U_X9_hasOtherPair 3 rfl) hl (by omega) rfl (by rw [ll]; omega) (by rw [ll]; omega) ?_
  refine x_aload_n (dT U_X9_hasOtherPair 4 rfl) rfl ?_
  refine x_getfield F_X9_9 (dT U_X9_hasOtherPair 5 rfl) hw2 (by omega) rfl ?_
  refine x_iload_n (dT U_X9_hasOtherPair 6 rfl) rfl ?_
  refine x_iaload (i) (dT U_X9_hasOtherPair 7 rfl) hl2 (by omega) rfl (by rw [ll2]; omega) (by rw [ll2]; omega) ?_
  refine x_icmp_ne (tgt := 30) (dT U_X9_hasOtherPair 8 rfl) (by decide) (vr i).1 (vr i).2.2.2.1 (fun c12 => ?_) (fun c12 => ?_)
  · skip
    refine x_iconst (dT U_X9_hasOtherPair 18 rfl) ?_
    refine x_goto (tgt := 35) (dT U_X9_hasOtherPair 19 rfl) (by decide) ?_
    refine x_zreturn (dT U_X9_hasOtherPair 21 rfl) rfl (by omega) ?_
    first | exact k1 (fun q => by omega) | exact k0 ⟨by omega, by omega⟩
  · skip
    refine x_aload_n (dT U_X9_hasOtherPair 9 rfl) rfl ?_
    refine x_getfield F_X9_15 (dT U_X9_hasOtherPair 10 rfl) hw (by omega) rfl ?_
    refine x_iload_n (dT U_X9_hasOtherPair 11 rfl) rfl ?_
    refine x_iaload (i) (dT U_X9_hasOtherPair 12 rfl) hr (by omega) rfl (by rw [lr]; omega) (by rw [lr]; omega) ?_
    refine x_aload_n (dT U_X9_hasOtherPair 13 rfl) rfl ?_
    refine x_getfield F_X9_15 (dT U_X9_hasOtherPair 14 rfl) hw2 (by omega) rfl ?_
    refine x_iload_n (dT U_X9_hasOtherPair 15 rfl) rfl ?_
    refine x_iaload (i) (dT U_X9_hasOtherPair 16 rfl) hr2 (by omega) rfl (by rw [lr2]; omega) (by rw [lr2]; omega) ?_
    refine x_icmp_eq (tgt := 34) (dT U_X9_hasOtherPair 17 rfl) (by decide) (vr i).2.1 (vr i).2.2.2.2.1 (fun c27 => ?_) (fun c27 => ?_)
    · skip
      refine x_iconst (dT U_X9_hasOtherPair 20 rfl) ?_
      refine x_zreturn (dT U_X9_hasOtherPair 21 rfl) rfl (by omega) ?_
      first | exact k1 (fun q => by omega) | exact k0 ⟨by omega, by omega⟩
    · skip
      refine x_iconst (dT U_X9_hasOtherPair 18 rfl) ?_
      refine x_goto (tgt := 35) (dT U_X9_hasOtherPair 19 rfl) (by decide) ?_
      refine x_zreturn (dT U_X9_hasOtherPair 21 rfl) rfl (by omega) ?_
      first | exact k1 (fun q => by omega) | exact k0 ⟨by omega, by omega⟩

set_option maxRecDepth 20000 in
set_option maxHeartbeats 1000000 in
theorem S_X9_isLike {G : xG} {d rc rs : Nat} {ex : Bool} {h : xH} {Q : xQ} {wa va : Nat} {xl yl zl xl2 yl2 zl2 : List Int} (hw : h[wa]? = some (cO 9 [.ref (wa + 1), .ref (wa + 2), .ref (wa + 3)])) (w3 : 3 ≤ wa) (hl : h[wa + 1]? = some (cA 0 xl)) (hr : h[wa + 2]? = some (cA 0 yl)) (hs : h[wa + 3]? = some (cA 0 zl)) (ll : xl.length = 4) (lr : yl.length = 4) (ls : zl.length = 4) (hw2 : h[va]? = some (cO 9 [.ref (va + 1), .ref (va + 2), .ref (va + 3)])) (w32 : 3 ≤ va) (hl2 : h[va + 1]? = some (cA 0 xl2)) (hr2 : h[va + 2]? = some (cA 0 yl2)) (hs2 : h[va + 3]? = some (cA 0 zl2)) (ll2 : xl2.length = 4) (lr2 : yl2.length = 4) (ls2 : zl2.length = 4) (vr : ∀ j, xr (xl.getD j 0) ∧ xr (yl.getD j 0) ∧ xr (zl.getD j 0) ∧ xr (xl2.getD j 0) ∧ xr (yl2.getD j 0) ∧ xr (zl2.getD j 0)) (k1 : (∀ j, j < 4 → (xl.getD j 0 = xl2.getD j 0 ∧ yl.getD j 0 = yl2.getD j 0)) → Q (.inl (some (vi 1))) ex h) (k0 : ¬ (∀ j, j < 4 → (xl.getD j 0 = xl2.getD j 0 ∧ yl.getD j 0 = yl2.getD j 0)) → Q (.inl (some (vi 0))) ex h) : X G m_X9_isLike (d + 1) rc rs ex 0 (xe m_X9_isLike.2.2.1 [.ref wa, .ref va]) [] h Q := by
  show X G m_X9_isLike _ _ _ _ 0 [some (.ref wa), some (.ref va), none] [] h Q
  have L : ∀ (n i : Nat), i + n = 4 → (∀ j, j < i → (xl.getD j 0 = xl2.getD j 0 ∧ yl.getD j 0 = yl2.getD j 0)) → X G m_X9_isLike (d + 1) rc rs ex 2 [some (.ref wa), some (.ref va), some (vi (i : Int))] [] h Q := by
    intro n
    induction n with
    | zero =>
      intro i hi hP
      refine x_iload_n (dT U_X9_isLike 2 rfl) rfl ?_
      refine x_iconst (dT U_X9_isLike 3 rfl) ?_
      refine x_icmp_ge (tgt := 24) (dT U_X9_isLike 4 rfl) (by decide) (by unfold xr at *; omega) (by unfold xr at *; omega) (fun c4 => ?_) (fun c4 => ?_)
      · skip
        refine x_iconst (dT U_X9_isLike 14 rfl) ?_
        refine x_zreturn (dT U_X9_isLike 15 rfl) rfl (by omega) ?_
        exact k1 (fun j hj => hP j (by omega))
      · exfalso; omega
    | succ n ih =>
      intro i hi hP
      refine x_iload_n (dT U_X9_isLike 2 rfl) rfl ?_
      refine x_iconst (dT U_X9_isLike 3 rfl) ?_
      refine x_icmp_ge (tgt := 24) (dT U_X9_isLike 4 rfl) (by decide) (by unfold xr at *; omega) (by unfold xr at *; omega) (fun c4 => ?_) (fun c4 => ?_)
      · exfalso; omega
      · skip
        refine x_aload_n (dT U_X9_isLike 5 rfl) rfl ?_
        refine x_aload_n (dT U_X9_isLike 6 rfl) rfl ?_
        refine x_iload_n (dT U_X9_isLike 7 rfl) rfl ?_
        refine x_invokevirtual (rc' := rc) (rs' := rs) (rc2 := 0) (rs2 := 0) (As := [_, _]) (st := _) M_X9_hasOtherPair K_X9_27 (dT U_X9_isLike 8 rfl) rfl rfl (by decide) rfl rfl hw (by omega) (by decide) rfl (Nat.le_of_ble_eq_true rfl) rfl (by decide) (Nat.le_of_ble_eq_true rfl) rfl rfl ?_
        refine S_X9_hasOtherPair hw w3 hl hr hs ll lr ls hw2 w32 hl2 hr2 hs2 ll2 lr2 ls2 vr (by omega) (fun hq => ?_) (fun hq => ?_)
        · refine xRet_some ?_
          exact x_if_eq (tgt := 18) (dT U_X9_isLike 9 rfl) (by decide) (by unfold xr; omega) (fun q => absurd q (by omega)) (fun _ => x_iconst (dT U_X9_isLike 10 rfl) (x_zreturn (dT U_X9_isLike 11 rfl) rfl (by omega) (k0 (fun z => hq (z i (by omega))))))
        · refine xRet_some ?_
          refine x_if_eq (tgt := 18) (dT U_X9_isLike 9 rfl) (by decide) (by unfold xr; omega) (fun _ => ?_) (fun q => absurd rfl q)
          refine x_iinc (ls' := [some (.ref _), some (.ref _), some (vi _)]) (dT U_X9_isLike 12 rfl) (by decide) rfl rfl ?_
          refine x_goto (tgt := 2) (dT U_X9_isLike 13 rfl) (by decide) ?_
          refine ih (i + 1) (by omega) (fun j hj => ?_)
          by_cases e : j = i
          · rw [e]; exact hq
          · exact hP j (by omega)
  refine x_iconst (dT U_X9_isLike 0 rfl) ?_
  refine x_istore_n (ls' := [some (.ref _), some (.ref _), some (vi _)]) (dT U_X9_isLike 1 rfl) (by decide) rfl ?_
  exact L 4 0 (by omega) (fun j hj => absurd hj (Nat.not_lt_zero j))

theorem ff_y {P : Nat → Prop} [DecidablePred P] {i n : Nat} (h : P i) : ff P i (n + 1) = (i : Int) := by unfold ff; rw [if_pos h]
theorem ff_n {P : Nat → Prop} [DecidablePred P] {i n : Nat} (h : ¬ P i) : ff P i (n + 1) = ff P (i + 1) n := by rw [ff]; rw [if_neg h]
set_option maxRecDepth 20000 in
set_option maxHeartbeats 1000000 in
theorem S_X9_breakAgainst {G : xG} {d rc rs : Nat} {ex : Bool} {h : xH} {Q : xQ} {wa va : Nat} {xl yl zl xl2 yl2 zl2 : List Int} (hw : h[wa]? = some (cO 9 [.ref (wa + 1), .ref (wa + 2), .ref (wa + 3)])) (w3 : 3 ≤ wa) (hl : h[wa + 1]? = some (cA 0 xl)) (hr : h[wa + 2]? = some (cA 0 yl)) (hs : h[wa + 3]? = some (cA 0 zl)) (ll : xl.length = 4) (lr : yl.length = 4) (ls : zl.length = 4) (hw2 : h[va]? = some (cO 9 [.ref (va + 1), .ref (va + 2), .ref (va + 3)])) (w32 : 3 ≤ va) (hl2 : h[va + 1]? = some (cA 0 xl2)) (hr2 : h[va + 2]? = some (cA 0 yl2)) (hs2 : h[va + 3]? = some (cA 0 zl2)) (ll2 : xl2.length = 4) (lr2 : yl2.length = 4) (ls2 : zl2.length = 4) (vr : ∀ j, xr (xl.getD j 0) ∧ xr (yl.getD j 0) ∧ xr (zl.getD j 0) ∧ xr (xl2.getD j 0) ∧ xr (yl2.getD j 0) ∧ xr (zl2.getD j 0)) (k : Q (.inl (some (vi (if zl.getD 3 0 = zl2.getD 3 0 then ff (fun j => zl.getD j 0 = zl2.getD j 0 ∧ ¬ (xl.getD j 0 = xl2.getD j 0 ∧ yl.getD j 0 = yl2.getD j 0)) 0 4 else -1)))) ex h) : X G m_X9_breakAgainst (d + 1) rc rs ex 0 (xe m_X9_breakAgainst.2.2.1 [.ref wa, .ref va]) [] h Q := by
  show X G m_X9_breakAgainst _ _ _ _ 0 [some (.ref wa), some (.ref va), none] [] h Q
  have L : ∀ (n i : Nat), i + n = 4 → Q (.inl (some (vi (ff (fun j => zl.getD j 0 = zl2.getD j 0 ∧ ¬ (xl.getD j 0 = xl2.getD j 0 ∧ yl.getD j 0 = yl2.getD j 0)) i n)))) ex h → X G m_X9_breakAgainst (d + 1) rc rs ex 15 [some (.ref wa), some (.ref va), some (vi (i : Int))] [] h Q := by
    intro n
    induction n with
    | zero =>
      intro i hi kk
      refine x_iload_n (dT U_X9_breakAgainst 9 rfl) rfl ?_
      refine x_iconst (dT U_X9_breakAgainst 10 rfl) ?_
      refine x_icmp_ge (tgt := 52) (dT U_X9_breakAgainst 11 rfl) (by decide) (by unfold xr at *; omega) (by unfold xr at *; omega) (fun c17 => ?_) (fun c17 => ?_)
      · skip
        refine x_iconst (dT U_X9_breakAgainst 30 rfl) ?_
        refine x_ireturn (dT U_X9_breakAgainst 31 rfl) rfl ?_
        exact kk
      · exfalso; omega
    | succ n ih =>
      intro i hi kk
      refine x_iload_n (dT U_X9_breakAgainst 9 rfl) rfl ?_
      refine x_iconst (dT U_X9_breakAgainst 10 rfl) ?_
      refine x_icmp_ge (tgt := 52) (dT U_X9_breakAgainst 11 rfl) (by decide) (by unfold xr at *; omega) (by unfold xr at *; omega) (fun c17 => ?_) (fun c17 => ?_)
      · exfalso; omega
      · skip
        refine x_aload_n (dT U_X9_breakAgainst 12 rfl) rfl ?_
        refine x_getfield F_X9_18 (dT U_X9_breakAgainst 13 rfl) hw (by omega) rfl ?_
        refine x_iload_n (dT U_X9_breakAgainst 14 rfl) rfl ?_
        refine x_iaload (i) (dT U_X9_breakAgainst 15 rfl) hs (by omega) rfl (by rw [ls]; omega) (by rw [ls]; omega) ?_
        refine x_aload_n (dT U_X9_breakAgainst 16 rfl) rfl ?_
        refine x_getfield F_X9_18 (dT U_X9_breakAgainst 17 rfl) hw2 (by omega) rfl ?_
        refine x_iload_n (dT U_X9_breakAgainst 18 rfl) rfl ?_
        refine x_iaload (i) (dT U_X9_breakAgainst 19 rfl) hs2 (by omega) rfl (by rw [ls2]; omega) (by rw [ls2]; omega) ?_
        refine x_icmp_ne (tgt := 46) (dT U_X9_breakAgainst 20 rfl) (by decide) (vr i).2.2.1 (vr i).2.2.2.2.2 (fun c32 => ?_) (fun c32 => ?_)
        · skip
          rw [ff_n (fun q => by have := q.1; omega)] at kk
          refine x_iinc (ls' := [some (.ref _), some (.ref _), some (vi _)]) (dT U_X9_breakAgainst 28 rfl) (by decide) rfl rfl ?_
          refine x_goto (tgt := 15) (dT U_X9_breakAgainst 29 rfl) (by decide) ?_
          exact ih (i + 1) (by omega) kk
        · skip
          refine x_aload_n (dT U_X9_breakAgainst 21 rfl) rfl ?_
          refine x_aload_n (dT U_X9_breakAgainst 22 rfl) rfl ?_
          refine x_iload_n (dT U_X9_breakAgainst 23 rfl) rfl ?_
          refine x_invokevirtual (rc' := rc) (rs' := rs) (rc2 := 0) (rs2 := 0) (As := [_, _]) (st := _) M_X9_hasOtherPair K_X9_27 (dT U_X9_breakAgainst 24 rfl) rfl rfl (by decide) rfl rfl hw (by omega) (by decide) rfl (Nat.le_of_ble_eq_true rfl) rfl (by decide) (Nat.le_of_ble_eq_true rfl) rfl rfl ?_
          refine S_X9_hasOtherPair hw w3 hl hr hs ll lr ls hw2 w32 hl2 hr2 hs2 ll2 lr2 ls2 vr (by omega) (fun hq => ?_) (fun hq => ?_)
          · refine xRet_some ?_
            refine x_if_eq (tgt := 46) (dT U_X9_breakAgainst 25 rfl) (by decide) (by unfold xr; omega) (fun q => absurd q (by omega)) (fun _ => x_iload_n (dT U_X9_breakAgainst 26 rfl) rfl (x_ireturn (dT U_X9_breakAgainst 27 rfl) rfl ?_))
            rw [ff_y (P := (fun j => zl.getD j 0 = zl2.getD j 0 ∧ ¬ (xl.getD j 0 = xl2.getD j 0 ∧ yl.getD j 0 = yl2.getD j 0))) ⟨by omega, hq⟩] at kk
            exact kk
          · refine xRet_some ?_
            refine x_if_eq (tgt := 46) (dT U_X9_breakAgainst 25 rfl) (by decide) (by unfold xr; omega) (fun _ => ?_) (fun q => absurd rfl q)
            refine x_iinc (ls' := [some (.ref _), some (.ref _), some (vi _)]) (dT U_X9_breakAgainst 28 rfl) (by decide) rfl rfl ?_
            refine x_goto (tgt := 15) (dT U_X9_breakAgainst 29 rfl) (by decide) ?_
            rw [ff_n (P := (fun j => zl.getD j 0 = zl2.getD j 0 ∧ ¬ (xl.getD j 0 = xl2.getD j 0 ∧ yl.getD j 0 = yl2.getD j 0))) (fun q => q.2 hq)] at kk
            exact ih (i + 1) (by omega) kk
  refine x_aload_n (dT U_X9_breakAgainst 0 rfl) rfl ?_
  refine x_invokevirtual (rc' := rc) (rs' := rs) (rc2 := 0) (rs2 := 0) (As := []) (st := _) M_X9_top K_X9_31 (dT U_X9_breakAgainst 1 rfl) rfl rfl (by decide) rfl rfl hw (by omega) (by decide) rfl (Nat.le_of_ble_eq_true rfl) rfl (by decide) (Nat.le_of_ble_eq_true rfl) rfl rfl ?_
  refine S_X9_top hw w3 hs ls ?_
  refine xRet_some ?_
  refine x_aload_n (dT U_X9_breakAgainst 2 rfl) rfl ?_
  refine x_invokevirtual (rc' := rc) (rs' := rs) (rc2 := 0) (rs2 := 0) (As := []) (st := _) M_X9_top K_X9_31 (dT U_X9_breakAgainst 3 rfl) rfl rfl (by decide) rfl rfl hw2 (by omega) (by decide) rfl (Nat.le_of_ble_eq_true rfl) rfl (by decide) (Nat.le_of_ble_eq_true rfl) rfl rfl ?_
  refine S_X9_top hw2 w32 hs2 ls2 ?_
  refine xRet_some ?_
  refine x_icmp_eq (tgt := 13) (dT U_X9_breakAgainst 4 rfl) (by decide) (vr 3).2.2.1 (vr 3).2.2.2.2.2 (fun c8 => ?_) (fun c8 => ?_)
  · skip
    refine x_iconst (dT U_X9_breakAgainst 7 rfl) ?_
    refine x_istore_n (ls' := [some (.ref _), some (.ref _), some (vi _)]) (dT U_X9_breakAgainst 8 rfl) (by decide) rfl ?_
    rw [if_pos (by omega)] at k
    exact L 4 0 (by omega) k
  · skip
    refine x_iconst (dT U_X9_breakAgainst 5 rfl) ?_
    refine x_ireturn (dT U_X9_breakAgainst 6 rfl) rfl ?_
    rw [if_neg (by omega)] at k
    exact k
