theorem C_L_7 : Cond.constant RL 7 (xI 16777619) ∈ lw_big := lw_bm 419 (by decide +kernel) rfl
theorem C_L_8 : Cond.constant RL 8 (xI 69069) ∈ lw_big := lw_bm 420 (by decide +kernel) rfl
theorem C_L_9 : Cond.constant RL 9 (xI 1103515245) ∈ lw_big := lw_bm 421 (by decide +kernel) rfl
theorem C_L_10 : Cond.constant RL 10 (xI 2147483647) ∈ lw_big := lw_bm 425 (by decide +kernel) rfl
abbrev gL (G : xG) : Nat := G.2.2.2.2.2.1
theorem x_ixorN {G : xG} {mt : xM} {d rc rs pc : Nat} {ex : Bool} {ls : List (Option Value)} {st : List Value} {h : xH} {Q : xQ} {a b : Int} (hd : decode mt.2.1 pc = .ok (.ixor, 1)) (k : ∀ z, X G mt d rc rs ex (pc + 1) ls (vi z :: st) h Q) : X G mt d rc rs ex pc ls (vi b :: vi a :: st) h Q := x_ixor hd (xI_of _).symm (k _)
theorem x_iandN {G : xG} {mt : xM} {d rc rs pc : Nat} {ex : Bool} {ls : List (Option Value)} {st : List Value} {h : xH} {Q : xQ} {a b : Int} (hd : decode mt.2.1 pc = .ok (.iand, 1)) (k : ∀ z, xr z → X G mt d rc rs ex (pc + 1) ls (vi z :: st) h Q) : X G mt d rc rs ex pc ls (vi b :: vi a :: st) h Q := x_iand hd (xI_of _).symm (k _ (xr_toInt _))
theorem x_iushrN {G : xG} {mt : xM} {d rc rs pc : Nat} {ex : Bool} {ls : List (Option Value)} {st : List Value} {h : xH} {Q : xQ} {a b : Int} (hd : decode mt.2.1 pc = .ok (.iushr, 1)) (k : ∀ z, X G mt d rc rs ex (pc + 1) ls (vi z :: st) h Q) : X G mt d rc rs ex pc ls (vi b :: vi a :: st) h Q :=
  fun p e s m args below meth c K H locs cells slots mc ms lsA hP hS hZ h1 h2 hl => lv_iushr K.1 K.2.1 hd (xI_of _).symm (k _ p e s m args below meth c K H locs cells slots mc ms lsA hP hS hZ h1 h2 hl)
theorem and31 (z : Int) : ∃ r : Nat, r < 2147483648 ∧ xI z &&& xI 2147483647 = xI (r : Int) := by
  refine ⟨(xI z).toBitVec.toNat % 2147483648, Nat.mod_lt _ (by decide), ?_⟩
  refine Int32.toBitVec_inj.mp ?_
  refine BitVec.eq_of_toNat_eq ?_
  rw [Int32.toBitVec_and]
  rw [BitVec.toNat_and]
  have e2 : (xI 2147483647).toBitVec.toNat = 2 ^ 31 - 1 := by decide
  rw [e2, Nat.and_two_pow_sub_one_eq_mod]
  unfold xI
  rw [Int32.toBitVec_ofInt (((_ : Nat) : Int)), BitVec.ofInt_natCast, BitVec.toNat_ofNat, Nat.mod_eq_of_lt (b := 2 ^ 32) (Nat.lt_of_lt_of_le (Nat.mod_lt _ (by decide)) (by decide))]
theorem vi_nf (z : Int) : ∃ b, xr b ∧ vi z = vi b := ⟨(xI z).toInt, xr_toInt _, by show Value.int (xI z) = Value.int (Int32.ofInt (xI z).toInt); rw [Int32.ofInt_toInt]⟩
def Up (h h2 : xH) : Prop := ∀ (b : Nat) (x : xC), h[b]? = some x → h2[b]? = some x
theorem Up.rf (h : xH) : Up h h := fun _ _ e => e
theorem Up.tr {h h2 h3 : xH} (u : Up h h2) (k : Up h2 h3) : Up h h3 := fun b x e => k b x (u b x e)
theorem Up.ap (h l : xH) : Up h (h ++ l) := fun b x e => by
  rw [List.getElem?_append_left (List.getElem?_eq_some_iff.mp e).1]; exact e
theorem Up.set {h h2 : xH} {a : Nat} {c : xC} (u : Up h h2) (ha : h.length ≤ a) : Up h (h2.set a c) := fun b x e => by
  rw [List.getElem?_set_ne (by have := (List.getElem?_eq_some_iff.mp e).1; omega)]; exact u b x e
theorem Up.len {h h2 : xH} (u : Up h h2) : h.length ≤ h2.length := by
  rcases Nat.lt_or_ge h2.length h.length with c | c
  · have e := u h2.length _ (List.getElem?_eq_getElem c)
    rw [List.getElem?_eq_none (Nat.le_refl _)] at e
    cases e
  · exact c
theorem ap_last {h : xH} {c : xC} : (h ++ [c])[h.length]? = some c := by rw [List.getElem?_append_right (Nat.le_refl _), Nat.sub_self]; rfl
theorem GW.up {p : Nat} {h h2 : xH} (w : GW p h) (u : Up h h2) : GW p h2 := by
  obtain ⟨a1, b, ⟨ml, c1, c2, c3⟩, d, e⟩ := w
  exact ⟨u _ _ a1, u _ _ b, ⟨ml, u _ _ c1, c2, c3⟩, u _ _ d, u _ _ e⟩
theorem RA.up {p ra : Nat} {R : RS} {h h2 : xH} (w : RA p ra R h) (u : Up h h2) : RA p ra R h2 := by
  obtain ⟨a, b, c, d, e⟩ := w
  exact ⟨a, u _ _ b, u _ _ c, u _ _ d, u _ _ e⟩
theorem PAt.up {p pa : Nat} {P : PS} {h h2 : xH} (w : PAt p pa P h) (u : Up h h2) : PAt p pa P h2 := by
  obtain ⟨a, b, c, d, e⟩ := w
  exact ⟨a, u _ _ b, u _ _ c, u _ _ d, u _ _ e⟩

set_option maxRecDepth 20000 in
theorem CW.up {σ : St} {h h2 : xH} (w : CW σ h) (u : Up h h2) : CW σ h2 := ⟨
  u _ _ w.c3,
  w.gw.up u,
  u _ _ w.c9,
  fun j hj => u _ _ (w.rows j hj),
  u _ _ w.c18,
  Exists.elim w.s19 (fun l q => ⟨l, u _ _ q.1, q.2⟩),
  Exists.elim w.s20 (fun l q => ⟨l, u _ _ q.1, q.2⟩),
  u _ _ w.c21,
  fun i hi => (w.runs i hi).up u,
  u _ _ w.c38,
  fun j hj => (w.pairs j hj).up u,
  u _ _ w.c47,
  u _ _ w.c48,
  u _ _ w.c49,
  u _ _ w.c50,
  u _ _ w.c51,
  u _ _ w.c52,
  u _ _ w.c53,
  u _ _ w.c54,
  u _ _ w.c55,
  u _ _ w.c56,
  Exists.elim w.s57 (fun l q => ⟨l, u _ _ q.1, q.2⟩),
  u _ _ w.c58,
  Exists.elim w.s59 (fun l q => ⟨l, u _ _ q.1, q.2⟩),
  u _ _ w.c60,
  Exists.elim w.s61 (fun l q => ⟨l, u _ _ q.1, q.2⟩),
  Exists.elim w.s62 (fun l q => ⟨l, u _ _ q.1, q.2⟩),
  Exists.elim w.s63 (fun l q => ⟨l, u _ _ q.1, q.2⟩),
  u _ _ w.c64,
  Exists.elim w.s65 (fun l q => ⟨l, u _ _ q.1, q.2⟩),
  Exists.elim w.s66 (fun l q => ⟨l, u _ _ q.1, q.2⟩),
  Exists.elim w.s67 (fun l q => ⟨l, u _ _ q.1, q.2⟩),
  Exists.elim w.s68 (fun l q => ⟨l, u _ _ q.1, q.2⟩),
  Exists.elim w.s69 (fun l q => ⟨l, u _ _ q.1, q.2⟩)⟩

set_option maxRecDepth 20000 in
set_option maxHeartbeats 1000000 in
theorem S_L_cell {G : xG} {d rc rs : Nat} {ex : Bool} {h : xH} {Q : xQ} {k : Nat} (hL : gL G < 100000) (hk : k < 100000) (kk : ∀ z, Q (.inl (some (vi z))) ex h) : X G m_L_cell d rc rs ex 0 (xe m_L_cell.2.2.1 [.ref 0, vi (k : Int)]) [] h Q := by
  show X G m_L_cell _ _ _ _ 0 [some (.ref 0), some (vi (k : Int)), none, none, none, none, none] [] h Q
  have L : ∀ (n i : Nat) (z : Int), i + n = gL G → X G m_L_cell d rc rs ex 19 [some (.ref 0), some (vi (k : Int)), some (vi z), some (.ref 0), some (vi ((gL G : Nat) : Int)), some (vi (i : Int)), none] [] h Q := by
    intro n
    induction n with
    | zero =>
      intro i z hi
      refine x_iload (dT U_L_cell 14 rfl) rfl ?_
      refine x_iload (dT U_L_cell 15 rfl) rfl ?_
      refine x_icmp_ge (tgt := 49) (dT U_L_cell 16 rfl) (by decide) (by unfold xr; omega) (by show xr ((gL G : Nat) : Int); unfold xr; omega) (fun c23 => ?_) (fun c23 => ?_)
      · skip
        refine x_iload_n (dT U_L_cell 31 rfl) rfl ?_
        refine x_bipush (dT U_L_cell 32 rfl) (by decide) ?_
        refine x_iushrN (dT U_L_cell 33 rfl) (fun z52 => ?_)
        refine x_iconst (dT U_L_cell 34 rfl) ?_
        refine x_iandN (dT U_L_cell 35 rfl) (fun z54 hz54 => ?_)
        refine x_if_ne (tgt := 79) (dT U_L_cell 36 rfl) (by decide) hz54 (fun c55 => ?_) (fun c55 => ?_)
        · skip
          refine x_iload_n (dT U_L_cell 51 rfl) rfl ?_
          refine x_ldc C_L_8 (dT U_L_cell 52 rfl) ?_
          refine x_iload_n (dT U_L_cell 53 rfl) rfl ?_
          refine x_sipush (dT U_L_cell 54 rfl) (by decide) ?_
          refine x_iadd (dT U_L_cell 55 rfl) ?_
          refine x_imul (dT U_L_cell 56 rfl) ?_
          refine x_ixorN (dT U_L_cell 57 rfl) (fun z88 => ?_)
          refine x_istore_n (ls' := [some (.ref _), some (vi _), some (vi _), some (vi _), some (vi _), some (vi _), none]) (dT U_L_cell 58 rfl) (by decide) rfl ?_
          refine x_iload_n (dT U_L_cell 59 rfl) rfl ?_
          refine x_iload_n (dT U_L_cell 60 rfl) rfl ?_
          refine x_bipush (dT U_L_cell 61 rfl) (by decide) ?_
          refine x_iushrN (dT U_L_cell 62 rfl) (fun z94 => ?_)
          refine x_ixorN (dT U_L_cell 63 rfl) (fun z95 => ?_)
          refine x_ldc C_L_9 (dT U_L_cell 64 rfl) ?_
          refine x_imul (dT U_L_cell 65 rfl) ?_
          refine x_istore_n (ls' := [some (.ref _), some (vi _), some (vi _), some (vi _), some (vi _), some (vi _), none]) (dT U_L_cell 66 rfl) (by decide) rfl ?_
          refine x_iload_n (dT U_L_cell 67 rfl) rfl ?_
          refine x_iload_n (dT U_L_cell 68 rfl) rfl ?_
          refine x_bipush (dT U_L_cell 69 rfl) (by decide) ?_
          refine x_iushrN (dT U_L_cell 70 rfl) (fun z104 => ?_)
          refine x_ixorN (dT U_L_cell 71 rfl) (fun z105 => ?_)
          refine x_ireturn (dT U_L_cell 72 rfl) rfl ?_
          exact kk _
        · skip
          refine x_iload_n (dT U_L_cell 37 rfl) rfl ?_
          refine x_aload_n (dT U_L_cell 38 rfl) rfl ?_
          refine x_slen (by show gL G < 2147483648; omega) (dT U_L_cell 39 rfl) ?_
          refine x_icmp_ge (tgt := 70) (dT U_L_cell 40 rfl) (by decide) (by unfold xr; omega) (by show xr ((gL G : Nat) : Int); unfold xr; omega) (fun c61 => ?_) (fun c61 => ?_)
          · skip
            refine x_sipush (dT U_L_cell 45 rfl) (by decide) ?_
            refine x_iload_n (dT U_L_cell 46 rfl) rfl ?_
            refine x_imul (dT U_L_cell 47 rfl) ?_
            refine x_bipush (dT U_L_cell 48 rfl) (by decide) ?_
            refine x_iadd (dT U_L_cell 49 rfl) ?_
            refine x_ireturn (dT U_L_cell 50 rfl) rfl ?_
            exact kk _
          · skip
            refine x_aload_n (dT U_L_cell 41 rfl) rfl ?_
            refine x_iload_n (dT U_L_cell 42 rfl) rfl ?_
            refine x_sld (k) (by show gL G < 2147483648; omega) (dT U_L_cell 43 rfl) rfl (by show k < G.2.2.2.2.2.1; omega) ?_
            refine x_goto (tgt := 78) (dT U_L_cell 44 rfl) (by decide) ?_
            refine x_ireturn (dT U_L_cell 50 rfl) rfl ?_
            exact kk _
      · exfalso; omega
    | succ n ih =>
      intro i z hi
      refine x_iload (dT U_L_cell 14 rfl) rfl ?_
      refine x_iload (dT U_L_cell 15 rfl) rfl ?_
      refine x_icmp_ge (tgt := 49) (dT U_L_cell 16 rfl) (by decide) (by unfold xr; omega) (by show xr ((gL G : Nat) : Int); unfold xr; omega) (fun c23 => ?_) (fun c23 => ?_)
      · exfalso; omega
      · skip
        refine x_aload_n (dT U_L_cell 17 rfl) rfl ?_
        refine x_iload (dT U_L_cell 18 rfl) rfl ?_
        refine x_sld (i) (by show gL G < 2147483648; omega) (dT U_L_cell 19 rfl) rfl (by show i < gL G; omega) ?_
        refine x_istore (ls' := [some (.ref _), some (vi _), some (vi _), some (.ref _), some (vi _), some (vi _), some (vi _)]) (dT U_L_cell 20 rfl) (by decide) rfl ?_
        refine x_iload_n (dT U_L_cell 21 rfl) rfl ?_
        refine x_iload (dT U_L_cell 22 rfl) rfl ?_
        refine x_ixorN (dT U_L_cell 23 rfl) (fun z35 => ?_)
        refine x_ldc C_L_7 (dT U_L_cell 24 rfl) ?_
        refine x_imul (dT U_L_cell 25 rfl) ?_
        refine x_bipush (dT U_L_cell 26 rfl) (by decide) ?_
        refine x_iadd (dT U_L_cell 27 rfl) ?_
        refine x_istore_n (ls' := [some (.ref _), some (vi _), some (vi _), some (.ref _), some (vi _), some (vi _), some (vi _)]) (dT U_L_cell 28 rfl) (by decide) rfl ?_
        refine x_iinc (ls' := [some (.ref _), some (vi _), some (vi _), some (.ref _), some (vi _), some (vi _), some (vi _)]) (dT U_L_cell 29 rfl) (by decide) rfl rfl ?_
        refine x_goto (tgt := 19) (dT U_L_cell 30 rfl) (by decide) ?_
        refine x_drop ?_ (ih (i + 1) (z35 * 16777619 + 7) (by omega))
        repeat (first | exact trivial | refine ⟨rfl, ?_⟩ | refine ⟨trivial, ?_⟩)
  refine x_sipush (dT U_L_cell 0 rfl) (by decide) ?_
  refine x_bipush (dT U_L_cell 1 rfl) (by decide) ?_
  refine x_aload_n (dT U_L_cell 2 rfl) rfl ?_
  refine x_slen (by show gL G < 2147483648; omega) (dT U_L_cell 3 rfl) ?_
  refine x_imul (dT U_L_cell 4 rfl) ?_
  refine x_iadd (dT U_L_cell 5 rfl) ?_
  refine x_istore_n (ls' := [some (.ref _), some (vi _), some (vi _), none, none, none, none]) (dT U_L_cell 6 rfl) (by decide) rfl ?_
  refine x_aload_n (dT U_L_cell 7 rfl) rfl ?_
  refine x_astore_n (ls' := [some (.ref _), some (vi _), some (vi _), some (.ref _), none, none, none]) (dT U_L_cell 8 rfl) (by decide) rfl ?_
  refine x_aload_n (dT U_L_cell 9 rfl) rfl ?_
  refine x_slen (by show gL G < 2147483648; omega) (dT U_L_cell 10 rfl) ?_
  refine x_istore (ls' := [some (.ref _), some (vi _), some (vi _), some (.ref _), some (vi _), none, none]) (dT U_L_cell 11 rfl) (by decide) rfl ?_
  refine x_iconst (dT U_L_cell 12 rfl) ?_
  refine x_istore (ls' := [some (.ref _), some (vi _), some (vi _), some (.ref _), some (vi _), some (vi _), none]) (dT U_L_cell 13 rfl) (by decide) rfl ?_
  exact L (gL G) 0 _ (by omega)

set_option maxRecDepth 20000 in
set_option maxHeartbeats 1000000 in
theorem S_L_chosen {G : xG} {d rc rs : Nat} {ex : Bool} {h : xH} {Q : xQ} {z n : Int} (hn : 0 < n ∧ n < 100000) (kk : ∀ r, 0 ≤ r ∧ r < n → Q (.inl (some (vi r))) ex h) : X G m_L_chosen d rc rs ex 0 (xe m_L_chosen.2.2.1 [vi z, vi n]) [] h Q := by
  show X G m_L_chosen _ _ _ _ 0 [some (vi z), some (vi n)] [] h Q
  obtain ⟨r31, hr31, e31⟩ := and31 z
  refine x_iload_n (dT U_L_chosen 0 rfl) rfl ?_
  refine x_ldc C_L_10 (dT U_L_chosen 1 rfl) ?_
  refine x_iand (r := (r31 : Int)) (dT U_L_chosen 2 rfl) e31 ?_
  refine x_iload_n (dT U_L_chosen 3 rfl) rfl ?_
  refine x_irem (dT U_L_chosen 4 rfl) (by unfold xr; omega) (by unfold xr; omega) (by omega) ?_
  have e5 : (r31 : Int).tmod n = (r31 : Int) % n := Int.tmod_eq_emod_of_nonneg (by omega)
  have b5 := modb (z := (r31 : Int)) (p := n) (by omega)
  rw [e5]
  refine x_ireturn (dT U_L_chosen 5 rfl) rfl ?_
  exact kk _ b5

theorem pow_s (y q : Int) (i : Nat) : y ^ i % q * y % q = y ^ (i + 1) % q := by
  rw [Int.pow_succ, Int.mul_emod (y ^ i), Int.mul_emod (y ^ i % q), Int.emod_emod_of_dvd _ (Int.dvd_refl q)]

set_option maxRecDepth 20000 in
set_option maxHeartbeats 1000000 in
theorem S_L_power {G : xG} {d rc rs : Nat} {ex : Bool} {h : xH} {Q : xQ} {y q : Int} {n : Nat} (hy : 0 ≤ y ∧ y < 1000) (hq : 1 < q ∧ q < 1000) (hn : n < 1000) (kk : Q (.inl (some (vi (y ^ n % q)))) ex h) : X G m_L_power d rc rs ex 0 (xe m_L_power.2.2.1 [vi y, vi (n : Int), vi q]) [] h Q := by
  show X G m_L_power _ _ _ _ 0 [some (vi y), some (vi (n : Int)), some (vi q), none, none] [] h Q
  have L : ∀ (n9 i : Nat), i + n9 = n → X G m_L_power d rc rs ex 5 [some (vi y), some (vi (n : Int)), some (vi q), some (vi (y ^ i % q)), some (vi (i : Int))] [] h Q := by
    intro n9
    induction n9 with
    | zero =>
      intro i hi 
      refine x_iload (dT U_L_power 4 rfl) rfl ?_
      refine x_iload_n (dT U_L_power 5 rfl) rfl ?_
      refine x_icmp_ge (tgt := 23) (dT U_L_power 6 rfl) (by decide) (by unfold xr; omega) (by unfold xr; omega) (fun c8 => ?_) (fun c8 => ?_)
      · skip
        refine x_iload_n (dT U_L_power 15 rfl) rfl ?_
        have e0 : i = n := by omega
        subst e0
        refine x_ireturn (dT U_L_power 16 rfl) rfl ?_
        exact kk
      · exfalso; omega
    | succ n9 ih =>
      intro i hi 
      refine x_iload (dT U_L_power 4 rfl) rfl ?_
      refine x_iload_n (dT U_L_power 5 rfl) rfl ?_
      refine x_icmp_ge (tgt := 23) (dT U_L_power 6 rfl) (by decide) (by unfold xr; omega) (by unfold xr; omega) (fun c8 => ?_) (fun c8 => ?_)
      · exfalso; omega
      · skip
        refine x_iload_n (dT U_L_power 7 rfl) rfl ?_
        refine x_iload_n (dT U_L_power 8 rfl) rfl ?_
        refine x_imul (dT U_L_power 9 rfl) ?_
        have b1 := modb (z := y ^ i) (p := q) (by omega)
        have b2 : 0 ≤ y ^ i % q * y := Int.mul_nonneg b1.1 (by omega)
        have b3 : y ^ i % q * y ≤ 1000 * y := Int.mul_le_mul_of_nonneg_right (by omega) (by omega)
        refine x_iload_n (dT U_L_power 10 rfl) rfl ?_
        refine x_irem (dT U_L_power 11 rfl) (by unfold xr; omega) (by unfold xr; omega) (by omega) ?_
        rw [Int.tmod_eq_emod_of_nonneg b2, pow_s]
        refine x_istore_n (ls' := [some (vi _), some (vi _), some (vi _), some (vi _), some (vi _)]) (dT U_L_power 12 rfl) (by decide) rfl ?_
        refine x_iinc (ls' := [some (vi _), some (vi _), some (vi _), some (vi _), some (vi _)]) (dT U_L_power 13 rfl) (by decide) rfl rfl ?_
        refine x_goto (tgt := 5) (dT U_L_power 14 rfl) (by decide) ?_
        exact ih (i + 1) (by omega)
  refine x_iconst (dT U_L_power 0 rfl) ?_
  refine x_istore_n (ls' := [some (vi _), some (vi _), some (vi _), some (vi _), none]) (dT U_L_power 1 rfl) (by decide) rfl ?_
  refine x_iconst (dT U_L_power 2 rfl) ?_
  refine x_istore (ls' := [some (vi _), some (vi _), some (vi _), some (vi _), some (vi _)]) (dT U_L_power 3 rfl) (by decide) rfl ?_
  have q5 := L n 0 (by omega)
  rw [Int.pow_zero, Int.emod_eq_of_lt (by omega) (by omega)] at q5
  exact q5

theorem tmod_emod (z p : Int) : z.tmod p % p = z % p := by
  have h := Int.mul_tdiv_add_tmod z p
  refine emq (-(z.tdiv p)) ?_
  rw [Int.mul_neg]
  omega

set_option maxRecDepth 20000 in
set_option maxHeartbeats 1000000 in
theorem S_L_rest {G : xG} {d rc rs : Nat} {ex : Bool} {h : xH} {Q : xQ} {z p : Int} (hz : xr z) (hp : 2 < p ∧ p < 24) (kk : Q (.inl (some (vi (z % p)))) ex h) : X G m_L_rest d rc rs ex 0 (xe m_L_rest.2.2.1 [vi z, vi p]) [] h Q := by
  show X G m_L_rest _ _ _ _ 0 [some (vi z), some (vi p)] [] h Q
  refine x_iload_n (dT U_L_rest 0 rfl) rfl ?_
  refine x_iload_n (dT U_L_rest 1 rfl) rfl ?_
  refine x_irem (dT U_L_rest 2 rfl) hz (by unfold xr; omega) (by omega) ?_
  have t0 : -p < z.tmod p := Int.lt_tmod_of_pos z (by omega)
  have t1 : z.tmod p < p := Int.tmod_lt_of_pos z (by omega)
  refine x_iload_n (dT U_L_rest 3 rfl) rfl ?_
  refine x_iadd (dT U_L_rest 4 rfl) ?_
  refine x_iload_n (dT U_L_rest 5 rfl) rfl ?_
  refine x_irem (dT U_L_rest 6 rfl) (by unfold xr; omega) (by unfold xr; omega) (by omega) ?_
  have e7 : (z.tmod p + p).tmod p = z % p := by
    rw [Int.tmod_eq_emod_of_nonneg (by omega), Int.add_emod_right]
    exact tmod_emod z p
  rw [e7]
  refine x_ireturn (dT U_L_rest 7 rfl) rfl ?_
  exact kk

set_option maxRecDepth 20000 in
set_option maxHeartbeats 1000000 in
theorem S_L_inner {G : xG} {d rc rs : Nat} {ex : Bool} {h : xH} {Q : xQ} {p : Int} {a b : Nat} {al bl : List Int} (hp : 2 < p ∧ p < 24) (ha : h[a]? = some (cA 0 al)) (a3 : 3 ≤ a) (la : Fl p al) (hb : h[b]? = some (cA 0 bl)) (b3 : 3 ≤ b) (lb : Fl p bl) (kk : Q (.inl (some (vi (inn al bl % p)))) ex h) : X G m_L_inner d rc rs ex 0 (xe m_L_inner.2.2.1 [.ref a, .ref b, vi p]) [] h Q := by
  show X G m_L_inner _ _ _ _ 0 [some (.ref a), some (.ref b), some (vi p), none, none] [] h Q
  have L : ∀ (n9 i : Nat), i + n9 = 8 → X G m_L_inner d rc rs ex 5 [some (.ref a), some (.ref b), some (vi p), some (vi (sm (fun j => al.getD j 0 * bl.getD j 0) i % p)), some (vi (i : Int))] [] h Q := by
    intro n9
    induction n9 with
    | zero =>
      intro i hi 
      refine x_iload (dT U_L_inner 4 rfl) rfl ?_
      refine x_bipush (dT U_L_inner 5 rfl) (by decide) ?_
      refine x_icmp_ge (tgt := 32) (dT U_L_inner 6 rfl) (by decide) (by unfold xr; omega) (by unfold xr; omega) (fun c9 => ?_) (fun c9 => ?_)
      · skip
        refine x_iload_n (dT U_L_inner 21 rfl) rfl ?_
        have e0 : i = 8 := by omega
        subst e0
        refine x_ireturn (dT U_L_inner 22 rfl) rfl ?_
        exact kk
      · exfalso; omega
    | succ n9 ih =>
      intro i hi 
      refine x_iload (dT U_L_inner 4 rfl) rfl ?_
      refine x_bipush (dT U_L_inner 5 rfl) (by decide) ?_
      refine x_icmp_ge (tgt := 32) (dT U_L_inner 6 rfl) (by decide) (by unfold xr; omega) (by unfold xr; omega) (fun c9 => ?_) (fun c9 => ?_)
      · exfalso; omega
      · skip
        refine x_iload_n (dT U_L_inner 7 rfl) rfl ?_
        refine x_aload_n (dT U_L_inner 8 rfl) rfl ?_
        refine x_iload (dT U_L_inner 9 rfl) rfl ?_
        refine x_iaload (i) (dT U_L_inner 10 rfl) ha a3 rfl (by have := la.1; omega) (by have := la.1; omega) ?_
        refine x_aload_n (dT U_L_inner 11 rfl) rfl ?_
        refine x_iload (dT U_L_inner 12 rfl) rfl ?_
        refine x_iaload (i) (dT U_L_inner 13 rfl) hb b3 rfl (by have := lb.1; omega) (by have := lb.1; omega) ?_
        refine x_imul (dT U_L_inner 14 rfl) ?_
        have b1 := modb (z := sm (fun j => al.getD j 0 * bl.getD j 0) i) (p := p) (by omega)
        have b2 := la.2 i
        have b3 := lb.2 i
        have b4 := mulg (a := al.getD i 0) (b := bl.getD i 0) (m := 23) (n := 23) (by omega) (by omega)
        refine x_iadd (dT U_L_inner 15 rfl) ?_
        refine x_iload_n (dT U_L_inner 16 rfl) rfl ?_
        refine x_irem (dT U_L_inner 17 rfl) (by unfold xr; omega) (by unfold xr; omega) (by omega) ?_
        rw [Int.tmod_eq_emod_of_nonneg (by omega), am_l]
        refine x_istore_n (ls' := [some (.ref _), some (.ref _), some (vi _), some (vi _), some (vi _)]) (dT U_L_inner 18 rfl) (by decide) rfl ?_
        refine x_iinc (ls' := [some (.ref _), some (.ref _), some (vi _), some (vi _), some (vi _)]) (dT U_L_inner 19 rfl) (by decide) rfl rfl ?_
        refine x_goto (tgt := 5) (dT U_L_inner 20 rfl) (by decide) ?_
        exact ih (i + 1) (by omega)
  refine x_iconst (dT U_L_inner 0 rfl) ?_
  refine x_istore_n (ls' := [some (.ref _), some (.ref _), some (vi _), some (vi _), none]) (dT U_L_inner 1 rfl) (by decide) rfl ?_
  refine x_iconst (dT U_L_inner 2 rfl) ?_
  refine x_istore (ls' := [some (.ref _), some (.ref _), some (vi _), some (vi _), some (vi _)]) (dT U_L_inner 3 rfl) (by decide) rfl ?_
  have q5 := L 8 0 (by omega)
  exact q5

theorem rep0 (n j : Nat) : (List.replicate n (0 : Int)).getD j 0 = 0 := by
  rw [List.getD_eq_getElem?_getD, List.getElem?_replicate]
  split <;> rfl

theorem Fl_0 {p : Int} (hp : 0 < p) : Fl p (List.replicate 8 0) := ⟨rfl, fun j => by rw [rep0]; omega⟩

set_option maxRecDepth 20000 in
set_option maxHeartbeats 1000000 in
theorem S_L_made {G : xG} {d rc rs : Nat} {ex : Bool} {h : xH} {Q : xQ} {p : Int} {f m : Nat} (hL : gL G < 100000) (h4 : 4 ≤ h.length) (hf : f < 1000) (hp : 2 < p ∧ p < 24) (hm : m ≤ 8) (kk : ∀ (h2 : xH) (a : Nat) (l : List Int), Up h h2 → h.length ≤ a → a + 1 = h2.length → h2[a]? = some (cA 0 l) → Fl p l → (∀ j, m ≤ j → l.getD j 0 = 0) → Q (.inl (some (.ref a))) true h2) : X G m_L_made (d + 1) (rc + 1) (rs + 8) ex 0 (xe m_L_made.2.2.1 [.ref 0, vi (f : Int), vi p, vi (m : Int)]) [] h Q := by
  show X G m_L_made _ _ _ _ 0 [some (.ref 0), some (vi (f : Int)), some (vi p), some (vi (m : Int)), none, none] [] h Q
  have L : ∀ (a : Nat), h.length ≤ a → ∀ (n9 i : Nat), i + n9 = m → ∀ (h9 : xH) (l : List Int), Up h h9 → a + 1 = h9.length → h9[a]? = some (cA 0 l) → Fl p l → (∀ j, i ≤ j → l.getD j 0 = 0) → X G m_L_made (d + 1) rc rs true 9 [some (.ref 0), some (vi (f : Int)), some (vi p), some (vi (m : Int)), some (.ref a), some (vi (i : Int))] [] h9 Q := by
    intro a hla n9
    induction n9 with
    | zero =>
      intro i hi h9 l u9 hlen ha la lz
      refine x_iload (dT U_L_made 5 rfl) rfl ?_
      refine x_iload_n (dT U_L_made 6 rfl) rfl ?_
      refine x_icmp_ge (tgt := 38) (dT U_L_made 7 rfl) (by decide) (by unfold xr; omega) (by unfold xr; omega) (fun c12 => ?_) (fun c12 => ?_)
      · skip
        refine x_aload (dT U_L_made 20 rfl) rfl ?_
        refine x_areturn (dT U_L_made 21 rfl) rfl (Or.inr ⟨_, rfl⟩) ?_
        exact kk h9 a l u9 hla hlen ha la (fun j hj => lz j (by omega))
      · exfalso; omega
    | succ n9 ih =>
      intro i hi h9 l u9 hlen ha la lz
      refine x_iload (dT U_L_made 5 rfl) rfl ?_
      refine x_iload_n (dT U_L_made 6 rfl) rfl ?_
      refine x_icmp_ge (tgt := 38) (dT U_L_made 7 rfl) (by decide) (by unfold xr; omega) (by unfold xr; omega) (fun c12 => ?_) (fun c12 => ?_)
      · exfalso; omega
      · skip
        refine x_aload (dT U_L_made 8 rfl) rfl ?_
        refine x_iload (dT U_L_made 9 rfl) rfl ?_
        refine x_aload_n (dT U_L_made 10 rfl) rfl ?_
        refine x_iload_n (dT U_L_made 11 rfl) rfl ?_
        refine x_iload (dT U_L_made 12 rfl) rfl ?_
        refine x_iadd (dT U_L_made 13 rfl) ?_
        refine x_invokestatic (rc' := rc) (rs' := rs) (rc2 := 0 + 0) (rs2 := 0 + 0) (As := [_, _]) (st := _) M_L_cell K_L_221 (dT U_L_made 14 rfl) rfl rfl rfl rfl (Nat.le_of_ble_eq_true rfl) rfl (by decide) (Nat.le_of_ble_eq_true rfl) (by omega) (by omega) ?_
        rw [show (f : Int) + (i : Int) = ((f + i : Nat) : Int) by omega]
        refine S_L_cell hL (by omega) (fun z24 => ?_)
        refine xRet_some ?_
        refine x_iload_n (dT U_L_made 15 rfl) rfl ?_
        refine x_invokestatic (rc' := rc) (rs' := rs) (rc2 := 0 + 0) (rs2 := 0 + 0) (As := [_, _]) (st := _) M_L_chosen K_L_225 (dT U_L_made 16 rfl) rfl rfl rfl rfl (Nat.le_of_ble_eq_true rfl) rfl (by decide) (Nat.le_of_ble_eq_true rfl) (by omega) (by omega) ?_
        refine S_L_chosen (by omega) (fun r28 hr28 => ?_)
        refine xRet_some ?_
        refine x_iastore (i) (dT U_L_made 17 rfl) ha (by omega) rfl (by have := la.1; omega) (by have := la.1; omega) ?_
        refine x_iinc (ls' := [some (.ref _), some (vi _), some (vi _), some (vi _), some (.ref _), some (vi _)]) (dT U_L_made 18 rfl) (by decide) rfl rfl ?_
        refine x_goto (tgt := 9) (dT U_L_made 19 rfl) (by decide) ?_
        refine ih (i + 1) (by omega) (h9.set a (cA 0 (l.set i r28))) (l.set i r28) (u9.set hla) (by rw [List.length_set]; exact hlen) (hset_eq ha) (la.set (by omega)) (fun j hj => ?_)
        rw [gset_n (by omega)]
        exact lz j (by omega)
  refine x_bipush (dT U_L_made 0 rfl) (by decide) ?_
  refine x_pad (by omega) (fun n8 => ?_)
  refine x_newarrayI (rc' := rc) (rs' := rs) 8 (Or.inl ⟨rfl, rfl⟩) w_ac_int (dT U_L_made 1 rfl) rfl (by omega) (by omega) (by omega) ?_
  refine x_astore (ls' := [some (.ref _), some (vi _), some (vi _), some (vi _), some (.ref _), none]) (dT U_L_made 2 rfl) (by decide) rfl ?_
  refine x_iconst (dT U_L_made 3 rfl) ?_
  refine x_istore (ls' := [some (.ref _), some (vi _), some (vi _), some (vi _), some (.ref _), some (vi _)]) (dT U_L_made 4 rfl) (by decide) rfl ?_
  refine L _ (by rw [List.length_append]; omega) m 0 (by omega) _ _ ((Up.ap h _).tr (Up.ap _ _)) (by rw [List.length_append (bs := [_])]; rfl) ap_last (Fl_0 (by omega)) (fun j _ => rep0 8 j)

theorem row8_is {p : Int} {l : List Int} (h : Fl p l) : row8 p (l.getD 0 0) (l.getD 1 0) (l.getD 2 0) (l.getD 3 0) (l.getD 4 0) (l.getD 5 0) (l.getD 6 0) (l.getD 7 0) = l := by
  have e : ∀ j, l.getD j 0 % p = l.getD j 0 := fun j => Int.emod_eq_of_lt (h.2 j).1 (h.2 j).2
  unfold row8
  rw [e, e, e, e, e, e, e, e]
  refine list_ext (by rw [h.1]; rfl) (fun j hj => ?_)
  have h8 : j < 8 := hj
  rcases (show j = 0 ∨ j = 1 ∨ j = 2 ∨ j = 3 ∨ j = 4 ∨ j = 5 ∨ j = 6 ∨ j = 7 by omega) with rfl | rfl | rfl | rfl | rfl | rfl | rfl | rfl <;> rfl

set_option maxRecDepth 20000 in
set_option maxHeartbeats 1000000 in
theorem S_L_lays {G : xG} {d rc rs : Nat} {ex : Bool} {h : xH} {Q : xQ} {σ : St} {row : Int} {a : Nat} {al : List Int} (w : CW σ h) (v : INV σ) (hr : inb row 8) (ha : h[a]? = some (cA 0 al)) (a3 : 3 ≤ a) (la : Fl (σ.p : Int) al) (kk : ∀ z9, xr z9 → ∀ h2, FC h h2 → CW (σ.sRow row.toNat al) h2 → INV (σ.sRow row.toNat al) → Q (.inl (some (vl z9))) ex h2) : X G m_L_lays (d + 9) (rc + 1) (rs + 6) ex 0 (xe m_L_lays.2.2.1 [.ref 3, vi row, .ref a]) [] h Q := by
  show X G m_L_lays _ _ _ _ 0 [some (.ref 3), some (vi row), some (.ref a)] [] h Q
  have hp := PRb v.p
  refine x_aload_n (dT U_L_lays 0 rfl) rfl ?_
  refine x_iload_n (dT U_L_lays 1 rfl) rfl ?_
  refine x_aload_n (dT U_L_lays 2 rfl) rfl ?_
  refine x_iconst (dT U_L_lays 3 rfl) ?_
  refine x_iaload (0) (dT U_L_lays 4 rfl) ha a3 rfl (by have := la.1; omega) (by have := la.1; omega) ?_
  refine x_aload_n (dT U_L_lays 5 rfl) rfl ?_
  refine x_iconst (dT U_L_lays 6 rfl) ?_
  refine x_iaload (1) (dT U_L_lays 7 rfl) ha a3 rfl (by have := la.1; omega) (by have := la.1; omega) ?_
  refine x_aload_n (dT U_L_lays 8 rfl) rfl ?_
  refine x_iconst (dT U_L_lays 9 rfl) ?_
  refine x_iaload (2) (dT U_L_lays 10 rfl) ha a3 rfl (by have := la.1; omega) (by have := la.1; omega) ?_
  refine x_aload_n (dT U_L_lays 11 rfl) rfl ?_
  refine x_iconst (dT U_L_lays 12 rfl) ?_
  refine x_iaload (3) (dT U_L_lays 13 rfl) ha a3 rfl (by have := la.1; omega) (by have := la.1; omega) ?_
  refine x_aload_n (dT U_L_lays 14 rfl) rfl ?_
  refine x_iconst (dT U_L_lays 15 rfl) ?_
  refine x_iaload (4) (dT U_L_lays 16 rfl) ha a3 rfl (by have := la.1; omega) (by have := la.1; omega) ?_
  refine x_aload_n (dT U_L_lays 17 rfl) rfl ?_
  refine x_iconst (dT U_L_lays 18 rfl) ?_
  refine x_iaload (5) (dT U_L_lays 19 rfl) ha a3 rfl (by have := la.1; omega) (by have := la.1; omega) ?_
  refine x_aload_n (dT U_L_lays 20 rfl) rfl ?_
  refine x_bipush (dT U_L_lays 21 rfl) (by decide) ?_
  refine x_iaload (6) (dT U_L_lays 22 rfl) ha a3 rfl (by have := la.1; omega) (by have := la.1; omega) ?_
  refine x_aload_n (dT U_L_lays 23 rfl) rfl ?_
  refine x_bipush (dT U_L_lays 24 rfl) (by decide) ?_
  refine x_iaload (7) (dT U_L_lays 25 rfl) ha a3 rfl (by have := la.1; omega) (by have := la.1; omega) ?_
  refine x_invokestaticT (rc' := rc) (rs' := rs) (rc2 := 0 + 1) (rs2 := 0 + 6) (As := [_, _, _, _, _, _, _, _, _, _]) (st := _) M_L_fill K_L_228 (dT U_L_lays 26 rfl) rfl (by decide) rfl rfl (Nat.le_of_ble_eq_true rfl) rfl (by decide) (Nat.le_of_ble_eq_true rfl) (by omega) (by omega) ?_
  refine S_L_fill w v (by unfold xr; omega) (F24 hp la 0) (F24 hp la 1) (F24 hp la 2) (F24 hp la 3) (F24 hp la 4) (F24 hp la 5) (F24 hp la 6) (F24 hp la 7) (fun z => absurd hr z) (fun _ z9 _ hz9 h2 fc w2 v2 => ?_)
  refine xRet_some ?_
  rw [row8_is la] at w2 v2
  refine x_lreturn (dT U_L_lays 27 rfl) rfl ?_
  exact kk z9 hz9 h2 fc w2 v2

theorem xrl_of {z : Int} (h : xr z) : xrl z := by unfold xr at h; unfold xrl; omega

set_option maxRecDepth 20000 in
set_option maxHeartbeats 1000000 in
theorem S_L_isRow {G : xG} {d rc rs : Nat} {ex : Bool} {h : xH} {Q : xQ} {σ : St} {row : Int} {a : Nat} {al : List Int} (w : CW σ h) (v : INV σ) (hr : inb row 8) (ha : h[a]? = some (cA 0 al)) (a3 : 3 ≤ a) (la : Fl (σ.p : Int) al) (hs : σ.rw row.toNat = al) (kk : Q (.inl (some (vi 1))) ex h) : X G m_L_isRow (d + 9) (rc + 16) (rs + 96) ex 0 (xe m_L_isRow.2.2.1 [.ref 3, vi row, .ref a]) [] h Q := by
  show X G m_L_isRow _ _ _ _ 0 [some (.ref 3), some (vi row), some (.ref a), none] [] h Q
  have hp := PRb v.p
  have L : ∀ (n9 i : Nat), i + n9 = 8 → X G m_L_isRow (d + 9) (rc + 2 * n9) (rs + 12 * n9) ex 2 [some (.ref 3), some (vi row), some (.ref a), some (vi (i : Int))] [] h Q := by
    intro n9
    induction n9 with
    | zero =>
      intro i hi 
      refine x_iload_n (dT U_L_isRow 2 rfl) rfl ?_
      refine x_bipush (dT U_L_isRow 3 rfl) (by decide) ?_
      refine x_icmp_ge (tgt := 30) (dT U_L_isRow 4 rfl) (by decide) (by unfold xr; omega) (by unfold xr; omega) (fun c5 => ?_) (fun c5 => ?_)
      · skip
        refine x_iconst (dT U_L_isRow 19 rfl) ?_
        refine x_zreturn (dT U_L_isRow 20 rfl) rfl (by omega) ?_
        exact kk
      · exfalso; omega
    | succ n9 ih =>
      intro i hi 
      refine x_iload_n (dT U_L_isRow 2 rfl) rfl ?_
      refine x_bipush (dT U_L_isRow 3 rfl) (by decide) ?_
      refine x_icmp_ge (tgt := 30) (dT U_L_isRow 4 rfl) (by decide) (by unfold xr; omega) (by unfold xr; omega) (fun c5 => ?_) (fun c5 => ?_)
      · exfalso; omega
      · skip
        refine x_aload_n (dT U_L_isRow 5 rfl) rfl ?_
        refine x_iload_n (dT U_L_isRow 6 rfl) rfl ?_
        refine x_iload_n (dT U_L_isRow 7 rfl) rfl ?_
        refine x_invokestaticT (rc' := rc + 2 * n9) (rs' := rs + 12 * n9) (rc2 := 0 + 2) (rs2 := 0 + 12) (As := [_, _, _]) (st := _) M_L_get K_L_231 (dT U_L_isRow 8 rfl) rfl (by decide) rfl rfl (Nat.le_of_ble_eq_true rfl) rfl (by decide) (Nat.le_of_ble_eq_true rfl) (by omega) (by omega) ?_
        refine S_L_get w v (by unfold xr; omega) (by unfold xr; omega) (fun z => absurd ⟨hr, by omega⟩ z) (fun _ z11 e11 hz11 => ?_)
        refine xRet_some ?_
        refine x_aload_n (dT U_L_isRow 9 rfl) rfl ?_
        refine x_iload_n (dT U_L_isRow 10 rfl) rfl ?_
        refine x_iaload (i) (dT U_L_isRow 11 rfl) ha a3 rfl (by have := la.1; omega) (by have := la.1; omega) ?_
        refine x_i2l (dT U_L_isRow 12 rfl) (F24 hp la i) ?_
        refine x_lcmp (dT U_L_isRow 13 rfl) (xrl_of hz11) (xrl_of (F24 hp la i)) ?_
        have e12 : z11 = al.getD i 0 := by rw [e11]; exact congrArg (fun l : List Int => l.getD i 0) hs
        have e13 := (xcmp_0 (a := z11) (b := al.getD i 0)).mpr e12
        refine x_if_eq (tgt := 24) (dT U_L_isRow 14 rfl) (by decide) (xcmp_r _ _) (fun c19 => ?_) (fun c19 => ?_)
        · skip
          refine x_iinc (ls' := [some (.ref _), some (vi _), some (.ref _), some (vi _)]) (dT U_L_isRow 17 rfl) (by decide) rfl rfl ?_
          refine x_goto (tgt := 2) (dT U_L_isRow 18 rfl) (by decide) ?_
          exact ih (i + 1) (by omega)
        · exact absurd e13 c19
  refine x_iconst (dT U_L_isRow 0 rfl) ?_
  refine x_istore_n (ls' := [some (.ref _), some (vi _), some (.ref _), some (vi _)]) (dT U_L_isRow 1 rfl) (by decide) rfl ?_
  exact L 8 0 (by omega)

