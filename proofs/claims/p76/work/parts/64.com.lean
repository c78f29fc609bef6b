theorem x_pop2 {G : xG} {mt : xM} {d rc rs pc : Nat} {ex : Bool} {ls : List (Option Value)} {st : List Value} {h : xH} {Q : xQ} {z : Int} (hd : decode mt.2.1 pc = .ok (.pop2, 1)) (k : X G mt d rc rs ex (pc + 1) ls st h Q) : X G mt d rc rs ex pc ls (vl z :: st) h Q :=
  fun p e s m args below meth c K H locs cells slots mc ms lsA hP hS hZ h1 h2 hl => lv_pop2_2 K.1 K.2.1 hd rfl (k p e s m args below meth c K H locs cells slots mc ms lsA hP hS hZ h1 h2 hl)
theorem x_lif_eq {G : xG} {mt : xM} {d rc rs pc : Nat} {ex : Bool} {ls : List (Option Value)} {st : List Value} {h : xH} {Q : xQ} {a b off : Int} {tgt : Nat} (hd : decode mt.2.1 pc = .ok (.lcmp, 1)) (hd2 : decode mt.2.1 (pc + 1) = .ok (.ifCond .eq off, 3)) (ht : ((pc + 1 : Nat) : Int) + off = (tgt : Int)) (ha : xrl a) (hb : xrl b) (k1 : a = b → X G mt d rc rs ex tgt ls st h Q) (k2 : ¬ (a = b) → X G mt d rc rs ex (pc + 1 + 3) ls st h Q) : X G mt d rc rs ex pc ls (vl b :: vl a :: st) h Q :=
  x_lcmp hd ha hb (x_if_eq hd2 ht (xcmp_r a b) (fun q => k1 (by unfold xcmp at q; split at q <;> (try split at q) <;> omega)) (fun q => k2 (by unfold xcmp at q; split at q <;> (try split at q) <;> omega)))
theorem x_lif_ne {G : xG} {mt : xM} {d rc rs pc : Nat} {ex : Bool} {ls : List (Option Value)} {st : List Value} {h : xH} {Q : xQ} {a b off : Int} {tgt : Nat} (hd : decode mt.2.1 pc = .ok (.lcmp, 1)) (hd2 : decode mt.2.1 (pc + 1) = .ok (.ifCond .ne off, 3)) (ht : ((pc + 1 : Nat) : Int) + off = (tgt : Int)) (ha : xrl a) (hb : xrl b) (k1 : ¬ a = b → X G mt d rc rs ex tgt ls st h Q) (k2 : a = b → X G mt d rc rs ex (pc + 1 + 3) ls st h Q) : X G mt d rc rs ex pc ls (vl b :: vl a :: st) h Q :=
  x_lcmp hd ha hb (x_if_ne hd2 ht (xcmp_r a b) (fun q => k1 (by unfold xcmp at q; split at q <;> (try split at q) <;> omega)) (fun q => k2 (by unfold xcmp at q; split at q <;> (try split at q) <;> omega)))
theorem x_lif_lt {G : xG} {mt : xM} {d rc rs pc : Nat} {ex : Bool} {ls : List (Option Value)} {st : List Value} {h : xH} {Q : xQ} {a b off : Int} {tgt : Nat} (hd : decode mt.2.1 pc = .ok (.lcmp, 1)) (hd2 : decode mt.2.1 (pc + 1) = .ok (.ifCond .lt off, 3)) (ht : ((pc + 1 : Nat) : Int) + off = (tgt : Int)) (ha : xrl a) (hb : xrl b) (k1 : a < b → X G mt d rc rs ex tgt ls st h Q) (k2 : ¬ (a < b) → X G mt d rc rs ex (pc + 1 + 3) ls st h Q) : X G mt d rc rs ex pc ls (vl b :: vl a :: st) h Q :=
  x_lcmp hd ha hb (x_if_lt hd2 ht (xcmp_r a b) (fun q => k1 (by unfold xcmp at q; split at q <;> (try split at q) <;> omega)) (fun q => k2 (by unfold xcmp at q; split at q <;> (try split at q) <;> omega)))
theorem x_lif_ge {G : xG} {mt : xM} {d rc rs pc : Nat} {ex : Bool} {ls : List (Option Value)} {st : List Value} {h : xH} {Q : xQ} {a b off : Int} {tgt : Nat} (hd : decode mt.2.1 pc = .ok (.lcmp, 1)) (hd2 : decode mt.2.1 (pc + 1) = .ok (.ifCond .ge off, 3)) (ht : ((pc + 1 : Nat) : Int) + off = (tgt : Int)) (ha : xrl a) (hb : xrl b) (k1 : b ≤ a → X G mt d rc rs ex tgt ls st h Q) (k2 : ¬ (b ≤ a) → X G mt d rc rs ex (pc + 1 + 3) ls st h Q) : X G mt d rc rs ex pc ls (vl b :: vl a :: st) h Q :=
  x_lcmp hd ha hb (x_if_ge hd2 ht (xcmp_r a b) (fun q => k1 (by unfold xcmp at q; split at q <;> (try split at q) <;> omega)) (fun q => k2 (by unfold xcmp at q; split at q <;> (try split at q) <;> omega)))
theorem x_lif_gt {G : xG} {mt : xM} {d rc rs pc : Nat} {ex : Bool} {ls : List (Option Value)} {st : List Value} {h : xH} {Q : xQ} {a b off : Int} {tgt : Nat} (hd : decode mt.2.1 pc = .ok (.lcmp, 1)) (hd2 : decode mt.2.1 (pc + 1) = .ok (.ifCond .gt off, 3)) (ht : ((pc + 1 : Nat) : Int) + off = (tgt : Int)) (ha : xrl a) (hb : xrl b) (k1 : b < a → X G mt d rc rs ex tgt ls st h Q) (k2 : ¬ (b < a) → X G mt d rc rs ex (pc + 1 + 3) ls st h Q) : X G mt d rc rs ex pc ls (vl b :: vl a :: st) h Q :=
  x_lcmp hd ha hb (x_if_gt hd2 ht (xcmp_r a b) (fun q => k1 (by unfold xcmp at q; split at q <;> (try split at q) <;> omega)) (fun q => k2 (by unfold xcmp at q; split at q <;> (try split at q) <;> omega)))
theorem x_lif_le {G : xG} {mt : xM} {d rc rs pc : Nat} {ex : Bool} {ls : List (Option Value)} {st : List Value} {h : xH} {Q : xQ} {a b off : Int} {tgt : Nat} (hd : decode mt.2.1 pc = .ok (.lcmp, 1)) (hd2 : decode mt.2.1 (pc + 1) = .ok (.ifCond .le off, 3)) (ht : ((pc + 1 : Nat) : Int) + off = (tgt : Int)) (ha : xrl a) (hb : xrl b) (k1 : a ≤ b → X G mt d rc rs ex tgt ls st h Q) (k2 : ¬ (a ≤ b) → X G mt d rc rs ex (pc + 1 + 3) ls st h Q) : X G mt d rc rs ex pc ls (vl b :: vl a :: st) h Q :=
  x_lcmp hd ha hb (x_if_le hd2 ht (xcmp_r a b) (fun q => k1 (by unfold xcmp at q; split at q <;> (try split at q) <;> omega)) (fun q => k2 (by unfold xcmp at q; split at q <;> (try split at q) <;> omega)))
theorem x_iastoreL {G : xG} {mt : xM} {d rc rs pc : Nat} {ex : Bool} {ls : List (Option Value)} {st : List Value} {h : xH} {Q : xQ} {σ : St} {a : Nat} {l : List Int} {z x : Int} (n : Nat) (w : CW σ h) (h70 : 70 ≤ a) (hd : decode mt.2.1 pc = .ok (.iastore, 1)) (hh : h[a]? = some (cA 0 l)) (hz : z = (n : Int)) (hn : n < l.length) (hb : l.length < 2147483648)
    (k : ∀ (h2 : xH) (l2 : List Int), l2 = l.set n x → h2.length = h.length → CW σ h2 → (∀ b c, b ≠ a → h[b]? = some c → h2[b]? = some c) → h2[a]? = some (cA 0 l2) → X G mt d rc rs ex (pc + 1) ls st h2 Q) : X G mt d rc rs ex pc ls (vi x :: vi z :: .ref a :: st) h Q :=
  x_iastore n hd hh (by omega) hz hn hb (k _ _ rfl (by rw [List.length_set]) (w.out ((Ag.rf a a h).set ⟨Nat.le_refl _, Nat.le_refl _⟩) h70) (fun b c ne hc => hset_ne (fun z => ne z.symm) hc) (hset_eq hh))
theorem x_newL {G : xG} {mt : xM} {d rc rs rc' rs' pc : Nat} {ex : Bool} {ls : List (Option Value)} {st : List Value} {h : xH} {Q : xQ} {z : Int} (n : Nat) (h4 : 4 ≤ h.length) (hd : decode mt.2.1 pc = .ok (.newarray .int, 2)) (hz : z = (n : Int)) (hn : n < 100000) (hrc : rc = rc' + 1) (hrs : rs = rs' + n)
    (k : ∀ (h2 : xH) (a : Nat), Up h h2 → h.length ≤ a → a + 1 = h2.length → h2[a]? = some (cA 0 (List.replicate n 0)) → X G mt d rc' rs' true (pc + 2) ls (.ref a :: st) h2 Q) : X G mt d rc rs ex pc ls (vi z :: st) h Q :=
  x_pad h4 (fun _ => x_newarrayI n (Or.inl ⟨rfl, rfl⟩) w_ac_int hd hz hn hrc hrs (k _ _ ((Up.ap h _).tr (Up.ap _ _)) (by rw [List.length_append]; omega) (by rw [List.length_append (bs := [_])]; rfl) ap_last))
def L3 (l : List Int) : Prop := l.length = 3 ∧ True
theorem tn0 : (0 : Int).toNat = 0 := rfl
theorem tn1 : (1 : Int).toNat = 1 := rfl
theorem tn2 : (2 : Int).toNat = 2 := rfl
theorem tn3 : (3 : Int).toNat = 3 := rfl
theorem tn4 : (4 : Int).toNat = 4 := rfl
theorem tn5 : (5 : Int).toNat = 5 := rfl
theorem tn6 : (6 : Int).toNat = 6 := rfl
theorem tn7 : (7 : Int).toNat = 7 := rfl
theorem tn8 : (8 : Int).toNat = 8 := rfl
theorem X_room {G : xG} {mt : xM} {d rc rs rc' rs' pc : Nat} {ex : Bool} {ls : List (Option Value)} {st : List Value} {h : xH} {Q : xQ} (h1 : rc ≤ rc') (h2 : rs ≤ rs') (k : X G mt d rc rs ex pc ls st h Q) : X G mt d rc' rs' ex pc ls st h Q :=
  fun p e s m args below meth c K H locs cells slots mc ms lsA hP hS hZ q1 q2 hl => k p e s m args below meth c K H locs cells slots mc ms lsA hP hS hZ (by omega) (by omega) hl

theorem S_L_powM {G : xG} {d rc rs : Nat} {ex : Bool} {h : xH} {Q : xQ} {p : Nat} {e x : Int} (hpr : p ∈ PR) (he : 0 ≤ e ∧ e < p) (hx : 0 ≤ x ∧ x < 1000) (kk : Q (.inl (some (vi (MM p (e * x % (p : Int)))))) ex h) : X G m_L_power d rc rs ex 0 (xe m_L_power.2.2.1 [vi (MM p e), vi x, vi (gq p : Int)]) [] h Q := by
  have hq := gq_b hpr
  have hp := PRb hpr
  have b := MM_b hpr he
  obtain ⟨n, rfl⟩ : ∃ n : Nat, x = (n : Int) := ⟨x.toNat, by omega⟩
  refine S_L_power (by omega) (by omega) (by omega) ?_
  rw [MM_pow hpr he]
  exact kk

theorem S_L_powY {G : xG} {d rc rs : Nat} {ex : Bool} {h : xH} {Q : xQ} {p : Nat} {e x y : Int} (hpr : p ∈ PR) (ey : MM p e = y) (he : 0 ≤ e ∧ e < p) (hx : 0 ≤ x ∧ x < 1000) (kk : Q (.inl (some (vi (MM p (e * x % (p : Int)))))) ex h) : X G m_L_power d rc rs ex 0 (xe m_L_power.2.2.1 [vi y, vi x, vi (gq p : Int)]) [] h Q := by
  subst ey
  exact S_L_powM hpr he hx kk
theorem exI_one {p : Nat} (h : p ∈ PR) : exI p 1 = 0 := by
  have hp := PRb h
  have q := exI_MM h (e := 0) (by omega)
  rw [MM_0 h] at q
  exact q

set_option maxRecDepth 20000 in
set_option maxHeartbeats 1000000 in
theorem S_L_commits {G : xG} {d rc rs : Nat} {ex : Bool} {h : xH} {Q : xQ} {σ : St} {p a : Nat} {al : List Int} {b : Int} (w : CW σ h) (v : INV σ) (hpp : σ.p = p) (ha : h[a]? = some (cA 0 al)) (a3 : 3 ≤ a) (la : Fl (p : Int) al) (hb : 0 ≤ b ∧ b < (p : Int)) (kk : Q (.inl (some (vi (MM p (cm p al b))))) ex h) : X G m_L_commits (d + 8) (rc + 9) (rs + 54) ex 0 (xe m_L_commits.2.2.1 [.ref 3, .ref a, vi b, vi (gq p : Int)]) [] h Q := by
  show X G m_L_commits _ _ _ _ 0 [some (.ref 3), some (.ref a), some (vi b), some (vi (gq p : Int)), none, none] [] h Q
  have hpr : p ∈ PR := hpp ▸ v.p
  have hp := PRb hpr
  have hq := gq_b hpr
  unfold cm at kk
  rw [Int.add_comm] at kk
  have L : ∀ (n9 i : Nat), i + n9 = 8 → X G m_L_commits (d + 8) (rc + 1 * n9) (rs + 6 * n9) ex 17 [some (.ref 3), some (.ref a), some (vi b), some (vi (gq p : Int)), some (vi (MM p (((bs p 8 : Int) * b + sm (fun j => (bs p j : Int) * al.getD j 0) i) % (p : Int)))), some (vi (i : Int))] [] h Q := by
    intro n9
    induction n9 with
    | zero =>
      intro i hi
      show X G m_L_commits (d + 8) rc rs ex 17 _ [] h Q
      refine x_iload (dT U_L_commits 10 rfl) rfl ?_
      refine x_bipush (dT U_L_commits 11 rfl) (by decide) ?_
      refine x_icmp_ge (tgt := 52) (dT U_L_commits 12 rfl) (by decide) (by first | assumption | (unfold xr; omega)) (by unfold xr; omega) (fun c21 => ?_) (fun c21 => ?_)
      · skip
        refine x_iload (dT U_L_commits 29 rfl) rfl ?_
        have e8 : i = 8 := by omega
        subst e8
        refine x_ireturn (dT U_L_commits 30 rfl) rfl ?_
        exact kk
      · exfalso
        omega
    | succ n9 ih =>
      intro i hi
      refine x_iload (dT U_L_commits 10 rfl) rfl ?_
      refine x_bipush (dT U_L_commits 11 rfl) (by decide) ?_
      refine x_icmp_ge (tgt := 52) (dT U_L_commits 12 rfl) (by decide) (by first | assumption | (unfold xr; omega)) (by unfold xr; omega) (fun c21 => ?_) (fun c21 => ?_)
      · exfalso
        omega
      · skip
        refine x_iload (dT U_L_commits 13 rfl) rfl ?_
        refine x_aload_n (dT U_L_commits 14 rfl) rfl ?_
        refine x_iload (dT U_L_commits 15 rfl) rfl ?_
        refine x_invokestaticT (rc' := rc + 1 * n9) (rs' := rs + 6 * n9) (rc2 := 0 + 1) (rs2 := 0 + 6) (As := [_, _]) (st := _) M_L_base K_L_215 (dT U_L_commits 16 rfl) rfl (by decide) rfl rfl (Nat.le_of_ble_eq_true rfl) rfl (by decide) (Nat.le_of_ble_eq_true rfl) (by first | rfl | omega) (by first | rfl | omega) ?_
        refine S_L_base w v (by first | assumption | (unfold xr; omega)) (fun  z8 => absurd (show inb _ _ from by omega) z8) (fun _ z1 e1 hz1 => ?_)
        refine xRet_some ?_
        have e1 : z1 = MM p (bs p i) := by
          simp only [tn0, tn1, tn2, tn3, tn4, tn5, tn6, tn7, tn8, Int.toNat_natCast, hpp] at e1; exact e1
        refine x_l2i (dT U_L_commits 17 rfl) ?_
        refine x_aload_n (dT U_L_commits 18 rfl) rfl ?_
        refine x_iload (dT U_L_commits 19 rfl) rfl ?_
        refine x_iaload (i) (dT U_L_commits 20 rfl) ha a3 rfl (by have := (la).1; omega) (by have := (la).1; omega) ?_
        refine x_iload_n (dT U_L_commits 21 rfl) rfl ?_
        refine x_invokestatic (rc' := rc + 1 * n9) (rs' := rs + 6 * n9) (rc2 := 0 + 0) (rs2 := 0 + 0) (As := [_, _, _]) (st := _) M_L_power K_L_218 (dT U_L_commits 22 rfl) rfl rfl rfl rfl (Nat.le_of_ble_eq_true rfl) rfl (by decide) (Nat.le_of_ble_eq_true rfl) (by omega) (by omega) ?_
        rw [e1]
        have hbi := bs_b hpr (i := i) (by omega)
        have hai := la.2 i
        refine S_L_powM hpr (by omega) (by omega) ?_
        have m1 := modb (z := (bs p i : Int) * al.getD i 0) (p := (p : Int)) (by omega)
        have m2 := modb (z := (bs p 8 : Int) * b + sm (fun j => (bs p j : Int) * al.getD j 0) i) (p := (p : Int)) (by omega)
        have M1 := MM_b hpr m1
        have M2 := MM_b hpr m2
        have M3 := mulg (a := MM p (((bs p 8 : Int) * b + sm (fun j => (bs p j : Int) * al.getD j 0) i) % (p : Int))) (b := MM p ((bs p i : Int) * al.getD i 0 % (p : Int))) (m := 191) (n := 191) (by omega) (by omega)
        refine xRet_some ?_
        refine x_imul (dT U_L_commits 23 rfl) ?_
        refine x_iload_n (dT U_L_commits 24 rfl) rfl ?_
        refine x_irem (dT U_L_commits 25 rfl) (by unfold xr; omega) (by unfold xr; omega) (by omega) ?_
        rw [Int.tmod_eq_emod_of_nonneg (by omega), MM_mul hpr m2 m1, am_l, am_r, Int.add_assoc]
        refine x_istore (ls' := [some (.ref _), some (.ref _), some (vi _), some (vi _), some (vi _), some (vi _)]) (dT U_L_commits 26 rfl) (by decide) rfl ?_
        refine x_iinc (ls' := [some (.ref _), some (.ref _), some (vi _), some (vi _), some (vi _), some (vi _)]) (dT U_L_commits 27 rfl) (by decide) rfl rfl ?_
        refine x_goto (tgt := 17) (dT U_L_commits 28 rfl) (by decide) ?_
        exact ih (i + 1) (by omega)
  refine x_aload_n (dT U_L_commits 0 rfl) rfl ?_
  refine x_bipush (dT U_L_commits 1 rfl) (by decide) ?_
  refine x_invokestaticT (rc' := rc + 8) (rs' := rs + 48) (rc2 := 0 + 1) (rs2 := 0 + 6) (As := [_, _]) (st := _) M_L_base K_L_215 (dT U_L_commits 2 rfl) rfl (by decide) rfl rfl (Nat.le_of_ble_eq_true rfl) rfl (by decide) (Nat.le_of_ble_eq_true rfl) (by first | rfl | omega) (by first | rfl | omega) ?_
  refine S_L_base w v (by first | assumption | (unfold xr; omega)) (fun  z8 => absurd (show inb _ _ from by omega) z8) (fun _ z1 e1 hz1 => ?_)
  refine xRet_some ?_
  have e1 : z1 = MM p (bs p 8) := by
    simp only [tn0, tn1, tn2, tn3, tn4, tn5, tn6, tn7, tn8, Int.toNat_natCast, hpp] at e1; exact e1
  refine x_l2i (dT U_L_commits 3 rfl) ?_
  refine x_iload_n (dT U_L_commits 4 rfl) rfl ?_
  refine x_iload_n (dT U_L_commits 5 rfl) rfl ?_
  refine x_invokestatic (rc' := rc + 8) (rs' := rs + 48) (rc2 := 0 + 0) (rs2 := 0 + 0) (As := [_, _, _]) (st := _) M_L_power K_L_218 (dT U_L_commits 6 rfl) rfl rfl rfl rfl (Nat.le_of_ble_eq_true rfl) rfl (by decide) (Nat.le_of_ble_eq_true rfl) (by omega) (by omega) ?_
  rw [e1]
  have hb8 := bs_b hpr (i := 8) (by omega)
  refine S_L_powM hpr (by omega) (by omega) ?_
  refine xRet_some ?_
  refine x_istore (ls' := [some (.ref _), some (.ref _), some (vi _), some (vi _), some (vi _), none]) (dT U_L_commits 7 rfl) (by decide) rfl ?_
  refine x_iconst (dT U_L_commits 8 rfl) ?_
  refine x_istore (ls' := [some (.ref _), some (.ref _), some (vi _), some (vi _), some (vi _), some (vi _)]) (dT U_L_commits 9 rfl) (by decide) rfl ?_
  have q8 := L 8 0 (by omega)
  rw [show sm (fun j => (bs p j : Int) * al.getD j 0) 0 = 0 from rfl, Int.add_zero] at q8
  exact q8

