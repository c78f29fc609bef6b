def dvQL (p : Nat) (r b : List Int) : List Int := tab (dvQ (p : Int) (gf b) (dg (gf b) 8).toNat (iv p (gf b (dg (gf b) 8).toNat).toNat : Int) (gf r) (8 - (dg (gf b) 8).toNat)) 8
def dvRL (p : Nat) (r b : List Int) : List Int := tab (dvR (p : Int) (gf b) (dg (gf b) 8).toNat (iv p (gf b (dg (gf b) 8).toNat).toNat : Int) (gf r) (8 - (dg (gf b) 8).toNat)) 8
theorem dvRL_F {p : Nat} {r b : List Int} (hp : 2 < p) (hr : Fl (p : Int) r) : Fl (p : Int) (dvRL p r b) := Fl_tab (by omega) (fun j _ => dvR_b (by omega) (fun j => hr.2 j) _ j)
theorem dvQL_F {p : Nat} {r b : List Int} (hp : 2 < p) : Fl (p : Int) (dvQL p r b) := Fl_tab (by omega) (fun j _ => by
  unfold dvQ
  split
  · exact modb (by omega)
  · omega)
theorem litL_F {p m : Nat} {x y : Nat → Int} (hp : 2 < p) : Fl (p : Int) (tab (lit p x y m m) 8) := Fl_tab (by omega) (fun j _ => lit_b hp m j)
def pws (p x : Int) : Nat → Int
  | 0 => 1
  | i + 1 => pws p x i * x % p
theorem pws_b {p x : Int} (hp : 2 < p) : ∀ i, 0 ≤ pws p x i ∧ pws p x i < p
  | 0 => by unfold pws; omega
  | i + 1 => modb (by omega)
theorem Fl.set {p : Int} {l : List Int} {i : Nat} {v : Int} (h : Fl p l) (hv : 0 ≤ v ∧ v < p) : Fl p (l.set i v) := by
  refine ⟨by rw [List.length_set]; exact h.1, fun j => ?_⟩
  by_cases e : i = j
  · subst e
    by_cases q : i < l.length
    · rw [List.getD_eq_getElem?_getD, List.getElem?_set_self q]; exact hv
    · rw [List.getD_eq_getElem?_getD, List.getElem?_eq_none (by rw [List.length_set]; omega)]; exact ⟨Int.le_refl 0, by show (0 : Int) < p; omega⟩
  · rw [List.getD_eq_getElem?_getD, List.getElem?_set_ne e, ← List.getD_eq_getElem?_getD]; exact h.2 j

set_option maxRecDepth 20000 in
set_option maxHeartbeats 1000000 in
theorem S_X10_divide {G : xG} {d rc rs : Nat} {ex : Bool} {h : xH} {Q : xQ} {σ : St} {row by_ quotient rest : Int} (w : CW σ h) (v : INV σ) (h_row : xr row) (h_by_ : xr by_) (h_quotient : xr quotient) (h_rest : xr rest) (e1 : ¬ (inb row 8 ∧ inb by_ 8 ∧ inb quotient 8 ∧ inb rest 8) → Q (.inr IOE) false h) (e2 : (inb row 8 ∧ inb by_ 8 ∧ inb quotient 8 ∧ inb rest 8) → ¬ (quotient ≠ rest) → Q (.inr IAE) false h) (e3 : (inb row 8 ∧ inb by_ 8 ∧ inb quotient 8 ∧ inb rest 8) → (quotient ≠ rest) → ¬ (¬ (dg (gf (σ.rw by_.toNat)) 8) = -1) → Q (.inr ARE) false h) (k : (inb row 8 ∧ inb by_ 8 ∧ inb quotient 8 ∧ inb rest 8) → (quotient ≠ rest) → (¬ (dg (gf (σ.rw by_.toNat)) 8) = -1) → ∀ h2, FC h h2 → CW ((σ.sRow quotient.toNat (dvQL σ.p (σ.rw row.toNat) (σ.rw by_.toNat))).sRow rest.toNat (dvRL σ.p (σ.rw row.toNat) (σ.rw by_.toNat))) h2 → Q (.inl (some (vi (dg (gf (dvRL σ.p (σ.rw row.toNat) (σ.rw by_.toNat))) 8)))) ex h2) : X G m_X10_divide (d + 7) (rc + 5) (rs + 30) ex 0 (xe m_X10_divide.2.2.1 [.ref 3, vi row, vi by_, vi quotient, vi rest]) [] h Q := by
  show X G m_X10_divide _ _ _ _ 0 [some (.ref 3), some (vi row), some (vi by_), some (vi quotient), some (vi rest), none, none, none, none] [] h Q
  have hp := PRb v.p
  have hq := gq_b v.p
  obtain ⟨s19l, hs19, ls19⟩ := w.s19
  obtain ⟨s20l, hs20, ls20⟩ := w.s20
  refine x_aload_n (dT U_X10_divide 0 rfl) rfl ?_
  refine x_iload_n (dT U_X10_divide 1 rfl) rfl ?_
  refine x_invokevirtual (rc' := rc + 4) (rs' := rs + 24) (rc2 := 1) (rs2 := 6) (As := [_]) (st := _) M_X10_rowAt K_X10_139 (dT U_X10_divide 2 rfl) rfl rfl (by decide) rfl rfl w.c3 (Nat.le_of_ble_eq_true rfl) (by decide) rfl (Nat.le_of_ble_eq_true rfl) rfl (by decide) (Nat.le_of_ble_eq_true rfl) rfl rfl ?_
  refine S_X10_rowAt w v h_row (fun q => xRet_thr (e1 (by omega))) (fun i hi ezi => ?_)
  subst ezi
  have li := v.rw i hi
  refine xRet_some ?_
  refine x_astore (ls' := [some (.ref _), some (vi _), some (vi _), some (vi _), some (vi _), some (.ref _), none, none, none]) (dT U_X10_divide 3 rfl) (by decide) rfl ?_
  refine x_aload_n (dT U_X10_divide 4 rfl) rfl ?_
  refine x_iload_n (dT U_X10_divide 5 rfl) rfl ?_
  refine x_invokevirtual (rc' := rc + 3) (rs' := rs + 18) (rc2 := 1) (rs2 := 6) (As := [_]) (st := _) M_X10_rowAt K_X10_139 (dT U_X10_divide 6 rfl) rfl rfl (by decide) rfl rfl w.c3 (Nat.le_of_ble_eq_true rfl) (by decide) rfl (Nat.le_of_ble_eq_true rfl) rfl (by decide) (Nat.le_of_ble_eq_true rfl) rfl rfl ?_
  refine S_X10_rowAt w v h_by_ (fun q => xRet_thr (e1 (by omega))) (fun b hb ezb => ?_)
  subst ezb
  have lb := v.rw b hb
  refine xRet_some ?_
  refine x_astore (ls' := [some (.ref _), some (vi _), some (vi _), some (vi _), some (vi _), some (.ref _), some (.ref _), none, none]) (dT U_X10_divide 7 rfl) (by decide) rfl ?_
  refine x_aload_n (dT U_X10_divide 8 rfl) rfl ?_
  refine x_iload_n (dT U_X10_divide 9 rfl) rfl ?_
  refine x_invokevirtual (rc' := rc + 2) (rs' := rs + 12) (rc2 := 1) (rs2 := 6) (As := [_]) (st := _) M_X10_rowAt K_X10_139 (dT U_X10_divide 10 rfl) rfl rfl (by decide) rfl rfl w.c3 (Nat.le_of_ble_eq_true rfl) (by decide) rfl (Nat.le_of_ble_eq_true rfl) rfl (by decide) (Nat.le_of_ble_eq_true rfl) rfl rfl ?_
  refine S_X10_rowAt w v h_quotient (fun q => xRet_thr (e1 (by omega))) (fun t ht ezt => ?_)
  subst ezt
  have lt := v.rw t ht
  refine xRet_some ?_
  refine x_astore (ls' := [some (.ref _), some (vi _), some (vi _), some (vi _), some (vi _), some (.ref _), some (.ref _), some (.ref _), none]) (dT U_X10_divide 11 rfl) (by decide) rfl ?_
  refine x_aload_n (dT U_X10_divide 12 rfl) rfl ?_
  refine x_iload (dT U_X10_divide 13 rfl) rfl ?_
  refine x_invokevirtual (rc' := rc + 1) (rs' := rs + 6) (rc2 := 1) (rs2 := 6) (As := [_]) (st := _) M_X10_rowAt K_X10_139 (dT U_X10_divide 14 rfl) rfl rfl (by decide) rfl rfl w.c3 (Nat.le_of_ble_eq_true rfl) (by decide) rfl (Nat.le_of_ble_eq_true rfl) rfl (by decide) (Nat.le_of_ble_eq_true rfl) rfl rfl ?_
  refine S_X10_rowAt w v h_rest (fun q => xRet_thr (e1 (by omega))) (fun u hu ezu => ?_)
  subst ezu
  have lu := v.rw u hu
  refine xRet_some ?_
  refine x_astore (ls' := [some (.ref _), some (vi _), some (vi _), some (vi _), some (vi _), some (.ref _), some (.ref _), some (.ref _), some (.ref _)]) (dT U_X10_divide 15 rfl) (by decide) rfl ?_
  refine x_iload_n (dT U_X10_divide 16 rfl) rfl ?_
  refine x_iload (dT U_X10_divide 17 rfl) rfl ?_
  refine x_icmp_ne (tgt := 45) (dT U_X10_divide 18 rfl) (by decide) (by unfold xr; omega) (by unfold xr; omega) (fun c32 => ?_) (fun c32 => ?_)
  · skip
    refine x_aload (dT U_X10_divide 24 rfl) rfl ?_
    refine x_invokestatic (rc' := rc + 1) (rs' := rs + 6) (rc2 := 0) (rs2 := 0) (As := [_]) (st := _) M_X1_degreeOf K_X10_154 (dT U_X10_divide 25 rfl) rfl rfl rfl rfl (Nat.le_of_ble_eq_true rfl) rfl (by decide) (Nat.le_of_ble_eq_true rfl) rfl rfl ?_
    refine S_degF (p := σ.p) (w.rows b hb) (by omega) lb hp.2 ?_
    have db := dg_b (gf (σ.rw b)) 8
    refine xRet_some ?_
    refine x_iconst (dT U_X10_divide 26 rfl) ?_
    refine x_icmp_ne (tgt := 64) (dT U_X10_divide 27 rfl) (by decide) (by unfold xr; omega) (by unfold xr; omega) (fun c51 => ?_) (fun c51 => ?_)
    · skip
      refine x_aload_n (dT U_X10_divide 33 rfl) rfl ?_
      refine x_getfield F_X10_33 (dT U_X10_divide 34 rfl) w.c3 (Nat.le_of_ble_eq_true rfl) rfl ?_
      refine x_aload (dT U_X10_divide 35 rfl) rfl ?_
      refine x_aload (dT U_X10_divide 36 rfl) rfl ?_
      refine x_aload (dT U_X10_divide 37 rfl) rfl ?_
      refine x_aload (dT U_X10_divide 38 rfl) rfl ?_
      refine x_invokevirtual (rc' := rc + 1) (rs' := rs + 6) (rc2 := 0) (rs2 := 0) (As := [_, _, _, _]) (st := _) M_X6_divideBy K_X10_190 (dT U_X10_divide 39 rfl) rfl rfl (by decide) rfl rfl w.c18 (Nat.le_of_ble_eq_true rfl) (by decide) rfl (Nat.le_of_ble_eq_true rfl) rfl (by decide) (Nat.le_of_ble_eq_true rfl) rfl rfl ?_
      refine S_X6_divideBy (g := (dg (gf (σ.rw b)) 8).toNat) w.gw.1 v.p w.c18 hs19 ls19 hs20 ls20 (w.rows i hi) (by refine ⟨by omega, by omega, by omega, by omega, by omega⟩) li (w.rows b hb) (by refine ⟨by omega, by omega, by omega, by omega, by omega⟩) lb (w.rows t ht) (by omega) lt.1 (w.rows u hu) (by omega) lu.1 (by omega) ?_
      refine xRet_none ?_
      refine x_aload (dT U_X10_divide 40 rfl) rfl ?_
      refine x_invokestatic (rc' := rc + 1) (rs' := rs + 6) (rc2 := 0) (rs2 := 0) (As := [_]) (st := _) M_X1_degreeOf K_X10_154 (dT U_X10_divide 41 rfl) rfl rfl rfl rfl (Nat.le_of_ble_eq_true rfl) rfl (by decide) (Nat.le_of_ble_eq_true rfl) rfl rfl ?_
      refine S_degF (p := σ.p) (l := dvRL σ.p (σ.rw i) (σ.rw b)) (hset_eq (hset_ne (by omega) (hset_ne (by omega) (hset_ne (by omega) (w.rows u hu))))) (by omega) (dvRL_F hp.1 li) hp.2 ?_
      refine xRet_some ?_
      refine x_ireturn (dT U_X10_divide 42 rfl) rfl ?_
      exact k (by omega) (by omega) (show ¬ dg (gf (σ.rw b)) 8 = -1 by omega) _ (((((Ag.rf 3 69 h).set (by omega)).set (by omega)).set (by omega)).set (by omega)) (((w.t19 ((Ag.rf 19 19 h).set (by omega)) (hset_eq hs19) (tab_len _ _)).t20 ((Ag.rf 20 20 _).set (by omega)) (hset_eq (hset_ne (by omega) hs20)) (tab_len _ _) |>.row (l := dvQL σ.p (σ.rw i) (σ.rw b)) ((Ag.rf (10 + t) (10 + t) _).set (by omega)) ht (hset_eq (hset_ne (by omega) (hset_ne (by omega) (w.rows t ht))))).row (l := dvRL σ.p (σ.rw i) (σ.rw b)) ((Ag.rf (10 + u) (10 + u) _).set (by omega)) hu (hset_eq (hset_ne (by omega) (hset_ne (by omega) (hset_ne (by omega) (w.rows u hu))))))
    · skip
      refine x_throw T_AR rfl (is := 187) (text := "the row by which it is divided is 0") (by decide) rfl (by omega) (Nat.le_of_ble_eq_true rfl) (by omega) (by omega) (dT U_X10_divide 28 rfl) (dT U_X10_divide 29 rfl) (dT U_X10_divide 30 rfl) (dT U_X10_divide 31 rfl) (dT U_X10_divide 32 rfl) ?_
      exact e3 (by omega) (by omega) (fun z => z (show dg (gf (σ.rw b)) 8 = -1 by omega))
  · skip
    refine x_throw T_IA rfl (is := 183) (text := "quotient and rest are the same row") (by decide) rfl (by omega) (Nat.le_of_ble_eq_true rfl) (by omega) (by omega) (dT U_X10_divide 19 rfl) (dT U_X10_divide 20 rfl) (dT U_X10_divide 21 rfl) (dT U_X10_divide 22 rfl) (dT U_X10_divide 23 rfl) ?_
    exact e2 (by omega) (by omega)

set_option maxRecDepth 20000 in
set_option maxHeartbeats 1000000 in
theorem S_X10_base {G : xG} {d rc rs : Nat} {ex : Bool} {h : xH} {Q : xQ} {σ : St} {n : Int} (w : CW σ h) (v : INV σ) (h_n : xr n) (e1 : ¬ (inb n 9) → Q (.inr IAE) false h) (k : (inb n 9) → Q (.inl (some (vi (MM σ.p (bs σ.p n.toNat : Int))))) ex h) : X G m_X10_base (d + 6) (rc + 1) (rs + 6) ex 0 (xe m_X10_base.2.2.1 [.ref 3, vi n]) [] h Q := by
  show X G m_X10_base _ _ _ _ 0 [some (.ref 3), some (vi n)] [] h Q
  have hp := PRb v.p
  have hq := gq_b v.p
  refine x_iload_n (dT U_X10_base 0 rfl) rfl ?_
  refine x_if_lt (tgt := 10) (dT U_X10_base 1 rfl) (by decide) h_n (fun c1 => ?_) (fun c1 => ?_)
  · skip
    refine x_throw T_IA rfl (is := 215) (text := "there is no such base") (by decide) rfl (by omega) (Nat.le_of_ble_eq_true rfl) (by omega) (by omega) (dT U_X10_base 5 rfl) (dT U_X10_base 6 rfl) (dT U_X10_base 7 rfl) (dT U_X10_base 8 rfl) (dT U_X10_base 9 rfl) ?_
    exact e1 (by omega)
  · skip
    refine x_iload_n (dT U_X10_base 2 rfl) rfl ?_
    refine x_bipush (dT U_X10_base 3 rfl) (by decide) ?_
    refine x_icmp_lt (tgt := 20) (dT U_X10_base 4 rfl) (by decide) h_n (by unfold xr; omega) (fun c7 => ?_) (fun c7 => ?_)
    · skip
      obtain ⟨m, rfl⟩ : ∃ m : Nat, n = (m : Int) := ⟨n.toNat, by omega⟩
      refine x_aload_n (dT U_X10_base 10 rfl) rfl ?_
      refine x_getfield F_X10_21 (dT U_X10_base 11 rfl) w.c3 (Nat.le_of_ble_eq_true rfl) rfl ?_
      refine x_aload_n (dT U_X10_base 12 rfl) rfl ?_
      refine x_getfield F_X10_21 (dT U_X10_base 13 rfl) w.c3 (Nat.le_of_ble_eq_true rfl) rfl ?_
      refine x_getfield F_X10_217 (dT U_X10_base 14 rfl) w.gw.2.1 (Nat.le_of_ble_eq_true rfl) rfl ?_
      refine x_iload_n (dT U_X10_base 15 rfl) rfl ?_
      refine x_iaload (m) (dT U_X10_base 16 rfl) w.gw.2.2.2.2 (Nat.le_of_ble_eq_true rfl) rfl (by unfold bsl; rw [tab_len]; omega) (by unfold bsl; rw [tab_len]; omega) ?_
      refine x_invokevirtual (rc' := rc + 1) (rs' := rs + 6) (rc2 := 0) (rs2 := 0) (As := [_]) (st := _) M_X3_memberAt K_X10_220 (dT U_X10_base 17 rfl) rfl rfl (by decide) rfl rfl w.gw.2.1 (Nat.le_of_ble_eq_true rfl) (by decide) rfl (Nat.le_of_ble_eq_true rfl) rfl (by decide) (Nat.le_of_ble_eq_true rfl) rfl rfl ?_
      rw [bsl_get (by omega)]
      have bb := bs_b v.p (i := m) (by omega)
      refine S_X3_memberAt w.gw v.p (by unfold xr; omega) ?_
      rw [Int.emod_eq_of_lt (by omega) (by omega)]
      refine xRet_some ?_
      refine x_ireturn (dT U_X10_base 18 rfl) rfl ?_
      exact k (by omega)
    · skip
      refine x_throw T_IA rfl (is := 215) (text := "there is no such base") (by decide) rfl (by omega) (Nat.le_of_ble_eq_true rfl) (by omega) (by omega) (dT U_X10_base 5 rfl) (dT U_X10_base 6 rfl) (dT U_X10_base 7 rfl) (dT U_X10_base 8 rfl) (dT U_X10_base 9 rfl) ?_
      exact e1 (by omega)

set_option maxRecDepth 20000 in
set_option maxHeartbeats 1000000 in
theorem S_X10_isMember {G : xG} {d rc rs : Nat} {ex : Bool} {h : xH} {Q : xQ} {σ : St} {y : Int} (w : CW σ h) (v : INV σ) (h_y : xr y) (k1 : ¬ exI σ.p y = -1 → Q (.inl (some (vi 1))) ex h) (k0 : ¬ (¬ exI σ.p y = -1) → Q (.inl (some (vi 0))) ex h) : X G m_X10_isMember (d + 1) rc rs ex 0 (xe m_X10_isMember.2.2.1 [.ref 3, vi y]) [] h Q := by
  show X G m_X10_isMember _ _ _ _ 0 [some (.ref 3), some (vi y)] [] h Q
  have hp := PRb v.p
  have hq := gq_b v.p
  refine x_aload_n (dT U_X10_isMember 0 rfl) rfl ?_
  refine x_getfield F_X10_21 (dT U_X10_isMember 1 rfl) w.c3 (Nat.le_of_ble_eq_true rfl) rfl ?_
  refine x_iload_n (dT U_X10_isMember 2 rfl) rfl ?_
  refine x_invokevirtual (rc' := rc) (rs' := rs) (rc2 := 0) (rs2 := 0) (As := [_]) (st := _) M_X3_exponentOf K_X10_223 (dT U_X10_isMember 3 rfl) rfl rfl (by decide) rfl rfl w.gw.2.1 (Nat.le_of_ble_eq_true rfl) (by decide) rfl (Nat.le_of_ble_eq_true rfl) rfl (by decide) (Nat.le_of_ble_eq_true rfl) rfl rfl ?_
  refine S_X3_exponentOf w.gw v.p h_y ?_
  have eb := exI_b σ.p y
  refine xRet_some ?_
  refine x_iconst (dT U_X10_isMember 4 rfl) ?_
  refine x_icmp_eq (tgt := 16) (dT U_X10_isMember 5 rfl) (by decide) (by unfold xr; omega) (by unfold xr; omega) (fun c9 => ?_) (fun c9 => ?_)
  · skip
    refine x_iconst (dT U_X10_isMember 8 rfl) ?_
    refine x_zreturn (dT U_X10_isMember 9 rfl) rfl (by omega) ?_
    first | exact k1 (by assumption) | exact k0 (fun z => z (by assumption))
  · skip
    refine x_iconst (dT U_X10_isMember 6 rfl) ?_
    refine x_goto (tgt := 17) (dT U_X10_isMember 7 rfl) (by decide) ?_
    refine x_zreturn (dT U_X10_isMember 9 rfl) rfl (by omega) ?_
    first | exact k1 (by assumption) | exact k0 (fun z => z (by assumption))

set_option maxRecDepth 20000 in
set_option maxHeartbeats 1000000 in
theorem S_X10_commit {G : xG} {d rc rs : Nat} {ex : Bool} {h : xH} {Q : xQ} {σ : St} {row blind : Int} (w : CW σ h) (v : INV σ) (h_row : xr row) (h_blind : xr blind) (e1 : ¬ (inb row 8) → Q (.inr IOE) false h) (e2 : (inb row 8) → ¬ (inb blind σ.p) → Q (.inr IAE) false h) (k : (inb row 8) → (inb blind σ.p) → Q (.inl (some (vi (MM σ.p (cm σ.p (σ.rw row.toNat) blind))))) ex h) : X G m_X10_commit (d + 7) (rc + 2) (rs + 12) ex 0 (xe m_X10_commit.2.2.1 [.ref 3, vi row, vi blind]) [] h Q := by
  show X G m_X10_commit _ _ _ _ 0 [some (.ref 3), some (vi row), some (vi blind), none] [] h Q
  have hp := PRb v.p
  have hq := gq_b v.p
  refine x_aload_n (dT U_X10_commit 0 rfl) rfl ?_
  refine x_iload_n (dT U_X10_commit 1 rfl) rfl ?_
  refine x_invokevirtual (rc' := rc + 1) (rs' := rs + 6) (rc2 := 1) (rs2 := 6) (As := [_]) (st := _) M_X10_rowAt K_X10_139 (dT U_X10_commit 2 rfl) rfl rfl (by decide) rfl rfl w.c3 (Nat.le_of_ble_eq_true rfl) (by decide) rfl (Nat.le_of_ble_eq_true rfl) rfl (by decide) (Nat.le_of_ble_eq_true rfl) rfl rfl ?_
  refine S_X10_rowAt w v h_row (fun q => xRet_thr (e1 (by omega))) (fun i hi ezi => ?_)
  subst ezi
  have li := v.rw i hi
  refine xRet_some ?_
  refine x_astore_n (ls' := [some (.ref _), some (vi _), some (vi _), some (.ref _)]) (dT U_X10_commit 3 rfl) (by decide) rfl ?_
  refine x_aload_n (dT U_X10_commit 4 rfl) rfl ?_
  refine x_iload_n (dT U_X10_commit 5 rfl) rfl ?_
  refine x_invokevirtual (rc' := rc) (rs' := rs) (rc2 := 1) (rs2 := 6) (As := [_]) (st := _) M_X10_needNumber K_X10_147 (dT U_X10_commit 6 rfl) rfl rfl (by decide) rfl rfl w.c3 (Nat.le_of_ble_eq_true rfl) (by decide) rfl (Nat.le_of_ble_eq_true rfl) rfl (by decide) (Nat.le_of_ble_eq_true rfl) rfl rfl ?_
  refine S_X10_needNumber w v h_blind (fun q => xRet_thr (e2 (by omega) (by omega))) (fun q1 => ?_)
  refine xRet_none ?_
  refine x_aload_n (dT U_X10_commit 7 rfl) rfl ?_
  refine x_getfield F_X10_21 (dT U_X10_commit 8 rfl) w.c3 (Nat.le_of_ble_eq_true rfl) rfl ?_
  refine x_aload_n (dT U_X10_commit 9 rfl) rfl ?_
  refine x_iload_n (dT U_X10_commit 10 rfl) rfl ?_
  refine x_invokevirtual (rc' := rc) (rs' := rs) (rc2 := 0) (rs2 := 0) (As := [_, _]) (st := _) M_X3_commitmentOf K_X10_229 (dT U_X10_commit 11 rfl) rfl rfl (by decide) rfl rfl w.gw.2.1 (Nat.le_of_ble_eq_true rfl) (by decide) rfl (Nat.le_of_ble_eq_true rfl) rfl (by decide) (Nat.le_of_ble_eq_true rfl) rfl rfl ?_
  refine S_X3_commitmentOf w.gw v.p (w.rows i hi) (by omega) li q1 ?_
  refine xRet_some ?_
  refine x_ireturn (dT U_X10_commit 12 rfl) rfl ?_
  exact k (by omega) (by omega)

set_option maxRecDepth 20000 in
set_option maxHeartbeats 1000000 in
theorem S_X10_isOpened {G : xG} {d rc rs : Nat} {ex : Bool} {h : xH} {Q : xQ} {σ : St} {y row blind : Int} (w : CW σ h) (v : INV σ) (h_y : xr y) (h_row : xr row) (h_blind : xr blind) (e1 : ¬ (inb row 8) → Q (.inr IOE) false h) (e2 : (inb row 8) → ¬ (¬ exI σ.p y = -1 ∧ inb blind σ.p) → Q (.inr IAE) false h) (k1 : (inb row 8) → (¬ exI σ.p y = -1 ∧ inb blind σ.p) → cm σ.p (σ.rw row.toNat) blind = exI σ.p y → Q (.inl (some (vi 1))) ex h) (k0 : (inb row 8) → (¬ exI σ.p y = -1 ∧ inb blind σ.p) → ¬ (cm σ.p (σ.rw row.toNat) blind = exI σ.p y) → Q (.inl (some (vi 0))) ex h) : X G m_X10_isOpened (d + 7) (rc + 3) (rs + 18) ex 0 (xe m_X10_isOpened.2.2.1 [.ref 3, vi y, vi row, vi blind]) [] h Q := by
  show X G m_X10_isOpened _ _ _ _ 0 [some (.ref 3), some (vi y), some (vi row), some (vi blind), none] [] h Q
  have hp := PRb v.p
  have hq := gq_b v.p
  refine x_aload_n (dT U_X10_isOpened 0 rfl) rfl ?_
  refine x_iload_n (dT U_X10_isOpened 1 rfl) rfl ?_
  refine x_invokevirtual (rc' := rc + 2) (rs' := rs + 12) (rc2 := 1) (rs2 := 6) (As := [_]) (st := _) M_X10_rowAt K_X10_139 (dT U_X10_isOpened 2 rfl) rfl rfl (by decide) rfl rfl w.c3 (Nat.le_of_ble_eq_true rfl) (by decide) rfl (Nat.le_of_ble_eq_true rfl) rfl (by decide) (Nat.le_of_ble_eq_true rfl) rfl rfl ?_
  refine S_X10_rowAt w v h_row (fun q => xRet_thr (e1 (by omega))) (fun i hi ezi => ?_)
  subst ezi
  have li := v.rw i hi
  refine xRet_some ?_
  refine x_astore (ls' := [some (.ref _), some (vi _), some (vi _), some (vi _), some (.ref _)]) (dT U_X10_isOpened 3 rfl) (by decide) rfl ?_
  refine x_aload_n (dT U_X10_isOpened 4 rfl) rfl ?_
  refine x_iload_n (dT U_X10_isOpened 5 rfl) rfl ?_
  refine x_invokevirtual (rc' := rc + 1) (rs' := rs + 6) (rc2 := 1) (rs2 := 6) (As := [_]) (st := _) M_X10_needMember K_X10_226 (dT U_X10_isOpened 6 rfl) rfl rfl (by decide) rfl rfl w.c3 (Nat.le_of_ble_eq_true rfl) (by decide) rfl (Nat.le_of_ble_eq_true rfl) rfl (by decide) (Nat.le_of_ble_eq_true rfl) rfl rfl ?_
  refine S_X10_needMember w v h_y (fun q => xRet_thr (e2 (by omega) (by omega))) (fun e9 he9 eze9 exe9 => ?_)
  refine xRet_none ?_
  refine x_aload_n (dT U_X10_isOpened 7 rfl) rfl ?_
  refine x_iload_n (dT U_X10_isOpened 8 rfl) rfl ?_
  refine x_invokevirtual (rc' := rc) (rs' := rs) (rc2 := 1) (rs2 := 6) (As := [_]) (st := _) M_X10_needNumber K_X10_147 (dT U_X10_isOpened 9 rfl) rfl rfl (by decide) rfl rfl w.c3 (Nat.le_of_ble_eq_true rfl) (by decide) rfl (Nat.le_of_ble_eq_true rfl) rfl (by decide) (Nat.le_of_ble_eq_true rfl) rfl rfl ?_
  refine S_X10_needNumber w v h_blind (fun q => xRet_thr (e2 (by omega) (by omega))) (fun q1 => ?_)
  refine xRet_none ?_
  refine x_aload_n (dT U_X10_isOpened 10 rfl) rfl ?_
  refine x_getfield F_X10_21 (dT U_X10_isOpened 11 rfl) w.c3 (Nat.le_of_ble_eq_true rfl) rfl ?_
  refine x_aload (dT U_X10_isOpened 12 rfl) rfl ?_
  refine x_iload_n (dT U_X10_isOpened 13 rfl) rfl ?_
  refine x_invokevirtual (rc' := rc) (rs' := rs) (rc2 := 0) (rs2 := 0) (As := [_, _]) (st := _) M_X3_commitmentOf K_X10_229 (dT U_X10_isOpened 14 rfl) rfl rfl (by decide) rfl rfl w.gw.2.1 (Nat.le_of_ble_eq_true rfl) (by decide) rfl (Nat.le_of_ble_eq_true rfl) rfl (by decide) (Nat.le_of_ble_eq_true rfl) rfl rfl ?_
  refine S_X3_commitmentOf w.gw v.p (w.rows i hi) (by omega) li q1 ?_
  have cb := cm_b (p := σ.p) (l := σ.rw i) (b := blind) hp.1
  have cM := MM_b v.p cb
  have yM := MM_b v.p he9
  refine xRet_some ?_
  refine x_iload_n (dT U_X10_isOpened 15 rfl) rfl ?_
  refine x_icmp_ne (tgt := 35) (dT U_X10_isOpened 16 rfl) (by decide) (by unfold xr; omega) (by unfold xr; omega) (fun c28 => ?_) (fun c28 => ?_)
  · skip
    refine x_iconst (dT U_X10_isOpened 19 rfl) ?_
    refine x_zreturn (dT U_X10_isOpened 20 rfl) rfl (by omega) ?_
    first | exact k1 (by omega) (by omega) (by rw [exe9]; have z1 := MM_inj v.p cb he9 (by omega); exact z1) | exact k0 (by omega) (by omega) (fun z => by rw [exe9] at z; have := congrArg (MM σ.p) (show cm σ.p (σ.rw i) blind = e9 from z); omega)
  · skip
    refine x_iconst (dT U_X10_isOpened 17 rfl) ?_
    refine x_goto (tgt := 36) (dT U_X10_isOpened 18 rfl) (by decide) ?_
    refine x_zreturn (dT U_X10_isOpened 20 rfl) rfl (by omega) ?_
    first | exact k1 (by omega) (by omega) (by rw [exe9]; have z1 := MM_inj v.p cb he9 (by omega); exact z1) | exact k0 (by omega) (by omega) (fun z => by rw [exe9] at z; have := congrArg (MM σ.p) (show cm σ.p (σ.rw i) blind = e9 from z); omega)

set_option maxRecDepth 20000 in
set_option maxHeartbeats 1000000 in
theorem S_X10_breaks {G : xG} {d rc rs : Nat} {ex : Bool} {h : xH} {Q : xQ} {σ : St} {row blind place to : Int} (w : CW σ h) (v : INV σ) (h_row : xr row) (h_blind : xr blind) (h_place : xr place) (h_to : xr to) (e1 : ¬ (inb row 8 ∧ inb place 8 ∧ inb to 8) → Q (.inr IOE) false h) (e2 : (inb row 8 ∧ inb place 8 ∧ inb to 8) → ¬ (inb blind σ.p) → Q (.inr IAE) false h) (k : (inb row 8 ∧ inb place 8 ∧ inb to 8) → (inb blind σ.p) → ∀ h2, FC h h2 → CW (σ.sRow to.toNat ((σ.rw row.toNat).set place.toNat (((σ.rw row.toNat).getD place.toNat 0 + 1) % (σ.p : Int)))) h2 → Q (.inl (some (vi (((cm σ.p (σ.rw row.toNat) blind - wt σ.p ((σ.rw row.toNat).set place.toNat (((σ.rw row.toNat).getD place.toNat 0 + 1) % (σ.p : Int)))) % (σ.p : Int)) * (iv σ.p (bs σ.p 8) : Int) % (σ.p : Int))))) ex h2) : X G m_X10_breaks (d + 7) (rc + 4) (rs + 24) ex 0 (xe m_X10_breaks.2.2.1 [.ref 3, vi row, vi blind, vi place, vi to]) [] h Q := by
  show X G m_X10_breaks _ _ _ _ 0 [some (.ref 3), some (vi row), some (vi blind), some (vi place), some (vi to), none, none, none] [] h Q
  have hp := PRb v.p
  have hq := gq_b v.p
  refine x_aload_n (dT U_X10_breaks 0 rfl) rfl ?_
  refine x_iload_n (dT U_X10_breaks 1 rfl) rfl ?_
  refine x_invokevirtual (rc' := rc + 3) (rs' := rs + 18) (rc2 := 1) (rs2 := 6) (As := [_]) (st := _) M_X10_rowAt K_X10_139 (dT U_X10_breaks 2 rfl) rfl rfl (by decide) rfl rfl w.c3 (Nat.le_of_ble_eq_true rfl) (by decide) rfl (Nat.le_of_ble_eq_true rfl) rfl (by decide) (Nat.le_of_ble_eq_true rfl) rfl rfl ?_
  refine S_X10_rowAt w v h_row (fun q => xRet_thr (e1 (by omega))) (fun i hi ezi => ?_)
  subst ezi
  have li := v.rw i hi
  refine xRet_some ?_
  refine x_astore (ls' := [some (.ref _), some (vi _), some (vi _), some (vi _), some (vi _), some (.ref _), none, none]) (dT U_X10_breaks 3 rfl) (by decide) rfl ?_
  refine x_iload_n (dT U_X10_breaks 4 rfl) rfl ?_
  refine x_invokestatic (rc' := rc + 2) (rs' := rs + 12) (rc2 := 1) (rs2 := 6) (As := [_]) (st := _) M_X10_needPlace K_X10_143 (dT U_X10_breaks 5 rfl) rfl rfl rfl rfl (Nat.le_of_ble_eq_true rfl) rfl (by decide) (Nat.le_of_ble_eq_true rfl) rfl rfl ?_
  refine S_X10_needPlace v h_place (fun q => xRet_thr (e1 (by omega))) (fun j hj ezj => ?_)
  subst ezj
  refine xRet_none ?_
  refine x_aload_n (dT U_X10_breaks 6 rfl) rfl ?_
  refine x_iload (dT U_X10_breaks 7 rfl) rfl ?_
  refine x_invokevirtual (rc' := rc + 1) (rs' := rs + 6) (rc2 := 1) (rs2 := 6) (As := [_]) (st := _) M_X10_rowAt K_X10_139 (dT U_X10_breaks 8 rfl) rfl rfl (by decide) rfl rfl w.c3 (Nat.le_of_ble_eq_true rfl) (by decide) rfl (Nat.le_of_ble_eq_true rfl) rfl (by decide) (Nat.le_of_ble_eq_true rfl) rfl rfl ?_
  refine S_X10_rowAt w v h_to (fun q => xRet_thr (e1 (by omega))) (fun t ht ezt => ?_)
  subst ezt
  have lt := v.rw t ht
  refine xRet_some ?_
  refine x_astore (ls' := [some (.ref _), some (vi _), some (vi _), some (vi _), some (vi _), some (.ref _), some (.ref _), none]) (dT U_X10_breaks 9 rfl) (by decide) rfl ?_
  refine x_aload_n (dT U_X10_breaks 10 rfl) rfl ?_
  refine x_iload_n (dT U_X10_breaks 11 rfl) rfl ?_
  refine x_invokevirtual (rc' := rc) (rs' := rs) (rc2 := 1) (rs2 := 6) (As := [_]) (st := _) M_X10_needNumber K_X10_147 (dT U_X10_breaks 12 rfl) rfl rfl (by decide) rfl rfl w.c3 (Nat.le_of_ble_eq_true rfl) (by decide) rfl (Nat.le_of_ble_eq_true rfl) rfl (by decide) (Nat.le_of_ble_eq_true rfl) rfl rfl ?_
  refine S_X10_needNumber w v h_blind (fun q => xRet_thr (e2 (by omega) (by omega))) (fun q1 => ?_)
  refine xRet_none ?_
  refine x_aload_n (dT U_X10_breaks 13 rfl) rfl ?_
  refine x_getfield F_X10_21 (dT U_X10_breaks 14 rfl) w.c3 (Nat.le_of_ble_eq_true rfl) rfl ?_
  refine x_aload (dT U_X10_breaks 15 rfl) rfl ?_
  refine x_iload_n (dT U_X10_breaks 16 rfl) rfl ?_
  refine x_invokevirtual (rc' := rc) (rs' := rs) (rc2 := 0) (rs2 := 0) (As := [_, _]) (st := _) M_X3_commitmentOf K_X10_229 (dT U_X10_breaks 17 rfl) rfl rfl (by decide) rfl rfl w.gw.2.1 (Nat.le_of_ble_eq_true rfl) (by decide) rfl (Nat.le_of_ble_eq_true rfl) rfl (by decide) (Nat.le_of_ble_eq_true rfl) rfl rfl ?_
  refine S_X3_commitmentOf w.gw v.p (w.rows i hi) (by omega) li q1 ?_
  have cb := cm_b (p := σ.p) (l := σ.rw i) (b := blind) hp.1
  have cM := MM_b v.p cb
  refine xRet_some ?_
  refine x_istore (ls' := [some (.ref _), some (vi _), some (vi _), some (vi _), some (vi _), some (.ref _), some (.ref _), some (vi _)]) (dT U_X10_breaks 18 rfl) (by decide) rfl ?_
  refine x_aload (dT U_X10_breaks 19 rfl) rfl ?_
  refine x_aload (dT U_X10_breaks 20 rfl) rfl ?_
  refine x_invokestatic (rc' := rc) (rs' := rs) (rc2 := 0) (rs2 := 0) (As := [_, _]) (st := _) M_X1_copy K_X10_232 (dT U_X10_breaks 21 rfl) rfl rfl rfl rfl (Nat.le_of_ble_eq_true rfl) rfl (by decide) (Nat.le_of_ble_eq_true rfl) rfl rfl ?_
  refine S_X1_copy (w.rows i hi) (by omega) li.1 (w.rows t ht) (by omega) lt.1 ?_
  refine xRet_none ?_
  refine x_aload (dT U_X10_breaks 22 rfl) rfl ?_
  refine x_iload_n (dT U_X10_breaks 23 rfl) rfl ?_
  refine x_aload_n (dT U_X10_breaks 24 rfl) rfl ?_
  refine x_getfield F_X10_10 (dT U_X10_breaks 25 rfl) (hset_ne (by omega) w.c3) (Nat.le_of_ble_eq_true rfl) rfl ?_
  refine x_aload (dT U_X10_breaks 26 rfl) rfl ?_
  refine x_iload_n (dT U_X10_breaks 27 rfl) rfl ?_
  refine x_iaload (j) (dT U_X10_breaks 28 rfl) (hset_eq (w.rows t ht)) (by omega) rfl (by rw [li.1]; omega) (by rw [li.1]; omega) ?_
  refine x_iconst (dT U_X10_breaks 29 rfl) ?_
  refine x_invokevirtual (rc' := rc) (rs' := rs) (rc2 := 0) (rs2 := 0) (As := [_, _]) (st := _) M_X1_sum K_X10_236 (dT U_X10_breaks 30 rfl) rfl rfl (by decide) rfl rfl (hset_ne (by omega) w.gw.1) (Nat.le_of_ble_eq_true rfl) (by decide) rfl (Nat.le_of_ble_eq_true rfl) rfl (by decide) (Nat.le_of_ble_eq_true rfl) rfl rfl ?_
  have lij := li.2 j
  refine S_X1_sum (hset_ne (by omega) w.gw.1) hp (by unfold xr; omega) ?_
  refine xRet_some ?_
  refine x_iastore (j) (dT U_X10_breaks 31 rfl) (hset_eq (w.rows t ht)) (by omega) rfl (by rw [li.1]; omega) (by rw [li.1]; omega) ?_
  rw [List.set_set]
  refine x_aload_n (dT U_X10_breaks 32 rfl) rfl ?_
  refine x_getfield F_X10_21 (dT U_X10_breaks 33 rfl) (hset_ne (by omega) w.c3) (Nat.le_of_ble_eq_true rfl) rfl ?_
  refine x_aload (dT U_X10_breaks 34 rfl) rfl ?_
  refine x_iload (dT U_X10_breaks 35 rfl) rfl ?_
  refine x_invokevirtual (rc' := rc) (rs' := rs) (rc2 := 0) (rs2 := 0) (As := [_, _]) (st := _) M_X3_blindFor K_X10_239 (dT U_X10_breaks 36 rfl) rfl rfl (by decide) rfl rfl (hset_ne (by omega) w.gw.2.1) (Nat.le_of_ble_eq_true rfl) (by decide) rfl (Nat.le_of_ble_eq_true rfl) rfl (by decide) (Nat.le_of_ble_eq_true rfl) rfl rfl ?_
  have mj := modb (z := (σ.rw i).getD j 0 + 1) (p := (σ.p : Int)) (by omega)
  refine S_X3_blindFor (w.gw.s1 (by omega)) v.p (hset_eq (w.rows t ht)) (by omega) (li.set mj) (by unfold xr; omega) (exI_MM v.p cb) ?_
  refine xRet_some ?_
  refine x_ireturn (dT U_X10_breaks 37 rfl) rfl ?_
  exact k (by omega) (by omega) _ ((Ag.rf 3 69 h).set (by omega)) (w.row ((Ag.rf (10 + t) (10 + t) h).set (by omega)) ht (hset_eq (w.rows t ht)))
