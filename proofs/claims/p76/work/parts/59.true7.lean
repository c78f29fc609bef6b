set_option maxRecDepth 20000 in
set_option maxHeartbeats 1000000 in
theorem S_X2_isFair0 {G : xG} {d rc rs : Nat} {ex : Bool} {h : xH} {Q : xQ} {r : Nat} {s i c z o : Int} (hg : h[52]? = some (cG 0 s i c r z o)) (k : Q (.inl (some (vi 1))) ex h) : X G m_X2_isFair (d + 5) rc rs ex 0 (xe m_X2_isFair.2.2.1 [.ref 52]) [] h Q := by
  show X G m_X2_isFair _ _ _ _ 0 [some (.ref 52)] [] h Q
  refine x_aload_n (dT U_X2_isFair 0 rfl) rfl ?_
  refine x_getfield F_X2_25 (dT U_X2_isFair 1 rfl) (show _ = some (cO 2 [.ref 4, .ref 53, vi 0, vi s, vi i, vi c, vi (r : Int), vi z, vi o]) from hg) (Nat.le_of_ble_eq_true rfl) rfl ?_
  refine x_if_ne (tgt := 9) (dT U_X2_isFair 2 rfl) (by decide) (by unfold xr; omega) (fun c4 => ?_) (fun c4 => ?_)
  · exfalso; omega
  · skip
    refine x_iconst (dT U_X2_isFair 3 rfl) ?_
    refine x_zreturn (dT U_X2_isFair 4 rfl) rfl (by omega) ?_
    exact k

set_option maxRecDepth 20000 in
set_option maxHeartbeats 1000000 in
theorem S_fair {G : xG} {d rc rs : Nat} {ex : Bool} {h : xH} {Q : xQ} {σ : St} (w : CW σ h) (v : INV σ) (k : Q (.inl (some (vi 1))) ex h) : X G m_X2_isFair (d + 5) rc rs ex 0 (xe m_X2_isFair.2.2.1 [.ref 52]) [] h Q := by
  obtain ⟨g1, g2, g3, g4, g5, g6, g7, g8, g9, g10, g11, g12⟩ := v.g
  rcases g1 with q | q
  · have c52 := w.c52
    rw [q] at c52
    exact S_X2_isFair0 c52 k
  · obtain ⟨y1, y2, y3, y4, y5, y6, y7, y8⟩ := g12 q
    exact S_X2_isFair v.p w.gw.1 w.c52 w.c53 y2 g4 g2 g5 (by unfold xr; omega) (fun z => (y6 z).1) (fun z => (y6 z).2) y1 (Or.inr q) g3 y7 y8 k

set_option maxRecDepth 20000 in
set_option maxHeartbeats 1000000 in
theorem S_X10_isTrue {G : xG} {d rc rs : Nat} {ex : Bool} {h : xH} {Q : xQ} {σ : St} (w : CW σ h) (v : INV σ) (k : ∀ h2, FC h h2 → CW σ h2 → Q (.inl (some (vi 1))) ex h2) : X G m_X10_isTrue (d + 7) rc rs ex 0 (xe m_X10_isTrue.2.2.1 [.ref 3]) [] h Q := by
  show X G m_X10_isTrue _ _ _ _ 0 [some (.ref 3)] [] h Q
  refine x_aload_n (dT U_X10_isTrue 0 rfl) rfl ?_
  refine x_invokevirtual (rc' := rc) (rs' := rs) (rc2 := 0) (rs2 := 0) (As := []) (st := _) M_X10_runsAreTrue K_X10_540 (dT U_X10_isTrue 1 rfl) rfl rfl (by decide) rfl rfl w.c3 (Nat.le_of_ble_eq_true rfl) (by decide) rfl (Nat.le_of_ble_eq_true rfl) rfl (by decide) (Nat.le_of_ble_eq_true rfl) rfl rfl ?_
  refine S_X10_runsAreTrue w v (fun h2 f2 w2 => ?_)
  refine xRet_some ?_
  refine x_if_eq (tgt := 59) (dT U_X10_isTrue 2 rfl) (by decide) (by unfold xr; omega) (fun c4 => ?_) (fun c4 => ?_)
  · exfalso; omega
  · skip
    refine x_aload_n (dT U_X10_isTrue 3 rfl) rfl ?_
    refine x_invokevirtual (rc' := rc) (rs' := rs) (rc2 := 0) (rs2 := 0) (As := []) (st := _) M_X10_joinsAreTrue K_X10_543 (dT U_X10_isTrue 4 rfl) rfl rfl (by decide) rfl rfl w2.c3 (Nat.le_of_ble_eq_true rfl) (by decide) rfl (Nat.le_of_ble_eq_true rfl) rfl (by decide) (Nat.le_of_ble_eq_true rfl) rfl rfl ?_
    refine S_X10_joinsAreTrue w2 v (fun h3 f3 w3 => ?_)
    refine xRet_some ?_
    refine x_if_eq (tgt := 59) (dT U_X10_isTrue 5 rfl) (by decide) (by unfold xr; omega) (fun c11 => ?_) (fun c11 => ?_)
    · exfalso; omega
    · skip
      refine x_aload_n (dT U_X10_isTrue 6 rfl) rfl ?_
      refine x_invokevirtual (rc' := rc) (rs' := rs) (rc2 := 0) (rs2 := 0) (As := []) (st := _) M_X10_pairsAreTrue K_X10_546 (dT U_X10_isTrue 7 rfl) rfl rfl (by decide) rfl rfl w3.c3 (Nat.le_of_ble_eq_true rfl) (by decide) rfl (Nat.le_of_ble_eq_true rfl) rfl (by decide) (Nat.le_of_ble_eq_true rfl) rfl rfl ?_
      refine S_X10_pairsAreTrue w3 v ?_
      refine xRet_some ?_
      refine x_if_eq (tgt := 59) (dT U_X10_isTrue 8 rfl) (by decide) (by unfold xr; omega) (fun c18 => ?_) (fun c18 => ?_)
      · exfalso; omega
      · skip
        refine x_aload_n (dT U_X10_isTrue 9 rfl) rfl ?_
        refine x_invokevirtual (rc' := rc) (rs' := rs) (rc2 := 0) (rs2 := 0) (As := []) (st := _) M_X10_rowsAreTrue K_X10_549 (dT U_X10_isTrue 10 rfl) rfl rfl (by decide) rfl rfl w3.c3 (Nat.le_of_ble_eq_true rfl) (by decide) rfl (Nat.le_of_ble_eq_true rfl) rfl (by decide) (Nat.le_of_ble_eq_true rfl) rfl rfl ?_
        refine S_X10_rowsAreTrue w3 v (fun h4 f4 w4 => ?_)
        refine xRet_some ?_
        refine x_if_eq (tgt := 59) (dT U_X10_isTrue 11 rfl) (by decide) (by unfold xr; omega) (fun c25 => ?_) (fun c25 => ?_)
        · exfalso; omega
        · skip
          refine x_aload_n (dT U_X10_isTrue 12 rfl) rfl ?_
          refine x_invokevirtual (rc' := rc) (rs' := rs) (rc2 := 0) (rs2 := 0) (As := []) (st := _) M_X10_treesAreTrue K_X10_552 (dT U_X10_isTrue 13 rfl) rfl rfl (by decide) rfl rfl w4.c3 (Nat.le_of_ble_eq_true rfl) (by decide) rfl (Nat.le_of_ble_eq_true rfl) rfl (by decide) (Nat.le_of_ble_eq_true rfl) rfl rfl ?_
          refine S_X10_treesAreTrue w4 v (fun h5 f5 w5 => ?_)
          refine xRet_some ?_
          refine x_if_eq (tgt := 59) (dT U_X10_isTrue 14 rfl) (by decide) (by unfold xr; omega) (fun c32 => ?_) (fun c32 => ?_)
          · exfalso; omega
          · skip
            refine x_aload_n (dT U_X10_isTrue 15 rfl) rfl ?_
            refine x_getfield F_X10_65 (dT U_X10_isTrue 16 rfl) w5.c3 (Nat.le_of_ble_eq_true rfl) rfl ?_
            refine x_invokevirtual (rc' := rc) (rs' := rs) (rc2 := 0) (rs2 := 0) (As := []) (st := _) M_X2_isFair K_X10_555 (dT U_X10_isTrue 17 rfl) rfl rfl (by decide) rfl rfl (show _ = some (cO 2 [.ref 4, .ref 53, vi σ.g.b, vi σ.g.s, vi σ.g.i, vi σ.g.c, vi (σ.g.r : Int), vi σ.g.z, vi σ.g.o]) from w5.c52) (Nat.le_of_ble_eq_true rfl) (by decide) rfl (Nat.le_of_ble_eq_true rfl) rfl (by decide) (Nat.le_of_ble_eq_true rfl) rfl rfl ?_
            refine S_fair w5 v ?_
            refine xRet_some ?_
            refine x_if_eq (tgt := 59) (dT U_X10_isTrue 18 rfl) (by decide) (by unfold xr; omega) (fun c42 => ?_) (fun c42 => ?_)
            · exfalso; omega
            · skip
              refine x_aload_n (dT U_X10_isTrue 19 rfl) rfl ?_
              refine x_getfield F_X10_72 (dT U_X10_isTrue 20 rfl) w5.c3 (Nat.le_of_ble_eq_true rfl) rfl ?_
              refine x_invokevirtual (rc' := rc) (rs' := rs) (rc2 := 0) (rs2 := 0) (As := []) (st := _) M_X4_isBalanced K_X10_558 (dT U_X10_isTrue 21 rfl) rfl rfl (by decide) rfl rfl (show _ = some (cO 4 [.ref 5, .ref 55, vi (σ.L.n : Int), vi (MM σ.p σ.L.mi), vi (MM σ.p σ.L.pa)]) from w5.c54) (Nat.le_of_ble_eq_true rfl) (by decide) rfl (Nat.le_of_ble_eq_true rfl) rfl (by decide) (Nat.le_of_ble_eq_true rfl) rfl rfl ?_
              refine S_X4_isBalanced v.p w5.gw w5.c54 w5.c55 v.L.2.2.1 v.L.1 v.L.2.2.2.2.1 v.L.2.2.2.1 v.L.2.2.2.2.2.1 v.L.2.2.2.2.2.2 ?_
              refine xRet_some ?_
              refine x_if_eq (tgt := 59) (dT U_X10_isTrue 22 rfl) (by decide) (by unfold xr; omega) (fun c52 => ?_) (fun c52 => ?_)
              · exfalso; omega
              · skip
                refine x_iconst (dT U_X10_isTrue 23 rfl) ?_
                refine x_goto (tgt := 60) (dT U_X10_isTrue 24 rfl) (by decide) ?_
                refine x_zreturn (dT U_X10_isTrue 26 rfl) rfl (by omega) ?_
                exact k h5 ((Ag.tr (Ag.tr (Ag.tr f2 f3) f4) f5).w (by omega)) w5

def setN (f : Nat → Nat) (c : Nat → xC) (h : xH) : Nat → xH
  | 0 => h
  | t + 1 => (setN f c h t).set (f t) (c t)
theorem sN_ne {f : Nat → Nat} {c : Nat → xC} {h : xH} {a : Nat} : ∀ {t : Nat}, (∀ u, u < t → f u ≠ a) → (setN f c h t)[a]? = h[a]?
  | 0, _ => rfl
  | t + 1, hn => by
    show ((setN f c h t).set (f t) (c t))[a]? = _
    rw [hset_fr (Ne.symm (hn t (by omega)))]
    exact sN_ne (fun u hu => hn u (by omega))
theorem sN_eq {f : Nat → Nat} {c : Nat → xC} {h : xH} {j : Nat} (inj : ∀ u v, f u = f v → u = v) {x : xC} (hx : h[f j]? = some x) : ∀ {t : Nat}, j < t → (setN f c h t)[f j]? = some (c j)
  | 0, hj => absurd hj (Nat.not_lt_zero j)
  | t + 1, hj => by
    show ((setN f c h t).set (f t) (c t))[f j]? = _
    by_cases e : j = t
    · subst e
      refine hset_eq (x := x) ?_
      rw [sN_ne (fun u hu z => by have := inj u j z; omega)]
      exact hx
    · rw [hset_fr (fun z => e (inj j t z))]
      exact sN_eq inj hx (by omega)
theorem sN_len {f : Nat → Nat} {c : Nat → xC} {h : xH} : ∀ t : Nat, (setN f c h t).length = h.length
  | 0 => rfl
  | t + 1 => by show ((setN f c h t).set (f t) (c t)).length = _; rw [List.length_set]; exact sN_len t
theorem sN_ag {f : Nat → Nat} {c : Nat → xC} {h0 h : xH} {lo hi t : Nat} (g : Ag lo hi h0 h) (hf : ∀ u, u < t → lo ≤ f u ∧ f u ≤ hi) : Ag lo hi h0 (setN f c h t) :=
  ⟨(sN_len t).trans g.1, fun a ha => (sN_ne (fun u hu z => ha (by have q := hf u hu; rw [z] at q; exact q))).trans (g.2 a ha)⟩
def prn (n : Nat) : Nat := (xPr n).toNat
theorem prn_ok0 : ∀ n ∈ List.range 8, xPr n = (prn n : Int) ∧ prn n ∈ PR := by decide
theorem prn_ok {n : Nat} (h : n < 8) : xPr n = (prn n : Int) ∧ prn n ∈ PR := prn_ok0 n (List.mem_range.mpr h)
def zr8 : List Int := tab (fun _ => 0) 8
def fldSt (σ : St) (p : Nat) : St := (p, fun _ => zr8, fun i => rNone (σ.R i), fun i => pNone σ.p (σ.P i), (0, σ.G.k, σ.G.a, σ.G.b, σ.G.c), (0, σ.g.s, σ.g.i, σ.g.c, σ.g.r, σ.g.z, σ.g.o, σ.g.l, σ.g.tbl, σ.g.dr), (0, 0, 0, σ.L.nn, σ.L.gl))
theorem INV.fld {σ : St} {p : Nat} (v : INV σ) (hp : p ∈ PR) : INV (fldSt σ p) := by
  have hb := PRb hp
  obtain ⟨g1, g2, g3, g4, g5, g6, g7, g8, g9, g10, g11, g12⟩ := v.g
  obtain ⟨l1, l2, l3, l4, l5, l6, l7⟩ := v.L
  refine ⟨hp, fun j _ => Fl_tab (by show (0 : Int) < (p : Int); omega) (fun _ _ => ⟨Int.le_refl 0, by show (0 : Int) < (p : Int); omega⟩), fun i hi => rNone_ok (v.R i hi), fun i hi => pNone_ok v.p (v.P i hi), ⟨Nat.zero_le 8, v.G.2.1, fun i hi => absurd hi (Nat.not_lt_zero i)⟩, ⟨Or.inl rfl, g2, g3, g4, g5, g6, g7, g8, g9, g10, g11, fun z => absurd (show (0 : Int) = 1 from z) (by decide)⟩, ⟨Nat.zero_le 16, l2, l3, fun i hi => absurd hi (Nat.not_lt_zero i), fun i hi => absurd hi (Nat.not_lt_zero i), ⟨Int.le_refl 0, by show (0 : Int) < (p : Int); omega⟩, ?_⟩⟩
  show (0 : Int) = (0 % (p : Int) + 0) % (p : Int)
  rw [Int.zero_emod, Int.add_zero, Int.zero_emod]

set_option maxRecDepth 20000 in
theorem CW.fld {σ : St} {h H : xH} {p : Nat} (w : CW σ h) (hp : p ∈ PR) (g : GW p H) (o : ∀ a, ¬ (4 ≤ a ∧ a ≤ 8) ∧ ¬ (10 ≤ a ∧ a ≤ 17) ∧ a ≠ 22 ∧ a ≠ 26 ∧ a ≠ 30 ∧ a ≠ 34 ∧ a ≠ 39 ∧ a ≠ 43 ∧ a ≠ 47 ∧ a ≠ 52 ∧ a ≠ 54 → H[a]? = h[a]?) (r : ∀ j, j < 8 → H[10 + j]? = some (cA 0 zr8)) (ru : ∀ j, j < 4 → H[22 + 4 * j]? = some (cR (22 + 4 * j) (-1, -1, -1, -1, -1, -1, -1, 0))) (pa : ∀ j, j < 2 → H[39 + 4 * j]? = some (cP (39 + 4 * j) (-1) 0 0 (-1) (-1))) (c47 : H[47]? = some (cC 0)) (c52 : H[52]? = some (cG 0 σ.g.s σ.g.i σ.g.c σ.g.r σ.g.z σ.g.o)) (c54 : H[54]? = some (cL 0 1 1)) : CW (fldSt σ p) H := ⟨
  (o _ (by omega)).trans w.c3,
  g,
  (o _ (by omega)).trans w.c9,
  r,
  (o _ (by omega)).trans w.c18,
  Exists.elim w.s19 (fun l q => ⟨l, (o _ (by omega)).trans q.1, q.2⟩),
  Exists.elim w.s20 (fun l q => ⟨l, (o _ (by omega)).trans q.1, q.2⟩),
  (o _ (by omega)).trans w.c21,
  fun i hi => ⟨(w.runs i hi).1, ru i hi, (o _ (by omega)).trans (w.runs i hi).2.2.1, (o _ (by omega)).trans (w.runs i hi).2.2.2.1, (o _ (by omega)).trans (w.runs i hi).2.2.2.2⟩,
  (o _ (by omega)).trans w.c38,
  fun i hi => ⟨(w.pairs i hi).1, pa i hi, (o _ (by omega)).trans (w.pairs i hi).2.2.1, (o _ (by omega)).trans (w.pairs i hi).2.2.2.1, (o _ (by omega)).trans (w.pairs i hi).2.2.2.2⟩,
  c47,
  (o _ (by omega)).trans w.c48,
  (o _ (by omega)).trans w.c49,
  (o _ (by omega)).trans w.c50,
  (o _ (by omega)).trans w.c51,
  c52,
  (o _ (by omega)).trans w.c53,
  c54.trans (by rw [show cL 0 1 1 = cL 0 (MM p 0) (MM p 0) by rw [MM_0 hp]]; rfl),
  (o _ (by omega)).trans w.c55,
  (o _ (by omega)).trans w.c56,
  Exists.elim w.s57 (fun l q => ⟨l, (o _ (by omega)).trans q.1, q.2⟩),
  (o _ (by omega)).trans w.c58,
  Exists.elim w.s59 (fun l q => ⟨l, (o _ (by omega)).trans q.1, q.2⟩),
  (o _ (by omega)).trans w.c60,
  Exists.elim w.s61 (fun l q => ⟨l, (o _ (by omega)).trans q.1, q.2⟩),
  Exists.elim w.s62 (fun l q => ⟨l, (o _ (by omega)).trans q.1, q.2⟩),
  Exists.elim w.s63 (fun l q => ⟨l, (o _ (by omega)).trans q.1, q.2⟩),
  (o _ (by omega)).trans w.c64,
  Exists.elim w.s65 (fun l q => ⟨l, (o _ (by omega)).trans q.1, q.2⟩),
  Exists.elim w.s66 (fun l q => ⟨l, (o _ (by omega)).trans q.1, q.2⟩),
  Exists.elim w.s67 (fun l q => ⟨l, (o _ (by omega)).trans q.1, q.2⟩),
  Exists.elim w.s68 (fun l q => ⟨l, (o _ (by omega)).trans q.1, q.2⟩),
  Exists.elim w.s69 (fun l q => ⟨l, (o _ (by omega)).trans q.1, q.2⟩)⟩
set_option maxRecDepth 20000 in
set_option maxHeartbeats 1000000 in
theorem S_X10_field {G : xG} {d rc rs : Nat} {ex : Bool} {h : xH} {Q : xQ} {σ : St} {number : Int} (w : CW σ h) (v : INV σ) (h_number : xr number) (e1 : ¬ (inb number 8) → Q (.inr IAE) false h) (k : (inb number 8) → ∀ h2, FC h h2 → CW (fldSt σ (prn number.toNat)) h2 → Q (.inl (some (vi ((prn number.toNat : Int))))) ex h2) : X G m_X10_field (d + 6) (rc + 1) (rs + 6) ex 0 (xe m_X10_field.2.2.1 [.ref 3, vi number]) [] h Q := by
  show X G m_X10_field _ _ _ _ 0 [some (.ref 3), some (vi number), none] [] h Q
  have hp := PRb v.p
  have hq := gq_b v.p
  have hC : h[47]? = some (cO 0 [.ref 4, .ref 9, .ref 48, .ref 49, .ref 50, .ref 51, vi (σ.G.n : Int)]) := w.c47
  have hG : h[52]? = some (cO 2 [.ref 4, .ref 53, vi σ.g.b, vi σ.g.s, vi σ.g.i, vi σ.g.c, vi (σ.g.r : Int), vi σ.g.z, vi σ.g.o]) := w.c52
  have hL : h[54]? = some (cO 4 [.ref 5, .ref 55, vi (σ.L.n : Int), vi (MM σ.p σ.L.mi), vi (MM σ.p σ.L.pa)]) := w.c54
  refine x_iload_n (dT U_X10_field 0 rfl) rfl ?_
  refine x_if_lt (tgt := 12) (dT U_X10_field 1 rfl) (by decide) h_number (fun c1 => ?_) (fun c1 => ?_)
  · skip
    refine x_throw T_IA rfl (is := 108) (text := "there is no such field") (by decide) rfl (by omega) (Nat.le_of_ble_eq_true rfl) (by omega) (by omega) (dT U_X10_field 6 rfl) (dT U_X10_field 7 rfl) (dT U_X10_field 8 rfl) (dT U_X10_field 9 rfl) (dT U_X10_field 10 rfl) ?_
    exact e1 (by omega)
  · skip
    refine x_iload_n (dT U_X10_field 2 rfl) rfl ?_
    refine x_primesC rfl FP_X10_103 (dT U_X10_field 3 rfl) ?_
    refine x_lenP (dT U_X10_field 4 rfl) ?_
    refine x_icmp_lt (tgt := 22) (dT U_X10_field 5 rfl) (by decide) h_number (by unfold xr; omega) (fun c9 => ?_) (fun c9 => ?_)
    · skip
      obtain ⟨j, rfl⟩ : ∃ j : Nat, number = (j : Int) := ⟨number.toNat, by omega⟩
      obtain ⟨ep, hp8⟩ := prn_ok (show j < 8 by omega)
      refine x_aload_n (dT U_X10_field 11 rfl) rfl ?_
      refine x_getfield F_X10_10 (dT U_X10_field 12 rfl) w.c3 (Nat.le_of_ble_eq_true rfl) rfl ?_
      refine x_primesC rfl FP_X10_103 (dT U_X10_field 13 rfl) ?_
      refine x_iload_n (dT U_X10_field 14 rfl) rfl ?_
      refine x_ialoadP (j) (Or.inl rfl) (dT U_X10_field 15 rfl) rfl (by omega) ?_
      refine x_putfield F_X10_113 (dT U_X10_field 16 rfl) w.gw.1 (Nat.le_of_ble_eq_true rfl) (Nat.le_of_ble_eq_true rfl) rfl rfl ?_
      rw [ep]
      change X G _ _ _ _ _ _ _ _ (h.set 4 (cO 1 [vi (prn j : Int)])) _
      refine x_aload_n (dT U_X10_field 17 rfl) rfl ?_
      refine x_getfield F_X10_21 (dT U_X10_field 18 rfl) (hset_ne (by omega) w.c3) (Nat.le_of_ble_eq_true rfl) rfl ?_
      refine x_invokevirtual (rc' := rc + 1) (rs' := rs + 6) (rc2 := 0) (rs2 := 0) (As := []) (st := _) M_X3_build K_X10_117 (dT U_X10_field 19 rfl) rfl rfl (by decide) rfl rfl (hset_ne (by omega) w.gw.2.1) (Nat.le_of_ble_eq_true rfl) (by decide) rfl (Nat.le_of_ble_eq_true rfl) rfl (by decide) (Nat.le_of_ble_eq_true rfl) rfl rfl ?_
      obtain ⟨ml, g6, gl6, g66⟩ := w.gw.2.2.1
      refine S_X3_build hp8 (hset_eq w.gw.1) (hset_ne (by omega) w.gw.2.1) (hset_ne (by omega) g6) gl6 (hset_ne (by omega) w.gw.2.2.2.1) (tab_len _ _) (hset_ne (by omega) w.gw.2.2.2.2) (tab_len _ _) (fun h2 fr gw2 => ?_)
      have ag2 : Ag 4 8 h h2 := ⟨fr.1.trans List.length_set, fun a ha => (fr.2 a (by simp only [List.mem_cons, List.not_mem_nil, or_false]; omega)).trans (hset_fr (by omega))⟩
      refine xRet_none ?_
      refine x_iconst (dT U_X10_field 20 rfl) ?_
      refine x_istore_n (ls' := [some (.ref _), some (vi _), some (vi _)]) (dT U_X10_field 21 rfl) (by decide) rfl ?_
      have TL : X G m_X10_field (d + 6) (rc + 1) (rs + 6) ex 108 [some (.ref 3), some (vi (j : Int)), some (vi ((2 : Nat) : Int))] [] (setN (fun u => 39 + 4 * u) (fun u => cP (39 + 4 * u) (-1) 0 0 (-1) (-1)) (setN (fun u => 22 + 4 * u) (fun u => cR (22 + 4 * u) (-1, -1, -1, -1, -1, -1, -1, 0)) (setN (fun u => 10 + u) (fun _ => cA 0 zr8) h2 8) 4) 2) Q := by
          refine x_aload_n (dT U_X10_field 56 rfl) rfl ?_
          refine x_getfield F_X10_58 (dT U_X10_field 57 rfl) ((sN_ne (fun u hu => by omega)).trans ((sN_ne (fun u hu => by omega)).trans ((sN_ne (fun u hu => by omega)).trans (ag2.get w.c3 (by omega))))) (Nat.le_of_ble_eq_true rfl) rfl ?_
          refine x_iconst (dT U_X10_field 58 rfl) ?_
          refine x_putfield F_X10_128 (dT U_X10_field 59 rfl) ((sN_ne (fun u hu => by omega)).trans ((sN_ne (fun u hu => by omega)).trans ((sN_ne (fun u hu => by omega)).trans (ag2.get hC (by omega))))) (Nat.le_of_ble_eq_true rfl) (Nat.le_of_ble_eq_true rfl) rfl rfl ?_
          change X G _ _ _ _ _ _ _ _ ((setN (fun u => 39 + 4 * u) (fun u => cP (39 + 4 * u) (-1) 0 0 (-1) (-1)) (setN (fun u => 22 + 4 * u) (fun u => cR (22 + 4 * u) (-1, -1, -1, -1, -1, -1, -1, 0)) (setN (fun u => 10 + u) (fun _ => cA 0 zr8) h2 8) 4) 2).set 47 (cC 0)) _
          refine x_aload_n (dT U_X10_field 60 rfl) rfl ?_
          refine x_getfield F_X10_65 (dT U_X10_field 61 rfl) (hset_ne (by omega) (((sN_ne (fun u hu => by omega)).trans ((sN_ne (fun u hu => by omega)).trans ((sN_ne (fun u hu => by omega)).trans (ag2.get w.c3 (by omega))))))) (Nat.le_of_ble_eq_true rfl) rfl ?_
          refine x_iconst (dT U_X10_field 62 rfl) ?_
          refine x_putfield F_X10_131 (dT U_X10_field 63 rfl) (hset_ne (by omega) (((sN_ne (fun u hu => by omega)).trans ((sN_ne (fun u hu => by omega)).trans ((sN_ne (fun u hu => by omega)).trans (ag2.get hG (by omega))))))) (Nat.le_of_ble_eq_true rfl) (Nat.le_of_ble_eq_true rfl) rfl rfl ?_
          change X G _ _ _ _ _ _ _ _ (((setN (fun u => 39 + 4 * u) (fun u => cP (39 + 4 * u) (-1) 0 0 (-1) (-1)) (setN (fun u => 22 + 4 * u) (fun u => cR (22 + 4 * u) (-1, -1, -1, -1, -1, -1, -1, 0)) (setN (fun u => 10 + u) (fun _ => cA 0 zr8) h2 8) 4) 2).set 47 (cC 0)).set 52 (cG 0 σ.g.s σ.g.i σ.g.c σ.g.r σ.g.z σ.g.o)) _
          refine x_aload_n (dT U_X10_field 64 rfl) rfl ?_
          refine x_getfield F_X10_72 (dT U_X10_field 65 rfl) (hset_ne (by omega) (hset_ne (by omega) (((sN_ne (fun u hu => by omega)).trans ((sN_ne (fun u hu => by omega)).trans ((sN_ne (fun u hu => by omega)).trans (ag2.get w.c3 (by omega)))))))) (Nat.le_of_ble_eq_true rfl) rfl ?_
          refine x_invokevirtual (rc' := rc + 1) (rs' := rs + 6) (rc2 := 0) (rs2 := 0) (As := []) (st := _) M_X4_forget K_X10_135 (dT U_X10_field 66 rfl) rfl rfl (by decide) rfl rfl (hset_ne (by omega) (hset_ne (by omega) (((sN_ne (fun u hu => by omega)).trans ((sN_ne (fun u hu => by omega)).trans ((sN_ne (fun u hu => by omega)).trans (ag2.get hL (by omega)))))))) (Nat.le_of_ble_eq_true rfl) (by decide) rfl (Nat.le_of_ble_eq_true rfl) rfl (by decide) (Nat.le_of_ble_eq_true rfl) rfl rfl ?_
          refine S_X4_forget (hset_ne (by omega) (hset_ne (by omega) (((sN_ne (fun u hu => by omega)).trans ((sN_ne (fun u hu => by omega)).trans ((sN_ne (fun u hu => by omega)).trans (ag2.get hL (by omega)))))))) ?_
          refine xRet_none ?_
          refine x_aload_n (dT U_X10_field 67 rfl) rfl ?_
          refine x_getfield F_X10_10 (dT U_X10_field 68 rfl) (hset_ne (by omega) (hset_ne (by omega) (hset_ne (by omega) (((sN_ne (fun u hu => by omega)).trans ((sN_ne (fun u hu => by omega)).trans ((sN_ne (fun u hu => by omega)).trans (ag2.get w.c3 (by omega))))))))) (Nat.le_of_ble_eq_true rfl) rfl ?_
          refine x_getfield F_X10_113 (dT U_X10_field 69 rfl) (hset_ne (by omega) (hset_ne (by omega) (hset_ne (by omega) (((sN_ne (fun u hu => by omega)).trans ((sN_ne (fun u hu => by omega)).trans ((sN_ne (fun u hu => by omega)).trans (gw2.1)))))))) (Nat.le_of_ble_eq_true rfl) rfl ?_
          refine x_ireturn (dT U_X10_field 70 rfl) rfl ?_
          obtain ⟨ml2, m1, m2, m3⟩ := gw2.2.2.1
          exact k (by omega) _ ((((sN_ag (sN_ag (sN_ag (ag2.w (show 3 ≤ 4 ∧ 8 ≤ 69 by omega)) (fun u hu => by omega)) (fun u hu => by omega)) (fun u hu => by omega)).set (by omega)).set (by omega)).set (by omega)) (w.fld hp8 ⟨(hset_ne (by omega) (hset_ne (by omega) (hset_ne (by omega) (((sN_ne (fun u hu => by omega)).trans ((sN_ne (fun u hu => by omega)).trans ((sN_ne (fun u hu => by omega)).trans (gw2.1)))))))), (hset_ne (by omega) (hset_ne (by omega) (hset_ne (by omega) (((sN_ne (fun u hu => by omega)).trans ((sN_ne (fun u hu => by omega)).trans ((sN_ne (fun u hu => by omega)).trans (gw2.2.1)))))))), ⟨ml2, (hset_ne (by omega) (hset_ne (by omega) (hset_ne (by omega) (((sN_ne (fun u hu => by omega)).trans ((sN_ne (fun u hu => by omega)).trans ((sN_ne (fun u hu => by omega)).trans (m1)))))))), m2, m3⟩, (hset_ne (by omega) (hset_ne (by omega) (hset_ne (by omega) (((sN_ne (fun u hu => by omega)).trans ((sN_ne (fun u hu => by omega)).trans ((sN_ne (fun u hu => by omega)).trans (gw2.2.2.2.1)))))))), (hset_ne (by omega) (hset_ne (by omega) (hset_ne (by omega) (((sN_ne (fun u hu => by omega)).trans ((sN_ne (fun u hu => by omega)).trans ((sN_ne (fun u hu => by omega)).trans (gw2.2.2.2.2))))))))⟩ (fun a ha => by rw [hset_fr (by omega), hset_fr (by omega), hset_fr (by omega), sN_ne (fun u hu => by omega), sN_ne (fun u hu => by omega), sN_ne (fun u hu => by omega)]; exact ag2.2 a (by omega)) (fun j hj => (hset_ne (by omega) (hset_ne (by omega) (hset_ne (by omega) ((sN_ne (fun u hu => by omega)).trans ((sN_ne (fun u hu => by omega)).trans (sN_eq (f := fun u => 10 + u) (fun u v z => by omega) (ag2.get (w.rows j hj) (by omega)) hj))))))) (fun j hj => (hset_ne (by omega) (hset_ne (by omega) (hset_ne (by omega) ((sN_ne (fun u hu => by omega)).trans (sN_eq (f := fun u => 22 + 4 * u) (fun u v z => by omega) (((sN_ne (fun u hu => by omega)).trans (ag2.get (w.runs j hj).2.1 (by omega)))) hj)))))) (fun j hj => (hset_ne (by omega) (hset_ne (by omega) (hset_ne (by omega) (sN_eq (f := fun u => 39 + 4 * u) (fun u v z => by omega) (((sN_ne (fun u hu => by omega)).trans ((sN_ne (fun u hu => by omega)).trans (ag2.get (w.pairs j hj).2.1 (by omega))))) hj))))) (hset_ne (by omega) (hset_ne (by omega) (hset_eq ((sN_ne (fun u hu => by omega)).trans ((sN_ne (fun u hu => by omega)).trans ((sN_ne (fun u hu => by omega)).trans (ag2.get w.c47 (by omega)))))))) (hset_ne (by omega) (hset_eq (hset_ne (by omega) (((sN_ne (fun u hu => by omega)).trans ((sN_ne (fun u hu => by omega)).trans ((sN_ne (fun u hu => by omega)).trans (ag2.get w.c52 (by omega))))))))) (hset_eq (hset_ne (by omega) (hset_ne (by omega) (((sN_ne (fun u hu => by omega)).trans ((sN_ne (fun u hu => by omega)).trans ((sN_ne (fun u hu => by omega)).trans (ag2.get w.c54 (by omega))))))))))
      have L3 : ∀ (n t : Nat), t + n = 2 → X G m_X10_field (d + 6) (rc + 1) (rs + 6) ex 88 [some (.ref 3), some (vi (j : Int)), some (vi (t : Int))] [] (setN (fun u => 39 + 4 * u) (fun u => cP (39 + 4 * u) (-1) 0 0 (-1) (-1)) (setN (fun u => 22 + 4 * u) (fun u => cR (22 + 4 * u) (-1, -1, -1, -1, -1, -1, -1, 0)) (setN (fun u => 10 + u) (fun _ => cA 0 zr8) h2 8) 4) t) Q := by
        intro n
        induction n with
        | zero =>
          intro t hi 
          refine x_iload_n (dT U_X10_field 46 rfl) rfl ?_
          refine x_iconst (dT U_X10_field 47 rfl) ?_
          refine x_icmp_ge (tgt := 108) (dT U_X10_field 48 rfl) (by decide) (by unfold xr at *; omega) (by unfold xr at *; omega) (fun c90 => ?_) (fun c90 => ?_)
          · skip
            have e : t = 2 := by omega
            subst e
            exact TL
          · exfalso; omega
        | succ n ih =>
          intro t hi 
          refine x_iload_n (dT U_X10_field 46 rfl) rfl ?_
          refine x_iconst (dT U_X10_field 47 rfl) ?_
          refine x_icmp_ge (tgt := 108) (dT U_X10_field 48 rfl) (by decide) (by unfold xr at *; omega) (by unfold xr at *; omega) (fun c90 => ?_) (fun c90 => ?_)
          · exfalso; omega
          · skip
            refine x_aload_n (dT U_X10_field 49 rfl) rfl ?_
            refine x_getfield F_X10_48 (dT U_X10_field 50 rfl) ((sN_ne (fun u hu => by omega)).trans ((sN_ne (fun u hu => by omega)).trans ((sN_ne (fun u hu => by omega)).trans (ag2.get w.c3 (by omega))))) (Nat.le_of_ble_eq_true rfl) rfl ?_
            refine x_iload_n (dT U_X10_field 51 rfl) rfl ?_
            refine x_aaload (t) (dT U_X10_field 52 rfl) ((sN_ne (fun u hu => by omega)).trans ((sN_ne (fun u hu => by omega)).trans ((sN_ne (fun u hu => by omega)).trans (ag2.get w.c38 (by omega))))) (Nat.le_of_ble_eq_true rfl) (by decide) rfl (pairsL_get (by omega)) (Nat.le_of_ble_eq_true rfl) ?_
            refine x_invokevirtual (rc' := rc + 1) (rs' := rs + 6) (rc2 := 0) (rs2 := 0) (As := []) (st := _) M_X5_forget K_X10_127 (dT U_X10_field 53 rfl) rfl rfl (by decide) rfl rfl (show _ = some (cO 5 [.ref 5, .ref 4, .ref (39 + 4 * t + 1), .ref (39 + 4 * t + 2), .ref (39 + 4 * t + 3), vi ((σ.P t).y σ.p), vi (σ.P t).bb, vi (σ.P t).ll, vi (σ.P t).mm, vi (σ.P t).cc]) from ((sN_ne (fun u hu => by omega)).trans ((sN_ne (fun u hu => by omega)).trans ((sN_ne (fun u hu => by omega)).trans (ag2.get (w.pairs t (by omega)).2.1 (by omega)))))) (by omega) (by decide) rfl (Nat.le_of_ble_eq_true rfl) rfl (by decide) (Nat.le_of_ble_eq_true rfl) rfl rfl ?_
            refine S_X5_forget (by omega) ((sN_ne (fun u hu => by omega)).trans ((sN_ne (fun u hu => by omega)).trans ((sN_ne (fun u hu => by omega)).trans (ag2.get (w.pairs t (by omega)).2.1 (by omega))))) ?_
            refine xRet_none ?_
            refine x_iinc (ls' := [some (.ref _), some (vi _), some (vi _)]) (dT U_X10_field 54 rfl) (by decide) rfl rfl ?_
            refine x_goto (tgt := 88) (dT U_X10_field 55 rfl) (by decide) ?_
            exact ih (t + 1) (by omega)
      have L2 : ∀ (n t : Nat), t + n = 4 → X G m_X10_field (d + 6) (rc + 1) (rs + 6) ex 66 [some (.ref 3), some (vi (j : Int)), some (vi (t : Int))] [] (setN (fun u => 22 + 4 * u) (fun u => cR (22 + 4 * u) (-1, -1, -1, -1, -1, -1, -1, 0)) (setN (fun u => 10 + u) (fun _ => cA 0 zr8) h2 8) t) Q := by
        intro n
        induction n with
        | zero =>
          intro t hi 
          refine x_iload_n (dT U_X10_field 34 rfl) rfl ?_
          refine x_iconst (dT U_X10_field 35 rfl) ?_
          refine x_icmp_ge (tgt := 86) (dT U_X10_field 36 rfl) (by decide) (by unfold xr at *; omega) (by unfold xr at *; omega) (fun c68 => ?_) (fun c68 => ?_)
          · skip
            refine x_iconst (dT U_X10_field 44 rfl) ?_
            refine x_istore_n (ls' := [some (.ref _), some (vi _), some (vi _)]) (dT U_X10_field 45 rfl) (by decide) rfl ?_
            have e : t = 4 := by omega
            subst e
            exact L3 2 0 (by omega)
          · exfalso; omega
        | succ n ih =>
          intro t hi 
          refine x_iload_n (dT U_X10_field 34 rfl) rfl ?_
          refine x_iconst (dT U_X10_field 35 rfl) ?_
          refine x_icmp_ge (tgt := 86) (dT U_X10_field 36 rfl) (by decide) (by unfold xr at *; omega) (by unfold xr at *; omega) (fun c68 => ?_) (fun c68 => ?_)
          · exfalso; omega
          · skip
            refine x_aload_n (dT U_X10_field 37 rfl) rfl ?_
            refine x_getfield F_X10_39 (dT U_X10_field 38 rfl) ((sN_ne (fun u hu => by omega)).trans ((sN_ne (fun u hu => by omega)).trans (ag2.get w.c3 (by omega)))) (Nat.le_of_ble_eq_true rfl) rfl ?_
            refine x_iload_n (dT U_X10_field 39 rfl) rfl ?_
            refine x_aaload (t) (dT U_X10_field 40 rfl) ((sN_ne (fun u hu => by omega)).trans ((sN_ne (fun u hu => by omega)).trans (ag2.get w.c21 (by omega)))) (Nat.le_of_ble_eq_true rfl) (by decide) rfl (runsL_get (by omega)) (Nat.le_of_ble_eq_true rfl) ?_
            refine x_invokevirtual (rc' := rc + 1) (rs' := rs + 6) (rc2 := 0) (rs2 := 0) (As := []) (st := _) M_X7_forget K_X10_124 (dT U_X10_field 41 rfl) rfl rfl (by decide) rfl rfl (show _ = some (cO 7 [.ref 5, .ref 4, .ref (22 + 4 * t + 1), .ref (22 + 4 * t + 2), .ref (22 + 4 * t + 3), vi ((σ.R t).y σ.p), vi (σ.R t).vv, vi ((σ.R t).a σ.p), vi (σ.R t).ww, vi (σ.R t).cc, vi (σ.R t).tt, vi (σ.R t).mm, vi (σ.R t).rr]) from ((sN_ne (fun u hu => by omega)).trans ((sN_ne (fun u hu => by omega)).trans (ag2.get (w.runs t (by omega)).2.1 (by omega))))) (by omega) (by decide) rfl (Nat.le_of_ble_eq_true rfl) rfl (by decide) (Nat.le_of_ble_eq_true rfl) rfl rfl ?_
            refine S_X7_forget (by omega) ((sN_ne (fun u hu => by omega)).trans ((sN_ne (fun u hu => by omega)).trans (ag2.get (w.runs t (by omega)).2.1 (by omega)))) ?_
            refine xRet_none ?_
            refine x_iinc (ls' := [some (.ref _), some (vi _), some (vi _)]) (dT U_X10_field 42 rfl) (by decide) rfl rfl ?_
            refine x_goto (tgt := 66) (dT U_X10_field 43 rfl) (by decide) ?_
            exact ih (t + 1) (by omega)
      have L1 : ∀ (n t : Nat), t + n = 8 → X G m_X10_field (d + 6) (rc + 1) (rs + 6) ex 43 [some (.ref 3), some (vi (j : Int)), some (vi (t : Int))] [] (setN (fun u => 10 + u) (fun _ => cA 0 zr8) h2 t) Q := by
        intro n
        induction n with
        | zero =>
          intro t hi 
          refine x_iload_n (dT U_X10_field 22 rfl) rfl ?_
          refine x_bipush (dT U_X10_field 23 rfl) (by decide) ?_
          refine x_icmp_ge (tgt := 64) (dT U_X10_field 24 rfl) (by decide) (by unfold xr at *; omega) (by unfold xr at *; omega) (fun c46 => ?_) (fun c46 => ?_)
          · skip
            refine x_iconst (dT U_X10_field 32 rfl) ?_
            refine x_istore_n (ls' := [some (.ref _), some (vi _), some (vi _)]) (dT U_X10_field 33 rfl) (by decide) rfl ?_
            have e : t = 8 := by omega
            subst e
            exact L2 4 0 (by omega)
          · exfalso; omega
        | succ n ih =>
          intro t hi 
          refine x_iload_n (dT U_X10_field 22 rfl) rfl ?_
          refine x_bipush (dT U_X10_field 23 rfl) (by decide) ?_
          refine x_icmp_ge (tgt := 64) (dT U_X10_field 24 rfl) (by decide) (by unfold xr at *; omega) (by unfold xr at *; omega) (fun c46 => ?_) (fun c46 => ?_)
          · exfalso; omega
          · skip
            refine x_aload_n (dT U_X10_field 25 rfl) rfl ?_
            refine x_getfield F_X10_27 (dT U_X10_field 26 rfl) ((sN_ne (fun u hu => by omega)).trans (ag2.get w.c3 (by omega))) (Nat.le_of_ble_eq_true rfl) rfl ?_
            refine x_iload_n (dT U_X10_field 27 rfl) rfl ?_
            refine x_aaload (t) (dT U_X10_field 28 rfl) ((sN_ne (fun u hu => by omega)).trans (ag2.get w.c9 (by omega))) (Nat.le_of_ble_eq_true rfl) (by decide) rfl (rowsL_get (by omega)) (Nat.le_of_ble_eq_true rfl) ?_
            refine x_invokestatic (rc' := rc + 1) (rs' := rs + 6) (rc2 := 0) (rs2 := 0) (As := [_]) (st := _) M_X1_clear K_X10_120 (dT U_X10_field 29 rfl) rfl rfl rfl rfl (Nat.le_of_ble_eq_true rfl) rfl (by decide) (Nat.le_of_ble_eq_true rfl) rfl rfl ?_
            refine S_X1_clear ((sN_ne (fun u hu => by omega)).trans (ag2.get (w.rows t (by omega)) (by omega))) (by omega) (v.rw t (by omega)).1 ?_
            refine xRet_none ?_
            refine x_iinc (ls' := [some (.ref _), some (vi _), some (vi _)]) (dT U_X10_field 30 rfl) (by decide) rfl rfl ?_
            refine x_goto (tgt := 43) (dT U_X10_field 31 rfl) (by decide) ?_
            exact ih (t + 1) (by omega)
      exact L1 8 0 (by omega)
    · skip
      refine x_throw T_IA rfl (is := 108) (text := "there is no such field") (by decide) rfl (by omega) (Nat.le_of_ble_eq_true rfl) (by omega) (by omega) (dT U_X10_field 6 rfl) (dT U_X10_field 7 rfl) (dT U_X10_field 8 rfl) (dT U_X10_field 9 rfl) (dT U_X10_field 10 rfl) ?_
      exact e1 (by omega)

def hs (f : Nat → Int) (s : Int) : Nat → Int
  | 0 => s
  | j + 1 => 31 * hs f s j + f j
theorem hs_congr {f g : Nat → Int} {s : Int} : ∀ n, (∀ j, j < n → f j = g j) → hs f s n = hs g s n
  | 0, _ => rfl
  | n + 1, h => by show 31 * hs f s n + f n = 31 * hs g s n + g n; rw [hs_congr n (fun j hj => h j (by omega)), h n (by omega)]
def rS (σ : St) : Nat → Int
  | 0 => 217 + (σ.p : Int)
  | i + 1 => hs (gf (σ.rw i)) (rS σ i) 8
def uS (σ : St) : Nat → Int
  | 0 => rS σ 8
  | i + 1 => hs (fun j => (σ.R i).num σ.p j) (uS σ i) 6
def ckS (σ : St) : Int := 31 * hs (fun i => nv σ.p (σ.L.nn.getD i 0)) (uS σ 4) σ.L.n + (σ.G.n : Int)
theorem num_b {p : Nat} {R : RS} (hp : p ∈ PR) (k : R.ok p) (n : Nat) : xr (R.num p n) := by
  have hb := PRb hp
  have h1 := k.yb hp
  have h2 := k.vb
  have h3 := k.ab hp
  have h4 := k.wb
  have h5 := k.cb
  have h6 := k.tb
  unfold RS.num xr
  repeat' split
  all_goals omega

def rkN (p : Nat) : Int := (p : Int) * p * p - ((p : Int) - 1) * ((p : Int) - 1) * ((p : Int) - 1)
def shr (p : Nat) : UInt64 := FP.ddiv (FP.i2d (xI (rkN p))) (FP.i2d (xI ((p : Int) * p * p)))
def rkP (p : Nat) : Nat → UInt64
  | 0 => 4607182418800017408
  | n + 1 => FP.dmul (rkP p n) (shr p)
theorem vf_n64_dec (r : UInt64) (h : decide (r &&& 0x7fffffffffffffff ≤ 0x7ff0000000000000) = true) : vf_n64 r := by
  unfold vf_n64
  exact of_decide_eq_true h
theorem rk_ok0 : ∀ p ∈ PR, decide (shr p &&& 0x7fffffffffffffff ≤ 0x7ff0000000000000) = true ∧ Op.cmpValue (FP.dcmp (FP.i2d (xI ((p : Int) * p * p))) 0) .l = xI 1 := by decide +kernel
theorem rk_ok1 : ∀ p ∈ PR, ∀ n ∈ List.range 31, decide (rkP p n &&& 0x7fffffffffffffff ≤ 0x7ff0000000000000) = true ∧ Op.cmpValue (FP.dcmp (rkP p n) (rkP p n)) .l = xI 0 := by decide +kernel
