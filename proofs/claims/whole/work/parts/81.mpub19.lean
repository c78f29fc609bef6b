theorem dv_other {p : Int} {b l : List Int} (hb : Fl p b) (hl : l.length = 9) : (((fillL (gf b) l 8).set 8 0).length = 9) ∧ (∀ a, ((fillL (gf b) l 8).set 8 0).getD a 0 = gf b a) ∧ dg (gf ((fillL (gf b) l 8).set 8 0)) 9 = dg (gf b) 8 := by
  have l9 : (fillL (gf b) l 8).length = 9 := by rw [fillL_len, hl]
  have q : ∀ a, ((fillL (gf b) l 8).set 8 0).getD a 0 = gf b a := fun a => by
    rw [List.getD_eq_getElem?_getD]
    by_cases e : a = 8
    · rw [e, List.getElem?_set_self (by omega), gf_out (by rw [hb.1]; omega)]; rfl
    · rw [List.getElem?_set_ne (by omega), ← List.getD_eq_getElem?_getD]
      by_cases h : a < 8
      · exact fillL_lt _ _ _ _ h (by omega)
      · rw [gf_out (by rw [hb.1]; omega), List.getD_eq_getElem?_getD, List.getElem?_eq_none (by omega)]; rfl
  refine ⟨by rw [List.length_set]; exact l9, q, ?_⟩
  refine (dg_cg (g := gf b) 9 (fun j _ => q j)).trans ?_
  show (if gf b 8 ≠ 0 then ((8 : Nat) : Int) else dg (gf b) 8) = _
  rw [if_neg (fun z => z (gf_out (by rw [hb.1]; omega)))]

set_option maxRecDepth 20000 in
set_option maxHeartbeats 1000000 in
theorem S_X11_divide {G : xG} {d rc rs : Nat} {ex : Bool} {h : xH} {Q : xQ} {σ : St} {cc0 : Int} {rr : Nat} {ss : Int} {row by_ quotient rest : Int} (w : MX σ cc0 rr ss h) (v : INV σ) (h_row : xr row) (h_by_ : xr by_) (h_quotient : xr quotient) (h_rest : xr rest) (e1 : ¬ (inb row 8 ∧ inb by_ 8 ∧ inb quotient 8 ∧ inb rest 8) → ∀ h2 z, Ag 70 142 h h2 → MX σ 1 rr ss h2 → xr z → Q (.inl (some (vi z))) ex h2) (e2 : (inb row 8 ∧ inb by_ 8 ∧ inb quotient 8 ∧ inb rest 8) → ¬ (quotient ≠ rest) → ∀ h2 z, Ag 70 142 h h2 → MX σ 2 rr ss h2 → xr z → Q (.inl (some (vi z))) ex h2) (e3 : (inb row 8 ∧ inb by_ 8 ∧ inb quotient 8 ∧ inb rest 8) → (quotient ≠ rest) → ¬ (¬ (dg (gf (σ.rw by_.toNat)) 8) = -1) → ∀ h2 z, Ag 70 142 h h2 → MX σ 3 rr ss h2 → xr z → Q (.inl (some (vi z))) ex h2) (k : (inb row 8 ∧ inb by_ 8 ∧ inb quotient 8 ∧ inb rest 8) → (quotient ≠ rest) → (¬ (dg (gf (σ.rw by_.toNat)) 8) = -1) → ∀ h2 r2 s2, Ag 70 142 h h2 → MX ((σ.sRow quotient.toNat (dvQL σ.p (σ.rw row.toNat) (σ.rw by_.toNat))).sRow rest.toNat (dvRL σ.p (σ.rw row.toNat) (σ.rw by_.toNat))) 0 r2 s2 h2 → Q (.inl (some (vi (dg (gf (dvRL σ.p (σ.rw row.toNat) (σ.rw by_.toNat))) 8)))) ex h2) : X G m_X11_divide (d + 2) rc rs ex 0 (xe m_X11_divide.2.2.1 [.ref 70, vi row, vi by_, vi quotient, vi rest]) [] h Q := by
  show X G m_X11_divide _ _ _ _ 0 [some (.ref 70), some (vi row), some (vi by_), some (vi quotient), some (vi rest), none, none, none, none, none] [] h Q
  have hp := PRb v.p
  have hq := gq_b v.p
  refine x_iload_n (dT U_X11_divide 0 rfl) rfl ?_
  refine x_invokestatic (rc' := rc) (rs' := rs) (rc2 := 0) (rs2 := 0) (As := [_]) (st := _) M_X11_isRow K_X11_164 (dT U_X11_divide 1 rfl) rfl rfl rfl rfl (Nat.le_of_ble_eq_true rfl) rfl (by decide) (Nat.le_of_ble_eq_true rfl) rfl rfl ?_
  refine S_X11_isRow h_row (fun q1 => ?_) (fun q1 => ?_)
  · refine xRet_some ?_
    refine x_if_eqn (tgt := 33) (dT U_X11_divide 2 rfl) (by decide) (by decide) ?_
    refine x_iload_n (dT U_X11_divide 3 rfl) rfl ?_
    refine x_invokestatic (rc' := rc) (rs' := rs) (rc2 := 0) (rs2 := 0) (As := [_]) (st := _) M_X11_isRow K_X11_164 (dT U_X11_divide 4 rfl) rfl rfl rfl rfl (Nat.le_of_ble_eq_true rfl) rfl (by decide) (Nat.le_of_ble_eq_true rfl) rfl rfl ?_
    refine S_X11_isRow h_by_ (fun q2 => ?_) (fun q2 => ?_)
    · refine xRet_some ?_
      refine x_if_eqn (tgt := 33) (dT U_X11_divide 5 rfl) (by decide) (by decide) ?_
      refine x_iload_n (dT U_X11_divide 6 rfl) rfl ?_
      refine x_invokestatic (rc' := rc) (rs' := rs) (rc2 := 0) (rs2 := 0) (As := [_]) (st := _) M_X11_isRow K_X11_164 (dT U_X11_divide 7 rfl) rfl rfl rfl rfl (Nat.le_of_ble_eq_true rfl) rfl (by decide) (Nat.le_of_ble_eq_true rfl) rfl rfl ?_
      refine S_X11_isRow h_quotient (fun q3 => ?_) (fun q3 => ?_)
      · refine xRet_some ?_
        refine x_if_eqn (tgt := 33) (dT U_X11_divide 8 rfl) (by decide) (by decide) ?_
        refine x_iload (dT U_X11_divide 9 rfl) rfl ?_
        refine x_invokestatic (rc' := rc) (rs' := rs) (rc2 := 0) (rs2 := 0) (As := [_]) (st := _) M_X11_isRow K_X11_164 (dT U_X11_divide 10 rfl) rfl rfl rfl rfl (Nat.le_of_ble_eq_true rfl) rfl (by decide) (Nat.le_of_ble_eq_true rfl) rfl rfl ?_
        refine S_X11_isRow h_rest (fun q4 => ?_) (fun q4 => ?_)
        · refine xRet_some ?_
          refine x_if_eqn (tgt := 33) (dT U_X11_divide 11 rfl) (by decide) (by decide) ?_
          refine x_iconst (dT U_X11_divide 12 rfl) ?_
          refine x_goto (tgt := 34) (dT U_X11_divide 13 rfl) (by decide) ?_
          refine x_istore (ls' := [some (.ref _), some (vi _), some (vi _), some (vi _), some (vi _), some (vi _), none, none, none, none]) (dT U_X11_divide 15 rfl) (by decide) rfl ?_
          refine x_aload_n (dT U_X11_divide 16 rfl) rfl ?_
          refine x_iload (dT U_X11_divide 17 rfl) rfl ?_
          refine x_iconst (dT U_X11_divide 18 rfl) ?_
          refine x_invokevirtual (rc' := rc) (rs' := rs) (rc2 := 0) (rs2 := 0) (As := [_, _]) (st := _) M_X11_lets K_X11_167 (dT U_X11_divide 19 rfl) rfl rfl (by decide) rfl rfl w.c70 (Nat.le_of_ble_eq_true rfl) (by decide) rfl (Nat.le_of_ble_eq_true rfl) rfl (by decide) (Nat.le_of_ble_eq_true rfl) rfl rfl ?_
          refine S_X11_lets1 w (fun h1 g1 w1 => ?_)
          refine xRet_some ?_
          obtain ⟨i, hi, rfl⟩ : ∃ j : Nat, j < 8 ∧ row = (j : Int) := ⟨row.toNat, by omega, by omega⟩
          try simp only [tnc] at e1 e2 e3 k
          obtain ⟨j, hj, rfl⟩ : ∃ j : Nat, j < 8 ∧ by_ = (j : Int) := ⟨by_.toNat, by omega, by omega⟩
          try simp only [tnc] at e1 e2 e3 k
          obtain ⟨k9, hk9, rfl⟩ : ∃ j : Nat, j < 8 ∧ quotient = (j : Int) := ⟨quotient.toNat, by omega, by omega⟩
          try simp only [tnc] at e1 e2 e3 k
          obtain ⟨l9, hl9, rfl⟩ : ∃ j : Nat, j < 8 ∧ rest = (j : Int) := ⟨rest.toNat, by omega, by omega⟩
          try simp only [tnc] at e1 e2 e3 k
          refine x_if_eqn (tgt := 90) (dT U_X11_divide 20 rfl) (by decide) (by decide) ?_
          refine x_aload_n (dT U_X11_divide 21 rfl) rfl ?_
          refine x_iload_n (dT U_X11_divide 22 rfl) rfl ?_
          refine x_iload (dT U_X11_divide 23 rfl) rfl ?_
          refine x_icmp_eq (tgt := 57) (dT U_X11_divide 24 rfl) (by decide) (by unfold xr; omega) (by unfold xr; omega) (fun c50 => ?_) (fun c50 => ?_)
          · skip
            refine x_iconst (dT U_X11_divide 27 rfl) ?_
            refine x_iconst (dT U_X11_divide 28 rfl) ?_
            refine x_invokevirtual (rc' := rc) (rs' := rs) (rc2 := 0) (rs2 := 0) (As := [_, _]) (st := _) M_X11_lets K_X11_167 (dT U_X11_divide 29 rfl) rfl rfl (by decide) rfl rfl w1.c70 (Nat.le_of_ble_eq_true rfl) (by decide) rfl (Nat.le_of_ble_eq_true rfl) rfl (by decide) (Nat.le_of_ble_eq_true rfl) rfl rfl ?_
            refine S_X11_lets0 w1 (fun h2 g2 w2 => ?_)
            refine xRet_some ?_
            refine x_if_eqj (tgt := 90) (dT U_X11_divide 30 rfl) (by decide) (by decide) ?_
            refine x_iconst (dT U_X11_divide 44 rfl) ?_
            refine x_ireturn (dT U_X11_divide 45 rfl) rfl ?_
            exact e2 (by omega) (by omega) _ _ (Ag.tr (Ag.tr (Ag.rf 70 142 h) (g1.w (by omega))) (g2.w (by omega))) w2 (by unfold xr; omega)
          · skip
            refine x_iconst (dT U_X11_divide 25 rfl) ?_
            refine x_goto (tgt := 58) (dT U_X11_divide 26 rfl) (by decide) ?_
            refine x_iconst (dT U_X11_divide 28 rfl) ?_
            refine x_invokevirtual (rc' := rc) (rs' := rs) (rc2 := 0) (rs2 := 0) (As := [_, _]) (st := _) M_X11_lets K_X11_167 (dT U_X11_divide 29 rfl) rfl rfl (by decide) rfl rfl w1.c70 (Nat.le_of_ble_eq_true rfl) (by decide) rfl (Nat.le_of_ble_eq_true rfl) rfl (by decide) (Nat.le_of_ble_eq_true rfl) rfl rfl ?_
            refine S_X11_lets1 w1 (fun h2 g2 w2 => ?_)
            refine xRet_some ?_
            refine x_if_eqn (tgt := 90) (dT U_X11_divide 30 rfl) (by decide) (by decide) ?_
            refine x_aload_n (dT U_X11_divide 31 rfl) rfl ?_
            refine x_aload_n (dT U_X11_divide 32 rfl) rfl ?_
            refine x_getfield F_X11_18 (dT U_X11_divide 33 rfl) w2.c70 (Nat.le_of_ble_eq_true rfl) rfl ?_
            refine x_iload_n (dT U_X11_divide 34 rfl) rfl ?_
            refine x_aaload (j) (dT U_X11_divide 35 rfl) w2.c73 (Nat.le_of_ble_eq_true rfl) (by decide) rfl (mrL_get (by omega)) (Nat.le_of_ble_eq_true rfl) ?_
            refine x_invokestatic (rc' := rc) (rs' := rs) (rc2 := 0) (rs2 := 0) (As := [_]) (st := _) M_X11_top K_X11_177 (dT U_X11_divide 36 rfl) rfl rfl rfl rfl (Nat.le_of_ble_eq_true rfl) rfl (by decide) (Nat.le_of_ble_eq_true rfl) rfl rfl ?_
            refine S_topF (p := (σ.p : Int)) (w2.rows j hj) (by omega) (v.rw j hj) (by omega) ?_
            have tb := dg_b (gf (σ.rw j)) 8
            refine xRet_some ?_
            refine x_if_lt (tgt := 82) (dT U_X11_divide 37 rfl) (by decide) (by unfold xr; omega) (fun c75 => ?_) (fun c75 => ?_)
            · skip
              refine x_iconst (dT U_X11_divide 40 rfl) ?_
              refine x_iconst (dT U_X11_divide 41 rfl) ?_
              refine x_invokevirtual (rc' := rc) (rs' := rs) (rc2 := 0) (rs2 := 0) (As := [_, _]) (st := _) M_X11_lets K_X11_167 (dT U_X11_divide 42 rfl) rfl rfl (by decide) rfl rfl w2.c70 (Nat.le_of_ble_eq_true rfl) (by decide) rfl (Nat.le_of_ble_eq_true rfl) rfl (by decide) (Nat.le_of_ble_eq_true rfl) rfl rfl ?_
              refine S_X11_lets0 w2 (fun h3 g3 w3 => ?_)
              refine xRet_some ?_
              refine x_if_nen (tgt := 92) (dT U_X11_divide 43 rfl) (by decide) (by decide) ?_
              refine x_iconst (dT U_X11_divide 44 rfl) ?_
              refine x_ireturn (dT U_X11_divide 45 rfl) rfl ?_
              exact e3 (by omega) (by omega) (by omega) _ _ (Ag.tr (Ag.tr (Ag.tr (Ag.rf 70 142 h) (g1.w (by omega))) (g2.w (by omega))) (g3.w (by omega))) w3 (by unfold xr; omega)
            · skip
              refine x_iconst (dT U_X11_divide 38 rfl) ?_
              refine x_goto (tgt := 83) (dT U_X11_divide 39 rfl) (by decide) ?_
              refine x_iconst (dT U_X11_divide 41 rfl) ?_
              refine x_invokevirtual (rc' := rc) (rs' := rs) (rc2 := 0) (rs2 := 0) (As := [_, _]) (st := _) M_X11_lets K_X11_167 (dT U_X11_divide 42 rfl) rfl rfl (by decide) rfl rfl w2.c70 (Nat.le_of_ble_eq_true rfl) (by decide) rfl (Nat.le_of_ble_eq_true rfl) rfl (by decide) (Nat.le_of_ble_eq_true rfl) rfl rfl ?_
              refine S_X11_lets1 w2 (fun h3 g3 w3 => ?_)
              refine xRet_some ?_
              refine x_if_nej (tgt := 92) (dT U_X11_divide 43 rfl) (by decide) (by decide) ?_
              refine x_aload_n (dT U_X11_divide 46 rfl) rfl ?_
              refine x_getfield F_X11_100 (dT U_X11_divide 47 rfl) w3.c70 (Nat.le_of_ble_eq_true rfl) rfl ?_
              refine x_aload_n (dT U_X11_divide 48 rfl) rfl ?_
              refine x_getfield F_X11_18 (dT U_X11_divide 49 rfl) w3.c70 (Nat.le_of_ble_eq_true rfl) rfl ?_
              refine x_iload_n (dT U_X11_divide 50 rfl) rfl ?_
              refine x_aaload (i) (dT U_X11_divide 51 rfl) w3.c73 (Nat.le_of_ble_eq_true rfl) (by decide) rfl (mrL_get (by omega)) (Nat.le_of_ble_eq_true rfl) ?_
              refine x_invokestatic (rc' := rc) (rs' := rs) (rc2 := 0) (rs2 := 0) (As := [_, _]) (st := _) M_X11_becomes K_X11_189 (dT U_X11_divide 52 rfl) rfl rfl rfl rfl (Nat.le_of_ble_eq_true rfl) rfl (by decide) (Nat.le_of_ble_eq_true rfl) rfl rfl ?_
              obtain ⟨ll, hll, lll⟩ := w3.s137
              refine S_becomes8 hll (by omega) lll (w3.rows i hi) (by omega) (v.rw i hi).1 ?_
              have wa := w3.t137 (l := σ.rw i) (fun a ha => by rw [hset_fr (by omega)]) (hset_eq hll) (v.rw i hi).1
              refine xRet_none ?_
              refine x_aload_n (dT U_X11_divide 53 rfl) rfl ?_
              refine x_getfield F_X11_103 (dT U_X11_divide 54 rfl) wa.c70 (Nat.le_of_ble_eq_true rfl) rfl ?_
              refine x_aload_n (dT U_X11_divide 55 rfl) rfl ?_
              refine x_getfield F_X11_18 (dT U_X11_divide 56 rfl) wa.c70 (Nat.le_of_ble_eq_true rfl) rfl ?_
              refine x_iload_n (dT U_X11_divide 57 rfl) rfl ?_
              refine x_aaload (j) (dT U_X11_divide 58 rfl) wa.c73 (Nat.le_of_ble_eq_true rfl) (by decide) rfl (mrL_get (by omega)) (Nat.le_of_ble_eq_true rfl) ?_
              refine x_invokestatic (rc' := rc) (rs' := rs) (rc2 := 0) (rs2 := 0) (As := [_, _]) (st := _) M_X11_becomes K_X11_189 (dT U_X11_divide 59 rfl) rfl rfl rfl rfl (Nat.le_of_ble_eq_true rfl) rfl (by decide) (Nat.le_of_ble_eq_true rfl) rfl rfl ?_
              obtain ⟨ol, hol, lol⟩ := wa.s138
              refine S_X11_becomes hol (by omega) (by omega) (wa.rows j hj) (by omega) (by rw [(v.rw j hj).1]; omega) ?_
              have wb := wa.t138 (l := fillL (gf (σ.rw j)) ol 8) (fun a ha => by rw [hset_fr (by omega)]) (hset_eq hol) (by rw [fillL_len]; exact lol)
              refine xRet_none ?_
              refine x_aload_n (dT U_X11_divide 60 rfl) rfl ?_
              refine x_getfield F_X11_103 (dT U_X11_divide 61 rfl) wb.c70 (Nat.le_of_ble_eq_true rfl) rfl ?_
              refine x_bipush (dT U_X11_divide 62 rfl) (by decide) ?_
              refine x_iconst (dT U_X11_divide 63 rfl) ?_
              refine x_iastore (8) (dT U_X11_divide 64 rfl) (hset_eq hol) (Nat.le_of_ble_eq_true rfl) rfl (by rw [fillL_len]; omega) (by rw [fillL_len]; omega) ?_
              rw [List.set_set]
              obtain ⟨oL, oG, oT⟩ := dv_other (v.rw j hj) lol
              have wc := wa.t138 (l := (fillL (gf (σ.rw j)) ol 8).set 8 0) (fun a ha => by rw [hset_fr (by omega)]) (hset_eq hol) oL
              obtain ⟨g, hg⟩ := Int.eq_ofNat_of_zero_le (show 0 ≤ dg (gf (σ.rw j)) 8 by omega)
              refine x_aload_n (dT U_X11_divide 65 rfl) rfl ?_
              refine x_getfield F_X11_103 (dT U_X11_divide 66 rfl) wc.c70 (Nat.le_of_ble_eq_true rfl) rfl ?_
              refine x_invokestatic (rc' := rc) (rs' := rs) (rc2 := 0) (rs2 := 0) (As := [_]) (st := _) M_X11_top K_X11_177 (dT U_X11_divide 67 rfl) rfl rfl rfl rfl (Nat.le_of_ble_eq_true rfl) rfl (by decide) (Nat.le_of_ble_eq_true rfl) rfl rfl ?_
              refine S_X11_top (hset_eq hol) (by omega) (by rw [oL]; omega) (fun t => by rw [oG]; have := (v.rw j hj).2 t; unfold xr; show -2147483648 ≤ (σ.rw j).getD t 0 ∧ (σ.rw j).getD t 0 < 2147483648; omega) ?_
              rw [oL, oT, hg]
              refine xRet_some ?_
              refine x_istore (ls' := [some (.ref _), some (vi _), some (vi _), some (vi _), some (vi _), some (vi _), some (vi _), none, none, none]) (dT U_X11_divide 68 rfl) (by decide) rfl ?_
              refine x_iconst (dT U_X11_divide 69 rfl) ?_
              refine x_istore (ls' := [some (.ref _), some (vi _), some (vi _), some (vi _), some (vi _), some (vi _), some (vi _), some (vi _), none, none]) (dT U_X11_divide 70 rfl) (by decide) rfl ?_
              obtain ⟨ml, hml, lml⟩ := wc.s136
              have h137 : (List.set (List.set h3 137 (cA 0 (σ.rw i))) 138 (cA 0 ((fillL (gf (σ.rw j)) ol 8).set 8 0)))[137]? = some (cA 0 (σ.rw i)) := hset_ne (by omega) (hset_eq hll)
              have h138 : (List.set (List.set h3 137 (cA 0 (σ.rw i))) 138 (cA 0 ((fillL (gf (σ.rw j)) ol 8).set 8 0)))[138]? = some (cA 0 ((fillL (gf (σ.rw j)) ol 8).set 8 0)) := hset_eq hol
              have a9 : Ag 70 142 h (List.set (List.set h3 137 (cA 0 (σ.rw i))) 138 (cA 0 ((fillL (gf (σ.rw j)) ol 8).set 8 0))) := (((Ag.tr (Ag.tr (Ag.tr (Ag.rf 70 142 h) (g1.w (by omega))) (g2.w (by omega))) (g3.w (by omega))).set (by omega)).set (by omega))
              generalize (List.set (fillL (gf (σ.rw j)) ol 8) 8 0) = OL at *
              generalize (List.set (List.set h3 137 (cA 0 (σ.rw i))) 138 (cA 0 OL)) = h9 at *
              have L : ∀ (n t : Nat), t + n = 8 → X G m_X11_divide (d + 2) rc rs ex 138 [some (.ref 70), some (vi (i : Int)), some (vi (j : Int)), some (vi (k9 : Int)), some (vi (l9 : Int)), none, some (vi (g : Int)), some (vi (t : Int)), none, none] [] (h9.set 136 (cA 0 (fillL (fun _ => (0 : Int)) ml t))) Q := by
                intro n
                induction n with
                | zero =>
                  intro t hi_ 
                  refine x_iload (dT U_X11_divide 71 rfl) rfl ?_
                  refine x_bipush (dT U_X11_divide 72 rfl) (by decide) ?_
                  refine x_icmp_ge (tgt := 159) (dT U_X11_divide 73 rfl) (by decide) (by unfold xr; omega) (by unfold xr; omega) (fun c142 => ?_) (fun c142 => ?_)
                  · skip
                    have e : t = 8 := by omega
                    subst e
                    have wz := wc.t136 (l := fillL (fun _ => (0 : Int)) ml 8) (fun a ha => by rw [hset_fr (by omega)]) (hset_eq hml) (by rw [fillL_len]; exact lml)
                    refine x_drop ?_ (S_dv1 (l0 := []) wz v hi hj hk9 hl9 (fun z => by omega) (hset_eq hml) (by rw [fillL_len]; exact lml) (fun a ha => fillL_lt _ _ _ _ ha (by omega)) (hset_ne (by omega) h137) (hset_ne (by omega) h138) oL oG hg ?_)
                    repeat (first | exact trivial | refine ⟨rfl, ?_⟩ | refine ⟨trivial, ?_⟩)
                    exact fun h2 g9 w9 => k (by omega) (by omega) (by omega) _ _ _ (Ag.tr (a9.set (by omega)) g9) w9
                  · exfalso; omega
                | succ n ih =>
                  intro t hi_ 
                  refine x_iload (dT U_X11_divide 71 rfl) rfl ?_
                  refine x_bipush (dT U_X11_divide 72 rfl) (by decide) ?_
                  refine x_icmp_ge (tgt := 159) (dT U_X11_divide 73 rfl) (by decide) (by unfold xr; omega) (by unfold xr; omega) (fun c142 => ?_) (fun c142 => ?_)
                  · exfalso; omega
                  · skip
                    refine x_aload_n (dT U_X11_divide 74 rfl) rfl ?_
                    refine x_getfield F_X11_97 (dT U_X11_divide 75 rfl) (hset_ne (by omega) wc.c70) (Nat.le_of_ble_eq_true rfl) rfl ?_
                    refine x_iload (dT U_X11_divide 76 rfl) rfl ?_
                    refine x_iconst (dT U_X11_divide 77 rfl) ?_
                    refine x_iastore (t) (dT U_X11_divide 78 rfl) (hset_eq hml) (Nat.le_of_ble_eq_true rfl) rfl (by rw [fillL_len, lml]; omega) (by rw [fillL_len, lml]; omega) ?_
                    rw [List.set_set]
                    refine x_iinc (ls' := [some (.ref _), some (vi _), some (vi _), some (vi _), some (vi _), none, some (vi _), some (vi _), none, none]) (dT U_X11_divide 79 rfl) (by decide) rfl rfl ?_
                    refine x_goto (tgt := 138) (dT U_X11_divide 80 rfl) (by decide) ?_
                    exact ih (t + 1) (by omega)
              have q := L 8 0 (by omega)
              rw [show fillL (fun _ => (0 : Int)) ml 0 = ml from rfl, hset_self hml] at q
              exact x_drop (by repeat (first | exact trivial | refine ⟨rfl, ?_⟩ | refine ⟨trivial, ?_⟩)) q
        · refine xRet_some ?_
          refine x_if_eqj (tgt := 33) (dT U_X11_divide 11 rfl) (by decide) (by decide) ?_
          refine x_iconst (dT U_X11_divide 14 rfl) ?_
          refine x_istore (ls' := [some (.ref _), some (vi _), some (vi _), some (vi _), some (vi _), some (vi _), none, none, none, none]) (dT U_X11_divide 15 rfl) (by decide) rfl ?_
          refine x_aload_n (dT U_X11_divide 16 rfl) rfl ?_
          refine x_iload (dT U_X11_divide 17 rfl) rfl ?_
          refine x_iconst (dT U_X11_divide 18 rfl) ?_
          refine x_invokevirtual (rc' := rc) (rs' := rs) (rc2 := 0) (rs2 := 0) (As := [_, _]) (st := _) M_X11_lets K_X11_167 (dT U_X11_divide 19 rfl) rfl rfl (by decide) rfl rfl w.c70 (Nat.le_of_ble_eq_true rfl) (by decide) rfl (Nat.le_of_ble_eq_true rfl) rfl (by decide) (Nat.le_of_ble_eq_true rfl) rfl rfl ?_
          refine S_X11_lets0 w (fun h1 g1 w1 => ?_)
          refine xRet_some ?_
          refine x_if_eqj (tgt := 90) (dT U_X11_divide 20 rfl) (by decide) (by decide) ?_
          refine x_iconst (dT U_X11_divide 44 rfl) ?_
          refine x_ireturn (dT U_X11_divide 45 rfl) rfl ?_
          exact e1 (by omega) _ _ (Ag.tr (Ag.rf 70 142 h) (g1.w (by omega))) w1 (by unfold xr; omega)
      · refine xRet_some ?_
        refine x_if_eqj (tgt := 33) (dT U_X11_divide 8 rfl) (by decide) (by decide) ?_
        refine x_iconst (dT U_X11_divide 14 rfl) ?_
        refine x_istore (ls' := [some (.ref _), some (vi _), some (vi _), some (vi _), some (vi _), some (vi _), none, none, none, none]) (dT U_X11_divide 15 rfl) (by decide) rfl ?_
        refine x_aload_n (dT U_X11_divide 16 rfl) rfl ?_
        refine x_iload (dT U_X11_divide 17 rfl) rfl ?_
        refine x_iconst (dT U_X11_divide 18 rfl) ?_
        refine x_invokevirtual (rc' := rc) (rs' := rs) (rc2 := 0) (rs2 := 0) (As := [_, _]) (st := _) M_X11_lets K_X11_167 (dT U_X11_divide 19 rfl) rfl rfl (by decide) rfl rfl w.c70 (Nat.le_of_ble_eq_true rfl) (by decide) rfl (Nat.le_of_ble_eq_true rfl) rfl (by decide) (Nat.le_of_ble_eq_true rfl) rfl rfl ?_
        refine S_X11_lets0 w (fun h1 g1 w1 => ?_)
        refine xRet_some ?_
        refine x_if_eqj (tgt := 90) (dT U_X11_divide 20 rfl) (by decide) (by decide) ?_
        refine x_iconst (dT U_X11_divide 44 rfl) ?_
        refine x_ireturn (dT U_X11_divide 45 rfl) rfl ?_
        exact e1 (by omega) _ _ (Ag.tr (Ag.rf 70 142 h) (g1.w (by omega))) w1 (by unfold xr; omega)
    · refine xRet_some ?_
      refine x_if_eqj (tgt := 33) (dT U_X11_divide 5 rfl) (by decide) (by decide) ?_
      refine x_iconst (dT U_X11_divide 14 rfl) ?_
      refine x_istore (ls' := [some (.ref _), some (vi _), some (vi _), some (vi _), some (vi _), some (vi _), none, none, none, none]) (dT U_X11_divide 15 rfl) (by decide) rfl ?_
      refine x_aload_n (dT U_X11_divide 16 rfl) rfl ?_
      refine x_iload (dT U_X11_divide 17 rfl) rfl ?_
      refine x_iconst (dT U_X11_divide 18 rfl) ?_
      refine x_invokevirtual (rc' := rc) (rs' := rs) (rc2 := 0) (rs2 := 0) (As := [_, _]) (st := _) M_X11_lets K_X11_167 (dT U_X11_divide 19 rfl) rfl rfl (by decide) rfl rfl w.c70 (Nat.le_of_ble_eq_true rfl) (by decide) rfl (Nat.le_of_ble_eq_true rfl) rfl (by decide) (Nat.le_of_ble_eq_true rfl) rfl rfl ?_
      refine S_X11_lets0 w (fun h1 g1 w1 => ?_)
      refine xRet_some ?_
      refine x_if_eqj (tgt := 90) (dT U_X11_divide 20 rfl) (by decide) (by decide) ?_
      refine x_iconst (dT U_X11_divide 44 rfl) ?_
      refine x_ireturn (dT U_X11_divide 45 rfl) rfl ?_
      exact e1 (by omega) _ _ (Ag.tr (Ag.rf 70 142 h) (g1.w (by omega))) w1 (by unfold xr; omega)
  · refine xRet_some ?_
    refine x_if_eqj (tgt := 33) (dT U_X11_divide 2 rfl) (by decide) (by decide) ?_
    refine x_iconst (dT U_X11_divide 14 rfl) ?_
    refine x_istore (ls' := [some (.ref _), some (vi _), some (vi _), some (vi _), some (vi _), some (vi _), none, none, none, none]) (dT U_X11_divide 15 rfl) (by decide) rfl ?_
    refine x_aload_n (dT U_X11_divide 16 rfl) rfl ?_
    refine x_iload (dT U_X11_divide 17 rfl) rfl ?_
    refine x_iconst (dT U_X11_divide 18 rfl) ?_
    refine x_invokevirtual (rc' := rc) (rs' := rs) (rc2 := 0) (rs2 := 0) (As := [_, _]) (st := _) M_X11_lets K_X11_167 (dT U_X11_divide 19 rfl) rfl rfl (by decide) rfl rfl w.c70 (Nat.le_of_ble_eq_true rfl) (by decide) rfl (Nat.le_of_ble_eq_true rfl) rfl (by decide) (Nat.le_of_ble_eq_true rfl) rfl rfl ?_
    refine S_X11_lets0 w (fun h1 g1 w1 => ?_)
    refine xRet_some ?_
    refine x_if_eqj (tgt := 90) (dT U_X11_divide 20 rfl) (by decide) (by decide) ?_
    refine x_iconst (dT U_X11_divide 44 rfl) ?_
    refine x_ireturn (dT U_X11_divide 45 rfl) rfl ?_
    exact e1 (by omega) _ _ (Ag.tr (Ag.rf 70 142 h) (g1.w (by omega))) w1 (by unfold xr; omega)
