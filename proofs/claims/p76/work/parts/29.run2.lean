set_option maxRecDepth 20000 in
set_option maxHeartbeats 1000000 in
theorem S_X7_answerRightly {G : xG} {d rc rs : Nat} {ex : Bool} {h : xH} {Q : xQ} {p ra : Nat} {R : RS}{xa : Nat} {xl : List Int}{b : Int} (hp5 : p ∈ PR) (hr : RA p ra R h) (ok : R.ok p) (hw : GW p h) (hx : h[xa]? = some (cA 0 xl)) (x3 : 3 ≤ xa ∧ xa ≠ ra ∧ xa ≠ ra + 1 ∧ xa ≠ ra + 2 ∧ xa ≠ ra + 3 ∧ 9 ≤ xa) (lx : Fl (p : Int) xl) (hst : R.st = 3) (hmk : R.mk = true) (hb : 0 ≤ b ∧ b < p) (k : ∀ r : Int, (r = 1 ∧ suit p R xl b ∨ r = 0 ∧ ¬ suit p R xl b) → Q (.inl none) ex ((h.set ra (cR ra (R.y p, R.vv, R.a p, R.ww, R.cc, (R.mb + R.c * b) % (p : Int), R.mm, r))).set (ra + 3) (cA 0 (tab (fun j => (R.mask.getD j 0 + R.c * xl.getD j 0) % (p : Int)) 8)))) : X G m_X7_answerRightly (d + 4) rc rs ex 0 (xe m_X7_answerRightly.2.2.1 [.ref ra, .ref xa, vi b]) [] h Q := by
  show X G m_X7_answerRightly _ _ _ _ 0 [some (.ref ra), some (.ref xa), some (vi b)] [] h Q
  have hp := PRb hp5
  have hq := gq_b hp5
  obtain ⟨hf, hg, hml, hex, hbs⟩ := id hw
  obtain ⟨r9, hR, hfo, hma, han⟩ := id hr
  have hR : h[ra]? = some (cO 7 [.ref 5, .ref 4, .ref (ra + 1), .ref (ra + 2), .ref (ra + 3), vi (R.y p), vi (R.vv), vi (R.a p), vi (R.ww), vi (R.cc), vi (R.tt), vi (R.mm), vi (R.rr)]) := hR
  have yb := ok.yb hp5
  have ab := ok.ab hp5
  have vb := ok.vb
  have wb := ok.wb
  have cb := ok.cb
  have tb := ok.tb
  have mb := ok.mb'
  have sc := ok.c (by omega)
  have hmk2 := ok.mk hmk
  have hmb2 := hmk2.2.1
  refine x_aload_n (dT U_X7_answerRightly 0 rfl) rfl ?_
  refine x_aload_n (dT U_X7_answerRightly 1 rfl) rfl ?_
  refine x_aload_n (dT U_X7_answerRightly 2 rfl) rfl ?_
  refine x_iload_n (dT U_X7_answerRightly 3 rfl) rfl ?_
  refine x_invokevirtual (rc' := rc) (rs' := rs) (rc2 := 0) (rs2 := 0) (As := [_, _]) (st := _) M_X7_suits K_X7_75 (dT U_X7_answerRightly 4 rfl) rfl rfl (by decide) rfl rfl hR (by omega) (by decide) rfl (Nat.le_of_ble_eq_true rfl) rfl (by decide) (Nat.le_of_ble_eq_true rfl) rfl rfl ?_
  refine S_X7_suits hp5 hr ok hw hx x3 lx hb (fun s1 => ?_) (fun s0 => ?_)
  · refine xRet_some ?_
    refine x_putfield F_X7_57 (dT U_X7_answerRightly 5 rfl) hR (by omega) (Nat.le_of_ble_eq_true rfl) rfl rfl ?_
    refine x_aload_n (dT U_X7_answerRightly 6 rfl) rfl ?_
    refine x_getfield F_X7_21 (dT U_X7_answerRightly 7 rfl) (hset_eq hR) (by omega) rfl ?_
    refine x_aload_n (dT U_X7_answerRightly 8 rfl) rfl ?_
    refine x_getfield F_X7_26 (dT U_X7_answerRightly 9 rfl) (hset_eq hR) (by omega) rfl ?_
    refine x_aload_n (dT U_X7_answerRightly 10 rfl) rfl ?_
    refine x_aload_n (dT U_X7_answerRightly 11 rfl) rfl ?_
    refine x_getfield F_X7_48 (dT U_X7_answerRightly 12 rfl) (hset_eq hR) (by omega) rfl ?_
    refine x_aload_n (dT U_X7_answerRightly 13 rfl) rfl ?_
    refine x_getfield F_X7_29 (dT U_X7_answerRightly 14 rfl) (hset_eq hR) (by omega) rfl ?_
    refine x_invokevirtual (rc' := rc) (rs' := rs) (rc2 := 0) (rs2 := 0) (As := [_, _, _, _]) (st := _) M_X1_addTimes K_X7_79 (dT U_X7_answerRightly 15 rfl) rfl rfl (by decide) rfl rfl (hset_ne (by omega) hf) (by omega) (by decide) rfl (Nat.le_of_ble_eq_true rfl) rfl (by decide) (Nat.le_of_ble_eq_true rfl) rfl rfl ?_
    rw [RS.c1 (by omega)]
    refine S_X1_addTimes (hset_ne (by omega) hf) hp (hset_ne (by omega) hma) (by omega) hmk2.2.2 (hset_ne (by omega) hx) (by omega) lx (hset_ne (by omega) han) (by omega) ok.a24.1 (by omega) ?_
    refine xRet_none ?_
    refine x_aload_n (dT U_X7_answerRightly 16 rfl) rfl ?_
    refine x_aload_n (dT U_X7_answerRightly 17 rfl) rfl ?_
    refine x_getfield F_X7_21 (dT U_X7_answerRightly 18 rfl) (hset_ne (by omega) (hset_eq hR)) (by omega) rfl ?_
    refine x_aload_n (dT U_X7_answerRightly 19 rfl) rfl ?_
    refine x_getfield F_X7_54 (dT U_X7_answerRightly 20 rfl) (hset_ne (by omega) (hset_eq hR)) (by omega) rfl ?_
    refine x_aload_n (dT U_X7_answerRightly 21 rfl) rfl ?_
    refine x_getfield F_X7_21 (dT U_X7_answerRightly 22 rfl) (hset_ne (by omega) (hset_eq hR)) (by omega) rfl ?_
    refine x_aload_n (dT U_X7_answerRightly 23 rfl) rfl ?_
    refine x_getfield F_X7_48 (dT U_X7_answerRightly 24 rfl) (hset_ne (by omega) (hset_eq hR)) (by omega) rfl ?_
    refine x_iload_n (dT U_X7_answerRightly 25 rfl) rfl ?_
    refine x_invokevirtual (rc' := rc) (rs' := rs) (rc2 := 0) (rs2 := 0) (As := [_, _]) (st := _) M_X1_product K_X7_83 (dT U_X7_answerRightly 26 rfl) rfl rfl (by decide) rfl rfl (hset_ne (by omega) (hset_ne (by omega) hf)) (by omega) (by decide) rfl (Nat.le_of_ble_eq_true rfl) rfl (by decide) (Nat.le_of_ble_eq_true rfl) rfl rfl ?_
    have mv := mulb sc hb (by omega)
    refine S_X1_product (hset_ne (by omega) (hset_ne (by omega) hf)) hp (by unfold xr; omega) ?_
    refine xRet_some ?_
    refine x_invokevirtual (rc' := rc) (rs' := rs) (rc2 := 0) (rs2 := 0) (As := [_, _]) (st := _) M_X1_sum K_X7_87 (dT U_X7_answerRightly 27 rfl) rfl rfl (by decide) rfl rfl (hset_ne (by omega) (hset_ne (by omega) hf)) (by omega) (by decide) rfl (Nat.le_of_ble_eq_true rfl) rfl (by decide) (Nat.le_of_ble_eq_true rfl) rfl rfl ?_
    rw [RS.m1 hmk]
    have b2 := modb (z := R.c * b) (p := (p : Int)) (by omega)
    refine S_X1_sum (hset_ne (by omega) (hset_ne (by omega) hf)) hp (by unfold xr; omega) ?_
    rw [am_r]
    refine xRet_some ?_
    refine x_putfield F_X7_51 (dT U_X7_answerRightly 28 rfl) (hset_ne (by omega) (hset_eq hR)) (by omega) (Nat.le_of_ble_eq_true rfl) rfl rfl ?_
    rw [st2a (by omega)]
    refine x_return (dT U_X7_answerRightly 29 rfl) rfl ?_
    have q := k 1 (Or.inl ⟨rfl, s1⟩)
    rw [RS.c1 (by omega), RS.m1 hmk] at q
    exact q
  · refine xRet_some ?_
    refine x_putfield F_X7_57 (dT U_X7_answerRightly 5 rfl) hR (by omega) (Nat.le_of_ble_eq_true rfl) rfl rfl ?_
    refine x_aload_n (dT U_X7_answerRightly 6 rfl) rfl ?_
    refine x_getfield F_X7_21 (dT U_X7_answerRightly 7 rfl) (hset_eq hR) (by omega) rfl ?_
    refine x_aload_n (dT U_X7_answerRightly 8 rfl) rfl ?_
    refine x_getfield F_X7_26 (dT U_X7_answerRightly 9 rfl) (hset_eq hR) (by omega) rfl ?_
    refine x_aload_n (dT U_X7_answerRightly 10 rfl) rfl ?_
    refine x_aload_n (dT U_X7_answerRightly 11 rfl) rfl ?_
    refine x_getfield F_X7_48 (dT U_X7_answerRightly 12 rfl) (hset_eq hR) (by omega) rfl ?_
    refine x_aload_n (dT U_X7_answerRightly 13 rfl) rfl ?_
    refine x_getfield F_X7_29 (dT U_X7_answerRightly 14 rfl) (hset_eq hR) (by omega) rfl ?_
    refine x_invokevirtual (rc' := rc) (rs' := rs) (rc2 := 0) (rs2 := 0) (As := [_, _, _, _]) (st := _) M_X1_addTimes K_X7_79 (dT U_X7_answerRightly 15 rfl) rfl rfl (by decide) rfl rfl (hset_ne (by omega) hf) (by omega) (by decide) rfl (Nat.le_of_ble_eq_true rfl) rfl (by decide) (Nat.le_of_ble_eq_true rfl) rfl rfl ?_
    rw [RS.c1 (by omega)]
    refine S_X1_addTimes (hset_ne (by omega) hf) hp (hset_ne (by omega) hma) (by omega) hmk2.2.2 (hset_ne (by omega) hx) (by omega) lx (hset_ne (by omega) han) (by omega) ok.a24.1 (by omega) ?_
    refine xRet_none ?_
    refine x_aload_n (dT U_X7_answerRightly 16 rfl) rfl ?_
    refine x_aload_n (dT U_X7_answerRightly 17 rfl) rfl ?_
    refine x_getfield F_X7_21 (dT U_X7_answerRightly 18 rfl) (hset_ne (by omega) (hset_eq hR)) (by omega) rfl ?_
    refine x_aload_n (dT U_X7_answerRightly 19 rfl) rfl ?_
    refine x_getfield F_X7_54 (dT U_X7_answerRightly 20 rfl) (hset_ne (by omega) (hset_eq hR)) (by omega) rfl ?_
    refine x_aload_n (dT U_X7_answerRightly 21 rfl) rfl ?_
    refine x_getfield F_X7_21 (dT U_X7_answerRightly 22 rfl) (hset_ne (by omega) (hset_eq hR)) (by omega) rfl ?_
    refine x_aload_n (dT U_X7_answerRightly 23 rfl) rfl ?_
    refine x_getfield F_X7_48 (dT U_X7_answerRightly 24 rfl) (hset_ne (by omega) (hset_eq hR)) (by omega) rfl ?_
    refine x_iload_n (dT U_X7_answerRightly 25 rfl) rfl ?_
    refine x_invokevirtual (rc' := rc) (rs' := rs) (rc2 := 0) (rs2 := 0) (As := [_, _]) (st := _) M_X1_product K_X7_83 (dT U_X7_answerRightly 26 rfl) rfl rfl (by decide) rfl rfl (hset_ne (by omega) (hset_ne (by omega) hf)) (by omega) (by decide) rfl (Nat.le_of_ble_eq_true rfl) rfl (by decide) (Nat.le_of_ble_eq_true rfl) rfl rfl ?_
    have mv := mulb sc hb (by omega)
    refine S_X1_product (hset_ne (by omega) (hset_ne (by omega) hf)) hp (by unfold xr; omega) ?_
    refine xRet_some ?_
    refine x_invokevirtual (rc' := rc) (rs' := rs) (rc2 := 0) (rs2 := 0) (As := [_, _]) (st := _) M_X1_sum K_X7_87 (dT U_X7_answerRightly 27 rfl) rfl rfl (by decide) rfl rfl (hset_ne (by omega) (hset_ne (by omega) hf)) (by omega) (by decide) rfl (Nat.le_of_ble_eq_true rfl) rfl (by decide) (Nat.le_of_ble_eq_true rfl) rfl rfl ?_
    rw [RS.m1 hmk]
    have b2 := modb (z := R.c * b) (p := (p : Int)) (by omega)
    refine S_X1_sum (hset_ne (by omega) (hset_ne (by omega) hf)) hp (by unfold xr; omega) ?_
    rw [am_r]
    refine xRet_some ?_
    refine x_putfield F_X7_51 (dT U_X7_answerRightly 28 rfl) (hset_ne (by omega) (hset_eq hR)) (by omega) (Nat.le_of_ble_eq_true rfl) rfl rfl ?_
    rw [st2a (by omega)]
    refine x_return (dT U_X7_answerRightly 29 rfl) rfl ?_
    have q := k 0 (Or.inr ⟨rfl, s0⟩)
    rw [RS.c1 (by omega), RS.m1 hmk] at q
    exact q

abbrev fork (p : Nat) (R S : RS) : Prop := acc p R ∧ acc p S ∧ R.e = S.e ∧ R.v = S.v ∧ R.form = S.form ∧ R.fa = S.fa ∧ R.w = S.w ∧ R.c ≠ S.c

set_option maxRecDepth 20000 in
set_option maxHeartbeats 1000000 in
theorem S_X7_isForked {G : xG} {d rc rs : Nat} {ex : Bool} {h : xH} {Q : xQ} {p ra sa : Nat} {R S : RS} (hp5 : p ∈ PR) (hr : RA p ra R h) (ok : R.ok p) (hs : RA p sa S h) (okS : S.ok p) (hw : GW p h) (k1 : fork p R S → Q (.inl (some (vi 1))) ex h) (k0 : ¬ fork p R S → Q (.inl (some (vi 0))) ex h) : X G m_X7_isForked (d + 4) rc rs ex 0 (xe m_X7_isForked.2.2.1 [.ref ra, .ref sa]) [] h Q := by
  show X G m_X7_isForked _ _ _ _ 0 [some (.ref ra), some (.ref sa)] [] h Q
  have hp := PRb hp5
  have hq := gq_b hp5
  obtain ⟨hf, hg, hml, hex, hbs⟩ := id hw
  obtain ⟨r9, hR, hfo, hma, han⟩ := id hr
  have hR : h[ra]? = some (cO 7 [.ref 5, .ref 4, .ref (ra + 1), .ref (ra + 2), .ref (ra + 3), vi (R.y p), vi (R.vv), vi (R.a p), vi (R.ww), vi (R.cc), vi (R.tt), vi (R.mm), vi (R.rr)]) := hR
  have yb := ok.yb hp5
  have ab := ok.ab hp5
  have vb := ok.vb
  have wb := ok.wb
  have cb := ok.cb
  have tb := ok.tb
  have mb := ok.mb'
  obtain ⟨s9, hS, hfoS, hmaS, hanS⟩ := id hs
  have hS : h[sa]? = some (cO 7 [.ref 5, .ref 4, .ref (sa + 1), .ref (sa + 2), .ref (sa + 3), vi (S.y p), vi (S.vv), vi (S.a p), vi (S.ww), vi (S.cc), vi (S.tt), vi (S.mm), vi (S.rr)]) := hS
  have ybS := okS.yb hp5
  have abS := okS.ab hp5
  have vbS := okS.vb
  have wbS := okS.wb
  have cbS := okS.cb
  refine x_aload_n (dT U_X7_isForked 0 rfl) rfl ?_
  refine x_invokevirtual (rc' := rc) (rs' := rs) (rc2 := 0) (rs2 := 0) (As := []) (st := _) M_X7_accepted K_X7_111 (dT U_X7_isForked 1 rfl) rfl rfl (by decide) rfl rfl hR (by omega) (by decide) rfl (Nat.le_of_ble_eq_true rfl) rfl (by decide) (Nat.le_of_ble_eq_true rfl) rfl rfl ?_
  refine S_X7_accepted hp5 hr ok hw (fun a1 => ?_) (fun s0 => ?_)
  · refine xRet_some ?_
    have s1 := a1.1
    rw [RS.y1 (p := p) (R := R) (by omega), RS.v1 (R := R) (by omega), RS.a1 (p := p) (R := R) (by omega), RS.w1 (R := R) (by omega), RS.c1 (R := R) (by omega), RS.t1 (R := R) (by omega)] at hR
    have se := ok.e (by omega)
    have sv := ok.v (by omega)
    have sf := ok.f (by omega)
    have sfa := ok.fa (by omega)
    have sw := ok.w (by omega)
    have sc := ok.c (by omega)
    have sx := ok.t (by omega)
    have san := ok.an (by omega)
    refine x_if_eq (tgt := 87) (dT U_X7_isForked 2 rfl) (by decide) (by unfold xr at *; omega) (fun c4 => ?_) (fun c4 => ?_)
    · exfalso; omega
    · skip
      refine x_aload_n (dT U_X7_isForked 3 rfl) rfl ?_
      refine x_invokevirtual (rc' := rc) (rs' := rs) (rc2 := 0) (rs2 := 0) (As := []) (st := _) M_X7_accepted K_X7_111 (dT U_X7_isForked 4 rfl) rfl rfl (by decide) rfl rfl hS (by omega) (by decide) rfl (Nat.le_of_ble_eq_true rfl) rfl (by decide) (Nat.le_of_ble_eq_true rfl) rfl rfl ?_
      refine S_X7_accepted hp5 hs okS hw (fun a2 => ?_) (fun s0 => ?_)
      · refine xRet_some ?_
        have s2 := a2.1
        rw [RS.y1 (p := p) (R := S) (by omega), RS.v1 (R := S) (by omega), RS.a1 (p := p) (R := S) (by omega), RS.w1 (R := S) (by omega), RS.c1 (R := S) (by omega), RS.t1 (R := S) (by omega)] at hS
        have te := okS.e (by omega)
        have tv := okS.v (by omega)
        have tf := okS.f (by omega)
        have tfa := okS.fa (by omega)
        have tw := okS.w (by omega)
        have tc := okS.c (by omega)
        have tx := okS.t (by omega)
        have tan := okS.an (by omega)
        have m1 := MM_b hp5 se
        have m2 := MM_b hp5 te
        have m3 := MM_b hp5 sfa
        have m4 := MM_b hp5 tfa
        refine x_if_eq (tgt := 87) (dT U_X7_isForked 5 rfl) (by decide) (by unfold xr at *; omega) (fun c11 => ?_) (fun c11 => ?_)
        · exfalso; omega
        · skip
          refine x_aload_n (dT U_X7_isForked 6 rfl) rfl ?_
          refine x_getfield F_X7_35 (dT U_X7_isForked 7 rfl) hR (by omega) rfl ?_
          refine x_aload_n (dT U_X7_isForked 8 rfl) rfl ?_
          refine x_getfield F_X7_35 (dT U_X7_isForked 9 rfl) hS (by omega) rfl ?_
          refine x_icmp_ne (tgt := 87) (dT U_X7_isForked 10 rfl) (by decide) (by unfold xr; omega) (by unfold xr; omega) (fun c22 => ?_) (fun c22 => ?_)
          · skip
            have n1 : ¬ fork p R S := fun z => by have := congrArg (MM p) z.2.2.1; omega
            refine x_iconst (dT U_X7_isForked 39 rfl) ?_
            refine x_zreturn (dT U_X7_isForked 40 rfl) rfl (by omega) ?_
            exact k0 n1
          · skip
            have e1 : R.e = S.e := MM_inj hp5 se te (by omega)
            refine x_aload_n (dT U_X7_isForked 11 rfl) rfl ?_
            refine x_getfield F_X7_39 (dT U_X7_isForked 12 rfl) hR (by omega) rfl ?_
            refine x_aload_n (dT U_X7_isForked 13 rfl) rfl ?_
            refine x_getfield F_X7_39 (dT U_X7_isForked 14 rfl) hS (by omega) rfl ?_
            refine x_icmp_ne (tgt := 87) (dT U_X7_isForked 15 rfl) (by decide) (by unfold xr; omega) (by unfold xr; omega) (fun c33 => ?_) (fun c33 => ?_)
            · skip
              have n1 : ¬ fork p R S := fun z => by have := z.2.2.2.1; omega
              refine x_iconst (dT U_X7_isForked 39 rfl) ?_
              refine x_zreturn (dT U_X7_isForked 40 rfl) rfl (by omega) ?_
              exact k0 n1
            · skip
              refine x_aload_n (dT U_X7_isForked 16 rfl) rfl ?_
              refine x_getfield F_X7_22 (dT U_X7_isForked 17 rfl) hR (by omega) rfl ?_
              refine x_aload_n (dT U_X7_isForked 18 rfl) rfl ?_
              refine x_getfield F_X7_22 (dT U_X7_isForked 19 rfl) hS (by omega) rfl ?_
              refine x_invokestatic (rc' := rc) (rs' := rs) (rc2 := 0) (rs2 := 0) (As := [_, _]) (st := _) M_X1_areSame K_X7_114 (dT U_X7_isForked 20 rfl) rfl rfl rfl rfl (Nat.le_of_ble_eq_true rfl) rfl (by decide) (Nat.le_of_ble_eq_true rfl) rfl rfl ?_
              refine S_X1_areSame hfo (by omega) ok.f24.1 hfoS (by omega) okS.f24.1 (fun j => by have := ok.f24.2 j; have := okS.f24.2 j; unfold xr; omega) (fun f1 => ?_) (fun f0 => ?_)
              · refine xRet_some ?_
                refine x_if_eq (tgt := 87) (dT U_X7_isForked 21 rfl) (by decide) (by unfold xr at *; omega) (fun c47 => ?_) (fun c47 => ?_)
                · exfalso; omega
                · skip
                  refine x_aload_n (dT U_X7_isForked 22 rfl) rfl ?_
                  refine x_getfield F_X7_42 (dT U_X7_isForked 23 rfl) hR (by omega) rfl ?_
                  refine x_aload_n (dT U_X7_isForked 24 rfl) rfl ?_
                  refine x_getfield F_X7_42 (dT U_X7_isForked 25 rfl) hS (by omega) rfl ?_
                  refine x_icmp_ne (tgt := 87) (dT U_X7_isForked 26 rfl) (by decide) (by unfold xr; omega) (by unfold xr; omega) (fun c58 => ?_) (fun c58 => ?_)
                  · skip
                    have n1 : ¬ fork p R S := fun z => by have := congrArg (MM p) z.2.2.2.2.2.1; omega
                    refine x_iconst (dT U_X7_isForked 39 rfl) ?_
                    refine x_zreturn (dT U_X7_isForked 40 rfl) rfl (by omega) ?_
                    first | exact k0 n1 | exact k1 ⟨a1, a2, e1, by omega, f1, e2, by omega, by omega⟩
                  · skip
                    have e2 : R.fa = S.fa := MM_inj hp5 sfa tfa (by omega)
                    refine x_aload_n (dT U_X7_isForked 27 rfl) rfl ?_
                    refine x_getfield F_X7_45 (dT U_X7_isForked 28 rfl) hR (by omega) rfl ?_
                    refine x_aload_n (dT U_X7_isForked 29 rfl) rfl ?_
                    refine x_getfield F_X7_45 (dT U_X7_isForked 30 rfl) hS (by omega) rfl ?_
                    refine x_icmp_ne (tgt := 87) (dT U_X7_isForked 31 rfl) (by decide) (by unfold xr; omega) (by unfold xr; omega) (fun c69 => ?_) (fun c69 => ?_)
                    · skip
                      have n1 : ¬ fork p R S := fun z => by have := z.2.2.2.2.2.2.1; omega
                      refine x_iconst (dT U_X7_isForked 39 rfl) ?_
                      refine x_zreturn (dT U_X7_isForked 40 rfl) rfl (by omega) ?_
                      first | exact k0 n1 | exact k1 ⟨a1, a2, e1, by omega, f1, e2, by omega, by omega⟩
                    · skip
                      refine x_aload_n (dT U_X7_isForked 32 rfl) rfl ?_
                      refine x_getfield F_X7_48 (dT U_X7_isForked 33 rfl) hR (by omega) rfl ?_
                      refine x_aload_n (dT U_X7_isForked 34 rfl) rfl ?_
                      refine x_getfield F_X7_48 (dT U_X7_isForked 35 rfl) hS (by omega) rfl ?_
                      refine x_icmp_eq (tgt := 87) (dT U_X7_isForked 36 rfl) (by decide) (by unfold xr; omega) (by unfold xr; omega) (fun c80 => ?_) (fun c80 => ?_)
                      · skip
                        have n1 : ¬ fork p R S := fun z => by have := z.2.2.2.2.2.2.2; omega
                        refine x_iconst (dT U_X7_isForked 39 rfl) ?_
                        refine x_zreturn (dT U_X7_isForked 40 rfl) rfl (by omega) ?_
                        first | exact k0 n1 | exact k1 ⟨a1, a2, e1, by omega, f1, e2, by omega, by omega⟩
                      · skip
                        refine x_iconst (dT U_X7_isForked 37 rfl) ?_
                        refine x_goto (tgt := 88) (dT U_X7_isForked 38 rfl) (by decide) ?_
                        refine x_zreturn (dT U_X7_isForked 40 rfl) rfl (by omega) ?_
                        first | exact k0 n1 | exact k1 ⟨a1, a2, e1, by omega, f1, e2, by omega, by omega⟩
              · refine xRet_some ?_
                refine x_if_eq (tgt := 87) (dT U_X7_isForked 21 rfl) (by decide) (by unfold xr at *; omega) (fun c47 => ?_) (fun c47 => ?_)
                · skip
                  refine x_iconst (dT U_X7_isForked 39 rfl) ?_
                  refine x_zreturn (dT U_X7_isForked 40 rfl) rfl (by omega) ?_
                  exact k0 (fun z => f0 z.2.2.2.2.1)
                · exfalso; omega
      · refine xRet_some ?_
        refine x_if_eq (tgt := 87) (dT U_X7_isForked 5 rfl) (by decide) (by unfold xr at *; omega) (fun c11 => ?_) (fun c11 => ?_)
        · skip
          refine x_iconst (dT U_X7_isForked 39 rfl) ?_
          refine x_zreturn (dT U_X7_isForked 40 rfl) rfl (by omega) ?_
          exact k0 (fun z => s0 z.2.1)
        · exfalso; omega
  · refine xRet_some ?_
    refine x_if_eq (tgt := 87) (dT U_X7_isForked 2 rfl) (by decide) (by unfold xr at *; omega) (fun c4 => ?_) (fun c4 => ?_)
    · skip
      refine x_iconst (dT U_X7_isForked 39 rfl) ?_
      refine x_zreturn (dT U_X7_isForked 40 rfl) rfl (by omega) ?_
      exact k0 (fun z => s0 z.1)
    · exfalso; omega

set_option maxRecDepth 20000 in
set_option maxHeartbeats 1000000 in
theorem S_X7_secretWith {G : xG} {d rc rs : Nat} {ex : Bool} {h : xH} {Q : xQ} {p ra sa : Nat} {R S : RS}{ta : Nat} {tl : List Int} (hp5 : p ∈ PR) (hr : RA p ra R h) (ok : R.ok p) (hs : RA p sa S h) (okS : S.ok p) (hw : GW p h) (ht : h[ta]? = some (cA 0 tl)) (t3 : 9 ≤ ta ∧ ta ≠ ra ∧ ta ≠ ra + 3 ∧ ta ≠ sa ∧ ta ≠ sa + 3) (lt : tl.length = 8) (sR : R.st = 4) (sS : S.st = 4) (hne : R.c ≠ S.c) (k : Q (.inl (some (vi (((R.t - S.t) * (iv p ((R.c - S.c) % (p : Int)).toNat : Int)) % (p : Int))))) ex (h.set ta (cA 0 (tab (fun j => ((R.answer.getD j 0 - S.answer.getD j 0) * (iv p ((R.c - S.c) % (p : Int)).toNat : Int)) % (p : Int)) 8)))) : X G m_X7_secretWith (d + 3) rc rs ex 0 (xe m_X7_secretWith.2.2.1 [.ref ra, .ref sa, .ref ta]) [] h Q := by
  show X G m_X7_secretWith _ _ _ _ 0 [some (.ref ra), some (.ref sa), some (.ref ta), none, none] [] h Q
  have hp := PRb hp5
  have hq := gq_b hp5
  obtain ⟨hf, hg, hml, hex, hbs⟩ := id hw
  obtain ⟨r9, hR, hfo, hma, han⟩ := id hr
  have hR : h[ra]? = some (cO 7 [.ref 5, .ref 4, .ref (ra + 1), .ref (ra + 2), .ref (ra + 3), vi (R.y p), vi (R.vv), vi (R.a p), vi (R.ww), vi (R.cc), vi (R.tt), vi (R.mm), vi (R.rr)]) := hR
  have yb := ok.yb hp5
  have ab := ok.ab hp5
  have vb := ok.vb
  have wb := ok.wb
  have cb := ok.cb
  have tb := ok.tb
  have mb := ok.mb'
  obtain ⟨s9, hS, hfoS, hmaS, hanS⟩ := id hs
  have hS : h[sa]? = some (cO 7 [.ref 5, .ref 4, .ref (sa + 1), .ref (sa + 2), .ref (sa + 3), vi (S.y p), vi (S.vv), vi (S.a p), vi (S.ww), vi (S.cc), vi (S.tt), vi (S.mm), vi (S.rr)]) := hS
  have ybS := okS.yb hp5
  have abS := okS.ab hp5
  have vbS := okS.vb
  have wbS := okS.wb
  have cbS := okS.cb
  rw [RS.y1 (p := p) (R := R) (by omega), RS.v1 (R := R) (by omega), RS.a1 (p := p) (R := R) (by omega), RS.w1 (R := R) (by omega), RS.c1 (R := R) (by omega), RS.t1 (R := R) (by omega)] at hR
  have se := ok.e (by omega)
  have sv := ok.v (by omega)
  have sf := ok.f (by omega)
  have sfa := ok.fa (by omega)
  have sw := ok.w (by omega)
  have sc := ok.c (by omega)
  have sx := ok.t (by omega)
  have san := ok.an (by omega)
  rw [RS.y1 (p := p) (R := S) (by omega), RS.v1 (R := S) (by omega), RS.a1 (p := p) (R := S) (by omega), RS.w1 (R := S) (by omega), RS.c1 (R := S) (by omega), RS.t1 (R := S) (by omega)] at hS
  have te := okS.e (by omega)
  have tv := okS.v (by omega)
  have tf := okS.f (by omega)
  have tfa := okS.fa (by omega)
  have tw := okS.w (by omega)
  have tc := okS.c (by omega)
  have tx := okS.t (by omega)
  have tan := okS.an (by omega)
  have b9 := modb (z := R.c - S.c) (p := (p : Int)) (by omega)
  have nz9 : (R.c - S.c) % (p : Int) ≠ 0 := fun z => hne ((sub_m0 sc tc).mp z)
  have hiv := iv_ok hp5 (a := ((R.c - S.c) % (p : Int)).toNat) (by omega) (by omega)
  have ew : (R.c - S.c) % (p : Int) = (((R.c - S.c) % (p : Int)).toNat : Int) := by omega
  generalize hu : ((R.c - S.c) % (p : Int)).toNat = u at k hiv ew
  generalize hv : (iv p u : Int) = v at k
  have hv2 : 0 ≤ v ∧ v < p := by omega
  have L : ∀ (n i : Nat), i + n = 8 → X G m_X7_secretWith (d + 3) rc rs ex 26 [some (.ref ra), some (.ref sa), some (.ref ta), some (vi v), some (vi (i : Int))] [] (h.set ta (cA 0 (fillL (fun j => ((R.answer.getD j 0 - S.answer.getD j 0) * v) % (p : Int)) tl i))) Q := by
    intro n
    induction n with
    | zero =>
      intro i hi 
      refine x_iload (dT U_X7_secretWith 13 rfl) rfl ?_
      refine x_bipush (dT U_X7_secretWith 14 rfl) (by decide) ?_
      refine x_icmp_ge (tgt := 67) (dT U_X7_secretWith 15 rfl) (by decide) (by unfold xr at *; omega) (by unfold xr at *; omega) (fun c30 => ?_) (fun c30 => ?_)
      · skip
        have e : i = 8 := by omega
        subst e
        refine x_aload_n (dT U_X7_secretWith 35 rfl) rfl ?_
        refine x_getfield F_X7_21 (dT U_X7_secretWith 36 rfl) (hset_ne (by omega) hR) (by omega) rfl ?_
        refine x_aload_n (dT U_X7_secretWith 37 rfl) rfl ?_
        refine x_getfield F_X7_51 (dT U_X7_secretWith 38 rfl) (hset_ne (by omega) hR) (by omega) rfl ?_
        refine x_aload_n (dT U_X7_secretWith 39 rfl) rfl ?_
        refine x_getfield F_X7_51 (dT U_X7_secretWith 40 rfl) (hset_ne (by omega) hS) (by omega) rfl ?_
        refine x_isub (dT U_X7_secretWith 41 rfl) ?_
        refine x_iload_n (dT U_X7_secretWith 42 rfl) rfl ?_
        refine x_imul (dT U_X7_secretWith 43 rfl) ?_
        refine x_invokevirtual (rc' := rc) (rs' := rs) (rc2 := 0) (rs2 := 0) (As := [_]) (st := _) M_X1_rest K_X7_122 (dT U_X7_secretWith 44 rfl) rfl rfl (by decide) rfl rfl (hset_ne (by omega) hf) (by omega) (by decide) rfl (Nat.le_of_ble_eq_true rfl) rfl (by decide) (Nat.le_of_ble_eq_true rfl) rfl rfl ?_
        have mv := mulb2 (a := R.t - S.t) (b := v) (p := (p : Int)) (by omega) hv2 (by omega)
        refine S_X1_rest (hset_ne (by omega) hf) hp (by unfold xr; omega) ?_
        refine xRet_some ?_
        refine x_ireturn (dT U_X7_secretWith 45 rfl) rfl ?_
        rw [fillL_all lt]
        exact k
      · exfalso; omega
    | succ n ih =>
      intro i hi 
      refine x_iload (dT U_X7_secretWith 13 rfl) rfl ?_
      refine x_bipush (dT U_X7_secretWith 14 rfl) (by decide) ?_
      refine x_icmp_ge (tgt := 67) (dT U_X7_secretWith 15 rfl) (by decide) (by unfold xr at *; omega) (by unfold xr at *; omega) (fun c30 => ?_) (fun c30 => ?_)
      · exfalso; omega
      · skip
        refine x_aload_n (dT U_X7_secretWith 16 rfl) rfl ?_
        refine x_iload (dT U_X7_secretWith 17 rfl) rfl ?_
        refine x_aload_n (dT U_X7_secretWith 18 rfl) rfl ?_
        refine x_getfield F_X7_21 (dT U_X7_secretWith 19 rfl) (hset_ne (by omega) hR) (by omega) rfl ?_
        refine x_aload_n (dT U_X7_secretWith 20 rfl) rfl ?_
        refine x_getfield F_X7_29 (dT U_X7_secretWith 21 rfl) (hset_ne (by omega) hR) (by omega) rfl ?_
        refine x_iload (dT U_X7_secretWith 22 rfl) rfl ?_
        refine x_iaload (i) (dT U_X7_secretWith 23 rfl) (hset_ne (by omega) han) (by omega) rfl (by rw [ok.a24.1]; omega) (by rw [ok.a24.1]; omega) ?_
        refine x_aload_n (dT U_X7_secretWith 24 rfl) rfl ?_
        refine x_getfield F_X7_29 (dT U_X7_secretWith 25 rfl) (hset_ne (by omega) hS) (by omega) rfl ?_
        refine x_iload (dT U_X7_secretWith 26 rfl) rfl ?_
        refine x_iaload (i) (dT U_X7_secretWith 27 rfl) (hset_ne (by omega) hanS) (by omega) rfl (by rw [okS.a24.1]; omega) (by rw [okS.a24.1]; omega) ?_
        refine x_isub (dT U_X7_secretWith 28 rfl) ?_
        refine x_iload_n (dT U_X7_secretWith 29 rfl) rfl ?_
        refine x_imul (dT U_X7_secretWith 30 rfl) ?_
        refine x_invokevirtual (rc' := rc) (rs' := rs) (rc2 := 0) (rs2 := 0) (As := [_]) (st := _) M_X1_rest K_X7_122 (dT U_X7_secretWith 31 rfl) rfl rfl (by decide) rfl rfl (hset_ne (by omega) hf) (by omega) (by decide) rfl (Nat.le_of_ble_eq_true rfl) rfl (by decide) (Nat.le_of_ble_eq_true rfl) rfl rfl ?_
        have r1 := san.2 i
        have r2 := tan.2 i
        have mv := mulb2 (a := R.answer.getD i 0 - S.answer.getD i 0) (b := v) (p := (p : Int)) (by omega) hv2 (by omega)
        refine S_X1_rest (hset_ne (by omega) hf) hp (by unfold xr; omega) ?_
        refine xRet_some ?_
        refine x_iastore (i) (dT U_X7_secretWith 32 rfl) (hset_eq ht) (by omega) rfl (by rw [fillL_len, lt]; omega) (by rw [fillL_len, lt]; omega) ?_
        rw [List.set_set]
        refine x_iinc (ls' := [some (.ref _), some (.ref _), some (.ref _), some (vi _), some (vi _)]) (dT U_X7_secretWith 33 rfl) (by decide) rfl rfl ?_
        refine x_goto (tgt := 26) (dT U_X7_secretWith 34 rfl) (by decide) ?_
        exact ih (i + 1) (by omega)
  refine x_aload_n (dT U_X7_secretWith 0 rfl) rfl ?_
  refine x_getfield F_X7_21 (dT U_X7_secretWith 1 rfl) hR (by omega) rfl ?_
  refine x_aload_n (dT U_X7_secretWith 2 rfl) rfl ?_
  refine x_getfield F_X7_21 (dT U_X7_secretWith 3 rfl) hR (by omega) rfl ?_
  refine x_aload_n (dT U_X7_secretWith 4 rfl) rfl ?_
  refine x_getfield F_X7_48 (dT U_X7_secretWith 5 rfl) hR (by omega) rfl ?_
  refine x_aload_n (dT U_X7_secretWith 6 rfl) rfl ?_
  refine x_getfield F_X7_48 (dT U_X7_secretWith 7 rfl) hS (by omega) rfl ?_
  refine x_invokevirtual (rc' := rc) (rs' := rs) (rc2 := 0) (rs2 := 0) (As := [_, _]) (st := _) M_X1_less K_X7_96 (dT U_X7_secretWith 8 rfl) rfl rfl (by decide) rfl rfl hf (by omega) (by decide) rfl (Nat.le_of_ble_eq_true rfl) rfl (by decide) (Nat.le_of_ble_eq_true rfl) rfl rfl ?_
  refine S_X1_less hf hp (by unfold xr; omega) ?_
  rw [ew]
  refine xRet_some ?_
  refine x_invokevirtual (rc' := rc) (rs' := rs) (rc2 := 0) (rs2 := 0) (As := [_]) (st := _) M_X1_inverse K_X7_118 (dT U_X7_secretWith 9 rfl) rfl rfl (by decide) rfl rfl hf (by omega) (by decide) rfl (Nat.le_of_ble_eq_true rfl) rfl (by decide) (Nat.le_of_ble_eq_true rfl) rfl rfl ?_
  refine S_X1_inverse hf hp5 (by omega) ?_
  rw [hv]
  refine xRet_some ?_
  refine x_istore_n (ls' := [some (.ref _), some (.ref _), some (.ref _), some (vi _), none]) (dT U_X7_secretWith 10 rfl) (by decide) rfl ?_
  refine x_iconst (dT U_X7_secretWith 11 rfl) ?_
  refine x_istore (ls' := [some (.ref _), some (.ref _), some (.ref _), some (vi _), some (vi _)]) (dT U_X7_secretWith 12 rfl) (by decide) rfl ?_
  have q := L 8 0 (by omega)
  rw [show fillL (fun j => ((R.answer.getD j 0 - S.answer.getD j 0) * v) % (p : Int)) tl 0 = tl from rfl, hset_self ht] at q
  exact q

set_option maxRecDepth 20000 in
set_option maxHeartbeats 1000000 in
theorem S_X7_maskWith {G : xG} {d rc rs : Nat} {ex : Bool} {h : xH} {Q : xQ} {p ra : Nat} {R : RS}{xa : Nat} {xl : List Int}{ta : Nat} {tl : List Int}{b : Int} (hp5 : p ∈ PR) (hr : RA p ra R h) (ok : R.ok p) (hw : GW p h) (hx : h[xa]? = some (cA 0 xl)) (x3 : 3 ≤ xa ∧ xa ≠ ra ∧ xa ≠ ra + 1 ∧ xa ≠ ra + 2 ∧ xa ≠ ra + 3 ∧ 9 ≤ xa) (lx : Fl (p : Int) xl) (ht : h[ta]? = some (cA 0 tl)) (t3 : 9 ≤ ta ∧ ta ≠ ra ∧ ta ≠ ra + 3) (lt : tl.length = 8) (sR : R.st = 4) (hb : 0 ≤ b ∧ b < p) (k : Q (.inl (some (vi ((R.t - R.c * b) % (p : Int))))) ex (h.set ta (cA 0 (tab (fun j => (R.answer.getD j 0 + -R.c * xl.getD j 0) % (p : Int)) 8)))) : X G m_X7_maskWith (d + 2) rc rs ex 0 (xe m_X7_maskWith.2.2.1 [.ref ra, .ref xa, vi b, .ref ta]) [] h Q := by
  show X G m_X7_maskWith _ _ _ _ 0 [some (.ref ra), some (.ref xa), some (vi b), some (.ref ta)] [] h Q
  have hp := PRb hp5
  have hq := gq_b hp5
  obtain ⟨hf, hg, hml, hex, hbs⟩ := id hw
  obtain ⟨r9, hR, hfo, hma, han⟩ := id hr
  have hR : h[ra]? = some (cO 7 [.ref 5, .ref 4, .ref (ra + 1), .ref (ra + 2), .ref (ra + 3), vi (R.y p), vi (R.vv), vi (R.a p), vi (R.ww), vi (R.cc), vi (R.tt), vi (R.mm), vi (R.rr)]) := hR
  have yb := ok.yb hp5
  have ab := ok.ab hp5
  have vb := ok.vb
  have wb := ok.wb
  have cb := ok.cb
  have tb := ok.tb
  have mb := ok.mb'
  rw [RS.y1 (p := p) (R := R) (by omega), RS.v1 (R := R) (by omega), RS.a1 (p := p) (R := R) (by omega), RS.w1 (R := R) (by omega), RS.c1 (R := R) (by omega), RS.t1 (R := R) (by omega)] at hR
  have se := ok.e (by omega)
  have sv := ok.v (by omega)
  have sf := ok.f (by omega)
  have sfa := ok.fa (by omega)
  have sw := ok.w (by omega)
  have sc := ok.c (by omega)
  have sx := ok.t (by omega)
  have san := ok.an (by omega)
  refine x_aload_n (dT U_X7_maskWith 0 rfl) rfl ?_
  refine x_getfield F_X7_21 (dT U_X7_maskWith 1 rfl) hR (by omega) rfl ?_
  refine x_aload_n (dT U_X7_maskWith 2 rfl) rfl ?_
  refine x_getfield F_X7_29 (dT U_X7_maskWith 3 rfl) hR (by omega) rfl ?_
  refine x_aload_n (dT U_X7_maskWith 4 rfl) rfl ?_
  refine x_aload_n (dT U_X7_maskWith 5 rfl) rfl ?_
  refine x_getfield F_X7_48 (dT U_X7_maskWith 6 rfl) hR (by omega) rfl ?_
  refine x_ineg (dT U_X7_maskWith 7 rfl) ?_
  refine x_aload_n (dT U_X7_maskWith 8 rfl) rfl ?_
  refine x_invokevirtual (rc' := rc) (rs' := rs) (rc2 := 0) (rs2 := 0) (As := [_, _, _, _]) (st := _) M_X1_addTimes K_X7_79 (dT U_X7_maskWith 9 rfl) rfl rfl (by decide) rfl rfl hf (by omega) (by decide) rfl (Nat.le_of_ble_eq_true rfl) rfl (by decide) (Nat.le_of_ble_eq_true rfl) rfl rfl ?_
  refine S_X1_addTimes hf hp han (by omega) san hx (by omega) lx ht (by omega) lt (by omega) ?_
  refine xRet_none ?_
  refine x_aload_n (dT U_X7_maskWith 10 rfl) rfl ?_
  refine x_getfield F_X7_21 (dT U_X7_maskWith 11 rfl) (hset_ne (by omega) hR) (by omega) rfl ?_
  refine x_aload_n (dT U_X7_maskWith 12 rfl) rfl ?_
  refine x_getfield F_X7_51 (dT U_X7_maskWith 13 rfl) (hset_ne (by omega) hR) (by omega) rfl ?_
  refine x_aload_n (dT U_X7_maskWith 14 rfl) rfl ?_
  refine x_getfield F_X7_21 (dT U_X7_maskWith 15 rfl) (hset_ne (by omega) hR) (by omega) rfl ?_
  refine x_aload_n (dT U_X7_maskWith 16 rfl) rfl ?_
  refine x_getfield F_X7_48 (dT U_X7_maskWith 17 rfl) (hset_ne (by omega) hR) (by omega) rfl ?_
  refine x_iload_n (dT U_X7_maskWith 18 rfl) rfl ?_
  refine x_invokevirtual (rc' := rc) (rs' := rs) (rc2 := 0) (rs2 := 0) (As := [_, _]) (st := _) M_X1_product K_X7_83 (dT U_X7_maskWith 19 rfl) rfl rfl (by decide) rfl rfl (hset_ne (by omega) hf) (by omega) (by decide) rfl (Nat.le_of_ble_eq_true rfl) rfl (by decide) (Nat.le_of_ble_eq_true rfl) rfl rfl ?_
  have mv := mulb sc hb (by omega)
  refine S_X1_product (hset_ne (by omega) hf) hp (by unfold xr; omega) ?_
  refine xRet_some ?_
  refine x_invokevirtual (rc' := rc) (rs' := rs) (rc2 := 0) (rs2 := 0) (As := [_, _]) (st := _) M_X1_less K_X7_96 (dT U_X7_maskWith 20 rfl) rfl rfl (by decide) rfl rfl (hset_ne (by omega) hf) (by omega) (by decide) rfl (Nat.le_of_ble_eq_true rfl) rfl (by decide) (Nat.le_of_ble_eq_true rfl) rfl rfl ?_
  have b2 := modb (z := R.c * b) (p := (p : Int)) (by omega)
  refine S_X1_less (hset_ne (by omega) hf) hp (by unfold xr; omega) ?_
  rw [sm_r]
  refine xRet_some ?_
  refine x_ireturn (dT U_X7_maskWith 21 rfl) rfl ?_
  exact k

set_option maxRecDepth 20000 in
set_option maxHeartbeats 1000000 in
theorem S_X7_startsFrom {G : xG} {d rc rs : Nat} {ex : Bool} {h : xH} {Q : xQ} {p ra : Nat} {R : RS}{xa : Nat} {xl : List Int}{b : Int} (hp5 : p ∈ PR) (hr : RA p ra R h) (ok : R.ok p) (hw : GW p h) (hx : h[xa]? = some (cA 0 xl)) (x3 : 3 ≤ xa ∧ xa ≠ ra ∧ xa ≠ ra + 1 ∧ xa ≠ ra + 2 ∧ xa ≠ ra + 3 ∧ 9 ≤ xa) (lx : Fl (p : Int) xl) (sR : R.st = 4) (hb : 0 ≤ b ∧ b < p) (k1 : cm p xl b = R.fa ∧ inn R.form xl % (p : Int) = R.w → Q (.inl (some (vi 1))) ex h) (k0 : ¬ (cm p xl b = R.fa ∧ inn R.form xl % (p : Int) = R.w) → Q (.inl (some (vi 0))) ex h) : X G m_X7_startsFrom (d + 3) rc rs ex 0 (xe m_X7_startsFrom.2.2.1 [.ref ra, .ref xa, vi b]) [] h Q := by
  show X G m_X7_startsFrom _ _ _ _ 0 [some (.ref ra), some (.ref xa), some (vi b)] [] h Q
  have hp := PRb hp5
  have hq := gq_b hp5
  obtain ⟨hf, hg, hml, hex, hbs⟩ := id hw
  obtain ⟨r9, hR, hfo, hma, han⟩ := id hr
  have hR : h[ra]? = some (cO 7 [.ref 5, .ref 4, .ref (ra + 1), .ref (ra + 2), .ref (ra + 3), vi (R.y p), vi (R.vv), vi (R.a p), vi (R.ww), vi (R.cc), vi (R.tt), vi (R.mm), vi (R.rr)]) := hR
  have yb := ok.yb hp5
  have ab := ok.ab hp5
  have vb := ok.vb
  have wb := ok.wb
  have cb := ok.cb
  have tb := ok.tb
  have mb := ok.mb'
  rw [RS.y1 (p := p) (R := R) (by omega), RS.v1 (R := R) (by omega), RS.a1 (p := p) (R := R) (by omega), RS.w1 (R := R) (by omega), RS.c1 (R := R) (by omega), RS.t1 (R := R) (by omega)] at hR
  have se := ok.e (by omega)
  have sv := ok.v (by omega)
  have sf := ok.f (by omega)
  have sfa := ok.fa (by omega)
  have sw := ok.w (by omega)
  have sc := ok.c (by omega)
  have sx := ok.t (by omega)
  have san := ok.an (by omega)
  have c9 := cm_b (p := p) (l := xl) (b := b) hp.1
  have m8 := MM_b hp5 c9
  have m9 := MM_b hp5 sfa
  refine x_aload_n (dT U_X7_startsFrom 0 rfl) rfl ?_
  refine x_getfield F_X7_9 (dT U_X7_startsFrom 1 rfl) hR (by omega) rfl ?_
  refine x_aload_n (dT U_X7_startsFrom 2 rfl) rfl ?_
  refine x_iload_n (dT U_X7_startsFrom 3 rfl) rfl ?_
  refine x_invokevirtual (rc' := rc) (rs' := rs) (rc2 := 0) (rs2 := 0) (As := [_, _]) (st := _) M_X3_commitmentOf K_X7_67 (dT U_X7_startsFrom 4 rfl) rfl rfl (by decide) rfl rfl hg (by omega) (by decide) rfl (Nat.le_of_ble_eq_true rfl) rfl (by decide) (Nat.le_of_ble_eq_true rfl) rfl rfl ?_
  refine S_X3_commitmentOf hw hp5 hx (by omega) lx hb ?_
  refine xRet_some ?_
  refine x_aload_n (dT U_X7_startsFrom 5 rfl) rfl ?_
  refine x_getfield F_X7_42 (dT U_X7_startsFrom 6 rfl) hR (by omega) rfl ?_
  refine x_icmp_ne (tgt := 39) (dT U_X7_startsFrom 7 rfl) (by decide) (by unfold xr; omega) (by unfold xr; omega) (fun c13 => ?_) (fun c13 => ?_)
  · skip
    have n1 : ¬ (cm p xl b = R.fa ∧ inn R.form xl % (p : Int) = R.w) := fun z => by have := congrArg (MM p) z.1; omega
    refine x_iconst (dT U_X7_startsFrom 19 rfl) ?_
    refine x_zreturn (dT U_X7_startsFrom 20 rfl) rfl (by omega) ?_
    first | exact k0 n1 | exact k1 ⟨e1, by omega⟩ | exact k0 (fun z => by omega)
  · skip
    have e1 := MM_inj hp5 c9 sfa (by omega)
    refine x_aload_n (dT U_X7_startsFrom 8 rfl) rfl ?_
    refine x_getfield F_X7_21 (dT U_X7_startsFrom 9 rfl) hR (by omega) rfl ?_
    refine x_aload_n (dT U_X7_startsFrom 10 rfl) rfl ?_
    refine x_getfield F_X7_22 (dT U_X7_startsFrom 11 rfl) hR (by omega) rfl ?_
    refine x_aload_n (dT U_X7_startsFrom 12 rfl) rfl ?_
    refine x_invokevirtual (rc' := rc) (rs' := rs) (rc2 := 0) (rs2 := 0) (As := [_, _]) (st := _) M_X1_innerOf K_X7_71 (dT U_X7_startsFrom 13 rfl) rfl rfl (by decide) rfl rfl hf (by omega) (by decide) rfl (Nat.le_of_ble_eq_true rfl) rfl (by decide) (Nat.le_of_ble_eq_true rfl) rfl rfl ?_
    refine S_X1_innerOf hf hp hfo (by omega) ok.f24 hx (by omega) (lx.mono (by omega)) ?_
    change xRet _ _ _ _ _ _ _ _ _ _ (.inl (some (vi (inn R.form xl % (p : Int))))) _ _
    have b7 := modb (z := inn R.form xl) (p := (p : Int)) (by omega)
    refine xRet_some ?_
    refine x_aload_n (dT U_X7_startsFrom 14 rfl) rfl ?_
    refine x_getfield F_X7_45 (dT U_X7_startsFrom 15 rfl) hR (by omega) rfl ?_
    refine x_icmp_ne (tgt := 39) (dT U_X7_startsFrom 16 rfl) (by decide) (by unfold xr; omega) (by unfold xr; omega) (fun c32 => ?_) (fun c32 => ?_)
    · skip
      refine x_iconst (dT U_X7_startsFrom 19 rfl) ?_
      refine x_zreturn (dT U_X7_startsFrom 20 rfl) rfl (by omega) ?_
      first | exact k0 n1 | exact k1 ⟨e1, by omega⟩ | exact k0 (fun z => by omega)
    · skip
      refine x_iconst (dT U_X7_startsFrom 17 rfl) ?_
      refine x_goto (tgt := 40) (dT U_X7_startsFrom 18 rfl) (by decide) ?_
      refine x_zreturn (dT U_X7_startsFrom 20 rfl) rfl (by omega) ?_
      first | exact k0 n1 | exact k1 ⟨e1, by omega⟩ | exact k0 (fun z => by omega)

def answ (p : Nat) (R : RS) : Int := if dg (gf R.form) 8 = -1 then (ct (fun x : Nat => (R.w + (x : Int) * R.v) % (p : Int) = 0) p : Int) else (p : Int)
theorem root10 : ∀ p ∈ PR, ∀ w ∈ List.range p, ∀ v ∈ List.range p, 0 < v ∨ 0 < w → ct (fun x : Nat => ((w : Int) + (x : Int) * (v : Int)) % (p : Int) = 0) p ≤ 1 := by decide +kernel
theorem root1 {p : Nat} {w v : Int} (hp : p ∈ PR) (hw : 0 ≤ w ∧ w < p) (hv : 0 ≤ v ∧ v < p) (h : v ≠ 0 ∨ w ≠ 0) : ct (fun x : Nat => (w + (x : Int) * v) % (p : Int) = 0) p ≤ 1 := by
  have h1 := root10 p hp w.toNat (List.mem_range.mpr (by omega)) v.toNat (List.mem_range.mpr (by omega)) (by omega)
  rw [Int.toNat_of_nonneg hw.1, Int.toNat_of_nonneg hv.1] at h1
  exact h1

set_option maxRecDepth 20000 in
set_option maxHeartbeats 1000000 in
theorem S_X7_answerable {G : xG} {d rc rs : Nat} {ex : Bool} {h : xH} {Q : xQ} {p ra : Nat} {R : RS} (hp5 : p ∈ PR) (hr : RA p ra R h) (ok : R.ok p) (hw : GW p h) (s2 : 2 ≤ R.st) (k : Q (.inl (some (vi (answ p R)))) ex h) : X G m_X7_answerable (d + 2) rc rs ex 0 (xe m_X7_answerable.2.2.1 [.ref ra]) [] h Q := by
  show X G m_X7_answerable _ _ _ _ 0 [some (.ref ra)] [] h Q
  have hp := PRb hp5
  have hq := gq_b hp5
  obtain ⟨hf, hg, hml, hex, hbs⟩ := id hw
  obtain ⟨r9, hR, hfo, hma, han⟩ := id hr
  have hR : h[ra]? = some (cO 7 [.ref 5, .ref 4, .ref (ra + 1), .ref (ra + 2), .ref (ra + 3), vi (R.y p), vi (R.vv), vi (R.a p), vi (R.ww), vi (R.cc), vi (R.tt), vi (R.mm), vi (R.rr)]) := hR
  have yb := ok.yb hp5
  have ab := ok.ab hp5
  have vb := ok.vb
  have wb := ok.wb
  have cb := ok.cb
  have tb := ok.tb
  have mb := ok.mb'
  rw [RS.v1 (R := R) (by omega), RS.w1 (R := R) (by omega)] at hR
  have sv := ok.v (by omega)
  have sw := ok.w (by omega)
  have d9 := dg_b (gf R.form) 8
  refine x_aload_n (dT U_X7_answerable 0 rfl) rfl ?_
  refine x_getfield F_X7_22 (dT U_X7_answerable 1 rfl) hR (by omega) rfl ?_
  refine x_invokestatic (rc' := rc) (rs' := rs) (rc2 := 0) (rs2 := 0) (As := [_]) (st := _) M_X1_degreeOf K_X7_125 (dT U_X7_answerable 2 rfl) rfl rfl rfl rfl (Nat.le_of_ble_eq_true rfl) rfl (by decide) (Nat.le_of_ble_eq_true rfl) rfl rfl ?_
  refine S_X1_degreeOf hfo (by omega) ok.f24.1 (fun j => by have := ok.f24.2 j; unfold xr; omega) ?_
  change xRet _ _ _ _ _ _ _ _ _ _ (.inl (some (vi (dg (gf R.form) 8)))) _ _
  refine xRet_some ?_
  refine x_iconst (dT U_X7_answerable 3 rfl) ?_
  refine x_icmp_ne (tgt := 29) (dT U_X7_answerable 4 rfl) (by decide) (by unfold xr; omega) (by unfold xr; omega) (fun c8 => ?_) (fun c8 => ?_)
  · skip
    have e : answ p R = p := if_neg (by assumption)
    refine x_aload_n (dT U_X7_answerable 13 rfl) rfl ?_
    refine x_getfield F_X7_21 (dT U_X7_answerable 14 rfl) hR (by omega) rfl ?_
    refine x_getfield F_X7_131 (dT U_X7_answerable 15 rfl) hf (by omega) rfl ?_
    refine x_ireturn (dT U_X7_answerable 16 rfl) rfl ?_
    rw [e] at k
    exact k
  · skip
    have e : answ p R = _ := if_pos (by omega)
    refine x_aload_n (dT U_X7_answerable 5 rfl) rfl ?_
    refine x_getfield F_X7_21 (dT U_X7_answerable 6 rfl) hR (by omega) rfl ?_
    refine x_aload_n (dT U_X7_answerable 7 rfl) rfl ?_
    refine x_getfield F_X7_45 (dT U_X7_answerable 8 rfl) hR (by omega) rfl ?_
    refine x_aload_n (dT U_X7_answerable 9 rfl) rfl ?_
    refine x_getfield F_X7_39 (dT U_X7_answerable 10 rfl) hR (by omega) rfl ?_
    refine x_invokevirtual (rc' := rc) (rs' := rs) (rc2 := 0) (rs2 := 0) (As := [_, _]) (st := _) M_X1_rootsOf K_X7_128 (dT U_X7_answerable 11 rfl) rfl rfl (by decide) rfl rfl hf (by omega) (by decide) rfl (Nat.le_of_ble_eq_true rfl) rfl (by decide) (Nat.le_of_ble_eq_true rfl) rfl rfl ?_
    refine S_X1_rootsOf hf hp sw sv ?_
    refine xRet_some ?_
    refine x_goto (tgt := 36) (dT U_X7_answerable 12 rfl) (by decide) ?_
    refine x_ireturn (dT U_X7_answerable 16 rfl) rfl ?_
    rw [e] at k
    exact k

def RS.num (p : Nat) (R : RS) (n : Nat) : Int := if n = 0 then R.y p else if n = 1 then R.vv else if n = 2 then R.a p else if n = 3 then R.ww else if n = 4 then R.cc else R.tt

set_option maxRecDepth 20000 in
set_option maxHeartbeats 1000000 in
theorem S_X7_numberAt {G : xG} {d rc rs : Nat} {ex : Bool} {h : xH} {Q : xQ} {p ra : Nat} {R : RS}{n : Nat} (hp5 : p ∈ PR) (hr : RA p ra R h) (ok : R.ok p) (hw : GW p h) (hn : n < 6) (k : Q (.inl (some (vi (R.num p n)))) ex h) : X G m_X7_numberAt d rc rs ex 0 (xe m_X7_numberAt.2.2.1 [.ref ra, vi (n : Int)]) [] h Q := by
  show X G m_X7_numberAt _ _ _ _ 0 [some (.ref ra), some (vi (n : Int))] [] h Q
  have hp := PRb hp5
  have hq := gq_b hp5
  obtain ⟨hf, hg, hml, hex, hbs⟩ := id hw
  obtain ⟨r9, hR, hfo, hma, han⟩ := id hr
  have hR : h[ra]? = some (cO 7 [.ref 5, .ref 4, .ref (ra + 1), .ref (ra + 2), .ref (ra + 3), vi (R.y p), vi (R.vv), vi (R.a p), vi (R.ww), vi (R.cc), vi (R.tt), vi (R.mm), vi (R.rr)]) := hR
  have yb := ok.yb hp5
  have ab := ok.ab hp5
  have vb := ok.vb
  have wb := ok.wb
  have cb := ok.cb
  have tb := ok.tb
  have mb := ok.mb'
  have : n = 0 ∨ n = 1 ∨ n = 2 ∨ n = 3 ∨ n = 4 ∨ n = 5 := by omega
  rcases this with rfl | rfl | rfl | rfl | rfl | rfl
  · refine x_iload_n (dT U_X7_numberAt 0 rfl) rfl ?_
    refine x_tableIn (tgt := 40) (dT U_X7_numberAt 1 rfl) (by unfold xr; omega) (by omega) (by omega) rfl (by decide) ?_
    refine x_aload_n (dT U_X7_numberAt 2 rfl) rfl ?_
    refine x_getfield F_X7_35 (dT U_X7_numberAt 3 rfl) hR (by omega) rfl ?_
    refine x_ireturn (dT U_X7_numberAt 4 rfl) rfl ?_
    exact k
  · refine x_iload_n (dT U_X7_numberAt 0 rfl) rfl ?_
    refine x_tableIn (tgt := 45) (dT U_X7_numberAt 1 rfl) (by unfold xr; omega) (by omega) (by omega) rfl (by decide) ?_
    refine x_aload_n (dT U_X7_numberAt 5 rfl) rfl ?_
    refine x_getfield F_X7_39 (dT U_X7_numberAt 6 rfl) hR (by omega) rfl ?_
    refine x_ireturn (dT U_X7_numberAt 7 rfl) rfl ?_
    exact k
  · refine x_iload_n (dT U_X7_numberAt 0 rfl) rfl ?_
    refine x_tableIn (tgt := 50) (dT U_X7_numberAt 1 rfl) (by unfold xr; omega) (by omega) (by omega) rfl (by decide) ?_
    refine x_aload_n (dT U_X7_numberAt 8 rfl) rfl ?_
    refine x_getfield F_X7_42 (dT U_X7_numberAt 9 rfl) hR (by omega) rfl ?_
    refine x_ireturn (dT U_X7_numberAt 10 rfl) rfl ?_
    exact k
  · refine x_iload_n (dT U_X7_numberAt 0 rfl) rfl ?_
    refine x_tableIn (tgt := 55) (dT U_X7_numberAt 1 rfl) (by unfold xr; omega) (by omega) (by omega) rfl (by decide) ?_
    refine x_aload_n (dT U_X7_numberAt 11 rfl) rfl ?_
    refine x_getfield F_X7_45 (dT U_X7_numberAt 12 rfl) hR (by omega) rfl ?_
    refine x_ireturn (dT U_X7_numberAt 13 rfl) rfl ?_
    exact k
  · refine x_iload_n (dT U_X7_numberAt 0 rfl) rfl ?_
    refine x_tableIn (tgt := 60) (dT U_X7_numberAt 1 rfl) (by unfold xr; omega) (by omega) (by omega) rfl (by decide) ?_
    refine x_aload_n (dT U_X7_numberAt 14 rfl) rfl ?_
    refine x_getfield F_X7_48 (dT U_X7_numberAt 15 rfl) hR (by omega) rfl ?_
    refine x_ireturn (dT U_X7_numberAt 16 rfl) rfl ?_
    exact k
  · refine x_iload_n (dT U_X7_numberAt 0 rfl) rfl ?_
    refine x_tableIn (tgt := 65) (dT U_X7_numberAt 1 rfl) (by unfold xr; omega) (by omega) (by omega) rfl (by decide) ?_
    refine x_aload_n (dT U_X7_numberAt 17 rfl) rfl ?_
    refine x_getfield F_X7_51 (dT U_X7_numberAt 18 rfl) hR (by omega) rfl ?_
    refine x_ireturn (dT U_X7_numberAt 19 rfl) rfl ?_
    exact k


def tsq (p : Nat) (R : RS) : Nat → Int
  | 0 => sl 7 (MM p R.e)
  | i + 1 => sl (tsq p R i) (R.form.getD i 0)
def trs (p : Nat) (R : RS) : Int := sl (sl (sl (tsq p R 8) R.v) (MM p R.fa)) R.w
theorem tsq_b (p : Nat) (R : RS) : ∀ i, 0 ≤ tsq p R i ∧ tsq p R i < 251
  | 0 => sl_b _ _
  | i + 1 => sl_b _ _

set_option maxRecDepth 20000 in
set_option maxHeartbeats 1000000 in
theorem S_X7_transcript {G : xG} {d rc rs : Nat} {ex : Bool} {h : xH} {Q : xQ} {p ra : Nat} {R : RS} (hp5 : p ∈ PR) (hr : RA p ra R h) (ok : R.ok p) (hw : GW p h) (k1 : 2 ≤ R.st → Q (.inl (some (vi (trs p R)))) ex h) (k0 : ¬ 2 ≤ R.st → Q (.inl (some (vi (-1)))) ex h) : X G m_X7_transcript (d + 1) rc rs ex 0 (xe m_X7_transcript.2.2.1 [.ref ra]) [] h Q := by
  show X G m_X7_transcript _ _ _ _ 0 [some (.ref ra), none, none] [] h Q
  have hp := PRb hp5
  have hq := gq_b hp5
  obtain ⟨hf, hg, hml, hex, hbs⟩ := id hw
  obtain ⟨r9, hR, hfo, hma, han⟩ := id hr
  have hR : h[ra]? = some (cO 7 [.ref 5, .ref 4, .ref (ra + 1), .ref (ra + 2), .ref (ra + 3), vi (R.y p), vi (R.vv), vi (R.a p), vi (R.ww), vi (R.cc), vi (R.tt), vi (R.mm), vi (R.rr)]) := hR
  have yb := ok.yb hp5
  have ab := ok.ab hp5
  have vb := ok.vb
  have wb := ok.wb
  have cb := ok.cb
  have tb := ok.tb
  have mb := ok.mb'
  refine x_aload_n (dT U_X7_transcript 0 rfl) rfl ?_
  refine x_invokevirtual (rc' := rc) (rs' := rs) (rc2 := 0) (rs2 := 0) (As := []) (st := _) M_X7_hasFirst K_X7_134 (dT U_X7_transcript 1 rfl) rfl rfl (by decide) rfl rfl hR (by omega) (by decide) rfl (Nat.le_of_ble_eq_true rfl) rfl (by decide) (Nat.le_of_ble_eq_true rfl) rfl rfl ?_
  refine S_X7_hasFirst hp5 hr ok hw (fun s1 => ?_) (fun s0 => ?_)
  · refine xRet_some ?_
    have se := ok.e (by omega)
    have sv := ok.v (by omega)
    have sfa := ok.fa (by omega)
    have sw := ok.w (by omega)
    have m8 := MM_b hp5 se
    have m9 := MM_b hp5 sfa
    rw [RS.y1 (p := p) (R := R) (by omega), RS.v1 (R := R) (by omega), RS.a1 (p := p) (R := R) (by omega), RS.w1 (R := R) (by omega)] at hR
    have L : ∀ (n i : Nat), i + n = 8 → X G m_X7_transcript (d + 1) rc rs ex 21 [some (.ref ra), some (vi (tsq p R i)), some (vi (i : Int))] [] h Q := by
      intro n
      induction n with
      | zero =>
        intro i hi 
        refine x_iload_n (dT U_X7_transcript 12 rfl) rfl ?_
        refine x_bipush (dT U_X7_transcript 13 rfl) (by decide) ?_
        refine x_icmp_ge (tgt := 44) (dT U_X7_transcript 14 rfl) (by decide) (by unfold xr at *; omega) (by unfold xr at *; omega) (fun c24 => ?_) (fun c24 => ?_)
        · skip
          have e : i = 8 := by omega
          subst e
          refine x_iload_n (dT U_X7_transcript 24 rfl) rfl ?_
          refine x_aload_n (dT U_X7_transcript 25 rfl) rfl ?_
          refine x_getfield F_X7_39 (dT U_X7_transcript 26 rfl) hR (by omega) rfl ?_
          refine x_invokestatic (rc' := rc) (rs' := rs) (rc2 := 0) (rs2 := 0) (As := [_, _]) (st := _) M_X8_sealOf K_X7_137 (dT U_X7_transcript 27 rfl) rfl rfl rfl rfl (Nat.le_of_ble_eq_true rfl) rfl (by decide) (Nat.le_of_ble_eq_true rfl) rfl rfl ?_
          refine S_X8_sealOf (tsq_b p R 8) (by omega) ?_
          refine xRet_some ?_
          refine x_istore_n (ls' := [some (.ref _), some (vi _), some (vi _)]) (dT U_X7_transcript 28 rfl) (by decide) rfl ?_
          refine x_iload_n (dT U_X7_transcript 29 rfl) rfl ?_
          refine x_aload_n (dT U_X7_transcript 30 rfl) rfl ?_
          refine x_getfield F_X7_42 (dT U_X7_transcript 31 rfl) hR (by omega) rfl ?_
          refine x_invokestatic (rc' := rc) (rs' := rs) (rc2 := 0) (rs2 := 0) (As := [_, _]) (st := _) M_X8_sealOf K_X7_137 (dT U_X7_transcript 32 rfl) rfl rfl rfl rfl (Nat.le_of_ble_eq_true rfl) rfl (by decide) (Nat.le_of_ble_eq_true rfl) rfl rfl ?_
          refine S_X8_sealOf (sl_b _ _) (by omega) ?_
          refine xRet_some ?_
          refine x_istore_n (ls' := [some (.ref _), some (vi _), some (vi _)]) (dT U_X7_transcript 33 rfl) (by decide) rfl ?_
          refine x_iload_n (dT U_X7_transcript 34 rfl) rfl ?_
          refine x_aload_n (dT U_X7_transcript 35 rfl) rfl ?_
          refine x_getfield F_X7_45 (dT U_X7_transcript 36 rfl) hR (by omega) rfl ?_
          refine x_invokestatic (rc' := rc) (rs' := rs) (rc2 := 0) (rs2 := 0) (As := [_, _]) (st := _) M_X8_sealOf K_X7_137 (dT U_X7_transcript 37 rfl) rfl rfl rfl rfl (Nat.le_of_ble_eq_true rfl) rfl (by decide) (Nat.le_of_ble_eq_true rfl) rfl rfl ?_
          refine S_X8_sealOf (sl_b _ _) (by omega) ?_
          refine xRet_some ?_
          refine x_ireturn (dT U_X7_transcript 38 rfl) rfl ?_
          exact k1 s1
        · exfalso; omega
      | succ n ih =>
        intro i hi 
        refine x_iload_n (dT U_X7_transcript 12 rfl) rfl ?_
        refine x_bipush (dT U_X7_transcript 13 rfl) (by decide) ?_
        refine x_icmp_ge (tgt := 44) (dT U_X7_transcript 14 rfl) (by decide) (by unfold xr at *; omega) (by unfold xr at *; omega) (fun c24 => ?_) (fun c24 => ?_)
        · exfalso; omega
        · skip
          refine x_iload_n (dT U_X7_transcript 15 rfl) rfl ?_
          refine x_aload_n (dT U_X7_transcript 16 rfl) rfl ?_
          refine x_getfield F_X7_22 (dT U_X7_transcript 17 rfl) hR (by omega) rfl ?_
          refine x_iload_n (dT U_X7_transcript 18 rfl) rfl ?_
          refine x_iaload (i) (dT U_X7_transcript 19 rfl) hfo (by omega) rfl (by rw [ok.f24.1]; omega) (by rw [ok.f24.1]; omega) ?_
          refine x_invokestatic (rc' := rc) (rs' := rs) (rc2 := 0) (rs2 := 0) (As := [_, _]) (st := _) M_X8_sealOf K_X7_137 (dT U_X7_transcript 20 rfl) rfl rfl rfl rfl (Nat.le_of_ble_eq_true rfl) rfl (by decide) (Nat.le_of_ble_eq_true rfl) rfl rfl ?_
          have r1 := ok.f24.2 i
          refine S_X8_sealOf (tsq_b p R i) (by omega) ?_
          refine xRet_some ?_
          refine x_istore_n (ls' := [some (.ref _), some (vi _), some (vi _)]) (dT U_X7_transcript 21 rfl) (by decide) rfl ?_
          refine x_iinc (ls' := [some (.ref _), some (vi _), some (vi _)]) (dT U_X7_transcript 22 rfl) (by decide) rfl rfl ?_
          refine x_goto (tgt := 21) (dT U_X7_transcript 23 rfl) (by decide) ?_
          exact ih (i + 1) (by omega)
    refine x_if_ne (tgt := 9) (dT U_X7_transcript 2 rfl) (by decide) (by unfold xr at *; omega) (fun c4 => ?_) (fun c4 => ?_)
    · skip
      refine x_bipush (dT U_X7_transcript 5 rfl) (by decide) ?_
      refine x_aload_n (dT U_X7_transcript 6 rfl) rfl ?_
      refine x_getfield F_X7_35 (dT U_X7_transcript 7 rfl) hR (by omega) rfl ?_
      refine x_invokestatic (rc' := rc) (rs' := rs) (rc2 := 0) (rs2 := 0) (As := [_, _]) (st := _) M_X8_sealOf K_X7_137 (dT U_X7_transcript 8 rfl) rfl rfl rfl rfl (Nat.le_of_ble_eq_true rfl) rfl (by decide) (Nat.le_of_ble_eq_true rfl) rfl rfl ?_
      refine S_X8_sealOf (by omega) (by omega) ?_
      refine xRet_some ?_
      refine x_istore_n (ls' := [some (.ref _), some (vi _), none]) (dT U_X7_transcript 9 rfl) (by decide) rfl ?_
      refine x_iconst (dT U_X7_transcript 10 rfl) ?_
      refine x_istore_n (ls' := [some (.ref _), some (vi _), some (vi _)]) (dT U_X7_transcript 11 rfl) (by decide) rfl ?_
      exact L 8 0 (by omega)
    · exfalso; omega
  · refine xRet_some ?_
    refine x_if_ne (tgt := 9) (dT U_X7_transcript 2 rfl) (by decide) (by unfold xr at *; omega) (fun c4 => ?_) (fun c4 => ?_)
    · exfalso; omega
    · skip
      refine x_iconst (dT U_X7_transcript 3 rfl) ?_
      refine x_ireturn (dT U_X7_transcript 4 rfl) rfl ?_
      exact k0 s0

abbrev joinable (R S : RS) (b : Int) : Prop := 1 ≤ R.st ∧ 1 ≤ S.st ∧ (if b = 1 then R.e = S.e else R.form = S.form)

set_option maxRecDepth 20000 in
set_option maxHeartbeats 1000000 in
theorem S_X7_isJoinable {G : xG} {d rc rs : Nat} {ex : Bool} {h : xH} {Q : xQ} {p ra sa : Nat} {R S : RS}{b : Int} (hp5 : p ∈ PR) (hr : RA p ra R h) (ok : R.ok p) (hs : RA p sa S h) (okS : S.ok p) (hw : GW p h) (hb : b = 0 ∨ b = 1) (k1 : joinable R S b → Q (.inl (some (vi 1))) ex h) (k0 : ¬ joinable R S b → Q (.inl (some (vi 0))) ex h) : X G m_X7_isJoinable (d + 1) rc rs ex 0 (xe m_X7_isJoinable.2.2.1 [.ref ra, .ref sa, vi b]) [] h Q := by
  show X G m_X7_isJoinable _ _ _ _ 0 [some (.ref ra), some (.ref sa), some (vi b)] [] h Q
  have hp := PRb hp5
  have hq := gq_b hp5
  obtain ⟨hf, hg, hml, hex, hbs⟩ := id hw
  obtain ⟨r9, hR, hfo, hma, han⟩ := id hr
  have hR : h[ra]? = some (cO 7 [.ref 5, .ref 4, .ref (ra + 1), .ref (ra + 2), .ref (ra + 3), vi (R.y p), vi (R.vv), vi (R.a p), vi (R.ww), vi (R.cc), vi (R.tt), vi (R.mm), vi (R.rr)]) := hR
  have yb := ok.yb hp5
  have ab := ok.ab hp5
  have vb := ok.vb
  have wb := ok.wb
  have cb := ok.cb
  have tb := ok.tb
  have mb := ok.mb'
  obtain ⟨s9, hS, hfoS, hmaS, hanS⟩ := id hs
  have hS : h[sa]? = some (cO 7 [.ref 5, .ref 4, .ref (sa + 1), .ref (sa + 2), .ref (sa + 3), vi (S.y p), vi (S.vv), vi (S.a p), vi (S.ww), vi (S.cc), vi (S.tt), vi (S.mm), vi (S.rr)]) := hS
  have ybS := okS.yb hp5
  have abS := okS.ab hp5
  have vbS := okS.vb
  have wbS := okS.wb
  have cbS := okS.cb
  refine x_aload_n (dT U_X7_isJoinable 0 rfl) rfl ?_
  refine x_invokevirtual (rc' := rc) (rs' := rs) (rc2 := 0) (rs2 := 0) (As := []) (st := _) M_X7_hasStatement K_X7_104 (dT U_X7_isJoinable 1 rfl) rfl rfl (by decide) rfl rfl hR (by omega) (by decide) rfl (Nat.le_of_ble_eq_true rfl) rfl (by decide) (Nat.le_of_ble_eq_true rfl) rfl rfl ?_
  refine S_X7_hasStatement hp5 hr ok hw (fun s1 => ?_) (fun s0 => ?_)
  · refine xRet_some ?_
    have se := ok.e s1
    have m8 := MM_b hp5 se
    rw [RS.y1 (p := p) s1] at hR
    refine x_if_eq (tgt := 50) (dT U_X7_isJoinable 2 rfl) (by decide) (by unfold xr at *; omega) (fun c4 => ?_) (fun c4 => ?_)
    · exfalso; omega
    · skip
      refine x_aload_n (dT U_X7_isJoinable 3 rfl) rfl ?_
      refine x_invokevirtual (rc' := rc) (rs' := rs) (rc2 := 0) (rs2 := 0) (As := []) (st := _) M_X7_hasStatement K_X7_104 (dT U_X7_isJoinable 4 rfl) rfl rfl (by decide) rfl rfl hS (by omega) (by decide) rfl (Nat.le_of_ble_eq_true rfl) rfl (by decide) (Nat.le_of_ble_eq_true rfl) rfl rfl ?_
      refine S_X7_hasStatement hp5 hs okS hw (fun s2 => ?_) (fun s0 => ?_)
      · refine xRet_some ?_
        have te := okS.e s2
        have m9 := MM_b hp5 te
        rw [RS.y1 (p := p) s2] at hS
        refine x_if_eq (tgt := 50) (dT U_X7_isJoinable 5 rfl) (by decide) (by unfold xr at *; omega) (fun c11 => ?_) (fun c11 => ?_)
        · exfalso; omega
        · skip
          refine x_iload_n (dT U_X7_isJoinable 6 rfl) rfl ?_
          refine x_if_eq (tgt := 32) (dT U_X7_isJoinable 7 rfl) (by decide) (by unfold xr; omega) (fun c15 => ?_) (fun c15 => ?_)
          · skip
            have eb : ¬ b = 1 := by omega
            refine x_aload_n (dT U_X7_isJoinable 14 rfl) rfl ?_
            refine x_getfield F_X7_22 (dT U_X7_isJoinable 15 rfl) hR (by omega) rfl ?_
            refine x_aload_n (dT U_X7_isJoinable 16 rfl) rfl ?_
            refine x_getfield F_X7_22 (dT U_X7_isJoinable 17 rfl) hS (by omega) rfl ?_
            refine x_invokestatic (rc' := rc) (rs' := rs) (rc2 := 0) (rs2 := 0) (As := [_, _]) (st := _) M_X1_areSame K_X7_114 (dT U_X7_isJoinable 18 rfl) rfl rfl rfl rfl (Nat.le_of_ble_eq_true rfl) rfl (by decide) (Nat.le_of_ble_eq_true rfl) rfl rfl ?_
            refine S_X1_areSame hfo (by omega) ok.f24.1 hfoS (by omega) okS.f24.1 (fun j => by have := ok.f24.2 j; have := okS.f24.2 j; unfold xr; omega) (fun f1 => ?_) (fun f0 => ?_)
            · refine xRet_some ?_
              refine x_if_eq (tgt := 50) (dT U_X7_isJoinable 19 rfl) (by decide) (by unfold xr at *; omega) (fun c43 => ?_) (fun c43 => ?_)
              · exfalso; omega
              · skip
                refine x_iconst (dT U_X7_isJoinable 20 rfl) ?_
                refine x_goto (tgt := 51) (dT U_X7_isJoinable 21 rfl) (by decide) ?_
                refine x_zreturn (dT U_X7_isJoinable 23 rfl) rfl (by omega) ?_
                exact k1 ⟨s1, s2, by rw [if_neg eb]; exact f1⟩
            · refine xRet_some ?_
              refine x_if_eq (tgt := 50) (dT U_X7_isJoinable 19 rfl) (by decide) (by unfold xr at *; omega) (fun c43 => ?_) (fun c43 => ?_)
              · skip
                refine x_iconst (dT U_X7_isJoinable 22 rfl) ?_
                refine x_zreturn (dT U_X7_isJoinable 23 rfl) rfl (by omega) ?_
                exact k0 (fun z => by have h8 := z.2.2; rw [if_neg eb] at h8; exact f0 h8)
              · exfalso; omega
          · skip
            have eb : b = 1 := by omega
            refine x_aload_n (dT U_X7_isJoinable 8 rfl) rfl ?_
            refine x_getfield F_X7_35 (dT U_X7_isJoinable 9 rfl) hR (by omega) rfl ?_
            refine x_aload_n (dT U_X7_isJoinable 10 rfl) rfl ?_
            refine x_getfield F_X7_35 (dT U_X7_isJoinable 11 rfl) hS (by omega) rfl ?_
            refine x_icmp_ne (tgt := 50) (dT U_X7_isJoinable 12 rfl) (by decide) (by unfold xr; omega) (by unfold xr; omega) (fun c26 => ?_) (fun c26 => ?_)
            · skip
              have n1 : ¬ joinable R S b := fun z => by have h8 := z.2.2; rw [if_pos eb] at h8; have := congrArg (MM p) h8; omega
              refine x_iconst (dT U_X7_isJoinable 22 rfl) ?_
              refine x_zreturn (dT U_X7_isJoinable 23 rfl) rfl (by omega) ?_
              first | exact k0 n1 | exact k1 ⟨s1, s2, by rw [if_pos eb]; exact e1⟩
            · skip
              have e1 : R.e = S.e := MM_inj hp5 se te (by omega)
              refine x_goto (tgt := 46) (dT U_X7_isJoinable 13 rfl) (by decide) ?_
              refine x_iconst (dT U_X7_isJoinable 20 rfl) ?_
              refine x_goto (tgt := 51) (dT U_X7_isJoinable 21 rfl) (by decide) ?_
              refine x_zreturn (dT U_X7_isJoinable 23 rfl) rfl (by omega) ?_
              first | exact k0 n1 | exact k1 ⟨s1, s2, by rw [if_pos eb]; exact e1⟩
      · refine xRet_some ?_
        refine x_if_eq (tgt := 50) (dT U_X7_isJoinable 5 rfl) (by decide) (by unfold xr at *; omega) (fun c11 => ?_) (fun c11 => ?_)
        · skip
          refine x_iconst (dT U_X7_isJoinable 22 rfl) ?_
          refine x_zreturn (dT U_X7_isJoinable 23 rfl) rfl (by omega) ?_
          exact k0 (fun z => s0 z.2.1)
        · exfalso; omega
  · refine xRet_some ?_
    refine x_if_eq (tgt := 50) (dT U_X7_isJoinable 2 rfl) (by decide) (by unfold xr at *; omega) (fun c4 => ?_) (fun c4 => ?_)
    · skip
      refine x_iconst (dT U_X7_isJoinable 22 rfl) ?_
      refine x_zreturn (dT U_X7_isJoinable 23 rfl) rfl (by omega) ?_
      exact k0 (fun z => s0 z.1)
    · exfalso; omega

abbrev opn (p : Nat) (R : RS) (m : Int) : Prop := acc p R ∧ R.e = m ∧ R.form.getD 0 0 = 1 ∧ dg (gf R.form) 8 = 0 ∧ R.c = trs p R % (p : Int)

set_option maxRecDepth 20000 in
set_option maxHeartbeats 1000000 in
theorem S_X7_opensNote {G : xG} {d rc rs : Nat} {ex : Bool} {h : xH} {Q : xQ} {p ra : Nat} {R : RS}{m : Int} (hp5 : p ∈ PR) (hr : RA p ra R h) (ok : R.ok p) (hw : GW p h) (hm : 0 ≤ m ∧ m < p) (k1 : opn p R m → Q (.inl (some (vi 1))) ex h) (k0 : ¬ opn p R m → Q (.inl (some (vi 0))) ex h) : X G m_X7_opensNote (d + 4) rc rs ex 0 (xe m_X7_opensNote.2.2.1 [.ref ra, vi (MM p m)]) [] h Q := by
  show X G m_X7_opensNote _ _ _ _ 0 [some (.ref ra), some (vi (MM p m))] [] h Q
  have hp := PRb hp5
  have hq := gq_b hp5
  obtain ⟨hf, hg, hml, hex, hbs⟩ := id hw
  obtain ⟨r9, hR, hfo, hma, han⟩ := id hr
  have hR : h[ra]? = some (cO 7 [.ref 5, .ref 4, .ref (ra + 1), .ref (ra + 2), .ref (ra + 3), vi (R.y p), vi (R.vv), vi (R.a p), vi (R.ww), vi (R.cc), vi (R.tt), vi (R.mm), vi (R.rr)]) := hR
  have yb := ok.yb hp5
  have ab := ok.ab hp5
  have vb := ok.vb
  have wb := ok.wb
  have cb := ok.cb
  have tb := ok.tb
  have mb := ok.mb'
  have mb9 := MM_b hp5 hm
  have d9 := dg_b (gf R.form) 8
  refine x_aload_n (dT U_X7_opensNote 0 rfl) rfl ?_
  refine x_getfield F_X7_35 (dT U_X7_opensNote 1 rfl) hR (by omega) rfl ?_
  refine x_iload_n (dT U_X7_opensNote 2 rfl) rfl ?_
  refine x_icmp_ne (tgt := 57) (dT U_X7_opensNote 3 rfl) (by decide) (by unfold xr; omega) (by unfold xr; omega) (fun c5 => ?_) (fun c5 => ?_)
  · skip
    have n1 : ¬ opn p R m := fun z => by have := z.1.1; have h8 := RS.y1 (p := p) (R := R) (by omega); rw [z.2.1] at h8; omega
    refine x_iconst (dT U_X7_opensNote 27 rfl) ?_
    refine x_zreturn (dT U_X7_opensNote 28 rfl) rfl (by omega) ?_
    exact k0 n1
  · skip
    refine x_aload_n (dT U_X7_opensNote 4 rfl) rfl ?_
    refine x_getfield F_X7_22 (dT U_X7_opensNote 5 rfl) hR (by omega) rfl ?_
    refine x_iconst (dT U_X7_opensNote 6 rfl) ?_
    refine x_iaload (0) (dT U_X7_opensNote 7 rfl) hfo (by omega) rfl (by rw [ok.f24.1]; omega) (by rw [ok.f24.1]; omega) ?_
    refine x_iconst (dT U_X7_opensNote 8 rfl) ?_
    refine x_icmp_ne (tgt := 57) (dT U_X7_opensNote 9 rfl) (by decide) (by have := ok.f24.2 0; unfold xr; omega) (by unfold xr; omega) (fun c15 => ?_) (fun c15 => ?_)
    · skip
      have n1 : ¬ opn p R m := fun z => by have := z.2.2.1; omega
      refine x_iconst (dT U_X7_opensNote 27 rfl) ?_
      refine x_zreturn (dT U_X7_opensNote 28 rfl) rfl (by omega) ?_
      exact k0 n1
    · skip
      have g1 : R.form.getD 0 0 = 1 := by omega
      refine x_aload_n (dT U_X7_opensNote 10 rfl) rfl ?_
      refine x_getfield F_X7_22 (dT U_X7_opensNote 11 rfl) hR (by omega) rfl ?_
      refine x_invokestatic (rc' := rc) (rs' := rs) (rc2 := 0) (rs2 := 0) (As := [_]) (st := _) M_X1_degreeOf K_X7_125 (dT U_X7_opensNote 12 rfl) rfl rfl rfl rfl (Nat.le_of_ble_eq_true rfl) rfl (by decide) (Nat.le_of_ble_eq_true rfl) rfl rfl ?_
      refine S_X1_degreeOf hfo (by omega) ok.f24.1 (fun j => by have := ok.f24.2 j; unfold xr; omega) ?_
      change xRet _ _ _ _ _ _ _ _ _ _ (.inl (some (vi (dg (gf R.form) 8)))) _ _
      refine xRet_some ?_
      refine x_if_ne (tgt := 57) (dT U_X7_opensNote 13 rfl) (by decide) (by unfold xr; omega) (fun c25 => ?_) (fun c25 => ?_)
      · skip
        have n1 : ¬ opn p R m := fun z => by have := z.2.2.2.1; omega
        refine x_iconst (dT U_X7_opensNote 27 rfl) ?_
        refine x_zreturn (dT U_X7_opensNote 28 rfl) rfl (by omega) ?_
        exact k0 n1
      · skip
        have g2 : dg (gf R.form) 8 = 0 := by omega
        refine x_aload_n (dT U_X7_opensNote 14 rfl) rfl ?_
        refine x_invokevirtual (rc' := rc) (rs' := rs) (rc2 := 0) (rs2 := 0) (As := []) (st := _) M_X7_accepted K_X7_111 (dT U_X7_opensNote 15 rfl) rfl rfl (by decide) rfl rfl hR (by omega) (by decide) rfl (Nat.le_of_ble_eq_true rfl) rfl (by decide) (Nat.le_of_ble_eq_true rfl) rfl rfl ?_
        refine S_X7_accepted hp5 hr ok hw (fun a1 => ?_) (fun s0 => ?_)
        · refine xRet_some ?_
          have s1 := a1.1
          have sy := RS.y1 (p := p) (R := R) (by omega)
          have sc9 := RS.c1 (R := R) (by omega)
          have se := ok.e (by omega)
          have sv := ok.v (by omega)
          have sf := ok.f (by omega)
          have sfa := ok.fa (by omega)
          have sw := ok.w (by omega)
          have sc := ok.c (by omega)
          have sx := ok.t (by omega)
          have san := ok.an (by omega)
          refine x_if_eq (tgt := 57) (dT U_X7_opensNote 16 rfl) (by decide) (by unfold xr at *; omega) (fun c32 => ?_) (fun c32 => ?_)
          · exfalso; omega
          · skip
            refine x_aload_n (dT U_X7_opensNote 17 rfl) rfl ?_
            refine x_getfield F_X7_48 (dT U_X7_opensNote 18 rfl) hR (by omega) rfl ?_
            refine x_aload_n (dT U_X7_opensNote 19 rfl) rfl ?_
            refine x_getfield F_X7_21 (dT U_X7_opensNote 20 rfl) hR (by omega) rfl ?_
            refine x_aload_n (dT U_X7_opensNote 21 rfl) rfl ?_
            refine x_invokevirtual (rc' := rc) (rs' := rs) (rc2 := 0) (rs2 := 0) (As := []) (st := _) M_X7_transcript K_X7_142 (dT U_X7_opensNote 22 rfl) rfl rfl (by decide) rfl rfl hR (by omega) (by decide) rfl (Nat.le_of_ble_eq_true rfl) rfl (by decide) (Nat.le_of_ble_eq_true rfl) rfl rfl ?_
            refine S_X7_transcript hp5 hr ok hw (fun _ => ?_) (fun z => absurd (show 2 ≤ R.st by omega) z)
            refine xRet_some ?_
            refine x_invokevirtual (rc' := rc) (rs' := rs) (rc2 := 0) (rs2 := 0) (As := [_]) (st := _) M_X1_rest K_X7_122 (dT U_X7_opensNote 23 rfl) rfl rfl (by decide) rfl rfl hf (by omega) (by decide) rfl (Nat.le_of_ble_eq_true rfl) rfl (by decide) (Nat.le_of_ble_eq_true rfl) rfl rfl ?_
            have tb9 := sl_b (sl (sl (tsq p R 8) R.v) (MM p R.fa)) R.w
            have tb8 : 0 ≤ trs p R ∧ trs p R < 251 := tb9
            refine S_X1_rest hf hp (by unfold xr; omega) ?_
            have b7 := modb (z := trs p R) (p := (p : Int)) (by omega)
            refine xRet_some ?_
            refine x_icmp_ne (tgt := 57) (dT U_X7_opensNote 24 rfl) (by decide) (by unfold xr; omega) (by unfold xr; omega) (fun c50 => ?_) (fun c50 => ?_)
            · skip
              refine x_iconst (dT U_X7_opensNote 27 rfl) ?_
              refine x_zreturn (dT U_X7_opensNote 28 rfl) rfl (by omega) ?_
              first | exact k1 ⟨a1, MM_inj hp5 se hm (by omega), g1, g2, by omega⟩ | exact k0 (fun z => by have := z.2.2.2.2; omega)
            · skip
              refine x_iconst (dT U_X7_opensNote 25 rfl) ?_
              refine x_goto (tgt := 58) (dT U_X7_opensNote 26 rfl) (by decide) ?_
              refine x_zreturn (dT U_X7_opensNote 28 rfl) rfl (by omega) ?_
              first | exact k1 ⟨a1, MM_inj hp5 se hm (by omega), g1, g2, by omega⟩ | exact k0 (fun z => by have := z.2.2.2.2; omega)
        · refine xRet_some ?_
          refine x_if_eq (tgt := 57) (dT U_X7_opensNote 16 rfl) (by decide) (by unfold xr at *; omega) (fun c32 => ?_) (fun c32 => ?_)
          · skip
            refine x_iconst (dT U_X7_opensNote 27 rfl) ?_
            refine x_zreturn (dT U_X7_opensNote 28 rfl) rfl (by omega) ?_
            exact k0 (fun z => s0 z.1)
          · exfalso; omega

set_option maxRecDepth 20000 in
set_option maxHeartbeats 1000000 in
theorem S_X7_keepsItsWord {G : xG} {d rc rs : Nat} {ex : Bool} {h : xH} {Q : xQ} {p ra : Nat} {R : RS} (hp5 : p ∈ PR) (hr : RA p ra R h) (ok : R.ok p) (hw : GW p h) (hrt : R.rt = true → acc p R) (k : Q (.inl (some (vi 1))) ex h) : X G m_X7_keepsItsWord (d + 4) rc rs ex 0 (xe m_X7_keepsItsWord.2.2.1 [.ref ra]) [] h Q := by
  show X G m_X7_keepsItsWord _ _ _ _ 0 [some (.ref ra), none] [] h Q
  have hp := PRb hp5
  have hq := gq_b hp5
  obtain ⟨hf, hg, hml, hex, hbs⟩ := id hw
  obtain ⟨r9, hR, hfo, hma, han⟩ := id hr
  have hR : h[ra]? = some (cO 7 [.ref 5, .ref 4, .ref (ra + 1), .ref (ra + 2), .ref (ra + 3), vi (R.y p), vi (R.vv), vi (R.a p), vi (R.ww), vi (R.cc), vi (R.tt), vi (R.mm), vi (R.rr)]) := hR
  have yb := ok.yb hp5
  have ab := ok.ab hp5
  have vb := ok.vb
  have wb := ok.wb
  have cb := ok.cb
  have tb := ok.tb
  have mb := ok.mb'
  have d9 := dg_b (gf R.form) 8
  have M : X G m_X7_keepsItsWord (d + 4) rc rs ex 16 [some (.ref ra), none] [] h Q := by
    refine x_aload_n (dT U_X7_keepsItsWord 8 rfl) rfl ?_
    refine x_invokevirtual (rc' := rc) (rs' := rs) (rc2 := 0) (rs2 := 0) (As := []) (st := _) M_X7_hasFirst K_X7_134 (dT U_X7_keepsItsWord 9 rfl) rfl rfl (by decide) rfl rfl hR (by omega) (by decide) rfl (Nat.le_of_ble_eq_true rfl) rfl (by decide) (Nat.le_of_ble_eq_true rfl) rfl rfl ?_
    refine S_X7_hasFirst hp5 hr ok hw (fun s2 => ?_) (fun s0 => ?_)
    · refine xRet_some ?_
      rw [RS.v1 (R := R) (by omega)] at hR
      have sv := ok.v (by omega)
      have sw := ok.w (by omega)
      refine x_if_ne (tgt := 25) (dT U_X7_keepsItsWord 10 rfl) (by decide) (by unfold xr at *; omega) (fun c20 => ?_) (fun c20 => ?_)
      · skip
        refine x_aload_n (dT U_X7_keepsItsWord 13 rfl) rfl ?_
        refine x_getfield F_X7_22 (dT U_X7_keepsItsWord 14 rfl) hR (by omega) rfl ?_
        refine x_invokestatic (rc' := rc) (rs' := rs) (rc2 := 0) (rs2 := 0) (As := [_]) (st := _) M_X1_degreeOf K_X7_125 (dT U_X7_keepsItsWord 15 rfl) rfl rfl rfl rfl (Nat.le_of_ble_eq_true rfl) rfl (by decide) (Nat.le_of_ble_eq_true rfl) rfl rfl ?_
        refine S_X1_degreeOf hfo (by omega) ok.f24.1 (fun j => by have := ok.f24.2 j; unfold xr; omega) ?_
        change xRet _ _ _ _ _ _ _ _ _ _ (.inl (some (vi (dg (gf R.form) 8)))) _ _
        refine xRet_some ?_
        refine x_iconst (dT U_X7_keepsItsWord 16 rfl) ?_
        refine x_icmp_ne (tgt := 40) (dT U_X7_keepsItsWord 17 rfl) (by decide) (by unfold xr; omega) (by unfold xr; omega) (fun c33 => ?_) (fun c33 => ?_)
        · skip
          have ea : answ p R = _ := if_neg (show ¬ dg (gf R.form) 8 = -1 by omega)
          refine x_iconst (dT U_X7_keepsItsWord 20 rfl) ?_
          refine x_istore_n (ls' := [some (.ref _), some (vi _)]) (dT U_X7_keepsItsWord 21 rfl) (by decide) rfl ?_
          refine x_iload_n (dT U_X7_keepsItsWord 22 rfl) rfl ?_
          refine x_if_eq (tgt := 69) (dT U_X7_keepsItsWord 23 rfl) (by decide) (by unfold xr at *; omega) (fun c43 => ?_) (fun c43 => ?_)
          · skip
            refine x_aload_n (dT U_X7_keepsItsWord 35 rfl) rfl ?_
            refine x_invokevirtual (rc' := rc) (rs' := rs) (rc2 := 0) (rs2 := 0) (As := []) (st := _) M_X7_answerable K_X7_146 (dT U_X7_keepsItsWord 36 rfl) rfl rfl (by decide) rfl rfl hR (by omega) (by decide) rfl (Nat.le_of_ble_eq_true rfl) rfl (by decide) (Nat.le_of_ble_eq_true rfl) rfl rfl ?_
            refine S_X7_answerable hp5 hr ok hw s2 ?_
            rw [ea]
            refine xRet_some ?_
            refine x_aload_n (dT U_X7_keepsItsWord 37 rfl) rfl ?_
            refine x_getfield F_X7_21 (dT U_X7_keepsItsWord 38 rfl) hR (by omega) rfl ?_
            refine x_getfield F_X7_131 (dT U_X7_keepsItsWord 39 rfl) hf (by omega) rfl ?_
            refine x_icmp_ne (tgt := 87) (dT U_X7_keepsItsWord 40 rfl) (by decide) (by unfold xr; omega) (by unfold xr; omega) (fun c80 => ?_) (fun c80 => ?_)
            · exfalso; omega
            · skip
              refine x_iconst (dT U_X7_keepsItsWord 41 rfl) ?_
              refine x_goto (tgt := 88) (dT U_X7_keepsItsWord 42 rfl) (by decide) ?_
              refine x_zreturn (dT U_X7_keepsItsWord 44 rfl) rfl (by omega) ?_
              exact k
          · exfalso; omega
        · skip
          have ea : answ p R = _ := if_pos (show dg (gf R.form) 8 = -1 by omega)
          refine x_iconst (dT U_X7_keepsItsWord 18 rfl) ?_
          refine x_goto (tgt := 41) (dT U_X7_keepsItsWord 19 rfl) (by decide) ?_
          refine x_istore_n (ls' := [some (.ref _), some (vi _)]) (dT U_X7_keepsItsWord 21 rfl) (by decide) rfl ?_
          refine x_iload_n (dT U_X7_keepsItsWord 22 rfl) rfl ?_
          refine x_if_eq (tgt := 69) (dT U_X7_keepsItsWord 23 rfl) (by decide) (by unfold xr at *; omega) (fun c43 => ?_) (fun c43 => ?_)
          · exfalso; omega
          · skip
            refine x_aload_n (dT U_X7_keepsItsWord 24 rfl) rfl ?_
            refine x_getfield F_X7_39 (dT U_X7_keepsItsWord 25 rfl) hR (by omega) rfl ?_
            refine x_if_eq (tgt := 61) (dT U_X7_keepsItsWord 26 rfl) (by decide) (by unfold xr; omega) (fun c50 => ?_) (fun c50 => ?_)
            · skip
              refine x_iconst (dT U_X7_keepsItsWord 31 rfl) ?_
              refine x_goto (tgt := 88) (dT U_X7_keepsItsWord 32 rfl) (by decide) ?_
              refine x_zreturn (dT U_X7_keepsItsWord 44 rfl) rfl (by omega) ?_
              exact k
            · skip
              have r1 := root1 hp5 sw sv (Or.inl (by omega))
              refine x_aload_n (dT U_X7_keepsItsWord 27 rfl) rfl ?_
              refine x_invokevirtual (rc' := rc) (rs' := rs) (rc2 := 0) (rs2 := 0) (As := []) (st := _) M_X7_answerable K_X7_146 (dT U_X7_keepsItsWord 28 rfl) rfl rfl (by decide) rfl rfl hR (by omega) (by decide) rfl (Nat.le_of_ble_eq_true rfl) rfl (by decide) (Nat.le_of_ble_eq_true rfl) rfl rfl ?_
              refine S_X7_answerable hp5 hr ok hw s2 ?_
              rw [ea]
              refine xRet_some ?_
              refine x_iconst (dT U_X7_keepsItsWord 29 rfl) ?_
              refine x_icmp_gt (tgt := 65) (dT U_X7_keepsItsWord 30 rfl) (by decide) (by unfold xr; omega) (by unfold xr; omega) (fun c58 => ?_) (fun c58 => ?_)
              · exfalso; omega
              · skip
                refine x_iconst (dT U_X7_keepsItsWord 31 rfl) ?_
                refine x_goto (tgt := 88) (dT U_X7_keepsItsWord 32 rfl) (by decide) ?_
                refine x_zreturn (dT U_X7_keepsItsWord 44 rfl) rfl (by omega) ?_
                exact k
      · exfalso; omega
    · refine xRet_some ?_
      refine x_if_ne (tgt := 25) (dT U_X7_keepsItsWord 10 rfl) (by decide) (by unfold xr at *; omega) (fun c20 => ?_) (fun c20 => ?_)
      · exfalso; omega
      · skip
        refine x_iconst (dT U_X7_keepsItsWord 11 rfl) ?_
        refine x_zreturn (dT U_X7_keepsItsWord 12 rfl) rfl (by omega) ?_
        exact k
  refine x_aload_n (dT U_X7_keepsItsWord 0 rfl) rfl ?_
  refine x_getfield F_X7_57 (dT U_X7_keepsItsWord 1 rfl) hR (by omega) rfl ?_
  refine x_if_eq (tgt := 16) (dT U_X7_keepsItsWord 2 rfl) (by decide) (by unfold RS.rr xr; split <;> omega) (fun c4 => ?_) (fun c4 => ?_)
  · skip
    exact M
  · skip
    have hrt1 : R.rt = true := Decidable.byContradiction fun z => by unfold RS.rr at *; rw [if_neg z] at *; omega
    refine x_aload_n (dT U_X7_keepsItsWord 3 rfl) rfl ?_
    refine x_invokevirtual (rc' := rc) (rs' := rs) (rc2 := 0) (rs2 := 0) (As := []) (st := _) M_X7_accepted K_X7_111 (dT U_X7_keepsItsWord 4 rfl) rfl rfl (by decide) rfl rfl hR (by omega) (by decide) rfl (Nat.le_of_ble_eq_true rfl) rfl (by decide) (Nat.le_of_ble_eq_true rfl) rfl rfl ?_
    refine S_X7_accepted hp5 hr ok hw (fun a1 => ?_) (fun s0 => absurd (hrt hrt1) s0)
    · refine xRet_some ?_
      refine x_if_ne (tgt := 16) (dT U_X7_keepsItsWord 5 rfl) (by decide) (by unfold xr at *; omega) (fun c11 => ?_) (fun c11 => ?_)
      · skip
        exact M
      · exfalso; omega
