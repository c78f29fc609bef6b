set_option maxRecDepth 20000 in
set_option maxHeartbeats 60000000 in
theorem cutN_ok {G : xG} {d rc rs : Nat} {ex : Bool} {h : xH} {Q : xQ} {σ : St} {p n0 : Nat} {amt blind y S0 zb mb due TR cc zc : Int} {a_row : Nat} {a_fm : Nat} {a_mk : Nat} {l2 : List Int} {l102 : List Int} {mk : List Int} (hL : gL G < 100000) (hpr : p ∈ PR) (w : CW σ h) (v : INV σ) (hlen : 70 ≤ h.length) (f_R0_st : (σ.R 0).st = 4) (f_R0_t : (σ.R 0).t = (mb + cc * blind) % (p : Int)) (f_R0_answer : (σ.R 0).answer = tab (fun j => (mk.getD j 0 + cc * l2.getD j 0) % (p : Int)) 8) (f_R0_c : (σ.R 0).c = cc) (f_R0_fa : (σ.R 0).fa = cm p mk mb) (f_R0_w : (σ.R 0).w = inn l102 mk % (p : Int)) (f_R0_mb : (σ.R 0).mb = mb) (f_R0_mk : (σ.R 0).mk = true) (f_R0_mask : (σ.R 0).mask = mk) (f_R0_e : (σ.R 0).e = (cm1 p amt blind)) (f_R0_v : (σ.R 0).v = amt) (f_R0_form : (σ.R 0).form = l102) (f_L : σ.L.n = n0 + 4) (f_S : stnd p (gf σ.L.nn) σ.L.n = ((S0 + (cm1 p amt blind)) % (p : Int))) (f_e3 : σ.L.nn.getD (n0 + 3) 0 = (cm1 p amt blind)) (f_p : σ.p = p) (f_R0_tr : trs p (σ.R 0) = TR) (h_row : h[a_row]? = some (cA 0 l2)) (g_row : 70 ≤ a_row) (Fl_row : Fl (p : Int) l2) (h_fm : h[a_fm]? = some (cA 0 l102)) (g_fm : 70 ≤ a_fm) (Fl_fm : Fl (p : Int) l102) (h_mk : h[a_mk]? = some (cA 0 mk)) (g_mk : 70 ≤ a_mk) (Fl_mk : Fl (p : Int) mk) (b_amt : 0 ≤ amt ∧ amt < (p : Int)) (b_blind : 0 ≤ blind ∧ blind < (p : Int)) (e_y : MM p (cm1 p amt blind) = y) (hz_y : xr y) (e_zb : zb = MM p S0) (b_S0 : 0 ≤ S0 ∧ S0 < (p : Int)) (e_lR : l2 = (List.replicate 8 0).set 0 amt) (hn4 : n0 + 4 ≤ 16) (e_lF : l102 = (List.replicate 8 0).set 0 1) (e_due : TR % (p : Int) = due) (b_due : 0 ≤ due ∧ due < (p : Int)) (e_zc : zc = cc) (hz_zc : xr zc) (e_cc : cc = due) (kk : ∀ (σ2 : St) (h2 : xH) (ex2 : Bool), CW σ2 h2 → INV σ2 → σ2.p = p → 70 ≤ h2.length → Q (.inl (some (vi 1))) ex2 h2) : X G m_L_areNotes (d + 10) (rc + 60) (rs + 400) ex 386 [some (.ref 3), some (.ref 0), some (vi (p : Int)), some (vi (gq p : Int)), some (.ref a_row), some (vi blind), some (vi y), some (vl zb), none, some (vl ((n0 : Nat) : Int)), none, some (vl ((n0 + 1 : Nat) : Int)), none, some (vl ((n0 + 3 : Nat) : Int)), none, some (.ref a_fm), some (vl due), none, none, some (vl zc), none, none, none] [] h Q := by
  have hp := PRb hpr
  have hq := gq_b hpr
  have hE := cm1_b (p := p) (n := amt) (b := blind) (by omega)
  have hEne : cm1 p amt blind ≠ -1 := by omega
  have hz_zb : xr zb := by rw [e_zb]; exact xr_MM hpr
  have cmE : cm p l2 blind = cm1 p amt blind := by rw [e_lR, cm_bit]
  have q_amt : (l2).getD 0 0 = amt := by rw [e_lR, gset_e (by decide)]
  have inE : inn l102 l2 % (p : Int) = amt := by rw [e_lF, e_lR, inn_one]; exact modr b_amt
  refine x_aload_n (dT U_L_areNotes 222 rfl) rfl ?_
  refine x_lload (dT U_L_areNotes 223 rfl) rfl ?_
  refine x_l2i (dT U_L_areNotes 224 rfl) ?_
  refine x_iconst (dT U_L_areNotes 225 rfl) ?_
  refine x_invokestaticT (rc' := rc + 56) (rs' := rs + 376) (rc2 := 0 + 4) (rs2 := 0 + 24) (As := [_, _, _]) (st := _) M_L_pay K_L_363 (dT U_L_areNotes 226 rfl) rfl (by decide) rfl rfl (Nat.le_of_ble_eq_true rfl) rfl (by decide) (Nat.le_of_ble_eq_true rfl) (by first | rfl | omega) (by first | rfl | omega) ?_
  refine S_L_pay w v (by first | assumption | (unfold xr; omega)) (by first | assumption | (unfold xr; omega)) (fun  z8 => absurd (show inb _ _ ∧ inb _ _ from by have := f_L; omega) z8) (fun _ z8 => absurd ((by rw [f_p]; exact (show ¬ (σ.L.nn.getD (n0 + 3) 0) = -1 ∧ opn p (σ.R 0) (σ.L.nn.getD (n0 + 3) 0) from ⟨fun z8 => hEne (f_e3.symm.trans z8), (acc_ok (S := l2) (F := l102) (M := mk) (c := cc) (m := mb) (b := blind) f_R0_st (f_R0_e.trans cmE.symm) (f_R0_v.trans inE.symm) f_R0_form f_R0_fa f_R0_w f_R0_c f_R0_t f_R0_answer), f_R0_e.trans f_e3.symm, by rw [f_R0_form, e_lF]; rfl, by rw [f_R0_form, e_lF]; decide, (by rw [f_R0_c, f_R0_tr]; exact e_cc.trans e_due.symm)⟩))) z8) (fun _ _ z101 e101 hz101 h101 fc101 w_101 v_101 => ?_)
  refine xRet_some ?_
  have e101 : z101 = amt := by
    rw [e101]
    exact f_R0_v
  obtain ⟨σ102, w102, v102, L_102, S_102, e3_102, R0_st_102, R0_t_102, R0_answer_102, R0_c_102, R0_fa_102, R0_w_102, R0_mb_102, R0_mk_102, R0_mask_102, R0_e_102, R0_v_102, R0_form_102, p_102, R0_tr_102⟩ : ∃ σ102 : St, CW σ102 h101 ∧ INV σ102 ∧ σ102.L.n = n0 + 4 ∧ stnd p (gf σ102.L.nn) σ102.L.n = S0 ∧ σ102.L.nn.getD (n0 + 3) 0 = -1 ∧ (σ102.R 0).st = 4 ∧ (σ102.R 0).t = (mb + cc * blind) % (p : Int) ∧ (σ102.R 0).answer = tab (fun j => (mk.getD j 0 + cc * l2.getD j 0) % (p : Int)) 8 ∧ (σ102.R 0).c = cc ∧ (σ102.R 0).fa = cm p mk mb ∧ (σ102.R 0).w = inn l102 mk % (p : Int) ∧ (σ102.R 0).mb = mb ∧ (σ102.R 0).mk = true ∧ (σ102.R 0).mask = mk ∧ (σ102.R 0).e = (cm1 p amt blind) ∧ (σ102.R 0).v = amt ∧ (σ102.R 0).form = l102 ∧ σ102.p = p ∧ trs p (σ102.R 0) = TR := ⟨_, w_101, v_101, f_L, (by show stnd p (gf (σ.L.nn.set (n0 + 3) (-1))) σ.L.n = _; rw [st_gone (by have := f_L; omega) (by rw [v.L.2.1]; omega) f_e3 hEne, f_S]; exact pay_back b_S0), (by show (σ.L.nn.set (n0 + 3) (-1)).getD (n0 + 3) 0 = _; rw [gset_e (by rw [v.L.2.1]; omega)]), f_R0_st, f_R0_t, f_R0_answer, f_R0_c, f_R0_fa, f_R0_w, f_R0_mb, f_R0_mk, f_R0_mask, f_R0_e, f_R0_v, f_R0_form, f_p, f_R0_tr⟩
  have h_row_102 : h101[a_row]? = some (cA 0 l2) := (fc101).get h_row (by omega)
  have h_fm_102 : h101[a_fm]? = some (cA 0 l102) := (fc101).get h_fm (by omega)
  have h_mk_102 : h101[a_mk]? = some (cA 0 mk) := (fc101).get h_mk (by omega)
  have hlen_102 : 70 ≤ h101.length := by rw [fc101.1]; exact hlen
  refine x_lstore (ls' := [some (.ref _), some (.ref _), some (vi _), some (vi _), some (.ref _), some (vi _), some (vi _), some (vl _), none, some (vl _), none, some (vl _), none, some (vl _), none, some (.ref _), some (vl _), none, none, some (vl _), none, some (vl _), none]) (dT U_L_areNotes 227 rfl) (by decide) rfl ?_
  refine x_lload (dT U_L_areNotes 228 rfl) rfl ?_
  refine x_lload (dT U_L_areNotes 229 rfl) rfl ?_
  refine x_lif_eq (tgt := 438) (dT U_L_areNotes 230 rfl) (dT U_L_areNotes 231 rfl) (by decide) (xrl_of hz_zc) (xrl_of (by unfold xr; omega)) (fun c400 => ?_) (fun c400 => ?_)
  · skip
    refine x_lload (dT U_L_areNotes 250 rfl) rfl ?_
    refine x_aload (dT U_L_areNotes 251 rfl) rfl ?_
    refine x_iconst (dT U_L_areNotes 252 rfl) ?_
    refine x_iaload (0) (dT U_L_areNotes 253 rfl) h_row_102 (by omega) rfl (by have := (Fl_row).1; omega) (by have := (Fl_row).1; omega) ?_
    rw [q_amt]
    refine x_i2l (dT U_L_areNotes 254 rfl) (by unfold xr; omega) ?_
    refine x_lif_ne (tgt := 475) (dT U_L_areNotes 255 rfl) (dT U_L_areNotes 256 rfl) (by decide) (xrl_of hz101) (xrl_of (by unfold xr; omega)) (fun c445 => ?_) (fun c445 => ?_)
    · exfalso
      exact c445 e101
    · skip
      refine x_aload_n (dT U_L_areNotes 257 rfl) rfl ?_
      refine x_lload (dT U_L_areNotes 258 rfl) rfl ?_
      refine x_l2i (dT U_L_areNotes 259 rfl) ?_
      refine x_invokestaticT (rc' := rc + 55) (rs' := rs + 370) (rc2 := 0 + 1) (rs2 := 0 + 6) (As := [_, _]) (st := _) M_L_note K_L_355 (dT U_L_areNotes 260 rfl) rfl (by decide) rfl rfl (Nat.le_of_ble_eq_true rfl) rfl (by decide) (Nat.le_of_ble_eq_true rfl) (by first | rfl | omega) (by first | rfl | omega) ?_
      refine S_L_note w102 v102 (by first | assumption | (unfold xr; omega)) (fun  z8 => absurd (show inb _ _ from by have := L_102; omega) z8) (fun _ z103 e103 hz103 => ?_)
      refine xRet_some ?_
      have e103 : z103 = 0 := by
        simp only [tn0, tn1, tn2, tn3, tn4, tn5, tn6, tn7, tn8, Int.toNat_natCast, p_102, e3_102] at e103
        rw [e103]
        rfl
      refine x_lconst (z := 0) (dT U_L_areNotes 261 rfl) rfl ?_
      refine x_lif_ne (tgt := 475) (dT U_L_areNotes 262 rfl) (dT U_L_areNotes 263 rfl) (by decide) (xrl_of hz103) (xrl_of (by unfold xr; omega)) (fun c457 => ?_) (fun c457 => ?_)
      · exfalso
        exact c457 e103
      · skip
        refine x_aload_n (dT U_L_areNotes 264 rfl) rfl ?_
        refine x_invokestatic (rc' := rc + 55) (rs' := rs + 370) (rc2 := 0 + 0) (rs2 := 0 + 0) (As := [_]) (st := _) M_L_standing K_L_351 (dT U_L_areNotes 265 rfl) rfl rfl rfl rfl (Nat.le_of_ble_eq_true rfl) rfl (by decide) (Nat.le_of_ble_eq_true rfl) (by first | rfl | omega) (by first | rfl | omega) ?_
        refine S_L_standing w102 v102   (fun z104 e104 hz104 => ?_)
        refine xRet_some ?_
        have e104 : z104 = MM p S0 := by
          rw [p_102] at e104
          rw [e104, S_102]
        refine x_lload (dT U_L_areNotes 266 rfl) rfl ?_
        refine x_lif_ne (tgt := 475) (dT U_L_areNotes 267 rfl) (dT U_L_areNotes 268 rfl) (by decide) (xrl_of hz104) (xrl_of hz_zb) (fun c467 => ?_) (fun c467 => ?_)
        · exfalso
          exact c467 (e104.trans e_zb.symm)
        · skip
          refine x_iconst (dT U_L_areNotes 269 rfl) ?_
          refine x_goto (tgt := 476) (dT U_L_areNotes 270 rfl) (by decide) ?_
          refine x_zreturn (dT U_L_areNotes 272 rfl) rfl (by omega) ?_
          exact kk _ _ _ w102 v102 p_102 hlen_102
  · exfalso
    exact c400 (e_zc.trans e_cc)

set_option maxRecDepth 20000 in
set_option maxHeartbeats 60000000 in
theorem cutN_no {G : xG} {d rc rs : Nat} {ex : Bool} {h : xH} {Q : xQ} {σ : St} {p n0 : Nat} {amt blind y S0 zb mb due TR cc zc : Int} {a_row : Nat} {a_fm : Nat} {a_mk : Nat} {l2 : List Int} {l102 : List Int} {mk : List Int} (hL : gL G < 100000) (hpr : p ∈ PR) (w : CW σ h) (v : INV σ) (hlen : 70 ≤ h.length) (f_R0_st : (σ.R 0).st = 4) (f_R0_t : (σ.R 0).t = (mb + cc * blind) % (p : Int)) (f_R0_answer : (σ.R 0).answer = tab (fun j => (mk.getD j 0 + cc * l2.getD j 0) % (p : Int)) 8) (f_R0_c : (σ.R 0).c = cc) (f_R0_fa : (σ.R 0).fa = cm p mk mb) (f_R0_w : (σ.R 0).w = inn l102 mk % (p : Int)) (f_R0_mb : (σ.R 0).mb = mb) (f_R0_mk : (σ.R 0).mk = true) (f_R0_mask : (σ.R 0).mask = mk) (f_R0_e : (σ.R 0).e = (cm1 p amt blind)) (f_R0_v : (σ.R 0).v = amt) (f_R0_form : (σ.R 0).form = l102) (f_L : σ.L.n = n0 + 4) (f_S : stnd p (gf σ.L.nn) σ.L.n = ((S0 + (cm1 p amt blind)) % (p : Int))) (f_e3 : σ.L.nn.getD (n0 + 3) 0 = (cm1 p amt blind)) (f_p : σ.p = p) (f_R0_tr : trs p (σ.R 0) = TR) (h_row : h[a_row]? = some (cA 0 l2)) (g_row : 70 ≤ a_row) (Fl_row : Fl (p : Int) l2) (h_fm : h[a_fm]? = some (cA 0 l102)) (g_fm : 70 ≤ a_fm) (Fl_fm : Fl (p : Int) l102) (h_mk : h[a_mk]? = some (cA 0 mk)) (g_mk : 70 ≤ a_mk) (Fl_mk : Fl (p : Int) mk) (b_amt : 0 ≤ amt ∧ amt < (p : Int)) (b_blind : 0 ≤ blind ∧ blind < (p : Int)) (e_y : MM p (cm1 p amt blind) = y) (hz_y : xr y) (e_zb : zb = MM p S0) (b_S0 : 0 ≤ S0 ∧ S0 < (p : Int)) (e_lR : l2 = (List.replicate 8 0).set 0 amt) (hn4 : n0 + 4 ≤ 16) (e_lF : l102 = (List.replicate 8 0).set 0 1) (e_due : TR % (p : Int) = due) (b_due : 0 ≤ due ∧ due < (p : Int)) (e_zc : zc = cc) (hz_zc : xr zc) (e_cc : cc ≠ due) (kk : ∀ (σ2 : St) (h2 : xH) (ex2 : Bool), CW σ2 h2 → INV σ2 → σ2.p = p → 70 ≤ h2.length → Q (.inl (some (vi 1))) ex2 h2) : X G m_L_areNotes (d + 10) (rc + 60) (rs + 400) ex 386 [some (.ref 3), some (.ref 0), some (vi (p : Int)), some (vi (gq p : Int)), some (.ref a_row), some (vi blind), some (vi y), some (vl zb), none, some (vl ((n0 : Nat) : Int)), none, some (vl ((n0 + 1 : Nat) : Int)), none, some (vl ((n0 + 3 : Nat) : Int)), none, some (.ref a_fm), some (vl due), none, some (vi 0), some (vl zc), none, none, none] [] h Q := by
  have hp := PRb hpr
  have hq := gq_b hpr
  have hE := cm1_b (p := p) (n := amt) (b := blind) (by omega)
  have hEne : cm1 p amt blind ≠ -1 := by omega
  have hz_zb : xr zb := by rw [e_zb]; exact xr_MM hpr
  have cmE : cm p l2 blind = cm1 p amt blind := by rw [e_lR, cm_bit]
  have q_amt : (l2).getD 0 0 = amt := by rw [e_lR, gset_e (by decide)]
  have inE : inn l102 l2 % (p : Int) = amt := by rw [e_lF, e_lR, inn_one]; exact modr b_amt
  refine x_aload_n (dT U_L_areNotes 222 rfl) rfl ?_
  refine x_lload (dT U_L_areNotes 223 rfl) rfl ?_
  refine x_l2i (dT U_L_areNotes 224 rfl) ?_
  refine x_iconst (dT U_L_areNotes 225 rfl) ?_
  refine x_invokestaticT (rc' := rc + 56) (rs' := rs + 376) (rc2 := 0 + 4) (rs2 := 0 + 24) (As := [_, _, _]) (st := _) M_L_pay K_L_363 (dT U_L_areNotes 226 rfl) rfl (by decide) rfl rfl (Nat.le_of_ble_eq_true rfl) rfl (by decide) (Nat.le_of_ble_eq_true rfl) (by omega) (by omega) ?_
  refine S_L_pay w v (by unfold xr; omega) (by unfold xr; omega) (fun z8 => absurd (show inb _ _ ∧ inb _ _ from by have := f_L; omega) z8) (fun _ _ => ?_) (fun _ z8 => absurd (show cc = due from by have z7 := z8.2.2.2.2.2; rw [f_p] at z7; exact f_R0_c.symm.trans (z7.trans (show trs p (σ.R 0) % (p : Int) = due from (by rw [f_R0_tr]; exact e_due)))) e_cc)
  refine xRet_some ?_
  refine x_lstore (ls' := [some (.ref _), some (.ref _), some (vi _), some (vi _), some (.ref _), some (vi _), some (vi _), some (vl _), none, some (vl _), none, some (vl _), none, some (vl _), none, some (.ref _), some (vl _), none, some (vi _), some (vl _), none, some (vl _), none]) (dT U_L_areNotes 227 rfl) (by decide) rfl ?_
  refine x_lload (dT U_L_areNotes 228 rfl) rfl ?_
  refine x_lload (dT U_L_areNotes 229 rfl) rfl ?_
  refine x_lif_eq (tgt := 438) (dT U_L_areNotes 230 rfl) (dT U_L_areNotes 231 rfl) (by decide) (xrl_of hz_zc) (xrl_of (by unfold xr; omega)) (fun c400 => ?_) (fun c400 => ?_)
  · exfalso
    exact e_cc (e_zc.symm.trans c400)
  · skip
    refine x_iload (dT U_L_areNotes 232 rfl) rfl ?_
    refine x_if_ne (tgt := 436) (dT U_L_areNotes 233 rfl) (by decide) (by unfold xr; omega) (fun c406 => ?_) (fun c406 => ?_)
    · exfalso
      omega
    · skip
      refine x_lload (dT U_L_areNotes 234 rfl) rfl ?_
      refine x_ldc2 C_L_43 (dT U_L_areNotes 235 rfl) ?_
      refine x_lif_ne (tgt := 436) (dT U_L_areNotes 236 rfl) (dT U_L_areNotes 237 rfl) (by decide) (show xrl _ by unfold xrl; omega) (show xrl _ by unfold xrl; omega) (fun c414 => ?_) (fun c414 => ?_)
      · exfalso
        exact absurd rfl c414
      · skip
        refine x_aload_n (dT U_L_areNotes 238 rfl) rfl ?_
        refine x_lload (dT U_L_areNotes 239 rfl) rfl ?_
        refine x_l2i (dT U_L_areNotes 240 rfl) ?_
        refine x_invokestaticT (rc' := rc + 55) (rs' := rs + 370) (rc2 := 0 + 1) (rs2 := 0 + 6) (As := [_, _]) (st := _) M_L_note K_L_355 (dT U_L_areNotes 241 rfl) rfl (by decide) rfl rfl (Nat.le_of_ble_eq_true rfl) rfl (by decide) (Nat.le_of_ble_eq_true rfl) (by first | rfl | omega) (by first | rfl | omega) ?_
        refine S_L_note w v (by first | assumption | (unfold xr; omega)) (fun  z8 => absurd (show inb _ _ from by have := f_L; omega) z8) (fun _ z101 e101 hz101 => ?_)
        refine xRet_some ?_
        have e101 : z101 = y := by
          simp only [tn0, tn1, tn2, tn3, tn4, tn5, tn6, tn7, tn8, Int.toNat_natCast, f_p, f_e3] at e101
          rw [e101]
          unfold nv
          rw [if_neg hEne]
          exact e_y
        refine x_iload (dT U_L_areNotes 242 rfl) rfl ?_
        refine x_i2l (dT U_L_areNotes 243 rfl) hz_y ?_
        refine x_lif_ne (tgt := 436) (dT U_L_areNotes 244 rfl) (dT U_L_areNotes 245 rfl) (by decide) (xrl_of hz101) (xrl_of hz_y) (fun c428 => ?_) (fun c428 => ?_)
        · exfalso
          exact c428 e101
        · skip
          refine x_iconst (dT U_L_areNotes 246 rfl) ?_
          refine x_goto (tgt := 437) (dT U_L_areNotes 247 rfl) (by decide) ?_
          refine x_zreturn (dT U_L_areNotes 249 rfl) rfl (by omega) ?_
          exact kk _ _ _ w v f_p hlen

set_option maxRecDepth 20000 in
set_option maxHeartbeats 60000000 in
theorem cutN_1 {G : xG} {d rc rs : Nat} {ex : Bool} {h : xH} {Q : xQ} {σ : St} {p n0 : Nat} {amt blind y S0 zb : Int} {a_row : Nat} {l2 : List Int} (hL : gL G < 100000) (hpr : p ∈ PR) (w : CW σ h) (v : INV σ) (hlen : 70 ≤ h.length) (f_L : σ.L.n = n0 + 4) (f_S : stnd p (gf σ.L.nn) σ.L.n = ((S0 + (cm1 p amt blind)) % (p : Int))) (f_e3 : σ.L.nn.getD (n0 + 3) 0 = (cm1 p amt blind)) (f_p : σ.p = p) (h_row : h[a_row]? = some (cA 0 l2)) (g_row : 70 ≤ a_row) (Fl_row : Fl (p : Int) l2) (b_amt : 0 ≤ amt ∧ amt < (p : Int)) (b_blind : 0 ≤ blind ∧ blind < (p : Int)) (e_y : MM p (cm1 p amt blind) = y) (hz_y : xr y) (e_zb : zb = MM p S0) (b_S0 : 0 ≤ S0 ∧ S0 < (p : Int)) (e_lR : l2 = (List.replicate 8 0).set 0 amt) (hn4 : n0 + 4 ≤ 16) (kk : ∀ (σ2 : St) (h2 : xH) (ex2 : Bool), CW σ2 h2 → INV σ2 → σ2.p = p → 70 ≤ h2.length → Q (.inl (some (vi 1))) ex2 h2) : X G m_L_areNotes (d + 10) (rc + 170) (rs + 1400) ex 239 [some (.ref 3), some (.ref 0), some (vi (p : Int)), some (vi (gq p : Int)), some (.ref a_row), some (vi blind), some (vi y), some (vl zb), none, some (vl ((n0 : Nat) : Int)), none, some (vl ((n0 + 1 : Nat) : Int)), none, some (vl ((n0 + 3 : Nat) : Int)), none, none, none, none, none, none, none, none, none] [] h Q := by
  have hp := PRb hpr
  have hq := gq_b hpr
  have hE := cm1_b (p := p) (n := amt) (b := blind) (by omega)
  have hEne : cm1 p amt blind ≠ -1 := by omega
  have hz_zb : xr zb := by rw [e_zb]; exact xr_MM hpr
  have cmE : cm p l2 blind = cm1 p amt blind := by rw [e_lR, cm_bit]
  have q_amt : (l2).getD 0 0 = amt := by rw [e_lR, gset_e (by decide)]
  refine x_bipush (dT U_L_areNotes 138 rfl) (by decide) ?_
  refine x_newL (rc' := rc + 169) (rs' := rs + 1392) 8 (by have := hlen; omega) (dT U_L_areNotes 139 rfl) rfl (by omega) (by omega) (by omega) (fun h101 a_fm u101 ga101 ge101 h_fm101 => ?_)
  have Fl_fm : Fl (p : Int) (List.replicate 8 0) := Fl_0 (by omega)
  have g_fm : 70 ≤ a_fm := by have := hlen; omega
  have w101 := (w).up u101
  have h_row_101 := u101 _ _ h_row
  have ne_fm_row : a_fm ≠ a_row := by have := (List.getElem?_eq_some_iff.mp h_row).1; omega
  have hlen_101 : 70 ≤ h101.length := by have := u101.len; have := hlen; omega
  refine x_astore (ls' := [some (.ref _), some (.ref _), some (vi _), some (vi _), some (.ref _), some (vi _), some (vi _), some (vl _), none, some (vl _), none, some (vl _), none, some (vl _), none, some (.ref _), none, none, none, none, none, none, none]) (dT U_L_areNotes 140 rfl) (by decide) rfl ?_
  refine x_aload (dT U_L_areNotes 141 rfl) rfl ?_
  refine x_iconst (dT U_L_areNotes 142 rfl) ?_
  refine x_iconst (dT U_L_areNotes 143 rfl) ?_
  refine x_iastoreL (0) w101 g_fm (dT U_L_areNotes 144 rfl) h_fm101 rfl (by have := (Fl_fm).1; omega) (by have := (Fl_fm).1; omega) (fun h102 l102 el102 len102 w102 nb102 h_fm_102 => ?_)
  have hlen_102 : 70 ≤ h102.length := by rw [len102]; exact hlen_101
  have h_row_102 := nb102 _ _ (by omega) h_row_101
  have F_l102 : Fl (p : Int) l102 := by rw [el102]; exact Fl.set Fl_fm (by omega)
  have e_lF : l102 = (List.replicate 8 0).set 0 1 := el102
  have inE : inn l102 l2 % (p : Int) = amt := by rw [e_lF, e_lR, inn_one]; exact modr b_amt
  refine x_aload_n (dT U_L_areNotes 145 rfl) rfl ?_
  refine x_iconst (dT U_L_areNotes 146 rfl) ?_
  refine x_aload (dT U_L_areNotes 147 rfl) rfl ?_
  refine x_invokestatic (rc' := rc + 168) (rs' := rs + 1386) (rc2 := 0 + 1) (rs2 := 0 + 6) (As := [_, _, _]) (st := _) M_L_lays K_L_238 (dT U_L_areNotes 148 rfl) rfl rfl rfl rfl (Nat.le_of_ble_eq_true rfl) rfl (by decide) (Nat.le_of_ble_eq_true rfl) (by first | rfl | omega) (by first | rfl | omega) ?_
  refine S_L_lays w102 v (by omega) h_row_102 (by omega) (by rw [f_p]; exact Fl_row) (fun z103 hz103 h103 fc103 w_103 v_103 => ?_)
  refine xRet_some ?_
  obtain ⟨σ104, w104, v104, r0_104, L_104, S_104, e3_104, p_104⟩ : ∃ σ104 : St, CW σ104 h103 ∧ INV σ104 ∧ σ104.rw 0 = l2 ∧ σ104.L.n = n0 + 4 ∧ stnd p (gf σ104.L.nn) σ104.L.n = ((S0 + (cm1 p amt blind)) % (p : Int)) ∧ σ104.L.nn.getD (n0 + 3) 0 = (cm1 p amt blind) ∧ σ104.p = p := ⟨_, w_103, v_103, rfl, f_L, f_S, f_e3, f_p⟩
  have h_row_104 : h103[a_row]? = some (cA 0 l2) := (fc103).get h_row_102 (by omega)
  have h_fm_104 : h103[a_fm]? = some (cA 0 l102) := (fc103).get h_fm_102 (by omega)
  have hlen_104 : 70 ≤ h103.length := by rw [fc103.1]; exact hlen_102
  refine x_pop2 (dT U_L_areNotes 149 rfl) ?_
  refine x_aload_n (dT U_L_areNotes 150 rfl) rfl ?_
  refine x_iconst (dT U_L_areNotes 151 rfl) ?_
  refine x_aload_n (dT U_L_areNotes 152 rfl) rfl ?_
  refine x_sipush (dT U_L_areNotes 153 rfl) (by decide) ?_
  refine x_iload_n (dT U_L_areNotes 154 rfl) rfl ?_
  refine x_bipush (dT U_L_areNotes 155 rfl) (by decide) ?_
  refine x_invokestatic (rc' := rc + 167) (rs' := rs + 1378) (rc2 := 0 + 1) (rs2 := 0 + 8) (As := [_, _, _, _]) (st := _) M_L_made K_L_234 (dT U_L_areNotes 156 rfl) rfl rfl rfl rfl (Nat.le_of_ble_eq_true rfl) rfl (by decide) (Nat.le_of_ble_eq_true rfl) (by first | rfl | omega) (by first | rfl | omega) ?_
  refine S_L_made (f := 224) (m := 8) hL (by have := hlen_104; omega) (by omega) (by omega) (by omega) (fun h105 a_mk mk u105 ga105 ge105 h_mk105 Fl_mk Z_mk => ?_)
  refine xRet_some ?_
  have g_mk : 70 ≤ a_mk := by have := hlen_104; omega
  have w105 := (w104).up u105
  have h_row_105 := u105 _ _ h_row_104
  have ne_mk_row : a_mk ≠ a_row := by have := (List.getElem?_eq_some_iff.mp h_row_104).1; omega
  have h_fm_105 := u105 _ _ h_fm_104
  have ne_mk_fm : a_mk ≠ a_fm := by have := (List.getElem?_eq_some_iff.mp h_fm_104).1; omega
  have hlen_105 : 70 ≤ h105.length := by have := u105.len; have := hlen_104; omega
  refine x_invokestatic (rc' := rc + 166) (rs' := rs + 1372) (rc2 := 0 + 1) (rs2 := 0 + 6) (As := [_, _, _]) (st := _) M_L_lays K_L_238 (dT U_L_areNotes 157 rfl) rfl rfl rfl rfl (Nat.le_of_ble_eq_true rfl) rfl (by decide) (Nat.le_of_ble_eq_true rfl) (by first | rfl | omega) (by first | rfl | omega) ?_
  refine S_L_lays w105 v104 (by omega) h_mk105 (by omega) (by rw [p_104]; exact Fl_mk) (fun z106 hz106 h106 fc106 w_106 v_106 => ?_)
  refine xRet_some ?_
  obtain ⟨σ107, w107, v107, r1_107, r0_107, L_107, S_107, e3_107, p_107⟩ : ∃ σ107 : St, CW σ107 h106 ∧ INV σ107 ∧ σ107.rw 1 = mk ∧ σ107.rw 0 = l2 ∧ σ107.L.n = n0 + 4 ∧ stnd p (gf σ107.L.nn) σ107.L.n = ((S0 + (cm1 p amt blind)) % (p : Int)) ∧ σ107.L.nn.getD (n0 + 3) 0 = (cm1 p amt blind) ∧ σ107.p = p := ⟨_, w_106, v_106, rfl, r0_104, L_104, S_104, e3_104, p_104⟩
  have h_row_107 : h106[a_row]? = some (cA 0 l2) := (fc106).get h_row_105 (by omega)
  have h_fm_107 : h106[a_fm]? = some (cA 0 l102) := (fc106).get h_fm_105 (by omega)
  have h_mk_107 : h106[a_mk]? = some (cA 0 mk) := (fc106).get h_mk105 (by omega)
  have hlen_107 : 70 ≤ h106.length := by rw [fc106.1]; exact hlen_105
  refine x_pop2 (dT U_L_areNotes 158 rfl) ?_
  refine x_aload_n (dT U_L_areNotes 159 rfl) rfl ?_
  refine x_iconst (dT U_L_areNotes 160 rfl) ?_
  refine x_aload (dT U_L_areNotes 161 rfl) rfl ?_
  refine x_invokestatic (rc' := rc + 165) (rs' := rs + 1366) (rc2 := 0 + 1) (rs2 := 0 + 6) (As := [_, _, _]) (st := _) M_L_lays K_L_238 (dT U_L_areNotes 162 rfl) rfl rfl rfl rfl (Nat.le_of_ble_eq_true rfl) rfl (by decide) (Nat.le_of_ble_eq_true rfl) (by first | rfl | omega) (by first | rfl | omega) ?_
  refine S_L_lays w107 v107 (by omega) h_fm_107 (by omega) (by rw [p_107]; exact F_l102) (fun z108 hz108 h108 fc108 w_108 v_108 => ?_)
  refine xRet_some ?_
  obtain ⟨σ109, w109, v109, r2_109, r1_109, r0_109, L_109, S_109, e3_109, p_109⟩ : ∃ σ109 : St, CW σ109 h108 ∧ INV σ109 ∧ σ109.rw 2 = l102 ∧ σ109.rw 1 = mk ∧ σ109.rw 0 = l2 ∧ σ109.L.n = n0 + 4 ∧ stnd p (gf σ109.L.nn) σ109.L.n = ((S0 + (cm1 p amt blind)) % (p : Int)) ∧ σ109.L.nn.getD (n0 + 3) 0 = (cm1 p amt blind) ∧ σ109.p = p := ⟨_, w_108, v_108, rfl, r1_107, r0_107, L_107, S_107, e3_107, p_107⟩
  have h_row_109 : h108[a_row]? = some (cA 0 l2) := (fc108).get h_row_107 (by omega)
  have h_fm_109 : h108[a_fm]? = some (cA 0 l102) := (fc108).get h_fm_107 (by omega)
  have h_mk_109 : h108[a_mk]? = some (cA 0 mk) := (fc108).get h_mk_107 (by omega)
  have hlen_109 : 70 ≤ h108.length := by rw [fc108.1]; exact hlen_107
  refine x_pop2 (dT U_L_areNotes 163 rfl) ?_
  refine x_aload_n (dT U_L_areNotes 164 rfl) rfl ?_
  refine x_iconst (dT U_L_areNotes 165 rfl) ?_
  refine x_iload (dT U_L_areNotes 166 rfl) rfl ?_
  refine x_iconst (dT U_L_areNotes 167 rfl) ?_
  refine x_aload (dT U_L_areNotes 168 rfl) rfl ?_
  refine x_iconst (dT U_L_areNotes 169 rfl) ?_
  refine x_iaload (0) (dT U_L_areNotes 170 rfl) h_row_109 (by omega) rfl (by have := (Fl_row).1; omega) (by have := (Fl_row).1; omega) ?_
  rw [q_amt]
  refine x_invokestaticT (rc' := rc + 161) (rs' := rs + 1342) (rc2 := 0 + 4) (rs2 := 0 + 24) (As := [_, _, _, _, _]) (st := _) M_L_state K_L_261 (dT U_L_areNotes 171 rfl) rfl (by decide) rfl rfl (Nat.le_of_ble_eq_true rfl) rfl (by decide) (Nat.le_of_ble_eq_true rfl) (by first | rfl | omega) (by first | rfl | omega) ?_
  refine S_L_state w109 v109 (by first | assumption | (unfold xr; omega)) (by first | assumption | (unfold xr; omega)) (by first | assumption | (unfold xr; omega)) (by first | assumption | (unfold xr; omega)) (fun  z8 => absurd (show inb _ _ ∧ inb _ _ from by omega) z8) (fun _ z8 => absurd (show _ ∧ inb _ _ from ⟨by rw [p_109, ← e_y, exI_MM hpr hE]; omega, by have := p_109; omega⟩) z8) (fun _ _ z110 e110 hz110 h110 fc110 w_110 v_110 => ?_)
  refine xRet_some ?_
  have e110 : z110 = y := by
    exact e110
  obtain ⟨σ111, w111, v111, R0_st_111, R0_e_111, R0_v_111, R0_form_111, r2_111, r1_111, r0_111, L_111, S_111, e3_111, p_111⟩ : ∃ σ111 : St, CW σ111 h110 ∧ INV σ111 ∧ (σ111.R 0).st = 1 ∧ (σ111.R 0).e = (cm1 p amt blind) ∧ (σ111.R 0).v = amt ∧ (σ111.R 0).form = l102 ∧ σ111.rw 2 = l102 ∧ σ111.rw 1 = mk ∧ σ111.rw 0 = l2 ∧ σ111.L.n = n0 + 4 ∧ stnd p (gf σ111.L.nn) σ111.L.n = ((S0 + (cm1 p amt blind)) % (p : Int)) ∧ σ111.L.nn.getD (n0 + 3) 0 = (cm1 p amt blind) ∧ σ111.p = p := ⟨_, w_110, v_110, rfl, (by show exI σ109.p y = _; rw [p_109, ← e_y, exI_MM hpr hE]), rfl, r2_109, r2_109, r1_109, r0_109, L_109, S_109, e3_109, p_109⟩
  have h_row_111 : h110[a_row]? = some (cA 0 l2) := (fc110).get h_row_109 (by omega)
  have h_fm_111 : h110[a_fm]? = some (cA 0 l102) := (fc110).get h_fm_109 (by omega)
  have h_mk_111 : h110[a_mk]? = some (cA 0 mk) := (fc110).get h_mk_109 (by omega)
  have hlen_111 : 70 ≤ h110.length := by rw [fc110.1]; exact hlen_109
  refine x_pop2 (dT U_L_areNotes 172 rfl) ?_
  refine x_aload_n (dT U_L_areNotes 173 rfl) rfl ?_
  refine x_iconst (dT U_L_areNotes 174 rfl) ?_
  refine x_iconst (dT U_L_areNotes 175 rfl) ?_
  refine x_aload_n (dT U_L_areNotes 176 rfl) rfl ?_
  refine x_sipush (dT U_L_areNotes 177 rfl) (by decide) ?_
  refine x_invokestatic (rc' := rc + 161) (rs' := rs + 1342) (rc2 := 0 + 0) (rs2 := 0 + 0) (As := [_, _]) (st := _) M_L_cell K_L_221 (dT U_L_areNotes 178 rfl) rfl rfl rfl rfl (Nat.le_of_ble_eq_true rfl) rfl (by decide) (Nat.le_of_ble_eq_true rfl) (by first | rfl | omega) (by first | rfl | omega) ?_
  refine S_L_cell (k := 232) hL (by omega) (fun z302 => ?_)
  refine xRet_some ?_
  refine x_iload_n (dT U_L_areNotes 179 rfl) rfl ?_
  refine x_invokestatic (rc' := rc + 161) (rs' := rs + 1342) (rc2 := 0 + 0) (rs2 := 0 + 0) (As := [_, _]) (st := _) M_L_chosen K_L_225 (dT U_L_areNotes 180 rfl) rfl rfl rfl rfl (Nat.le_of_ble_eq_true rfl) rfl (by decide) (Nat.le_of_ble_eq_true rfl) (by first | rfl | omega) (by first | rfl | omega) ?_
  refine S_L_chosen (by omega) (fun mb b_mb => ?_)
  refine xRet_some ?_
  refine x_invokestaticT (rc' := rc + 157) (rs' := rs + 1318) (rc2 := 0 + 4) (rs2 := 0 + 24) (As := [_, _, _, _]) (st := _) M_L_open K_L_263 (dT U_L_areNotes 181 rfl) rfl (by decide) rfl rfl (Nat.le_of_ble_eq_true rfl) rfl (by decide) (Nat.le_of_ble_eq_true rfl) (by first | rfl | omega) (by first | rfl | omega) ?_
  refine S_L_open w111 v111 (by first | assumption | (unfold xr; omega)) (by first | assumption | (unfold xr; omega)) (by first | assumption | (unfold xr; omega)) (fun  z8 => absurd (show inb _ _ ∧ inb _ _ from by omega) z8) (fun _ z8 => absurd (show inb _ _ from by have := p_111; omega) z8) (fun _ _ z8 => absurd (R0_st_111) z8) (fun _ _ _ z112 e112 hz112 h112 fc112 w_112 v_112 => ?_)
  refine xRet_some ?_
  have e112 : z112 = MM p (cm p mk mb) := by
    simp only [tn0, tn1, tn2, tn3, tn4, tn5, tn6, tn7, tn8, Int.toNat_natCast, p_111, r1_111] at e112; exact e112
  obtain ⟨σ113, w113, v113, R0_st_113, R0_fa_113, R0_w_113, R0_mb_113, R0_mk_113, R0_mask_113, R0_e_113, R0_v_113, R0_form_113, r2_113, r1_113, r0_113, L_113, S_113, e3_113, p_113⟩ : ∃ σ113 : St, CW σ113 h112 ∧ INV σ113 ∧ (σ113.R 0).st = 2 ∧ (σ113.R 0).fa = cm p mk mb ∧ (σ113.R 0).w = inn l102 mk % (p : Int) ∧ (σ113.R 0).mb = mb ∧ (σ113.R 0).mk = true ∧ (σ113.R 0).mask = mk ∧ (σ113.R 0).e = (cm1 p amt blind) ∧ (σ113.R 0).v = amt ∧ (σ113.R 0).form = l102 ∧ σ113.rw 2 = l102 ∧ σ113.rw 1 = mk ∧ σ113.rw 0 = l2 ∧ σ113.L.n = n0 + 4 ∧ stnd p (gf σ113.L.nn) σ113.L.n = ((S0 + (cm1 p amt blind)) % (p : Int)) ∧ σ113.L.nn.getD (n0 + 3) 0 = (cm1 p amt blind) ∧ σ113.p = p := ⟨_, w_112, v_112, rfl, (by show cm σ111.p (σ111.rw 1) _ = _; rw [p_111, r1_111]), (by show inn (σ111.R 0).form (σ111.rw 1) % (σ111.p : Int) = _; rw [R0_form_111, r1_111, p_111]), rfl, rfl, r1_111, R0_e_111, R0_v_111, R0_form_111, r2_111, r1_111, r0_111, L_111, S_111, e3_111, p_111⟩
  have h_row_113 : h112[a_row]? = some (cA 0 l2) := (fc112).get h_row_111 (by omega)
  have h_fm_113 : h112[a_fm]? = some (cA 0 l102) := (fc112).get h_fm_111 (by omega)
  have h_mk_113 : h112[a_mk]? = some (cA 0 mk) := (fc112).get h_mk_111 (by omega)
  have hlen_113 : 70 ≤ h112.length := by rw [fc112.1]; exact hlen_111
  refine x_pop2 (dT U_L_areNotes 182 rfl) ?_
  obtain ⟨TR, e_TR⟩ : ∃ x : Int, trs p (σ113.R 0) = x := ⟨_, rfl⟩
  have b_TR : 0 ≤ TR ∧ TR < 251 := by rw [← e_TR]; exact sl_b _ _
  refine x_aload_n (dT U_L_areNotes 183 rfl) rfl ?_
  refine x_iconst (dT U_L_areNotes 184 rfl) ?_
  refine x_bipush (dT U_L_areNotes 185 rfl) (by decide) ?_
  refine x_invokestaticT (rc' := rc + 155) (rs' := rs + 1306) (rc2 := 0 + 2) (rs2 := 0 + 12) (As := [_, _, _]) (st := _) M_L_told K_L_265 (dT U_L_areNotes 186 rfl) rfl (by decide) rfl rfl (Nat.le_of_ble_eq_true rfl) rfl (by decide) (Nat.le_of_ble_eq_true rfl) (by first | rfl | omega) (by first | rfl | omega) ?_
  refine S_L_told w113 v113 (by first | assumption | (unfold xr; omega)) (by first | assumption | (unfold xr; omega)) (fun  z8 => absurd (show inb _ _ from by omega) z8) (fun _ z8 => absurd (show inb _ _ from by omega) z8) (fun _ _ z114 e114 hz114 => ?_)
  refine xRet_some ?_
  have e114 : z114 = TR := by
    simp only [tn0, tn1, tn2, tn3, tn4, tn5, tn6, tn7, tn8, Int.toNat_natCast, p_113] at e114
    rw [e114, if_pos trivial, if_pos (by rw [R0_st_113]; decide)]
    exact e_TR
  have e9 := e114.symm
  subst e9
  refine x_iload_n (dT U_L_areNotes 187 rfl) rfl ?_
  refine x_i2l (dT U_L_areNotes 188 rfl) (by unfold xr; omega) ?_
  refine x_lrem (dT U_L_areNotes 189 rfl) (by unfold xrl; omega) (by unfold xrl; omega) (by omega) ?_
  rw [Int.tmod_eq_emod_of_nonneg (by omega)]
  obtain ⟨due, e_due⟩ : ∃ x : Int, TR % (p : Int) = x := ⟨_, rfl⟩
  rw [e_due]
  have b_due : 0 ≤ due ∧ due < (p : Int) := by rw [← e_due]; exact modb (by omega)
  refine x_lstore (ls' := [some (.ref _), some (.ref _), some (vi _), some (vi _), some (.ref _), some (vi _), some (vi _), some (vl _), none, some (vl _), none, some (vl _), none, some (vl _), none, some (.ref _), some (vl _), none, none, none, none, none, none]) (dT U_L_areNotes 190 rfl) (by decide) rfl ?_
  refine x_aload_n (dT U_L_areNotes 191 rfl) rfl ?_
  refine x_sipush (dT U_L_areNotes 192 rfl) (by decide) ?_
  refine x_invokestatic (rc' := rc + 155) (rs' := rs + 1306) (rc2 := 0 + 0) (rs2 := 0 + 0) (As := [_, _]) (st := _) M_L_cell K_L_221 (dT U_L_areNotes 193 rfl) rfl rfl rfl rfl (Nat.le_of_ble_eq_true rfl) rfl (by decide) (Nat.le_of_ble_eq_true rfl) (by first | rfl | omega) (by first | rfl | omega) ?_
  refine S_L_cell (k := 233) hL (by omega) (fun z329 => ?_)
  refine xRet_some ?_
  refine x_iconst (dT U_L_areNotes 194 rfl) ?_
  refine x_invokestatic (rc' := rc + 155) (rs' := rs + 1306) (rc2 := 0 + 0) (rs2 := 0 + 0) (As := [_, _]) (st := _) M_L_chosen K_L_225 (dT U_L_areNotes 195 rfl) rfl rfl rfl rfl (Nat.le_of_ble_eq_true rfl) rfl (by decide) (Nat.le_of_ble_eq_true rfl) (by first | rfl | omega) (by first | rfl | omega) ?_
  refine S_L_chosen (by omega) (fun as_ b_as_ => ?_)
  refine xRet_some ?_
  refine x_if_ne (tgt := 343) (dT U_L_areNotes 196 rfl) (by decide) (by unfold xr; omega) (fun c336 => ?_) (fun c336 => ?_)
  · skip
    refine x_iconst (dT U_L_areNotes 199 rfl) ?_
    refine x_istore (ls' := [some (.ref _), some (.ref _), some (vi _), some (vi _), some (.ref _), some (vi _), some (vi _), some (vl _), none, some (vl _), none, some (vl _), none, some (vl _), none, some (.ref _), some (vl _), none, some (vi _), none, none, none, none]) (dT U_L_areNotes 200 rfl) (by decide) rfl ?_
    refine x_iload (dT U_L_areNotes 201 rfl) rfl ?_
    refine x_if_eq (tgt := 359) (dT U_L_areNotes 202 rfl) (by decide) (by unfold xr; omega) (fun c348 => ?_) (fun c348 => ?_)
    · skip
      refine x_aload_n (dT U_L_areNotes 207 rfl) rfl ?_
      refine x_iconst (dT U_L_areNotes 208 rfl) ?_
      refine x_aload_n (dT U_L_areNotes 209 rfl) rfl ?_
      refine x_sipush (dT U_L_areNotes 210 rfl) (by decide) ?_
      refine x_invokestatic (rc' := rc + 155) (rs' := rs + 1306) (rc2 := 0 + 0) (rs2 := 0 + 0) (As := [_, _]) (st := _) M_L_cell K_L_221 (dT U_L_areNotes 211 rfl) rfl rfl rfl rfl (Nat.le_of_ble_eq_true rfl) rfl (by decide) (Nat.le_of_ble_eq_true rfl) (by first | rfl | omega) (by first | rfl | omega) ?_
      refine S_L_cell (k := 234) hL (by omega) (fun z365 => ?_)
      refine xRet_some ?_
      refine x_iload_n (dT U_L_areNotes 212 rfl) rfl ?_
      refine x_invokestatic (rc' := rc + 155) (rs' := rs + 1306) (rc2 := 0 + 0) (rs2 := 0 + 0) (As := [_, _]) (st := _) M_L_chosen K_L_225 (dT U_L_areNotes 213 rfl) rfl rfl rfl rfl (Nat.le_of_ble_eq_true rfl) rfl (by decide) (Nat.le_of_ble_eq_true rfl) (by first | rfl | omega) (by first | rfl | omega) ?_
      refine S_L_chosen (by omega) (fun dc b_dc => ?_)
      refine xRet_some ?_
      refine x_invokestaticT (rc' := rc + 152) (rs' := rs + 1288) (rc2 := 0 + 3) (rs2 := 0 + 18) (As := [_, _, _]) (st := _) M_L_dare K_L_267 (dT U_L_areNotes 214 rfl) rfl (by decide) rfl rfl (Nat.le_of_ble_eq_true rfl) rfl (by decide) (Nat.le_of_ble_eq_true rfl) (by first | rfl | omega) (by first | rfl | omega) ?_
      refine S_L_dare w113 v113 (by first | assumption | (unfold xr; omega)) (by first | assumption | (unfold xr; omega)) (fun  z8 => absurd (show inb _ _ from by omega) z8) (fun _ z8 => absurd (show inb _ _ from by have := p_113; omega) z8) (fun _ _ z8 => absurd (R0_st_113) z8) (fun _ _ _ z115 e115 hz115 h115 fc115 w_115 v_115 => ?_)
      refine xRet_some ?_
      have e115 : z115 = dc := by
        exact e115
      obtain ⟨σ116, w116, v116, R0_st_116, R0_c_116, R0_fa_116, R0_w_116, R0_mb_116, R0_mk_116, R0_mask_116, R0_e_116, R0_v_116, R0_form_116, r2_116, r1_116, r0_116, L_116, S_116, e3_116, p_116, R0_tr_116⟩ : ∃ σ116 : St, CW σ116 h115 ∧ INV σ116 ∧ (σ116.R 0).st = 3 ∧ (σ116.R 0).c = dc ∧ (σ116.R 0).fa = cm p mk mb ∧ (σ116.R 0).w = inn l102 mk % (p : Int) ∧ (σ116.R 0).mb = mb ∧ (σ116.R 0).mk = true ∧ (σ116.R 0).mask = mk ∧ (σ116.R 0).e = (cm1 p amt blind) ∧ (σ116.R 0).v = amt ∧ (σ116.R 0).form = l102 ∧ σ116.rw 2 = l102 ∧ σ116.rw 1 = mk ∧ σ116.rw 0 = l2 ∧ σ116.L.n = n0 + 4 ∧ stnd p (gf σ116.L.nn) σ116.L.n = ((S0 + (cm1 p amt blind)) % (p : Int)) ∧ σ116.L.nn.getD (n0 + 3) 0 = (cm1 p amt blind) ∧ σ116.p = p ∧ trs p (σ116.R 0) = TR := ⟨_, w_115, v_115, rfl, rfl, R0_fa_113, R0_w_113, R0_mb_113, R0_mk_113, R0_mask_113, R0_e_113, R0_v_113, R0_form_113, r2_113, r1_113, r0_113, L_113, S_113, e3_113, p_113, e_TR⟩
      have h_row_116 : h115[a_row]? = some (cA 0 l2) := (fc115).get h_row_113 (by omega)
      have h_fm_116 : h115[a_fm]? = some (cA 0 l102) := (fc115).get h_fm_113 (by omega)
      have h_mk_116 : h115[a_mk]? = some (cA 0 mk) := (fc115).get h_mk_113 (by omega)
      have hlen_116 : 70 ≤ h115.length := by rw [fc115.1]; exact hlen_113
      refine x_lstore (ls' := [some (.ref _), some (.ref _), some (vi _), some (vi _), some (.ref _), some (vi _), some (vi _), some (vl _), none, some (vl _), none, some (vl _), none, some (vl _), none, some (.ref _), some (vl _), none, some (vi _), some (vl _), none, none, none]) (dT U_L_areNotes 215 rfl) (by decide) rfl ?_
      refine x_aload_n (dT U_L_areNotes 216 rfl) rfl ?_
      refine x_iconst (dT U_L_areNotes 217 rfl) ?_
      refine x_iconst (dT U_L_areNotes 218 rfl) ?_
      refine x_iload (dT U_L_areNotes 219 rfl) rfl ?_
      refine x_invokestaticT (rc' := rc + 147) (rs' := rs + 1258) (rc2 := 0 + 5) (rs2 := 0 + 30) (As := [_, _, _, _]) (st := _) M_L_reply K_L_269 (dT U_L_areNotes 220 rfl) rfl (by decide) rfl rfl (Nat.le_of_ble_eq_true rfl) rfl (by decide) (Nat.le_of_ble_eq_true rfl) (by first | rfl | omega) (by first | rfl | omega) ?_
      refine S_L_reply w116 v116 (by first | assumption | (unfold xr; omega)) (by first | assumption | (unfold xr; omega)) (by first | assumption | (unfold xr; omega)) (fun  z8 => absurd (show inb _ _ ∧ inb _ _ from by omega) z8) (fun _ z8 => absurd (show inb _ _ from by have := p_116; omega) z8) (fun _ _ z8 => absurd (⟨R0_mk_116, R0_st_116⟩) z8) (fun _ _ _ z117 e117 hz117 h117 fc117 w_117 v_117 => ?_)
      refine xRet_some ?_
      have e117 : z117 = (mb + dc * blind) % (p : Int) := by
        simp only [tn0, tn1, tn2, tn3, tn4, tn5, tn6, tn7, tn8, Int.toNat_natCast, p_116, R0_mb_116, R0_c_116] at e117; exact e117
      obtain ⟨σ118, w118, v118, R0_st_118, R0_t_118, R0_answer_118, R0_c_118, R0_fa_118, R0_w_118, R0_mb_118, R0_mk_118, R0_mask_118, R0_e_118, R0_v_118, R0_form_118, r2_118, r1_118, r0_118, L_118, S_118, e3_118, p_118, R0_tr_118⟩ : ∃ σ118 : St, CW σ118 h117 ∧ INV σ118 ∧ (σ118.R 0).st = 4 ∧ (σ118.R 0).t = (mb + dc * blind) % (p : Int) ∧ (σ118.R 0).answer = tab (fun j => (mk.getD j 0 + dc * l2.getD j 0) % (p : Int)) 8 ∧ (σ118.R 0).c = dc ∧ (σ118.R 0).fa = cm p mk mb ∧ (σ118.R 0).w = inn l102 mk % (p : Int) ∧ (σ118.R 0).mb = mb ∧ (σ118.R 0).mk = true ∧ (σ118.R 0).mask = mk ∧ (σ118.R 0).e = (cm1 p amt blind) ∧ (σ118.R 0).v = amt ∧ (σ118.R 0).form = l102 ∧ σ118.rw 2 = l102 ∧ σ118.rw 1 = mk ∧ σ118.rw 0 = l2 ∧ σ118.L.n = n0 + 4 ∧ stnd p (gf σ118.L.nn) σ118.L.n = ((S0 + (cm1 p amt blind)) % (p : Int)) ∧ σ118.L.nn.getD (n0 + 3) 0 = (cm1 p amt blind) ∧ σ118.p = p ∧ trs p (σ118.R 0) = TR := ⟨_, w_117, v_117, rfl, (by show ((σ116.R 0).mb + (σ116.R 0).c * _) % (σ116.p : Int) = _; rw [R0_mb_116, R0_c_116, p_116]), (by show tab (fun j => ((σ116.R 0).mask.getD j 0 + (σ116.R 0).c * (σ116.rw 0).getD j 0) % (σ116.p : Int)) 8 = _; rw [R0_mask_116, R0_c_116, r0_116, p_116]), R0_c_116, R0_fa_116, R0_w_116, R0_mb_116, R0_mk_116, R0_mask_116, R0_e_116, R0_v_116, R0_form_116, r2_116, r1_116, r0_116, L_116, S_116, e3_116, p_116, R0_tr_116⟩
      have h_row_118 : h117[a_row]? = some (cA 0 l2) := (fc117).get h_row_116 (by omega)
      have h_fm_118 : h117[a_fm]? = some (cA 0 l102) := (fc117).get h_fm_116 (by omega)
      have h_mk_118 : h117[a_mk]? = some (cA 0 mk) := (fc117).get h_mk_116 (by omega)
      have hlen_118 : 70 ≤ h117.length := by rw [fc117.1]; exact hlen_116
      refine x_pop2 (dT U_L_areNotes 221 rfl) ?_
      by_cases hdc : dc = due
      · skip
        refine X_room (by omega) (by omega) (x_drop ?_ (cutN_ok (rc := rc) (rs := rs) hL hpr w118 v118 hlen_118 R0_st_118 R0_t_118 R0_answer_118 R0_c_118 R0_fa_118 R0_w_118 R0_mb_118 R0_mk_118 R0_mask_118 R0_e_118 R0_v_118 R0_form_118 L_118 S_118 e3_118 p_118 R0_tr_118 h_row_118 (by omega) Fl_row h_fm_118 (by omega) F_l102 h_mk_118 (by omega) Fl_mk b_amt b_blind e_y hz_y e_zb b_S0 e_lR hn4 e_lF e_due b_due e115 hz115 hdc kk))
        repeat (first | exact trivial | refine ⟨rfl, ?_⟩ | refine ⟨trivial, ?_⟩)
      · skip
        refine X_room (by omega) (by omega) (x_drop ?_ (cutN_no (rc := rc) (rs := rs) hL hpr w118 v118 hlen_118 R0_st_118 R0_t_118 R0_answer_118 R0_c_118 R0_fa_118 R0_w_118 R0_mb_118 R0_mk_118 R0_mask_118 R0_e_118 R0_v_118 R0_form_118 L_118 S_118 e3_118 p_118 R0_tr_118 h_row_118 (by omega) Fl_row h_fm_118 (by omega) F_l102 h_mk_118 (by omega) Fl_mk b_amt b_blind e_y hz_y e_zb b_S0 e_lR hn4 e_lF e_due b_due e115 hz115 hdc kk))
        repeat (first | exact trivial | refine ⟨rfl, ?_⟩ | refine ⟨trivial, ?_⟩)
    · exfalso
      omega
  · skip
    refine x_iconst (dT U_L_areNotes 197 rfl) ?_
    refine x_goto (tgt := 344) (dT U_L_areNotes 198 rfl) (by decide) ?_
    refine x_istore (ls' := [some (.ref _), some (.ref _), some (vi _), some (vi _), some (.ref _), some (vi _), some (vi _), some (vl _), none, some (vl _), none, some (vl _), none, some (vl _), none, some (.ref _), some (vl _), none, some (vi _), none, none, none, none]) (dT U_L_areNotes 200 rfl) (by decide) rfl ?_
    refine x_iload (dT U_L_areNotes 201 rfl) rfl ?_
    refine x_if_eq (tgt := 359) (dT U_L_areNotes 202 rfl) (by decide) (by unfold xr; omega) (fun c348 => ?_) (fun c348 => ?_)
    · exfalso
      omega
    · skip
      refine x_aload_n (dT U_L_areNotes 203 rfl) rfl ?_
      refine x_iconst (dT U_L_areNotes 204 rfl) ?_
      refine x_invokestaticT (rc' := rc + 153) (rs' := rs + 1294) (rc2 := 0 + 2) (rs2 := 0 + 12) (As := [_, _]) (st := _) M_L_ask K_L_361 (dT U_L_areNotes 205 rfl) rfl (by decide) rfl rfl (Nat.le_of_ble_eq_true rfl) rfl (by decide) (Nat.le_of_ble_eq_true rfl) (by first | rfl | omega) (by first | rfl | omega) ?_
      refine S_L_ask w113 v113 (by first | assumption | (unfold xr; omega)) (fun  z8 => absurd (show inb _ _ from by omega) z8) (fun _ z8 => absurd (R0_st_113) z8) (fun _ _ z119 e119 hz119 h119 fc119 w_119 v_119 => ?_)
      refine xRet_some ?_
      have e119 : z119 = due := by
        simp only [tn0, tn1, tn2, tn3, tn4, tn5, tn6, tn7, tn8, Int.toNat_natCast, p_113] at e119
        rw [e119, e_TR]
        exact e_due
      obtain ⟨σ120, w120, v120, R0_st_120, R0_c_120, R0_fa_120, R0_w_120, R0_mb_120, R0_mk_120, R0_mask_120, R0_e_120, R0_v_120, R0_form_120, r2_120, r1_120, r0_120, L_120, S_120, e3_120, p_120, R0_tr_120⟩ : ∃ σ120 : St, CW σ120 h119 ∧ INV σ120 ∧ (σ120.R 0).st = 3 ∧ (σ120.R 0).c = due ∧ (σ120.R 0).fa = cm p mk mb ∧ (σ120.R 0).w = inn l102 mk % (p : Int) ∧ (σ120.R 0).mb = mb ∧ (σ120.R 0).mk = true ∧ (σ120.R 0).mask = mk ∧ (σ120.R 0).e = (cm1 p amt blind) ∧ (σ120.R 0).v = amt ∧ (σ120.R 0).form = l102 ∧ σ120.rw 2 = l102 ∧ σ120.rw 1 = mk ∧ σ120.rw 0 = l2 ∧ σ120.L.n = n0 + 4 ∧ stnd p (gf σ120.L.nn) σ120.L.n = ((S0 + (cm1 p amt blind)) % (p : Int)) ∧ σ120.L.nn.getD (n0 + 3) 0 = (cm1 p amt blind) ∧ σ120.p = p ∧ trs p (σ120.R 0) = TR := ⟨_, w_119, v_119, rfl, (by show trs σ113.p (σ113.R 0) % (σ113.p : Int) = due; rw [p_113, e_TR]; exact e_due), R0_fa_113, R0_w_113, R0_mb_113, R0_mk_113, R0_mask_113, R0_e_113, R0_v_113, R0_form_113, r2_113, r1_113, r0_113, L_113, S_113, e3_113, p_113, e_TR⟩
      have h_row_120 : h119[a_row]? = some (cA 0 l2) := (fc119).get h_row_113 (by omega)
      have h_fm_120 : h119[a_fm]? = some (cA 0 l102) := (fc119).get h_fm_113 (by omega)
      have h_mk_120 : h119[a_mk]? = some (cA 0 mk) := (fc119).get h_mk_113 (by omega)
      have hlen_120 : 70 ≤ h119.length := by rw [fc119.1]; exact hlen_113
      refine x_goto (tgt := 375) (dT U_L_areNotes 206 rfl) (by decide) ?_
      refine x_lstore (ls' := [some (.ref _), some (.ref _), some (vi _), some (vi _), some (.ref _), some (vi _), some (vi _), some (vl _), none, some (vl _), none, some (vl _), none, some (vl _), none, some (.ref _), some (vl _), none, some (vi _), some (vl _), none, none, none]) (dT U_L_areNotes 215 rfl) (by decide) rfl ?_
      refine x_aload_n (dT U_L_areNotes 216 rfl) rfl ?_
      refine x_iconst (dT U_L_areNotes 217 rfl) ?_
      refine x_iconst (dT U_L_areNotes 218 rfl) ?_
      refine x_iload (dT U_L_areNotes 219 rfl) rfl ?_
      refine x_invokestaticT (rc' := rc + 148) (rs' := rs + 1264) (rc2 := 0 + 5) (rs2 := 0 + 30) (As := [_, _, _, _]) (st := _) M_L_reply K_L_269 (dT U_L_areNotes 220 rfl) rfl (by decide) rfl rfl (Nat.le_of_ble_eq_true rfl) rfl (by decide) (Nat.le_of_ble_eq_true rfl) (by first | rfl | omega) (by first | rfl | omega) ?_
      refine S_L_reply w120 v120 (by first | assumption | (unfold xr; omega)) (by first | assumption | (unfold xr; omega)) (by first | assumption | (unfold xr; omega)) (fun  z8 => absurd (show inb _ _ ∧ inb _ _ from by omega) z8) (fun _ z8 => absurd (show inb _ _ from by have := p_120; omega) z8) (fun _ _ z8 => absurd (⟨R0_mk_120, R0_st_120⟩) z8) (fun _ _ _ z121 e121 hz121 h121 fc121 w_121 v_121 => ?_)
      refine xRet_some ?_
      have e121 : z121 = (mb + due * blind) % (p : Int) := by
        simp only [tn0, tn1, tn2, tn3, tn4, tn5, tn6, tn7, tn8, Int.toNat_natCast, p_120, R0_mb_120, R0_c_120] at e121; exact e121
      obtain ⟨σ122, w122, v122, R0_st_122, R0_t_122, R0_answer_122, R0_c_122, R0_fa_122, R0_w_122, R0_mb_122, R0_mk_122, R0_mask_122, R0_e_122, R0_v_122, R0_form_122, r2_122, r1_122, r0_122, L_122, S_122, e3_122, p_122, R0_tr_122⟩ : ∃ σ122 : St, CW σ122 h121 ∧ INV σ122 ∧ (σ122.R 0).st = 4 ∧ (σ122.R 0).t = (mb + due * blind) % (p : Int) ∧ (σ122.R 0).answer = tab (fun j => (mk.getD j 0 + due * l2.getD j 0) % (p : Int)) 8 ∧ (σ122.R 0).c = due ∧ (σ122.R 0).fa = cm p mk mb ∧ (σ122.R 0).w = inn l102 mk % (p : Int) ∧ (σ122.R 0).mb = mb ∧ (σ122.R 0).mk = true ∧ (σ122.R 0).mask = mk ∧ (σ122.R 0).e = (cm1 p amt blind) ∧ (σ122.R 0).v = amt ∧ (σ122.R 0).form = l102 ∧ σ122.rw 2 = l102 ∧ σ122.rw 1 = mk ∧ σ122.rw 0 = l2 ∧ σ122.L.n = n0 + 4 ∧ stnd p (gf σ122.L.nn) σ122.L.n = ((S0 + (cm1 p amt blind)) % (p : Int)) ∧ σ122.L.nn.getD (n0 + 3) 0 = (cm1 p amt blind) ∧ σ122.p = p ∧ trs p (σ122.R 0) = TR := ⟨_, w_121, v_121, rfl, (by show ((σ120.R 0).mb + (σ120.R 0).c * _) % (σ120.p : Int) = _; rw [R0_mb_120, R0_c_120, p_120]), (by show tab (fun j => ((σ120.R 0).mask.getD j 0 + (σ120.R 0).c * (σ120.rw 0).getD j 0) % (σ120.p : Int)) 8 = _; rw [R0_mask_120, R0_c_120, r0_120, p_120]), R0_c_120, R0_fa_120, R0_w_120, R0_mb_120, R0_mk_120, R0_mask_120, R0_e_120, R0_v_120, R0_form_120, r2_120, r1_120, r0_120, L_120, S_120, e3_120, p_120, R0_tr_120⟩
      have h_row_122 : h121[a_row]? = some (cA 0 l2) := (fc121).get h_row_120 (by omega)
      have h_fm_122 : h121[a_fm]? = some (cA 0 l102) := (fc121).get h_fm_120 (by omega)
      have h_mk_122 : h121[a_mk]? = some (cA 0 mk) := (fc121).get h_mk_120 (by omega)
      have hlen_122 : 70 ≤ h121.length := by rw [fc121.1]; exact hlen_120
      refine x_pop2 (dT U_L_areNotes 221 rfl) ?_
      refine X_room (by omega) (by omega) (x_drop ?_ (cutN_ok (rc := rc) (rs := rs) hL hpr w122 v122 hlen_122 R0_st_122 R0_t_122 R0_answer_122 R0_c_122 R0_fa_122 R0_w_122 R0_mb_122 R0_mk_122 R0_mask_122 R0_e_122 R0_v_122 R0_form_122 L_122 S_122 e3_122 p_122 R0_tr_122 h_row_122 (by omega) Fl_row h_fm_122 (by omega) F_l102 h_mk_122 (by omega) Fl_mk b_amt b_blind e_y hz_y e_zb b_S0 e_lR hn4 e_lF e_due b_due e119 hz119 rfl kk))
      repeat (first | exact trivial | refine ⟨rfl, ?_⟩ | refine ⟨trivial, ?_⟩)

set_option maxRecDepth 20000 in
set_option maxHeartbeats 60000000 in
theorem S_L_areNotes {G : xG} {d rc rs : Nat} {ex : Bool} {h : xH} {Q : xQ} {σ : St} {p n0 : Nat} (hL : gL G < 100000) (w : CW σ h) (v : INV σ) (hpp : σ.p = p) (hn0 : σ.L.n = n0) (hlen : 70 ≤ h.length) (hn4 : n0 + 4 ≤ 16) (kk : ∀ (σ2 : St) (h2 : xH) (ex2 : Bool), CW σ2 h2 → INV σ2 → σ2.p = p → 70 ≤ h2.length → Q (.inl (some (vi 1))) ex2 h2) : X G m_L_areNotes (d + 10) (rc + 320) (rs + 2600) ex 0 (xe m_L_areNotes.2.2.1 [.ref 3, .ref 0, vi (p : Int), vi (gq p : Int)]) [] h Q := by
  show X G m_L_areNotes _ _ _ _ 0 [some (.ref 3), some (.ref 0), some (vi (p : Int)), some (vi (gq p : Int)), none, none, none, none, none, none, none, none, none, none, none, none, none, none, none, none, none, none, none] [] h Q
  have hpr : p ∈ PR := hpp ▸ v.p
  have hp := PRb hpr
  have hq := gq_b hpr
  refine x_bipush (dT U_L_areNotes 0 rfl) (by decide) ?_
  refine x_newL (rc' := rc + 319) (rs' := rs + 2592) 8 (by have := hlen; omega) (dT U_L_areNotes 1 rfl) rfl (by omega) (by omega) (by omega) (fun h1 a_row u1 ga1 ge1 h_row1 => ?_)
  have Fl_row : Fl (p : Int) (List.replicate 8 0) := Fl_0 (by omega)
  have g_row : 70 ≤ a_row := by have := hlen; omega
  have w1 := (w).up u1
  have hlen_1 : 70 ≤ h1.length := by have := u1.len; have := hlen; omega
  refine x_astore (ls' := [some (.ref _), some (.ref _), some (vi _), some (vi _), some (.ref _), none, none, none, none, none, none, none, none, none, none, none, none, none, none, none, none, none, none]) (dT U_L_areNotes 2 rfl) (by decide) rfl ?_
  refine x_aload (dT U_L_areNotes 3 rfl) rfl ?_
  refine x_iconst (dT U_L_areNotes 4 rfl) ?_
  refine x_aload_n (dT U_L_areNotes 5 rfl) rfl ?_
  refine x_sipush (dT U_L_areNotes 6 rfl) (by decide) ?_
  refine x_invokestatic (rc' := rc + 319) (rs' := rs + 2592) (rc2 := 0 + 0) (rs2 := 0 + 0) (As := [_, _]) (st := _) M_L_cell K_L_221 (dT U_L_areNotes 7 rfl) rfl rfl rfl rfl (Nat.le_of_ble_eq_true rfl) rfl (by decide) (Nat.le_of_ble_eq_true rfl) (by first | rfl | omega) (by first | rfl | omega) ?_
  refine S_L_cell (k := 220) hL (by omega) (fun z13 => ?_)
  refine xRet_some ?_
  refine x_iload_n (dT U_L_areNotes 8 rfl) rfl ?_
  refine x_invokestatic (rc' := rc + 319) (rs' := rs + 2592) (rc2 := 0 + 0) (rs2 := 0 + 0) (As := [_, _]) (st := _) M_L_chosen K_L_225 (dT U_L_areNotes 9 rfl) rfl rfl rfl rfl (Nat.le_of_ble_eq_true rfl) rfl (by decide) (Nat.le_of_ble_eq_true rfl) (by first | rfl | omega) (by first | rfl | omega) ?_
  refine S_L_chosen (by omega) (fun amt b_amt => ?_)
  refine xRet_some ?_
  refine x_iastoreL (0) w1 g_row (dT U_L_areNotes 10 rfl) h_row1 rfl (by have := (Fl_row).1; omega) (by have := (Fl_row).1; omega) (fun h2 l2 el2 len2 w2 nb2 h_row_2 => ?_)
  have hlen_2 : 70 ≤ h2.length := by rw [len2]; exact hlen_1
  have F_l2 : Fl (p : Int) l2 := by rw [el2]; exact Fl.set Fl_row (by omega)
  refine x_aload_n (dT U_L_areNotes 11 rfl) rfl ?_
  refine x_sipush (dT U_L_areNotes 12 rfl) (by decide) ?_
  refine x_invokestatic (rc' := rc + 319) (rs' := rs + 2592) (rc2 := 0 + 0) (rs2 := 0 + 0) (As := [_, _]) (st := _) M_L_cell K_L_221 (dT U_L_areNotes 13 rfl) rfl rfl rfl rfl (Nat.le_of_ble_eq_true rfl) rfl (by decide) (Nat.le_of_ble_eq_true rfl) (by first | rfl | omega) (by first | rfl | omega) ?_
  refine S_L_cell (k := 221) hL (by omega) (fun z25 => ?_)
  refine xRet_some ?_
  refine x_iload_n (dT U_L_areNotes 14 rfl) rfl ?_
  refine x_invokestatic (rc' := rc + 319) (rs' := rs + 2592) (rc2 := 0 + 0) (rs2 := 0 + 0) (As := [_, _]) (st := _) M_L_chosen K_L_225 (dT U_L_areNotes 15 rfl) rfl rfl rfl rfl (Nat.le_of_ble_eq_true rfl) rfl (by decide) (Nat.le_of_ble_eq_true rfl) (by first | rfl | omega) (by first | rfl | omega) ?_
  refine S_L_chosen (by omega) (fun blind b_blind => ?_)
  refine xRet_some ?_
  refine x_istore (ls' := [some (.ref _), some (.ref _), some (vi _), some (vi _), some (.ref _), some (vi _), none, none, none, none, none, none, none, none, none, none, none, none, none, none, none, none, none]) (dT U_L_areNotes 16 rfl) (by decide) rfl ?_
  refine x_aload_n (dT U_L_areNotes 17 rfl) rfl ?_
  refine x_aload (dT U_L_areNotes 18 rfl) rfl ?_
  refine x_iload (dT U_L_areNotes 19 rfl) rfl ?_
  refine x_iload_n (dT U_L_areNotes 20 rfl) rfl ?_
  refine x_invokestatic (rc' := rc + 310) (rs' := rs + 2538) (rc2 := 0 + 9) (rs2 := 0 + 54) (As := [_, _, _, _]) (st := _) M_L_commits K_L_247 (dT U_L_areNotes 21 rfl) rfl rfl rfl rfl (Nat.le_of_ble_eq_true rfl) rfl (by decide) (Nat.le_of_ble_eq_true rfl) (by first | rfl | omega) (by first | rfl | omega) ?_
  refine S_L_commits w2 v hpp h_row_2 (by omega) F_l2 (by omega) ?_
  refine xRet_some ?_
  obtain ⟨y, e_y⟩ : ∃ r : Int, MM p (cm p l2 blind) = r := ⟨_, rfl⟩
  rw [e_y]
  have hz_y : xr y := by rw [← e_y]; exact xr_MM hpr
  refine x_istore (ls' := [some (.ref _), some (.ref _), some (vi _), some (vi _), some (.ref _), some (vi _), some (vi _), none, none, none, none, none, none, none, none, none, none, none, none, none, none, none, none]) (dT U_L_areNotes 22 rfl) (by decide) rfl ?_
  have hE := cm1_b (p := p) (n := amt) (b := blind) (by omega)
  have hEne : cm1 p amt blind ≠ -1 := by omega
  have e_lR : l2 = (List.replicate 8 0).set 0 amt := el2
  have cmE : cm p l2 blind = cm1 p amt blind := by rw [el2, cm_bit]
  rw [cmE] at e_y
  have q_amt : (l2).getD 0 0 = amt := by rw [el2, gset_e (by decide)]
  obtain ⟨S0, e_S0⟩ : ∃ x : Int, stnd p (gf σ.L.nn) σ.L.n = x := ⟨_, rfl⟩
  have b_S0 : 0 ≤ S0 ∧ S0 < (p : Int) := by rw [← e_S0]; exact st_b (by omega)
  refine x_aload_n (dT U_L_areNotes 23 rfl) rfl ?_
  refine x_invokestatic (rc' := rc + 310) (rs' := rs + 2538) (rc2 := 0 + 0) (rs2 := 0 + 0) (As := [_]) (st := _) M_L_standing K_L_351 (dT U_L_areNotes 24 rfl) rfl rfl rfl rfl (Nat.le_of_ble_eq_true rfl) rfl (by decide) (Nat.le_of_ble_eq_true rfl) (by first | rfl | omega) (by first | rfl | omega) ?_
  refine S_L_standing w2 v   (fun z3 e3 hz3 => ?_)
  refine xRet_some ?_
  have e3 : z3 = MM p S0 := by
    rw [hpp] at e3
    rw [e3, e_S0]
  refine x_lstore (ls' := [some (.ref _), some (.ref _), some (vi _), some (vi _), some (.ref _), some (vi _), some (vi _), some (vl _), none, none, none, none, none, none, none, none, none, none, none, none, none, none, none]) (dT U_L_areNotes 25 rfl) (by decide) rfl ?_
  refine x_aload_n (dT U_L_areNotes 26 rfl) rfl ?_
  refine x_aload (dT U_L_areNotes 27 rfl) rfl ?_
  refine x_iconst (dT U_L_areNotes 28 rfl) ?_
  refine x_iaload (0) (dT U_L_areNotes 29 rfl) h_row_2 (by omega) rfl (by have := (F_l2).1; omega) (by have := (F_l2).1; omega) ?_
  rw [q_amt]
  refine x_iload (dT U_L_areNotes 30 rfl) rfl ?_
  refine x_invokestaticT (rc' := rc + 307) (rs' := rs + 2520) (rc2 := 0 + 3) (rs2 := 0 + 18) (As := [_, _, _]) (st := _) M_L_mint K_L_353 (dT U_L_areNotes 31 rfl) rfl (by decide) rfl rfl (Nat.le_of_ble_eq_true rfl) rfl (by decide) (Nat.le_of_ble_eq_true rfl) (by first | rfl | omega) (by first | rfl | omega) ?_
  refine S_L_mint w2 v (by first | assumption | (unfold xr; omega)) (by first | assumption | (unfold xr; omega)) (fun  z8 => absurd (show inb _ _ ∧ inb _ _ from by have := hpp; omega) z8) (fun _ z8 => absurd (show _ + 1 ≤ 16 from by have := hn0; omega) z8) (fun _ _ z4 e4 hz4 h4 fc4 w_4 v_4 => ?_)
  refine xRet_some ?_
  have e4 : z4 = ((n0 : Nat) : Int) := by
    rw [e4, hn0]
  obtain ⟨σ5, w5, v5, L_5, S_5, e0_5, p_5⟩ : ∃ σ5 : St, CW σ5 h4 ∧ INV σ5 ∧ σ5.L.n = n0 + 1 ∧ stnd p (gf σ5.L.nn) σ5.L.n = ((S0 + (cm1 p amt blind)) % (p : Int)) ∧ σ5.L.nn.getD n0 0 = (cm1 p amt blind) ∧ σ5.p = p := ⟨_, w_4, v_4, (by show σ.L.n + 1 = _; rw [hn0]), (by show stnd p (gf (σ.L.nn.set σ.L.n (cm1 σ.p amt blind))) (σ.L.n + 1) = _; rw [hpp, st_new (by rw [v.L.2.1]; have := hn0; omega) hEne, e_S0]), (by show (σ.L.nn.set σ.L.n (cm1 σ.p amt blind)).getD n0 0 = _; rw [hpp, hn0, gset_e (by rw [v.L.2.1]; omega)]), hpp⟩
  have h_row_5 : h4[a_row]? = some (cA 0 l2) := (fc4).get h_row_2 (by omega)
  have hlen_5 : 70 ≤ h4.length := by rw [fc4.1]; exact hlen_2
  subst e4
  have m_b := MM_r (e := S0) hpr
  have m_y := MM_b hpr hE
  rw [e_y] at m_y
  rw [← e3] at m_b
  have m_by := mulg (a := z3) (b := y) (m := 191) (n := 191) (by omega) (by omega)
  have e_by : (z3 * y).tmod (gq p : Int) = MM p ((S0 + (cm1 p amt blind)) % (p : Int)) := by
    rw [Int.tmod_eq_emod_of_nonneg m_by.1, e3, ← e_y, MM_mul hpr b_S0 hE]
  refine x_lstore (ls' := [some (.ref _), some (.ref _), some (vi _), some (vi _), some (.ref _), some (vi _), some (vi _), some (vl _), none, some (vl _), none, none, none, none, none, none, none, none, none, none, none, none, none]) (dT U_L_areNotes 32 rfl) (by decide) rfl ?_
  refine x_lload (dT U_L_areNotes 33 rfl) rfl ?_
  refine x_lconst (z := 0) (dT U_L_areNotes 34 rfl) rfl ?_
  refine x_lif_lt (tgt := 101) (dT U_L_areNotes 35 rfl) (dT U_L_areNotes 36 rfl) (by decide) (xrl_of hz4) (xrl_of (by unfold xr; omega)) (fun c66 => ?_) (fun c66 => ?_)
  · exfalso
    omega
  · skip
    refine x_aload_n (dT U_L_areNotes 37 rfl) rfl ?_
    refine x_lload (dT U_L_areNotes 38 rfl) rfl ?_
    refine x_l2i (dT U_L_areNotes 39 rfl) ?_
    refine x_invokestaticT (rc' := rc + 306) (rs' := rs + 2514) (rc2 := 0 + 1) (rs2 := 0 + 6) (As := [_, _]) (st := _) M_L_note K_L_355 (dT U_L_areNotes 40 rfl) rfl (by decide) rfl rfl (Nat.le_of_ble_eq_true rfl) rfl (by decide) (Nat.le_of_ble_eq_true rfl) (by first | rfl | omega) (by first | rfl | omega) ?_
    refine S_L_note w5 v5 (by first | assumption | (unfold xr; omega)) (fun  z8 => absurd (show inb _ _ from by have := L_5; omega) z8) (fun _ z6 e6 hz6 => ?_)
    refine xRet_some ?_
    have e6 : z6 = y := by
      simp only [tn0, tn1, tn2, tn3, tn4, tn5, tn6, tn7, tn8, Int.toNat_natCast, p_5, e0_5] at e6
      rw [e6]
      unfold nv
      rw [if_neg hEne]
      exact e_y
    refine x_iload (dT U_L_areNotes 41 rfl) rfl ?_
    refine x_i2l (dT U_L_areNotes 42 rfl) hz_y ?_
    refine x_lif_ne (tgt := 101) (dT U_L_areNotes 43 rfl) (dT U_L_areNotes 44 rfl) (by decide) (xrl_of hz6) (xrl_of hz_y) (fun c80 => ?_) (fun c80 => ?_)
    · exfalso
      exact c80 e6
    · skip
      refine x_aload_n (dT U_L_areNotes 45 rfl) rfl ?_
      refine x_invokestatic (rc' := rc + 306) (rs' := rs + 2514) (rc2 := 0 + 0) (rs2 := 0 + 0) (As := [_]) (st := _) M_L_standing K_L_351 (dT U_L_areNotes 46 rfl) rfl rfl rfl rfl (Nat.le_of_ble_eq_true rfl) rfl (by decide) (Nat.le_of_ble_eq_true rfl) (by first | rfl | omega) (by first | rfl | omega) ?_
      refine S_L_standing w5 v5   (fun z7 e7 hz7 => ?_)
      refine xRet_some ?_
      have e7 : z7 = MM p ((S0 + (cm1 p amt blind)) % (p : Int)) := by
        rw [p_5] at e7
        rw [e7, S_5]
      refine x_lload (dT U_L_areNotes 47 rfl) rfl ?_
      refine x_iload (dT U_L_areNotes 48 rfl) rfl ?_
      refine x_i2l (dT U_L_areNotes 49 rfl) hz_y ?_
      refine x_lmul (dT U_L_areNotes 50 rfl) ?_
      refine x_iload_n (dT U_L_areNotes 51 rfl) rfl ?_
      refine x_i2l (dT U_L_areNotes 52 rfl) (by unfold xr; omega) ?_
      refine x_lrem (dT U_L_areNotes 53 rfl) (by unfold xrl; omega) (by unfold xrl; omega) (by omega) ?_
      rw [e_by]
      refine x_lif_eq (tgt := 103) (dT U_L_areNotes 54 rfl) (dT U_L_areNotes 55 rfl) (by decide) (xrl_of hz7) (xrl_of (xr_MM hpr)) (fun c97 => ?_) (fun c97 => ?_)
      · skip
        refine x_aload_n (dT U_L_areNotes 58 rfl) rfl ?_
        refine x_lload (dT U_L_areNotes 59 rfl) rfl ?_
        refine x_l2i (dT U_L_areNotes 60 rfl) ?_
        refine x_aload_n (dT U_L_areNotes 61 rfl) rfl ?_
        refine x_sipush (dT U_L_areNotes 62 rfl) (by decide) ?_
        refine x_invokestatic (rc' := rc + 306) (rs' := rs + 2514) (rc2 := 0 + 0) (rs2 := 0 + 0) (As := [_, _]) (st := _) M_L_cell K_L_221 (dT U_L_areNotes 63 rfl) rfl rfl rfl rfl (Nat.le_of_ble_eq_true rfl) rfl (by decide) (Nat.le_of_ble_eq_true rfl) (by first | rfl | omega) (by first | rfl | omega) ?_
        refine S_L_cell (k := 222) hL (by omega) (fun z111 => ?_)
        refine xRet_some ?_
        refine x_iload_n (dT U_L_areNotes 64 rfl) rfl ?_
        refine x_invokestatic (rc' := rc + 306) (rs' := rs + 2514) (rc2 := 0 + 0) (rs2 := 0 + 0) (As := [_, _]) (st := _) M_L_chosen K_L_225 (dT U_L_areNotes 65 rfl) rfl rfl rfl rfl (Nat.le_of_ble_eq_true rfl) rfl (by decide) (Nat.le_of_ble_eq_true rfl) (by first | rfl | omega) (by first | rfl | omega) ?_
        refine S_L_chosen (by omega) (fun a2 b_a2 => ?_)
        refine xRet_some ?_
        refine x_aload_n (dT U_L_areNotes 66 rfl) rfl ?_
        refine x_sipush (dT U_L_areNotes 67 rfl) (by decide) ?_
        refine x_invokestatic (rc' := rc + 306) (rs' := rs + 2514) (rc2 := 0 + 0) (rs2 := 0 + 0) (As := [_, _]) (st := _) M_L_cell K_L_221 (dT U_L_areNotes 68 rfl) rfl rfl rfl rfl (Nat.le_of_ble_eq_true rfl) rfl (by decide) (Nat.le_of_ble_eq_true rfl) (by first | rfl | omega) (by first | rfl | omega) ?_
        refine S_L_cell (k := 223) hL (by omega) (fun z122 => ?_)
        refine xRet_some ?_
        refine x_iload_n (dT U_L_areNotes 69 rfl) rfl ?_
        refine x_invokestatic (rc' := rc + 306) (rs' := rs + 2514) (rc2 := 0 + 0) (rs2 := 0 + 0) (As := [_, _]) (st := _) M_L_chosen K_L_225 (dT U_L_areNotes 70 rfl) rfl rfl rfl rfl (Nat.le_of_ble_eq_true rfl) rfl (by decide) (Nat.le_of_ble_eq_true rfl) (by first | rfl | omega) (by first | rfl | omega) ?_
        refine S_L_chosen (by omega) (fun b2 b_b2 => ?_)
        refine xRet_some ?_
        obtain ⟨A, e_A⟩ : ∃ x : Int, cm1 p a2 b2 = x := ⟨_, rfl⟩
        have hA : 0 ≤ A ∧ A < (p : Int) := by rw [← e_A]; exact cm1_b (by omega)
        obtain ⟨B, e_B⟩ : ∃ x : Int, ((cm1 p amt blind) - A) % (p : Int) = x := ⟨_, rfl⟩
        have hB : 0 ≤ B ∧ B < (p : Int) := by rw [← e_B]; exact modb (by omega)
        refine x_invokestaticT (rc' := rc + 301) (rs' := rs + 2484) (rc2 := 0 + 5) (rs2 := 0 + 30) (As := [_, _, _, _]) (st := _) M_L_split K_L_357 (dT U_L_areNotes 71 rfl) rfl (by decide) rfl rfl (Nat.le_of_ble_eq_true rfl) rfl (by decide) (Nat.le_of_ble_eq_true rfl) (by first | rfl | omega) (by first | rfl | omega) ?_
        refine S_L_split w5 v5 (by first | assumption | (unfold xr; omega)) (by first | assumption | (unfold xr; omega)) (by first | assumption | (unfold xr; omega)) (fun  z8 => absurd (show inb _ _ from by have := L_5; omega) z8) (fun _ z8 => absurd (show inb _ _ ∧ inb _ _ from by have := p_5; omega) z8) (fun _ _ z8 => absurd (⟨fun z8 => hEne (e0_5.symm.trans z8), by have := L_5; omega⟩) z8) (fun _ _ _ z8 e8 hz8 h8 fc8 w_8 v_8 => ?_)
        refine xRet_some ?_
        have e8 : z8 = ((n0 + 1 : Nat) : Int) := by
          rw [e8, L_5]
        obtain ⟨σ9, w9, v9, L_9, S_9, e0_9, e1_9, e2_9, p_9⟩ : ∃ σ9 : St, CW σ9 h8 ∧ INV σ9 ∧ σ9.L.n = n0 + 3 ∧ stnd p (gf σ9.L.nn) σ9.L.n = ((S0 + (cm1 p amt blind)) % (p : Int)) ∧ σ9.L.nn.getD n0 0 = -1 ∧ σ9.L.nn.getD (n0 + 1) 0 = A ∧ σ9.L.nn.getD (n0 + 2) 0 = B ∧ σ9.p = p := ⟨_, w_8, v_8, (by show σ5.L.n + 2 = _; rw [L_5]), (by show stnd p (gf (((σ5.L.nn.set n0 (-1)).set σ5.L.n (cm1 σ5.p a2 b2)).set (σ5.L.n + 1) ((σ5.L.nn.getD n0 0 - cm1 σ5.p a2 b2) % (σ5.p : Int)))) (σ5.L.n + 2) = _; rw [p_5, e0_5]; exact st_split (by omega) v5.L.2.1 (by have := L_5; omega) (by have := L_5; omega) e0_5 hEne (by rw [e_A]; omega) S_5), (by show (((σ5.L.nn.set n0 (-1)).set σ5.L.n (cm1 σ5.p a2 b2)).set (σ5.L.n + 1) ((σ5.L.nn.getD n0 0 - cm1 σ5.p a2 b2) % (σ5.p : Int))).getD n0 0 = _; rw [L_5, gset_n (by omega), gset_n (by omega), gset_e (by rw [v5.L.2.1]; omega)]), (by show (((σ5.L.nn.set n0 (-1)).set σ5.L.n (cm1 σ5.p a2 b2)).set (σ5.L.n + 1) ((σ5.L.nn.getD n0 0 - cm1 σ5.p a2 b2) % (σ5.p : Int))).getD (n0 + 1) 0 = _; rw [L_5, gset_n (by omega), gset_e (by rw [List.length_set, v5.L.2.1]; omega), p_5]; exact e_A), (by show (((σ5.L.nn.set n0 (-1)).set σ5.L.n (cm1 σ5.p a2 b2)).set (σ5.L.n + 1) ((σ5.L.nn.getD n0 0 - cm1 σ5.p a2 b2) % (σ5.p : Int))).getD (n0 + 2) 0 = _; rw [L_5, gset_e (by rw [List.length_set, List.length_set, v5.L.2.1]; omega), p_5, e0_5, e_A]; exact e_B), p_5⟩
        have h_row_9 : h8[a_row]? = some (cA 0 l2) := (fc8).get h_row_5 (by omega)
        have hlen_9 : 70 ≤ h8.length := by rw [fc8.1]; exact hlen_5
        subst e8
        refine x_lstore (ls' := [some (.ref _), some (.ref _), some (vi _), some (vi _), some (.ref _), some (vi _), some (vi _), some (vl _), none, some (vl _), none, some (vl _), none, none, none, none, none, none, none, none, none, none, none]) (dT U_L_areNotes 72 rfl) (by decide) rfl ?_
        refine x_lload (dT U_L_areNotes 73 rfl) rfl ?_
        refine x_lload (dT U_L_areNotes 74 rfl) rfl ?_
        refine x_lconst (z := 1) (dT U_L_areNotes 75 rfl) rfl ?_
        refine x_ladd (dT U_L_areNotes 76 rfl) ?_
        refine x_lif_ne (tgt := 173) (dT U_L_areNotes 77 rfl) (dT U_L_areNotes 78 rfl) (by decide) (xrl_of hz8) (xrl_of (by unfold xr; omega)) (fun c140 => ?_) (fun c140 => ?_)
        · exfalso
          omega
        · skip
          refine x_aload_n (dT U_L_areNotes 79 rfl) rfl ?_
          refine x_lload (dT U_L_areNotes 80 rfl) rfl ?_
          refine x_l2i (dT U_L_areNotes 81 rfl) ?_
          refine x_invokestaticT (rc' := rc + 300) (rs' := rs + 2478) (rc2 := 0 + 1) (rs2 := 0 + 6) (As := [_, _]) (st := _) M_L_note K_L_355 (dT U_L_areNotes 82 rfl) rfl (by decide) rfl rfl (Nat.le_of_ble_eq_true rfl) rfl (by decide) (Nat.le_of_ble_eq_true rfl) (by first | rfl | omega) (by first | rfl | omega) ?_
          refine S_L_note w9 v9 (by first | assumption | (unfold xr; omega)) (fun  z8 => absurd (show inb _ _ from by have := L_9; omega) z8) (fun _ z10 e10 hz10 => ?_)
          refine xRet_some ?_
          have e10 : z10 = 0 := by
            simp only [tn0, tn1, tn2, tn3, tn4, tn5, tn6, tn7, tn8, Int.toNat_natCast, p_9, e0_9] at e10
            rw [e10]
            rfl
          refine x_lconst (z := 0) (dT U_L_areNotes 83 rfl) rfl ?_
          refine x_lif_ne (tgt := 173) (dT U_L_areNotes 84 rfl) (dT U_L_areNotes 85 rfl) (by decide) (xrl_of hz10) (xrl_of (by unfold xr; omega)) (fun c152 => ?_) (fun c152 => ?_)
          · exfalso
            exact c152 e10
          · skip
            refine x_aload_n (dT U_L_areNotes 86 rfl) rfl ?_
            refine x_invokestatic (rc' := rc + 300) (rs' := rs + 2478) (rc2 := 0 + 0) (rs2 := 0 + 0) (As := [_]) (st := _) M_L_standing K_L_351 (dT U_L_areNotes 87 rfl) rfl rfl rfl rfl (Nat.le_of_ble_eq_true rfl) rfl (by decide) (Nat.le_of_ble_eq_true rfl) (by first | rfl | omega) (by first | rfl | omega) ?_
            refine S_L_standing w9 v9   (fun z11 e11 hz11 => ?_)
            refine xRet_some ?_
            have e11 : z11 = MM p ((S0 + (cm1 p amt blind)) % (p : Int)) := by
              rw [p_9] at e11
              rw [e11, S_9]
            refine x_lload (dT U_L_areNotes 88 rfl) rfl ?_
            refine x_iload (dT U_L_areNotes 89 rfl) rfl ?_
            refine x_i2l (dT U_L_areNotes 90 rfl) hz_y ?_
            refine x_lmul (dT U_L_areNotes 91 rfl) ?_
            refine x_iload_n (dT U_L_areNotes 92 rfl) rfl ?_
            refine x_i2l (dT U_L_areNotes 93 rfl) (by unfold xr; omega) ?_
            refine x_lrem (dT U_L_areNotes 94 rfl) (by unfold xrl; omega) (by unfold xrl; omega) (by omega) ?_
            rw [e_by]
            refine x_lif_eq (tgt := 175) (dT U_L_areNotes 95 rfl) (dT U_L_areNotes 96 rfl) (by decide) (xrl_of hz11) (xrl_of (xr_MM hpr)) (fun c169 => ?_) (fun c169 => ?_)
            · skip
              refine x_aload_n (dT U_L_areNotes 99 rfl) rfl ?_
              refine x_lload (dT U_L_areNotes 100 rfl) rfl ?_
              refine x_l2i (dT U_L_areNotes 101 rfl) ?_
              refine x_lload (dT U_L_areNotes 102 rfl) rfl ?_
              refine x_l2i (dT U_L_areNotes 103 rfl) ?_
              refine x_iconst (dT U_L_areNotes 104 rfl) ?_
              refine x_iadd (dT U_L_areNotes 105 rfl) ?_
              rw [show ((n0 + 1 : Nat) : Int) + 1 = ((n0 + 2 : Nat) : Int) by omega]
              have sAB : (A + B) % (p : Int) = cm1 p amt blind := by rw [← e_B]; exact split_sum hE
              refine x_invokestaticT (rc' := rc + 294) (rs' := rs + 2442) (rc2 := 0 + 6) (rs2 := 0 + 36) (As := [_, _, _]) (st := _) M_L_merge K_L_359 (dT U_L_areNotes 106 rfl) rfl (by decide) rfl rfl (Nat.le_of_ble_eq_true rfl) rfl (by decide) (Nat.le_of_ble_eq_true rfl) (by first | rfl | omega) (by first | rfl | omega) ?_
              refine S_L_merge w9 v9 (by first | assumption | (unfold xr; omega)) (by first | assumption | (unfold xr; omega)) (fun  z8 => absurd (show inb _ _ ∧ inb _ _ from by have := L_9; omega) z8) (fun _ z8 => absurd (show ¬ _ = _ from by omega) z8) (fun _ _ z8 => absurd (⟨fun z8 => absurd (e1_9.symm.trans z8) (by omega), fun z8 => absurd (e2_9.symm.trans z8) (by omega), by have := L_9; omega⟩) z8) (fun _ _ _ z12 e12 hz12 h12 fc12 w_12 v_12 => ?_)
              refine xRet_some ?_
              have e12 : z12 = ((n0 + 3 : Nat) : Int) := by
                rw [e12, L_9]
              obtain ⟨σ13, w13, v13, L_13, S_13, e1_13, e3_13, p_13⟩ : ∃ σ13 : St, CW σ13 h12 ∧ INV σ13 ∧ σ13.L.n = n0 + 4 ∧ stnd p (gf σ13.L.nn) σ13.L.n = ((S0 + (cm1 p amt blind)) % (p : Int)) ∧ σ13.L.nn.getD (n0 + 1) 0 = -1 ∧ σ13.L.nn.getD (n0 + 3) 0 = (cm1 p amt blind) ∧ σ13.p = p := ⟨_, w_12, v_12, (by show σ9.L.n + 1 = _; rw [L_9]), (by show stnd p (gf (((σ9.L.nn.set (n0 + 1) (-1)).set (n0 + 2) (-1)).set σ9.L.n ((σ9.L.nn.getD (n0 + 1) 0 + σ9.L.nn.getD (n0 + 2) 0) % (σ9.p : Int)))) (σ9.L.n + 1) = _; rw [p_9, e1_9, e2_9, sAB]; exact st_merge (by omega) v9.L.2.1 (by have := L_9; omega) (by have := L_9; omega) (by have := L_9; omega) (by omega) e1_9 e2_9 (by omega) (by omega) hEne sAB S_9), (by show (((σ9.L.nn.set (n0 + 1) (-1)).set (n0 + 2) (-1)).set σ9.L.n ((σ9.L.nn.getD (n0 + 1) 0 + σ9.L.nn.getD (n0 + 2) 0) % (σ9.p : Int))).getD (n0 + 1) 0 = _; rw [L_9, gset_n (by omega), gset_n (by omega), gset_e (by rw [v9.L.2.1]; omega)]), (by show (((σ9.L.nn.set (n0 + 1) (-1)).set (n0 + 2) (-1)).set σ9.L.n ((σ9.L.nn.getD (n0 + 1) 0 + σ9.L.nn.getD (n0 + 2) 0) % (σ9.p : Int))).getD (n0 + 3) 0 = _; rw [p_9, e1_9, e2_9, sAB, L_9, gset_e (by rw [List.length_set, List.length_set, v9.L.2.1]; omega)]), p_9⟩
              have h_row_13 : h12[a_row]? = some (cA 0 l2) := (fc12).get h_row_9 (by omega)
              have hlen_13 : 70 ≤ h12.length := by rw [fc12.1]; exact hlen_9
              subst e12
              refine x_lstore (ls' := [some (.ref _), some (.ref _), some (vi _), some (vi _), some (.ref _), some (vi _), some (vi _), some (vl _), none, some (vl _), none, some (vl _), none, some (vl _), none, none, none, none, none, none, none, none, none]) (dT U_L_areNotes 107 rfl) (by decide) rfl ?_
              refine x_aload_n (dT U_L_areNotes 108 rfl) rfl ?_
              refine x_lload (dT U_L_areNotes 109 rfl) rfl ?_
              refine x_l2i (dT U_L_areNotes 110 rfl) ?_
              refine x_invokestaticT (rc' := rc + 293) (rs' := rs + 2436) (rc2 := 0 + 1) (rs2 := 0 + 6) (As := [_, _]) (st := _) M_L_note K_L_355 (dT U_L_areNotes 111 rfl) rfl (by decide) rfl rfl (Nat.le_of_ble_eq_true rfl) rfl (by decide) (Nat.le_of_ble_eq_true rfl) (by first | rfl | omega) (by first | rfl | omega) ?_
              refine S_L_note w13 v13 (by first | assumption | (unfold xr; omega)) (fun  z8 => absurd (show inb _ _ from by have := L_13; omega) z8) (fun _ z14 e14 hz14 => ?_)
              refine xRet_some ?_
              have e14 : z14 = y := by
                simp only [tn0, tn1, tn2, tn3, tn4, tn5, tn6, tn7, tn8, Int.toNat_natCast, p_13, e3_13] at e14
                rw [e14]
                unfold nv
                rw [if_neg hEne]
                exact e_y
              refine x_iload (dT U_L_areNotes 112 rfl) rfl ?_
              refine x_i2l (dT U_L_areNotes 113 rfl) hz_y ?_
              refine x_lif_ne (tgt := 237) (dT U_L_areNotes 114 rfl) (dT U_L_areNotes 115 rfl) (by decide) (xrl_of hz14) (xrl_of hz_y) (fun c199 => ?_) (fun c199 => ?_)
              · exfalso
                exact c199 e14
              · skip
                refine x_aload_n (dT U_L_areNotes 116 rfl) rfl ?_
                refine x_invokestatic (rc' := rc + 293) (rs' := rs + 2436) (rc2 := 0 + 0) (rs2 := 0 + 0) (As := [_]) (st := _) M_L_standing K_L_351 (dT U_L_areNotes 117 rfl) rfl rfl rfl rfl (Nat.le_of_ble_eq_true rfl) rfl (by decide) (Nat.le_of_ble_eq_true rfl) (by first | rfl | omega) (by first | rfl | omega) ?_
                refine S_L_standing w13 v13   (fun z15 e15 hz15 => ?_)
                refine xRet_some ?_
                have e15 : z15 = MM p ((S0 + (cm1 p amt blind)) % (p : Int)) := by
                  rw [p_13] at e15
                  rw [e15, S_13]
                refine x_lload (dT U_L_areNotes 118 rfl) rfl ?_
                refine x_iload (dT U_L_areNotes 119 rfl) rfl ?_
                refine x_i2l (dT U_L_areNotes 120 rfl) hz_y ?_
                refine x_lmul (dT U_L_areNotes 121 rfl) ?_
                refine x_iload_n (dT U_L_areNotes 122 rfl) rfl ?_
                refine x_i2l (dT U_L_areNotes 123 rfl) (by unfold xr; omega) ?_
                refine x_lrem (dT U_L_areNotes 124 rfl) (by unfold xrl; omega) (by unfold xrl; omega) (by omega) ?_
                rw [e_by]
                refine x_lif_ne (tgt := 237) (dT U_L_areNotes 125 rfl) (dT U_L_areNotes 126 rfl) (by decide) (xrl_of hz15) (xrl_of (xr_MM hpr)) (fun c216 => ?_) (fun c216 => ?_)
                · exfalso
                  exact c216 e15
                · skip
                  refine x_aload_n (dT U_L_areNotes 127 rfl) rfl ?_
                  refine x_lload (dT U_L_areNotes 128 rfl) rfl ?_
                  refine x_l2i (dT U_L_areNotes 129 rfl) ?_
                  refine x_lload (dT U_L_areNotes 130 rfl) rfl ?_
                  refine x_l2i (dT U_L_areNotes 131 rfl) ?_
                  refine x_invokestaticT (rc' := rc + 287) (rs' := rs + 2400) (rc2 := 0 + 6) (rs2 := 0 + 36) (As := [_, _, _]) (st := _) M_L_merge K_L_359 (dT U_L_areNotes 132 rfl) rfl (by decide) rfl rfl (Nat.le_of_ble_eq_true rfl) rfl (by decide) (Nat.le_of_ble_eq_true rfl) (by omega) (by omega) ?_
                  refine S_L_merge w13 v13 (by unfold xr; omega) (by unfold xr; omega) (fun z8 => absurd (show inb _ _ ∧ inb _ _ from by have := L_13; omega) z8) (fun _ z8 => absurd (show ¬ _ = _ from by omega) z8) (fun _ _ _ => ?_) (fun _ _ z8 => absurd e1_13 z8.1)
                  refine xRet_some ?_
                  refine x_ldc2 C_L_60 (dT U_L_areNotes 133 rfl) ?_
                  refine x_lif_eq (tgt := 239) (dT U_L_areNotes 134 rfl) (dT U_L_areNotes 135 rfl) (by decide) (show xrl _ by unfold xrl; omega) (show xrl _ by unfold xrl; omega) (fun c233 => ?_) (fun c233 => ?_)
                  · skip
                    refine X_room (by omega) (by omega) (x_drop ?_ (cutN_1 (rc := rc) (rs := rs) hL hpr w13 v13 hlen_13 L_13 S_13 e3_13 p_13 h_row_13 (by omega) F_l2 b_amt b_blind e_y hz_y e3 b_S0 e_lR hn4 kk))
                    repeat (first | exact trivial | refine ⟨rfl, ?_⟩ | refine ⟨trivial, ?_⟩)
                  · exfalso
                    exact absurd rfl c233
            · exfalso
              exact c169 e11
      · exfalso
        exact c97 e7

