set_option maxRecDepth 20000 in
set_option maxHeartbeats 60000000 in
theorem cutR_3 {G : xG} {d rc rs : Nat} {ex : Bool} {h : xH} {Q : xQ} {σ : St} {p n0 : Nat} {f : Nat} {blind mb c dd y vv : Int} {a_secret : Nat} {a_form : Nat} {a_mask : Nat} {secret : List Int} {form : List Int} {mask : List Int} (hL : gL G < 100000) (hpr : p ∈ PR) (w : CW σ h) (v : INV σ) (hlen : 70 ≤ h.length) (f_r2 : σ.rw 2 = form) (f_r1 : σ.rw 1 = mask) (f_r0 : σ.rw 0 = secret) (f_p : σ.p = p) (f_L : σ.L.n = n0) (h_secret : h[a_secret]? = some (cA 0 secret)) (g_secret : 70 ≤ a_secret) (Fl_secret : Fl (p : Int) secret) (h_form : h[a_form]? = some (cA 0 form)) (g_form : 70 ≤ a_form) (Fl_form : Fl (p : Int) form) (h_mask : h[a_mask]? = some (cA 0 mask)) (g_mask : 70 ≤ a_mask) (Fl_mask : Fl (p : Int) mask) (hf : f < 900) (b_blind : 0 ≤ blind ∧ blind < (p : Int)) (b_mb : 0 ≤ mb ∧ mb < (p : Int)) (b_c : 0 ≤ c ∧ c < (p : Int)) (b_dd : 0 ≤ dd ∧ dd < (p : Int)) (e_y : MM p (cm p secret blind) = y) (hz_y : xr y) (e_vv : inn form secret % (p : Int) = vv) (b_vv : 0 ≤ vv ∧ vv < (p : Int)) (ne_mask_secret : a_mask ≠ a_secret) (ne_mask_form : a_mask ≠ a_form) (kk : ∀ (σ2 : St) (h2 : xH) (ex2 : Bool), CW σ2 h2 → INV σ2 → σ2.p = p → σ2.L.n = n0 → 70 ≤ h2.length → Q (.inl (some (vi 1))) ex2 h2) : X G m_L_areRuns (d + 10) (rc + 400) (rs + 3200) ex 460 [some (.ref 3), some (.ref 0), some (vi (f : Int)), some (vi (p : Int)), some (vi (gq p : Int)), some (.ref a_secret), some (.ref a_form), some (.ref a_mask), some (vi blind), some (vi mb), some (vi c), some (vi dd), some (vi y), some (vi vv), none, none] [] h Q := by
  have hp := PRb hpr
  have hq := gq_b hpr
  have hcS := cm_b (p := p) (l := secret) (b := blind) (by omega)
  have hcM := cm_b (p := p) (l := mask) (b := mb) (by omega)
  have m_cblind := mulg (a := c) (b := blind) (m := 23) (n := 23) (by omega) (by omega)
  have m_ddblind := mulg (a := dd) (b := blind) (m := 23) (n := 23) (by omega) (by omega)
  refine x_aload_n (dT U_L_areRuns 263 rfl) rfl ?_
  refine x_iconst (dT U_L_areRuns 264 rfl) ?_
  refine x_iload (dT U_L_areRuns 265 rfl) rfl ?_
  refine x_iconst (dT U_L_areRuns 266 rfl) ?_
  refine x_iload (dT U_L_areRuns 267 rfl) rfl ?_
  refine x_invokestaticT (rc' := rc + 396) (rs' := rs + 3176) (rc2 := 0 + 4) (rs2 := 0 + 24) (As := [_, _, _, _, _]) (st := _) M_L_state K_L_261 (dT U_L_areRuns 268 rfl) rfl (by decide) rfl rfl (Nat.le_of_ble_eq_true rfl) rfl (by decide) (Nat.le_of_ble_eq_true rfl) (by first | rfl | omega) (by first | rfl | omega) ?_
  refine S_L_state w v (by first | assumption | (unfold xr; omega)) (by first | assumption | (unfold xr; omega)) (by first | assumption | (unfold xr; omega)) (by first | assumption | (unfold xr; omega)) (fun  z8 => absurd (show inb _ _ ∧ inb _ _ from by omega) z8) (fun _ z8 => absurd (show _ ∧ inb _ _ from ⟨by rw [f_p, ← e_y, exI_MM hpr hcS]; omega, by have := f_p; omega⟩) z8) (fun _ _ z101 e101 hz101 h101 fc101 w_101 v_101 => ?_)
  refine xRet_some ?_
  have e101 : z101 = y := by
    exact e101
  obtain ⟨σ102, w102, v102, R2_st_102, R2_e_102, R2_v_102, R2_form_102, r2_102, r1_102, r0_102, p_102, L_102⟩ : ∃ σ102 : St, CW σ102 h101 ∧ INV σ102 ∧ (σ102.R 2).st = 1 ∧ (σ102.R 2).e = cm p secret blind ∧ (σ102.R 2).v = vv ∧ (σ102.R 2).form = form ∧ σ102.rw 2 = form ∧ σ102.rw 1 = mask ∧ σ102.rw 0 = secret ∧ σ102.p = p ∧ σ102.L.n = n0 := ⟨_, w_101, v_101, rfl, (by show exI σ.p y = _; rw [f_p, ← e_y, exI_MM hpr hcS]), rfl, f_r2, f_r2, f_r1, f_r0, f_p, f_L⟩
  have h_secret_102 : h101[a_secret]? = some (cA 0 secret) := (fc101).get h_secret (by omega)
  have h_form_102 : h101[a_form]? = some (cA 0 form) := (fc101).get h_form (by omega)
  have h_mask_102 : h101[a_mask]? = some (cA 0 mask) := (fc101).get h_mask (by omega)
  have hlen_102 : 70 ≤ h101.length := by rw [fc101.1]; exact hlen
  refine x_pop2 (dT U_L_areRuns 269 rfl) ?_
  refine x_aload_n (dT U_L_areRuns 270 rfl) rfl ?_
  refine x_iconst (dT U_L_areRuns 271 rfl) ?_
  refine x_aload_n (dT U_L_areRuns 272 rfl) rfl ?_
  refine x_aload (dT U_L_areRuns 273 rfl) rfl ?_
  refine x_iload (dT U_L_areRuns 274 rfl) rfl ?_
  refine x_iload (dT U_L_areRuns 275 rfl) rfl ?_
  refine x_invokestatic (rc' := rc + 387) (rs' := rs + 3122) (rc2 := 0 + 9) (rs2 := 0 + 54) (As := [_, _, _, _]) (st := _) M_L_commits K_L_247 (dT U_L_areRuns 276 rfl) rfl rfl rfl rfl (Nat.le_of_ble_eq_true rfl) rfl (by decide) (Nat.le_of_ble_eq_true rfl) (by first | rfl | omega) (by first | rfl | omega) ?_
  refine S_L_commits w102 v102 p_102 h_mask_102 (by omega) Fl_mask (by omega) ?_
  refine xRet_some ?_
  refine x_aload (dT U_L_areRuns 277 rfl) rfl ?_
  refine x_aload (dT U_L_areRuns 278 rfl) rfl ?_
  refine x_iload_n (dT U_L_areRuns 279 rfl) rfl ?_
  refine x_invokestatic (rc' := rc + 387) (rs' := rs + 3122) (rc2 := 0 + 0) (rs2 := 0 + 0) (As := [_, _, _]) (st := _) M_L_inner K_L_257 (dT U_L_areRuns 280 rfl) rfl rfl rfl rfl (Nat.le_of_ble_eq_true rfl) rfl (by decide) (Nat.le_of_ble_eq_true rfl) (by first | rfl | omega) (by first | rfl | omega) ?_
  refine S_L_inner (by omega) h_form_102 (by omega) Fl_form h_mask_102 (by omega) Fl_mask ?_
  refine xRet_some ?_
  obtain ⟨wm, e_wm⟩ : ∃ r : Int, inn form mask % (p : Int) = r := ⟨_, rfl⟩
  rw [e_wm]
  have b_wm : 0 ≤ wm ∧ wm < (p : Int) := by rw [← e_wm]; exact modb (by omega)
  refine x_invokestaticT (rc' := rc + 383) (rs' := rs + 3098) (rc2 := 0 + 4) (rs2 := 0 + 24) (As := [_, _, _, _]) (st := _) M_L_say K_L_286 (dT U_L_areRuns 281 rfl) rfl (by decide) rfl rfl (Nat.le_of_ble_eq_true rfl) rfl (by decide) (Nat.le_of_ble_eq_true rfl) (by first | rfl | omega) (by first | rfl | omega) ?_
  refine S_L_say w102 v102 (by first | assumption | (unfold xr; omega)) (xr_MM hpr) (by first | assumption | (unfold xr; omega)) (fun  z8 => absurd (show inb _ _ from by omega) z8) (fun _ z8 => absurd (show _ ∧ inb _ _ from ⟨by rw [p_102, exI_MM hpr hcM]; omega, by have := p_102; omega⟩) z8) (fun _ _ z8 => absurd (R2_st_102) z8) (fun _ _ _ z103 e103 hz103 h103 fc103 w_103 v_103 => ?_)
  refine xRet_some ?_
  obtain ⟨σ104, w104, v104, R2_st_104, R2_fa_104, R2_w_104, R2_e_104, R2_v_104, R2_form_104, r2_104, r1_104, r0_104, p_104, L_104⟩ : ∃ σ104 : St, CW σ104 h103 ∧ INV σ104 ∧ (σ104.R 2).st = 2 ∧ (σ104.R 2).fa = cm p mask mb ∧ (σ104.R 2).w = wm ∧ (σ104.R 2).e = cm p secret blind ∧ (σ104.R 2).v = vv ∧ (σ104.R 2).form = form ∧ σ104.rw 2 = form ∧ σ104.rw 1 = mask ∧ σ104.rw 0 = secret ∧ σ104.p = p ∧ σ104.L.n = n0 := ⟨_, w_103, v_103, rfl, (by show exI σ102.p _ = _; rw [p_102, exI_MM hpr hcM]), rfl, R2_e_102, R2_v_102, R2_form_102, r2_102, r1_102, r0_102, p_102, L_102⟩
  have h_secret_104 : h103[a_secret]? = some (cA 0 secret) := (fc103).get h_secret_102 (by omega)
  have h_form_104 : h103[a_form]? = some (cA 0 form) := (fc103).get h_form_102 (by omega)
  have h_mask_104 : h103[a_mask]? = some (cA 0 mask) := (fc103).get h_mask_102 (by omega)
  have hlen_104 : 70 ≤ h103.length := by rw [fc103.1]; exact hlen_102
  refine x_pop2 (dT U_L_areRuns 282 rfl) ?_
  refine x_aload_n (dT U_L_areRuns 283 rfl) rfl ?_
  refine x_iconst (dT U_L_areRuns 284 rfl) ?_
  refine x_iload (dT U_L_areRuns 285 rfl) rfl ?_
  refine x_invokestaticT (rc' := rc + 380) (rs' := rs + 3080) (rc2 := 0 + 3) (rs2 := 0 + 18) (As := [_, _, _]) (st := _) M_L_dare K_L_267 (dT U_L_areRuns 286 rfl) rfl (by decide) rfl rfl (Nat.le_of_ble_eq_true rfl) rfl (by decide) (Nat.le_of_ble_eq_true rfl) (by first | rfl | omega) (by first | rfl | omega) ?_
  refine S_L_dare w104 v104 (by first | assumption | (unfold xr; omega)) (by first | assumption | (unfold xr; omega)) (fun  z8 => absurd (show inb _ _ from by omega) z8) (fun _ z8 => absurd (show inb _ _ from by have := p_104; omega) z8) (fun _ _ z8 => absurd (R2_st_104) z8) (fun _ _ _ z105 e105 hz105 h105 fc105 w_105 v_105 => ?_)
  refine xRet_some ?_
  have e105 : z105 = c := by
    exact e105
  obtain ⟨σ106, w106, v106, R2_st_106, R2_c_106, R2_fa_106, R2_w_106, R2_e_106, R2_v_106, R2_form_106, r2_106, r1_106, r0_106, p_106, L_106⟩ : ∃ σ106 : St, CW σ106 h105 ∧ INV σ106 ∧ (σ106.R 2).st = 3 ∧ (σ106.R 2).c = c ∧ (σ106.R 2).fa = cm p mask mb ∧ (σ106.R 2).w = wm ∧ (σ106.R 2).e = cm p secret blind ∧ (σ106.R 2).v = vv ∧ (σ106.R 2).form = form ∧ σ106.rw 2 = form ∧ σ106.rw 1 = mask ∧ σ106.rw 0 = secret ∧ σ106.p = p ∧ σ106.L.n = n0 := ⟨_, w_105, v_105, rfl, rfl, R2_fa_104, R2_w_104, R2_e_104, R2_v_104, R2_form_104, r2_104, r1_104, r0_104, p_104, L_104⟩
  have h_secret_106 : h105[a_secret]? = some (cA 0 secret) := (fc105).get h_secret_104 (by omega)
  have h_form_106 : h105[a_form]? = some (cA 0 form) := (fc105).get h_form_104 (by omega)
  have h_mask_106 : h105[a_mask]? = some (cA 0 mask) := (fc105).get h_mask_104 (by omega)
  have hlen_106 : 70 ≤ h105.length := by rw [fc105.1]; exact hlen_104
  refine x_pop2 (dT U_L_areRuns 287 rfl) ?_
  refine x_iconst (dT U_L_areRuns 288 rfl) ?_
  refine x_istore (ls' := [some (.ref _), some (.ref _), some (vi _), some (vi _), some (vi _), some (.ref _), some (.ref _), some (.ref _), some (vi _), some (vi _), some (vi _), some (vi _), some (vi _), some (vi _), some (vi _), none]) (dT U_L_areRuns 289 rfl) (by decide) rfl ?_
  have L107 : ∀ (n9 i : Nat), i + n9 = 8 → ∀ (h107 : xH) (ex107 : Bool) (σ107 : St), CW σ107 h107 → INV σ107 → 70 ≤ h107.length → (σ107.R 2).st = 3 → (σ107.R 2).c = c → (σ107.R 2).fa = cm p mask mb → (σ107.R 2).w = wm → (σ107.R 2).e = cm p secret blind → (σ107.R 2).v = vv → (σ107.R 2).form = form → σ107.rw 2 = form → σ107.rw 1 = mask → σ107.rw 0 = secret → σ107.p = p → σ107.L.n = n0 → h107[a_secret]? = some (cA 0 secret) → h107[a_form]? = some (cA 0 form) → ∀ (mask_107 : List Int), h107[a_mask]? = some (cA 0 mask_107) → Fl (p : Int) mask_107 → (∀ j, j < i → mask_107.getD j 0 = (mask.getD j 0 + c * secret.getD j 0) % (p : Int)) → (∀ j, i ≤ j → mask_107.getD j 0 = mask.getD j 0) → X G m_L_areRuns (d + 10) (rc + 150 + 1 * n9) (rs + 1200 + 6 * n9) ex107 506 [some (.ref 3), some (.ref 0), some (vi (f : Int)), some (vi (p : Int)), some (vi (gq p : Int)), some (.ref a_secret), some (.ref a_form), some (.ref a_mask), some (vi blind), some (vi mb), some (vi c), some (vi dd), some (vi y), some (vi vv), some (vi (i : Int)), none] [] h107 Q := by
    intro n9
    induction n9 with
    | zero =>
      intro i hi9 h107 ex107 σ107 w107 v107 hlen_107 R2_st_107 R2_c_107 R2_fa_107 R2_w_107 R2_e_107 R2_v_107 R2_form_107 r2_107 r1_107 r0_107 p_107 L_107 h_secret_107 h_form_107 mask_107 h_mask_107 Fm_107 lt8_107 ge_107
      refine x_iload (dT U_L_areRuns 290 rfl) rfl ?_
      refine x_bipush (dT U_L_areRuns 291 rfl) (by decide) ?_
      refine x_icmp_ge (tgt := 540) (dT U_L_areRuns 292 rfl) (by decide) (by first | assumption | (unfold xr; omega)) (by unfold xr; omega) (fun c510 => ?_) (fun c510 => ?_)
      · skip
        refine x_aload_n (dT U_L_areRuns 309 rfl) rfl ?_
        have hi8 : i = 8 := by omega
        subst hi8
        obtain ⟨AL, e_AL⟩ : ∃ l : List Int, tab (fun j => (mask.getD j 0 + c * secret.getD j 0) % (p : Int)) 8 = l := ⟨_, rfl⟩
        have lAL : AL.length = 8 := by rw [← e_AL, tab_len]
        have eq_AL : mask_107 = AL := by
          rw [← e_AL]
          exact list_ext (by rw [tab_len, Fm_107.1]) (fun j hj => by rw [tab_get _ (by rw [Fm_107.1] at hj; omega)]; exact lt8_107 j (by rw [Fm_107.1] at hj; omega))
        refine x_iload_n (dT U_L_areRuns 310 rfl) rfl ?_
        refine x_bipush (dT U_L_areRuns 311 rfl) (by decide) ?_
        refine x_iadd (dT U_L_areRuns 312 rfl) ?_
        rw [show (f : Int) + 28 = ((f + 28 : Nat) : Int) by omega]
        refine x_invokestatic (rc' := rc + 150) (rs' := rs + 1200) (rc2 := 0 + 0) (rs2 := 0 + 0) (As := [_, _]) (st := _) M_L_cell K_L_221 (dT U_L_areRuns 313 rfl) rfl rfl rfl rfl (Nat.le_of_ble_eq_true rfl) rfl (by decide) (Nat.le_of_ble_eq_true rfl) (by first | rfl | omega) (by first | rfl | omega) ?_
        refine S_L_cell (k := f + 28) hL (by omega) (fun z545 => ?_)
        refine xRet_some ?_
        refine x_bipush (dT U_L_areRuns 314 rfl) (by decide) ?_
        refine x_invokestatic (rc' := rc + 150) (rs' := rs + 1200) (rc2 := 0 + 0) (rs2 := 0 + 0) (As := [_, _]) (st := _) M_L_chosen K_L_225 (dT U_L_areRuns 315 rfl) rfl rfl rfl rfl (Nat.le_of_ble_eq_true rfl) rfl (by decide) (Nat.le_of_ble_eq_true rfl) (by first | rfl | omega) (by first | rfl | omega) ?_
        refine S_L_chosen (by omega) (fun place b_place => ?_)
        refine xRet_some ?_
        obtain ⟨t, rfl⟩ : ∃ t : Nat, place = (t : Int) := ⟨place.toNat, by omega⟩
        refine x_istore (ls' := [some (.ref _), some (.ref _), some (vi _), some (vi _), some (vi _), some (.ref _), some (.ref _), some (.ref _), some (vi _), some (vi _), some (vi _), some (vi _), some (vi _), some (vi _), some (vi _), none]) (dT U_L_areRuns 316 rfl) (by decide) rfl ?_
        refine x_aload (dT U_L_areRuns 317 rfl) rfl ?_
        refine x_iload (dT U_L_areRuns 318 rfl) rfl ?_
        refine x_aload (dT U_L_areRuns 319 rfl) rfl ?_
        refine x_iload (dT U_L_areRuns 320 rfl) rfl ?_
        refine x_iaload (t) (dT U_L_areRuns 321 rfl) h_mask_107 (by omega) rfl (by have := (Fm_107).1; omega) (by have := (Fm_107).1; omega) ?_
        refine x_iconst (dT U_L_areRuns 322 rfl) ?_
        refine x_iadd (dT U_L_areRuns 323 rfl) ?_
        refine x_aload_n (dT U_L_areRuns 324 rfl) rfl ?_
        refine x_iload_n (dT U_L_areRuns 325 rfl) rfl ?_
        refine x_bipush (dT U_L_areRuns 326 rfl) (by decide) ?_
        refine x_iadd (dT U_L_areRuns 327 rfl) ?_
        rw [show (f : Int) + 29 = ((f + 29 : Nat) : Int) by omega]
        refine x_invokestatic (rc' := rc + 150) (rs' := rs + 1200) (rc2 := 0 + 0) (rs2 := 0 + 0) (As := [_, _]) (st := _) M_L_cell K_L_221 (dT U_L_areRuns 328 rfl) rfl rfl rfl rfl (Nat.le_of_ble_eq_true rfl) rfl (by decide) (Nat.le_of_ble_eq_true rfl) (by first | rfl | omega) (by first | rfl | omega) ?_
        refine S_L_cell (k := f + 29) hL (by omega) (fun z571 => ?_)
        refine xRet_some ?_
        refine x_iload_n (dT U_L_areRuns 329 rfl) rfl ?_
        refine x_iconst (dT U_L_areRuns 330 rfl) ?_
        refine x_isub (dT U_L_areRuns 331 rfl) ?_
        refine x_invokestatic (rc' := rc + 150) (rs' := rs + 1200) (rc2 := 0 + 0) (rs2 := 0 + 0) (As := [_, _]) (st := _) M_L_chosen K_L_225 (dT U_L_areRuns 332 rfl) rfl rfl rfl rfl (Nat.le_of_ble_eq_true rfl) rfl (by decide) (Nat.le_of_ble_eq_true rfl) (by first | rfl | omega) (by first | rfl | omega) ?_
        refine S_L_chosen (by omega) (fun rc_ b_rc_ => ?_)
        refine xRet_some ?_
        refine x_iadd (dT U_L_areRuns 333 rfl) ?_
        refine x_iload_n (dT U_L_areRuns 334 rfl) rfl ?_
        refine x_irem (dT U_L_areRuns 335 rfl) (by have := (Fm_107).2 t; unfold xr; omega) (by unfold xr; omega) (by omega) ?_
        rw [Int.tmod_eq_emod_of_nonneg (by have := (Fm_107).2 t; omega)]
        refine x_iastoreL (t) w107 g_mask (dT U_L_areRuns 336 rfl) h_mask_107 rfl (by have := (Fm_107).1; omega) (by have := (Fm_107).1; omega) (fun h108 l108 el108 len108 w108 nb108 h_mask_108 => ?_)
        have hlen_108 : 70 ≤ h108.length := by rw [len108]; exact hlen_107
        have h_secret_108 := nb108 _ _ (by omega) h_secret_107
        have h_form_108 := nb108 _ _ (by omega) h_form_107
        have F_l108 : Fl (p : Int) l108 := by rw [el108]; exact Fl.set Fm_107 (modb (by omega))
        refine x_aload_n (dT U_L_areRuns 337 rfl) rfl ?_
        refine x_iconst (dT U_L_areRuns 338 rfl) ?_
        refine x_aload (dT U_L_areRuns 339 rfl) rfl ?_
        refine x_invokestatic (rc' := rc + 149) (rs' := rs + 1194) (rc2 := 0 + 1) (rs2 := 0 + 6) (As := [_, _, _]) (st := _) M_L_lays K_L_238 (dT U_L_areRuns 340 rfl) rfl rfl rfl rfl (Nat.le_of_ble_eq_true rfl) rfl (by decide) (Nat.le_of_ble_eq_true rfl) (by first | rfl | omega) (by first | rfl | omega) ?_
        refine S_L_lays w108 v107 (by omega) h_mask_108 (by omega) (by rw [p_107]; exact F_l108) (fun z109 hz109 h109 fc109 w_109 v_109 => ?_)
        refine xRet_some ?_
        obtain ⟨σ110, w110, v110, r5_110, R2_st_110, R2_c_110, R2_fa_110, R2_w_110, R2_e_110, R2_v_110, R2_form_110, r2_110, r1_110, r0_110, p_110, L_110⟩ : ∃ σ110 : St, CW σ110 h109 ∧ INV σ110 ∧ σ110.rw 5 = l108 ∧ (σ110.R 2).st = 3 ∧ (σ110.R 2).c = c ∧ (σ110.R 2).fa = cm p mask mb ∧ (σ110.R 2).w = wm ∧ (σ110.R 2).e = cm p secret blind ∧ (σ110.R 2).v = vv ∧ (σ110.R 2).form = form ∧ σ110.rw 2 = form ∧ σ110.rw 1 = mask ∧ σ110.rw 0 = secret ∧ σ110.p = p ∧ σ110.L.n = n0 := ⟨_, w_109, v_109, rfl, R2_st_107, R2_c_107, R2_fa_107, R2_w_107, R2_e_107, R2_v_107, R2_form_107, r2_107, r1_107, r0_107, p_107, L_107⟩
        have h_secret_110 : h109[a_secret]? = some (cA 0 secret) := (fc109).get h_secret_108 (by omega)
        have h_form_110 : h109[a_form]? = some (cA 0 form) := (fc109).get h_form_108 (by omega)
        have h_mask_110 : h109[a_mask]? = some (cA 0 l108) := (fc109).get h_mask_108 (by omega)
        have hlen_110 : 70 ≤ h109.length := by rw [fc109.1]; exact hlen_108
        refine x_pop2 (dT U_L_areRuns 341 rfl) ?_
        refine x_aload_n (dT U_L_areRuns 342 rfl) rfl ?_
        refine x_iconst (dT U_L_areRuns 343 rfl) ?_
        refine x_iconst (dT U_L_areRuns 344 rfl) ?_
        refine x_iload (dT U_L_areRuns 345 rfl) rfl ?_
        refine x_iload (dT U_L_areRuns 346 rfl) rfl ?_
        refine x_iload (dT U_L_areRuns 347 rfl) rfl ?_
        refine x_imul (dT U_L_areRuns 348 rfl) ?_
        refine x_iadd (dT U_L_areRuns 349 rfl) ?_
        refine x_iload_n (dT U_L_areRuns 350 rfl) rfl ?_
        refine x_irem (dT U_L_areRuns 351 rfl) (by unfold xr; omega) (by unfold xr; omega) (by omega) ?_
        rw [Int.tmod_eq_emod_of_nonneg (by omega)]
        have hmt := modb (z := mb + c * blind) (p := (p : Int)) (by omega)
        refine x_invokestaticT (rc' := rc + 145) (rs' := rs + 1170) (rc2 := 0 + 4) (rs2 := 0 + 24) (As := [_, _, _, _]) (st := _) M_L_tell K_L_288 (dT U_L_areRuns 352 rfl) rfl (by decide) rfl rfl (Nat.le_of_ble_eq_true rfl) rfl (by decide) (Nat.le_of_ble_eq_true rfl) (by first | rfl | omega) (by first | rfl | omega) ?_
        refine S_L_tell w110 v110 (by first | assumption | (unfold xr; omega)) (by first | assumption | (unfold xr; omega)) (by first | assumption | (unfold xr; omega)) (fun  z8 => absurd (show inb _ _ ∧ inb _ _ from by omega) z8) (fun _ z8 => absurd (show inb _ _ from by have := p_110; omega) z8) (fun _ _ z8 => absurd (R2_st_110) z8) (fun _ _ _ z111 e111 hz111 h111 fc111 w_111 v_111 => ?_)
        refine xRet_some ?_
        obtain ⟨σ112, w112, v112, R2_st_112, R2_t_112, R2_answer_112, r5_112, R2_c_112, R2_fa_112, R2_w_112, R2_e_112, R2_v_112, R2_form_112, r2_112, r1_112, r0_112, p_112, L_112⟩ : ∃ σ112 : St, CW σ112 h111 ∧ INV σ112 ∧ (σ112.R 2).st = 4 ∧ (σ112.R 2).t = (mb + c * blind) % (p : Int) ∧ (σ112.R 2).answer = AL.set t ((AL.getD t 0 + 1 + rc_) % (p : Int)) ∧ σ112.rw 5 = l108 ∧ (σ112.R 2).c = c ∧ (σ112.R 2).fa = cm p mask mb ∧ (σ112.R 2).w = wm ∧ (σ112.R 2).e = cm p secret blind ∧ (σ112.R 2).v = vv ∧ (σ112.R 2).form = form ∧ σ112.rw 2 = form ∧ σ112.rw 1 = mask ∧ σ112.rw 0 = secret ∧ σ112.p = p ∧ σ112.L.n = n0 := ⟨_, w_111, v_111, rfl, rfl, (r5_110.trans (by rw [el108, eq_AL])), r5_110, R2_c_110, R2_fa_110, R2_w_110, R2_e_110, R2_v_110, R2_form_110, r2_110, r1_110, r0_110, p_110, L_110⟩
        have h_secret_112 : h111[a_secret]? = some (cA 0 secret) := (fc111).get h_secret_110 (by omega)
        have h_form_112 : h111[a_form]? = some (cA 0 form) := (fc111).get h_form_110 (by omega)
        have h_mask_112 : h111[a_mask]? = some (cA 0 l108) := (fc111).get h_mask_110 (by omega)
        have hlen_112 : 70 ≤ h111.length := by rw [fc111.1]; exact hlen_110
        refine x_pop2 (dT U_L_areRuns 353 rfl) ?_
        refine x_aload_n (dT U_L_areRuns 354 rfl) rfl ?_
        refine x_iconst (dT U_L_areRuns 355 rfl) ?_
        refine x_invokestaticT (rc' := rc + 144) (rs' := rs + 1164) (rc2 := 0 + 1) (rs2 := 0 + 6) (As := [_, _]) (st := _) M_L_isAccepted K_L_271 (dT U_L_areRuns 356 rfl) rfl (by decide) rfl rfl (Nat.le_of_ble_eq_true rfl) rfl (by decide) (Nat.le_of_ble_eq_true rfl) (by first | rfl | omega) (by first | rfl | omega) ?_
        refine S_L_isAccepted w112 v112 (by first | assumption | (unfold xr; omega)) (fun  z8 => absurd (show inb _ _ from by omega) z8) (fun _ z8 => absurd z8 ((by rw [p_112]; show ¬ acc p (σ112.R 2); intro z; have q1 := z.2.1; rw [R2_answer_112, R2_t_112, R2_fa_112, R2_c_112, R2_e_112, ← cm_lin (tab_lin) (Int.emod_emod_of_dvd _ (Int.dvd_refl _)), e_AL] at q1; exact changed_ne hpr lAL (show t < 8 by omega) b_rc_ q1))) (fun _ _ => ?_)
        refine xRet_some ?_
        refine x_lconst (z := 0) (dT U_L_areRuns 357 rfl) rfl ?_
        refine x_lif_ne (tgt := 623) (dT U_L_areRuns 358 rfl) (dT U_L_areRuns 359 rfl) (by decide) (xrl_of (by unfold xr; omega)) (xrl_of (by unfold xr; omega)) (fun c615 => ?_) (fun c615 => ?_)
        · exfalso
          omega
        · skip
          refine x_iconst (dT U_L_areRuns 360 rfl) ?_
          refine x_goto (tgt := 624) (dT U_L_areRuns 361 rfl) (by decide) ?_
          refine x_zreturn (dT U_L_areRuns 363 rfl) rfl (by omega) ?_
          exact kk _ _ _ w112 v112 p_112 L_112 hlen_112
      · exfalso
        omega
    | succ n9 ih =>
      intro i hi9 h107 ex107 σ107 w107 v107 hlen_107 R2_st_107 R2_c_107 R2_fa_107 R2_w_107 R2_e_107 R2_v_107 R2_form_107 r2_107 r1_107 r0_107 p_107 L_107 h_secret_107 h_form_107 mask_107 h_mask_107 Fm_107 lt8_107 ge_107
      refine x_iload (dT U_L_areRuns 290 rfl) rfl ?_
      refine x_bipush (dT U_L_areRuns 291 rfl) (by decide) ?_
      refine x_icmp_ge (tgt := 540) (dT U_L_areRuns 292 rfl) (by decide) (by first | assumption | (unfold xr; omega)) (by unfold xr; omega) (fun c510 => ?_) (fun c510 => ?_)
      · exfalso
        omega
      · skip
        refine x_aload (dT U_L_areRuns 293 rfl) rfl ?_
        refine x_iload (dT U_L_areRuns 294 rfl) rfl ?_
        refine x_aload (dT U_L_areRuns 295 rfl) rfl ?_
        refine x_iload (dT U_L_areRuns 296 rfl) rfl ?_
        refine x_iaload (i) (dT U_L_areRuns 297 rfl) h_mask_107 (by omega) rfl (by have := (Fm_107).1; omega) (by have := (Fm_107).1; omega) ?_
        refine x_iload (dT U_L_areRuns 298 rfl) rfl ?_
        refine x_aload (dT U_L_areRuns 299 rfl) rfl ?_
        refine x_iload (dT U_L_areRuns 300 rfl) rfl ?_
        refine x_iaload (i) (dT U_L_areRuns 301 rfl) h_secret_107 (by omega) rfl (by have := (Fl_secret).1; omega) (by have := (Fl_secret).1; omega) ?_
        have m_i := mulg (a := c) (b := secret.getD i 0) (m := 23) (n := 23) (by omega) (by have := Fl_secret.2 i; omega)
        have m_j := Fl_mask.2 i
        have m_k := ge_107 i (by omega)
        rw [m_k]
        refine x_imul (dT U_L_areRuns 302 rfl) ?_
        refine x_iadd (dT U_L_areRuns 303 rfl) ?_
        refine x_iload_n (dT U_L_areRuns 304 rfl) rfl ?_
        refine x_irem (dT U_L_areRuns 305 rfl) (by unfold xr; omega) (by unfold xr; omega) (by omega) ?_
        rw [Int.tmod_eq_emod_of_nonneg (by omega)]
        refine x_iastoreL (i) w107 g_mask (dT U_L_areRuns 306 rfl) h_mask_107 rfl (by have := (Fm_107).1; omega) (by have := (Fm_107).1; omega) (fun h114 l114 el114 len114 w114 nb114 h_mask_114 => ?_)
        have hlen_114 : 70 ≤ h114.length := by rw [len114]; exact hlen_107
        have h_secret_114 := nb114 _ _ (by omega) h_secret_107
        have h_form_114 := nb114 _ _ (by omega) h_form_107
        have F_l114 : Fl (p : Int) l114 := by rw [el114]; exact Fl.set Fm_107 (modb (by omega))
        refine x_iinc (ls' := [some (.ref _), some (.ref _), some (vi _), some (vi _), some (vi _), some (.ref _), some (.ref _), some (.ref _), some (vi _), some (vi _), some (vi _), some (vi _), some (vi _), some (vi _), some (vi _), none]) (dT U_L_areRuns 307 rfl) (by decide) rfl rfl ?_
        refine x_goto (tgt := 506) (dT U_L_areRuns 308 rfl) (by decide) ?_
        have nlt : ∀ j, j < i + 1 → l114.getD j 0 = (mask.getD j 0 + c * secret.getD j 0) % (p : Int) := by
          intro j hj
          rw [el114]
          by_cases e : j = i
          · subst e; rw [gset_e (by rw [Fm_107.1]; omega)]
          · rw [gset_n e]; exact lt8_107 j (by omega)
        have nge : ∀ j, i + 1 ≤ j → l114.getD j 0 = mask.getD j 0 := by
          intro j hj
          rw [el114, gset_n (by omega)]
          exact ge_107 j (by omega)
        refine X_room (by omega) (by omega) (x_drop ?_ (ih (i + 1) (by omega) _ _ _ w114 v107 hlen_114 R2_st_107 R2_c_107 R2_fa_107 R2_w_107 R2_e_107 R2_v_107 R2_form_107 r2_107 r1_107 r0_107 p_107 L_107 h_secret_114 h_form_114 _ h_mask_114 F_l114 nlt nge))
        repeat (first | exact trivial | refine ⟨rfl, ?_⟩ | refine ⟨trivial, ?_⟩)
  refine X_room (by omega) (by omega) (x_drop ?_ (L107 8 0 (by omega) _ _ _ w106 v106 hlen_106 R2_st_106 R2_c_106 R2_fa_106 R2_w_106 R2_e_106 R2_v_106 R2_form_106 r2_106 r1_106 r0_106 p_106 L_106 h_secret_106 h_form_106 _ h_mask_106 Fl_mask (fun j hj => absurd hj (Nat.not_lt_zero j)) (fun j _ => rfl)))
  repeat (first | exact trivial | refine ⟨rfl, ?_⟩ | refine ⟨trivial, ?_⟩)

set_option maxRecDepth 20000 in
set_option maxHeartbeats 60000000 in
theorem cutR_2 {G : xG} {d rc rs : Nat} {ex : Bool} {h : xH} {Q : xQ} {σ : St} {p n0 : Nat} {f : Nat} {blind mb c dd y vv : Int} {a_secret : Nat} {a_form : Nat} {a_mask : Nat} {secret : List Int} {form : List Int} {mask : List Int} (hL : gL G < 100000) (hpr : p ∈ PR) (w : CW σ h) (v : INV σ) (hlen : 70 ≤ h.length) (f_R1_st : (σ.R 1).st = 4) (f_R1_t : (σ.R 1).t = (mb + dd * blind) % (p : Int)) (f_R1_answer : (σ.R 1).answer = tab (fun j => (mask.getD j 0 + dd * secret.getD j 0) % (p : Int)) 8) (f_R1_c : (σ.R 1).c = dd) (f_R1_fa : (σ.R 1).fa = cm p mask mb) (f_R1_w : (σ.R 1).w = inn form mask % (p : Int)) (f_R1_mb : (σ.R 1).mb = mb) (f_R1_mk : (σ.R 1).mk = true) (f_R1_mask : (σ.R 1).mask = mask) (f_R1_e : (σ.R 1).e = cm p secret blind) (f_R1_v : (σ.R 1).v = vv) (f_R1_form : (σ.R 1).form = form) (f_R0_st : (σ.R 0).st = 4) (f_R0_t : (σ.R 0).t = (mb + c * blind) % (p : Int)) (f_R0_answer : (σ.R 0).answer = tab (fun j => (mask.getD j 0 + c * secret.getD j 0) % (p : Int)) 8) (f_R0_c : (σ.R 0).c = c) (f_R0_fa : (σ.R 0).fa = cm p mask mb) (f_R0_w : (σ.R 0).w = inn form mask % (p : Int)) (f_R0_mb : (σ.R 0).mb = mb) (f_R0_mk : (σ.R 0).mk = true) (f_R0_mask : (σ.R 0).mask = mask) (f_R0_e : (σ.R 0).e = cm p secret blind) (f_R0_v : (σ.R 0).v = vv) (f_R0_form : (σ.R 0).form = form) (f_r2 : σ.rw 2 = form) (f_r1 : σ.rw 1 = mask) (f_r0 : σ.rw 0 = secret) (f_p : σ.p = p) (f_L : σ.L.n = n0) (h_secret : h[a_secret]? = some (cA 0 secret)) (g_secret : 70 ≤ a_secret) (Fl_secret : Fl (p : Int) secret) (h_form : h[a_form]? = some (cA 0 form)) (g_form : 70 ≤ a_form) (Fl_form : Fl (p : Int) form) (h_mask : h[a_mask]? = some (cA 0 mask)) (g_mask : 70 ≤ a_mask) (Fl_mask : Fl (p : Int) mask) (hf : f < 900) (b_blind : 0 ≤ blind ∧ blind < (p : Int)) (b_mb : 0 ≤ mb ∧ mb < (p : Int)) (b_c : 0 ≤ c ∧ c < (p : Int)) (b_dd : 0 ≤ dd ∧ dd < (p : Int)) (e_y : MM p (cm p secret blind) = y) (hz_y : xr y) (e_vv : inn form secret % (p : Int) = vv) (b_vv : 0 ≤ vv ∧ vv < (p : Int)) (ne_mask_secret : a_mask ≠ a_secret) (ne_mask_form : a_mask ≠ a_form) (ne_cd : c ≠ dd) (kk : ∀ (σ2 : St) (h2 : xH) (ex2 : Bool), CW σ2 h2 → INV σ2 → σ2.p = p → σ2.L.n = n0 → 70 ≤ h2.length → Q (.inl (some (vi 1))) ex2 h2) : X G m_L_areRuns (d + 10) (rc + 590) (rs + 4700) ex 377 [some (.ref 3), some (.ref 0), some (vi (f : Int)), some (vi (p : Int)), some (vi (gq p : Int)), some (.ref a_secret), some (.ref a_form), some (.ref a_mask), some (vi blind), some (vi mb), some (vi c), some (vi dd), some (vi y), some (vi vv), none, none] [] h Q := by
  have hp := PRb hpr
  have hq := gq_b hpr
  have hcS := cm_b (p := p) (l := secret) (b := blind) (by omega)
  have hcM := cm_b (p := p) (l := mask) (b := mb) (by omega)
  have m_cblind := mulg (a := c) (b := blind) (m := 23) (n := 23) (by omega) (by omega)
  have m_ddblind := mulg (a := dd) (b := blind) (m := 23) (n := 23) (by omega) (by omega)
  refine x_aload_n (dT U_L_areRuns 212 rfl) rfl ?_
  refine x_iconst (dT U_L_areRuns 213 rfl) ?_
  refine x_iconst (dT U_L_areRuns 214 rfl) ?_
  refine x_iload (dT U_L_areRuns 215 rfl) rfl ?_
  refine x_invokestaticT (rc' := rc + 586) (rs' := rs + 4676) (rc2 := 0 + 4) (rs2 := 0 + 24) (As := [_, _, _, _]) (st := _) M_L_fits K_L_276 (dT U_L_areRuns 216 rfl) rfl (by decide) rfl rfl (Nat.le_of_ble_eq_true rfl) rfl (by decide) (Nat.le_of_ble_eq_true rfl) (by first | rfl | omega) (by first | rfl | omega) ?_
  refine S_L_fits w v (by first | assumption | (unfold xr; omega)) (by first | assumption | (unfold xr; omega)) (by first | assumption | (unfold xr; omega)) (fun  z8 => absurd (show inb _ _ ∧ inb _ _ from by omega) z8) (fun _ z8 => absurd (show inb _ _ from by have := f_p; omega) z8) (fun _ _ z8 => absurd (show 1 ≤ (σ.R 0).st from by rw [f_R0_st]; decide) z8) (fun _ _ _ _ => ?_) (fun _ _ _ z8 => absurd ((by rw [f_p]; show suit p (σ.R 0) (σ.rw 0) blind; exact ⟨by rw [f_R0_st]; decide, by rw [f_R0_e, f_r0], by rw [f_R0_form, f_R0_v, f_r0]; exact e_vv⟩)) z8)
  refine xRet_some ?_
  refine x_lconst (z := 1) (dT U_L_areRuns 217 rfl) rfl ?_
  refine x_lif_ne (tgt := 416) (dT U_L_areRuns 218 rfl) (dT U_L_areRuns 219 rfl) (by decide) (xrl_of (by unfold xr; omega)) (xrl_of (by unfold xr; omega)) (fun c386 => ?_) (fun c386 => ?_)
  · exfalso
    omega
  · skip
    refine x_aload_n (dT U_L_areRuns 220 rfl) rfl ?_
    refine x_iconst (dT U_L_areRuns 221 rfl) ?_
    refine x_iconst (dT U_L_areRuns 222 rfl) ?_
    refine x_iload (dT U_L_areRuns 223 rfl) rfl ?_
    refine x_iconst (dT U_L_areRuns 224 rfl) ?_
    refine x_invokestaticT (rc' := rc + 581) (rs' := rs + 4646) (rc2 := 0 + 5) (rs2 := 0 + 30) (As := [_, _, _, _, _]) (st := _) M_L_maskFor K_L_278 (dT U_L_areRuns 225 rfl) rfl (by decide) rfl rfl (Nat.le_of_ble_eq_true rfl) rfl (by decide) (Nat.le_of_ble_eq_true rfl) (by first | rfl | omega) (by first | rfl | omega) ?_
    refine S_L_maskFor w v (by first | assumption | (unfold xr; omega)) (by first | assumption | (unfold xr; omega)) (by first | assumption | (unfold xr; omega)) (by first | assumption | (unfold xr; omega)) (fun  z8 => absurd (show inb _ _ ∧ inb _ _ ∧ inb _ _ from by omega) z8) (fun _ z8 => absurd (show inb _ _ from by have := f_p; omega) z8) (fun _ _ z8 => absurd ((show acc _ _ ∧ suit _ _ _ _ from ⟨(by rw [f_p]; exact acc_ok f_R0_st f_R0_e (f_R0_v.trans e_vv.symm) f_R0_form f_R0_fa f_R0_w f_R0_c f_R0_t f_R0_answer), (by rw [f_p]; show suit p (σ.R 0) (σ.rw 0) blind; exact ⟨by rw [f_R0_st]; decide, by rw [f_R0_e, f_r0], by rw [f_R0_form, f_R0_v, f_r0]; exact e_vv⟩)⟩)) z8) (fun _ _ _ z102 e102 hz102 h102 fc102 w_102 v_102 => ?_)
    refine xRet_some ?_
    have e102 : z102 = mb := by
      rw [e102]
      show ((σ.R 0).t - (σ.R 0).c * blind) % (σ.p : Int) = mb
      rw [f_R0_t, f_R0_c, f_p]
      exact unmask2 (by omega)
    obtain ⟨σ103, w103, v103, r3_103, R1_st_103, R1_t_103, R1_answer_103, R1_c_103, R1_fa_103, R1_w_103, R1_mb_103, R1_mk_103, R1_mask_103, R1_e_103, R1_v_103, R1_form_103, R0_st_103, R0_t_103, R0_answer_103, R0_c_103, R0_fa_103, R0_w_103, R0_mb_103, R0_mk_103, R0_mask_103, R0_e_103, R0_v_103, R0_form_103, r2_103, r1_103, r0_103, p_103, L_103⟩ : ∃ σ103 : St, CW σ103 h102 ∧ INV σ103 ∧ σ103.rw 3 = mask ∧ (σ103.R 1).st = 4 ∧ (σ103.R 1).t = (mb + dd * blind) % (p : Int) ∧ (σ103.R 1).answer = tab (fun j => (mask.getD j 0 + dd * secret.getD j 0) % (p : Int)) 8 ∧ (σ103.R 1).c = dd ∧ (σ103.R 1).fa = cm p mask mb ∧ (σ103.R 1).w = inn form mask % (p : Int) ∧ (σ103.R 1).mb = mb ∧ (σ103.R 1).mk = true ∧ (σ103.R 1).mask = mask ∧ (σ103.R 1).e = cm p secret blind ∧ (σ103.R 1).v = vv ∧ (σ103.R 1).form = form ∧ (σ103.R 0).st = 4 ∧ (σ103.R 0).t = (mb + c * blind) % (p : Int) ∧ (σ103.R 0).answer = tab (fun j => (mask.getD j 0 + c * secret.getD j 0) % (p : Int)) 8 ∧ (σ103.R 0).c = c ∧ (σ103.R 0).fa = cm p mask mb ∧ (σ103.R 0).w = inn form mask % (p : Int) ∧ (σ103.R 0).mb = mb ∧ (σ103.R 0).mk = true ∧ (σ103.R 0).mask = mask ∧ (σ103.R 0).e = cm p secret blind ∧ (σ103.R 0).v = vv ∧ (σ103.R 0).form = form ∧ σ103.rw 2 = form ∧ σ103.rw 1 = mask ∧ σ103.rw 0 = secret ∧ σ103.p = p ∧ σ103.L.n = n0 := ⟨_, w_102, v_102, (by show tab (fun t => ((σ.R 0).answer.getD t 0 + -(σ.R 0).c * (σ.rw 0).getD t 0) % (σ.p : Int)) 8 = _; rw [f_R0_answer, f_R0_c, f_r0, f_p]; exact unmask_ok Fl_mask), f_R1_st, f_R1_t, f_R1_answer, f_R1_c, f_R1_fa, f_R1_w, f_R1_mb, f_R1_mk, f_R1_mask, f_R1_e, f_R1_v, f_R1_form, f_R0_st, f_R0_t, f_R0_answer, f_R0_c, f_R0_fa, f_R0_w, f_R0_mb, f_R0_mk, f_R0_mask, f_R0_e, f_R0_v, f_R0_form, f_r2, f_r1, f_r0, f_p, f_L⟩
    have h_secret_103 : h102[a_secret]? = some (cA 0 secret) := (fc102).get h_secret (by omega)
    have h_form_103 : h102[a_form]? = some (cA 0 form) := (fc102).get h_form (by omega)
    have h_mask_103 : h102[a_mask]? = some (cA 0 mask) := (fc102).get h_mask (by omega)
    have hlen_103 : 70 ≤ h102.length := by rw [fc102.1]; exact hlen
    refine x_iload (dT U_L_areRuns 226 rfl) rfl ?_
    refine x_i2l (dT U_L_areRuns 227 rfl) (by unfold xr; omega) ?_
    refine x_lif_ne (tgt := 416) (dT U_L_areRuns 228 rfl) (dT U_L_areRuns 229 rfl) (by decide) (xrl_of hz102) (xrl_of (by unfold xr; omega)) (fun c402 => ?_) (fun c402 => ?_)
    · exfalso
      exact c402 e102
    · skip
      refine x_aload_n (dT U_L_areRuns 230 rfl) rfl ?_
      refine x_iconst (dT U_L_areRuns 231 rfl) ?_
      refine x_aload (dT U_L_areRuns 232 rfl) rfl ?_
      refine x_invokestatic (rc' := rc + 565) (rs' := rs + 4550) (rc2 := 0 + 16) (rs2 := 0 + 96) (As := [_, _, _]) (st := _) M_L_isRow K_L_280 (dT U_L_areRuns 233 rfl) rfl rfl rfl rfl (Nat.le_of_ble_eq_true rfl) rfl (by decide) (Nat.le_of_ble_eq_true rfl) (by first | rfl | omega) (by first | rfl | omega) ?_
      refine S_L_isRow w103 v103 (by omega) h_mask_103 (by omega) (by rw [p_103]; exact Fl_mask) (r3_103) ?_
      refine xRet_some ?_
      refine x_if_ne (tgt := 418) (dT U_L_areRuns 234 rfl) (by decide) (by unfold xr; omega) (fun c413 => ?_) (fun c413 => ?_)
      · skip
        refine x_aload_n (dT U_L_areRuns 237 rfl) rfl ?_
        refine x_iconst (dT U_L_areRuns 238 rfl) ?_
        refine x_iconst (dT U_L_areRuns 239 rfl) ?_
        refine x_iconst (dT U_L_areRuns 240 rfl) ?_
        refine x_invokestaticT (rc' := rc + 561) (rs' := rs + 4526) (rc2 := 0 + 4) (rs2 := 0 + 24) (As := [_, _, _, _]) (st := _) M_L_extract K_L_284 (dT U_L_areRuns 241 rfl) rfl (by decide) rfl rfl (Nat.le_of_ble_eq_true rfl) rfl (by decide) (Nat.le_of_ble_eq_true rfl) (by first | rfl | omega) (by first | rfl | omega) ?_
        refine S_L_extract w103 v103 (by first | assumption | (unfold xr; omega)) (by first | assumption | (unfold xr; omega)) (by first | assumption | (unfold xr; omega)) (fun  z8 => absurd (show inb _ _ ∧ inb _ _ ∧ inb _ _ from by omega) z8) (fun _ z8 => absurd ((show fork _ _ _ from ⟨(by rw [p_103]; exact acc_ok R0_st_103 R0_e_103 (R0_v_103.trans e_vv.symm) R0_form_103 R0_fa_103 R0_w_103 R0_c_103 R0_t_103 R0_answer_103), (by rw [p_103]; exact acc_ok R1_st_103 R1_e_103 (R1_v_103.trans e_vv.symm) R1_form_103 R1_fa_103 R1_w_103 R1_c_103 R1_t_103 R1_answer_103), R0_e_103.trans R1_e_103.symm, R0_v_103.trans R1_v_103.symm, R0_form_103.trans R1_form_103.symm, R0_fa_103.trans R1_fa_103.symm, R0_w_103.trans R1_w_103.symm, fun z => ne_cd (R0_c_103.symm.trans (z.trans R1_c_103))⟩)) z8) (fun _ _ z104 e104 hz104 h104 fc104 w_104 v_104 => ?_)
        refine xRet_some ?_
        have e104 : z104 = blind := by
          rw [e104]
          show (((σ103.R 0).t - (σ103.R 1).t) * (iv σ103.p (((σ103.R 0).c - (σ103.R 1).c) % (σ103.p : Int)).toNat : Int)) % (σ103.p : Int) = blind
          rw [R0_t_103, R0_c_103, R1_t_103, R1_c_103, p_103]
          exact extr1 hpr (by omega) (by omega) (by omega) ne_cd
        obtain ⟨σ105, w105, v105, r4_105, r3_105, R1_st_105, R1_t_105, R1_answer_105, R1_c_105, R1_fa_105, R1_w_105, R1_mb_105, R1_mk_105, R1_mask_105, R1_e_105, R1_v_105, R1_form_105, R0_st_105, R0_t_105, R0_answer_105, R0_c_105, R0_fa_105, R0_w_105, R0_mb_105, R0_mk_105, R0_mask_105, R0_e_105, R0_v_105, R0_form_105, r2_105, r1_105, r0_105, p_105, L_105⟩ : ∃ σ105 : St, CW σ105 h104 ∧ INV σ105 ∧ σ105.rw 4 = secret ∧ σ105.rw 3 = mask ∧ (σ105.R 1).st = 4 ∧ (σ105.R 1).t = (mb + dd * blind) % (p : Int) ∧ (σ105.R 1).answer = tab (fun j => (mask.getD j 0 + dd * secret.getD j 0) % (p : Int)) 8 ∧ (σ105.R 1).c = dd ∧ (σ105.R 1).fa = cm p mask mb ∧ (σ105.R 1).w = inn form mask % (p : Int) ∧ (σ105.R 1).mb = mb ∧ (σ105.R 1).mk = true ∧ (σ105.R 1).mask = mask ∧ (σ105.R 1).e = cm p secret blind ∧ (σ105.R 1).v = vv ∧ (σ105.R 1).form = form ∧ (σ105.R 0).st = 4 ∧ (σ105.R 0).t = (mb + c * blind) % (p : Int) ∧ (σ105.R 0).answer = tab (fun j => (mask.getD j 0 + c * secret.getD j 0) % (p : Int)) 8 ∧ (σ105.R 0).c = c ∧ (σ105.R 0).fa = cm p mask mb ∧ (σ105.R 0).w = inn form mask % (p : Int) ∧ (σ105.R 0).mb = mb ∧ (σ105.R 0).mk = true ∧ (σ105.R 0).mask = mask ∧ (σ105.R 0).e = cm p secret blind ∧ (σ105.R 0).v = vv ∧ (σ105.R 0).form = form ∧ σ105.rw 2 = form ∧ σ105.rw 1 = mask ∧ σ105.rw 0 = secret ∧ σ105.p = p ∧ σ105.L.n = n0 := ⟨_, w_104, v_104, (by show tab (fun t => ((((σ103.R 0).answer.getD t 0 - (σ103.R 1).answer.getD t 0) * (iv σ103.p (((σ103.R 0).c - (σ103.R 1).c) % (σ103.p : Int)).toNat : Int)) % (σ103.p : Int))) 8 = _; rw [R0_answer_103, R0_c_103, R1_answer_103, R1_c_103, p_103]; exact extr_ok hpr Fl_secret (by omega) (by omega) ne_cd), r3_103, R1_st_103, R1_t_103, R1_answer_103, R1_c_103, R1_fa_103, R1_w_103, R1_mb_103, R1_mk_103, R1_mask_103, R1_e_103, R1_v_103, R1_form_103, R0_st_103, R0_t_103, R0_answer_103, R0_c_103, R0_fa_103, R0_w_103, R0_mb_103, R0_mk_103, R0_mask_103, R0_e_103, R0_v_103, R0_form_103, r2_103, r1_103, r0_103, p_103, L_103⟩
        have h_secret_105 : h104[a_secret]? = some (cA 0 secret) := (fc104).get h_secret_103 (by omega)
        have h_form_105 : h104[a_form]? = some (cA 0 form) := (fc104).get h_form_103 (by omega)
        have h_mask_105 : h104[a_mask]? = some (cA 0 mask) := (fc104).get h_mask_103 (by omega)
        have hlen_105 : 70 ≤ h104.length := by rw [fc104.1]; exact hlen_103
        refine x_iload (dT U_L_areRuns 242 rfl) rfl ?_
        refine x_i2l (dT U_L_areRuns 243 rfl) (by unfold xr; omega) ?_
        refine x_lif_ne (tgt := 442) (dT U_L_areRuns 244 rfl) (dT U_L_areRuns 245 rfl) (by decide) (xrl_of hz104) (xrl_of (by unfold xr; omega)) (fun c428 => ?_) (fun c428 => ?_)
        · exfalso
          exact c428 e104
        · skip
          refine x_aload_n (dT U_L_areRuns 246 rfl) rfl ?_
          refine x_iconst (dT U_L_areRuns 247 rfl) ?_
          refine x_aload (dT U_L_areRuns 248 rfl) rfl ?_
          refine x_invokestatic (rc' := rc + 545) (rs' := rs + 4430) (rc2 := 0 + 16) (rs2 := 0 + 96) (As := [_, _, _]) (st := _) M_L_isRow K_L_280 (dT U_L_areRuns 249 rfl) rfl rfl rfl rfl (Nat.le_of_ble_eq_true rfl) rfl (by decide) (Nat.le_of_ble_eq_true rfl) (by first | rfl | omega) (by first | rfl | omega) ?_
          refine S_L_isRow w105 v105 (by omega) h_secret_105 (by omega) (by rw [p_105]; exact Fl_secret) (r4_105) ?_
          refine xRet_some ?_
          refine x_if_ne (tgt := 444) (dT U_L_areRuns 250 rfl) (by decide) (by unfold xr; omega) (fun c439 => ?_) (fun c439 => ?_)
          · skip
            refine x_aload_n (dT U_L_areRuns 253 rfl) rfl ?_
            refine x_iconst (dT U_L_areRuns 254 rfl) ?_
            refine x_iconst (dT U_L_areRuns 255 rfl) ?_
            refine x_iconst (dT U_L_areRuns 256 rfl) ?_
            refine x_invokestaticT (rc' := rc + 541) (rs' := rs + 4406) (rc2 := 0 + 4) (rs2 := 0 + 24) (As := [_, _, _, _]) (st := _) M_L_extract K_L_284 (dT U_L_areRuns 257 rfl) rfl (by decide) rfl rfl (Nat.le_of_ble_eq_true rfl) rfl (by decide) (Nat.le_of_ble_eq_true rfl) (by omega) (by omega) ?_
            refine S_L_extract w105 v105 (by unfold xr; omega) (by unfold xr; omega) (by unfold xr; omega) (fun z8 => absurd (show inb _ _ ∧ inb _ _ ∧ inb _ _ from by omega) z8) (fun _ _ => ?_) (fun _ z8 => absurd rfl z8.2.2.2.2.2.2.2)
            refine xRet_some ?_
            refine x_ldc2 C_L_43 (dT U_L_areRuns 258 rfl) ?_
            refine x_lif_eq (tgt := 460) (dT U_L_areRuns 259 rfl) (dT U_L_areRuns 260 rfl) (by decide) (show xrl _ by unfold xrl; omega) (show xrl _ by unfold xrl; omega) (fun c454 => ?_) (fun c454 => ?_)
            · skip
              refine X_room (by omega) (by omega) (x_drop ?_ (cutR_3 (rc := rc) (rs := rs) hL hpr w105 v105 hlen_105 r2_105 r1_105 r0_105 p_105 L_105 h_secret_105 (by omega) Fl_secret h_form_105 (by omega) Fl_form h_mask_105 (by omega) Fl_mask hf b_blind b_mb b_c b_dd e_y hz_y e_vv b_vv ne_mask_secret ne_mask_form kk))
              repeat (first | exact trivial | refine ⟨rfl, ?_⟩ | refine ⟨trivial, ?_⟩)
            · exfalso
              omega
          · exfalso
            omega
      · exfalso
        omega

set_option maxRecDepth 20000 in
set_option maxHeartbeats 60000000 in
theorem cutR_1 {G : xG} {d rc rs : Nat} {ex : Bool} {h : xH} {Q : xQ} {σ : St} {p n0 : Nat} {f : Nat} {blind mb c dd y vv : Int} {a_secret : Nat} {a_form : Nat} {a_mask : Nat} {secret : List Int} {form : List Int} {mask : List Int} (hL : gL G < 100000) (hpr : p ∈ PR) (w : CW σ h) (v : INV σ) (hlen : 70 ≤ h.length) (f_R0_st : (σ.R 0).st = 4) (f_R0_t : (σ.R 0).t = (mb + c * blind) % (p : Int)) (f_R0_answer : (σ.R 0).answer = tab (fun j => (mask.getD j 0 + c * secret.getD j 0) % (p : Int)) 8) (f_R0_c : (σ.R 0).c = c) (f_R0_fa : (σ.R 0).fa = cm p mask mb) (f_R0_w : (σ.R 0).w = inn form mask % (p : Int)) (f_R0_mb : (σ.R 0).mb = mb) (f_R0_mk : (σ.R 0).mk = true) (f_R0_mask : (σ.R 0).mask = mask) (f_R0_e : (σ.R 0).e = cm p secret blind) (f_R0_v : (σ.R 0).v = vv) (f_R0_form : (σ.R 0).form = form) (f_r2 : σ.rw 2 = form) (f_r1 : σ.rw 1 = mask) (f_r0 : σ.rw 0 = secret) (f_p : σ.p = p) (f_L : σ.L.n = n0) (h_secret : h[a_secret]? = some (cA 0 secret)) (g_secret : 70 ≤ a_secret) (Fl_secret : Fl (p : Int) secret) (h_form : h[a_form]? = some (cA 0 form)) (g_form : 70 ≤ a_form) (Fl_form : Fl (p : Int) form) (h_mask : h[a_mask]? = some (cA 0 mask)) (g_mask : 70 ≤ a_mask) (Fl_mask : Fl (p : Int) mask) (hf : f < 900) (b_blind : 0 ≤ blind ∧ blind < (p : Int)) (b_mb : 0 ≤ mb ∧ mb < (p : Int)) (b_c : 0 ≤ c ∧ c < (p : Int)) (b_dd : 0 ≤ dd ∧ dd < (p : Int)) (e_y : MM p (cm p secret blind) = y) (hz_y : xr y) (e_vv : inn form secret % (p : Int) = vv) (b_vv : 0 ≤ vv ∧ vv < (p : Int)) (ne_mask_secret : a_mask ≠ a_secret) (ne_mask_form : a_mask ≠ a_form) (ne_cd : c ≠ dd) (kk : ∀ (σ2 : St) (h2 : xH) (ex2 : Bool), CW σ2 h2 → INV σ2 → σ2.p = p → σ2.L.n = n0 → 70 ≤ h2.length → Q (.inl (some (vi 1))) ex2 h2) : X G m_L_areRuns (d + 10) (rc + 990) (rs + 7900) ex 161 [some (.ref 3), some (.ref 0), some (vi (f : Int)), some (vi (p : Int)), some (vi (gq p : Int)), some (.ref a_secret), some (.ref a_form), some (.ref a_mask), some (vi blind), some (vi mb), some (vi c), some (vi dd), some (vi y), some (vi vv), some (vi 1), none] [] h Q := by
  have hp := PRb hpr
  have hq := gq_b hpr
  have hcS := cm_b (p := p) (l := secret) (b := blind) (by omega)
  have hcM := cm_b (p := p) (l := mask) (b := mb) (by omega)
  have m_cblind := mulg (a := c) (b := blind) (m := 23) (n := 23) (by omega) (by omega)
  have m_ddblind := mulg (a := dd) (b := blind) (m := 23) (n := 23) (by omega) (by omega)
  refine x_iload (dT U_L_areRuns 96 rfl) rfl ?_
  refine x_iconst (dT U_L_areRuns 97 rfl) ?_
  refine x_icmp_ge (tgt := 377) (dT U_L_areRuns 98 rfl) (by decide) (by unfold xr; omega) (by unfold xr; omega) (fun c164 => ?_) (fun c164 => ?_)
  · exfalso
    omega
  · skip
    refine x_aload_n (dT U_L_areRuns 99 rfl) rfl ?_
    refine x_iload (dT U_L_areRuns 100 rfl) rfl ?_
    refine x_iload (dT U_L_areRuns 101 rfl) rfl ?_
    refine x_iconst (dT U_L_areRuns 102 rfl) ?_
    refine x_iload (dT U_L_areRuns 103 rfl) rfl ?_
    refine x_invokestaticT (rc' := rc + 986) (rs' := rs + 7876) (rc2 := 0 + 4) (rs2 := 0 + 24) (As := [_, _, _, _, _]) (st := _) M_L_state K_L_261 (dT U_L_areRuns 104 rfl) rfl (by decide) rfl rfl (Nat.le_of_ble_eq_true rfl) rfl (by decide) (Nat.le_of_ble_eq_true rfl) (by first | rfl | omega) (by first | rfl | omega) ?_
    refine S_L_state w v (by first | assumption | (unfold xr; omega)) (by first | assumption | (unfold xr; omega)) (by first | assumption | (unfold xr; omega)) (by first | assumption | (unfold xr; omega)) (fun  z8 => absurd (show inb _ _ ∧ inb _ _ from by omega) z8) (fun _ z8 => absurd (show _ ∧ inb _ _ from ⟨by rw [f_p, ← e_y, exI_MM hpr hcS]; omega, by have := f_p; omega⟩) z8) (fun _ _ z101 e101 hz101 h101 fc101 w_101 v_101 => ?_)
    refine xRet_some ?_
    have e101 : z101 = y := by
      exact e101
    obtain ⟨σ102, w102, v102, R1_st_102, R1_e_102, R1_v_102, R1_form_102, R0_st_102, R0_t_102, R0_answer_102, R0_c_102, R0_fa_102, R0_w_102, R0_mb_102, R0_mk_102, R0_mask_102, R0_e_102, R0_v_102, R0_form_102, r2_102, r1_102, r0_102, p_102, L_102⟩ : ∃ σ102 : St, CW σ102 h101 ∧ INV σ102 ∧ (σ102.R 1).st = 1 ∧ (σ102.R 1).e = cm p secret blind ∧ (σ102.R 1).v = vv ∧ (σ102.R 1).form = form ∧ (σ102.R 0).st = 4 ∧ (σ102.R 0).t = (mb + c * blind) % (p : Int) ∧ (σ102.R 0).answer = tab (fun j => (mask.getD j 0 + c * secret.getD j 0) % (p : Int)) 8 ∧ (σ102.R 0).c = c ∧ (σ102.R 0).fa = cm p mask mb ∧ (σ102.R 0).w = inn form mask % (p : Int) ∧ (σ102.R 0).mb = mb ∧ (σ102.R 0).mk = true ∧ (σ102.R 0).mask = mask ∧ (σ102.R 0).e = cm p secret blind ∧ (σ102.R 0).v = vv ∧ (σ102.R 0).form = form ∧ σ102.rw 2 = form ∧ σ102.rw 1 = mask ∧ σ102.rw 0 = secret ∧ σ102.p = p ∧ σ102.L.n = n0 := ⟨_, w_101, v_101, rfl, (by show exI σ.p y = _; rw [f_p, ← e_y, exI_MM hpr hcS]), rfl, f_r2, f_R0_st, f_R0_t, f_R0_answer, f_R0_c, f_R0_fa, f_R0_w, f_R0_mb, f_R0_mk, f_R0_mask, f_R0_e, f_R0_v, f_R0_form, f_r2, f_r1, f_r0, f_p, f_L⟩
    have h_secret_102 : h101[a_secret]? = some (cA 0 secret) := (fc101).get h_secret (by omega)
    have h_form_102 : h101[a_form]? = some (cA 0 form) := (fc101).get h_form (by omega)
    have h_mask_102 : h101[a_mask]? = some (cA 0 mask) := (fc101).get h_mask (by omega)
    have hlen_102 : 70 ≤ h101.length := by rw [fc101.1]; exact hlen
    refine x_iload (dT U_L_areRuns 105 rfl) rfl ?_
    refine x_i2l (dT U_L_areRuns 106 rfl) hz_y ?_
    refine x_lif_ne (tgt := 229) (dT U_L_areRuns 107 rfl) (dT U_L_areRuns 108 rfl) (by decide) (xrl_of hz101) (xrl_of hz_y) (fun c181 => ?_) (fun c181 => ?_)
    · exfalso
      exact c181 e101
    · skip
      refine x_aload_n (dT U_L_areRuns 109 rfl) rfl ?_
      refine x_iload (dT U_L_areRuns 110 rfl) rfl ?_
      refine x_iconst (dT U_L_areRuns 111 rfl) ?_
      refine x_iload (dT U_L_areRuns 112 rfl) rfl ?_
      refine x_invokestaticT (rc' := rc + 982) (rs' := rs + 7852) (rc2 := 0 + 4) (rs2 := 0 + 24) (As := [_, _, _, _]) (st := _) M_L_open K_L_263 (dT U_L_areRuns 113 rfl) rfl (by decide) rfl rfl (Nat.le_of_ble_eq_true rfl) rfl (by decide) (Nat.le_of_ble_eq_true rfl) (by first | rfl | omega) (by first | rfl | omega) ?_
      refine S_L_open w102 v102 (by first | assumption | (unfold xr; omega)) (by first | assumption | (unfold xr; omega)) (by first | assumption | (unfold xr; omega)) (fun  z8 => absurd (show inb _ _ ∧ inb _ _ from by omega) z8) (fun _ z8 => absurd (show inb _ _ from by have := p_102; omega) z8) (fun _ _ z8 => absurd (R1_st_102) z8) (fun _ _ _ z103 e103 hz103 h103 fc103 w_103 v_103 => ?_)
      refine xRet_some ?_
      have e103 : z103 = MM p (cm p mask mb) := by
        simp only [tn0, tn1, tn2, tn3, tn4, tn5, tn6, tn7, tn8, Int.toNat_natCast, p_102, r1_102] at e103; exact e103
      obtain ⟨σ104, w104, v104, R1_st_104, R1_fa_104, R1_w_104, R1_mb_104, R1_mk_104, R1_mask_104, R1_e_104, R1_v_104, R1_form_104, R0_st_104, R0_t_104, R0_answer_104, R0_c_104, R0_fa_104, R0_w_104, R0_mb_104, R0_mk_104, R0_mask_104, R0_e_104, R0_v_104, R0_form_104, r2_104, r1_104, r0_104, p_104, L_104⟩ : ∃ σ104 : St, CW σ104 h103 ∧ INV σ104 ∧ (σ104.R 1).st = 2 ∧ (σ104.R 1).fa = cm p mask mb ∧ (σ104.R 1).w = inn form mask % (p : Int) ∧ (σ104.R 1).mb = mb ∧ (σ104.R 1).mk = true ∧ (σ104.R 1).mask = mask ∧ (σ104.R 1).e = cm p secret blind ∧ (σ104.R 1).v = vv ∧ (σ104.R 1).form = form ∧ (σ104.R 0).st = 4 ∧ (σ104.R 0).t = (mb + c * blind) % (p : Int) ∧ (σ104.R 0).answer = tab (fun j => (mask.getD j 0 + c * secret.getD j 0) % (p : Int)) 8 ∧ (σ104.R 0).c = c ∧ (σ104.R 0).fa = cm p mask mb ∧ (σ104.R 0).w = inn form mask % (p : Int) ∧ (σ104.R 0).mb = mb ∧ (σ104.R 0).mk = true ∧ (σ104.R 0).mask = mask ∧ (σ104.R 0).e = cm p secret blind ∧ (σ104.R 0).v = vv ∧ (σ104.R 0).form = form ∧ σ104.rw 2 = form ∧ σ104.rw 1 = mask ∧ σ104.rw 0 = secret ∧ σ104.p = p ∧ σ104.L.n = n0 := ⟨_, w_103, v_103, rfl, (by show cm σ102.p (σ102.rw 1) _ = _; rw [p_102, r1_102]), (by show inn (σ102.R 1).form (σ102.rw 1) % (σ102.p : Int) = _; rw [R1_form_102, r1_102, p_102]), rfl, rfl, r1_102, R1_e_102, R1_v_102, R1_form_102, R0_st_102, R0_t_102, R0_answer_102, R0_c_102, R0_fa_102, R0_w_102, R0_mb_102, R0_mk_102, R0_mask_102, R0_e_102, R0_v_102, R0_form_102, r2_102, r1_102, r0_102, p_102, L_102⟩
      have h_secret_104 : h103[a_secret]? = some (cA 0 secret) := (fc103).get h_secret_102 (by omega)
      have h_form_104 : h103[a_form]? = some (cA 0 form) := (fc103).get h_form_102 (by omega)
      have h_mask_104 : h103[a_mask]? = some (cA 0 mask) := (fc103).get h_mask_102 (by omega)
      have hlen_104 : 70 ≤ h103.length := by rw [fc103.1]; exact hlen_102
      refine x_aload_n (dT U_L_areRuns 114 rfl) rfl ?_
      refine x_aload (dT U_L_areRuns 115 rfl) rfl ?_
      refine x_iload (dT U_L_areRuns 116 rfl) rfl ?_
      refine x_iload (dT U_L_areRuns 117 rfl) rfl ?_
      refine x_invokestatic (rc' := rc + 973) (rs' := rs + 7798) (rc2 := 0 + 9) (rs2 := 0 + 54) (As := [_, _, _, _]) (st := _) M_L_commits K_L_247 (dT U_L_areRuns 118 rfl) rfl rfl rfl rfl (Nat.le_of_ble_eq_true rfl) rfl (by decide) (Nat.le_of_ble_eq_true rfl) (by first | rfl | omega) (by first | rfl | omega) ?_
      refine S_L_commits w104 v104 p_104 h_mask_104 (by omega) Fl_mask (by omega) ?_
      refine xRet_some ?_
      refine x_i2l (dT U_L_areRuns 119 rfl) (xr_MM hpr) ?_
      refine x_lif_ne (tgt := 229) (dT U_L_areRuns 120 rfl) (dT U_L_areRuns 121 rfl) (by decide) (xrl_of hz103) (xrl_of (xr_MM hpr)) (fun c205 => ?_) (fun c205 => ?_)
      · exfalso
        exact c205 e103
      · skip
        refine x_aload_n (dT U_L_areRuns 122 rfl) rfl ?_
        refine x_iload (dT U_L_areRuns 123 rfl) rfl ?_
        refine x_iconst (dT U_L_areRuns 124 rfl) ?_
        refine x_invokestaticT (rc' := rc + 971) (rs' := rs + 7786) (rc2 := 0 + 2) (rs2 := 0 + 12) (As := [_, _, _]) (st := _) M_L_told K_L_265 (dT U_L_areRuns 125 rfl) rfl (by decide) rfl rfl (Nat.le_of_ble_eq_true rfl) rfl (by decide) (Nat.le_of_ble_eq_true rfl) (by first | rfl | omega) (by first | rfl | omega) ?_
        refine S_L_told w104 v104 (by first | assumption | (unfold xr; omega)) (by first | assumption | (unfold xr; omega)) (fun  z8 => absurd (show inb _ _ from by omega) z8) (fun _ z8 => absurd (show inb _ _ from by omega) z8) (fun _ _ z105 e105 hz105 => ?_)
        refine xRet_some ?_
        have e105 : z105 = inn form mask % (p : Int) := by
          rw [e105, if_neg (by decide)]
          show (if 2 ≤ (σ104.R 1).st then (σ104.R 1).w else -1) = _
          rw [if_pos (by rw [R1_st_104]; decide), R1_w_104]
        refine x_aload (dT U_L_areRuns 126 rfl) rfl ?_
        refine x_aload (dT U_L_areRuns 127 rfl) rfl ?_
        refine x_iload_n (dT U_L_areRuns 128 rfl) rfl ?_
        refine x_invokestatic (rc' := rc + 971) (rs' := rs + 7786) (rc2 := 0 + 0) (rs2 := 0 + 0) (As := [_, _, _]) (st := _) M_L_inner K_L_257 (dT U_L_areRuns 129 rfl) rfl rfl rfl rfl (Nat.le_of_ble_eq_true rfl) rfl (by decide) (Nat.le_of_ble_eq_true rfl) (by first | rfl | omega) (by first | rfl | omega) ?_
        refine S_L_inner (by omega) h_form_104 (by omega) Fl_form h_mask_104 (by omega) Fl_mask ?_
        refine xRet_some ?_
        refine x_i2l (dT U_L_areRuns 130 rfl) (xr_md ⟨by omega, by omega⟩) ?_
        refine x_lif_eq (tgt := 231) (dT U_L_areRuns 131 rfl) (dT U_L_areRuns 132 rfl) (by decide) (xrl_of hz105) (xrl_of (xr_md ⟨by omega, by omega⟩)) (fun c225 => ?_) (fun c225 => ?_)
        · skip
          refine x_aload_n (dT U_L_areRuns 135 rfl) rfl ?_
          refine x_iload (dT U_L_areRuns 136 rfl) rfl ?_
          refine x_iload (dT U_L_areRuns 137 rfl) rfl ?_
          refine x_if_ne (tgt := 244) (dT U_L_areRuns 138 rfl) (by decide) (by unfold xr; omega) (fun c236 => ?_) (fun c236 => ?_)
          · skip
            refine x_iload (dT U_L_areRuns 141 rfl) rfl ?_
            refine x_invokestaticT (rc' := rc + 968) (rs' := rs + 7768) (rc2 := 0 + 3) (rs2 := 0 + 18) (As := [_, _, _]) (st := _) M_L_dare K_L_267 (dT U_L_areRuns 142 rfl) rfl (by decide) rfl rfl (Nat.le_of_ble_eq_true rfl) rfl (by decide) (Nat.le_of_ble_eq_true rfl) (by first | rfl | omega) (by first | rfl | omega) ?_
            refine S_L_dare w104 v104 (by first | assumption | (unfold xr; omega)) (by first | assumption | (unfold xr; omega)) (fun  z8 => absurd (show inb _ _ from by omega) z8) (fun _ z8 => absurd (show inb _ _ from by have := p_104; omega) z8) (fun _ _ z8 => absurd (R1_st_104) z8) (fun _ _ _ z106 e106 hz106 h106 fc106 w_106 v_106 => ?_)
            refine xRet_some ?_
            have e106 : z106 = dd := by
              exact e106
            obtain ⟨σ107, w107, v107, R1_st_107, R1_c_107, R1_fa_107, R1_w_107, R1_mb_107, R1_mk_107, R1_mask_107, R1_e_107, R1_v_107, R1_form_107, R0_st_107, R0_t_107, R0_answer_107, R0_c_107, R0_fa_107, R0_w_107, R0_mb_107, R0_mk_107, R0_mask_107, R0_e_107, R0_v_107, R0_form_107, r2_107, r1_107, r0_107, p_107, L_107⟩ : ∃ σ107 : St, CW σ107 h106 ∧ INV σ107 ∧ (σ107.R 1).st = 3 ∧ (σ107.R 1).c = dd ∧ (σ107.R 1).fa = cm p mask mb ∧ (σ107.R 1).w = inn form mask % (p : Int) ∧ (σ107.R 1).mb = mb ∧ (σ107.R 1).mk = true ∧ (σ107.R 1).mask = mask ∧ (σ107.R 1).e = cm p secret blind ∧ (σ107.R 1).v = vv ∧ (σ107.R 1).form = form ∧ (σ107.R 0).st = 4 ∧ (σ107.R 0).t = (mb + c * blind) % (p : Int) ∧ (σ107.R 0).answer = tab (fun j => (mask.getD j 0 + c * secret.getD j 0) % (p : Int)) 8 ∧ (σ107.R 0).c = c ∧ (σ107.R 0).fa = cm p mask mb ∧ (σ107.R 0).w = inn form mask % (p : Int) ∧ (σ107.R 0).mb = mb ∧ (σ107.R 0).mk = true ∧ (σ107.R 0).mask = mask ∧ (σ107.R 0).e = cm p secret blind ∧ (σ107.R 0).v = vv ∧ (σ107.R 0).form = form ∧ σ107.rw 2 = form ∧ σ107.rw 1 = mask ∧ σ107.rw 0 = secret ∧ σ107.p = p ∧ σ107.L.n = n0 := ⟨_, w_106, v_106, rfl, rfl, R1_fa_104, R1_w_104, R1_mb_104, R1_mk_104, R1_mask_104, R1_e_104, R1_v_104, R1_form_104, R0_st_104, R0_t_104, R0_answer_104, R0_c_104, R0_fa_104, R0_w_104, R0_mb_104, R0_mk_104, R0_mask_104, R0_e_104, R0_v_104, R0_form_104, r2_104, r1_104, r0_104, p_104, L_104⟩
            have h_secret_107 : h106[a_secret]? = some (cA 0 secret) := (fc106).get h_secret_104 (by omega)
            have h_form_107 : h106[a_form]? = some (cA 0 form) := (fc106).get h_form_104 (by omega)
            have h_mask_107 : h106[a_mask]? = some (cA 0 mask) := (fc106).get h_mask_104 (by omega)
            have hlen_107 : 70 ≤ h106.length := by rw [fc106.1]; exact hlen_104
            refine x_iload (dT U_L_areRuns 143 rfl) rfl ?_
            refine x_if_ne (tgt := 259) (dT U_L_areRuns 144 rfl) (by decide) (by unfold xr; omega) (fun c251 => ?_) (fun c251 => ?_)
            · skip
              refine x_iload (dT U_L_areRuns 147 rfl) rfl ?_
              refine x_i2l (dT U_L_areRuns 148 rfl) (by unfold xr; omega) ?_
              refine x_lif_ne (tgt := 311) (dT U_L_areRuns 149 rfl) (dT U_L_areRuns 150 rfl) (by decide) (xrl_of hz106) (xrl_of (by unfold xr; omega)) (fun c262 => ?_) (fun c262 => ?_)
              · exfalso
                exact c262 e106
              · skip
                refine x_aload_n (dT U_L_areRuns 151 rfl) rfl ?_
                refine x_iload (dT U_L_areRuns 152 rfl) rfl ?_
                refine x_iconst (dT U_L_areRuns 153 rfl) ?_
                refine x_iload (dT U_L_areRuns 154 rfl) rfl ?_
                refine x_invokestaticT (rc' := rc + 963) (rs' := rs + 7738) (rc2 := 0 + 5) (rs2 := 0 + 30) (As := [_, _, _, _]) (st := _) M_L_reply K_L_269 (dT U_L_areRuns 155 rfl) rfl (by decide) rfl rfl (Nat.le_of_ble_eq_true rfl) rfl (by decide) (Nat.le_of_ble_eq_true rfl) (by first | rfl | omega) (by first | rfl | omega) ?_
                refine S_L_reply w107 v107 (by first | assumption | (unfold xr; omega)) (by first | assumption | (unfold xr; omega)) (by first | assumption | (unfold xr; omega)) (fun  z8 => absurd (show inb _ _ ∧ inb _ _ from by omega) z8) (fun _ z8 => absurd (show inb _ _ from by have := p_107; omega) z8) (fun _ _ z8 => absurd (⟨R1_mk_107, R1_st_107⟩) z8) (fun _ _ _ z108 e108 hz108 h108 fc108 w_108 v_108 => ?_)
                refine xRet_some ?_
                have e108 : z108 = (mb + dd * blind) % (p : Int) := by
                  simp only [tn0, tn1, tn2, tn3, tn4, tn5, tn6, tn7, tn8, Int.toNat_natCast, p_107, R1_mb_107, R1_c_107] at e108; exact e108
                obtain ⟨σ109, w109, v109, R1_st_109, R1_t_109, R1_answer_109, R1_c_109, R1_fa_109, R1_w_109, R1_mb_109, R1_mk_109, R1_mask_109, R1_e_109, R1_v_109, R1_form_109, R0_st_109, R0_t_109, R0_answer_109, R0_c_109, R0_fa_109, R0_w_109, R0_mb_109, R0_mk_109, R0_mask_109, R0_e_109, R0_v_109, R0_form_109, r2_109, r1_109, r0_109, p_109, L_109⟩ : ∃ σ109 : St, CW σ109 h108 ∧ INV σ109 ∧ (σ109.R 1).st = 4 ∧ (σ109.R 1).t = (mb + dd * blind) % (p : Int) ∧ (σ109.R 1).answer = tab (fun j => (mask.getD j 0 + dd * secret.getD j 0) % (p : Int)) 8 ∧ (σ109.R 1).c = dd ∧ (σ109.R 1).fa = cm p mask mb ∧ (σ109.R 1).w = inn form mask % (p : Int) ∧ (σ109.R 1).mb = mb ∧ (σ109.R 1).mk = true ∧ (σ109.R 1).mask = mask ∧ (σ109.R 1).e = cm p secret blind ∧ (σ109.R 1).v = vv ∧ (σ109.R 1).form = form ∧ (σ109.R 0).st = 4 ∧ (σ109.R 0).t = (mb + c * blind) % (p : Int) ∧ (σ109.R 0).answer = tab (fun j => (mask.getD j 0 + c * secret.getD j 0) % (p : Int)) 8 ∧ (σ109.R 0).c = c ∧ (σ109.R 0).fa = cm p mask mb ∧ (σ109.R 0).w = inn form mask % (p : Int) ∧ (σ109.R 0).mb = mb ∧ (σ109.R 0).mk = true ∧ (σ109.R 0).mask = mask ∧ (σ109.R 0).e = cm p secret blind ∧ (σ109.R 0).v = vv ∧ (σ109.R 0).form = form ∧ σ109.rw 2 = form ∧ σ109.rw 1 = mask ∧ σ109.rw 0 = secret ∧ σ109.p = p ∧ σ109.L.n = n0 := ⟨_, w_108, v_108, rfl, (by show ((σ107.R 1).mb + (σ107.R 1).c * _) % (σ107.p : Int) = _; rw [R1_mb_107, R1_c_107, p_107]), (by show tab (fun j => ((σ107.R 1).mask.getD j 0 + (σ107.R 1).c * (σ107.rw 0).getD j 0) % (σ107.p : Int)) 8 = _; rw [R1_mask_107, R1_c_107, r0_107, p_107]), R1_c_107, R1_fa_107, R1_w_107, R1_mb_107, R1_mk_107, R1_mask_107, R1_e_107, R1_v_107, R1_form_107, R0_st_107, R0_t_107, R0_answer_107, R0_c_107, R0_fa_107, R0_w_107, R0_mb_107, R0_mk_107, R0_mask_107, R0_e_107, R0_v_107, R0_form_107, r2_107, r1_107, r0_107, p_107, L_107⟩
                have h_secret_109 : h108[a_secret]? = some (cA 0 secret) := (fc108).get h_secret_107 (by omega)
                have h_form_109 : h108[a_form]? = some (cA 0 form) := (fc108).get h_form_107 (by omega)
                have h_mask_109 : h108[a_mask]? = some (cA 0 mask) := (fc108).get h_mask_107 (by omega)
                have hlen_109 : 70 ≤ h108.length := by rw [fc108.1]; exact hlen_107
                refine x_iload (dT U_L_areRuns 156 rfl) rfl ?_
                refine x_iload (dT U_L_areRuns 157 rfl) rfl ?_
                refine x_if_ne (tgt := 287) (dT U_L_areRuns 158 rfl) (by decide) (by unfold xr; omega) (fun c279 => ?_) (fun c279 => ?_)
                · skip
                  refine x_iload (dT U_L_areRuns 161 rfl) rfl ?_
                  refine x_iload (dT U_L_areRuns 162 rfl) rfl ?_
                  refine x_imul (dT U_L_areRuns 163 rfl) ?_
                  refine x_iadd (dT U_L_areRuns 164 rfl) ?_
                  refine x_iload_n (dT U_L_areRuns 165 rfl) rfl ?_
                  refine x_irem (dT U_L_areRuns 166 rfl) (by unfold xr; omega) (by unfold xr; omega) (by omega) ?_
                  rw [Int.tmod_eq_emod_of_nonneg (by omega)]
                  refine x_i2l (dT U_L_areRuns 167 rfl) (xr_md ⟨by omega, by omega⟩) ?_
                  refine x_lif_ne (tgt := 311) (dT U_L_areRuns 168 rfl) (dT U_L_areRuns 169 rfl) (by decide) (xrl_of hz108) (xrl_of (xr_md ⟨by omega, by omega⟩)) (fun c296 => ?_) (fun c296 => ?_)
                  · exfalso
                    exact c296 e108
                  · skip
                    refine x_aload_n (dT U_L_areRuns 170 rfl) rfl ?_
                    refine x_iload (dT U_L_areRuns 171 rfl) rfl ?_
                    refine x_invokestaticT (rc' := rc + 962) (rs' := rs + 7732) (rc2 := 0 + 1) (rs2 := 0 + 6) (As := [_, _]) (st := _) M_L_isAccepted K_L_271 (dT U_L_areRuns 172 rfl) rfl (by decide) rfl rfl (Nat.le_of_ble_eq_true rfl) rfl (by decide) (Nat.le_of_ble_eq_true rfl) (by first | rfl | omega) (by first | rfl | omega) ?_
                    refine S_L_isAccepted w109 v109 (by first | assumption | (unfold xr; omega)) (fun  z8 => absurd (show inb _ _ from by omega) z8) (fun _ _ => ?_) (fun _ z8 => absurd ((by rw [p_109]; exact acc_ok R1_st_109 R1_e_109 (R1_v_109.trans e_vv.symm) R1_form_109 R1_fa_109 R1_w_109 R1_c_109 R1_t_109 R1_answer_109)) z8)
                    refine xRet_some ?_
                    refine x_lconst (z := 1) (dT U_L_areRuns 173 rfl) rfl ?_
                    refine x_lif_eq (tgt := 313) (dT U_L_areRuns 174 rfl) (dT U_L_areRuns 175 rfl) (by decide) (xrl_of (by unfold xr; omega)) (xrl_of (by unfold xr; omega)) (fun c307 => ?_) (fun c307 => ?_)
                    · skip
                      refine x_iconst (dT U_L_areRuns 178 rfl) ?_
                      refine x_istore (ls' := [some (.ref _), some (.ref _), some (vi _), some (vi _), some (vi _), some (.ref _), some (.ref _), some (.ref _), some (vi _), some (vi _), some (vi _), some (vi _), some (vi _), some (vi _), some (vi _), some (vi _)]) (dT U_L_areRuns 179 rfl) (by decide) rfl ?_
                      have L111 : ∀ (n9 i : Nat), i + n9 = 8 → ∀ (h111 : xH) (ex111 : Bool) (σ111 : St), CW σ111 h111 → INV σ111 → 70 ≤ h111.length → (σ111.R 1).st = 4 → (σ111.R 1).t = (mb + dd * blind) % (p : Int) → (σ111.R 1).answer = tab (fun j => (mask.getD j 0 + dd * secret.getD j 0) % (p : Int)) 8 → (σ111.R 1).c = dd → (σ111.R 1).fa = cm p mask mb → (σ111.R 1).w = inn form mask % (p : Int) → (σ111.R 1).mb = mb → (σ111.R 1).mk = true → (σ111.R 1).mask = mask → (σ111.R 1).e = cm p secret blind → (σ111.R 1).v = vv → (σ111.R 1).form = form → (σ111.R 0).st = 4 → (σ111.R 0).t = (mb + c * blind) % (p : Int) → (σ111.R 0).answer = tab (fun j => (mask.getD j 0 + c * secret.getD j 0) % (p : Int)) 8 → (σ111.R 0).c = c → (σ111.R 0).fa = cm p mask mb → (σ111.R 0).w = inn form mask % (p : Int) → (σ111.R 0).mb = mb → (σ111.R 0).mk = true → (σ111.R 0).mask = mask → (σ111.R 0).e = cm p secret blind → (σ111.R 0).v = vv → (σ111.R 0).form = form → σ111.rw 2 = form → σ111.rw 1 = mask → σ111.rw 0 = secret → σ111.p = p → σ111.L.n = n0 → h111[a_secret]? = some (cA 0 secret) → h111[a_form]? = some (cA 0 form) → h111[a_mask]? = some (cA 0 mask) → X G m_L_areRuns (d + 10) (rc + 600 + 6 * n9) (rs + 4800 + 36 * n9) ex111 316 [some (.ref 3), some (.ref 0), some (vi (f : Int)), some (vi (p : Int)), some (vi (gq p : Int)), some (.ref a_secret), some (.ref a_form), some (.ref a_mask), some (vi blind), some (vi mb), some (vi c), some (vi dd), some (vi y), some (vi vv), some (vi 1), some (vi (i : Int))] [] h111 Q := by
                        intro n9
                        induction n9 with
                        | zero =>
                          intro i hi9 h111 ex111 σ111 w111 v111 hlen_111 R1_st_111 R1_t_111 R1_answer_111 R1_c_111 R1_fa_111 R1_w_111 R1_mb_111 R1_mk_111 R1_mask_111 R1_e_111 R1_v_111 R1_form_111 R0_st_111 R0_t_111 R0_answer_111 R0_c_111 R0_fa_111 R0_w_111 R0_mb_111 R0_mk_111 R0_mask_111 R0_e_111 R0_v_111 R0_form_111 r2_111 r1_111 r0_111 p_111 L_111 h_secret_111 h_form_111 h_mask_111
                          refine x_iload (dT U_L_areRuns 180 rfl) rfl ?_
                          refine x_bipush (dT U_L_areRuns 181 rfl) (by decide) ?_
                          refine x_icmp_ge (tgt := 371) (dT U_L_areRuns 182 rfl) (by decide) (by first | assumption | (unfold xr; omega)) (by unfold xr; omega) (fun c320 => ?_) (fun c320 => ?_)
                          · skip
                            refine x_iinc (ls' := [some (.ref _), some (.ref _), some (vi _), some (vi _), some (vi _), some (.ref _), some (.ref _), some (.ref _), some (vi _), some (vi _), some (vi _), some (vi _), some (vi _), some (vi _), some (vi _), some (vi _)]) (dT U_L_areRuns 210 rfl) (by decide) rfl rfl ?_
                            rw [show ((1 : Int) + 1) = 2 from rfl]
                            refine x_goto (tgt := 161) (dT U_L_areRuns 211 rfl) (by decide) ?_
                            refine x_iload (dT U_L_areRuns 96 rfl) rfl ?_
                            refine x_iconst (dT U_L_areRuns 97 rfl) ?_
                            refine x_icmp_ge (tgt := 377) (dT U_L_areRuns 98 rfl) (by decide) (by unfold xr; omega) (by unfold xr; omega) (fun c164 => ?_) (fun c164 => ?_)
                            · skip
                              refine X_room (by omega) (by omega) (x_drop ?_ (cutR_2 (rc := rc) (rs := rs) hL hpr w111 v111 hlen_111 R1_st_111 R1_t_111 R1_answer_111 R1_c_111 R1_fa_111 R1_w_111 R1_mb_111 R1_mk_111 R1_mask_111 R1_e_111 R1_v_111 R1_form_111 R0_st_111 R0_t_111 R0_answer_111 R0_c_111 R0_fa_111 R0_w_111 R0_mb_111 R0_mk_111 R0_mask_111 R0_e_111 R0_v_111 R0_form_111 r2_111 r1_111 r0_111 p_111 L_111 h_secret_111 (by omega) Fl_secret h_form_111 (by omega) Fl_form h_mask_111 (by omega) Fl_mask hf b_blind b_mb b_c b_dd e_y hz_y e_vv b_vv ne_mask_secret ne_mask_form ne_cd kk))
                              repeat (first | exact trivial | refine ⟨rfl, ?_⟩ | refine ⟨trivial, ?_⟩)
                            · exfalso
                              omega
                          · exfalso
                            omega
                        | succ n9 ih =>
                          intro i hi9 h111 ex111 σ111 w111 v111 hlen_111 R1_st_111 R1_t_111 R1_answer_111 R1_c_111 R1_fa_111 R1_w_111 R1_mb_111 R1_mk_111 R1_mask_111 R1_e_111 R1_v_111 R1_form_111 R0_st_111 R0_t_111 R0_answer_111 R0_c_111 R0_fa_111 R0_w_111 R0_mb_111 R0_mk_111 R0_mask_111 R0_e_111 R0_v_111 R0_form_111 r2_111 r1_111 r0_111 p_111 L_111 h_secret_111 h_form_111 h_mask_111
                          refine x_iload (dT U_L_areRuns 180 rfl) rfl ?_
                          refine x_bipush (dT U_L_areRuns 181 rfl) (by decide) ?_
                          refine x_icmp_ge (tgt := 371) (dT U_L_areRuns 182 rfl) (by decide) (by first | assumption | (unfold xr; omega)) (by unfold xr; omega) (fun c320 => ?_) (fun c320 => ?_)
                          · exfalso
                            omega
                          · skip
                            refine x_aload_n (dT U_L_areRuns 183 rfl) rfl ?_
                            refine x_iload (dT U_L_areRuns 184 rfl) rfl ?_
                            refine x_iload (dT U_L_areRuns 185 rfl) rfl ?_
                            refine x_iconst (dT U_L_areRuns 186 rfl) ?_
                            refine x_invokestaticT (rc' := rc + 600 + 6 * n9 + 2) (rs' := rs + 4800 + 36 * n9 + 12) (rc2 := 0 + 4) (rs2 := 0 + 24) (As := [_, _, _, _]) (st := _) M_L_form K_L_273 (dT U_L_areRuns 187 rfl) rfl (by decide) rfl rfl (Nat.le_of_ble_eq_true rfl) rfl (by decide) (Nat.le_of_ble_eq_true rfl) (by first | rfl | omega) (by first | rfl | omega) ?_
                            refine S_L_form w111 v111 (by first | assumption | (unfold xr; omega)) (by first | assumption | (unfold xr; omega)) (Or.inr rfl) (fun  z8 => absurd (show inb _ _ ∧ inb _ _ from by omega) z8) (fun _ z8 => absurd (show 1 ≤ (σ111.R 1).st ∧ ((1 : Int) = 1 → 4 ≤ (σ111.R 1).st) from ⟨by rw [R1_st_111]; decide, fun _ => by rw [R1_st_111]; decide⟩) z8) (fun _ _ z112 e112 hz112 => ?_)
                            refine xRet_some ?_
                            have e112 : z112 = (mask.getD i 0 + dd * secret.getD i 0) % (p : Int) := by
                              rw [if_pos rfl] at e112
                              rw [e112]
                              show (σ111.R 1).answer.getD i 0 = _
                              rw [R1_answer_111, tab_get _ (by omega)]
                            have m_i := mulg (a := dd) (b := secret.getD i 0) (m := 23) (n := 23) (by omega) (by have := Fl_secret.2 i; omega)
                            have m_j := Fl_mask.2 i
                            refine x_aload (dT U_L_areRuns 188 rfl) rfl ?_
                            refine x_iload (dT U_L_areRuns 189 rfl) rfl ?_
                            refine x_iaload (i) (dT U_L_areRuns 190 rfl) h_mask_111 (by omega) rfl (by have := (Fl_mask).1; omega) (by have := (Fl_mask).1; omega) ?_
                            refine x_iload (dT U_L_areRuns 191 rfl) rfl ?_
                            refine x_if_ne (tgt := 347) (dT U_L_areRuns 192 rfl) (by decide) (by unfold xr; omega) (fun c339 => ?_) (fun c339 => ?_)
                            · skip
                              refine x_iload (dT U_L_areRuns 195 rfl) rfl ?_
                              refine x_aload (dT U_L_areRuns 196 rfl) rfl ?_
                              refine x_iload (dT U_L_areRuns 197 rfl) rfl ?_
                              refine x_iaload (i) (dT U_L_areRuns 198 rfl) h_secret_111 (by omega) rfl (by have := (Fl_secret).1; omega) (by have := (Fl_secret).1; omega) ?_
                              refine x_imul (dT U_L_areRuns 199 rfl) ?_
                              refine x_iadd (dT U_L_areRuns 200 rfl) ?_
                              refine x_iload_n (dT U_L_areRuns 201 rfl) rfl ?_
                              refine x_irem (dT U_L_areRuns 202 rfl) (by unfold xr; omega) (by unfold xr; omega) (by omega) ?_
                              rw [Int.tmod_eq_emod_of_nonneg (by omega)]
                              refine x_i2l (dT U_L_areRuns 203 rfl) (xr_md ⟨by omega, by omega⟩) ?_
                              refine x_lif_eq (tgt := 365) (dT U_L_areRuns 204 rfl) (dT U_L_areRuns 205 rfl) (by decide) (xrl_of hz112) (xrl_of (xr_md ⟨by omega, by omega⟩)) (fun c359 => ?_) (fun c359 => ?_)
                              · skip
                                refine x_iinc (ls' := [some (.ref _), some (.ref _), some (vi _), some (vi _), some (vi _), some (.ref _), some (.ref _), some (.ref _), some (vi _), some (vi _), some (vi _), some (vi _), some (vi _), some (vi _), some (vi _), some (vi _)]) (dT U_L_areRuns 208 rfl) (by decide) rfl rfl ?_
                                refine x_goto (tgt := 316) (dT U_L_areRuns 209 rfl) (by decide) ?_
                                
                                refine X_room (by omega) (by omega) (x_drop ?_ (ih (i + 1) (by omega) _ _ _ w111 v111 hlen_111 R1_st_111 R1_t_111 R1_answer_111 R1_c_111 R1_fa_111 R1_w_111 R1_mb_111 R1_mk_111 R1_mask_111 R1_e_111 R1_v_111 R1_form_111 R0_st_111 R0_t_111 R0_answer_111 R0_c_111 R0_fa_111 R0_w_111 R0_mb_111 R0_mk_111 R0_mask_111 R0_e_111 R0_v_111 R0_form_111 r2_111 r1_111 r0_111 p_111 L_111 h_secret_111 h_form_111 h_mask_111))
                                repeat (first | exact trivial | refine ⟨rfl, ?_⟩ | refine ⟨trivial, ?_⟩)
                              · exfalso
                                exact c359 e112
                            · exfalso
                              omega
                      refine X_room (by omega) (by omega) (x_drop ?_ (L111 8 0 (by omega) _ _ _ w109 v109 hlen_109 R1_st_109 R1_t_109 R1_answer_109 R1_c_109 R1_fa_109 R1_w_109 R1_mb_109 R1_mk_109 R1_mask_109 R1_e_109 R1_v_109 R1_form_109 R0_st_109 R0_t_109 R0_answer_109 R0_c_109 R0_fa_109 R0_w_109 R0_mb_109 R0_mk_109 R0_mask_109 R0_e_109 R0_v_109 R0_form_109 r2_109 r1_109 r0_109 p_109 L_109 h_secret_109 h_form_109 h_mask_109))
                      repeat (first | exact trivial | refine ⟨rfl, ?_⟩ | refine ⟨trivial, ?_⟩)
                    · exfalso
                      omega
                · exfalso
                  omega
            · exfalso
              omega
          · exfalso
            omega
        · exfalso
          exact c225 e105

set_option maxRecDepth 20000 in
set_option maxHeartbeats 60000000 in
theorem S_L_areRuns {G : xG} {d rc rs : Nat} {ex : Bool} {h : xH} {Q : xQ} {σ : St} {p n0 : Nat} {f : Nat} (hL : gL G < 100000) (w : CW σ h) (v : INV σ) (hpp : σ.p = p) (hn0 : σ.L.n = n0) (hlen : 70 ≤ h.length) (hf : f < 900) (kk : ∀ (σ2 : St) (h2 : xH) (ex2 : Bool), CW σ2 h2 → INV σ2 → σ2.p = p → σ2.L.n = n0 → 70 ≤ h2.length → Q (.inl (some (vi 1))) ex2 h2) : X G m_L_areRuns (d + 10) (rc + 1300) (rs + 10400) ex 0 (xe m_L_areRuns.2.2.1 [.ref 3, .ref 0, vi (f : Int), vi (p : Int), vi (gq p : Int)]) [] h Q := by
  show X G m_L_areRuns _ _ _ _ 0 [some (.ref 3), some (.ref 0), some (vi (f : Int)), some (vi (p : Int)), some (vi (gq p : Int)), none, none, none, none, none, none, none, none, none, none, none] [] h Q
  have hpr : p ∈ PR := hpp ▸ v.p
  have hp := PRb hpr
  have hq := gq_b hpr
  refine x_aload_n (dT U_L_areRuns 0 rfl) rfl ?_
  refine x_iload_n (dT U_L_areRuns 1 rfl) rfl ?_
  refine x_iload_n (dT U_L_areRuns 2 rfl) rfl ?_
  refine x_bipush (dT U_L_areRuns 3 rfl) (by decide) ?_
  refine x_invokestatic (rc' := rc + 1299) (rs' := rs + 10392) (rc2 := 0 + 1) (rs2 := 0 + 8) (As := [_, _, _, _]) (st := _) M_L_made K_L_234 (dT U_L_areRuns 4 rfl) rfl rfl rfl rfl (Nat.le_of_ble_eq_true rfl) rfl (by decide) (Nat.le_of_ble_eq_true rfl) (by first | rfl | omega) (by first | rfl | omega) ?_
  refine S_L_made (f := f) (m := 8) hL (by have := hlen; omega) (by omega) (by omega) (by omega) (fun h1 a_secret secret u1 ga1 ge1 h_secret1 Fl_secret Z_secret => ?_)
  refine xRet_some ?_
  have g_secret : 70 ≤ a_secret := by have := hlen; omega
  have w1 := (w).up u1
  have hlen_1 : 70 ≤ h1.length := by have := u1.len; have := hlen; omega
  refine x_astore (ls' := [some (.ref _), some (.ref _), some (vi _), some (vi _), some (vi _), some (.ref _), none, none, none, none, none, none, none, none, none, none]) (dT U_L_areRuns 5 rfl) (by decide) rfl ?_
  refine x_aload_n (dT U_L_areRuns 6 rfl) rfl ?_
  refine x_iload_n (dT U_L_areRuns 7 rfl) rfl ?_
  refine x_bipush (dT U_L_areRuns 8 rfl) (by decide) ?_
  refine x_iadd (dT U_L_areRuns 9 rfl) ?_
  refine x_iload_n (dT U_L_areRuns 10 rfl) rfl ?_
  refine x_aload_n (dT U_L_areRuns 11 rfl) rfl ?_
  refine x_iload_n (dT U_L_areRuns 12 rfl) rfl ?_
  refine x_bipush (dT U_L_areRuns 13 rfl) (by decide) ?_
  refine x_iadd (dT U_L_areRuns 14 rfl) ?_
  rw [show (f : Int) + 30 = ((f + 30 : Nat) : Int) by omega]
  refine x_invokestatic (rc' := rc + 1299) (rs' := rs + 10392) (rc2 := 0 + 0) (rs2 := 0 + 0) (As := [_, _]) (st := _) M_L_cell K_L_221 (dT U_L_areRuns 15 rfl) rfl rfl rfl rfl (Nat.le_of_ble_eq_true rfl) rfl (by decide) (Nat.le_of_ble_eq_true rfl) (by first | rfl | omega) (by first | rfl | omega) ?_
  refine S_L_cell (k := f + 30) hL (by omega) (fun z21 => ?_)
  refine xRet_some ?_
  refine x_bipush (dT U_L_areRuns 16 rfl) (by decide) ?_
  refine x_invokestatic (rc' := rc + 1299) (rs' := rs + 10392) (rc2 := 0 + 0) (rs2 := 0 + 0) (As := [_, _]) (st := _) M_L_chosen K_L_225 (dT U_L_areRuns 17 rfl) rfl rfl rfl rfl (Nat.le_of_ble_eq_true rfl) rfl (by decide) (Nat.le_of_ble_eq_true rfl) (by first | rfl | omega) (by first | rfl | omega) ?_
  refine S_L_chosen (by omega) (fun many b_many => ?_)
  refine xRet_some ?_
  obtain ⟨mf, rfl⟩ : ∃ t : Nat, many = (t : Int) := ⟨many.toNat, by omega⟩
  rw [show (f : Int) + 8 = ((f + 8 : Nat) : Int) by omega]
  refine x_invokestatic (rc' := rc + 1298) (rs' := rs + 10384) (rc2 := 0 + 1) (rs2 := 0 + 8) (As := [_, _, _, _]) (st := _) M_L_made K_L_234 (dT U_L_areRuns 18 rfl) rfl rfl rfl rfl (Nat.le_of_ble_eq_true rfl) rfl (by decide) (Nat.le_of_ble_eq_true rfl) (by first | rfl | omega) (by first | rfl | omega) ?_
  refine S_L_made (f := f + 8) (m := mf) hL (by have := hlen_1; omega) (by omega) (by omega) (by omega) (fun h2 a_form form u2 ga2 ge2 h_form2 Fl_form Z_form => ?_)
  refine xRet_some ?_
  have g_form : 70 ≤ a_form := by have := hlen_1; omega
  have w2 := (w1).up u2
  have h_secret_2 := u2 _ _ h_secret1
  have ne_form_secret : a_form ≠ a_secret := by have := (List.getElem?_eq_some_iff.mp h_secret1).1; omega
  have hlen_2 : 70 ≤ h2.length := by have := u2.len; have := hlen_1; omega
  refine x_astore (ls' := [some (.ref _), some (.ref _), some (vi _), some (vi _), some (vi _), some (.ref _), some (.ref _), none, none, none, none, none, none, none, none, none]) (dT U_L_areRuns 19 rfl) (by decide) rfl ?_
  refine x_aload_n (dT U_L_areRuns 20 rfl) rfl ?_
  refine x_iload_n (dT U_L_areRuns 21 rfl) rfl ?_
  refine x_bipush (dT U_L_areRuns 22 rfl) (by decide) ?_
  refine x_iadd (dT U_L_areRuns 23 rfl) ?_
  refine x_iload_n (dT U_L_areRuns 24 rfl) rfl ?_
  refine x_bipush (dT U_L_areRuns 25 rfl) (by decide) ?_
  rw [show (f : Int) + 16 = ((f + 16 : Nat) : Int) by omega]
  refine x_invokestatic (rc' := rc + 1297) (rs' := rs + 10376) (rc2 := 0 + 1) (rs2 := 0 + 8) (As := [_, _, _, _]) (st := _) M_L_made K_L_234 (dT U_L_areRuns 26 rfl) rfl rfl rfl rfl (Nat.le_of_ble_eq_true rfl) rfl (by decide) (Nat.le_of_ble_eq_true rfl) (by first | rfl | omega) (by first | rfl | omega) ?_
  refine S_L_made (f := f + 16) (m := 8) hL (by have := hlen_2; omega) (by omega) (by omega) (by omega) (fun h3 a_mask mask u3 ga3 ge3 h_mask3 Fl_mask Z_mask => ?_)
  refine xRet_some ?_
  have g_mask : 70 ≤ a_mask := by have := hlen_2; omega
  have w3 := (w2).up u3
  have h_secret_3 := u3 _ _ h_secret_2
  have ne_mask_secret : a_mask ≠ a_secret := by have := (List.getElem?_eq_some_iff.mp h_secret_2).1; omega
  have h_form_3 := u3 _ _ h_form2
  have ne_mask_form : a_mask ≠ a_form := by have := (List.getElem?_eq_some_iff.mp h_form2).1; omega
  have hlen_3 : 70 ≤ h3.length := by have := u3.len; have := hlen_2; omega
  refine x_astore (ls' := [some (.ref _), some (.ref _), some (vi _), some (vi _), some (vi _), some (.ref _), some (.ref _), some (.ref _), none, none, none, none, none, none, none, none]) (dT U_L_areRuns 27 rfl) (by decide) rfl ?_
  refine x_aload_n (dT U_L_areRuns 28 rfl) rfl ?_
  refine x_iload_n (dT U_L_areRuns 29 rfl) rfl ?_
  refine x_bipush (dT U_L_areRuns 30 rfl) (by decide) ?_
  refine x_iadd (dT U_L_areRuns 31 rfl) ?_
  rw [show (f : Int) + 24 = ((f + 24 : Nat) : Int) by omega]
  refine x_invokestatic (rc' := rc + 1297) (rs' := rs + 10376) (rc2 := 0 + 0) (rs2 := 0 + 0) (As := [_, _]) (st := _) M_L_cell K_L_221 (dT U_L_areRuns 32 rfl) rfl rfl rfl rfl (Nat.le_of_ble_eq_true rfl) rfl (by decide) (Nat.le_of_ble_eq_true rfl) (by first | rfl | omega) (by first | rfl | omega) ?_
  refine S_L_cell (k := f + 24) hL (by omega) (fun z52 => ?_)
  refine xRet_some ?_
  refine x_iload_n (dT U_L_areRuns 33 rfl) rfl ?_
  refine x_invokestatic (rc' := rc + 1297) (rs' := rs + 10376) (rc2 := 0 + 0) (rs2 := 0 + 0) (As := [_, _]) (st := _) M_L_chosen K_L_225 (dT U_L_areRuns 34 rfl) rfl rfl rfl rfl (Nat.le_of_ble_eq_true rfl) rfl (by decide) (Nat.le_of_ble_eq_true rfl) (by first | rfl | omega) (by first | rfl | omega) ?_
  refine S_L_chosen (by omega) (fun blind b_blind => ?_)
  refine xRet_some ?_
  refine x_istore (ls' := [some (.ref _), some (.ref _), some (vi _), some (vi _), some (vi _), some (.ref _), some (.ref _), some (.ref _), some (vi _), none, none, none, none, none, none, none]) (dT U_L_areRuns 35 rfl) (by decide) rfl ?_
  refine x_aload_n (dT U_L_areRuns 36 rfl) rfl ?_
  refine x_iload_n (dT U_L_areRuns 37 rfl) rfl ?_
  refine x_bipush (dT U_L_areRuns 38 rfl) (by decide) ?_
  refine x_iadd (dT U_L_areRuns 39 rfl) ?_
  rw [show (f : Int) + 25 = ((f + 25 : Nat) : Int) by omega]
  refine x_invokestatic (rc' := rc + 1297) (rs' := rs + 10376) (rc2 := 0 + 0) (rs2 := 0 + 0) (As := [_, _]) (st := _) M_L_cell K_L_221 (dT U_L_areRuns 40 rfl) rfl rfl rfl rfl (Nat.le_of_ble_eq_true rfl) rfl (by decide) (Nat.le_of_ble_eq_true rfl) (by first | rfl | omega) (by first | rfl | omega) ?_
  refine S_L_cell (k := f + 25) hL (by omega) (fun z66 => ?_)
  refine xRet_some ?_
  refine x_iload_n (dT U_L_areRuns 41 rfl) rfl ?_
  refine x_invokestatic (rc' := rc + 1297) (rs' := rs + 10376) (rc2 := 0 + 0) (rs2 := 0 + 0) (As := [_, _]) (st := _) M_L_chosen K_L_225 (dT U_L_areRuns 42 rfl) rfl rfl rfl rfl (Nat.le_of_ble_eq_true rfl) rfl (by decide) (Nat.le_of_ble_eq_true rfl) (by first | rfl | omega) (by first | rfl | omega) ?_
  refine S_L_chosen (by omega) (fun mb b_mb => ?_)
  refine xRet_some ?_
  refine x_istore (ls' := [some (.ref _), some (.ref _), some (vi _), some (vi _), some (vi _), some (.ref _), some (.ref _), some (.ref _), some (vi _), some (vi _), none, none, none, none, none, none]) (dT U_L_areRuns 43 rfl) (by decide) rfl ?_
  refine x_aload_n (dT U_L_areRuns 44 rfl) rfl ?_
  refine x_iload_n (dT U_L_areRuns 45 rfl) rfl ?_
  refine x_bipush (dT U_L_areRuns 46 rfl) (by decide) ?_
  refine x_iadd (dT U_L_areRuns 47 rfl) ?_
  rw [show (f : Int) + 26 = ((f + 26 : Nat) : Int) by omega]
  refine x_invokestatic (rc' := rc + 1297) (rs' := rs + 10376) (rc2 := 0 + 0) (rs2 := 0 + 0) (As := [_, _]) (st := _) M_L_cell K_L_221 (dT U_L_areRuns 48 rfl) rfl rfl rfl rfl (Nat.le_of_ble_eq_true rfl) rfl (by decide) (Nat.le_of_ble_eq_true rfl) (by first | rfl | omega) (by first | rfl | omega) ?_
  refine S_L_cell (k := f + 26) hL (by omega) (fun z80 => ?_)
  refine xRet_some ?_
  refine x_iload_n (dT U_L_areRuns 49 rfl) rfl ?_
  refine x_invokestatic (rc' := rc + 1297) (rs' := rs + 10376) (rc2 := 0 + 0) (rs2 := 0 + 0) (As := [_, _]) (st := _) M_L_chosen K_L_225 (dT U_L_areRuns 50 rfl) rfl rfl rfl rfl (Nat.le_of_ble_eq_true rfl) rfl (by decide) (Nat.le_of_ble_eq_true rfl) (by first | rfl | omega) (by first | rfl | omega) ?_
  refine S_L_chosen (by omega) (fun c b_c => ?_)
  refine xRet_some ?_
  refine x_istore (ls' := [some (.ref _), some (.ref _), some (vi _), some (vi _), some (vi _), some (.ref _), some (.ref _), some (.ref _), some (vi _), some (vi _), some (vi _), none, none, none, none, none]) (dT U_L_areRuns 51 rfl) (by decide) rfl ?_
  refine x_iload (dT U_L_areRuns 52 rfl) rfl ?_
  refine x_iconst (dT U_L_areRuns 53 rfl) ?_
  refine x_iadd (dT U_L_areRuns 54 rfl) ?_
  refine x_aload_n (dT U_L_areRuns 55 rfl) rfl ?_
  refine x_iload_n (dT U_L_areRuns 56 rfl) rfl ?_
  refine x_bipush (dT U_L_areRuns 57 rfl) (by decide) ?_
  refine x_iadd (dT U_L_areRuns 58 rfl) ?_
  rw [show (f : Int) + 27 = ((f + 27 : Nat) : Int) by omega]
  refine x_invokestatic (rc' := rc + 1297) (rs' := rs + 10376) (rc2 := 0 + 0) (rs2 := 0 + 0) (As := [_, _]) (st := _) M_L_cell K_L_221 (dT U_L_areRuns 59 rfl) rfl rfl rfl rfl (Nat.le_of_ble_eq_true rfl) rfl (by decide) (Nat.le_of_ble_eq_true rfl) (by first | rfl | omega) (by first | rfl | omega) ?_
  refine S_L_cell (k := f + 27) hL (by omega) (fun z98 => ?_)
  refine xRet_some ?_
  refine x_iload_n (dT U_L_areRuns 60 rfl) rfl ?_
  refine x_iconst (dT U_L_areRuns 61 rfl) ?_
  refine x_isub (dT U_L_areRuns 62 rfl) ?_
  refine x_invokestatic (rc' := rc + 1297) (rs' := rs + 10376) (rc2 := 0 + 0) (rs2 := 0 + 0) (As := [_, _]) (st := _) M_L_chosen K_L_225 (dT U_L_areRuns 63 rfl) rfl rfl rfl rfl (Nat.le_of_ble_eq_true rfl) rfl (by decide) (Nat.le_of_ble_eq_true rfl) (by first | rfl | omega) (by first | rfl | omega) ?_
  refine S_L_chosen (by omega) (fun dc b_dc => ?_)
  refine xRet_some ?_
  refine x_iadd (dT U_L_areRuns 64 rfl) ?_
  refine x_iload_n (dT U_L_areRuns 65 rfl) rfl ?_
  refine x_irem (dT U_L_areRuns 66 rfl) (by unfold xr; omega) (by unfold xr; omega) (by omega) ?_
  obtain ⟨dd, e_dd⟩ : ∃ r : Int, r = (c + 1 + dc) % (p : Int) := ⟨_, rfl⟩
  have t_dd : (c + 1 + dc).tmod (p : Int) = dd := by rw [e_dd]; exact Int.tmod_eq_emod_of_nonneg (by omega)
  rw [t_dd]
  have b_dd : 0 ≤ dd ∧ dd < (p : Int) := by rw [e_dd]; exact modb (by omega)
  have ne_cd : c ≠ dd := by
    intro z
    obtain ⟨k, hk⟩ := emx (a := c + 1 + dc) (p := (p : Int))
    rw [← e_dd, ← z] at hk
    have h1 : (p : Int) * k = 1 + dc := by omega
    rcases Int.lt_trichotomy k 0 with q | q | q
    · have := Int.mul_le_mul_of_nonneg_left (show k ≤ -1 by omega) (show (0 : Int) ≤ p by omega); omega
    · rw [q] at h1; omega
    · have := Int.mul_le_mul_of_nonneg_left (show 1 ≤ k by omega) (show (0 : Int) ≤ p by omega); omega
  refine x_istore (ls' := [some (.ref _), some (.ref _), some (vi _), some (vi _), some (vi _), some (.ref _), some (.ref _), some (.ref _), some (vi _), some (vi _), some (vi _), some (vi _), none, none, none, none]) (dT U_L_areRuns 67 rfl) (by decide) rfl ?_
  refine x_aload_n (dT U_L_areRuns 68 rfl) rfl ?_
  refine x_aload (dT U_L_areRuns 69 rfl) rfl ?_
  refine x_iload (dT U_L_areRuns 70 rfl) rfl ?_
  refine x_iload (dT U_L_areRuns 71 rfl) rfl ?_
  refine x_invokestatic (rc' := rc + 1288) (rs' := rs + 10322) (rc2 := 0 + 9) (rs2 := 0 + 54) (As := [_, _, _, _]) (st := _) M_L_commits K_L_247 (dT U_L_areRuns 72 rfl) rfl rfl rfl rfl (Nat.le_of_ble_eq_true rfl) rfl (by decide) (Nat.le_of_ble_eq_true rfl) (by first | rfl | omega) (by first | rfl | omega) ?_
  refine S_L_commits w3 v hpp h_secret_3 (by omega) Fl_secret (by omega) ?_
  refine xRet_some ?_
  obtain ⟨y, e_y⟩ : ∃ r : Int, MM p (cm p secret blind) = r := ⟨_, rfl⟩
  rw [e_y]
  have hz_y : xr y := by rw [← e_y]; exact xr_MM hpr
  refine x_istore (ls' := [some (.ref _), some (.ref _), some (vi _), some (vi _), some (vi _), some (.ref _), some (.ref _), some (.ref _), some (vi _), some (vi _), some (vi _), some (vi _), some (vi _), none, none, none]) (dT U_L_areRuns 73 rfl) (by decide) rfl ?_
  have hcS := cm_b (p := p) (l := secret) (b := blind) (by omega)
  have hcM := cm_b (p := p) (l := mask) (b := mb) (by omega)
  refine x_aload (dT U_L_areRuns 74 rfl) rfl ?_
  refine x_aload (dT U_L_areRuns 75 rfl) rfl ?_
  refine x_iload_n (dT U_L_areRuns 76 rfl) rfl ?_
  refine x_invokestatic (rc' := rc + 1288) (rs' := rs + 10322) (rc2 := 0 + 0) (rs2 := 0 + 0) (As := [_, _, _]) (st := _) M_L_inner K_L_257 (dT U_L_areRuns 77 rfl) rfl rfl rfl rfl (Nat.le_of_ble_eq_true rfl) rfl (by decide) (Nat.le_of_ble_eq_true rfl) (by first | rfl | omega) (by first | rfl | omega) ?_
  refine S_L_inner (by omega) h_form_3 (by omega) Fl_form h_secret_3 (by omega) Fl_secret ?_
  refine xRet_some ?_
  obtain ⟨vv, e_vv⟩ : ∃ r : Int, inn form secret % (p : Int) = r := ⟨_, rfl⟩
  rw [e_vv]
  have b_vv : 0 ≤ vv ∧ vv < (p : Int) := by rw [← e_vv]; exact modb (by omega)
  refine x_istore (ls' := [some (.ref _), some (.ref _), some (vi _), some (vi _), some (vi _), some (.ref _), some (.ref _), some (.ref _), some (vi _), some (vi _), some (vi _), some (vi _), some (vi _), some (vi _), none, none]) (dT U_L_areRuns 78 rfl) (by decide) rfl ?_
  refine x_aload_n (dT U_L_areRuns 79 rfl) rfl ?_
  refine x_iconst (dT U_L_areRuns 80 rfl) ?_
  refine x_aload (dT U_L_areRuns 81 rfl) rfl ?_
  refine x_invokestatic (rc' := rc + 1287) (rs' := rs + 10316) (rc2 := 0 + 1) (rs2 := 0 + 6) (As := [_, _, _]) (st := _) M_L_lays K_L_238 (dT U_L_areRuns 82 rfl) rfl rfl rfl rfl (Nat.le_of_ble_eq_true rfl) rfl (by decide) (Nat.le_of_ble_eq_true rfl) (by first | rfl | omega) (by first | rfl | omega) ?_
  refine S_L_lays w3 v (by omega) h_secret_3 (by omega) (by rw [hpp]; exact Fl_secret) (fun z5 hz5 h5 fc5 w_5 v_5 => ?_)
  refine xRet_some ?_
  obtain ⟨σ6, w6, v6, r0_6, p_6, L_6⟩ : ∃ σ6 : St, CW σ6 h5 ∧ INV σ6 ∧ σ6.rw 0 = secret ∧ σ6.p = p ∧ σ6.L.n = n0 := ⟨_, w_5, v_5, rfl, hpp, hn0⟩
  have h_secret_6 : h5[a_secret]? = some (cA 0 secret) := (fc5).get h_secret_3 (by omega)
  have h_form_6 : h5[a_form]? = some (cA 0 form) := (fc5).get h_form_3 (by omega)
  have h_mask_6 : h5[a_mask]? = some (cA 0 mask) := (fc5).get h_mask3 (by omega)
  have hlen_6 : 70 ≤ h5.length := by rw [fc5.1]; exact hlen_3
  refine x_pop2 (dT U_L_areRuns 83 rfl) ?_
  refine x_aload_n (dT U_L_areRuns 84 rfl) rfl ?_
  refine x_iconst (dT U_L_areRuns 85 rfl) ?_
  refine x_aload (dT U_L_areRuns 86 rfl) rfl ?_
  refine x_invokestatic (rc' := rc + 1286) (rs' := rs + 10310) (rc2 := 0 + 1) (rs2 := 0 + 6) (As := [_, _, _]) (st := _) M_L_lays K_L_238 (dT U_L_areRuns 87 rfl) rfl rfl rfl rfl (Nat.le_of_ble_eq_true rfl) rfl (by decide) (Nat.le_of_ble_eq_true rfl) (by first | rfl | omega) (by first | rfl | omega) ?_
  refine S_L_lays w6 v6 (by omega) h_mask_6 (by omega) (by rw [p_6]; exact Fl_mask) (fun z7 hz7 h7 fc7 w_7 v_7 => ?_)
  refine xRet_some ?_
  obtain ⟨σ8, w8, v8, r1_8, r0_8, p_8, L_8⟩ : ∃ σ8 : St, CW σ8 h7 ∧ INV σ8 ∧ σ8.rw 1 = mask ∧ σ8.rw 0 = secret ∧ σ8.p = p ∧ σ8.L.n = n0 := ⟨_, w_7, v_7, rfl, r0_6, p_6, L_6⟩
  have h_secret_8 : h7[a_secret]? = some (cA 0 secret) := (fc7).get h_secret_6 (by omega)
  have h_form_8 : h7[a_form]? = some (cA 0 form) := (fc7).get h_form_6 (by omega)
  have h_mask_8 : h7[a_mask]? = some (cA 0 mask) := (fc7).get h_mask_6 (by omega)
  have hlen_8 : 70 ≤ h7.length := by rw [fc7.1]; exact hlen_6
  refine x_pop2 (dT U_L_areRuns 88 rfl) ?_
  refine x_aload_n (dT U_L_areRuns 89 rfl) rfl ?_
  refine x_iconst (dT U_L_areRuns 90 rfl) ?_
  refine x_aload (dT U_L_areRuns 91 rfl) rfl ?_
  refine x_invokestatic (rc' := rc + 1285) (rs' := rs + 10304) (rc2 := 0 + 1) (rs2 := 0 + 6) (As := [_, _, _]) (st := _) M_L_lays K_L_238 (dT U_L_areRuns 92 rfl) rfl rfl rfl rfl (Nat.le_of_ble_eq_true rfl) rfl (by decide) (Nat.le_of_ble_eq_true rfl) (by first | rfl | omega) (by first | rfl | omega) ?_
  refine S_L_lays w8 v8 (by omega) h_form_8 (by omega) (by rw [p_8]; exact Fl_form) (fun z9 hz9 h9 fc9 w_9 v_9 => ?_)
  refine xRet_some ?_
  obtain ⟨σ10, w10, v10, r2_10, r1_10, r0_10, p_10, L_10⟩ : ∃ σ10 : St, CW σ10 h9 ∧ INV σ10 ∧ σ10.rw 2 = form ∧ σ10.rw 1 = mask ∧ σ10.rw 0 = secret ∧ σ10.p = p ∧ σ10.L.n = n0 := ⟨_, w_9, v_9, rfl, r1_8, r0_8, p_8, L_8⟩
  have h_secret_10 : h9[a_secret]? = some (cA 0 secret) := (fc9).get h_secret_8 (by omega)
  have h_form_10 : h9[a_form]? = some (cA 0 form) := (fc9).get h_form_8 (by omega)
  have h_mask_10 : h9[a_mask]? = some (cA 0 mask) := (fc9).get h_mask_8 (by omega)
  have hlen_10 : 70 ≤ h9.length := by rw [fc9.1]; exact hlen_8
  refine x_pop2 (dT U_L_areRuns 93 rfl) ?_
  have m_cblind := mulg (a := c) (b := blind) (m := 23) (n := 23) (by omega) (by omega)
  have m_ddblind := mulg (a := dd) (b := blind) (m := 23) (n := 23) (by omega) (by omega)
  refine x_iconst (dT U_L_areRuns 94 rfl) ?_
  refine x_istore (ls' := [some (.ref _), some (.ref _), some (vi _), some (vi _), some (vi _), some (.ref _), some (.ref _), some (.ref _), some (vi _), some (vi _), some (vi _), some (vi _), some (vi _), some (vi _), some (vi _), none]) (dT U_L_areRuns 95 rfl) (by decide) rfl ?_
  refine x_iload (dT U_L_areRuns 96 rfl) rfl ?_
  refine x_iconst (dT U_L_areRuns 97 rfl) ?_
  refine x_icmp_ge (tgt := 377) (dT U_L_areRuns 98 rfl) (by decide) (by unfold xr; omega) (by unfold xr; omega) (fun c164 => ?_) (fun c164 => ?_)
  · exfalso
    omega
  · skip
    refine x_aload_n (dT U_L_areRuns 99 rfl) rfl ?_
    refine x_iload (dT U_L_areRuns 100 rfl) rfl ?_
    refine x_iload (dT U_L_areRuns 101 rfl) rfl ?_
    refine x_iconst (dT U_L_areRuns 102 rfl) ?_
    refine x_iload (dT U_L_areRuns 103 rfl) rfl ?_
    refine x_invokestaticT (rc' := rc + 1281) (rs' := rs + 10280) (rc2 := 0 + 4) (rs2 := 0 + 24) (As := [_, _, _, _, _]) (st := _) M_L_state K_L_261 (dT U_L_areRuns 104 rfl) rfl (by decide) rfl rfl (Nat.le_of_ble_eq_true rfl) rfl (by decide) (Nat.le_of_ble_eq_true rfl) (by first | rfl | omega) (by first | rfl | omega) ?_
    refine S_L_state w10 v10 (by first | assumption | (unfold xr; omega)) (by first | assumption | (unfold xr; omega)) (by first | assumption | (unfold xr; omega)) (by first | assumption | (unfold xr; omega)) (fun  z8 => absurd (show inb _ _ ∧ inb _ _ from by omega) z8) (fun _ z8 => absurd (show _ ∧ inb _ _ from ⟨by rw [p_10, ← e_y, exI_MM hpr hcS]; omega, by have := p_10; omega⟩) z8) (fun _ _ z11 e11 hz11 h11 fc11 w_11 v_11 => ?_)
    refine xRet_some ?_
    have e11 : z11 = y := by
      exact e11
    obtain ⟨σ12, w12, v12, R0_st_12, R0_e_12, R0_v_12, R0_form_12, r2_12, r1_12, r0_12, p_12, L_12⟩ : ∃ σ12 : St, CW σ12 h11 ∧ INV σ12 ∧ (σ12.R 0).st = 1 ∧ (σ12.R 0).e = cm p secret blind ∧ (σ12.R 0).v = vv ∧ (σ12.R 0).form = form ∧ σ12.rw 2 = form ∧ σ12.rw 1 = mask ∧ σ12.rw 0 = secret ∧ σ12.p = p ∧ σ12.L.n = n0 := ⟨_, w_11, v_11, rfl, (by show exI σ10.p y = _; rw [p_10, ← e_y, exI_MM hpr hcS]), rfl, r2_10, r2_10, r1_10, r0_10, p_10, L_10⟩
    have h_secret_12 : h11[a_secret]? = some (cA 0 secret) := (fc11).get h_secret_10 (by omega)
    have h_form_12 : h11[a_form]? = some (cA 0 form) := (fc11).get h_form_10 (by omega)
    have h_mask_12 : h11[a_mask]? = some (cA 0 mask) := (fc11).get h_mask_10 (by omega)
    have hlen_12 : 70 ≤ h11.length := by rw [fc11.1]; exact hlen_10
    refine x_iload (dT U_L_areRuns 105 rfl) rfl ?_
    refine x_i2l (dT U_L_areRuns 106 rfl) hz_y ?_
    refine x_lif_ne (tgt := 229) (dT U_L_areRuns 107 rfl) (dT U_L_areRuns 108 rfl) (by decide) (xrl_of hz11) (xrl_of hz_y) (fun c181 => ?_) (fun c181 => ?_)
    · exfalso
      exact c181 e11
    · skip
      refine x_aload_n (dT U_L_areRuns 109 rfl) rfl ?_
      refine x_iload (dT U_L_areRuns 110 rfl) rfl ?_
      refine x_iconst (dT U_L_areRuns 111 rfl) ?_
      refine x_iload (dT U_L_areRuns 112 rfl) rfl ?_
      refine x_invokestaticT (rc' := rc + 1277) (rs' := rs + 10256) (rc2 := 0 + 4) (rs2 := 0 + 24) (As := [_, _, _, _]) (st := _) M_L_open K_L_263 (dT U_L_areRuns 113 rfl) rfl (by decide) rfl rfl (Nat.le_of_ble_eq_true rfl) rfl (by decide) (Nat.le_of_ble_eq_true rfl) (by first | rfl | omega) (by first | rfl | omega) ?_
      refine S_L_open w12 v12 (by first | assumption | (unfold xr; omega)) (by first | assumption | (unfold xr; omega)) (by first | assumption | (unfold xr; omega)) (fun  z8 => absurd (show inb _ _ ∧ inb _ _ from by omega) z8) (fun _ z8 => absurd (show inb _ _ from by have := p_12; omega) z8) (fun _ _ z8 => absurd (R0_st_12) z8) (fun _ _ _ z13 e13 hz13 h13 fc13 w_13 v_13 => ?_)
      refine xRet_some ?_
      have e13 : z13 = MM p (cm p mask mb) := by
        simp only [tn0, tn1, tn2, tn3, tn4, tn5, tn6, tn7, tn8, Int.toNat_natCast, p_12, r1_12] at e13; exact e13
      obtain ⟨σ14, w14, v14, R0_st_14, R0_fa_14, R0_w_14, R0_mb_14, R0_mk_14, R0_mask_14, R0_e_14, R0_v_14, R0_form_14, r2_14, r1_14, r0_14, p_14, L_14⟩ : ∃ σ14 : St, CW σ14 h13 ∧ INV σ14 ∧ (σ14.R 0).st = 2 ∧ (σ14.R 0).fa = cm p mask mb ∧ (σ14.R 0).w = inn form mask % (p : Int) ∧ (σ14.R 0).mb = mb ∧ (σ14.R 0).mk = true ∧ (σ14.R 0).mask = mask ∧ (σ14.R 0).e = cm p secret blind ∧ (σ14.R 0).v = vv ∧ (σ14.R 0).form = form ∧ σ14.rw 2 = form ∧ σ14.rw 1 = mask ∧ σ14.rw 0 = secret ∧ σ14.p = p ∧ σ14.L.n = n0 := ⟨_, w_13, v_13, rfl, (by show cm σ12.p (σ12.rw 1) _ = _; rw [p_12, r1_12]), (by show inn (σ12.R 0).form (σ12.rw 1) % (σ12.p : Int) = _; rw [R0_form_12, r1_12, p_12]), rfl, rfl, r1_12, R0_e_12, R0_v_12, R0_form_12, r2_12, r1_12, r0_12, p_12, L_12⟩
      have h_secret_14 : h13[a_secret]? = some (cA 0 secret) := (fc13).get h_secret_12 (by omega)
      have h_form_14 : h13[a_form]? = some (cA 0 form) := (fc13).get h_form_12 (by omega)
      have h_mask_14 : h13[a_mask]? = some (cA 0 mask) := (fc13).get h_mask_12 (by omega)
      have hlen_14 : 70 ≤ h13.length := by rw [fc13.1]; exact hlen_12
      refine x_aload_n (dT U_L_areRuns 114 rfl) rfl ?_
      refine x_aload (dT U_L_areRuns 115 rfl) rfl ?_
      refine x_iload (dT U_L_areRuns 116 rfl) rfl ?_
      refine x_iload (dT U_L_areRuns 117 rfl) rfl ?_
      refine x_invokestatic (rc' := rc + 1268) (rs' := rs + 10202) (rc2 := 0 + 9) (rs2 := 0 + 54) (As := [_, _, _, _]) (st := _) M_L_commits K_L_247 (dT U_L_areRuns 118 rfl) rfl rfl rfl rfl (Nat.le_of_ble_eq_true rfl) rfl (by decide) (Nat.le_of_ble_eq_true rfl) (by first | rfl | omega) (by first | rfl | omega) ?_
      refine S_L_commits w14 v14 p_14 h_mask_14 (by omega) Fl_mask (by omega) ?_
      refine xRet_some ?_
      refine x_i2l (dT U_L_areRuns 119 rfl) (xr_MM hpr) ?_
      refine x_lif_ne (tgt := 229) (dT U_L_areRuns 120 rfl) (dT U_L_areRuns 121 rfl) (by decide) (xrl_of hz13) (xrl_of (xr_MM hpr)) (fun c205 => ?_) (fun c205 => ?_)
      · exfalso
        exact c205 e13
      · skip
        refine x_aload_n (dT U_L_areRuns 122 rfl) rfl ?_
        refine x_iload (dT U_L_areRuns 123 rfl) rfl ?_
        refine x_iconst (dT U_L_areRuns 124 rfl) ?_
        refine x_invokestaticT (rc' := rc + 1266) (rs' := rs + 10190) (rc2 := 0 + 2) (rs2 := 0 + 12) (As := [_, _, _]) (st := _) M_L_told K_L_265 (dT U_L_areRuns 125 rfl) rfl (by decide) rfl rfl (Nat.le_of_ble_eq_true rfl) rfl (by decide) (Nat.le_of_ble_eq_true rfl) (by first | rfl | omega) (by first | rfl | omega) ?_
        refine S_L_told w14 v14 (by first | assumption | (unfold xr; omega)) (by first | assumption | (unfold xr; omega)) (fun  z8 => absurd (show inb _ _ from by omega) z8) (fun _ z8 => absurd (show inb _ _ from by omega) z8) (fun _ _ z15 e15 hz15 => ?_)
        refine xRet_some ?_
        have e15 : z15 = inn form mask % (p : Int) := by
          rw [e15, if_neg (by decide)]
          show (if 2 ≤ (σ14.R 0).st then (σ14.R 0).w else -1) = _
          rw [if_pos (by rw [R0_st_14]; decide), R0_w_14]
        refine x_aload (dT U_L_areRuns 126 rfl) rfl ?_
        refine x_aload (dT U_L_areRuns 127 rfl) rfl ?_
        refine x_iload_n (dT U_L_areRuns 128 rfl) rfl ?_
        refine x_invokestatic (rc' := rc + 1266) (rs' := rs + 10190) (rc2 := 0 + 0) (rs2 := 0 + 0) (As := [_, _, _]) (st := _) M_L_inner K_L_257 (dT U_L_areRuns 129 rfl) rfl rfl rfl rfl (Nat.le_of_ble_eq_true rfl) rfl (by decide) (Nat.le_of_ble_eq_true rfl) (by first | rfl | omega) (by first | rfl | omega) ?_
        refine S_L_inner (by omega) h_form_14 (by omega) Fl_form h_mask_14 (by omega) Fl_mask ?_
        refine xRet_some ?_
        refine x_i2l (dT U_L_areRuns 130 rfl) (xr_md ⟨by omega, by omega⟩) ?_
        refine x_lif_eq (tgt := 231) (dT U_L_areRuns 131 rfl) (dT U_L_areRuns 132 rfl) (by decide) (xrl_of hz15) (xrl_of (xr_md ⟨by omega, by omega⟩)) (fun c225 => ?_) (fun c225 => ?_)
        · skip
          refine x_aload_n (dT U_L_areRuns 135 rfl) rfl ?_
          refine x_iload (dT U_L_areRuns 136 rfl) rfl ?_
          refine x_iload (dT U_L_areRuns 137 rfl) rfl ?_
          refine x_if_ne (tgt := 244) (dT U_L_areRuns 138 rfl) (by decide) (by unfold xr; omega) (fun c236 => ?_) (fun c236 => ?_)
          · exfalso
            omega
          · skip
            refine x_iload (dT U_L_areRuns 139 rfl) rfl ?_
            refine x_goto (tgt := 246) (dT U_L_areRuns 140 rfl) (by decide) ?_
            refine x_invokestaticT (rc' := rc + 1263) (rs' := rs + 10172) (rc2 := 0 + 3) (rs2 := 0 + 18) (As := [_, _, _]) (st := _) M_L_dare K_L_267 (dT U_L_areRuns 142 rfl) rfl (by decide) rfl rfl (Nat.le_of_ble_eq_true rfl) rfl (by decide) (Nat.le_of_ble_eq_true rfl) (by first | rfl | omega) (by first | rfl | omega) ?_
            refine S_L_dare w14 v14 (by first | assumption | (unfold xr; omega)) (by first | assumption | (unfold xr; omega)) (fun  z8 => absurd (show inb _ _ from by omega) z8) (fun _ z8 => absurd (show inb _ _ from by have := p_14; omega) z8) (fun _ _ z8 => absurd (R0_st_14) z8) (fun _ _ _ z16 e16 hz16 h16 fc16 w_16 v_16 => ?_)
            refine xRet_some ?_
            have e16 : z16 = c := by
              exact e16
            obtain ⟨σ17, w17, v17, R0_st_17, R0_c_17, R0_fa_17, R0_w_17, R0_mb_17, R0_mk_17, R0_mask_17, R0_e_17, R0_v_17, R0_form_17, r2_17, r1_17, r0_17, p_17, L_17⟩ : ∃ σ17 : St, CW σ17 h16 ∧ INV σ17 ∧ (σ17.R 0).st = 3 ∧ (σ17.R 0).c = c ∧ (σ17.R 0).fa = cm p mask mb ∧ (σ17.R 0).w = inn form mask % (p : Int) ∧ (σ17.R 0).mb = mb ∧ (σ17.R 0).mk = true ∧ (σ17.R 0).mask = mask ∧ (σ17.R 0).e = cm p secret blind ∧ (σ17.R 0).v = vv ∧ (σ17.R 0).form = form ∧ σ17.rw 2 = form ∧ σ17.rw 1 = mask ∧ σ17.rw 0 = secret ∧ σ17.p = p ∧ σ17.L.n = n0 := ⟨_, w_16, v_16, rfl, rfl, R0_fa_14, R0_w_14, R0_mb_14, R0_mk_14, R0_mask_14, R0_e_14, R0_v_14, R0_form_14, r2_14, r1_14, r0_14, p_14, L_14⟩
            have h_secret_17 : h16[a_secret]? = some (cA 0 secret) := (fc16).get h_secret_14 (by omega)
            have h_form_17 : h16[a_form]? = some (cA 0 form) := (fc16).get h_form_14 (by omega)
            have h_mask_17 : h16[a_mask]? = some (cA 0 mask) := (fc16).get h_mask_14 (by omega)
            have hlen_17 : 70 ≤ h16.length := by rw [fc16.1]; exact hlen_14
            refine x_iload (dT U_L_areRuns 143 rfl) rfl ?_
            refine x_if_ne (tgt := 259) (dT U_L_areRuns 144 rfl) (by decide) (by unfold xr; omega) (fun c251 => ?_) (fun c251 => ?_)
            · exfalso
              omega
            · skip
              refine x_iload (dT U_L_areRuns 145 rfl) rfl ?_
              refine x_goto (tgt := 261) (dT U_L_areRuns 146 rfl) (by decide) ?_
              refine x_i2l (dT U_L_areRuns 148 rfl) (by unfold xr; omega) ?_
              refine x_lif_ne (tgt := 311) (dT U_L_areRuns 149 rfl) (dT U_L_areRuns 150 rfl) (by decide) (xrl_of hz16) (xrl_of (by unfold xr; omega)) (fun c262 => ?_) (fun c262 => ?_)
              · exfalso
                exact c262 e16
              · skip
                refine x_aload_n (dT U_L_areRuns 151 rfl) rfl ?_
                refine x_iload (dT U_L_areRuns 152 rfl) rfl ?_
                refine x_iconst (dT U_L_areRuns 153 rfl) ?_
                refine x_iload (dT U_L_areRuns 154 rfl) rfl ?_
                refine x_invokestaticT (rc' := rc + 1258) (rs' := rs + 10142) (rc2 := 0 + 5) (rs2 := 0 + 30) (As := [_, _, _, _]) (st := _) M_L_reply K_L_269 (dT U_L_areRuns 155 rfl) rfl (by decide) rfl rfl (Nat.le_of_ble_eq_true rfl) rfl (by decide) (Nat.le_of_ble_eq_true rfl) (by first | rfl | omega) (by first | rfl | omega) ?_
                refine S_L_reply w17 v17 (by first | assumption | (unfold xr; omega)) (by first | assumption | (unfold xr; omega)) (by first | assumption | (unfold xr; omega)) (fun  z8 => absurd (show inb _ _ ∧ inb _ _ from by omega) z8) (fun _ z8 => absurd (show inb _ _ from by have := p_17; omega) z8) (fun _ _ z8 => absurd (⟨R0_mk_17, R0_st_17⟩) z8) (fun _ _ _ z18 e18 hz18 h18 fc18 w_18 v_18 => ?_)
                refine xRet_some ?_
                have e18 : z18 = (mb + c * blind) % (p : Int) := by
                  simp only [tn0, tn1, tn2, tn3, tn4, tn5, tn6, tn7, tn8, Int.toNat_natCast, p_17, R0_mb_17, R0_c_17] at e18; exact e18
                obtain ⟨σ19, w19, v19, R0_st_19, R0_t_19, R0_answer_19, R0_c_19, R0_fa_19, R0_w_19, R0_mb_19, R0_mk_19, R0_mask_19, R0_e_19, R0_v_19, R0_form_19, r2_19, r1_19, r0_19, p_19, L_19⟩ : ∃ σ19 : St, CW σ19 h18 ∧ INV σ19 ∧ (σ19.R 0).st = 4 ∧ (σ19.R 0).t = (mb + c * blind) % (p : Int) ∧ (σ19.R 0).answer = tab (fun j => (mask.getD j 0 + c * secret.getD j 0) % (p : Int)) 8 ∧ (σ19.R 0).c = c ∧ (σ19.R 0).fa = cm p mask mb ∧ (σ19.R 0).w = inn form mask % (p : Int) ∧ (σ19.R 0).mb = mb ∧ (σ19.R 0).mk = true ∧ (σ19.R 0).mask = mask ∧ (σ19.R 0).e = cm p secret blind ∧ (σ19.R 0).v = vv ∧ (σ19.R 0).form = form ∧ σ19.rw 2 = form ∧ σ19.rw 1 = mask ∧ σ19.rw 0 = secret ∧ σ19.p = p ∧ σ19.L.n = n0 := ⟨_, w_18, v_18, rfl, (by show ((σ17.R 0).mb + (σ17.R 0).c * _) % (σ17.p : Int) = _; rw [R0_mb_17, R0_c_17, p_17]), (by show tab (fun j => ((σ17.R 0).mask.getD j 0 + (σ17.R 0).c * (σ17.rw 0).getD j 0) % (σ17.p : Int)) 8 = _; rw [R0_mask_17, R0_c_17, r0_17, p_17]), R0_c_17, R0_fa_17, R0_w_17, R0_mb_17, R0_mk_17, R0_mask_17, R0_e_17, R0_v_17, R0_form_17, r2_17, r1_17, r0_17, p_17, L_17⟩
                have h_secret_19 : h18[a_secret]? = some (cA 0 secret) := (fc18).get h_secret_17 (by omega)
                have h_form_19 : h18[a_form]? = some (cA 0 form) := (fc18).get h_form_17 (by omega)
                have h_mask_19 : h18[a_mask]? = some (cA 0 mask) := (fc18).get h_mask_17 (by omega)
                have hlen_19 : 70 ≤ h18.length := by rw [fc18.1]; exact hlen_17
                refine x_iload (dT U_L_areRuns 156 rfl) rfl ?_
                refine x_iload (dT U_L_areRuns 157 rfl) rfl ?_
                refine x_if_ne (tgt := 287) (dT U_L_areRuns 158 rfl) (by decide) (by unfold xr; omega) (fun c279 => ?_) (fun c279 => ?_)
                · exfalso
                  omega
                · skip
                  refine x_iload (dT U_L_areRuns 159 rfl) rfl ?_
                  refine x_goto (tgt := 289) (dT U_L_areRuns 160 rfl) (by decide) ?_
                  refine x_iload (dT U_L_areRuns 162 rfl) rfl ?_
                  refine x_imul (dT U_L_areRuns 163 rfl) ?_
                  refine x_iadd (dT U_L_areRuns 164 rfl) ?_
                  refine x_iload_n (dT U_L_areRuns 165 rfl) rfl ?_
                  refine x_irem (dT U_L_areRuns 166 rfl) (by unfold xr; omega) (by unfold xr; omega) (by omega) ?_
                  rw [Int.tmod_eq_emod_of_nonneg (by omega)]
                  refine x_i2l (dT U_L_areRuns 167 rfl) (xr_md ⟨by omega, by omega⟩) ?_
                  refine x_lif_ne (tgt := 311) (dT U_L_areRuns 168 rfl) (dT U_L_areRuns 169 rfl) (by decide) (xrl_of hz18) (xrl_of (xr_md ⟨by omega, by omega⟩)) (fun c296 => ?_) (fun c296 => ?_)
                  · exfalso
                    exact c296 e18
                  · skip
                    refine x_aload_n (dT U_L_areRuns 170 rfl) rfl ?_
                    refine x_iload (dT U_L_areRuns 171 rfl) rfl ?_
                    refine x_invokestaticT (rc' := rc + 1257) (rs' := rs + 10136) (rc2 := 0 + 1) (rs2 := 0 + 6) (As := [_, _]) (st := _) M_L_isAccepted K_L_271 (dT U_L_areRuns 172 rfl) rfl (by decide) rfl rfl (Nat.le_of_ble_eq_true rfl) rfl (by decide) (Nat.le_of_ble_eq_true rfl) (by first | rfl | omega) (by first | rfl | omega) ?_
                    refine S_L_isAccepted w19 v19 (by first | assumption | (unfold xr; omega)) (fun  z8 => absurd (show inb _ _ from by omega) z8) (fun _ _ => ?_) (fun _ z8 => absurd ((by rw [p_19]; exact acc_ok R0_st_19 R0_e_19 (R0_v_19.trans e_vv.symm) R0_form_19 R0_fa_19 R0_w_19 R0_c_19 R0_t_19 R0_answer_19)) z8)
                    refine xRet_some ?_
                    refine x_lconst (z := 1) (dT U_L_areRuns 173 rfl) rfl ?_
                    refine x_lif_eq (tgt := 313) (dT U_L_areRuns 174 rfl) (dT U_L_areRuns 175 rfl) (by decide) (xrl_of (by unfold xr; omega)) (xrl_of (by unfold xr; omega)) (fun c307 => ?_) (fun c307 => ?_)
                    · skip
                      refine x_iconst (dT U_L_areRuns 178 rfl) ?_
                      refine x_istore (ls' := [some (.ref _), some (.ref _), some (vi _), some (vi _), some (vi _), some (.ref _), some (.ref _), some (.ref _), some (vi _), some (vi _), some (vi _), some (vi _), some (vi _), some (vi _), some (vi _), some (vi _)]) (dT U_L_areRuns 179 rfl) (by decide) rfl ?_
                      have L21 : ∀ (n9 i : Nat), i + n9 = 8 → ∀ (h21 : xH) (ex21 : Bool) (σ21 : St), CW σ21 h21 → INV σ21 → 70 ≤ h21.length → (σ21.R 0).st = 4 → (σ21.R 0).t = (mb + c * blind) % (p : Int) → (σ21.R 0).answer = tab (fun j => (mask.getD j 0 + c * secret.getD j 0) % (p : Int)) 8 → (σ21.R 0).c = c → (σ21.R 0).fa = cm p mask mb → (σ21.R 0).w = inn form mask % (p : Int) → (σ21.R 0).mb = mb → (σ21.R 0).mk = true → (σ21.R 0).mask = mask → (σ21.R 0).e = cm p secret blind → (σ21.R 0).v = vv → (σ21.R 0).form = form → σ21.rw 2 = form → σ21.rw 1 = mask → σ21.rw 0 = secret → σ21.p = p → σ21.L.n = n0 → h21[a_secret]? = some (cA 0 secret) → h21[a_form]? = some (cA 0 form) → h21[a_mask]? = some (cA 0 mask) → X G m_L_areRuns (d + 10) (rc + 1000 + 6 * n9) (rs + 8000 + 36 * n9) ex21 316 [some (.ref 3), some (.ref 0), some (vi (f : Int)), some (vi (p : Int)), some (vi (gq p : Int)), some (.ref a_secret), some (.ref a_form), some (.ref a_mask), some (vi blind), some (vi mb), some (vi c), some (vi dd), some (vi y), some (vi vv), some (vi 0), some (vi (i : Int))] [] h21 Q := by
                        intro n9
                        induction n9 with
                        | zero =>
                          intro i hi9 h21 ex21 σ21 w21 v21 hlen_21 R0_st_21 R0_t_21 R0_answer_21 R0_c_21 R0_fa_21 R0_w_21 R0_mb_21 R0_mk_21 R0_mask_21 R0_e_21 R0_v_21 R0_form_21 r2_21 r1_21 r0_21 p_21 L_21 h_secret_21 h_form_21 h_mask_21
                          refine x_iload (dT U_L_areRuns 180 rfl) rfl ?_
                          refine x_bipush (dT U_L_areRuns 181 rfl) (by decide) ?_
                          refine x_icmp_ge (tgt := 371) (dT U_L_areRuns 182 rfl) (by decide) (by first | assumption | (unfold xr; omega)) (by unfold xr; omega) (fun c320 => ?_) (fun c320 => ?_)
                          · skip
                            refine x_iinc (ls' := [some (.ref _), some (.ref _), some (vi _), some (vi _), some (vi _), some (.ref _), some (.ref _), some (.ref _), some (vi _), some (vi _), some (vi _), some (vi _), some (vi _), some (vi _), some (vi _), some (vi _)]) (dT U_L_areRuns 210 rfl) (by decide) rfl rfl ?_
                            rw [show ((0 : Int) + 1) = 1 from rfl]
                            refine x_goto (tgt := 161) (dT U_L_areRuns 211 rfl) (by decide) ?_
                            refine X_room (by omega) (by omega) (x_drop ?_ (cutR_1 (rc := rc) (rs := rs) hL hpr w21 v21 hlen_21 R0_st_21 R0_t_21 R0_answer_21 R0_c_21 R0_fa_21 R0_w_21 R0_mb_21 R0_mk_21 R0_mask_21 R0_e_21 R0_v_21 R0_form_21 r2_21 r1_21 r0_21 p_21 L_21 h_secret_21 (by omega) Fl_secret h_form_21 (by omega) Fl_form h_mask_21 (by omega) Fl_mask hf b_blind b_mb b_c b_dd e_y hz_y e_vv b_vv ne_mask_secret ne_mask_form ne_cd kk))
                            repeat (first | exact trivial | refine ⟨rfl, ?_⟩ | refine ⟨trivial, ?_⟩)
                          · exfalso
                            omega
                        | succ n9 ih =>
                          intro i hi9 h21 ex21 σ21 w21 v21 hlen_21 R0_st_21 R0_t_21 R0_answer_21 R0_c_21 R0_fa_21 R0_w_21 R0_mb_21 R0_mk_21 R0_mask_21 R0_e_21 R0_v_21 R0_form_21 r2_21 r1_21 r0_21 p_21 L_21 h_secret_21 h_form_21 h_mask_21
                          refine x_iload (dT U_L_areRuns 180 rfl) rfl ?_
                          refine x_bipush (dT U_L_areRuns 181 rfl) (by decide) ?_
                          refine x_icmp_ge (tgt := 371) (dT U_L_areRuns 182 rfl) (by decide) (by first | assumption | (unfold xr; omega)) (by unfold xr; omega) (fun c320 => ?_) (fun c320 => ?_)
                          · exfalso
                            omega
                          · skip
                            refine x_aload_n (dT U_L_areRuns 183 rfl) rfl ?_
                            refine x_iload (dT U_L_areRuns 184 rfl) rfl ?_
                            refine x_iload (dT U_L_areRuns 185 rfl) rfl ?_
                            refine x_iconst (dT U_L_areRuns 186 rfl) ?_
                            refine x_invokestaticT (rc' := rc + 1000 + 6 * n9 + 2) (rs' := rs + 8000 + 36 * n9 + 12) (rc2 := 0 + 4) (rs2 := 0 + 24) (As := [_, _, _, _]) (st := _) M_L_form K_L_273 (dT U_L_areRuns 187 rfl) rfl (by decide) rfl rfl (Nat.le_of_ble_eq_true rfl) rfl (by decide) (Nat.le_of_ble_eq_true rfl) (by first | rfl | omega) (by first | rfl | omega) ?_
                            refine S_L_form w21 v21 (by first | assumption | (unfold xr; omega)) (by first | assumption | (unfold xr; omega)) (Or.inr rfl) (fun  z8 => absurd (show inb _ _ ∧ inb _ _ from by omega) z8) (fun _ z8 => absurd (show 1 ≤ (σ21.R 0).st ∧ ((1 : Int) = 1 → 4 ≤ (σ21.R 0).st) from ⟨by rw [R0_st_21]; decide, fun _ => by rw [R0_st_21]; decide⟩) z8) (fun _ _ z22 e22 hz22 => ?_)
                            refine xRet_some ?_
                            have e22 : z22 = (mask.getD i 0 + c * secret.getD i 0) % (p : Int) := by
                              rw [if_pos rfl] at e22
                              rw [e22]
                              show (σ21.R 0).answer.getD i 0 = _
                              rw [R0_answer_21, tab_get _ (by omega)]
                            have m_i := mulg (a := c) (b := secret.getD i 0) (m := 23) (n := 23) (by omega) (by have := Fl_secret.2 i; omega)
                            have m_j := Fl_mask.2 i
                            refine x_aload (dT U_L_areRuns 188 rfl) rfl ?_
                            refine x_iload (dT U_L_areRuns 189 rfl) rfl ?_
                            refine x_iaload (i) (dT U_L_areRuns 190 rfl) h_mask_21 (by omega) rfl (by have := (Fl_mask).1; omega) (by have := (Fl_mask).1; omega) ?_
                            refine x_iload (dT U_L_areRuns 191 rfl) rfl ?_
                            refine x_if_ne (tgt := 347) (dT U_L_areRuns 192 rfl) (by decide) (by unfold xr; omega) (fun c339 => ?_) (fun c339 => ?_)
                            · exfalso
                              omega
                            · skip
                              refine x_iload (dT U_L_areRuns 193 rfl) rfl ?_
                              refine x_goto (tgt := 349) (dT U_L_areRuns 194 rfl) (by decide) ?_
                              refine x_aload (dT U_L_areRuns 196 rfl) rfl ?_
                              refine x_iload (dT U_L_areRuns 197 rfl) rfl ?_
                              refine x_iaload (i) (dT U_L_areRuns 198 rfl) h_secret_21 (by omega) rfl (by have := (Fl_secret).1; omega) (by have := (Fl_secret).1; omega) ?_
                              refine x_imul (dT U_L_areRuns 199 rfl) ?_
                              refine x_iadd (dT U_L_areRuns 200 rfl) ?_
                              refine x_iload_n (dT U_L_areRuns 201 rfl) rfl ?_
                              refine x_irem (dT U_L_areRuns 202 rfl) (by unfold xr; omega) (by unfold xr; omega) (by omega) ?_
                              rw [Int.tmod_eq_emod_of_nonneg (by omega)]
                              refine x_i2l (dT U_L_areRuns 203 rfl) (xr_md ⟨by omega, by omega⟩) ?_
                              refine x_lif_eq (tgt := 365) (dT U_L_areRuns 204 rfl) (dT U_L_areRuns 205 rfl) (by decide) (xrl_of hz22) (xrl_of (xr_md ⟨by omega, by omega⟩)) (fun c359 => ?_) (fun c359 => ?_)
                              · skip
                                refine x_iinc (ls' := [some (.ref _), some (.ref _), some (vi _), some (vi _), some (vi _), some (.ref _), some (.ref _), some (.ref _), some (vi _), some (vi _), some (vi _), some (vi _), some (vi _), some (vi _), some (vi _), some (vi _)]) (dT U_L_areRuns 208 rfl) (by decide) rfl rfl ?_
                                refine x_goto (tgt := 316) (dT U_L_areRuns 209 rfl) (by decide) ?_
                                
                                refine X_room (by omega) (by omega) (x_drop ?_ (ih (i + 1) (by omega) _ _ _ w21 v21 hlen_21 R0_st_21 R0_t_21 R0_answer_21 R0_c_21 R0_fa_21 R0_w_21 R0_mb_21 R0_mk_21 R0_mask_21 R0_e_21 R0_v_21 R0_form_21 r2_21 r1_21 r0_21 p_21 L_21 h_secret_21 h_form_21 h_mask_21))
                                repeat (first | exact trivial | refine ⟨rfl, ?_⟩ | refine ⟨trivial, ?_⟩)
                              · exfalso
                                exact c359 e22
                      refine X_room (by omega) (by omega) (x_drop ?_ (L21 8 0 (by omega) _ _ _ w19 v19 hlen_19 R0_st_19 R0_t_19 R0_answer_19 R0_c_19 R0_fa_19 R0_w_19 R0_mb_19 R0_mk_19 R0_mask_19 R0_e_19 R0_v_19 R0_form_19 r2_19 r1_19 r0_19 p_19 L_19 h_secret_19 h_form_19 h_mask_19))
                      repeat (first | exact trivial | refine ⟨rfl, ?_⟩ | refine ⟨trivial, ?_⟩)
                    · exfalso
                      omega
        · exfalso
          exact c225 e15

