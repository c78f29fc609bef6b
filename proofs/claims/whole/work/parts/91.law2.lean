theorem x_invokestaticT {G : xG} {mt mt2 : xM} {d d' rc rs rc' rs' rc2 rs2 n pc idx : Nat} {ex : Bool} {ls : List (Option Value)} {st stk : List Value} {h : xH} {Q : xQ} {As : List Value} (hM : xMok mt2 true n) (hL : Cond.methodLink mt.1.cls idx mt2.1 ∈ lw_big) (hd : decode mt.2.1 pc = .ok (.invokestatic idx, 3)) (hhd : mt.2.2.2.2 = []) (hh2 : mt2.2.2.2.2 ≠ [])
    (hst : stk = As.reverse ++ st) (hlen : As.length = n) (hrest : (st.map fun v => v.category).sum ≤ 8) (hdep : d = d' + 1) (hmax : mt2.2.2.1 ≤ 400) (hxa : (xa As).length ≤ mt2.2.2.1)
    (hrc : rc = rc' + rc2) (hrs : rs = rs' + rs2)
    (k : X G mt2 d' rc2 rs2 ex 0 (xe mt2.2.2.1 As) [] h (xRet G mt d rc' rs' (pc + 3) ls st h Q)) : X G mt d rc rs ex pc ls stk h Q := by
  intro p e s m args below meth c K H locs cells slots mc ms lsA hP hS hZ h1 h2 hl
  subst hrc; subst hrs; subst hdep
  refine x_run (st := st) K hhd hS h1 h2 hl (a := (As.map (xv G)).toArray) (h0 := h) ?_
  have hMet := x_metH hxa hM K.2.2.2.2.2.2.2.2.2.2 k
  obtain ⟨m1, m2, m3, m4, m5, m6⟩ := hM
  rw [if_neg hh2] at m4
  rw [if_pos rfl] at m6
  have cw : vx_CSW (xRM (d' + 1) mc ms) s args mt.1.cls idx mt2.1 mt2.2.1 mt2.2.2.1 mt2.2.2.2.1 mt2.2.2.2.2 (xwsH mt2) (xRM d' rc2 rs2) rc2 rs2 n := by
    refine vx_cwSW n (Ts := lw_big) K.2.2.2.2.2.1 (xws_good ?_) rfl rfl rfl ⟨m2.1, m2.2, m3⟩ ⟨Nat.le_refl _, by unfold xRM; dsimp only; omega⟩
    intro w hw
    rcases List.mem_append.mp hw with hw | hw
    · simp only [List.mem_cons, List.not_mem_nil, or_false] at hw
      rcases hw with rfl | rfl | rfl
      · exact hL
      · exact m6
      · exact m5
    · rcases List.mem_cons.mp hw with rfl | hw
      · exact m4
      · exact hw
  refine vx_runSX (As := As.map (xv G)) ⟨K.1, K.2.1, K.2.2.2.1, K.2.2.2.2.1, K.2.2.2.2.2.1⟩ hMet cw ⟨xW.blind, fun U hU hW => ⟨rfl, by rw [hU]; exact hP, by rw [hU]; exact hZ, xSt.moved K.2.2.2.2.2.2.2.2.2.1 hS hW hU⟩⟩ rfl (by rw [List.length_map]; exact hlen) hl.1 ?_ (lv_room (by rw [xcat]; exact hrest)) hd ⟨by unfold xRM; dsimp only; omega, by unfold xRM; dsimp only; omega⟩
  show stk.map (xv G) = _
  rw [hst, List.map_append, List.map_reverse]
def m_L_law : xM := (yL_law, cL_law, 9, (some FieldType.boolean), [])
theorem xr_s (x : Int32) : xr x.toInt := by
  have h1 := Int32.le_toInt x
  have h2 := Int32.toInt_lt x
  unfold xr; omega
theorem xr_l {z : Int} (h : xr z) : xrl z := by unfold xr at h; unfold xrl; omega
theorem xcmp_rf (a : Int) : xcmp a a = 0 := by unfold xcmp; rw [if_neg (by omega)]; first | rfl | (rw [if_pos rfl]) | (rw [if_neg (by omega)])

def t_Lc5 : List (Nat × Instr × Nat) := [(729, .aload_n 1, 1), (730, .aload_n 0, 1), (731, .iload 5, 2), (733, .iconst 1, 1), (734, .iadd, 1), (735, .iaload, 1), (736, .aload_n 3, 1), (737, .invokestatic 261, 3), (740, .istore 6, 2), (742, .aload_n 2, 1), (743, .aload_n 0, 1), (744, .iload 5, 2), (746, .iconst 1, 1), (747, .iadd, 1), (748, .iaload, 1), (749, .invokevirtual 263, 3), (752, .istore 7, 2), (754, .aload_n 2, 1), (755, .invokevirtual 242, 3), (758, .iload 6, 2), (760, .if_icmp .eq 5, 3), (763, .iconst 0, 1), (764, .ireturn, 1), (765, .iload 6, 2), (767, .ifCond .ne 15, 3), (770, .aload_n 3, 1), (771, .iconst 0, 1), (772, .laload, 1), (773, .iload 7, 2), (775, .i2l, 1), (776, .lcmp, 1), (777, .ifCond .eq 5, 3), (780, .iconst 0, 1), (781, .ireturn, 1), (782, .goto 4772, 3)]
theorem U_Lc5 : okT m_L_law.2.1 t_Lc5 = true := by decide +kernel
set_option maxRecDepth 20000 in
set_option maxHeartbeats 1000000 in
theorem LC_5 {G : xG} {d rc rs : Nat} {ex : Bool} {h : xH} {Q : xQ} {σ : St} {c0 : Int} {rr : Nat} {ss : Int} {l0 : Int} {d0 : UInt64} {i : Nat} (hL : G.2.2.2.2.2.1 < 2147483648) (hi : i + 10 ≤ G.2.2.2.2.2.1) (w : CW σ h) (wm : MX σ c0 rr ss h) (v : INV σ) (ho : h[143]? = some (cJ [l0])) (hod : h[144]? = some (cD [d0]))
    (M : ∀ (σ9 : St) (h9 : xH) (e9 : Bool) (c9 : Int) (r9 : Nat) (s9 : Int) (l9 : Int) (d9 : UInt64), INV σ9 → CW σ9 h9 → MX σ9 c9 r9 s9 h9 → h9[143]? = some (cJ [l9]) → h9[144]? = some (cD [d9]) → X G m_L_law (d + 10) rc rs e9 5554 [some (.ref 0), some (.ref 3), some (.ref 70), some (.ref 143), some (.ref 144), some (vi (i : Int)), none, none, none] [] h9 Q) : X G m_L_law (d + 10) (rc + 1) (rs + 6) ex 729 [some (.ref 0), some (.ref 3), some (.ref 70), some (.ref 143), some (.ref 144), some (vi (i : Int)), none, none, none] [] h Q := by
  refine x_aload_n (dT U_Lc5 0 rfl) rfl ?_
  refine x_aload_n (dT U_Lc5 1 rfl) rfl ?_
  refine x_iload (dT U_Lc5 2 rfl) rfl ?_
  refine x_iconst (dT U_Lc5 3 rfl) ?_
  refine x_iadd (dT U_Lc5 4 rfl) ?_
  refine x_sld (i + 1) hL (dT U_Lc5 5 rfl) (by omega) (by omega) ?_
  refine x_aload_n (dT U_Lc5 6 rfl) rfl ?_
  refine x_invokestaticT (rc' := rc) (rs' := rs) (rc2 := 0 + 1) (rs2 := 0 + 6) (As := [_, _, _]) (st := _) M_L_degree K_L_261 (dT U_Lc5 7 rfl) rfl (by decide) rfl rfl (Nat.le_of_ble_eq_true rfl) rfl (by decide) (Nat.le_of_ble_eq_true rfl) (by omega) (by omega) ?_
  refine S_L_degree w v (xr_s _) ho (fun c1 => ?_) (fun c1 z9 hz9 ez9 => ?_)
  · refine xRet_some ?_
    refine x_istore (ls' := [some (.ref _), some (.ref _), some (.ref _), some (.ref _), some (.ref _), some (vi _), some (vi _), none, none]) (dT U_Lc5 8 rfl) (by decide) rfl ?_
    refine x_aload_n (dT U_Lc5 9 rfl) rfl ?_
    refine x_aload_n (dT U_Lc5 10 rfl) rfl ?_
    refine x_iload (dT U_Lc5 11 rfl) rfl ?_
    refine x_iconst (dT U_Lc5 12 rfl) ?_
    refine x_iadd (dT U_Lc5 13 rfl) ?_
    refine x_sld (i + 1) hL (dT U_Lc5 14 rfl) (by omega) (by omega) ?_
    refine x_invokevirtual (rc' := rc) (rs' := rs) (rc2 := 0) (rs2 := 0) (As := [_]) (st := _) M_X11_degree K_L_263 (dT U_Lc5 15 rfl) rfl rfl (by decide) rfl rfl wm.c70 (Nat.le_of_ble_eq_true rfl) (by decide) rfl (Nat.le_of_ble_eq_true rfl) rfl (by decide) (Nat.le_of_ble_eq_true rfl) rfl rfl ?_
    refine S_X11_degree wm v (xr_s _) (fun m1 h3 z ag wx xz => ?_) (fun m1 _ _ _ _ _ => absurd m1 c1)
    refine xRet_some ?_
    refine x_istore (ls' := [some (.ref _), some (.ref _), some (.ref _), some (.ref _), some (.ref _), some (vi _), some (vi _), some (vi _), none]) (dT U_Lc5 16 rfl) (by decide) rfl ?_
    refine x_aload_n (dT U_Lc5 17 rfl) rfl ?_
    refine x_invokevirtual (rc' := rc) (rs' := rs) (rc2 := 0) (rs2 := 0) (As := []) (st := _) M_X11_thrown K_L_242 (dT U_Lc5 18 rfl) rfl rfl (by decide) rfl rfl wx.c70 (Nat.le_of_ble_eq_true rfl) (by decide) rfl (Nat.le_of_ble_eq_true rfl) rfl (by decide) (Nat.le_of_ble_eq_true rfl) rfl rfl ?_
    refine S_X11_thrown wx ?_
    refine xRet_some ?_
    refine x_iload (dT U_Lc5 19 rfl) rfl ?_
    refine x_icmp_eq (tgt := 765) (dT U_Lc5 20 rfl) (by decide) (by unfold xr; omega) (by unfold xr; omega) (fun c760 => ?_) (fun c760 => (by exfalso; omega))
    refine x_iload (dT U_Lc5 23 rfl) rfl ?_
    refine x_if_nej (tgt := 782) (dT U_Lc5 24 rfl) (by decide) (by decide) ?_
    refine x_goto (tgt := 5554) (dT U_Lc5 34 rfl) (by decide) ?_
    refine x_drop ?_ (M _ _ _ _ _ _ _ _ v (w.out ag (by omega)) wx (ag.get ho (by omega)) (ag.get hod (by omega)))
    repeat (first | exact trivial | refine ⟨rfl, ?_⟩ | refine ⟨trivial, ?_⟩)
  · refine xRet_some ?_
    have wmx := wm.out (h2 := (h.set 143 (cJ [z9]))) (fun a ha => by rw [hset_fr (by omega)])
    refine x_istore (ls' := [some (.ref _), some (.ref _), some (.ref _), some (.ref _), some (.ref _), some (vi _), some (vi _), none, none]) (dT U_Lc5 8 rfl) (by decide) rfl ?_
    refine x_aload_n (dT U_Lc5 9 rfl) rfl ?_
    refine x_aload_n (dT U_Lc5 10 rfl) rfl ?_
    refine x_iload (dT U_Lc5 11 rfl) rfl ?_
    refine x_iconst (dT U_Lc5 12 rfl) ?_
    refine x_iadd (dT U_Lc5 13 rfl) ?_
    refine x_sld (i + 1) hL (dT U_Lc5 14 rfl) (by omega) (by omega) ?_
    refine x_invokevirtual (rc' := rc) (rs' := rs) (rc2 := 0) (rs2 := 0) (As := [_]) (st := _) M_X11_degree K_L_263 (dT U_Lc5 15 rfl) rfl rfl (by decide) rfl rfl wmx.c70 (Nat.le_of_ble_eq_true rfl) (by decide) rfl (Nat.le_of_ble_eq_true rfl) rfl (by decide) (Nat.le_of_ble_eq_true rfl) rfl rfl ?_
    refine S_X11_degree wmx v (xr_s _) (fun m1 _ _ _ _ _ => absurd c1 m1) (fun m1 h3 r3 s3 ag wx => ?_)
    refine xRet_some ?_
    rw [ez9]
    refine x_istore (ls' := [some (.ref _), some (.ref _), some (.ref _), some (.ref _), some (.ref _), some (vi _), some (vi _), some (vi _), none]) (dT U_Lc5 16 rfl) (by decide) rfl ?_
    refine x_aload_n (dT U_Lc5 17 rfl) rfl ?_
    refine x_invokevirtual (rc' := rc) (rs' := rs) (rc2 := 0) (rs2 := 0) (As := []) (st := _) M_X11_thrown K_L_242 (dT U_Lc5 18 rfl) rfl rfl (by decide) rfl rfl wx.c70 (Nat.le_of_ble_eq_true rfl) (by decide) rfl (Nat.le_of_ble_eq_true rfl) rfl (by decide) (Nat.le_of_ble_eq_true rfl) rfl rfl ?_
    refine S_X11_thrown wx ?_
    refine xRet_some ?_
    refine x_iload (dT U_Lc5 19 rfl) rfl ?_
    refine x_icmp_eq (tgt := 765) (dT U_Lc5 20 rfl) (by decide) (by unfold xr; omega) (by unfold xr; omega) (fun c760 => ?_) (fun c760 => (by exfalso; omega))
    refine x_iload (dT U_Lc5 23 rfl) rfl ?_
    refine x_if_nen (tgt := 782) (dT U_Lc5 24 rfl) (by decide) (by decide) ?_
    refine x_aload_n (dT U_Lc5 25 rfl) rfl ?_
    refine x_iconst (dT U_Lc5 26 rfl) ?_
    refine x_laload 0 (dT U_Lc5 27 rfl) (ag.get (hset_eq ho) (by omega)) (Nat.le_of_ble_eq_true rfl) rfl (Nat.le_of_ble_eq_true rfl) (Nat.le_of_ble_eq_true rfl) ?_
    refine x_iload (dT U_Lc5 28 rfl) rfl ?_
    refine x_i2l (dT U_Lc5 29 rfl) hz9 ?_
    refine x_lcmp (dT U_Lc5 30 rfl) (xr_l hz9) (xr_l hz9) ?_
    refine x_if_eqj (tgt := 782) (dT U_Lc5 31 rfl) (by decide) (xcmp_rf _) ?_
    refine x_goto (tgt := 5554) (dT U_Lc5 34 rfl) (by decide) ?_
    refine x_drop ?_ (M _ _ _ _ _ _ _ _ v ((w.out ((Ag.rf 143 143 h).set (by omega)) (by omega)).out ag (by omega)) wx (ag.get (hset_eq ho) (by omega)) (ag.get (hset_ne (by omega) hod) (by omega)))
    repeat (first | exact trivial | refine ⟨rfl, ?_⟩ | refine ⟨trivial, ?_⟩)

def t_Lc13 : List (Nat × Instr × Nat) := [(1345, .aload_n 1, 1), (1346, .aload_n 0, 1), (1347, .iload 5, 2), (1349, .iconst 1, 1), (1350, .iadd, 1), (1351, .iaload, 1), (1352, .aload_n 0, 1), (1353, .iload 5, 2), (1355, .iconst 2, 1), (1356, .iadd, 1), (1357, .iaload, 1), (1358, .aload_n 3, 1), (1359, .invokestatic 286, 3), (1362, .istore 6, 2), (1364, .aload_n 2, 1), (1365, .aload_n 0, 1), (1366, .iload 5, 2), (1368, .iconst 1, 1), (1369, .iadd, 1), (1370, .iaload, 1), (1371, .aload_n 0, 1), (1372, .iload 5, 2), (1374, .iconst 2, 1), (1375, .iadd, 1), (1376, .iaload, 1), (1377, .invokevirtual 288, 3), (1380, .istore 7, 2), (1382, .aload_n 2, 1), (1383, .invokevirtual 242, 3), (1386, .iload 6, 2), (1388, .if_icmp .eq 5, 3), (1391, .iconst 0, 1), (1392, .ireturn, 1), (1393, .iload 6, 2), (1395, .ifCond .ne 22, 3), (1398, .aload_n 3, 1), (1399, .iconst 0, 1), (1400, .laload, 1), (1401, .iload 7, 2), (1403, .ifCond .eq 7, 3), (1406, .lconst 1, 1), (1407, .goto 4, 3), (1410, .lconst 0, 1), (1411, .lcmp, 1), (1412, .ifCond .eq 5, 3), (1415, .iconst 0, 1), (1416, .ireturn, 1), (1417, .goto 4137, 3)]
theorem U_Lc13 : okT m_L_law.2.1 t_Lc13 = true := by decide +kernel
set_option maxRecDepth 20000 in
set_option maxHeartbeats 1000000 in
theorem LC_13 {G : xG} {d rc rs : Nat} {ex : Bool} {h : xH} {Q : xQ} {σ : St} {c0 : Int} {rr : Nat} {ss : Int} {l0 : Int} {d0 : UInt64} {i : Nat} (hL : G.2.2.2.2.2.1 < 2147483648) (hi : i + 10 ≤ G.2.2.2.2.2.1) (w : CW σ h) (wm : MX σ c0 rr ss h) (v : INV σ) (ho : h[143]? = some (cJ [l0])) (hod : h[144]? = some (cD [d0]))
    (M : ∀ (σ9 : St) (h9 : xH) (e9 : Bool) (c9 : Int) (r9 : Nat) (s9 : Int) (l9 : Int) (d9 : UInt64), INV σ9 → CW σ9 h9 → MX σ9 c9 r9 s9 h9 → h9[143]? = some (cJ [l9]) → h9[144]? = some (cD [d9]) → X G m_L_law (d + 10) rc rs e9 5554 [some (.ref 0), some (.ref 3), some (.ref 70), some (.ref 143), some (.ref 144), some (vi (i : Int)), none, none, none] [] h9 Q) : X G m_L_law (d + 10) (rc + 2) (rs + 12) ex 1345 [some (.ref 0), some (.ref 3), some (.ref 70), some (.ref 143), some (.ref 144), some (vi (i : Int)), none, none, none] [] h Q := by
  refine x_aload_n (dT U_Lc13 0 rfl) rfl ?_
  refine x_aload_n (dT U_Lc13 1 rfl) rfl ?_
  refine x_iload (dT U_Lc13 2 rfl) rfl ?_
  refine x_iconst (dT U_Lc13 3 rfl) ?_
  refine x_iadd (dT U_Lc13 4 rfl) ?_
  refine x_sld (i + 1) hL (dT U_Lc13 5 rfl) (by omega) (by omega) ?_
  refine x_aload_n (dT U_Lc13 6 rfl) rfl ?_
  refine x_iload (dT U_Lc13 7 rfl) rfl ?_
  refine x_iconst (dT U_Lc13 8 rfl) ?_
  refine x_iadd (dT U_Lc13 9 rfl) ?_
  refine x_sld (i + 2) hL (dT U_Lc13 10 rfl) (by omega) (by omega) ?_
  refine x_aload_n (dT U_Lc13 11 rfl) rfl ?_
  refine x_invokestaticT (rc' := rc) (rs' := rs) (rc2 := 0 + 2) (rs2 := 0 + 12) (As := [_, _, _, _]) (st := _) M_L_isMixed K_L_286 (dT U_Lc13 12 rfl) rfl (by decide) rfl rfl (Nat.le_of_ble_eq_true rfl) rfl (by decide) (Nat.le_of_ble_eq_true rfl) (by omega) (by omega) ?_
  refine S_L_isMixed w v (xr_s _) (xr_s _) ho (fun c1 => ?_) (fun c1 c2 => ?_) (fun c1 c2 => ?_)
  · refine xRet_some ?_
    refine x_istore (ls' := [some (.ref _), some (.ref _), some (.ref _), some (.ref _), some (.ref _), some (vi _), some (vi _), none, none]) (dT U_Lc13 13 rfl) (by decide) rfl ?_
    refine x_aload_n (dT U_Lc13 14 rfl) rfl ?_
    refine x_aload_n (dT U_Lc13 15 rfl) rfl ?_
    refine x_iload (dT U_Lc13 16 rfl) rfl ?_
    refine x_iconst (dT U_Lc13 17 rfl) ?_
    refine x_iadd (dT U_Lc13 18 rfl) ?_
    refine x_sld (i + 1) hL (dT U_Lc13 19 rfl) (by omega) (by omega) ?_
    refine x_aload_n (dT U_Lc13 20 rfl) rfl ?_
    refine x_iload (dT U_Lc13 21 rfl) rfl ?_
    refine x_iconst (dT U_Lc13 22 rfl) ?_
    refine x_iadd (dT U_Lc13 23 rfl) ?_
    refine x_sld (i + 2) hL (dT U_Lc13 24 rfl) (by omega) (by omega) ?_
    refine x_invokevirtual (rc' := rc) (rs' := rs) (rc2 := 0) (rs2 := 0) (As := [_, _]) (st := _) M_X11_isMixed K_L_288 (dT U_Lc13 25 rfl) rfl rfl (by decide) rfl rfl wm.c70 (Nat.le_of_ble_eq_true rfl) (by decide) rfl (Nat.le_of_ble_eq_true rfl) rfl (by decide) (Nat.le_of_ble_eq_true rfl) rfl rfl ?_
    refine S_X11_isMixed wm v (xr_s _) (xr_s _) (fun m1 h3 z ag wx xz => ?_) (fun m1 m2 _ _ _ _ _ => absurd m1 c1) (fun m1 m2 _ _ _ _ _ => absurd m1 c1)
    refine xRet_some ?_
    refine x_istore (ls' := [some (.ref _), some (.ref _), some (.ref _), some (.ref _), some (.ref _), some (vi _), some (vi _), some (vi _), none]) (dT U_Lc13 26 rfl) (by decide) rfl ?_
    refine x_aload_n (dT U_Lc13 27 rfl) rfl ?_
    refine x_invokevirtual (rc' := rc) (rs' := rs) (rc2 := 0) (rs2 := 0) (As := []) (st := _) M_X11_thrown K_L_242 (dT U_Lc13 28 rfl) rfl rfl (by decide) rfl rfl wx.c70 (Nat.le_of_ble_eq_true rfl) (by decide) rfl (Nat.le_of_ble_eq_true rfl) rfl (by decide) (Nat.le_of_ble_eq_true rfl) rfl rfl ?_
    refine S_X11_thrown wx ?_
    refine xRet_some ?_
    refine x_iload (dT U_Lc13 29 rfl) rfl ?_
    refine x_icmp_eq (tgt := 1393) (dT U_Lc13 30 rfl) (by decide) (by unfold xr; omega) (by unfold xr; omega) (fun c1388 => ?_) (fun c1388 => (by exfalso; omega))
    refine x_iload (dT U_Lc13 33 rfl) rfl ?_
    refine x_if_nej (tgt := 1417) (dT U_Lc13 34 rfl) (by decide) (by decide) ?_
    refine x_goto (tgt := 5554) (dT U_Lc13 47 rfl) (by decide) ?_
    refine x_drop ?_ (M _ _ _ _ _ _ _ _ v (w.out ag (by omega)) wx (ag.get ho (by omega)) (ag.get hod (by omega)))
    repeat (first | exact trivial | refine ⟨rfl, ?_⟩ | refine ⟨trivial, ?_⟩)
  · refine xRet_some ?_
    have wmx := wm.out (h2 := (h.set 143 (cJ [1]))) (fun a ha => by rw [hset_fr (by omega)])
    refine x_istore (ls' := [some (.ref _), some (.ref _), some (.ref _), some (.ref _), some (.ref _), some (vi _), some (vi _), none, none]) (dT U_Lc13 13 rfl) (by decide) rfl ?_
    refine x_aload_n (dT U_Lc13 14 rfl) rfl ?_
    refine x_aload_n (dT U_Lc13 15 rfl) rfl ?_
    refine x_iload (dT U_Lc13 16 rfl) rfl ?_
    refine x_iconst (dT U_Lc13 17 rfl) ?_
    refine x_iadd (dT U_Lc13 18 rfl) ?_
    refine x_sld (i + 1) hL (dT U_Lc13 19 rfl) (by omega) (by omega) ?_
    refine x_aload_n (dT U_Lc13 20 rfl) rfl ?_
    refine x_iload (dT U_Lc13 21 rfl) rfl ?_
    refine x_iconst (dT U_Lc13 22 rfl) ?_
    refine x_iadd (dT U_Lc13 23 rfl) ?_
    refine x_sld (i + 2) hL (dT U_Lc13 24 rfl) (by omega) (by omega) ?_
    refine x_invokevirtual (rc' := rc) (rs' := rs) (rc2 := 0) (rs2 := 0) (As := [_, _]) (st := _) M_X11_isMixed K_L_288 (dT U_Lc13 25 rfl) rfl rfl (by decide) rfl rfl wmx.c70 (Nat.le_of_ble_eq_true rfl) (by decide) rfl (Nat.le_of_ble_eq_true rfl) rfl (by decide) (Nat.le_of_ble_eq_true rfl) rfl rfl ?_
    refine S_X11_isMixed wmx v (xr_s _) (xr_s _) (fun m1 _ _ _ _ _ => absurd c1 m1) (fun m1 m2 h3 r3 s3 ag wx => ?_) (fun m1 m2 _ _ _ _ _ => absurd c2 m2)
    refine xRet_some ?_
    refine x_istore (ls' := [some (.ref _), some (.ref _), some (.ref _), some (.ref _), some (.ref _), some (vi _), some (vi _), some (vi _), none]) (dT U_Lc13 26 rfl) (by decide) rfl ?_
    refine x_aload_n (dT U_Lc13 27 rfl) rfl ?_
    refine x_invokevirtual (rc' := rc) (rs' := rs) (rc2 := 0) (rs2 := 0) (As := []) (st := _) M_X11_thrown K_L_242 (dT U_Lc13 28 rfl) rfl rfl (by decide) rfl rfl wx.c70 (Nat.le_of_ble_eq_true rfl) (by decide) rfl (Nat.le_of_ble_eq_true rfl) rfl (by decide) (Nat.le_of_ble_eq_true rfl) rfl rfl ?_
    refine S_X11_thrown wx ?_
    refine xRet_some ?_
    refine x_iload (dT U_Lc13 29 rfl) rfl ?_
    refine x_icmp_eq (tgt := 1393) (dT U_Lc13 30 rfl) (by decide) (by unfold xr; omega) (by unfold xr; omega) (fun c1388 => ?_) (fun c1388 => (by exfalso; omega))
    refine x_iload (dT U_Lc13 33 rfl) rfl ?_
    refine x_if_nen (tgt := 1417) (dT U_Lc13 34 rfl) (by decide) (by decide) ?_
    refine x_aload_n (dT U_Lc13 35 rfl) rfl ?_
    refine x_iconst (dT U_Lc13 36 rfl) ?_
    refine x_laload 0 (dT U_Lc13 37 rfl) (ag.get (hset_eq ho) (by omega)) (Nat.le_of_ble_eq_true rfl) rfl (Nat.le_of_ble_eq_true rfl) (Nat.le_of_ble_eq_true rfl) ?_
    refine x_iload (dT U_Lc13 38 rfl) rfl ?_
    refine x_if_eqn (tgt := 1410) (dT U_Lc13 39 rfl) (by decide) (by decide) ?_
    refine x_lconst (z := 1) (dT U_Lc13 40 rfl) rfl ?_
    refine x_goto (tgt := 1411) (dT U_Lc13 41 rfl) (by decide) ?_
    refine x_lcmp (dT U_Lc13 43 rfl) (by unfold xrl; decide) (by unfold xrl; decide) ?_
    refine x_if_eqj (tgt := 1417) (dT U_Lc13 44 rfl) (by decide) (xcmp_rf _) ?_
    refine x_goto (tgt := 5554) (dT U_Lc13 47 rfl) (by decide) ?_
    refine x_drop ?_ (M _ _ _ _ _ _ _ _ v ((w.out ((Ag.rf 143 143 h).set (by omega)) (by omega)).out ag (by omega)) wx (ag.get (hset_eq ho) (by omega)) (ag.get (hset_ne (by omega) hod) (by omega)))
    repeat (first | exact trivial | refine ⟨rfl, ?_⟩ | refine ⟨trivial, ?_⟩)
  · refine xRet_some ?_
    have wmx := wm.out (h2 := (h.set 143 (cJ [0]))) (fun a ha => by rw [hset_fr (by omega)])
    refine x_istore (ls' := [some (.ref _), some (.ref _), some (.ref _), some (.ref _), some (.ref _), some (vi _), some (vi _), none, none]) (dT U_Lc13 13 rfl) (by decide) rfl ?_
    refine x_aload_n (dT U_Lc13 14 rfl) rfl ?_
    refine x_aload_n (dT U_Lc13 15 rfl) rfl ?_
    refine x_iload (dT U_Lc13 16 rfl) rfl ?_
    refine x_iconst (dT U_Lc13 17 rfl) ?_
    refine x_iadd (dT U_Lc13 18 rfl) ?_
    refine x_sld (i + 1) hL (dT U_Lc13 19 rfl) (by omega) (by omega) ?_
    refine x_aload_n (dT U_Lc13 20 rfl) rfl ?_
    refine x_iload (dT U_Lc13 21 rfl) rfl ?_
    refine x_iconst (dT U_Lc13 22 rfl) ?_
    refine x_iadd (dT U_Lc13 23 rfl) ?_
    refine x_sld (i + 2) hL (dT U_Lc13 24 rfl) (by omega) (by omega) ?_
    refine x_invokevirtual (rc' := rc) (rs' := rs) (rc2 := 0) (rs2 := 0) (As := [_, _]) (st := _) M_X11_isMixed K_L_288 (dT U_Lc13 25 rfl) rfl rfl (by decide) rfl rfl wmx.c70 (Nat.le_of_ble_eq_true rfl) (by decide) rfl (Nat.le_of_ble_eq_true rfl) rfl (by decide) (Nat.le_of_ble_eq_true rfl) rfl rfl ?_
    refine S_X11_isMixed wmx v (xr_s _) (xr_s _) (fun m1 _ _ _ _ _ => absurd c1 m1) (fun m1 m2 _ _ _ _ _ => absurd m2 c2) (fun m1 m2 h3 r3 s3 ag wx => ?_)
    refine xRet_some ?_
    refine x_istore (ls' := [some (.ref _), some (.ref _), some (.ref _), some (.ref _), some (.ref _), some (vi _), some (vi _), some (vi _), none]) (dT U_Lc13 26 rfl) (by decide) rfl ?_
    refine x_aload_n (dT U_Lc13 27 rfl) rfl ?_
    refine x_invokevirtual (rc' := rc) (rs' := rs) (rc2 := 0) (rs2 := 0) (As := []) (st := _) M_X11_thrown K_L_242 (dT U_Lc13 28 rfl) rfl rfl (by decide) rfl rfl wx.c70 (Nat.le_of_ble_eq_true rfl) (by decide) rfl (Nat.le_of_ble_eq_true rfl) rfl (by decide) (Nat.le_of_ble_eq_true rfl) rfl rfl ?_
    refine S_X11_thrown wx ?_
    refine xRet_some ?_
    refine x_iload (dT U_Lc13 29 rfl) rfl ?_
    refine x_icmp_eq (tgt := 1393) (dT U_Lc13 30 rfl) (by decide) (by unfold xr; omega) (by unfold xr; omega) (fun c1388 => ?_) (fun c1388 => (by exfalso; omega))
    refine x_iload (dT U_Lc13 33 rfl) rfl ?_
    refine x_if_nen (tgt := 1417) (dT U_Lc13 34 rfl) (by decide) (by decide) ?_
    refine x_aload_n (dT U_Lc13 35 rfl) rfl ?_
    refine x_iconst (dT U_Lc13 36 rfl) ?_
    refine x_laload 0 (dT U_Lc13 37 rfl) (ag.get (hset_eq ho) (by omega)) (Nat.le_of_ble_eq_true rfl) rfl (Nat.le_of_ble_eq_true rfl) (Nat.le_of_ble_eq_true rfl) ?_
    refine x_iload (dT U_Lc13 38 rfl) rfl ?_
    refine x_if_eqj (tgt := 1410) (dT U_Lc13 39 rfl) (by decide) (by decide) ?_
    refine x_lconst (z := 0) (dT U_Lc13 42 rfl) rfl ?_
    refine x_lcmp (dT U_Lc13 43 rfl) (by unfold xrl; decide) (by unfold xrl; decide) ?_
    refine x_if_eqj (tgt := 1417) (dT U_Lc13 44 rfl) (by decide) (xcmp_rf _) ?_
    refine x_goto (tgt := 5554) (dT U_Lc13 47 rfl) (by decide) ?_
    refine x_drop ?_ (M _ _ _ _ _ _ _ _ v ((w.out ((Ag.rf 143 143 h).set (by omega)) (by omega)).out ag (by omega)) wx (ag.get (hset_eq ho) (by omega)) (ag.get (hset_ne (by omega) hod) (by omega)))
    repeat (first | exact trivial | refine ⟨rfl, ?_⟩ | refine ⟨trivial, ?_⟩)

def t_Lc38 : List (Nat × Instr × Nat) := [(3271, .aload_n 1, 1), (3272, .aload_n 0, 1), (3273, .iload 5, 2), (3275, .iconst 1, 1), (3276, .iadd, 1), (3277, .iaload, 1), (3278, .aload_n 0, 1), (3279, .iload 5, 2), (3281, .iconst 2, 1), (3282, .iadd, 1), (3283, .iaload, 1), (3284, .aload_n 0, 1), (3285, .iload 5, 2), (3287, .iconst 3, 1), (3288, .iadd, 1), (3289, .iaload, 1), (3290, .aload_n 3, 1), (3291, .invokestatic 363, 3), (3294, .istore 6, 2), (3296, .aload_n 2, 1), (3297, .aload_n 0, 1), (3298, .iload 5, 2), (3300, .iconst 1, 1), (3301, .iadd, 1), (3302, .iaload, 1), (3303, .aload_n 0, 1), (3304, .iload 5, 2), (3306, .iconst 2, 1), (3307, .iadd, 1), (3308, .iaload, 1), (3309, .aload_n 0, 1), (3310, .iload 5, 2), (3312, .iconst 3, 1), (3313, .iadd, 1), (3314, .iaload, 1), (3315, .invokevirtual 365, 3), (3318, .istore 7, 2), (3320, .aload_n 2, 1), (3321, .invokevirtual 242, 3), (3324, .iload 6, 2), (3326, .if_icmp .eq 5, 3), (3329, .iconst 0, 1), (3330, .ireturn, 1), (3331, .iload 6, 2), (3333, .ifCond .ne 22, 3), (3336, .aload_n 3, 1), (3337, .iconst 0, 1), (3338, .laload, 1), (3339, .iload 7, 2), (3341, .ifCond .eq 7, 3), (3344, .lconst 1, 1), (3345, .goto 4, 3), (3348, .lconst 0, 1), (3349, .lcmp, 1), (3350, .ifCond .eq 5, 3), (3353, .iconst 0, 1), (3354, .ireturn, 1), (3355, .goto 2199, 3)]
theorem U_Lc38 : okT m_L_law.2.1 t_Lc38 = true := by decide +kernel
set_option maxRecDepth 20000 in
set_option maxHeartbeats 1000000 in
theorem LC_38 {G : xG} {d rc rs : Nat} {ex : Bool} {h : xH} {Q : xQ} {σ : St} {c0 : Int} {rr : Nat} {ss : Int} {l0 : Int} {d0 : UInt64} {i : Nat} (hL : G.2.2.2.2.2.1 < 2147483648) (hi : i + 10 ≤ G.2.2.2.2.2.1) (w : CW σ h) (wm : MX σ c0 rr ss h) (v : INV σ) (ho : h[143]? = some (cJ [l0])) (hod : h[144]? = some (cD [d0]))
    (M : ∀ (σ9 : St) (h9 : xH) (e9 : Bool) (c9 : Int) (r9 : Nat) (s9 : Int) (l9 : Int) (d9 : UInt64), INV σ9 → CW σ9 h9 → MX σ9 c9 r9 s9 h9 → h9[143]? = some (cJ [l9]) → h9[144]? = some (cD [d9]) → X G m_L_law (d + 10) rc rs e9 5554 [some (.ref 0), some (.ref 3), some (.ref 70), some (.ref 143), some (.ref 144), some (vi (i : Int)), none, none, none] [] h9 Q) : X G m_L_law (d + 10) (rc + 4) (rs + 24) ex 3271 [some (.ref 0), some (.ref 3), some (.ref 70), some (.ref 143), some (.ref 144), some (vi (i : Int)), none, none, none] [] h Q := by
  refine x_aload_n (dT U_Lc38 0 rfl) rfl ?_
  refine x_aload_n (dT U_Lc38 1 rfl) rfl ?_
  refine x_iload (dT U_Lc38 2 rfl) rfl ?_
  refine x_iconst (dT U_Lc38 3 rfl) ?_
  refine x_iadd (dT U_Lc38 4 rfl) ?_
  refine x_sld (i + 1) hL (dT U_Lc38 5 rfl) (by omega) (by omega) ?_
  refine x_aload_n (dT U_Lc38 6 rfl) rfl ?_
  refine x_iload (dT U_Lc38 7 rfl) rfl ?_
  refine x_iconst (dT U_Lc38 8 rfl) ?_
  refine x_iadd (dT U_Lc38 9 rfl) ?_
  refine x_sld (i + 2) hL (dT U_Lc38 10 rfl) (by omega) (by omega) ?_
  refine x_aload_n (dT U_Lc38 11 rfl) rfl ?_
  refine x_iload (dT U_Lc38 12 rfl) rfl ?_
  refine x_iconst (dT U_Lc38 13 rfl) ?_
  refine x_iadd (dT U_Lc38 14 rfl) ?_
  refine x_sld (i + 3) hL (dT U_Lc38 15 rfl) (by omega) (by omega) ?_
  refine x_aload_n (dT U_Lc38 16 rfl) rfl ?_
  refine x_invokestaticT (rc' := rc) (rs' := rs) (rc2 := 0 + 4) (rs2 := 0 + 24) (As := [_, _, _, _, _]) (st := _) M_L_fits K_L_363 (dT U_Lc38 17 rfl) rfl (by decide) rfl rfl (Nat.le_of_ble_eq_true rfl) rfl (by decide) (Nat.le_of_ble_eq_true rfl) (by omega) (by omega) ?_
  refine S_L_fits w v (xr_s _) (xr_s _) (xr_s _) ho (fun c1 => ?_) (fun c1 c2 => ?_) (fun c1 c2 c3 => ?_) (fun c1 c2 c3 c4 => ?_) (fun c1 c2 c3 c4 => ?_)
  · refine xRet_some ?_
    refine x_istore (ls' := [some (.ref _), some (.ref _), some (.ref _), some (.ref _), some (.ref _), some (vi _), some (vi _), none, none]) (dT U_Lc38 18 rfl) (by decide) rfl ?_
    refine x_aload_n (dT U_Lc38 19 rfl) rfl ?_
    refine x_aload_n (dT U_Lc38 20 rfl) rfl ?_
    refine x_iload (dT U_Lc38 21 rfl) rfl ?_
    refine x_iconst (dT U_Lc38 22 rfl) ?_
    refine x_iadd (dT U_Lc38 23 rfl) ?_
    refine x_sld (i + 1) hL (dT U_Lc38 24 rfl) (by omega) (by omega) ?_
    refine x_aload_n (dT U_Lc38 25 rfl) rfl ?_
    refine x_iload (dT U_Lc38 26 rfl) rfl ?_
    refine x_iconst (dT U_Lc38 27 rfl) ?_
    refine x_iadd (dT U_Lc38 28 rfl) ?_
    refine x_sld (i + 2) hL (dT U_Lc38 29 rfl) (by omega) (by omega) ?_
    refine x_aload_n (dT U_Lc38 30 rfl) rfl ?_
    refine x_iload (dT U_Lc38 31 rfl) rfl ?_
    refine x_iconst (dT U_Lc38 32 rfl) ?_
    refine x_iadd (dT U_Lc38 33 rfl) ?_
    refine x_sld (i + 3) hL (dT U_Lc38 34 rfl) (by omega) (by omega) ?_
    refine x_invokevirtual (rc' := rc) (rs' := rs) (rc2 := 0) (rs2 := 0) (As := [_, _, _]) (st := _) M_X11_fits K_L_365 (dT U_Lc38 35 rfl) rfl rfl (by decide) rfl rfl wm.c70 (Nat.le_of_ble_eq_true rfl) (by decide) rfl (Nat.le_of_ble_eq_true rfl) rfl (by decide) (Nat.le_of_ble_eq_true rfl) rfl rfl ?_
    refine S_X11_fits wm v (xr_s _) (xr_s _) (xr_s _) (fun m1 h3 z ag wx xz => ?_) (fun m1 m2 _ _ _ _ _ => absurd m1 c1) (fun m1 m2 m3 _ _ _ _ _ => absurd m1 c1) (fun m1 m2 m3 m4 _ _ _ _ _ => absurd m1 c1) (fun m1 m2 m3 m4 _ _ _ _ _ => absurd m1 c1)
    refine xRet_some ?_
    refine x_istore (ls' := [some (.ref _), some (.ref _), some (.ref _), some (.ref _), some (.ref _), some (vi _), some (vi _), some (vi _), none]) (dT U_Lc38 36 rfl) (by decide) rfl ?_
    refine x_aload_n (dT U_Lc38 37 rfl) rfl ?_
    refine x_invokevirtual (rc' := rc) (rs' := rs) (rc2 := 0) (rs2 := 0) (As := []) (st := _) M_X11_thrown K_L_242 (dT U_Lc38 38 rfl) rfl rfl (by decide) rfl rfl wx.c70 (Nat.le_of_ble_eq_true rfl) (by decide) rfl (Nat.le_of_ble_eq_true rfl) rfl (by decide) (Nat.le_of_ble_eq_true rfl) rfl rfl ?_
    refine S_X11_thrown wx ?_
    refine xRet_some ?_
    refine x_iload (dT U_Lc38 39 rfl) rfl ?_
    refine x_icmp_eq (tgt := 3331) (dT U_Lc38 40 rfl) (by decide) (by unfold xr; omega) (by unfold xr; omega) (fun c3326 => ?_) (fun c3326 => (by exfalso; omega))
    refine x_iload (dT U_Lc38 43 rfl) rfl ?_
    refine x_if_nej (tgt := 3355) (dT U_Lc38 44 rfl) (by decide) (by decide) ?_
    refine x_goto (tgt := 5554) (dT U_Lc38 57 rfl) (by decide) ?_
    refine x_drop ?_ (M _ _ _ _ _ _ _ _ v (w.out ag (by omega)) wx (ag.get ho (by omega)) (ag.get hod (by omega)))
    repeat (first | exact trivial | refine ⟨rfl, ?_⟩ | refine ⟨trivial, ?_⟩)
  · refine xRet_some ?_
    refine x_istore (ls' := [some (.ref _), some (.ref _), some (.ref _), some (.ref _), some (.ref _), some (vi _), some (vi _), none, none]) (dT U_Lc38 18 rfl) (by decide) rfl ?_
    refine x_aload_n (dT U_Lc38 19 rfl) rfl ?_
    refine x_aload_n (dT U_Lc38 20 rfl) rfl ?_
    refine x_iload (dT U_Lc38 21 rfl) rfl ?_
    refine x_iconst (dT U_Lc38 22 rfl) ?_
    refine x_iadd (dT U_Lc38 23 rfl) ?_
    refine x_sld (i + 1) hL (dT U_Lc38 24 rfl) (by omega) (by omega) ?_
    refine x_aload_n (dT U_Lc38 25 rfl) rfl ?_
    refine x_iload (dT U_Lc38 26 rfl) rfl ?_
    refine x_iconst (dT U_Lc38 27 rfl) ?_
    refine x_iadd (dT U_Lc38 28 rfl) ?_
    refine x_sld (i + 2) hL (dT U_Lc38 29 rfl) (by omega) (by omega) ?_
    refine x_aload_n (dT U_Lc38 30 rfl) rfl ?_
    refine x_iload (dT U_Lc38 31 rfl) rfl ?_
    refine x_iconst (dT U_Lc38 32 rfl) ?_
    refine x_iadd (dT U_Lc38 33 rfl) ?_
    refine x_sld (i + 3) hL (dT U_Lc38 34 rfl) (by omega) (by omega) ?_
    refine x_invokevirtual (rc' := rc) (rs' := rs) (rc2 := 0) (rs2 := 0) (As := [_, _, _]) (st := _) M_X11_fits K_L_365 (dT U_Lc38 35 rfl) rfl rfl (by decide) rfl rfl wm.c70 (Nat.le_of_ble_eq_true rfl) (by decide) rfl (Nat.le_of_ble_eq_true rfl) rfl (by decide) (Nat.le_of_ble_eq_true rfl) rfl rfl ?_
    refine S_X11_fits wm v (xr_s _) (xr_s _) (xr_s _) (fun m1 _ _ _ _ _ => absurd c1 m1) (fun m1 m2 h3 z ag wx xz => ?_) (fun m1 m2 m3 _ _ _ _ _ => absurd m2 c2) (fun m1 m2 m3 m4 _ _ _ _ _ => absurd m2 c2) (fun m1 m2 m3 m4 _ _ _ _ _ => absurd m2 c2)
    refine xRet_some ?_
    refine x_istore (ls' := [some (.ref _), some (.ref _), some (.ref _), some (.ref _), some (.ref _), some (vi _), some (vi _), some (vi _), none]) (dT U_Lc38 36 rfl) (by decide) rfl ?_
    refine x_aload_n (dT U_Lc38 37 rfl) rfl ?_
    refine x_invokevirtual (rc' := rc) (rs' := rs) (rc2 := 0) (rs2 := 0) (As := []) (st := _) M_X11_thrown K_L_242 (dT U_Lc38 38 rfl) rfl rfl (by decide) rfl rfl wx.c70 (Nat.le_of_ble_eq_true rfl) (by decide) rfl (Nat.le_of_ble_eq_true rfl) rfl (by decide) (Nat.le_of_ble_eq_true rfl) rfl rfl ?_
    refine S_X11_thrown wx ?_
    refine xRet_some ?_
    refine x_iload (dT U_Lc38 39 rfl) rfl ?_
    refine x_icmp_eq (tgt := 3331) (dT U_Lc38 40 rfl) (by decide) (by unfold xr; omega) (by unfold xr; omega) (fun c3326 => ?_) (fun c3326 => (by exfalso; omega))
    refine x_iload (dT U_Lc38 43 rfl) rfl ?_
    refine x_if_ne (tgt := 3355) (dT U_Lc38 44 rfl) (by decide) (by unfold xr; omega) (fun c3333 => ?_) (fun c3333 => (by exfalso; omega))
    refine x_goto (tgt := 5554) (dT U_Lc38 57 rfl) (by decide) ?_
    refine x_drop ?_ (M _ _ _ _ _ _ _ _ v (w.out ag (by omega)) wx (ag.get ho (by omega)) (ag.get hod (by omega)))
    repeat (first | exact trivial | refine ⟨rfl, ?_⟩ | refine ⟨trivial, ?_⟩)
  · refine xRet_some ?_
    refine x_istore (ls' := [some (.ref _), some (.ref _), some (.ref _), some (.ref _), some (.ref _), some (vi _), some (vi _), none, none]) (dT U_Lc38 18 rfl) (by decide) rfl ?_
    refine x_aload_n (dT U_Lc38 19 rfl) rfl ?_
    refine x_aload_n (dT U_Lc38 20 rfl) rfl ?_
    refine x_iload (dT U_Lc38 21 rfl) rfl ?_
    refine x_iconst (dT U_Lc38 22 rfl) ?_
    refine x_iadd (dT U_Lc38 23 rfl) ?_
    refine x_sld (i + 1) hL (dT U_Lc38 24 rfl) (by omega) (by omega) ?_
    refine x_aload_n (dT U_Lc38 25 rfl) rfl ?_
    refine x_iload (dT U_Lc38 26 rfl) rfl ?_
    refine x_iconst (dT U_Lc38 27 rfl) ?_
    refine x_iadd (dT U_Lc38 28 rfl) ?_
    refine x_sld (i + 2) hL (dT U_Lc38 29 rfl) (by omega) (by omega) ?_
    refine x_aload_n (dT U_Lc38 30 rfl) rfl ?_
    refine x_iload (dT U_Lc38 31 rfl) rfl ?_
    refine x_iconst (dT U_Lc38 32 rfl) ?_
    refine x_iadd (dT U_Lc38 33 rfl) ?_
    refine x_sld (i + 3) hL (dT U_Lc38 34 rfl) (by omega) (by omega) ?_
    refine x_invokevirtual (rc' := rc) (rs' := rs) (rc2 := 0) (rs2 := 0) (As := [_, _, _]) (st := _) M_X11_fits K_L_365 (dT U_Lc38 35 rfl) rfl rfl (by decide) rfl rfl wm.c70 (Nat.le_of_ble_eq_true rfl) (by decide) rfl (Nat.le_of_ble_eq_true rfl) rfl (by decide) (Nat.le_of_ble_eq_true rfl) rfl rfl ?_
    refine S_X11_fits wm v (xr_s _) (xr_s _) (xr_s _) (fun m1 _ _ _ _ _ => absurd c1 m1) (fun m1 m2 _ _ _ _ _ => absurd c2 m2) (fun m1 m2 m3 h3 z ag wx xz => ?_) (fun m1 m2 m3 m4 _ _ _ _ _ => absurd m3 c3) (fun m1 m2 m3 m4 _ _ _ _ _ => absurd m3 c3)
    refine xRet_some ?_
    refine x_istore (ls' := [some (.ref _), some (.ref _), some (.ref _), some (.ref _), some (.ref _), some (vi _), some (vi _), some (vi _), none]) (dT U_Lc38 36 rfl) (by decide) rfl ?_
    refine x_aload_n (dT U_Lc38 37 rfl) rfl ?_
    refine x_invokevirtual (rc' := rc) (rs' := rs) (rc2 := 0) (rs2 := 0) (As := []) (st := _) M_X11_thrown K_L_242 (dT U_Lc38 38 rfl) rfl rfl (by decide) rfl rfl wx.c70 (Nat.le_of_ble_eq_true rfl) (by decide) rfl (Nat.le_of_ble_eq_true rfl) rfl (by decide) (Nat.le_of_ble_eq_true rfl) rfl rfl ?_
    refine S_X11_thrown wx ?_
    refine xRet_some ?_
    refine x_iload (dT U_Lc38 39 rfl) rfl ?_
    refine x_icmp_eq (tgt := 3331) (dT U_Lc38 40 rfl) (by decide) (by unfold xr; omega) (by unfold xr; omega) (fun c3326 => ?_) (fun c3326 => (by exfalso; omega))
    refine x_iload (dT U_Lc38 43 rfl) rfl ?_
    refine x_if_ne (tgt := 3355) (dT U_Lc38 44 rfl) (by decide) (by unfold xr; omega) (fun c3333 => ?_) (fun c3333 => (by exfalso; omega))
    refine x_goto (tgt := 5554) (dT U_Lc38 57 rfl) (by decide) ?_
    refine x_drop ?_ (M _ _ _ _ _ _ _ _ v (w.out ag (by omega)) wx (ag.get ho (by omega)) (ag.get hod (by omega)))
    repeat (first | exact trivial | refine ⟨rfl, ?_⟩ | refine ⟨trivial, ?_⟩)
  · refine xRet_some ?_
    have wmx := wm.out (h2 := (h.set 143 (cJ [1]))) (fun a ha => by rw [hset_fr (by omega)])
    refine x_istore (ls' := [some (.ref _), some (.ref _), some (.ref _), some (.ref _), some (.ref _), some (vi _), some (vi _), none, none]) (dT U_Lc38 18 rfl) (by decide) rfl ?_
    refine x_aload_n (dT U_Lc38 19 rfl) rfl ?_
    refine x_aload_n (dT U_Lc38 20 rfl) rfl ?_
    refine x_iload (dT U_Lc38 21 rfl) rfl ?_
    refine x_iconst (dT U_Lc38 22 rfl) ?_
    refine x_iadd (dT U_Lc38 23 rfl) ?_
    refine x_sld (i + 1) hL (dT U_Lc38 24 rfl) (by omega) (by omega) ?_
    refine x_aload_n (dT U_Lc38 25 rfl) rfl ?_
    refine x_iload (dT U_Lc38 26 rfl) rfl ?_
    refine x_iconst (dT U_Lc38 27 rfl) ?_
    refine x_iadd (dT U_Lc38 28 rfl) ?_
    refine x_sld (i + 2) hL (dT U_Lc38 29 rfl) (by omega) (by omega) ?_
    refine x_aload_n (dT U_Lc38 30 rfl) rfl ?_
    refine x_iload (dT U_Lc38 31 rfl) rfl ?_
    refine x_iconst (dT U_Lc38 32 rfl) ?_
    refine x_iadd (dT U_Lc38 33 rfl) ?_
    refine x_sld (i + 3) hL (dT U_Lc38 34 rfl) (by omega) (by omega) ?_
    refine x_invokevirtual (rc' := rc) (rs' := rs) (rc2 := 0) (rs2 := 0) (As := [_, _, _]) (st := _) M_X11_fits K_L_365 (dT U_Lc38 35 rfl) rfl rfl (by decide) rfl rfl wmx.c70 (Nat.le_of_ble_eq_true rfl) (by decide) rfl (Nat.le_of_ble_eq_true rfl) rfl (by decide) (Nat.le_of_ble_eq_true rfl) rfl rfl ?_
    refine S_X11_fits wmx v (xr_s _) (xr_s _) (xr_s _) (fun m1 _ _ _ _ _ => absurd c1 m1) (fun m1 m2 _ _ _ _ _ => absurd c2 m2) (fun m1 m2 m3 _ _ _ _ _ => absurd c3 m3) (fun m1 m2 m3 m4 h3 r3 s3 ag wx => ?_) (fun m1 m2 m3 m4 _ _ _ _ _ => absurd c4 m4)
    refine xRet_some ?_
    refine x_istore (ls' := [some (.ref _), some (.ref _), some (.ref _), some (.ref _), some (.ref _), some (vi _), some (vi _), some (vi _), none]) (dT U_Lc38 36 rfl) (by decide) rfl ?_
    refine x_aload_n (dT U_Lc38 37 rfl) rfl ?_
    refine x_invokevirtual (rc' := rc) (rs' := rs) (rc2 := 0) (rs2 := 0) (As := []) (st := _) M_X11_thrown K_L_242 (dT U_Lc38 38 rfl) rfl rfl (by decide) rfl rfl wx.c70 (Nat.le_of_ble_eq_true rfl) (by decide) rfl (Nat.le_of_ble_eq_true rfl) rfl (by decide) (Nat.le_of_ble_eq_true rfl) rfl rfl ?_
    refine S_X11_thrown wx ?_
    refine xRet_some ?_
    refine x_iload (dT U_Lc38 39 rfl) rfl ?_
    refine x_icmp_eq (tgt := 3331) (dT U_Lc38 40 rfl) (by decide) (by unfold xr; omega) (by unfold xr; omega) (fun c3326 => ?_) (fun c3326 => (by exfalso; omega))
    refine x_iload (dT U_Lc38 43 rfl) rfl ?_
    refine x_if_nen (tgt := 3355) (dT U_Lc38 44 rfl) (by decide) (by decide) ?_
    refine x_aload_n (dT U_Lc38 45 rfl) rfl ?_
    refine x_iconst (dT U_Lc38 46 rfl) ?_
    refine x_laload 0 (dT U_Lc38 47 rfl) (ag.get (hset_eq ho) (by omega)) (Nat.le_of_ble_eq_true rfl) rfl (Nat.le_of_ble_eq_true rfl) (Nat.le_of_ble_eq_true rfl) ?_
    refine x_iload (dT U_Lc38 48 rfl) rfl ?_
    refine x_if_eqn (tgt := 3348) (dT U_Lc38 49 rfl) (by decide) (by decide) ?_
    refine x_lconst (z := 1) (dT U_Lc38 50 rfl) rfl ?_
    refine x_goto (tgt := 3349) (dT U_Lc38 51 rfl) (by decide) ?_
    refine x_lcmp (dT U_Lc38 53 rfl) (by unfold xrl; decide) (by unfold xrl; decide) ?_
    refine x_if_eqj (tgt := 3355) (dT U_Lc38 54 rfl) (by decide) (xcmp_rf _) ?_
    refine x_goto (tgt := 5554) (dT U_Lc38 57 rfl) (by decide) ?_
    refine x_drop ?_ (M _ _ _ _ _ _ _ _ v ((w.out ((Ag.rf 143 143 h).set (by omega)) (by omega)).out ag (by omega)) wx (ag.get (hset_eq ho) (by omega)) (ag.get (hset_ne (by omega) hod) (by omega)))
    repeat (first | exact trivial | refine ⟨rfl, ?_⟩ | refine ⟨trivial, ?_⟩)
  · refine xRet_some ?_
    have wmx := wm.out (h2 := (h.set 143 (cJ [0]))) (fun a ha => by rw [hset_fr (by omega)])
    refine x_istore (ls' := [some (.ref _), some (.ref _), some (.ref _), some (.ref _), some (.ref _), some (vi _), some (vi _), none, none]) (dT U_Lc38 18 rfl) (by decide) rfl ?_
    refine x_aload_n (dT U_Lc38 19 rfl) rfl ?_
    refine x_aload_n (dT U_Lc38 20 rfl) rfl ?_
    refine x_iload (dT U_Lc38 21 rfl) rfl ?_
    refine x_iconst (dT U_Lc38 22 rfl) ?_
    refine x_iadd (dT U_Lc38 23 rfl) ?_
    refine x_sld (i + 1) hL (dT U_Lc38 24 rfl) (by omega) (by omega) ?_
    refine x_aload_n (dT U_Lc38 25 rfl) rfl ?_
    refine x_iload (dT U_Lc38 26 rfl) rfl ?_
    refine x_iconst (dT U_Lc38 27 rfl) ?_
    refine x_iadd (dT U_Lc38 28 rfl) ?_
    refine x_sld (i + 2) hL (dT U_Lc38 29 rfl) (by omega) (by omega) ?_
    refine x_aload_n (dT U_Lc38 30 rfl) rfl ?_
    refine x_iload (dT U_Lc38 31 rfl) rfl ?_
    refine x_iconst (dT U_Lc38 32 rfl) ?_
    refine x_iadd (dT U_Lc38 33 rfl) ?_
    refine x_sld (i + 3) hL (dT U_Lc38 34 rfl) (by omega) (by omega) ?_
    refine x_invokevirtual (rc' := rc) (rs' := rs) (rc2 := 0) (rs2 := 0) (As := [_, _, _]) (st := _) M_X11_fits K_L_365 (dT U_Lc38 35 rfl) rfl rfl (by decide) rfl rfl wmx.c70 (Nat.le_of_ble_eq_true rfl) (by decide) rfl (Nat.le_of_ble_eq_true rfl) rfl (by decide) (Nat.le_of_ble_eq_true rfl) rfl rfl ?_
    refine S_X11_fits wmx v (xr_s _) (xr_s _) (xr_s _) (fun m1 _ _ _ _ _ => absurd c1 m1) (fun m1 m2 _ _ _ _ _ => absurd c2 m2) (fun m1 m2 m3 _ _ _ _ _ => absurd c3 m3) (fun m1 m2 m3 m4 _ _ _ _ _ => absurd m4 c4) (fun m1 m2 m3 m4 h3 r3 s3 ag wx => ?_)
    refine xRet_some ?_
    refine x_istore (ls' := [some (.ref _), some (.ref _), some (.ref _), some (.ref _), some (.ref _), some (vi _), some (vi _), some (vi _), none]) (dT U_Lc38 36 rfl) (by decide) rfl ?_
    refine x_aload_n (dT U_Lc38 37 rfl) rfl ?_
    refine x_invokevirtual (rc' := rc) (rs' := rs) (rc2 := 0) (rs2 := 0) (As := []) (st := _) M_X11_thrown K_L_242 (dT U_Lc38 38 rfl) rfl rfl (by decide) rfl rfl wx.c70 (Nat.le_of_ble_eq_true rfl) (by decide) rfl (Nat.le_of_ble_eq_true rfl) rfl (by decide) (Nat.le_of_ble_eq_true rfl) rfl rfl ?_
    refine S_X11_thrown wx ?_
    refine xRet_some ?_
    refine x_iload (dT U_Lc38 39 rfl) rfl ?_
    refine x_icmp_eq (tgt := 3331) (dT U_Lc38 40 rfl) (by decide) (by unfold xr; omega) (by unfold xr; omega) (fun c3326 => ?_) (fun c3326 => (by exfalso; omega))
    refine x_iload (dT U_Lc38 43 rfl) rfl ?_
    refine x_if_nen (tgt := 3355) (dT U_Lc38 44 rfl) (by decide) (by decide) ?_
    refine x_aload_n (dT U_Lc38 45 rfl) rfl ?_
    refine x_iconst (dT U_Lc38 46 rfl) ?_
    refine x_laload 0 (dT U_Lc38 47 rfl) (ag.get (hset_eq ho) (by omega)) (Nat.le_of_ble_eq_true rfl) rfl (Nat.le_of_ble_eq_true rfl) (Nat.le_of_ble_eq_true rfl) ?_
    refine x_iload (dT U_Lc38 48 rfl) rfl ?_
    refine x_if_eqj (tgt := 3348) (dT U_Lc38 49 rfl) (by decide) (by decide) ?_
    refine x_lconst (z := 0) (dT U_Lc38 52 rfl) rfl ?_
    refine x_lcmp (dT U_Lc38 53 rfl) (by unfold xrl; decide) (by unfold xrl; decide) ?_
    refine x_if_eqj (tgt := 3355) (dT U_Lc38 54 rfl) (by decide) (xcmp_rf _) ?_
    refine x_goto (tgt := 5554) (dT U_Lc38 57 rfl) (by decide) ?_
    refine x_drop ?_ (M _ _ _ _ _ _ _ _ v ((w.out ((Ag.rf 143 143 h).set (by omega)) (by omega)).out ag (by omega)) wx (ag.get (hset_eq ho) (by omega)) (ag.get (hset_ne (by omega) hod) (by omega)))
    repeat (first | exact trivial | refine ⟨rfl, ?_⟩ | refine ⟨trivial, ?_⟩)

def t_Lc4 : List (Nat × Instr × Nat) := [(661, .aload_n 1, 1), (662, .aload_n 0, 1), (663, .iload 5, 2), (665, .iconst 1, 1), (666, .iadd, 1), (667, .iaload, 1), (668, .aload_n 0, 1), (669, .iload 5, 2), (671, .iconst 2, 1), (672, .iadd, 1), (673, .iaload, 1), (674, .aload_n 3, 1), (675, .invokestatic 257, 3), (678, .istore 6, 2), (680, .aload_n 2, 1), (681, .aload_n 0, 1), (682, .iload 5, 2), (684, .iconst 1, 1), (685, .iadd, 1), (686, .iaload, 1), (687, .aload_n 0, 1), (688, .iload 5, 2), (690, .iconst 2, 1), (691, .iadd, 1), (692, .iaload, 1), (693, .invokevirtual 260, 3), (696, .istore 7, 2), (698, .aload_n 2, 1), (699, .invokevirtual 242, 3), (702, .iload 6, 2), (704, .if_icmp .eq 5, 3), (707, .iconst 0, 1), (708, .ireturn, 1), (709, .iload 6, 2), (711, .ifCond .ne 15, 3), (714, .aload_n 3, 1), (715, .iconst 0, 1), (716, .laload, 1), (717, .iload 7, 2), (719, .i2l, 1), (720, .lcmp, 1), (721, .ifCond .eq 5, 3), (724, .iconst 0, 1), (725, .ireturn, 1), (726, .goto 4828, 3)]
theorem U_Lc4 : okT m_L_law.2.1 t_Lc4 = true := by decide +kernel
set_option maxRecDepth 20000 in
set_option maxHeartbeats 1000000 in
theorem LC_4 {G : xG} {d rc rs : Nat} {ex : Bool} {h : xH} {Q : xQ} {σ : St} {c0 : Int} {rr : Nat} {ss : Int} {l0 : Int} {d0 : UInt64} {i : Nat} (hL : G.2.2.2.2.2.1 < 2147483648) (hi : i + 10 ≤ G.2.2.2.2.2.1) (w : CW σ h) (wm : MX σ c0 rr ss h) (v : INV σ) (ho : h[143]? = some (cJ [l0])) (hod : h[144]? = some (cD [d0]))
    (M : ∀ (σ9 : St) (h9 : xH) (e9 : Bool) (c9 : Int) (r9 : Nat) (s9 : Int) (l9 : Int) (d9 : UInt64), INV σ9 → CW σ9 h9 → MX σ9 c9 r9 s9 h9 → h9[143]? = some (cJ [l9]) → h9[144]? = some (cD [d9]) → X G m_L_law (d + 10) rc rs e9 5554 [some (.ref 0), some (.ref 3), some (.ref 70), some (.ref 143), some (.ref 144), some (vi (i : Int)), none, none, none] [] h9 Q) : X G m_L_law (d + 10) (rc + 2) (rs + 12) ex 661 [some (.ref 0), some (.ref 3), some (.ref 70), some (.ref 143), some (.ref 144), some (vi (i : Int)), none, none, none] [] h Q := by
  refine x_aload_n (dT U_Lc4 0 rfl) rfl ?_
  refine x_aload_n (dT U_Lc4 1 rfl) rfl ?_
  refine x_iload (dT U_Lc4 2 rfl) rfl ?_
  refine x_iconst (dT U_Lc4 3 rfl) ?_
  refine x_iadd (dT U_Lc4 4 rfl) ?_
  refine x_sld (i + 1) hL (dT U_Lc4 5 rfl) (by omega) (by omega) ?_
  refine x_aload_n (dT U_Lc4 6 rfl) rfl ?_
  refine x_iload (dT U_Lc4 7 rfl) rfl ?_
  refine x_iconst (dT U_Lc4 8 rfl) ?_
  refine x_iadd (dT U_Lc4 9 rfl) ?_
  refine x_sld (i + 2) hL (dT U_Lc4 10 rfl) (by omega) (by omega) ?_
  refine x_aload_n (dT U_Lc4 11 rfl) rfl ?_
  refine x_invokestaticT (rc' := rc) (rs' := rs) (rc2 := 0 + 2) (rs2 := 0 + 12) (As := [_, _, _, _]) (st := _) M_L_get K_L_257 (dT U_Lc4 12 rfl) rfl (by decide) rfl rfl (Nat.le_of_ble_eq_true rfl) rfl (by decide) (Nat.le_of_ble_eq_true rfl) (by omega) (by omega) ?_
  refine S_L_get w v (xr_s _) (xr_s _) ho (fun c1 => ?_) (fun c1 z9 hz9 ez9 => ?_)
  · refine xRet_some ?_
    refine x_istore (ls' := [some (.ref _), some (.ref _), some (.ref _), some (.ref _), some (.ref _), some (vi _), some (vi _), none, none]) (dT U_Lc4 13 rfl) (by decide) rfl ?_
    refine x_aload_n (dT U_Lc4 14 rfl) rfl ?_
    refine x_aload_n (dT U_Lc4 15 rfl) rfl ?_
    refine x_iload (dT U_Lc4 16 rfl) rfl ?_
    refine x_iconst (dT U_Lc4 17 rfl) ?_
    refine x_iadd (dT U_Lc4 18 rfl) ?_
    refine x_sld (i + 1) hL (dT U_Lc4 19 rfl) (by omega) (by omega) ?_
    refine x_aload_n (dT U_Lc4 20 rfl) rfl ?_
    refine x_iload (dT U_Lc4 21 rfl) rfl ?_
    refine x_iconst (dT U_Lc4 22 rfl) ?_
    refine x_iadd (dT U_Lc4 23 rfl) ?_
    refine x_sld (i + 2) hL (dT U_Lc4 24 rfl) (by omega) (by omega) ?_
    refine x_invokevirtual (rc' := rc) (rs' := rs) (rc2 := 0) (rs2 := 0) (As := [_, _]) (st := _) M_X11_get K_L_260 (dT U_Lc4 25 rfl) rfl rfl (by decide) rfl rfl wm.c70 (Nat.le_of_ble_eq_true rfl) (by decide) rfl (Nat.le_of_ble_eq_true rfl) rfl (by decide) (Nat.le_of_ble_eq_true rfl) rfl rfl ?_
    refine S_X11_get wm v (xr_s _) (xr_s _) (fun m1 h3 z ag wx xz => ?_) (fun m1 _ _ _ _ _ => absurd m1 c1)
    refine xRet_some ?_
    refine x_istore (ls' := [some (.ref _), some (.ref _), some (.ref _), some (.ref _), some (.ref _), some (vi _), some (vi _), some (vi _), none]) (dT U_Lc4 26 rfl) (by decide) rfl ?_
    refine x_aload_n (dT U_Lc4 27 rfl) rfl ?_
    refine x_invokevirtual (rc' := rc) (rs' := rs) (rc2 := 0) (rs2 := 0) (As := []) (st := _) M_X11_thrown K_L_242 (dT U_Lc4 28 rfl) rfl rfl (by decide) rfl rfl wx.c70 (Nat.le_of_ble_eq_true rfl) (by decide) rfl (Nat.le_of_ble_eq_true rfl) rfl (by decide) (Nat.le_of_ble_eq_true rfl) rfl rfl ?_
    refine S_X11_thrown wx ?_
    refine xRet_some ?_
    refine x_iload (dT U_Lc4 29 rfl) rfl ?_
    refine x_icmp_eq (tgt := 709) (dT U_Lc4 30 rfl) (by decide) (by unfold xr; omega) (by unfold xr; omega) (fun c704 => ?_) (fun c704 => (by exfalso; omega))
    refine x_iload (dT U_Lc4 33 rfl) rfl ?_
    refine x_if_nej (tgt := 726) (dT U_Lc4 34 rfl) (by decide) (by decide) ?_
    refine x_goto (tgt := 5554) (dT U_Lc4 44 rfl) (by decide) ?_
    refine x_drop ?_ (M _ _ _ _ _ _ _ _ v (w.out ag (by omega)) wx (ag.get ho (by omega)) (ag.get hod (by omega)))
    repeat (first | exact trivial | refine ⟨rfl, ?_⟩ | refine ⟨trivial, ?_⟩)
  · refine xRet_some ?_
    have wmx := wm.out (h2 := (h.set 143 (cJ [z9]))) (fun a ha => by rw [hset_fr (by omega)])
    refine x_istore (ls' := [some (.ref _), some (.ref _), some (.ref _), some (.ref _), some (.ref _), some (vi _), some (vi _), none, none]) (dT U_Lc4 13 rfl) (by decide) rfl ?_
    refine x_aload_n (dT U_Lc4 14 rfl) rfl ?_
    refine x_aload_n (dT U_Lc4 15 rfl) rfl ?_
    refine x_iload (dT U_Lc4 16 rfl) rfl ?_
    refine x_iconst (dT U_Lc4 17 rfl) ?_
    refine x_iadd (dT U_Lc4 18 rfl) ?_
    refine x_sld (i + 1) hL (dT U_Lc4 19 rfl) (by omega) (by omega) ?_
    refine x_aload_n (dT U_Lc4 20 rfl) rfl ?_
    refine x_iload (dT U_Lc4 21 rfl) rfl ?_
    refine x_iconst (dT U_Lc4 22 rfl) ?_
    refine x_iadd (dT U_Lc4 23 rfl) ?_
    refine x_sld (i + 2) hL (dT U_Lc4 24 rfl) (by omega) (by omega) ?_
    refine x_invokevirtual (rc' := rc) (rs' := rs) (rc2 := 0) (rs2 := 0) (As := [_, _]) (st := _) M_X11_get K_L_260 (dT U_Lc4 25 rfl) rfl rfl (by decide) rfl rfl wmx.c70 (Nat.le_of_ble_eq_true rfl) (by decide) rfl (Nat.le_of_ble_eq_true rfl) rfl (by decide) (Nat.le_of_ble_eq_true rfl) rfl rfl ?_
    refine S_X11_get wmx v (xr_s _) (xr_s _) (fun m1 _ _ _ _ _ => absurd c1 m1) (fun m1 h3 r3 s3 ag wx => ?_)
    refine xRet_some ?_
    rw [ez9]
    refine x_istore (ls' := [some (.ref _), some (.ref _), some (.ref _), some (.ref _), some (.ref _), some (vi _), some (vi _), some (vi _), none]) (dT U_Lc4 26 rfl) (by decide) rfl ?_
    refine x_aload_n (dT U_Lc4 27 rfl) rfl ?_
    refine x_invokevirtual (rc' := rc) (rs' := rs) (rc2 := 0) (rs2 := 0) (As := []) (st := _) M_X11_thrown K_L_242 (dT U_Lc4 28 rfl) rfl rfl (by decide) rfl rfl wx.c70 (Nat.le_of_ble_eq_true rfl) (by decide) rfl (Nat.le_of_ble_eq_true rfl) rfl (by decide) (Nat.le_of_ble_eq_true rfl) rfl rfl ?_
    refine S_X11_thrown wx ?_
    refine xRet_some ?_
    refine x_iload (dT U_Lc4 29 rfl) rfl ?_
    refine x_icmp_eq (tgt := 709) (dT U_Lc4 30 rfl) (by decide) (by unfold xr; omega) (by unfold xr; omega) (fun c704 => ?_) (fun c704 => (by exfalso; omega))
    refine x_iload (dT U_Lc4 33 rfl) rfl ?_
    refine x_if_nen (tgt := 726) (dT U_Lc4 34 rfl) (by decide) (by decide) ?_
    refine x_aload_n (dT U_Lc4 35 rfl) rfl ?_
    refine x_iconst (dT U_Lc4 36 rfl) ?_
    refine x_laload 0 (dT U_Lc4 37 rfl) (ag.get (hset_eq ho) (by omega)) (Nat.le_of_ble_eq_true rfl) rfl (Nat.le_of_ble_eq_true rfl) (Nat.le_of_ble_eq_true rfl) ?_
    refine x_iload (dT U_Lc4 38 rfl) rfl ?_
    refine x_i2l (dT U_Lc4 39 rfl) hz9 ?_
    refine x_lcmp (dT U_Lc4 40 rfl) (xr_l hz9) (xr_l hz9) ?_
    refine x_if_eqj (tgt := 726) (dT U_Lc4 41 rfl) (by decide) (xcmp_rf _) ?_
    refine x_goto (tgt := 5554) (dT U_Lc4 44 rfl) (by decide) ?_
    refine x_drop ?_ (M _ _ _ _ _ _ _ _ v ((w.out ((Ag.rf 143 143 h).set (by omega)) (by omega)).out ag (by omega)) wx (ag.get (hset_eq ho) (by omega)) (ag.get (hset_ne (by omega) hod) (by omega)))
    repeat (first | exact trivial | refine ⟨rfl, ?_⟩ | refine ⟨trivial, ?_⟩)
