theorem x_invokestaticT {G : xG} {mt mt2 : xM} {d d' rc rs rc' rs' rc2 rs2 n pc idx : Nat} {ex : Bool} {ls : List (Option Value)} {st stk : List Value} {h : xH} {Q : xQ} {As : List Value} (hM : xMok mt2 true n) (hL : Cond.methodLink mt.1.cls idx mt2.1 ∈ lw_big) (hd : decode mt.2.1 pc = .ok (.invokestatic idx, 3)) (hhd : mt.2.2.2.2 = []) (hh2 : mt2.2.2.2.2 ≠ [])
    (hst : stk = As.reverse ++ st) (hlen : As.length = n) (hrest : (st.map fun v => v.category).sum ≤ 8) (hdep : d = d' + 1) (hmax : mt2.2.2.1 ≤ 400) (hxa : (xa As).length ≤ mt2.2.2.1)
    (hrc : rc = rc' + rc2) (hrs : rs = rs' + rs2)
    (k : X G mt2 d' rc2 rs2 ex 0 (xe mt2.2.2.1 As) [] h (xRet G mt d rc' rs' (pc + 3) ls st h Q)) : X G mt d rc rs ex pc ls stk h Q := by
  intro p e s m args below meth c K H locs cells slots mc ms lsA hP hS hZ h1 h2 hl
  subst hrc; subst hrs; subst hdep
  refine x_run (st := st) K hhd hS h1 h2 hl (a := (As.map (xv G)).toArray) (h0 := h) ?_
  have hMet := x_metH hxa hM K.2.2.2.2.2.2.2.2.2.2 k
  obtain ⟨m1, m2, m3, m4, m5, m6⟩ := hM
  rw [if_neg hh2] at m4
  rw [if_pos rfl] at m6
  have cw : vx_CSW (xRM (d' + 1) mc ms) s args mt.1.cls idx mt2.1 mt2.2.1 mt2.2.2.1 mt2.2.2.2.1 mt2.2.2.2.2 (xwsH mt2) (xRM d' rc2 rs2) rc2 rs2 n := by
    refine vx_cwSW n (Ts := lw_big) K.2.2.2.2.2.1 (xws_good ?_) rfl rfl rfl ⟨m2.1, m2.2, m3⟩ ⟨Nat.le_refl _, by unfold xRM; dsimp only; omega⟩
    intro w hw
    rcases List.mem_append.mp hw with hw | hw
    · simp only [List.mem_cons, List.not_mem_nil, or_false] at hw
      rcases hw with rfl | rfl | rfl
      · exact hL
      · exact m6
      · exact m5
    · rcases List.mem_cons.mp hw with rfl | hw
      · exact m4
      · exact hw
  refine vx_runSX (As := As.map (xv G)) ⟨K.1, K.2.1, K.2.2.2.1, K.2.2.2.2.1, K.2.2.2.2.2.1⟩ hMet cw ⟨xW.blind, fun U hU hW => ⟨rfl, by rw [hU]; exact hP, by rw [hU]; exact hZ, xSt.moved K.2.2.2.2.2.2.2.2.2.1 hS hW hU⟩⟩ rfl (by rw [List.length_map]; exact hlen) hl.1 ?_ (lv_room (by rw [xcat]; exact hrest)) hd ⟨by unfold xRM; dsimp only; omega, by unfold xRM; dsimp only; omega⟩
  show stk.map (xv G) = _
  rw [hst, List.map_append, List.map_reverse]
