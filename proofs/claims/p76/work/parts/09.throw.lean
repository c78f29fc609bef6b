def xNm : List String := ["java/lang/RuntimeException", "java/lang/Exception"]
def xTok (E : String) (ik ic : Nat) : Prop := E ∈ xEx ∧ Bundle.fit E = true ∧ Cond.classLink RX10 ik E ∈ lw_big ∧ Cond.initialized E ∈ lw_big ∧ (∀ w ∈ vx_atS RX10 ic E xNm, w ∈ lw_big ∨ w ∈ xBw) ∧ (∀ w ∈ Cond.classLink RX10 ik E :: Cond.initialized E :: vx_atS RX10 ic E xNm, vx_ot w = true)
theorem xTok_of {E : String} {ik ic : Nat} (h1 : E ∈ xEx) (h2 : Bundle.fit E = true) (h3 : Cond.classLink RX10 ik E ∈ lw_big) (h4 : Cond.initialized E ∈ lw_big) (h5 : (vx_atS RX10 ic E xNm).all (fun w => decide (w ∈ xBw) || (decide (w ∈ lw_tbl) && goodWord w)) = true) (h6 : (Cond.classLink RX10 ik E :: Cond.initialized E :: vx_atS RX10 ic E xNm).all vx_ot = true) : xTok E ik ic := by
  refine ⟨h1, h2, h3, h4, fun w hw => ?_, fun w hw => List.all_eq_true.mp h6 w hw⟩
  have h := List.all_eq_true.mp h5 w hw
  simp only [Bool.or_eq_true, Bool.and_eq_true, decide_eq_true_eq] at h
  rcases h with h | ⟨ha, hb⟩
  · exact Or.inr h
  · exact Or.inl (List.mem_filter.mpr ⟨ha, hb⟩)
section XT
variable {G : xG} {mt mt2 : xM} {d d' rc rs rc' rs' rc2 rs2 n : Nat} {ex : Bool} {pc idx : Nat} {ls ls' : List (Option Value)} {st stk : List Value} {h : xH} {Q : xQ} {As : List Value}
theorem xXC.new {s : State} {H : Heap} {locs : List Loc} {E : String} (hP : xP G h H) (hS : va_S (xA G) s.heap H locs) (hE : E ∈ xEx) (k : Q (.inr E) false h) : ∀ t : State, s.vm.Alike t.vm → H.size ≤ t.heap.size → (∀ q : Nat, q < H.size → t.heap[q]? = H[q]?) → xXC G Q E s t := by
  intro t _ hz ho
  refine ⟨h, k, hE, fun i c hi h3 => (hP i c hi h3).kept (ho _ (hP i c hi h3).lt), Nat.le_trans hS.1 hz, fun q hq hA => (ho q (Nat.lt_of_lt_of_le hq hS.1)).trans (hS.2.1 q hq hA)⟩
theorem x_throw {E text : String} {ik is ic : Nat} (hT : xTok E ik ic) (hcls : mt.1.cls = RX10) (hs : (is, text) ∈ xStr) (hhd : mt.2.2.2.2 = []) (hdep : 6 ≤ d) (hrest : (st.map fun v => v.category).sum ≤ 8) (hrc : 1 ≤ rc) (hrs : 6 ≤ rs)
    (d0 : decode mt.2.1 pc = .ok (.new ik, 3)) (d3 : decode mt.2.1 (pc + 3) = .ok (.dup, 1)) (d4 : decode mt.2.1 (pc + 4) = .ok (.ldc is, 2)) (d6 : decode mt.2.1 (pc + 6) = .ok (.invokespecial ic, 3)) (d9 : decode mt.2.1 (pc + 9) = .ok (.athrow, 1))
    (k : Q (.inr E) false h) : X G mt d rc rs ex pc ls st h Q := by
  intro p e s m args below meth c K H locs cells slots mc ms lsA hP hS hZ h1 h2 hl
  obtain ⟨t1, t2, t3, t4, t5, t6⟩ := hT
  have hts := K.2.2.2.2.2.1
  have hSt := K.2.2.2.2.2.2.2.2.2.1
  have hown := K.2.2.2.2.1
  rw [hcls] at hown
  obtain ⟨sa, hsa⟩ := hSt.2.2.2.2.2.2.2.2.1 _ hs
  refine vx_throwS (names := xNm) (sa := sa) K.1 K.2.1 K.2.2.2.2.2.2.2.2.2.2 hown t2 (by decide +kernel) (hts _ t3) (hts _ t4) hsa (fun w hw => ?_) t6 hSt.2.2.2.2.2.2.1 hSt.2.2.2.2.2.2.2.1 hS (hl.1.trans K.2.2.2.1.symm) d0 d3 d4 d6 d9 ?_ (by show 2 + 3 < d; omega) ?_ (by unfold xRM; dsimp only; omega) (by unfold xRM; dsimp only; omega) K.2.2.2.2.2.2.1 (xXC.new hP hS t1 k) hS.2.2 (by omega) (by omega)
  · rcases t5 w hw with h9 | h9
    · exact hts _ h9
    · exact xBw_use h9 (hSt.2.2.2.2.2.2.2.2.2.2.1 w h9)
  · rw [K.2.2.2.2.2.2.2.1, hhd]
    intro x hx
    cases hx
  · rw [xcat]
    show _ + (13 * (2 + 1) + 43) ≤ 500 * d + 876
    omega
theorem x_throwW {E text : String} {ik is ic : Nat} (hT : xTok E ik ic) (hcls : mt.1.cls = RX10) (hs : (is, text) ∈ xStr) (hhd : mt.2.2.2.2 = []) (hdep : 6 ≤ d) (hrest : (st.map fun v => v.category).sum ≤ 8) (hrc : 1 ≤ rc) (hrs : 6 ≤ rs)
    (d0 : decode mt.2.1 pc = .ok (.new ik, 3)) (d3 : decode mt.2.1 (pc + 3) = .ok (.dup, 1)) (d4 : decode mt.2.1 (pc + 4) = .ok (.ldc_w is, 3)) (d7 : decode mt.2.1 (pc + 7) = .ok (.invokespecial ic, 3)) (d10 : decode mt.2.1 (pc + 10) = .ok (.athrow, 1))
    (k : Q (.inr E) false h) : X G mt d rc rs ex pc ls st h Q := by
  intro p e s m args below meth c K H locs cells slots mc ms lsA hP hS hZ h1 h2 hl
  obtain ⟨t1, t2, t3, t4, t5, t6⟩ := hT
  have hts := K.2.2.2.2.2.1
  have hSt := K.2.2.2.2.2.2.2.2.2.1
  have hown := K.2.2.2.2.1
  rw [hcls] at hown
  obtain ⟨sa, hsa⟩ := hSt.2.2.2.2.2.2.2.2.1 _ hs
  refine vx_throwSW (names := xNm) (sa := sa) K.1 K.2.1 K.2.2.2.2.2.2.2.2.2.2 hown t2 (by decide +kernel) (hts _ t3) (hts _ t4) hsa (fun w hw => ?_) t6 hSt.2.2.2.2.2.2.1 hSt.2.2.2.2.2.2.2.1 hS (hl.1.trans K.2.2.2.1.symm) d0 d3 d4 d7 d10 ?_ (by show 2 + 3 < d; omega) ?_ (by unfold xRM; dsimp only; omega) (by unfold xRM; dsimp only; omega) K.2.2.2.2.2.2.1 (xXC.new hP hS t1 k) hS.2.2 (by omega) (by omega)
  · rcases t5 w hw with h9 | h9
    · exact hts _ h9
    · exact xBw_use h9 (hSt.2.2.2.2.2.2.2.2.2.2.1 w h9)
  · rw [K.2.2.2.2.2.2.2.1, hhd]
    intro x hx
    cases hx
  · rw [xcat]
    show _ + (13 * (2 + 1) + 43) ≤ 500 * d + 876
    omega
/-! statics and the script -/
theorem x_primesC {idx : Nat} (hcls : mt.1.cls = RX10) (hw : Cond.fieldLink RX10 idx RX10 "PRIMES" "[I" ∈ lw_big) (hd : decode mt.2.1 pc = .ok (.getstatic idx, 3)) (k : X G mt d rc rs ex (pc + 3) ls (.ref 1 :: st) h Q) : X G mt d rc rs ex pc ls st h Q := by
  intro p e s m args below meth c K H locs cells slots mc ms lsA hP hS hZ h1 h2 hl
  have hSt := K.2.2.2.2.2.2.2.2.2.1
  have hown := K.2.2.2.2.1
  rw [hcls] at hown
  exact va_gets K.1 K.2.1 hSt.2.2.2.2.1.1 hS hown (K.2.2.2.2.2.1 _ hw) (fun _ h => h) hd (k p e s m args below meth c K H locs cells slots mc ms lsA hP hS hZ h1 h2 hl)
theorem x_ialoadP {a : Nat} {z : Int} (n : Nat) (ha : a = 1 ∨ a = 1) (hd : decode mt.2.1 pc = .ok (.iaload, 1)) (hz : z = (n : Int)) (hn : n < 8) (k : X G mt d rc rs ex (pc + 1) ls (vi (xPr n) :: st) h Q) : X G mt d rc rs ex pc ls (vi z :: .ref a :: st) h Q := by
  intro p e s m args below meth c K H locs cells slots mc ms lsA hP hS hZ h1 h2 hl
  subst hz
  have hSt := K.2.2.2.2.2.2.2.2.2.1
  have hk := k p e s m args below meth c K H locs cells slots mc ms lsA hP hS hZ h1 h2 hl
  rcases ha with rfl | rfl
  · exact va_ti (v := vi (xPr n)) K.1 K.2.1 hSt.2.2.2.2.1.2 hS (xI_in hn (by decide)) (by rw [xI_clamp n (by omega)]) hd hk
  · exact va_ti (v := vi (xPr n)) K.1 K.2.1 hSt.2.2.2.2.1.2 hS (xI_in hn (by decide)) (by rw [xI_clamp n (by omega)]) hd hk
theorem x_lenP (hd : decode mt.2.1 pc = .ok (.arraylength, 1)) (k : X G mt d rc rs ex (pc + 1) ls (vi 8 :: st) h Q) : X G mt d rc rs ex pc ls (.ref 1 :: st) h Q := by
  intro p e s m args below meth c K H locs cells slots mc ms lsA hP hS hZ h1 h2 hl
  have hSt := K.2.2.2.2.2.2.2.2.2.1
  obtain ⟨cell, e1, e2, e3, e4, e5, e6, e7⟩ := hSt.2.2.2.2.1.2
  exact W.alen (n := xI 8) K.1 K.2.1 (by show H[G.2.2.2.2.1 1]? = some cell; rw [hS.2.1 _ (Array.getElem?_eq_some_iff.mp e1).1 e7]; exact e1) e2 (by rw [e5]; rfl) rfl rfl hd (k p e s m args below meth c K H locs cells slots mc ms lsA hP hS hZ h1 h2 hl)
theorem x_slen (hL : G.2.2.2.2.2.1 < 2147483648) (hd : decode mt.2.1 pc = .ok (.arraylength, 1)) (k : X G mt d rc rs ex (pc + 1) ls (vi (G.2.2.2.2.2.1 : Int) :: st) h Q) : X G mt d rc rs ex pc ls (.ref 0 :: st) h Q := by
  intro p e s m args below meth c K H locs cells slots mc ms lsA hP hS hZ h1 h2 hl
  have hSt := K.2.2.2.2.2.2.2.2.2.1
  refine va_slen K.1 K.2.1 hSt.2.2.2.1 (Nat.lt_of_lt_of_le hSt.2.2.1 hSt.2.1) (Nat.not_le.mpr hSt.2.2.1) hS hd ?_
  have e9 : Int32.ofNat G.2.2.2.2.2.1 = xI (G.2.2.2.2.2.1 : Int) := Int32.toInt_inj.mp ((nI_toInt (n := G.2.2.2.2.2.1) hL).trans (xI_toInt (z := (G.2.2.2.2.2.1 : Int)) (by unfold xr; omega)).symm)
  rw [e9]
  exact k p e s m args below meth c K H locs cells slots mc ms lsA hP hS hZ h1 h2 hl
theorem x_sld {z : Int} (n : Nat) (hL : G.2.2.2.2.2.1 < 2147483648) (hd : decode mt.2.1 pc = .ok (.iaload, 1)) (hz : z = (n : Int)) (hn : n < G.2.2.2.2.2.1) (k : X G mt d rc rs ex (pc + 1) ls (vi ((G.2.2.2.2.2.2 n).toInt) :: st) h Q) : X G mt d rc rs ex pc ls (vi z :: .ref 0 :: st) h Q := by
  intro p e s m args below meth c K H locs cells slots mc ms lsA hP hS hZ h1 h2 hl
  subst hz
  have hSt := K.2.2.2.2.2.2.2.2.2.1
  refine va_sld K.1 K.2.1 hSt.2.2.2.1 (Nat.lt_of_lt_of_le hSt.2.2.1 hSt.2.1) (Nat.not_le.mpr hSt.2.2.1) hS (xI_in hn hL) hd ?_
  rw [xI_clamp n (by omega), ← xI_of (G.2.2.2.2.2.2 n)]
  exact k p e s m args below meth c K H locs cells slots mc ms lsA hP hS hZ h1 h2 hl
/-! a call in a method with handlers: what is thrown is caught by the row x of the table, put away by astore, and forgotten -/
def xHnd (G : xG) (mt : xM) (d rc rs pc : Nat) (E : String) (h : xH) (Q : xQ) : Prop := ∃ (pre : List ExceptionTableEntry) (x : ExceptionTableEntry) (suf : List ExceptionTableEntry), tableOf mt.2.2.2.2 = pre ++ x :: suf ∧
  (∀ z ∈ pre, z.catchType ≠ 0 ∧ ∃ nm ∈ xEx, nm ≠ E ∧ Cond.classLink mt.1.cls z.catchType nm ∈ lw_big) ∧ covers x pc = true ∧ x.catchType ≠ 0 ∧ Cond.classLink mt.1.cls x.catchType E ∈ lw_big ∧
  ∃ (kk len : Nat), ((∃ f : Fin 4, decode mt.2.1 x.handlerPc = .ok (.astore_n f, 1) ∧ len = 1 ∧ (f : Nat) = kk) ∨ (decode mt.2.1 x.handlerPc = .ok (.astore kk, 2) ∧ len = 2)) ∧ kk < mt.2.2.1 ∧ X G mt d rc rs false (x.handlerPc + len) [] [] h Q
def xRetH (G : xG) (mt : xM) (d rc rs pc : Nat) (ls : List (Option Value)) (st : List Value) (Q : xQ) : xQ := fun r ex h => match r with
  | .inl v => X G mt d rc rs ex (pc + 3) ls (v.toList ++ st) h Q
  | .inr E => xHnd G mt d rc rs pc E h Q
theorem xLo.nil {n : Nat} {lsA : Array Slot} {l : List (Nat × Value)} (h : lv_has lsA n l) : xLo G n lsA [] := ⟨h.1, h.2.1, fun i v q => by cases i <;> cases q⟩
theorem x_invokevirtualH {a ci : Nat} {fs : List Value} (hM : xMok mt2 false n) (hL : Cond.methodLink mt.1.cls idx mt2.1 ∈ lw_big) (hd : decode mt.2.1 pc = .ok (.invokevirtual idx, 3)) (hh2 : mt2.2.2.2.2 = []) (hnm : mt2.1.name ≠ "<init>")
    (hst : stk = As.reverse ++ .ref a :: st) (hlen : As.length = n) (hcell : h[a]? = some (cO ci fs)) (h3 : 3 ≤ a) (hci : ci < 11) (hcl : (xCt ci).1 = mt2.1.cls) (hrest : (st.map fun v => v.category).sum ≤ 8) (hdep : d = d' + 1) (hmax : mt2.2.2.1 ≤ 400) (hxa : (xa (.ref a :: As)).length ≤ mt2.2.2.1)
    (hrc : rc = rc' + rc2) (hrs : rs = rs' + rs2)
    (k : X G mt2 d' rc2 rs2 ex 0 (xe mt2.2.2.1 (.ref a :: As)) [] h (xRetH G mt d rc' rs' pc ls st Q)) : X G mt d rc rs ex pc ls stk h Q := by
  intro p e s m args below meth c K H locs cells slots mc ms lsA hP hS hZ h1 h2 hl
  subst hrc; subst hrs; subst hdep
  have hMet := x_met hxa hM hh2 K.2.2.2.2.2.2.2.2.2.2 k
  obtain ⟨m1, m2, m3, m4, m5, m6⟩ := hM
  rw [if_pos hh2] at m4
  rw [if_neg (by decide)] at m6
  have hsel : Cond.selects mt2.1.cls mt2.1 mt2.1 ∈ lw_big := m6.2.resolve_left hnm
  have cw : CallW (xRM (d' + 1) mc ms) s args mt.1.cls mt2.1.cls idx mt2.1 mt2.2.1 mt2.2.2.1 mt2.2.2.2.1 (xws mt2) (xRM d' rc2 rs2) rc2 rs2 n := by
    refine cwV n (Ts := lw_big) K.2.2.2.2.2.1 (xws_good ?_) rfl rfl rfl ⟨rfl, m2.1, m2.2, m3⟩ ⟨Nat.le_refl _, by unfold xRM; dsimp only; omega⟩
    intro w hw
    rcases List.mem_append.mp hw with hw | hw
    · simp only [List.mem_cons, List.not_mem_nil, or_false] at hw
      rcases hw with rfl | rfl | rfl | rfl
      · exact hL
      · exact m6.1
      · exact hsel
      · exact m5
    · rcases List.mem_cons.mp hw with rfl | hw
      · exact m4
      · exact hw
  have hrecv := va_recv (D := G.2.1) (tys := xTy G) K.2.2.2.2.2.2.2.2.2.1.1 (hP.one hcell h3 cO_nz) (xCt_get hci) (q0 := 0) rfl
  rw [hcl] at hrecv
  have run := vx_runV (e := e) (H := H) (locs := locs) (cells := cells) (slots := slots) (g := F0 m pc lsA (stk.map (xv G))) (rest := st.map (xv G)) (As := As.map (xv G)) (b := xρ G a) (below := below) (meth := meth) ⟨K.1, K.2.1, K.2.2.2.1, K.2.2.2.2.1, K.2.2.2.2.2.1⟩ hMet cw ⟨xW.blind, hrecv, fun U hU hW => ⟨rfl, by rw [hU]; exact hP, by rw [hU]; exact hZ, xSt.moved K.2.2.2.2.2.2.2.2.2.1 hS hW hU⟩⟩ rfl (by rw [List.length_map]; exact hlen) hl.1 (by show stk.map (xv G) = _; rw [hst, List.map_append, List.map_reverse]; rfl) (lv_room (by rw [xcat]; exact hrest)) hd ⟨by unfold xRM; dsimp only; omega, by unfold xRM; dsimp only; omega⟩
  intro T hT Xs
  rcases run T hT Xs with ⟨v, st₀, t, T', L, e0, X', hL9, e1, e2, ⟨v', ex', h', hv, hQ, hP', hZ', hF⟩, go⟩ | ⟨q, st₀, t, T', L, E, ce, e0, X', hL9, e1, e2, ⟨h', hQ, hE, hP', hF⟩, hce, hcv, hcl9, stp⟩
  · cases hv
    obtain ⟨k1, k2, k3⟩ := vx_keep e0 e1 hS (fun q _ hq => hq) (fun q hq => hq) hL9 hF
    have hW := hQ p e s m args below meth c K T'.heap (locs ++ L) (cells + rc2) (slots + rs2) mc ms lsA (by rw [e1]; exact hP') k3 (by rw [e1]; exact hZ') (by omega) (by omega) hl
    obtain ⟨t2, a1, b1⟩ := hW T' rfl X'
    refine ⟨t2, go t2 ?_, b1⟩
    have hst : (v'.map (xv G)).toList ++ st.map (xv G) = (v'.toList ++ st).map (xv G) := by cases v' <;> simp
    rw [hst]
    exact a1
  · obtain ⟨k1, k2, k3⟩ := vx_keep e0 e1 hS (fun q _ hq => hq) (fun q hq => hq) hL9 hF
    obtain ⟨pre, x, suf, y1, y2, y3, y4, y5, kk, len, y6, y7, y8⟩ := hQ
    have hts := K.2.2.2.2.2.1
    have hSt := K.2.2.2.2.2.2.2.2.2.1
    have hP9 : xP G h' T'.heap := by rw [e1]; exact hP'
    have hc : vx_W p G.1 e (xRM (d' + 1) mc ms) s m args below meth c T'.heap (locs ++ L) (cells + rc2) (slots + rs2) (xPost G Q below args s mc ms) (F0 m pc lsA (st.map (xv G))) q := by
      refine vx_catch (own := mt.1.cls) (name := E) (E := E) (ce := ce) K.2.2.2.2.1 pre x suf (K.2.2.2.2.2.2.2.1.trans y1) (fun z hz => ?_) y3 y4 (hts _ y5) (va_Nw.use rfl (hSt.2.2.2.2.2.2.2.2.2.2.1 _ (xBw_c hE))) (by rw [e1]; exact hce) hcv hcl9 ?_
      · obtain ⟨z1, nm, z2, z3, z4⟩ := y2 z hz
        exact Or.inr ⟨z1, nm, hts _ z4, hSt.2.2.2.2.2.2.2.2.2.1 E hE nm z2 (Ne.symm z3)⟩
      · rcases y6 with ⟨f, w1, rfl, rfl⟩ | ⟨w1, rfl⟩
        · exact lv_astore_n K.1 K.2.1 w1 rfl hl.has y7 rfl (fun lsB hB => y8 p e s m args below meth c K T'.heap _ _ _ mc ms lsB hP9 k3 (fun q => by cases q) (by omega) (by omega) (xLo.nil hB))
        · exact lv_astore K.1 K.2.1 w1 hl.has y7 rfl (fun lsB hB => y8 p e s m args below meth c K T'.heap _ _ _ mc ms lsB hP9 k3 (fun q => by cases q) (by omega) (by omega) (xLo.nil hB))
    obtain ⟨t3, a3, b3⟩ := hc T' rfl X'
    exact ⟨t3, stp.trans a3, b3⟩
end XT
