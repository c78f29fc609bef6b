theorem xSt.moved {G : xG} {s U : State} {H : Heap} {locs : List Loc} (h : xSt G s s.heap) (hS : va_S (xA G) s.heap H locs) (hW : s.WarmedH U.vm) (hU : U.heap = H) : xSt G U U.heap := by
  obtain ⟨a1, a2, a3, a4, ⟨a5, a6⟩, ⟨a7, a8⟩, a9, a10, a11, a12, a13, a14, a15, a16⟩ := h
  have hvm := hW.alike
  have hk : ∀ a : Nat, a < s.heap.size → ¬ xA G a → H[a]? = s.heap[a]? := hS.2.1
  subst hU
  refine ⟨va_K.moved hvm a1, Nat.le_trans a2 hS.1, a3, ?_, ⟨(va_Z.moved hvm a5).kept hk, (va_T.moved hvm a6).kept hk⟩, ⟨trivial, trivial⟩, (vx_Zq.moved hvm a9).kept hk, (vx_Zq.moved hvm a10).kept hk, ?_, ?_, ?_, a14.moved hvm, a15.moved hvm, a16.moved hvm⟩
  · exact (va_X.moved hvm a4).kept (hk _ (Nat.lt_of_lt_of_le a3 a2) (Nat.not_le.mpr a3))
  · intro q hq
    obtain ⟨sa, h1⟩ := a11 q hq
    exact ⟨sa, h1.warm hW⟩
  · exact fun a ha b hb n => va_Nc.moved hvm (a12 a ha b hb n)
  · exact fun w hw => xBw_warm hw hW (a13 w hw)
theorem xSt.same {G : xG} {s U : State} {H : Heap} (hv : U.vm = s.vm) (h : xSt G s H) : xSt G U H := by
  obtain ⟨a1, a2, a3, a4, ⟨a5, a6⟩, ⟨a7, a8⟩, a9, a10, a11, a12, a13, a14, a15, a16⟩ := h
  have hvm : s.vm.Alike U.vm := by rw [hv]; exact Vm.Alike.refl s.vm
  refine ⟨va_K.moved hvm a1, a2, a3, va_X.moved hvm a4, ⟨va_Z.moved hvm a5, va_T.moved hvm a6⟩, ⟨trivial, trivial⟩, vx_Zq.moved hvm a9, vx_Zq.moved hvm a10, ?_, ?_, ?_, a14.moved hvm, a15.moved hvm, a16.moved hvm⟩
  · intro q hq
    obtain ⟨sa, h1⟩ := a11 q hq
    exact ⟨sa, h1.same hv⟩
  · exact fun a ha b hb n => va_Nc.moved hvm (a12 a ha b hb n)
  · exact fun w hw => xBw_same hw hv.symm (a13 w hw)
theorem xW.blind {G : xG} {ex : Bool} {h : xH} {av : List Value} : FrameBlind (va_Pc av (xW G ex h)) := fun a U g mk q => ⟨q.1, q.2.1, q.2.2.1, xSt.same (s := U) (U := U.calling g mk a) rfl q.2.2.2⟩
/-! the locals with which a method begins -/
def xa : List Value → List (Option Value)
  | [] => []
  | .long v :: r => some (.long v) :: none :: xa r
  | .double v :: r => some (.double v) :: none :: xa r
  | v :: r => some v :: xa r
def xe (n : Nat) (As : List Value) : List (Option Value) := xa As ++ List.replicate (n - (xa As).length) none
theorem xa_args (G : xG) : ∀ (As : List Value) (k i : Nat) (v : Value), (xa As)[i]? = some (some v) → (k + i, xv G v) ∈ lv_args k (As.map (xv G))
  | [], k, i, v, h => by simp [xa] at h
  | w :: r, k, i, v, h => by
    have ih := xa_args G r
    have one : ∀ (hx : xa (w :: r) = some w :: xa r) (hc : ¬ (xv G w).category = 2), (k + i, xv G v) ∈ lv_args k ((w :: r).map (xv G)) := by
      intro hx hc
      rw [hx] at h
      simp only [List.map_cons, lv_args, if_neg hc]
      cases i with
      | zero => simp at h; rw [h]; exact List.mem_cons_self
      | succ i =>
        rw [List.getElem?_cons_succ] at h
        have := ih (k + 1) i v h
        rw [show k + (i + 1) = k + 1 + i by omega]
        exact List.mem_cons_of_mem _ this
    have two : ∀ (hx : xa (w :: r) = some w :: none :: xa r) (hc : (xv G w).category = 2), (k + i, xv G v) ∈ lv_args k ((w :: r).map (xv G)) := by
      intro hx hc
      rw [hx] at h
      simp only [List.map_cons, lv_args, if_pos hc]
      match i with
      | 0 => simp at h; rw [h]; exact List.mem_cons_self
      | 1 => simp at h
      | i + 2 =>
        rw [List.getElem?_cons_succ, List.getElem?_cons_succ] at h
        have := ih (k + 2) i v h
        rw [show k + (i + 2) = k + 2 + i by omega]
        exact List.mem_cons_of_mem _ this
    cases w with
    | long z => exact two rfl rfl
    | double z => exact two rfl rfl
    | int z => exact one rfl (fun q => Nat.noConfusion q (fun q2 => Nat.noConfusion q2))
    | float z => exact one rfl (fun q => Nat.noConfusion q (fun q2 => Nat.noConfusion q2))
    | null => exact one rfl (fun q => Nat.noConfusion q (fun q2 => Nat.noConfusion q2))
    | ref z => exact one rfl (fun q => Nat.noConfusion q (fun q2 => Nat.noConfusion q2))
    | retAddr z => exact one rfl (fun q => Nat.noConfusion q (fun q2 => Nat.noConfusion q2))
theorem xa_len (G : xG) : ∀ (As : List Value), (lg_sl (As.map (xv G))).length = (xa As).length
  | [] => rfl
  | w :: r => by
    have ih := xa_len G r
    have e : lg_sl ((w :: r).map (xv G)) = (if (xv G w).category = 2 then [Slot.val (xv G w), .second] else [Slot.val (xv G w)]) ++ lg_sl (r.map (xv G)) := by
      unfold lg_sl
      rw [List.map_cons, List.flatMap_cons]
    rw [e, List.length_append, ih]
    cases w with
    | long z => show 2 + _ = (xa r).length + 1 + 1; omega
    | double z => show 2 + _ = (xa r).length + 1 + 1; omega
    | int z => show 1 + _ = (xa r).length + 1; omega
    | float z => show 1 + _ = (xa r).length + 1; omega
    | null => show 1 + _ = (xa r).length + 1; omega
    | ref z => show 1 + _ = (xa r).length + 1; omega
    | retAddr z => show 1 + _ = (xa r).length + 1; omega
theorem xLo.entry {G : xG} {n : Nat} {As : List Value} (hn : (xa As).length ≤ n) : xLo G n ((lg_sl (As.map (xv G)) ++ List.replicate (n - (lg_sl (As.map (xv G))).length) Slot.unset).toArray) (xe n As) := by
  have h := lv_entry (As.map (xv G)) (n := n) (by rw [xa_len]; exact hn)
  refine ⟨h.1, h.2.1, fun i v hi => h.2.2 (i, xv G v) ?_⟩
  unfold xe at hi
  by_cases hl : i < (xa As).length
  · rw [List.getElem?_append_left hl] at hi
    have := xa_args G As 0 i v hi
    rwa [Nat.zero_add] at this
  · rw [List.getElem?_append_right (by omega), List.getElem?_replicate] at hi
    split at hi <;> cases hi
def xws (mt : xM) : List Cond := Cond.code mt.1 mt.2.1 mt.2.2.1 mt.2.2.2.1 :: lw_big
def xwsH (mt : xM) : List Cond := Cond.codeWith mt.1 mt.2.1 mt.2.2.1 mt.2.2.2.1 mt.2.2.2.2 :: lw_big
theorem xws_good {ws : List Cond} (h : ∀ w ∈ ws, w ∈ lw_big) : GoodIn lw_big ws := fun w hw => ⟨h w hw, good_of_word (lw_bg (h w hw))⟩
section XM
variable {G : xG} {mt mt2 : xM} {d d' rc rs rc' rs' rc2 rs2 : Nat} {ex : Bool} {pc n idx : Nat} {ls ls' : List (Option Value)} {st stk : List Value} {h : xH} {Q : xQ} {As : List Value}
theorem x_met {stat : Bool} (hn : (xa As).length ≤ mt.2.2.1) (hM : xMok mt stat n) (hh : mt.2.2.2.2 = []) (hfl : G.1.stackTraces = false) (k : X G mt d rc rs ex 0 (xe mt.2.2.1 As) [] h Q) :
    vx_Met G.1 mt.1 (xws mt) (xRM d rc rs) (va_Pc (As.map (xv G)) (xW G ex h)) (xQc G Q) (xXC G Q) rc rs (xA G) := by
  refine vx_ofW (cc := mt.2.1) (maxL := mt.2.2.1) (ret := mt.2.2.2.1) hM.1 rfl ?_
  intro p e s m args below meth c s₁ B hml ht hv
  obtain ⟨rfl, hP, hZ, hSt⟩ := hv
  have hts := atoms_spec (ws := xws mt) B.pre
  have hK : xK G mt p s m (As.map (xv G)).toArray meth c := ⟨B.exec, B.bytes, B.returns, hml, findClass_of_methodNamed B.named, fun w hw => hts w (List.mem_cons_of_mem _ hw), B.notSynchronized, by rw [hh]; exact List.eq_nil_iff_forall_not_mem.mpr ht, (name_of_methodNamed B.named B.method).1, hSt, hfl⟩
  have hW := k p e s m _ below meth c hK s.heap [] 0 0 rc rs _ hP va_S.rf hZ (by omega) (by omega) (xLo.entry hn)
  rw [lg_entry_eq]
  exact hW
theorem x_metH {stat : Bool} (hn : (xa As).length ≤ mt.2.2.1) (hM : xMok mt stat n) (hfl : G.1.stackTraces = false) (k : X G mt d rc rs ex 0 (xe mt.2.2.1 As) [] h Q) :
    vx_Met G.1 mt.1 (xwsH mt) (xRM d rc rs) (va_Pc (As.map (xv G)) (xW G ex h)) (xQc G Q) (xXC G Q) rc rs (xA G) := by
  refine vx_ofWH (cc := mt.2.1) (maxL := mt.2.2.1) (ret := mt.2.2.2.1) (hh := mt.2.2.2.2) hM.1 rfl ?_
  intro p e s m args below meth c s₁ B hml hv
  obtain ⟨rfl, hP, hZ, hSt⟩ := hv
  have hts := atoms_spec (ws := xwsH mt) B.pre
  have hK : xK G mt p s m (As.map (xv G)).toArray meth c := ⟨B.exec, B.bytes, B.returns, hml, findClass_of_methodNamed B.named, fun w hw => hts w (List.mem_cons_of_mem _ hw), B.notSynchronized, vx_table (x := mt.1) B (hts _ List.mem_cons_self), (name_of_methodNamed B.named B.method).1, hSt, hfl⟩
  have hW := k p e s m _ below meth c hK s.heap [] 0 0 rc rs _ hP va_S.rf hZ (by omega) (by omega) (xLo.entry hn)
  rw [lg_entry_eq]
  exact hW
/-- what stands behind a call in a method without handlers -/
def xRet (G : xG) (mt : xM) (d rc rs pc : Nat) (ls : List (Option Value)) (st : List Value) (h0 : xH) (Q : xQ) : xQ := fun r ex h => match r with
  | .inl v => X G mt d rc rs ex pc ls (v.toList ++ st) h Q
  | .inr E => Q (.inr E) false h
theorem xRet_some {v : Value} {h0 : xH} (k : X G mt d rc rs ex pc ls (v :: st) h Q) : xRet G mt d rc rs pc ls st h0 Q (.inl (some v)) ex h := k
theorem xRet_none {h0 : xH} (k : X G mt d rc rs ex pc ls st h Q) : xRet G mt d rc rs pc ls st h0 Q (.inl none) ex h := k
theorem xRet_thr {E : String} {h0 : xH} (k : Q (.inr E) false h) : xRet G mt d rc rs pc ls st h0 Q (.inr E) ex h := k
theorem xcat (G : xG) (st : List Value) : ((st.map (xv G)).map fun v => v.category) = st.map fun v => v.category := by
  rw [List.map_map]
  exact List.map_congr_left (fun v _ => xv_cat G v)
theorem x_run {p : Program} {e : Env} {s : State} {m : MethodId} {args : Array Value} {below : List Frame} {meth : Method} {c : Code} (K : xK G mt p s m args meth c) (hhd : mt.2.2.2.2 = []) {H : Heap} {locs : List Loc} {cells slots mc ms : Nat} {lsA : Array Slot}
    (hS : va_S (xA G) s.heap H locs) (h1 : cells + (rc' + rc2) ≤ mc) (h2 : slots + (rs' + rs2) ≤ ms) (hl : xLo G mt.2.2.1 lsA ls) {a : Array Value} {h0 : xH}
    (run : vx_Run p G.1 e (xRM d mc ms) s m args below meth c H locs cells slots rc2 rs2 (F0 m pc lsA (stk.map (xv G))) (st.map (xv G)) (xQc G (xRet G mt d rc' rs' (pc + 3) ls st h0 Q) a) (xXC G (xRet G mt d rc' rs' (pc + 3) ls st h0 Q)) (xA G)) :
    W p G.1 e (xRM d mc ms) s m args below meth c H locs cells slots (xPost G Q below args s mc ms) (F0 m pc lsA (stk.map (xv G))) := by
  intro T hT Xs
  rcases run T hT Xs with ⟨v, st₀, t, T', L, e0, X', hL, e1, e2, ⟨v', ex', h', hv, hQ, hP', hZ', hF⟩, go⟩ | ⟨q, st₀, t, T', L, E, ce, e0, X', hL, e1, e2, ⟨h', hQ, hE, hP', hF⟩, hce, hcv, hcl, stp⟩
  · cases hv
    obtain ⟨k1, k2, k3⟩ := vx_keep e0 e1 hS (fun q _ hq => hq) (fun q hq => hq) hL hF
    have hW := hQ p e s m args below meth c K T'.heap (locs ++ L) (cells + rc2) (slots + rs2) mc ms lsA (by rw [e1]; exact hP') k3 (by rw [e1]; exact hZ') (by omega) (by omega) hl
    obtain ⟨t2, a1, b1⟩ := hW T' rfl X'
    refine ⟨t2, go t2 ?_, b1⟩
    have hst : (v'.map (xv G)).toList ++ st.map (xv G) = (v'.toList ++ st).map (xv G) := by cases v' <;> simp
    rw [hst]
    exact a1
  · obtain ⟨k1, k2, k3⟩ := vx_keep e0 e1 hS (fun q _ hq => hq) (fun q hq => hq) hL hF
    have ho : vx_W p G.1 e (xRM d mc ms) s m args below meth c T'.heap (locs ++ L) (cells + rc2) (slots + rs2) (xPost G Q below args s mc ms) (F0 m pc lsA (st.map (xv G))) q := by
      refine vx_out (E := E) (ce := ce) ?_ K.2.2.2.2.2.2.1 (by rw [e1]; exact hce) hcv hcl ?_ k3.2.2 (by omega) (by omega)
      · rw [K.2.2.2.2.2.2.2.1, hhd]
        intro x hx
        cases hx
      · intro t' ht' _
        exact ⟨h', hQ, hE, by rw [ht', e1]; exact hP', k3.F ht'⟩
    obtain ⟨t3, a3, b3⟩ := ho T' rfl X'
    exact ⟨t3, stp.trans a3, b3⟩
theorem x_invokevirtual {a ci : Nat} {fs : List Value} (hM : xMok mt2 false n) (hL : Cond.methodLink mt.1.cls idx mt2.1 ∈ lw_big) (hd : decode mt.2.1 pc = .ok (.invokevirtual idx, 3)) (hhd : mt.2.2.2.2 = []) (hh2 : mt2.2.2.2.2 = []) (hnm : mt2.1.name ≠ "<init>")
    (hst : stk = As.reverse ++ .ref a :: st) (hlen : As.length = n) (hcell : h[a]? = some (cO ci fs)) (h3 : 3 ≤ a) (hci : ci < 11) (hcl : (xCt ci).1 = mt2.1.cls) (hrest : (st.map fun v => v.category).sum ≤ 8) (hdep : d = d' + 1) (hmax : mt2.2.2.1 ≤ 400) (hxa : (xa (.ref a :: As)).length ≤ mt2.2.2.1)
    (hrc : rc = rc' + rc2) (hrs : rs = rs' + rs2)
    (k : X G mt2 d' rc2 rs2 ex 0 (xe mt2.2.2.1 (.ref a :: As)) [] h (xRet G mt d rc' rs' (pc + 3) ls st h Q)) : X G mt d rc rs ex pc ls stk h Q := by
  intro p e s m args below meth c K H locs cells slots mc ms lsA hP hS hZ h1 h2 hl
  subst hrc; subst hrs; subst hdep
  refine x_run (st := st) K hhd hS h1 h2 hl (a := (Value.ref (xρ G a) :: As.map (xv G)).toArray) (h0 := h) ?_
  have hMet := x_met hxa hM hh2 K.2.2.2.2.2.2.2.2.2.2 k
  obtain ⟨m1, m2, m3, m4, m5, m6⟩ := hM
  rw [if_pos hh2] at m4
  rw [if_neg (by decide)] at m6
  have hsel : Cond.selects mt2.1.cls mt2.1 mt2.1 ∈ lw_big := m6.2.resolve_left hnm
  have cw : CallW (xRM (d' + 1) mc ms) s args mt.1.cls mt2.1.cls idx mt2.1 mt2.2.1 mt2.2.2.1 mt2.2.2.2.1 (xws mt2) (xRM d' rc2 rs2) rc2 rs2 n := by
    refine cwV n (Ts := lw_big) K.2.2.2.2.2.1 (xws_good ?_) rfl rfl rfl ⟨rfl, m2.1, m2.2, m3⟩ ⟨Nat.le_refl _, by unfold xRM; dsimp only; omega⟩
    intro w hw
    rcases List.mem_append.mp hw with hw | hw
    · simp only [List.mem_cons, List.not_mem_nil, or_false] at hw
      rcases hw with rfl | rfl | rfl | rfl
      · exact hL
      · exact m6.1
      · exact hsel
      · exact m5
    · rcases List.mem_cons.mp hw with rfl | hw
      · exact m4
      · exact hw
  have hrecv := va_recv (D := G.2.1) (tys := xTy G) K.2.2.2.2.2.2.2.2.2.1.1 (hP.one hcell h3 cO_nz) (xCt_get hci) (q0 := 0) rfl
  rw [hcl] at hrecv
  refine vx_runV (As := As.map (xv G)) (b := xρ G a) ⟨K.1, K.2.1, K.2.2.2.1, K.2.2.2.2.1, K.2.2.2.2.2.1⟩ hMet cw ⟨xW.blind, hrecv, fun U hU hW => ⟨rfl, by rw [hU]; exact hP, by rw [hU]; exact hZ, xSt.moved K.2.2.2.2.2.2.2.2.2.1 hS hW hU⟩⟩ rfl (by rw [List.length_map]; exact hlen) hl.1 ?_ (lv_room (by rw [xcat]; exact hrest)) hd ⟨by unfold xRM; dsimp only; omega, by unfold xRM; dsimp only; omega⟩
  show stk.map (xv G) = _
  rw [hst, List.map_append, List.map_reverse]
  rfl
theorem x_invokestatic (hM : xMok mt2 true n) (hL : Cond.methodLink mt.1.cls idx mt2.1 ∈ lw_big) (hd : decode mt.2.1 pc = .ok (.invokestatic idx, 3)) (hhd : mt.2.2.2.2 = []) (hh2 : mt2.2.2.2.2 = [])
    (hst : stk = As.reverse ++ st) (hlen : As.length = n) (hrest : (st.map fun v => v.category).sum ≤ 8) (hdep : d = d' + 1) (hmax : mt2.2.2.1 ≤ 400) (hxa : (xa As).length ≤ mt2.2.2.1)
    (hrc : rc = rc' + rc2) (hrs : rs = rs' + rs2)
    (k : X G mt2 d' rc2 rs2 ex 0 (xe mt2.2.2.1 As) [] h (xRet G mt d rc' rs' (pc + 3) ls st h Q)) : X G mt d rc rs ex pc ls stk h Q := by
  intro p e s m args below meth c K H locs cells slots mc ms lsA hP hS hZ h1 h2 hl
  subst hrc; subst hrs; subst hdep
  refine x_run (st := st) K hhd hS h1 h2 hl (a := (As.map (xv G)).toArray) (h0 := h) ?_
  have hMet := x_met hxa hM hh2 K.2.2.2.2.2.2.2.2.2.2 k
  obtain ⟨m1, m2, m3, m4, m5, m6⟩ := hM
  rw [if_pos hh2] at m4
  rw [if_pos rfl] at m6
  have cw : CallB (xRM (d' + 1) mc ms) s args mt.1.cls idx mt2.1 mt2.2.1 mt2.2.2.1 mt2.2.2.2.1 (xws mt2) (xRM d' rc2 rs2) rc2 rs2 n ∧ (Cond.static mt2.1).before args s = true := by
    refine va_cwS n (Ts := lw_big) K.2.2.2.2.2.1 (xws_good ?_) rfl rfl rfl ⟨m2.1, m2.2, m3⟩ ⟨Nat.le_refl _, by unfold xRM; dsimp only; omega⟩
    intro w hw
    rcases List.mem_append.mp hw with hw | hw
    · simp only [List.mem_cons, List.not_mem_nil, or_false] at hw
      rcases hw with rfl | rfl | rfl
      · exact hL
      · exact m6
      · exact m5
    · rcases List.mem_cons.mp hw with rfl | hw
      · exact m4
      · exact hw
  refine vx_runS (As := As.map (xv G)) ⟨K.1, K.2.1, K.2.2.2.1, K.2.2.2.2.1, K.2.2.2.2.2.1⟩ hMet cw ⟨xW.blind, fun U hU hW => ⟨rfl, by rw [hU]; exact hP, by rw [hU]; exact hZ, xSt.moved K.2.2.2.2.2.2.2.2.2.1 hS hW hU⟩⟩ rfl (by rw [List.length_map]; exact hlen) hl.1 ?_ (lv_room (by rw [xcat]; exact hrest)) hd ⟨by unfold xRM; dsimp only; omega, by unfold xRM; dsimp only; omega⟩
  show stk.map (xv G) = _
  rw [hst, List.map_append, List.map_reverse]
theorem x_invokespecial {a : Nat} (hM : xMok mt2 false n) (hL : Cond.methodLink mt.1.cls idx mt2.1 ∈ lw_big) (hd : decode mt.2.1 pc = .ok (.invokespecial idx, 3)) (hhd : mt.2.2.2.2 = []) (hh2 : mt2.2.2.2.2 = []) (hnm : mt2.1.name = "<init>") (hret : mt2.2.2.2.1 = none)
    (hst : stk = As.reverse ++ .ref a :: st) (hlen : As.length = n) (hrest : (st.map fun v => v.category).sum ≤ 8) (hdep : d = d' + 1) (hmax : mt2.2.2.1 ≤ 400) (hxa : (xa (.ref a :: As)).length ≤ mt2.2.2.1)
    (hrc : rc = rc' + rc2) (hrs : rs = rs' + rs2)
    (k : X G mt2 d' rc2 rs2 ex 0 (xe mt2.2.2.1 (.ref a :: As)) [] h (xRet G mt d rc' rs' (pc + 3) ls st h Q)) : X G mt d rc rs ex pc ls stk h Q := by
  intro p e s m args below meth c K H locs cells slots mc ms lsA hP hS hZ h1 h2 hl
  subst hrc; subst hrs; subst hdep
  refine x_run (st := st) K hhd hS h1 h2 hl (a := (Value.ref (xρ G a) :: As.map (xv G)).toArray) (h0 := h) ?_
  have hMet := x_met hxa hM hh2 K.2.2.2.2.2.2.2.2.2.2 k
  obtain ⟨m1, m2, m3, m4, m5, m6⟩ := hM
  rw [if_pos hh2] at m4
  rw [if_neg (by decide)] at m6
  rw [hret] at m4
  have hts := K.2.2.2.2.2.1
  have cw : CallB (xRM (d' + 1) mc ms) s args mt.1.cls idx mt2.1 mt2.2.1 mt2.2.2.1 none (xws mt2) (xRM d' rc2 rs2) rc2 rs2 n ∧ mt2.1.name = "<init>" ∧ (Cond.instanceMethod mt2.1).before args s = true := by
    refine cwI n (Ts := lw_big) hts (xws_good ?_) (by unfold xws; rw [hret]) rfl rfl (hts _ m5) (hts _ hL) (hts _ m6.1) hnm ⟨m2.1, m2.2, m3⟩ ⟨Nat.le_refl _, by unfold xRM; dsimp only; omega⟩
    intro w hw
    rcases List.mem_cons.mp hw with rfl | hw
    · rw [hret]; exact m4
    · exact hw
  refine vx_runI (As := As.map (xv G)) (b := xρ G a) ⟨K.1, K.2.1, K.2.2.2.1, K.2.2.2.2.1, K.2.2.2.2.2.1⟩ hMet cw ⟨xW.blind, fun U hU hW => ⟨rfl, by rw [hU]; exact hP, by rw [hU]; exact hZ, xSt.moved K.2.2.2.2.2.2.2.2.2.1 hS hW hU⟩⟩ rfl (by rw [List.length_map]; exact hlen) hl.1 ?_ (lv_room (by rw [xcat]; exact hrest)) hd ⟨by unfold xRM; dsimp only; omega, by unfold xRM; dsimp only; omega⟩
  show stk.map (xv G) = _
  rw [hst, List.map_append, List.map_reverse]
  rfl
theorem x_objinit {a : Nat} (hL : Cond.methodLink mt.1.cls idx objectInit ∈ lw_big) (hi : Cond.instanceMethod objectInit ∈ lw_big) (hc : Cond.code objectInit ⟨#[0xb1]⟩ 1 none ∈ lw_big) (hd : decode mt.2.1 pc = .ok (.invokespecial idx, 3)) (hrest : (st.map fun v => v.category).sum ≤ 8) (hdep : 1 ≤ d)
    (k : X G mt d rc rs ex (pc + 3) ls st h Q) : X G mt d rc rs ex pc ls (.ref a :: st) h Q := by
  intro p e s m args below meth c K H locs cells slots mc ms lsA hP hS hZ h1 h2 hl
  have hts := K.2.2.2.2.2.1
  refine W.objInit K.1 K.2.1 K.2.2.2.2.1 (hts _ hL) (hts _ hi) (hts _ hc) rfl (hl.1.trans K.2.2.2.1.symm) rfl hd hdep ?_ (k p e s m args below meth c K H locs cells slots mc ms lsA hP hS hZ h1 h2 hl)
  have := lv_room (m := m) (pc := pc) (ls := lsA) (rest := (Value.ref a :: st).map (xv G)) (st := st.map (xv G)) (by rw [xcat]; exact hrest)
  show _ + _ + 12 ≤ 500 * d + 876
  have h9 : 2 * (F0 m pc lsA ((Value.ref a :: st).map (xv G))).monitorRoom + (((st.map (xv G)).map fun v => v.category).sum) ≤ 8 := this
  omega
/-! returns -/
theorem x_ireturn {z : Int} (hd : decode mt.2.1 pc = .ok (.ireturn, 1)) (hr : mt.2.2.2.1 = some .int) (k : Q (.inl (some (vi z))) ex h) : X G mt d rc rs ex pc ls [vi z] h Q := by
  intro p e s m args below meth c K H locs cells slots mc ms lsA hP hS hZ h1 h2 hl
  refine W.widen (k := mc) (n := ms) (by omega) (by omega) (vx_ret ?_)
  exact W.iret K.1 K.2.1 (K.2.2.1.trans hr) (fun t ht _ => ⟨some (vi z), ex, h, rfl, k, by rw [ht]; exact hP, by rw [ht]; exact hZ, hS.F ht⟩) hS.2.2 hd K.2.2.2.2.2.2.1
theorem x_zreturn {z : Int} (hd : decode mt.2.1 pc = .ok (.ireturn, 1)) (hr : mt.2.2.2.1 = some .boolean) (hz : z = 0 ∨ z = 1) (k : Q (.inl (some (vi z))) ex h) : X G mt d rc rs ex pc ls [vi z] h Q := by
  intro p e s m args below meth c K H locs cells slots mc ms lsA hP hS hZ h1 h2 hl
  refine W.widen (k := mc) (n := ms) (by omega) (by omega) (vx_ret ?_)
  exact W.zret K.1 K.2.1 (K.2.2.1.trans hr) (by rcases hz with rfl | rfl <;> rfl) (fun t ht _ => ⟨some (vi z), ex, h, rfl, k, by rw [ht]; exact hP, by rw [ht]; exact hZ, hS.F ht⟩) hS.2.2 hd K.2.2.2.2.2.2.1
theorem x_return (hd : decode mt.2.1 pc = .ok (.return_, 1)) (hr : mt.2.2.2.1 = none) (k : Q (.inl none) ex h) : X G mt d rc rs ex pc ls [] h Q := by
  intro p e s m args below meth c K H locs cells slots mc ms lsA hP hS hZ h1 h2 hl
  refine W.widen (k := mc) (n := ms) (by omega) (by omega) (vx_ret ?_)
  exact W.vret K.1 K.2.1 (K.2.2.1.trans hr) (fun t ht _ => ⟨none, ex, h, rfl, k, by rw [ht]; exact hP, by rw [ht]; exact hZ, hS.F ht⟩) hS.2.2 hd K.2.2.2.2.2.2.1
end XM
