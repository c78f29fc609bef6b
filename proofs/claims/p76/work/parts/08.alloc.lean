section XN
variable {G : xG} {mt : xM} {d rc rs rc' rs' : Nat} {pc : Nat} {ls : List (Option Value)} {st : List Value} {h : xH} {Q : xQ}
theorem xP.push {G : xG} {h : xH} {H H1 : Heap} {c : xC} (hP : xP G h H) (hc : va_at G.2.1 xCl (xρ G h.length, xE G c) H1) (oq : ∀ q : Nat, q < H.size → H1[q]? = H[q]?) : xP G (h ++ [c]) H1 := by
  intro i c' hi hi3
  by_cases hl : i < h.length
  · rw [List.getElem?_append_left hl] at hi
    have hat := hP i c' hi hi3
    exact hat.kept (oq _ hat.lt)
  · rw [List.getElem?_append_right (by omega)] at hi
    have hz : i - h.length < 1 := (List.getElem?_eq_some_iff.mp hi).1
    have hi0 : i = h.length := by omega
    subst hi0
    rw [Nat.sub_self] at hi
    cases hi
    exact xAt.of hc
theorem x_pad {G : xG} {mt : xM} {d rc rs pc : Nat} {ex : Bool} {ls : List (Option Value)} {st : List Value} {h : xH} {Q : xQ} (h4 : 4 ≤ h.length) (k : ∀ n, X G mt d rc rs true pc ls st (h ++ List.replicate n cZ) Q) : X G mt d rc rs ex pc ls st h Q := by
  intro p e s m args below meth c K H locs cells slots mc ms lsA hP hS hZ h1 h2 hl
  have hi : h.length - 1 < h.length := by omega
  have hb := (hP (h.length - 1) _ (List.getElem?_eq_getElem hi) (by omega)).2
  have hr : ∀ i, 3 ≤ i → xρ G i = G.2.2.2.1 + (i - 3) := fun i h3 => by unfold xρ; rw [if_neg (by omega)]
  rw [hr _ (by omega)] at hb
  refine k (H.size + 3 - G.2.2.2.1 - h.length) p e s m args below meth c K H locs cells slots mc ms lsA (fun i c hi h3 => ?_) hS (fun _ => ?_) h1 h2 hl
  · by_cases hl : i < h.length
    · rw [List.getElem?_append_left hl] at hi
      exact hP i c hi h3
    · rw [List.getElem?_append_right (by omega), List.getElem?_replicate] at hi
      by_cases hj : i - h.length < H.size + 3 - G.2.2.2.1 - h.length
      · rw [if_pos hj] at hi
        cases hi
        refine ⟨fun z => absurd rfl z, ?_⟩
        rw [hr _ h3]
        omega
      · rw [if_neg hj] at hi
        cases hi
  · rw [List.length_append, List.length_replicate]
    omega
theorem xZ.at {G : xG} {h : xH} {H : Heap} (hZ : xZ G true h H) : xρ G h.length = H.size := by
  obtain ⟨z1, z2⟩ := hZ rfl
  unfold xρ
  rw [if_neg (by omega)]
  omega
theorem xZ.push {G : xG} {h : xH} {H H1 : Heap} {c : xC} (hZ : xZ G true h H) (z : H1.size = H.size + 1) : xZ G true (h ++ [c]) H1 := by
  intro he
  obtain ⟨z1, z2⟩ := hZ he
  rw [z, List.length_append]
  exact ⟨by show H.size + 1 + 3 = _ + (h.length + 1); omega, by omega⟩
theorem xS.new {A : Nat → Prop} {H0 H H1 : Heap} {locs : List Loc} (hS : va_S A H0 H locs) (z : H.size ≤ H1.size) (o : ∀ q, q < H.size → H1[q]? = H[q]?) : va_S A H0 H1 locs := ⟨Nat.le_trans hS.1 z, fun x h1 h2 => (o x (Nat.lt_of_lt_of_le h1 hS.1)).trans (hS.2.1 x h1 h2), hS.2.2⟩
def xDef (ci : Nat) (fs : List Value) : Prop := fs.length = (xCt ci).2.2 ∧ ∀ j, j < (xCt ci).2.2 → ∃ t, parseFieldDescriptor ((xCt ci).2.1 j).2.2.1 = some t ∧ fs[j]? = some (defaultValue t) ∧ (defaultValue t).isDefault = true
theorem xv_def (G : xG) {v : Value} (h : v.isDefault = true) : xv G v = v := by cases v <;> first | rfl | cases h
theorem x_new {idx ci : Nat} {fs : List Value} (hci : ci < 11) (hw : Cond.classLink mt.1.cls idx (xCt ci).1 ∈ lw_big) (hi : Cond.instantiable (xCt ci).1 (xCt ci).2.2 ∈ lw_big) (hz : Cond.initialized (xCt ci).1 ∈ lw_big) (hd : decode mt.2.1 pc = .ok (.new idx, 3)) (hdef : xDef ci fs) (hrc : rc = rc' + 1) (hrs : rs = rs' + (xCt ci).2.2)
    (kk : X G mt d rc' rs' true (pc + 3) ls (.ref h.length :: st) (h ++ [cO ci fs]) Q) : X G mt d rc rs true pc ls st h Q := by
  intro p e s m args below meth c K H locs cells slots mc ms lsA hP hS hZ h1 h2 hl
  subst hrc; subst hrs
  obtain ⟨g1, ⟨ty0, g2⟩, g3, -⟩ := xCok ci hci
  have hts := K.2.2.2.2.2.1
  have hc := xCt_get hci
  have hKn := K.2.2.2.2.2.2.2.2.2.1.1.1 ci _ hc
  have hk := kk p e s m args below meth c K
  refine W.newcK K.1 K.2.1 K.2.2.2.2.1 (hts _ hw) (hts _ hi) (hts _ hz) rfl hd (by unfold xRM; dsimp only; omega) (by unfold xRM; dsimp only; omega) hKn.2.1 rfl fun H1 kC hkC e1 z1 o1 => ?_
  have hat : va_at G.2.1 xCl (xρ G h.length, xE G (cO ci fs)) H1 := by
    rw [hZ.at]
    refine ⟨_, hc, (u_born ty0 hts g1 hKn hkC e1 g2).to fun j hj => ?_⟩
    obtain ⟨t, e2, e3, e4⟩ := hdef.2 j hj
    have e5 : ty0 j = t := Option.some.inj ((g2 j hj).symm.trans e2)
    rw [e5]
    show defaultValue t = (fs.map (xv G)).getD j .null
    rw [List.getD_eq_getElem?_getD, List.getElem?_map, e3]
    exact (xv_def G e4).symm
  have hW := hk H1 locs (cells + 1) (slots + (xCt ci).2.2) mc ms lsA (hP.push hat o1) (xS.new hS (by omega) o1) (hZ.push z1) (by omega) (by omega) hl
  have e6 : xv G (.ref h.length) = .ref H.size := by show Value.ref (xρ G h.length) = _; rw [hZ.at]
  rw [List.map_cons, e6] at hW
  exact hW
theorem x_newarrayI {k : Nat} {atype : ArrayType} {z : Int} (n : Nat) (hk : k = 0 ∧ atype = .int ∨ k = 0 ∧ atype = .int) (hw : Cond.arrayClass (newarray.typeOf atype) ∈ lw_big) (hd : decode mt.2.1 pc = .ok (.newarray atype, 2)) (hz : z = (n : Int)) (hn : n < 100000) (hrc : rc = rc' + 1) (hrs : rs = rs' + n)
    (kk : X G mt d rc' rs' true (pc + 2) ls (.ref h.length :: st) (h ++ [cA k (List.replicate n 0)]) Q) : X G mt d rc rs true pc ls (vi z :: st) h Q := by
  intro p e s m args below meth c K H locs cells slots mc ms lsA hP hS hZ h1 h2 hl
  subst hrc; subst hrs; subst hz
  have hts := K.2.2.2.2.2.1
  have hk7 : k < 7 := by rcases hk with ⟨rfl, -⟩ | ⟨rfl, -⟩ <;> decide
  have hKk := K.2.2.2.2.2.2.2.2.2.1.1.2 k _ (xTy_get G hk7)
  have hty : newarray.typeOf atype = xT k := by rcases hk with ⟨rfl, rfl⟩ | ⟨rfl, rfl⟩ <;> rfl
  refine va_newaK (N := n) K.1 K.2.1 (hts _ hw) rfl hd rfl (xI_nneg n (by omega)) (xI_clamp n (by omega)) ?_ (by unfold xRM; dsimp only; omega) (by unfold xRM; dsimp only; omega) rfl fun H1 cA' e1 z1 o1 hAr hNm => ?_
  · rcases hk with ⟨-, rfl⟩ | ⟨-, rfl⟩
    · show n * 4 ≤ _; omega
    · show n * 4 ≤ _; omega
  have hcA : cA' = G.2.2.1 k := by
    have h9 := hKk.2
    rw [hty] at hNm
    have : s.vm.findClass ("[" ++ (xT k).toString) = some (G.2.2.1 k) := by
      rcases hk with ⟨rfl, -⟩ | ⟨rfl, -⟩ <;> exact h9
    exact Option.some.inj (hNm.symm.trans this)
  have hat : va_at G.2.1 xCl (xρ G h.length, xE G (cA k (List.replicate n 0))) H1 := by
    rw [hZ.at]
    show H1[H.size]? = some (vp_cell (G.2.2.1 k) ((List.replicate n (0 : Int)).length, .inl (fun i => xI ((List.replicate n 0).getD i 0))))
    rw [e1, hcA, vp_cell_i, List.length_replicate]
    congr 2
    funext i
    rw [hty]
    have e9 : (List.replicate n (0 : Int)).getD i 0 = 0 := by
      rw [List.getD_eq_getElem?_getD, List.getElem?_replicate]
      split <;> rfl
    rw [e9]
    rcases hk with ⟨rfl, -⟩ | ⟨rfl, -⟩ <;> rfl
  have hW := kk p e s m args below meth c K H1 locs (cells + 1) (slots + n) mc ms lsA (hP.push hat o1) (xS.new hS (by omega) o1) (hZ.push z1) (by omega) (by omega) hl
  have e6 : xv G (.ref h.length) = .ref H.size := by show Value.ref (xρ G h.length) = _; rw [hZ.at]
  rw [List.map_cons, e6] at hW
  exact hW
theorem x_anewarray {k idx : Nat} {C : String} {z : Int} (n : Nat) (hk : k = 5 ∧ C = "Veilbourse$Run" ∨ k = 6 ∧ C = "Veilbourse$Pair") (hw : Cond.classLink mt.1.cls idx C ∈ lw_big) (hd : decode mt.2.1 pc = .ok (.anewarray idx, 3)) (hz : z = (n : Int)) (hn : n < 100000) (hrc : rc = rc' + 1) (hrs : rs = rs' + n)
    (kk : X G mt d rc' rs' true (pc + 3) ls (.ref h.length :: st) (h ++ [cQ k (List.replicate n none)]) Q) : X G mt d rc rs true pc ls (vi z :: st) h Q := by
  intro p e s m args below meth c K H locs cells slots mc ms lsA hP hS hZ h1 h2 hl
  subst hrc; subst hrs; subst hz
  have hts := K.2.2.2.2.2.1
  have hk7 : k < 7 := by rcases hk with ⟨rfl, -⟩ | ⟨rfl, -⟩ <;> decide
  have hKk := K.2.2.2.2.2.2.2.2.2.1.1.2 k _ (xTy_get G hk7)
  have hO := K.2.2.2.2.2.2.2.2.2.1.2.2.2.2.2.2.2.2.2.2.2
  have hao : va_AO C s := by rcases hk with ⟨-, rfl⟩ | ⟨-, rfl⟩; exact hO.2.1; exact hO.2.2
  have hty : xT k = .object C := by rcases hk with ⟨rfl, rfl⟩ | ⟨rfl, rfl⟩ <;> rfl
  have hcl : (xI (n : Int)).toNatClampNeg = n := xI_clamp n (by omega)
  refine W.anew K.1 K.2.1 K.2.2.2.2.1 (hts _ hw) (va_AO.use hao) rfl hd rfl (xI_nneg n (by omega)) (by rw [hcl]; omega) (by unfold xRM; dsimp only; omega) (by rw [hcl]; unfold xRM; dsimp only; omega) fun cA' kA comp f1 f2 f3 f4 => ?_
  rw [hcl]
  generalize hH1 : H.push ({ cls := cA', slots := Array.replicate n .null, vm := .none } : Cell) = H1
  have z1 : H1.size = H.size + 1 := by rw [← hH1, Array.size_push]
  have e1 : H1[H.size]? = some (arrV cA' n (fun _ => .null)) := by rw [← hH1, Array.getElem?_push_size, ← arrV_new]
  have o1 : ∀ q, q < H.size → H1[q]? = H[q]? := fun q hq => by rw [← hH1, Array.getElem?_push, if_neg (Nat.ne_of_lt hq)]
  have hcA : cA' = G.2.2.1 k := by
    obtain ⟨kA9, comp9, i1, i2, i3, i4⟩ : ∃ (kA : Class) (comp : ClassId), s.vm.classes[G.2.2.1 k]? = some kA ∧ kA.kind = .array comp (.object C) ∧ s.vm.findClass C = some comp ∧ s.vm.findClass ("[" ++ (FieldType.object C).toString) = some (G.2.2.1 k) := by
      have h9 := hKk.2
      rw [hty] at h9
      exact h9
    exact Option.some.inj (f1.symm.trans i4)
  have hat : va_at G.2.1 xCl (xρ G h.length, xE G (cQ k (List.replicate n none))) H1 := by
    rw [hZ.at]
    show H1[H.size]? = some (vp_cell (G.2.2.1 k) ((List.replicate n (none : Option Nat)).length, .inr (.inr (.inr (.inr (fun i => ((List.replicate n none).getD i none).map (xρ G)))))))
    rw [e1, hcA, vp_cell_q, List.length_replicate]
    congr 2
    funext i
    have e9 : (List.replicate n (none : Option Nat)).getD i none = none := by
      rw [List.getD_eq_getElem?_getD, List.getElem?_replicate]
      split <;> rfl
    rw [e9]
    rfl
  have hW := kk p e s m args below meth c K H1 locs (cells + 1) (slots + n) mc ms lsA (hP.push hat o1) (xS.new hS (by omega) o1) (hZ.push z1) (by omega) (by omega) hl
  have e6 : xv G (.ref h.length) = .ref H.size := by show Value.ref (xρ G h.length) = _; rw [hZ.at]
  rw [List.map_cons, e6] at hW
  exact hW
theorem x_aastore {a b k ci : Nat} {l : List (Option Nat)} {fs : List Value} {z : Int} {ex : Bool} (n : Nat) (hd : decode mt.2.1 pc = .ok (.aastore, 1)) (hk : k = 5 ∧ ci = 7 ∨ k = 6 ∧ ci = 5) (hh : h[a]? = some (cQ k l)) (h3 : 3 ≤ a) (hh2 : h[b]? = some (cO ci fs)) (h32 : 3 ≤ b) (hz : z = (n : Int)) (hn : n < l.length) (hb : l.length < 2147483648)
    (kk : X G mt d rc rs ex (pc + 1) ls st (h.set a (cQ k (l.set n (some b)))) Q) : X G mt d rc rs ex pc ls (.ref b :: vi z :: .ref a :: st) h Q := by
  intro p e s m args below meth c K H locs cells slots mc ms lsA hP hS hZ h1 h2 hl
  subst hz
  have hci : ci < 11 := by rcases hk with ⟨-, rfl⟩ | ⟨-, rfl⟩ <;> decide
  have hk7 : k < 7 := by rcases hk with ⟨rfl, -⟩ | ⟨rfl, -⟩ <;> decide
  have hKK := K.2.2.2.2.2.2.2.2.2.1.1
  have hKk := hKK.2 k _ (xTy_get G hk7)
  have hty : xT k = .object (xCt ci).1 := by rcases hk with ⟨rfl, rfl⟩ | ⟨rfl, rfl⟩ <;> rfl
  obtain ⟨r', hr', cellV, g1, g2, g3, -⟩ := (hP b _ hh2 h32).1 cO_nz
  have hcls := (hKK.1 ci _ (xCt_get hci)).2
  obtain ⟨kA, comp, k1, k2, k3, -⟩ : ∃ (kA : Class) (comp : ClassId), s.vm.classes[G.2.2.1 k]? = some kA ∧ kA.kind = .array comp (.object (xCt ci).1) ∧ s.vm.findClass (xCt ci).1 = some comp ∧ s.vm.findClass ("[" ++ (FieldType.object (xCt ci).1).toString) = some (G.2.2.1 k) := by
    have h9 := hKk.2
    rw [hty] at h9
    exact h9
  have hcomp : comp = G.2.1.1 ci := Option.some.inj (k3.symm.trans hcls.1)
  subst hcomp
  obtain ⟨kC, hkC, -⟩ := hcls.2
  have hat : H[xρ G a]? = some (vp_cell (G.2.2.1 k) (l.length, .inr (.inr (.inr (.inr (fun i => (l.getD i none).map (xρ G))))))) := (hP a _ hh h3).1 cQ_nz
  have hcl : (xI (n : Int)).toNatClampNeg = n := xI_clamp n (by omega)
  refine W.aast (v := xρ G b) K.1 K.2.1 hat (fun q h => by cases h) (fun h => by cases h) k1 k2 rfl hkC ⟨xI_nneg n (by omega), by rw [hcl]; show _ < (arrV _ _ _).slots.size; rw [arrV_size]; exact hn⟩ g1 (fun q h => by rw [g3] at h; cases h) (by rw [g2]; exact hkC) (by rw [g2]; exact va_assign hcls) rfl rfl hd fun H1 e1 z9 oq => ?_
  refine kk p e s m args below meth c K H1 _ cells slots mc ms lsA (hP.set h3 ?_ oq) (hS.put z9 oq (xρ_ge G h3)) (hZ.set z9) h1 h2 hl
  show H1[xρ G a]? = some (vp_cell (G.2.2.1 k) ((l.set n (some b)).length, .inr (.inr (.inr (.inr (fun i => ((l.set n (some b)).getD i none).map (xρ G)))))))
  rw [e1, hcl, List.length_set, vp_cell_q, vp_cell_q, arrV_store]
  congr 2
  funext q
  by_cases hq : q = n
  · subst hq
    simp [updV, va_rf, List.getD_eq_getElem?_getD, List.getElem?_set_self hn]
  · simp [updV, hq, List.getD_eq_getElem?_getD, List.getElem?_set_ne (Ne.symm hq)]
/-- new int[n][k] -/
theorem x_multi {idx : Nat} {z w : Int} (n k : Nat) (hw : Cond.classLink mt.1.cls idx "[[I" ∈ lw_big) (hi : Cond.arrayClass .int ∈ lw_big) (hd : decode mt.2.1 pc = .ok (.multianewarray idx 2, 4)) (hz : z = (n : Int)) (hkz : w = (k : Int)) (hn : n < 100) (hk : k < 100) (hrc : rc = rc' + (1 + n)) (hrs : rs = rs' + (n + n * k))
    (kk : X G mt d rc' rs' true (pc + 4) ls (.ref h.length :: st) (h ++ (cQ 4 ((List.range n).map (fun i => some (h.length + 1 + i))) :: List.replicate n (cA 0 (List.replicate k 0)))) Q) : X G mt d rc rs true pc ls (vi w :: vi z :: st) h Q := by
  intro p e s m args below meth c K H locs cells slots mc ms lsA hP hS hZ h1 h2 hl
  subst hrc; subst hrs; subst hz; subst hkz
  have hts := K.2.2.2.2.2.1
  have hKK := K.2.2.2.2.2.2.2.2.2.1.1
  have hO := K.2.2.2.2.2.2.2.2.2.1.2.2.2.2.2.2.2.2.2.2.2
  have hcn : (xI (n : Int)).toNatClampNeg = n := xI_clamp n (by omega)
  have hck : (xI (k : Int)).toNatClampNeg = k := xI_clamp k (by omega)
  have hA0 : s.vm.findClass "[I" = some (G.2.2.1 0) := (hKK.2 0 _ (xTy_get G (by decide))).2
  have hA4 : s.vm.findClass "[[I" = some (G.2.2.1 4) := (hKK.2 4 _ (xTy_get G (by decide))).2
  have hover : (Cond.arrayOver (.array .int)).before args s = true := hO.1
  intro T hT Xs
  have hnk : n * k ≤ 100 * 100 := Nat.mul_le_mul (by omega) (by omega)
  obtain ⟨vm₁, cA', comp, -, fA, fC, -, -, X', step⟩ := Xs.multianewarray2F (ty := .int) K.1 K.2.2.2.2.1 (hts _ hw) hover (hts _ hi) (g := F0 m pc lsA ((vi (k : Int) :: vi (n : Int) :: st).map (xv G))) rfl (by rw [K.2.1]; exact hd) rfl (xI_nneg n (by omega)) (xI_nneg k (by omega)) (by rw [hcn]; omega) (by rw [hck]; show k * 4 ≤ _; omega) (by rw [hck]; omega) rfl rfl (by rw [hcn]; unfold xRM; dsimp only; omega) (by rw [hcn, hck]; unfold xRM; dsimp only; omega)
  have ec : comp = G.2.2.1 0 := Option.some.inj (fC.symm.trans hA0)
  have eA : cA' = G.2.2.1 4 := Option.some.inj (fA.symm.trans hA4)
  subst ec; subst eA
  rw [hcn, hck] at X' step
  generalize hF : Jvm.Free.Multi.fill (T.setVm vm₁) (G.2.2.1 4) (G.2.2.1 0) n k (defaultValue .int) n = F at X' step
  have hTh : (T.setVm vm₁).heap = H := hT
  obtain ⟨f1, f2, -, -⟩ := Jvm.Free.Multi.fill_facts (T.setVm vm₁) (G.2.2.1 4) (G.2.2.1 0) n k (defaultValue .int) n
  rw [hF, hTh] at f1 f2
  have hold : ∀ x : Nat, x < H.size → F.heap[x]? = H[x]? := fun x hx => by
    have := Jvm.Free.Multi.fill_old (T.setVm vm₁) (G.2.2.1 4) (G.2.2.1 0) n k (defaultValue .int) (a := x) (by rw [hTh]; exact hx) n
    rw [hF, hTh] at this
    exact this
  have hrow : ∀ j : Nat, j < n → F.heap[H.size + 1 + j]? = some (vp_cell (G.2.2.1 0) ((List.replicate k (0 : Int)).length, .inl (fun i => xI ((List.replicate k 0).getD i 0)))) := fun j hj => by
    have := Jvm.Free.Multi.fill_inner (T.setVm vm₁) (G.2.2.1 4) (G.2.2.1 0) n k (defaultValue .int) n j hj
    rw [hF, hTh] at this
    rw [this, List.length_replicate, vp_cell_i]
    show some ({ cls := G.2.2.1 0, slots := Array.replicate k (defaultValue .int), vm := .none } : Cell) = _
    rw [arrV_new]
    congr 2
    funext i
    have e9 : (List.replicate k (0 : Int)).getD i 0 = 0 := by
      rw [List.getD_eq_getElem?_getD, List.getElem?_replicate]
      split <;> rfl
    rw [e9]
    rfl
  rw [vr_outer] at f2
  have hz0 := hZ.at
  obtain ⟨z1, z2⟩ := hZ rfl
  have hρ : ∀ i, xρ G (h.length + i) = H.size + i := fun i => by
    rw [← hz0]
    unfold xρ
    rw [if_neg (by omega), if_neg (by omega)]
    omega
  have hP' : xP G (h ++ (cQ 4 ((List.range n).map (fun i => some (h.length + 1 + i))) :: List.replicate n (cA 0 (List.replicate k 0)))) F.heap := by
    intro i c' hi hi3
    by_cases hl9 : i < h.length
    · rw [List.getElem?_append_left hl9] at hi
      have hat := hP i c' hi hi3
      exact hat.kept (hold _ hat.lt)
    · rw [List.getElem?_append_right (by omega)] at hi
      obtain ⟨j, rfl⟩ : ∃ j, i = h.length + j := ⟨i - h.length, by omega⟩
      rw [Nat.add_sub_cancel_left] at hi
      cases j with
      | zero =>
        cases hi
        refine xAt.of ?_
        show va_at _ _ (xρ G (h.length + 0), _) _
        rw [hρ]
        show F.heap[H.size]? = some (vp_cell (G.2.2.1 4) (((List.range n).map (fun i => some (h.length + 1 + i))).length, .inr (.inr (.inr (.inr (fun i => (((List.range n).map (fun i => some (h.length + 1 + i))).getD i none).map (xρ G)))))))
        rw [f2, vp_cell_q, List.length_map, List.length_range]
        congr 2
        funext i
        rw [List.getD_eq_getElem?_getD, List.getElem?_map]
        by_cases hin : i < n
        · rw [List.getElem?_range hin, if_pos hin]
          show va_rf (some (H.size + 1 + i)) = va_rf (some (xρ G (h.length + 1 + i)))
          rw [Nat.add_assoc h.length 1 i, hρ, Nat.add_assoc]
        · rw [if_neg hin, List.getElem?_eq_none (by rw [List.length_range]; omega)]
          rfl
      | succ j =>
        rw [List.getElem?_cons_succ, List.getElem?_replicate] at hi
        by_cases hj : j < n
        · rw [if_pos hj] at hi
          cases hi
          refine xAt.of ?_
          show va_at _ _ (xρ G (h.length + (j + 1)), _) _
          rw [hρ]
          show F.heap[H.size + (j + 1)]? = _
          rw [show H.size + (j + 1) = H.size + 1 + j by omega]
          exact hrow j hj
        · rw [if_neg hj] at hi
          cases hi
  have hZ' : xZ G true (h ++ (cQ 4 ((List.range n).map (fun i => some (h.length + 1 + i))) :: List.replicate n (cA 0 (List.replicate k 0)))) F.heap := fun _ => by
    rw [f1, List.length_append, List.length_cons, List.length_replicate]
    exact ⟨by omega, by omega⟩
  have hW := kk p e s m args below meth c K F.heap locs (cells + 1 + n) (slots + n + n * k) mc ms lsA hP' (xS.new hS (by rw [f1]; omega) hold) hZ' (by omega) (by omega) hl
  obtain ⟨t, a1, b1⟩ := hW F rfl X'
  refine ⟨t, step t ?_, b1⟩
  have e6 : xv G (.ref h.length) = .ref T.heap.size := by show Value.ref (xρ G h.length) = _; rw [hz0, hT]
  rw [List.map_cons, e6] at a1
  exact a1
end XN
