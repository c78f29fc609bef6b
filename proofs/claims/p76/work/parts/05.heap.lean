theorem xρ_ge (G : xG) {a : Nat} (h3 : 3 ≤ a) : G.2.2.2.1 ≤ xρ G a := by unfold xρ; rw [if_neg (by omega)]; omega
theorem xρ_inj (G : xG) {a b : Nat} (ha : 3 ≤ a) (hb : 3 ≤ b) (h : xρ G a = xρ G b) : a = b := by
  unfold xρ at h
  rw [if_neg (by omega), if_neg (by omega)] at h
  omega
theorem cA_nz {k : Nat} {l : List Int} (h : k < 99) : cA k l ≠ cZ := fun q => by
  have e := congrArg (fun c : xC => match c with | .inl (k, _) => k | _ => 0) q
  have e2 : k = 99 := e
  omega
theorem cO_nz {k : Nat} {fs : List Value} : cO k fs ≠ cZ := fun q => by
  have e := congrArg (fun c : xC => match c with | .inl _ => true | _ => false) q
  have e2 : false = true := e
  cases e2
theorem cQ_nz {k : Nat} {l : List (Option Nat)} : cQ k l ≠ cZ := fun q => by
  have e := congrArg (fun c : xC => match c with | .inl _ => true | _ => false) q
  have e2 : false = true := e
  cases e2
theorem xAt.of {G : xG} {i : Nat} {c : xC} {H : Heap} (h : va_at G.2.1 xCl (xρ G i, xE G c) H) : xAt G i c H := ⟨fun _ => h, h.lt⟩
theorem xAt.lt {G : xG} {i : Nat} {c : xC} {H : Heap} (h : xAt G i c H) : xρ G i < H.size := h.2
theorem hs_lt {H H1 : Heap} {q : Nat} (h : q < H.size) (e : H1[q]? = H[q]?) : q < H1.size := by
  rw [Array.getElem?_eq_getElem h] at e
  exact (Array.getElem?_eq_some_iff.mp e).1
theorem xAt.kept {G : xG} {i : Nat} {c : xC} {H H1 : Heap} (h : xAt G i c H) (e : H1[xρ G i]? = H[xρ G i]?) : xAt G i c H1 := ⟨fun z => (h.1 z).kept e, hs_lt h.2 e⟩
theorem xP.set {G : xG} {h : xH} {H H1 : Heap} {a : Nat} {c : xC} (hP : xP G h H) (h3 : 3 ≤ a) (hc : va_at G.2.1 xCl (xρ G a, xE G c) H1) (oq : ∀ q : Nat, q ≠ xρ G a → H1[q]? = H[q]?) : xP G (h.set a c) H1 := by
  intro i c' hi hi3
  by_cases e : i = a
  · subst e
    have hl : i < h.length := by
      have := (List.getElem?_eq_some_iff.mp hi).1
      simpa using this
    rw [List.getElem?_set_self hl] at hi
    cases hi
    exact xAt.of hc
  · rw [List.getElem?_set_ne (Ne.symm e)] at hi
    exact (hP i c' hi hi3).kept (oq _ (fun z => e (xρ_inj G hi3 h3 z)))
theorem xZ.set {G : xG} {ex : Bool} {h : xH} {H H1 : Heap} {a : Nat} {c : xC} (hZ : xZ G ex h H) (z : H1.size = H.size) : xZ G ex (h.set a c) H1 := by
  intro he
  have := hZ he
  rw [z, List.length_set]
  exact this
theorem xP.one {G : xG} {h : xH} {H : Heap} {a : Nat} {c : xC} (hP : xP G h H) (hh : h[a]? = some c) (h3 : 3 ≤ a) (hz : c ≠ cZ) : va_P G.2.1 xCl [(xρ G a, xE G c)] H := by
  intro k q hq
  match k, hq with
  | 0, hq => cases hq; exact (hP a c hh h3).1 hz
  | k + 1, hq => simp at hq
theorem xCt_get {ci : Nat} (h : ci < 11) : xCl[ci]? = some (xCt ci) := by
  unfold xCt
  rw [List.getD_eq_getElem?_getD]
  have hl : ci < xCl.length := h
  rw [List.getElem?_eq_getElem hl]
  rfl
theorem xCok : ∀ ci, ci < 11 → (∀ w ∈ u_ws (xCt ci).1 (xCt ci).2.1 (xCt ci).2.2, w ∈ lw_big) ∧ (∃ ty : Nat → FieldType, ∀ k, k < (xCt ci).2.2 → parseFieldDescriptor ((xCt ci).2.1 k).2.2.1 = some (ty k)) ∧
    (∀ a, a < (xCt ci).2.2 → ∀ b, b < (xCt ci).2.2 → a ≠ b → ((xCt ci).2.1 a).2.1 ≠ ((xCt ci).2.1 b).2.1) ∧ (∀ k, k < (xCt ci).2.2 → ((xCt ci).2.1 k).1 = (xCt ci).1)
  | 0, _ => ⟨inBX0, ⟨tyX0, tyX0_ok⟩, nmX0, by decide +kernel⟩
  | 1, _ => ⟨inBX1, ⟨tyX1, tyX1_ok⟩, nmX1, by decide +kernel⟩
  | 2, _ => ⟨inBX2, ⟨tyX2, tyX2_ok⟩, nmX2, by decide +kernel⟩
  | 3, _ => ⟨inBX3, ⟨tyX3, tyX3_ok⟩, nmX3, by decide +kernel⟩
  | 4, _ => ⟨inBX4, ⟨tyX4, tyX4_ok⟩, nmX4, by decide +kernel⟩
  | 5, _ => ⟨inBX5, ⟨tyX5, tyX5_ok⟩, nmX5, by decide +kernel⟩
  | 6, _ => ⟨inBX6, ⟨tyX6, tyX6_ok⟩, nmX6, by decide +kernel⟩
  | 7, _ => ⟨inBX7, ⟨tyX7, tyX7_ok⟩, nmX7, by decide +kernel⟩
  | 8, _ => ⟨inBX8, ⟨tyX8, tyX8_ok⟩, nmX8, by decide +kernel⟩
  | 9, _ => ⟨inBX9, ⟨tyX9, tyX9_ok⟩, nmX9, by decide +kernel⟩
  | 10, _ => ⟨inBX10, ⟨tyX10, tyX10_ok⟩, nmX10, by decide +kernel⟩
theorem xTy_get (G : xG) {k : Nat} (hk : k < 7) : (xTy G)[k]? = some (G.2.2.1 k, xT k) := by
  unfold xTy
  rw [List.getElem?_map, List.getElem?_range hk]
  rfl
section XR
variable {G : xG} {mt : xM} {d rc rs : Nat} {ex : Bool} {pc : Nat} {ls ls' : List (Option Value)} {st : List Value} {h : xH} {Q : xQ}
theorem x_getfield {idx ci k a : Nat} {fin : Bool} {ty : FieldType} {fs : List Value} {v : Value} (hF : xFok mt.1.cls idx ci k fin ty) (hd : decode mt.2.1 pc = .ok (.getfield idx, 3)) (hh : h[a]? = some (cO ci fs)) (h3 : 3 ≤ a) (hv : fs[k]? = some v)
    (kk : X G mt d rc rs ex (pc + 3) ls (v :: st) h Q) : X G mt d rc rs ex pc ls (.ref a :: st) h Q := by
  intro p e s m args below meth c K H locs cells slots mc ms lsA hP hS hZ h1 h2 hl
  obtain ⟨f1, f2, f3, -, -⟩ := hF
  obtain ⟨g1, -, -, -⟩ := xCok ci f1
  exact va_get (D := G.2.1) (ci := ci) (v := xv G v) (tys := xTy G) K.1 K.2.1 K.2.2.2.2.2.1 g1 K.2.2.2.2.1 K.2.2.2.2.2.2.2.2.2.1.1 (hP.one hh h3 cO_nz) 0 (fs := fs.map (xv G)) rfl (xCt_get f1) k f2 (K.2.2.2.2.2.1 _ f3) (fun _ h9 => h9) (by rw [List.getElem?_map, hv]; rfl) hd
    (kk p e s m args below meth c K H locs cells slots mc ms lsA hP hS hZ h1 h2 hl)
theorem x_putfield {idx ci k a : Nat} {ty : FieldType} {fs : List Value} {v : Value} (hF : xFok mt.1.cls idx ci k false ty) (hd : decode mt.2.1 pc = .ok (.putfield idx, 3)) (hh : h[a]? = some (cO ci fs)) (h3 : 3 ≤ a) (hk : k < fs.length) (hn : narrow ty (xv G v) = xv G v) (hf : fits ty (xv G v) = true)
    (kk : X G mt d rc rs ex (pc + 3) ls st (h.set a (cO ci (fs.set k v))) Q) : X G mt d rc rs ex pc ls (v :: .ref a :: st) h Q := by
  intro p e s m args below meth c K H locs cells slots mc ms lsA hP hS hZ h1 h2 hl
  obtain ⟨f1, f2, f3, f4, f5⟩ := hF
  obtain ⟨g1, ⟨ty0, g2⟩, g3, -⟩ := xCok ci f1
  have hKK := K.2.2.2.2.2.2.2.2.2.1.1
  have hts := K.2.2.2.2.2.1
  have hc := xCt_get f1
  have hap := va_apart (own := mt.1.cls) hts g1 ty0 g2 g3 hKK hc
  obtain ⟨r, e1, cell, q1, q2, q3, q4⟩ := (hP a _ hh h3).1 cO_nz
  have hr : r = xCt ci := Option.some.inj (e1.symm.trans hc)
  subst hr
  obtain ⟨hS1, hfc, kC, hkC, hkind⟩ := hKK.1 ci _ hc
  obtain ⟨cf, kf, fi, f, hi, hsl⟩ := hS1 k f2
  have hlay := hts _ (g1 _ (u_in_lay f2))
  unfold u_lay at hlay
  rw [if_neg (by rw [f4]; decide)] at hlay
  have hst := (u_facts hfc hkC (u_lays hts g1 f2) hi).1
  have h6 := u_store hfc hkC hkind hlay hi f5 hn hf
  refine W.putK K.1 K.2.1 (f := f) (v := xv G v) ⟨K.2.2.2.2.1, hts _ f3, ⟨_, _, _, hi⟩, hst⟩ (by rw [q2]; exact h6) q1 q3 (by rw [hsl]; exact k2_hasslot (q4 k f2)) rfl rfl hd fun H' e1 e2 e3 => ?_
  rw [hsl] at e1 ⊢
  have hlen : k < (fs.map (xv G)).length := by rw [List.length_map]; exact hk
  refine kk p e s m args below meth c K H' _ cells slots mc ms lsA (hP.set h3 ?_ e3) (hS.put e2 e3 (xρ_ge G h3)) (hZ.set e2) h1 h2 hl
  refine ⟨_, hc, t_OB.to (V := updV (vp_V (fs.map (xv G))) k (xv G v)) ⟨_, e1, q2, q3, t_set q4 hap f2 (xv G v)⟩ (fun j _ => ?_)⟩
  rw [vp_updV_set hlen, List.map_set]
theorem x_putfinal {idx ci k a : Nat} {ty : FieldType} {fs : List Value} {v : Value} (hF : xFok mt.1.cls idx ci k true ty) (hin : mt.1.name = "<init>") (hdecl : ((xCt ci).2.1 k).1 = mt.1.cls) (hd : decode mt.2.1 pc = .ok (.putfield idx, 3)) (hh : h[a]? = some (cO ci fs)) (h3 : 3 ≤ a) (hk : k < fs.length) (hn : narrow ty (xv G v) = xv G v) (hf : fits ty (xv G v) = true)
    (kk : X G mt d rc rs ex (pc + 3) ls st (h.set a (cO ci (fs.set k v))) Q) : X G mt d rc rs ex pc ls (v :: .ref a :: st) h Q := by
  intro p e s m args below meth c K H locs cells slots mc ms lsA hP hS hZ h1 h2 hl
  obtain ⟨f1, f2, f3, f4, f5⟩ := hF
  obtain ⟨g1, ⟨ty0, g2⟩, g3, -⟩ := xCok ci f1
  have hKK := K.2.2.2.2.2.2.2.2.2.1.1
  have hts := K.2.2.2.2.2.1
  have hown := K.2.2.2.2.1
  have hc := xCt_get f1
  have hap := va_apart (own := mt.1.cls) hts g1 ty0 g2 g3 hKK hc
  obtain ⟨r, e1, cell, q1, q2, q3, q4⟩ := (hP a _ hh h3).1 cO_nz
  have hr : r = xCt ci := Option.some.inj (e1.symm.trans hc)
  subst hr
  obtain ⟨hS1, hfc, kC, hkC, hkind⟩ := hKK.1 ci _ hc
  obtain ⟨cf, kf, fi, f, hi, hsl⟩ := hS1 k f2
  have hlay := hts _ (g1 _ (u_in_lay f2))
  unfold u_lay at hlay
  rw [if_pos f4] at hlay
  have hst := (u_facts hfc hkC (u_lays hts g1 f2) hi).1
  have hcf : m.cls = cf := by
    obtain ⟨_, _, c', _, _, _, -, -, hf', -, -, -, hown2, -⟩ := Cond.laysFinal_spec hlay
    have e1 : c' = cf := by have := hi.symm.trans hf'; simp at this; exact this.1.symm
    rw [hdecl] at hown2
    rw [← e1]; exact Option.some.inj (hown.symm.trans hown2)
  have h6 := u_fits hfc hkC hkind (Or.inr hlay) hi f5 hn hf
  refine W.putFinK K.1 K.2.1 (v := xv G v) hown (hts _ f3) hi hst hcf (K.2.2.2.2.2.2.2.2.1.trans hin) (by rw [q2]; exact h6) q1 q3 (by rw [hsl]; exact k2_hasslot (q4 k f2)) rfl rfl hd fun H' e1 e2 e3 => ?_
  rw [hsl] at e1 ⊢
  have hlen : k < (fs.map (xv G)).length := by rw [List.length_map]; exact hk
  refine kk p e s m args below meth c K H' _ cells slots mc ms lsA (hP.set h3 ?_ e3) (hS.put e2 e3 (xρ_ge G h3)) (hZ.set e2) h1 h2 hl
  refine ⟨_, hc, t_OB.to (V := updV (vp_V (fs.map (xv G))) k (xv G v)) ⟨_, e1, q2, q3, t_set q4 hap f2 (xv G v)⟩ (fun j _ => ?_)⟩
  rw [vp_updV_set hlen, List.map_set]
/-! arrays: reads -/
theorem xZr {G : xG} {l : List Int} {n : Nat} {z : Int} (hz : z = (n : Int)) (hn : n < l.length) (hb : l.length < 2147483648) : vp_in (xI z) l.length ∧ (xI z).toNatClampNeg = n := by
  subst hz
  exact ⟨xI_in hn hb, xI_clamp n (by omega)⟩
theorem x_iaload {a : Nat} {l : List Int} {z : Int} (n : Nat) (hd : decode mt.2.1 pc = .ok (.iaload, 1)) (hh : h[a]? = some (cA 0 l)) (h3 : 3 ≤ a) (hz : z = (n : Int)) (hn : n < l.length) (hb : l.length < 2147483648)
    (kk : X G mt d rc rs ex (pc + 1) ls (vi (l.getD n 0) :: st) h Q) : X G mt d rc rs ex pc ls (vi z :: .ref a :: st) h Q := by
  intro p e s m args below meth c K H locs cells slots mc ms lsA hP hS hZ h1 h2 hl
  obtain ⟨z1, z2⟩ := xZr (G := G) hz hn hb
  refine va_iald (D := G.2.1) (cl := xCl) (tys := xTy G) K.1 K.2.1 K.2.2.2.2.2.2.2.2.2.1.1 (hP.one hh h3 (cA_nz (by omega))) 0 0 rfl (xTy_get G (by decide)) z1 hd ?_
  rw [z2]
  exact kk p e s m args below meth c K H locs cells slots mc ms lsA hP hS hZ h1 h2 hl
theorem x_aaload {a t b : Nat} {l : List (Option Nat)} {z : Int} (n : Nat) (hd : decode mt.2.1 pc = .ok (.aaload, 1)) (hh : h[a]? = some (cQ t l)) (h3 : 3 ≤ a) (ht : 4 ≤ t ∧ t < 7) (hz : z = (n : Int)) (hn : l[n]? = some (some b)) (hb : l.length < 2147483648)
    (kk : X G mt d rc rs ex (pc + 1) ls (.ref b :: st) h Q) : X G mt d rc rs ex pc ls (vi z :: .ref a :: st) h Q := by
  intro p e s m args below meth c K H locs cells slots mc ms lsA hP hS hZ h1 h2 hl
  subst hz
  have hlt : n < l.length := (List.getElem?_eq_some_iff.mp hn).1
  have hK := K.2.2.2.2.2.2.2.2.2.1.1.2 t _ (xTy_get G ht.2)
  have hat : H[xρ G a]? = some (vp_cell (G.2.2.1 t) (l.length, .inr (.inr (.inr (.inr (fun i => (l.getD i none).map (xρ G))))))) := (hP a _ hh h3).1 cQ_nz
  refine W.aald (v := .ref (xρ G b)) (ty := xT t) K.1 K.2.1 hat (hK.1 l.length (fun j => va_rf ((l.getD j none).map (xρ G)))) (by rcases (show t = 4 ∨ t = 5 ∨ t = 6 by omega) with rfl | rfl | rfl <;> rfl) (fun q => by cases q) (by show ¬ (_ < 0 ∨ (arrV _ _ _).slots.size ≤ _); rw [arrV_size]; exact xI_in hlt hb) ?_ rfl rfl hd (kk p e s m args below meth c K H locs cells slots mc ms lsA hP hS hZ h1 h2 hl)
  show (arrV _ _ _).slots[_]? = _
  rw [xI_clamp n (by omega), arrV_read _ _ hlt]
  show some (va_rf ((l.getD n none).map (xρ G))) = _
  rw [List.getD_eq_getElem?_getD, hn]
  rfl
theorem x_arraylength {a : Nat} {k : Nat} {l : List Int} (hd : decode mt.2.1 pc = .ok (.arraylength, 1)) (hh : h[a]? = some (cA k l)) (h3 : 3 ≤ a) (hk : k < 7) (hb : l.length < 2147483648) (kk : X G mt d rc rs ex (pc + 1) ls (vi (l.length : Int) :: st) h Q) : X G mt d rc rs ex pc ls (.ref a :: st) h Q := by
  intro p e s m args below meth c K H locs cells slots mc ms lsA hP hS hZ h1 h2 hl
  exact va_alen (D := G.2.1) (cl := xCl) (tys := xTy G) (v := xI (l.length : Int)) K.1 K.2.1 K.2.2.2.2.2.2.2.2.2.1.1 (hP.one hh h3 (cA_nz (by omega))) 0 k rfl (xTy_get G hk) (Int32.toInt_inj.mp ((nI_toInt (n := l.length) hb).trans (xI_toInt (z := (l.length : Int)) (by unfold xr; omega)).symm)) hd (kk p e s m args below meth c K H locs cells slots mc ms lsA hP hS hZ h1 h2 hl)
/-! arrays: writes -/
theorem xupd {l : List Int} {n : Nat} {x : Int} (hn : n < l.length) : upd (fun i => xI (l.getD i 0)) n (xI x) = fun i => xI ((l.set n x).getD i 0) := by
  funext i
  by_cases e : i = n
  · subst e
    simp [upd, List.getD_eq_getElem?_getD, List.getElem?_set_self hn]
  · simp [upd, e, List.getD_eq_getElem?_getD, List.getElem?_set_ne (Ne.symm e)]
theorem x_iastore {a : Nat} {l : List Int} {z x : Int} (n : Nat) (hd : decode mt.2.1 pc = .ok (.iastore, 1)) (hh : h[a]? = some (cA 0 l)) (h3 : 3 ≤ a) (hz : z = (n : Int)) (hn : n < l.length) (hb : l.length < 2147483648)
    (kk : X G mt d rc rs ex (pc + 1) ls st (h.set a (cA 0 (l.set n x))) Q) : X G mt d rc rs ex pc ls (vi x :: vi z :: .ref a :: st) h Q := by
  intro p e s m args below meth c K H locs cells slots mc ms lsA hP hS hZ h1 h2 hl
  obtain ⟨z1, z2⟩ := xZr (G := G) hz hn hb
  have hK := K.2.2.2.2.2.2.2.2.2.1.1.2 0 _ (xTy_get G (by decide))
  have hat : H[xρ G a]? = some (vp_cell (G.2.2.1 0) (l.length, .inl (fun i => xI (l.getD i 0)))) := (hP a _ hh h3).1 (cA_nz (by omega))
  refine W.iast K.1 K.2.1 hat (hK.1 l.length (fun j => .int (xI (l.getD j 0)))) (fun q => by cases q) (by show ¬ (_ < 0 ∨ (arrV _ _ _).slots.size ≤ _); rw [arrV_size]; exact z1) rfl rfl hd fun H1 e1 z9 oq => ?_
  refine kk p e s m args below meth c K H1 _ cells slots mc ms lsA (hP.set h3 ?_ oq) (hS.put z9 oq (xρ_ge G h3)) (hZ.set z9) h1 h2 hl
  show H1[xρ G a]? = some (vp_cell (G.2.2.1 0) ((l.set n x).length, .inl (fun i => xI ((l.set n x).getD i 0))))
  rw [e1, z2, ← xupd hn, List.length_set, vp_cell_i, vp_cell_i, arrV_store]
  congr 2
  funext q
  by_cases hq : q = n
  · subst hq
    simp [updV, upd]
  · simp [updV, upd, hq]
end XR
