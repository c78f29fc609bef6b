def pNone (p : Nat) (P : PS) : PS := (0, P.b, P.bl, P.e, P.m, P.c, P.f0, P.f1, P.c0, P.c1, P.t0, P.t1, P.F0 p, P.F1 p)
def pBegin (p : Nat) (P : PS) (n z : Int) : PS := (1, n, z, cm1 p n z, P.m, P.c, P.f0, P.f1, P.c0, P.c1, P.t0, P.t1, P.F0 p, P.F1 p)
def pHide (p : Nat) (P : PS) (z c t : Int) : PS := if P.b = 0 then (2, P.b, P.bl, P.e, z, P.c, cm1 p 0 z, fo p P.e 1 c t, P.c0, c, P.t0, t, P.g0, P.g1) else (2, P.b, P.bl, P.e, z, P.c, fo p P.e 0 c t, cm1 p 0 z, c, P.c1, t, P.t1, P.g0, P.g1)
def pDare (p : Nat) (P : PS) (c : Int) : PS := if P.b = 0 then (3, P.b, P.bl, P.e, P.m, c, P.f0, P.f1, (c - P.c1) % (p : Int), P.c1, (P.m + (c - P.c1) % (p : Int) * P.bl) % (p : Int), P.t1, P.g0, P.g1) else (3, P.b, P.bl, P.e, P.m, c, P.f0, P.f1, P.c0, (c - P.c0) % (p : Int), P.t0, (P.m + (c - P.c0) % (p : Int) * P.bl) % (p : Int), P.g0, P.g1)
theorem PS.ok.Fb {p q : Nat} {P : PS} (k : P.ok p) (hq : q ∈ PR) (e : p = q) : (0 ≤ P.F0 p ∧ P.F0 p < 192) ∧ (0 ≤ P.F1 p ∧ P.F1 p < 192) := by
  subst e
  have hb := PRb hq
  have hg := gq_b hq
  obtain ⟨k1, k2, k3, k4, a1, a2, a3, a4, a5, a6, a7, a8⟩ := k
  unfold PS.F0 PS.F1
  by_cases c : 2 ≤ P.st
  · rw [if_pos c, if_pos c]
    have f9 : (0 ≤ P.f0 ∧ P.f0 < p) ∧ (0 ≤ P.f1 ∧ P.f1 < p) := by
      rcases (k2 (by omega)).1 with h | h
      · have q := (k3 c).1 h
        rw [q.2.1, q.2.2.2.2]
        exact ⟨modb (by omega), fo_b hb.1⟩
      · have q := (k3 c).2 h
        rw [q.2.1, q.2.2.2.2]
        exact ⟨fo_b hb.1, modb (by omega)⟩
    have m1 := MM_b hq f9.1
    have m2 := MM_b hq f9.2
    omega
  · rw [if_neg c, if_neg c]
    exact ⟨a7, a8⟩
theorem pNone_ok {p q : Nat} {P : PS} (hp : p ∈ PR) (k : P.ok p) : (pNone p P).ok q := by
  have f := k.Fb hp rfl
  obtain ⟨k1, k2, k3, k4, a1, a2, a3, a4, a5, a6, a7, a8⟩ := k
  exact ⟨Nat.zero_le 3, fun h => no_le h rfl, fun h => no_le h rfl, fun h => no_le h rfl, a1, a2, a3, a4, a5, a6, f.1, f.2⟩
theorem pBegin_ok {p : Nat} {P : PS} {n z : Int} (hp : p ∈ PR) (k : P.ok p) (hn : n = 0 ∨ n = 1) (hz : 0 ≤ z ∧ z < p) : (pBegin p P n z).ok p := by
  have f := k.Fb hp rfl
  obtain ⟨k1, k2, k3, k4, a1, a2, a3, a4, a5, a6, a7, a8⟩ := k
  exact ⟨(by decide : 1 ≤ 3), fun _ => ⟨hn, hz, rfl⟩, fun h => no_le h rfl, fun h => no_le h rfl, a1, a2, a3, a4, a5, a6, f.1, f.2⟩
theorem cm1_0 {p : Nat} {z : Int} : cm1 p 0 z = (bs p 8 : Int) * z % (p : Int) := by unfold cm1; rw [Int.mul_zero, Int.zero_add]
theorem pHide_ok {p : Nat} {P : PS} {z c t : Int} (hp : 2 < p ∧ p < 24) (k : P.ok p) (h1 : P.st = 1) (hz : 0 ≤ z ∧ z < p) (hc : 0 ≤ c ∧ c < p) (ht : 0 ≤ t ∧ t < p) : (pHide p P z c t).ok p := by
  obtain ⟨k1, k2, k3, k4, a1, a2, a3, a4, a5, a6, a7, a8⟩ := k
  have m1 := cm1_b (p := p) (n := 0) (b := z) hp.1
  have m2 := fo_b (p := p) (e := P.e) (s := 1) (c := c) (t := t) hp.1
  have m3 := fo_b (p := p) (e := P.e) (s := 0) (c := c) (t := t) hp.1
  obtain ⟨kb, k6⟩ := k2 (by omega)
  by_cases q : P.b = 0
  · rw [show pHide p P z c t = _ from if_pos q]
    exact ⟨(by decide : 2 ≤ 3), fun _ => ⟨kb, k6⟩, fun _ => ⟨fun _ => ⟨hz, cm1_0, hc, ht, rfl⟩, fun h => absurd (show P.b = 1 from h) (by omega)⟩, fun h => no_le h rfl, a1, ⟨hc.1, Int.lt_trans hc.2 (by omega)⟩, a3, ⟨ht.1, Int.lt_trans ht.2 (by omega)⟩, ⟨m1.1, Int.lt_trans m1.2 (by omega)⟩, ⟨m2.1, Int.lt_trans m2.2 (by omega)⟩, a7, a8⟩
  · rw [show pHide p P z c t = _ from if_neg q]
    exact ⟨(by decide : 2 ≤ 3), fun _ => ⟨kb, k6⟩, fun _ => ⟨fun h => absurd (show P.b = 0 from h) q, fun _ => ⟨hz, cm1_0, hc, ht, rfl⟩⟩, fun h => no_le h rfl, ⟨hc.1, Int.lt_trans hc.2 (by omega)⟩, a2, ⟨ht.1, Int.lt_trans ht.2 (by omega)⟩, a4, ⟨m3.1, Int.lt_trans m3.2 (by omega)⟩, ⟨m1.1, Int.lt_trans m1.2 (by omega)⟩, a7, a8⟩
theorem pDare_ok {p : Nat} {P : PS} {c : Int} (hp : 2 < p ∧ p < 24) (k : P.ok p) (h2 : P.st = 2) (hc : 0 ≤ c ∧ c < p) : (pDare p P c).ok p := by
  obtain ⟨k1, k2, k3, k4, a1, a2, a3, a4, a5, a6, a7, a8⟩ := k
  obtain ⟨kb, k6⟩ := k2 (by omega)
  obtain ⟨k7, k8⟩ := k3 (by omega)
  have B : ∀ x : Int, 0 ≤ x % (p : Int) ∧ x % (p : Int) < 24 := fun x => by have := modb (z := x) (p := (p : Int)) (by omega); omega
  by_cases q : P.b = 0
  · rw [show pDare p P c = _ from if_pos q]
    exact ⟨Nat.le_refl 3, fun _ => ⟨kb, k6⟩, fun _ => ⟨fun _ => k7 q, fun h => absurd (show P.b = 1 from h) (by omega)⟩, fun _ => ⟨fun _ => ⟨hc, rfl, rfl⟩, fun h => absurd (show P.b = 1 from h) (by omega)⟩, B _, a2, B _, a4, a5, a6, a7, a8⟩
  · rw [show pDare p P c = _ from if_neg q]
    exact ⟨Nat.le_refl 3, fun _ => ⟨kb, k6⟩, fun _ => ⟨fun h => absurd (show P.b = 0 from h) q, fun _ => k8 (by omega)⟩, fun _ => ⟨fun h => absurd (show P.b = 0 from h) q, fun _ => ⟨hc, rfl, rfl⟩⟩, a1, B _, a3, B _, a5, a6, a7, a8⟩
theorem fill_F {p : Int} {f : Nat → Int} {l : List Int} (hl : Fl p l) (hf : ∀ j, 0 ≤ f j ∧ f j < p) : ∀ n, Fl p (fillL f l n)
  | 0 => hl
  | n + 1 => (fill_F hl hf n).set (hf n)
theorem bnd_F {p : Int} {l : List Int} {r : Nat} {w : Int} (hp : 0 < p) (hl : Fl p l) : Fl p (bnd p l r w) := fill_F hl (fun _ => modb hp) _
def flt (σ : St) (l : List Int) (i : Nat) : Int := if i < σ.G.n then gfault σ.p σ.rw (gf l) (σ.G.k.getD i 0) (σ.G.a.getD i 0) (σ.G.b.getD i 0) (σ.G.c.getD i 0) else 0
theorem flt_F {σ : St} (hp : 2 < σ.p) (l : List Int) : Fl (σ.p : Int) (tab (flt σ l) 8) := Fl_tab (by omega) (fun j _ => by
  unfold flt
  split
  · exact gfault_b (by omega)
  · omega)
def ext (p : Int) (l : List Int) (x y z : Int) : List Int := bnd p (bnd p (bnd p l 0 x) 1 y) 2 z

set_option maxRecDepth 20000 in
set_option maxHeartbeats 1000000 in
theorem S_X10_chooseBit {G : xG} {d rc rs : Nat} {ex : Bool} {h : xH} {Q : xQ} {σ : St} {pair bit blind : Int} (w : CW σ h) (v : INV σ) (h_pair : xr pair) (h_bit : xr bit) (h_blind : xr blind) (e1 : ¬ (inb pair 2) → Q (.inr IOE) false h) (e2 : (inb pair 2) → ¬ (inb bit 2 ∧ inb blind σ.p) → Q (.inr IAE) false h) (k : (inb pair 2) → (inb bit 2 ∧ inb blind σ.p) → ∀ h2, FC h h2 → CW (σ.sPair pair.toNat (pBegin σ.p (σ.P pair.toNat) bit blind)) h2 → Q (.inl (some (vi (MM σ.p (cm1 σ.p bit blind))))) ex h2) : X G m_X10_chooseBit (d + 7) (rc + 3) (rs + 18) ex 0 (xe m_X10_chooseBit.2.2.1 [.ref 3, vi pair, vi bit, vi blind]) [] h Q := by
  show X G m_X10_chooseBit _ _ _ _ 0 [some (.ref 3), some (vi pair), some (vi bit), some (vi blind), none] [] h Q
  have hp := PRb v.p
  have hq := gq_b v.p
  refine x_aload_n (dT U_X10_chooseBit 0 rfl) rfl ?_
  refine x_iload_n (dT U_X10_chooseBit 1 rfl) rfl ?_
  refine x_invokevirtual (rc' := rc + 2) (rs' := rs + 12) (rc2 := 1) (rs2 := 6) (As := [_]) (st := _) M_X10_pairAt K_X10_394 (dT U_X10_chooseBit 2 rfl) rfl rfl (by decide) rfl rfl w.c3 (Nat.le_of_ble_eq_true rfl) (by decide) rfl (Nat.le_of_ble_eq_true rfl) rfl (by decide) (Nat.le_of_ble_eq_true rfl) rfl rfl ?_
  refine S_X10_pairAt w v h_pair (fun q => xRet_thr (e1 (by omega))) (fun i hi ezi => ?_)
  subst ezi
  have hri := w.pairs i hi
  have oki := v.P i hi
  have hPi : h[39 + 4 * i]? = some (cO 5 [.ref 5, .ref 4, .ref (39 + 4 * i + 1), .ref (39 + 4 * i + 2), .ref (39 + 4 * i + 3), vi ((σ.P i).y σ.p), vi (σ.P i).bb, vi (σ.P i).ll, vi (σ.P i).mm, vi (σ.P i).cc]) := hri.2.1
  refine xRet_some ?_
  refine x_astore (ls' := [some (.ref _), some (vi _), some (vi _), some (vi _), some (.ref _)]) (dT U_X10_chooseBit 3 rfl) (by decide) rfl ?_
  refine x_iload_n (dT U_X10_chooseBit 4 rfl) rfl ?_
  refine x_invokestatic (rc' := rc + 1) (rs' := rs + 6) (rc2 := 1) (rs2 := 6) (As := [_]) (st := _) M_X10_needBit K_X10_398 (dT U_X10_chooseBit 5 rfl) rfl rfl rfl rfl (Nat.le_of_ble_eq_true rfl) rfl (by decide) (Nat.le_of_ble_eq_true rfl) rfl rfl ?_
  refine S_X10_needBit v h_bit (fun q => xRet_thr (e2 (by omega) (by omega))) (fun qb => ?_)
  refine xRet_none ?_
  refine x_aload_n (dT U_X10_chooseBit 6 rfl) rfl ?_
  refine x_iload_n (dT U_X10_chooseBit 7 rfl) rfl ?_
  refine x_invokevirtual (rc' := rc) (rs' := rs) (rc2 := 1) (rs2 := 6) (As := [_]) (st := _) M_X10_needNumber K_X10_147 (dT U_X10_chooseBit 8 rfl) rfl rfl (by decide) rfl rfl w.c3 (Nat.le_of_ble_eq_true rfl) (by decide) rfl (Nat.le_of_ble_eq_true rfl) rfl (by decide) (Nat.le_of_ble_eq_true rfl) rfl rfl ?_
  refine S_X10_needNumber w v h_blind (fun q => xRet_thr (e2 (by omega) (by omega))) (fun q1 => ?_)
  refine xRet_none ?_
  refine x_aload (dT U_X10_chooseBit 9 rfl) rfl ?_
  refine x_iload_n (dT U_X10_chooseBit 10 rfl) rfl ?_
  refine x_iload_n (dT U_X10_chooseBit 11 rfl) rfl ?_
  refine x_invokevirtual (rc' := rc) (rs' := rs) (rc2 := 0) (rs2 := 0) (As := [_, _]) (st := _) M_X5_beginWith K_X10_401 (dT U_X10_chooseBit 12 rfl) rfl rfl (by decide) rfl rfl hPi (by omega) (by decide) rfl (Nat.le_of_ble_eq_true rfl) rfl (by decide) (Nat.le_of_ble_eq_true rfl) rfl rfl ?_
  refine S_X5_beginWith v.p w.gw (by omega) hri.2.1 (by omega) q1 ?_
  refine xRet_none ?_
  refine x_aload (dT U_X10_chooseBit 13 rfl) rfl ?_
  refine x_getfield F_X10_404 (dT U_X10_chooseBit 14 rfl) (show _ = some (cO 5 [.ref 5, .ref 4, .ref (39 + 4 * i + 1), .ref (39 + 4 * i + 2), .ref (39 + 4 * i + 3), vi (MM σ.p (cm1 σ.p bit blind)), vi bit, vi blind, vi (-1), vi (-1)]) from hset_eq hri.2.1) (by omega) rfl ?_
  refine x_ireturn (dT U_X10_chooseBit 15 rfl) rfl ?_
  exact k (by omega) (by omega) _ ((Ag.rf 3 69 h).set (by omega)) (w.pair (P := pBegin σ.p (σ.P i) bit blind) ((Ag.rf (39 + 4 * i) (42 + 4 * i) h).set (by omega)) hi ⟨by omega, hset_eq hri.2.1, hset_ne (by omega) hri.2.2.1, hset_ne (by omega) hri.2.2.2.1, hset_ne (by omega) hri.2.2.2.2⟩)

set_option maxRecDepth 20000 in
set_option maxHeartbeats 1000000 in
theorem S_X10_hideBit {G : xG} {d rc rs : Nat} {ex : Bool} {h : xH} {Q : xQ} {σ : St} {pair mask c t : Int} (w : CW σ h) (v : INV σ) (h_pair : xr pair) (h_mask : xr mask) (h_c : xr c) (h_t : xr t) (e1 : ¬ (inb pair 2) → Q (.inr IOE) false h) (e2 : (inb pair 2) → ¬ (inb mask σ.p ∧ inb c σ.p ∧ inb t σ.p) → Q (.inr IAE) false h) (e3 : (inb pair 2) → (inb mask σ.p ∧ inb c σ.p ∧ inb t σ.p) → ¬ ((σ.P pair.toNat).st = 1) → Q (.inr ISE) false h) (k : (inb pair 2) → (inb mask σ.p ∧ inb c σ.p ∧ inb t σ.p) → ((σ.P pair.toNat).st = 1) → ∀ h2, FC h h2 → CW (σ.sPair pair.toNat (pHide σ.p (σ.P pair.toNat) mask c t)) h2 → Q (.inl (some (vi (191 * MM σ.p (pHide σ.p (σ.P pair.toNat) mask c t).f0 + MM σ.p (pHide σ.p (σ.P pair.toNat) mask c t).f1)))) ex h2) : X G m_X10_hideBit (d + 7) (rc + 5) (rs + 30) ex 0 (xe m_X10_hideBit.2.2.1 [.ref 3, vi pair, vi mask, vi c, vi t]) [] h Q := by
  show X G m_X10_hideBit _ _ _ _ 0 [some (.ref 3), some (vi pair), some (vi mask), some (vi c), some (vi t), none] [] h Q
  have hp := PRb v.p
  have hq := gq_b v.p
  refine x_aload_n (dT U_X10_hideBit 0 rfl) rfl ?_
  refine x_iload_n (dT U_X10_hideBit 1 rfl) rfl ?_
  refine x_invokevirtual (rc' := rc + 4) (rs' := rs + 24) (rc2 := 1) (rs2 := 6) (As := [_]) (st := _) M_X10_pairAt K_X10_394 (dT U_X10_hideBit 2 rfl) rfl rfl (by decide) rfl rfl w.c3 (Nat.le_of_ble_eq_true rfl) (by decide) rfl (Nat.le_of_ble_eq_true rfl) rfl (by decide) (Nat.le_of_ble_eq_true rfl) rfl rfl ?_
  refine S_X10_pairAt w v h_pair (fun q => xRet_thr (e1 (by omega))) (fun i hi ezi => ?_)
  subst ezi
  have hri := w.pairs i hi
  have oki := v.P i hi
  have hPi : h[39 + 4 * i]? = some (cO 5 [.ref 5, .ref 4, .ref (39 + 4 * i + 1), .ref (39 + 4 * i + 2), .ref (39 + 4 * i + 3), vi ((σ.P i).y σ.p), vi (σ.P i).bb, vi (σ.P i).ll, vi (σ.P i).mm, vi (σ.P i).cc]) := hri.2.1
  refine xRet_some ?_
  refine x_astore (ls' := [some (.ref _), some (vi _), some (vi _), some (vi _), some (vi _), some (.ref _)]) (dT U_X10_hideBit 3 rfl) (by decide) rfl ?_
  refine x_aload_n (dT U_X10_hideBit 4 rfl) rfl ?_
  refine x_iload_n (dT U_X10_hideBit 5 rfl) rfl ?_
  refine x_invokevirtual (rc' := rc + 3) (rs' := rs + 18) (rc2 := 1) (rs2 := 6) (As := [_]) (st := _) M_X10_needNumber K_X10_147 (dT U_X10_hideBit 6 rfl) rfl rfl (by decide) rfl rfl w.c3 (Nat.le_of_ble_eq_true rfl) (by decide) rfl (Nat.le_of_ble_eq_true rfl) rfl (by decide) (Nat.le_of_ble_eq_true rfl) rfl rfl ?_
  refine S_X10_needNumber w v h_mask (fun q => xRet_thr (e2 (by omega) (by omega))) (fun q1 => ?_)
  refine xRet_none ?_
  refine x_aload_n (dT U_X10_hideBit 7 rfl) rfl ?_
  refine x_iload_n (dT U_X10_hideBit 8 rfl) rfl ?_
  refine x_invokevirtual (rc' := rc + 2) (rs' := rs + 12) (rc2 := 1) (rs2 := 6) (As := [_]) (st := _) M_X10_needNumber K_X10_147 (dT U_X10_hideBit 9 rfl) rfl rfl (by decide) rfl rfl w.c3 (Nat.le_of_ble_eq_true rfl) (by decide) rfl (Nat.le_of_ble_eq_true rfl) rfl (by decide) (Nat.le_of_ble_eq_true rfl) rfl rfl ?_
  refine S_X10_needNumber w v h_c (fun q => xRet_thr (e2 (by omega) (by omega))) (fun q2 => ?_)
  refine xRet_none ?_
  refine x_aload_n (dT U_X10_hideBit 10 rfl) rfl ?_
  refine x_iload (dT U_X10_hideBit 11 rfl) rfl ?_
  refine x_invokevirtual (rc' := rc + 1) (rs' := rs + 6) (rc2 := 1) (rs2 := 6) (As := [_]) (st := _) M_X10_needNumber K_X10_147 (dT U_X10_hideBit 12 rfl) rfl rfl (by decide) rfl rfl w.c3 (Nat.le_of_ble_eq_true rfl) (by decide) rfl (Nat.le_of_ble_eq_true rfl) rfl (by decide) (Nat.le_of_ble_eq_true rfl) rfl rfl ?_
  refine S_X10_needNumber w v h_t (fun q => xRet_thr (e2 (by omega) (by omega))) (fun q3 => ?_)
  refine xRet_none ?_
  refine x_aload (dT U_X10_hideBit 13 rfl) rfl ?_
  refine x_invokevirtual (rc' := rc + 1) (rs' := rs + 6) (rc2 := 0) (rs2 := 0) (As := []) (st := _) M_X5_hasMember K_X10_405 (dT U_X10_hideBit 14 rfl) rfl rfl (by decide) rfl rfl hPi (by omega) (by decide) rfl (Nat.le_of_ble_eq_true rfl) rfl (by decide) (Nat.le_of_ble_eq_true rfl) rfl rfl ?_
  refine S_X5_hasMember v.p hri oki w.gw (fun s1a => ?_) (fun s10 => ?_)
  · refine xRet_some ?_
    refine x_if_eq (tgt := 39) (dT U_X10_hideBit 15 rfl) (by decide) (by unfold xr at *; omega) (fun c28 => ?_) (fun c28 => ?_)
    · exfalso; omega
    · skip
      refine x_aload (dT U_X10_hideBit 16 rfl) rfl ?_
      refine x_invokevirtual (rc' := rc + 1) (rs' := rs + 6) (rc2 := 0) (rs2 := 0) (As := []) (st := _) M_X5_hasFirst K_X10_408 (dT U_X10_hideBit 17 rfl) rfl rfl (by decide) rfl rfl hPi (by omega) (by decide) rfl (Nat.le_of_ble_eq_true rfl) rfl (by decide) (Nat.le_of_ble_eq_true rfl) rfl rfl ?_
      refine S_X5_hasFirst v.p hri oki w.gw (fun s2 => ?_) (fun s20 => ?_)
      · refine xRet_some ?_
        refine x_if_eq (tgt := 50) (dT U_X10_hideBit 18 rfl) (by decide) (by unfold xr at *; omega) (fun c36 => ?_) (fun c36 => ?_)
        · exfalso; omega
        · skip
          refine x_throwW T_IS rfl (is := 409) (text := "the pair has no y, or has first messages") (by decide) rfl (by omega) (Nat.le_of_ble_eq_true rfl) (by omega) (by omega) (dT U_X10_hideBit 19 rfl) (dT U_X10_hideBit 20 rfl) (dT U_X10_hideBit 21 rfl) (dT U_X10_hideBit 22 rfl) (dT U_X10_hideBit 23 rfl) ?_
          exact e3 (by omega) (by omega) (show ¬ (σ.P i).st = 1 by omega)
      · refine xRet_some ?_
        refine x_if_eq (tgt := 50) (dT U_X10_hideBit 18 rfl) (by decide) (by unfold xr at *; omega) (fun c36 => ?_) (fun c36 => ?_)
        · skip
          have okI0 := oki
          have s1 : (σ.P i).st = 1 := by omega
          have okI := okI0
          have kb := okI.bC (by omega)
          rcases Decidable.em ((σ.P i).b = 0) with bq | bq
          · have bq9 : (σ.P i).b = 0 := by omega
            have hri2 : h[39 + 4 * i]? = some (cP (39 + 4 * i) (MM σ.p (σ.P i).e) 0 (σ.P i).bl (-1) (-1)) := by
              have z := hri.2.1
              rw [show (σ.P i).y σ.p = MM σ.p (σ.P i).e from if_pos (by omega), show (σ.P i).bb = 0 from (if_pos (by omega)).trans bq9, show (σ.P i).ll = (σ.P i).bl from if_pos (by omega), show (σ.P i).mm = -1 from if_neg (by omega), show (σ.P i).cc = -1 from if_neg (by omega)] at z
              exact z
            refine x_aload (dT U_X10_hideBit 24 rfl) rfl ?_
            refine x_iload_n (dT U_X10_hideBit 25 rfl) rfl ?_
            refine x_iload_n (dT U_X10_hideBit 26 rfl) rfl ?_
            refine x_iload (dT U_X10_hideBit 27 rfl) rfl ?_
            refine x_invokevirtual (rc' := rc + 1) (rs' := rs + 6) (rc2 := 0) (rs2 := 0) (As := [_, _, _]) (st := _) M_X5_hide K_X10_411 (dT U_X10_hideBit 28 rfl) rfl rfl (by decide) rfl rfl hPi (by omega) (by decide) rfl (Nat.le_of_ble_eq_true rfl) rfl (by decide) (Nat.le_of_ble_eq_true rfl) rfl rfl ?_
            refine S_X5_hide0 v.p w.gw (by omega) hri2 hri.2.2.1 hri.2.2.2.1 hri.2.2.2.2 (okI.eb hp.1 (by omega)) q1 q2 q3 ?_
            refine xRet_none ?_
            refine x_sipush (dT U_X10_hideBit 29 rfl) (by decide) ?_
            refine x_aload (dT U_X10_hideBit 30 rfl) rfl ?_
            refine x_getfield F_X10_415 (dT U_X10_hideBit 31 rfl) (show _ = some (cO 5 [.ref 5, .ref 4, .ref (39 + 4 * i + 1), .ref (39 + 4 * i + 2), .ref (39 + 4 * i + 3), vi (MM σ.p (σ.P i).e), vi 0, vi (σ.P i).bl, vi mask, vi (-1)]) from hset_ne (by omega) (hset_ne (by omega) (hset_ne (by omega) (hset_eq hri2)))) (by omega) rfl ?_
            refine x_iconst (dT U_X10_hideBit 32 rfl) ?_
            refine x_iaload (0) (dT U_X10_hideBit 33 rfl) (hset_ne (by omega) (hset_ne (by omega) (hset_eq (hset_ne (by omega) hri.2.2.1)))) (by omega) rfl (Nat.le_of_ble_eq_true rfl) (Nat.le_of_ble_eq_true rfl) ?_
            refine x_imul (dT U_X10_hideBit 34 rfl) ?_
            refine x_aload (dT U_X10_hideBit 35 rfl) rfl ?_
            refine x_getfield F_X10_415 (dT U_X10_hideBit 36 rfl) (show _ = some (cO 5 [.ref 5, .ref 4, .ref (39 + 4 * i + 1), .ref (39 + 4 * i + 2), .ref (39 + 4 * i + 3), vi (MM σ.p (σ.P i).e), vi 0, vi (σ.P i).bl, vi mask, vi (-1)]) from hset_ne (by omega) (hset_ne (by omega) (hset_ne (by omega) (hset_eq hri2)))) (by omega) rfl ?_
            refine x_iconst (dT U_X10_hideBit 37 rfl) ?_
            refine x_iaload (1) (dT U_X10_hideBit 38 rfl) (hset_ne (by omega) (hset_ne (by omega) (hset_eq (hset_ne (by omega) hri.2.2.1)))) (by omega) rfl (Nat.le_of_ble_eq_true rfl) (Nat.le_of_ble_eq_true rfl) ?_
            refine x_iadd (dT U_X10_hideBit 39 rfl) ?_
            refine x_ireturn (dT U_X10_hideBit 40 rfl) rfl ?_
            have eH : pHide σ.p (σ.P i) mask c t = _ := if_pos bq
            rw [show pHide σ.p (σ.P (i : Int).toNat) mask c t = _ from eH] at k
            exact k (by omega) (by omega) s1 _ (((((Ag.rf 3 69 h).set (by omega)).set (by omega)).set (by omega)).set (by omega)) (w.pair (((((Ag.rf (39 + 4 * i) (42 + 4 * i) h).set (by omega)).set (by omega)).set (by omega)).set (by omega)) hi ⟨by omega, (show _ = some (cP (39 + 4 * i) (MM σ.p (σ.P i).e) 0 (σ.P i).bl mask (-1)) from hset_ne (by omega) (hset_ne (by omega) (hset_ne (by omega) (hset_eq hri2)))).trans (by show some (cP (39 + 4 * i) (MM σ.p (σ.P i).e) 0 (σ.P i).bl mask (-1)) = some (cP (39 + 4 * i) (MM σ.p (σ.P i).e) (σ.P i).b (σ.P i).bl mask (-1)); rw [bq9]), hset_ne (by omega) (hset_ne (by omega) (hset_eq (hset_ne (by omega) hri.2.2.1))), hset_ne (by omega) (hset_eq (hset_ne (by omega) (hset_ne (by omega) hri.2.2.2.1))), hset_eq (hset_ne (by omega) (hset_ne (by omega) (hset_ne (by omega) hri.2.2.2.2)))⟩)
          · have bq9 : (σ.P i).b = 1 := by omega
            have hri2 : h[39 + 4 * i]? = some (cP (39 + 4 * i) (MM σ.p (σ.P i).e) 1 (σ.P i).bl (-1) (-1)) := by
              have z := hri.2.1
              rw [show (σ.P i).y σ.p = MM σ.p (σ.P i).e from if_pos (by omega), show (σ.P i).bb = 1 from (if_pos (by omega)).trans bq9, show (σ.P i).ll = (σ.P i).bl from if_pos (by omega), show (σ.P i).mm = -1 from if_neg (by omega), show (σ.P i).cc = -1 from if_neg (by omega)] at z
              exact z
            refine x_aload (dT U_X10_hideBit 24 rfl) rfl ?_
            refine x_iload_n (dT U_X10_hideBit 25 rfl) rfl ?_
            refine x_iload_n (dT U_X10_hideBit 26 rfl) rfl ?_
            refine x_iload (dT U_X10_hideBit 27 rfl) rfl ?_
            refine x_invokevirtual (rc' := rc + 1) (rs' := rs + 6) (rc2 := 0) (rs2 := 0) (As := [_, _, _]) (st := _) M_X5_hide K_X10_411 (dT U_X10_hideBit 28 rfl) rfl rfl (by decide) rfl rfl hPi (by omega) (by decide) rfl (Nat.le_of_ble_eq_true rfl) rfl (by decide) (Nat.le_of_ble_eq_true rfl) rfl rfl ?_
            refine S_X5_hide1 v.p w.gw (by omega) hri2 hri.2.2.1 hri.2.2.2.1 hri.2.2.2.2 (okI.eb hp.1 (by omega)) q1 q2 q3 ?_
            refine xRet_none ?_
            refine x_sipush (dT U_X10_hideBit 29 rfl) (by decide) ?_
            refine x_aload (dT U_X10_hideBit 30 rfl) rfl ?_
            refine x_getfield F_X10_415 (dT U_X10_hideBit 31 rfl) (show _ = some (cO 5 [.ref 5, .ref 4, .ref (39 + 4 * i + 1), .ref (39 + 4 * i + 2), .ref (39 + 4 * i + 3), vi (MM σ.p (σ.P i).e), vi 1, vi (σ.P i).bl, vi mask, vi (-1)]) from hset_ne (by omega) (hset_ne (by omega) (hset_ne (by omega) (hset_eq hri2)))) (by omega) rfl ?_
            refine x_iconst (dT U_X10_hideBit 32 rfl) ?_
            refine x_iaload (0) (dT U_X10_hideBit 33 rfl) (hset_ne (by omega) (hset_ne (by omega) (hset_eq (hset_ne (by omega) hri.2.2.1)))) (by omega) rfl (Nat.le_of_ble_eq_true rfl) (Nat.le_of_ble_eq_true rfl) ?_
            refine x_imul (dT U_X10_hideBit 34 rfl) ?_
            refine x_aload (dT U_X10_hideBit 35 rfl) rfl ?_
            refine x_getfield F_X10_415 (dT U_X10_hideBit 36 rfl) (show _ = some (cO 5 [.ref 5, .ref 4, .ref (39 + 4 * i + 1), .ref (39 + 4 * i + 2), .ref (39 + 4 * i + 3), vi (MM σ.p (σ.P i).e), vi 1, vi (σ.P i).bl, vi mask, vi (-1)]) from hset_ne (by omega) (hset_ne (by omega) (hset_ne (by omega) (hset_eq hri2)))) (by omega) rfl ?_
            refine x_iconst (dT U_X10_hideBit 37 rfl) ?_
            refine x_iaload (1) (dT U_X10_hideBit 38 rfl) (hset_ne (by omega) (hset_ne (by omega) (hset_eq (hset_ne (by omega) hri.2.2.1)))) (by omega) rfl (Nat.le_of_ble_eq_true rfl) (Nat.le_of_ble_eq_true rfl) ?_
            refine x_iadd (dT U_X10_hideBit 39 rfl) ?_
            refine x_ireturn (dT U_X10_hideBit 40 rfl) rfl ?_
            have eH : pHide σ.p (σ.P i) mask c t = _ := if_neg bq
            rw [show pHide σ.p (σ.P (i : Int).toNat) mask c t = _ from eH] at k
            exact k (by omega) (by omega) s1 _ (((((Ag.rf 3 69 h).set (by omega)).set (by omega)).set (by omega)).set (by omega)) (w.pair (((((Ag.rf (39 + 4 * i) (42 + 4 * i) h).set (by omega)).set (by omega)).set (by omega)).set (by omega)) hi ⟨by omega, (show _ = some (cP (39 + 4 * i) (MM σ.p (σ.P i).e) 1 (σ.P i).bl mask (-1)) from hset_ne (by omega) (hset_ne (by omega) (hset_ne (by omega) (hset_eq hri2)))).trans (by show some (cP (39 + 4 * i) (MM σ.p (σ.P i).e) 1 (σ.P i).bl mask (-1)) = some (cP (39 + 4 * i) (MM σ.p (σ.P i).e) (σ.P i).b (σ.P i).bl mask (-1)); rw [bq9]), hset_ne (by omega) (hset_ne (by omega) (hset_eq (hset_ne (by omega) hri.2.2.1))), hset_ne (by omega) (hset_eq (hset_ne (by omega) (hset_ne (by omega) hri.2.2.2.1))), hset_eq (hset_ne (by omega) (hset_ne (by omega) (hset_ne (by omega) hri.2.2.2.2)))⟩)
        · exfalso; omega
  · refine xRet_some ?_
    refine x_if_eq (tgt := 39) (dT U_X10_hideBit 15 rfl) (by decide) (by unfold xr at *; omega) (fun c28 => ?_) (fun c28 => ?_)
    · skip
      refine x_throwW T_IS rfl (is := 409) (text := "the pair has no y, or has first messages") (by decide) rfl (by omega) (Nat.le_of_ble_eq_true rfl) (by omega) (by omega) (dT U_X10_hideBit 19 rfl) (dT U_X10_hideBit 20 rfl) (dT U_X10_hideBit 21 rfl) (dT U_X10_hideBit 22 rfl) (dT U_X10_hideBit 23 rfl) ?_
      exact e3 (by omega) (by omega) (show ¬ (σ.P i).st = 1 by omega)
    · exfalso; omega
