theorem C_L_21 : Cond.constantLong RL 21 (xJ (-4000000000000000001)) ∈ lw_big := lw_bm 513 (by decide +kernel) rfl
theorem C_L_43 : Cond.constantLong RL 43 (xJ (-4000000000000000002)) ∈ lw_big := lw_bm 962 (by decide +kernel) rfl
theorem C_L_60 : Cond.constantLong RL 60 (xJ (-4000000000000000003)) ∈ lw_big := lw_bm 1056 (by decide +kernel) rfl
theorem C_L_344 : Cond.constantLong RL 344 (xJ (-1)) ∈ lw_big := lw_bm 1476 (by decide +kernel) rfl
theorem xRetH_some {G : xG} {mt : xM} {d rc rs pc : Nat} {ls : List (Option Value)} {st : List Value} {Q : xQ} {v : Value} {ex : Bool} {h : xH} (k : X G mt d rc rs ex (pc + 3) ls (v :: st) h Q) : xRetH G mt d rc rs pc ls st Q (.inl (some v)) ex h := k
theorem xRetH_thr {G : xG} {mt : xM} {d rc rs pc : Nat} {ls : List (Option Value)} {st : List Value} {Q : xQ} {E : String} {ex : Bool} {h : xH} (k : xHnd G mt d rc rs pc E h Q) : xRetH G mt d rc rs pc ls st Q (.inr E) ex h := k
theorem xr_dg {f : Nat → Int} : xr (dg f 8) := by have := dg_b f 8; unfold xr; omega
theorem xr_md {z p : Int} (hp : 2 < p ∧ p < 24) : xr (z % p) := by have := modb (z := z) (p := p) (by omega); unfold xr; omega
theorem MM_r {p : Nat} {e : Int} (h : p ∈ PR) : 0 ≤ MM p e ∧ MM p e < gq p := by
  have hq := gq_b h
  have h1 : mm p e.toNat < gq p := Nat.mod_lt _ (by omega)
  unfold MM
  omega
theorem xr_MM {p : Nat} {e : Int} (h : p ∈ PR) : xr (MM p e) := by
  have hq := gq_b h
  have h1 := MM_r (e := e) h
  unfold xr
  omega
theorem xr_gs {r : Nat → Int} {n : Nat} : xr (gs r n) := by have := gs_b r n; unfold xr; omega
theorem xr_sl {a b : Int} : xr (sl a b) := by have := sl_b a b; unfold xr; omega
theorem xr_hor {f : Nat → Int} {p x : Int} (hp : 2 < p ∧ p < 24) : xr (hor f p x 8) := by have := hor_b (f := f) (p := p) (x := x) (by omega) 8; unfold xr; omega
theorem xr_ff {P : Nat → Prop} [DecidablePred P] {i n : Nat} (h : i + n < 1000000) : xr (ff P i n) := by have := ff_rng (P := P) n i; unfold xr; omega
theorem xr_ct {P : Nat → Prop} [DecidablePred P] {n : Nat} (h : n < 1000000) : xr (ct P n : Int) := by have := ct_le P n; unfold xr; omega
theorem xr_answ {p : Nat} {R : RS} (hp : 2 < p ∧ p < 24) : xr (answ p R) := by
  unfold answ
  split
  · exact xr_ct (by omega)
  · unfold xr; omega
theorem xr_num {p : Nat} {R : RS} (h : p ∈ PR) (k : R.ok p) (n : Nat) : xr (R.num p n) := by
  have hp := PRb h
  obtain ⟨k1, k2, k3, k4, k5, k6, k7, k8, k9, k10, k11, k12, k13⟩ := k
  have m1 : xr (-1) := by unfold xr; omega
  unfold RS.num RS.y RS.vv RS.a RS.ww RS.cc RS.tt
  split
  · split
    · exact xr_MM h
    · exact m1
  split
  · split
    · rename_i c; have := k3 c; unfold xr; omega
    · exact m1
  split
  · split
    · exact xr_MM h
    · exact m1
  split
  · split
    · rename_i c; have := k6 c; unfold xr; omega
    · exact m1
  split
  · split
    · rename_i c; have := k7 c; unfold xr; omega
    · exact m1
  · split
    · rename_i c; have := k8 c; unfold xr; omega
    · exact m1
theorem xr_wo {p t : Nat} {b : Bool} (hp : p ∈ PR) (ht : t < 4) : xr (wo p t b) := by have := wo_b (b := b) hp ht; unfold xr; omega
theorem xr_wnn {p : Nat} {l : List Int} {r : Nat} {s c z o : Int} (hp : p ∈ PR) : xr (wnn p l r s c z o) := by
  have hb := PRb hp
  unfold wnn
  split
  · have := ww_b (l := l) (r := r) (z := z) (o := o) hp p
    have : (12167 : Int) * p ≤ 12167 * 23 := by omega
    unfold xr; omega
  · exact xr_wo hp (by omega)
theorem F24 {p : Nat} {l : List Int} (hp : 2 < p ∧ p < 24) (h : Fl (p : Int) l) (j : Nat) : xr (l.getD j 0) := by have := h.2 j; unfold xr; omega
theorem F24b {l : List Int} (h : Fl 24 l) (j : Nat) : xr (l.getD j 0) := by have := h.2 j; unfold xr; omega
theorem xr_c24 {z : Int} (h : 0 ≤ z ∧ z < 24) : xr z := by unfold xr; omega

set_option maxRecDepth 20000 in
set_option maxHeartbeats 1000000 in
theorem S_L_field {G : xG} {d rc rs : Nat} {ex : Bool} {h : xH} {Q : xQ} {σ : St} {number : Int} (w : CW σ h) (v : INV σ) (h_number : xr number) (e1 : ¬ (inb number 8) → Q (.inl (some (vl (-4000000000000000001)))) false h) (k : (inb number 8) → ∀ z9 : Int, z9 = ((prn number.toNat : Int)) → xr z9 → ∀ h2, FC h h2 → CW ((fldSt σ (prn number.toNat))) h2 → INV ((fldSt σ (prn number.toNat))) → Q (.inl (some (vl z9))) ex h2) : X G m_L_field (d + 7) (rc + 1) (rs + 6) ex 0 (xe m_L_field.2.2.1 [.ref 3, vi number]) [] h Q := by
  show X G m_L_field _ _ _ _ 0 [some (.ref 3), some (vi number), none] [] h Q
  have hp := PRb v.p
  have hq := gq_b v.p
  refine x_aload_n (dT U_L_field 0 rfl) rfl ?_
  refine x_iload_n (dT U_L_field 1 rfl) rfl ?_
  refine x_invokevirtualH (rc' := rc) (rs' := rs) (rc2 := 0 + 1) (rs2 := 0 + 6) (As := [_]) (st := _) M_X10_field K_L_11 (dT U_L_field 2 rfl) rfl (by decide) rfl rfl w.c3 (Nat.le_of_ble_eq_true rfl) (by decide) rfl (Nat.le_of_ble_eq_true rfl) rfl (by decide) (Nat.le_of_ble_eq_true rfl) (Nat.add_comm _ _ ▸ rfl) (Nat.add_comm _ _ ▸ rfl) ?_
  refine S_X10_field w v h_number (fun k_1 => ?_) (fun k_1 h2 fc w2 => ?_)
  · refine xRetH_thr ?_
    refine ⟨[], (⟨0, 6, 7, 17⟩ : ExceptionTableEntry), [], rfl, fun z hz => absurd hz List.not_mem_nil, rfl, by decide, W_L_17, 2, 1, Or.inl ⟨2, (dT U_L_field 5 rfl), rfl, rfl⟩, by decide, ?_⟩
    refine x_ldc2 C_L_21 (dT U_L_field 6 rfl) ?_
    refine x_lreturn (dT U_L_field 7 rfl) rfl ?_
    exact e1 k_1
  · refine xRetH_some ?_
    have hz9 : xr ((prn number.toNat : Int)) := by
      have h9 := PRb (prn_ok (show number.toNat < 8 by omega)).2; unfold xr; omega
    refine x_i2l (dT U_L_field 3 rfl) hz9 ?_
    refine x_lreturn (dT U_L_field 4 rfl) rfl ?_
    exact k k_1 _ rfl hz9 h2 fc w2 (IV_field v k_1)

set_option maxRecDepth 20000 in
set_option maxHeartbeats 1000000 in
theorem S_L_modulus {G : xG} {d rc rs : Nat} {ex : Bool} {h : xH} {Q : xQ} {σ : St} (w : CW σ h) (v : INV σ) (k : ∀ z9 : Int, z9 = ((gq σ.p : Int)) → xr z9 → Q (.inl (some (vl z9))) ex h) : X G m_L_modulus (d + 1) rc rs ex 0 (xe m_L_modulus.2.2.1 [.ref 3]) [] h Q := by
  show X G m_L_modulus _ _ _ _ 0 [some (.ref 3)] [] h Q
  have hp := PRb v.p
  have hq := gq_b v.p
  refine x_aload_n (dT U_L_modulus 0 rfl) rfl ?_
  refine x_invokevirtual (rc' := rc) (rs' := rs) (rc2 := 0) (rs2 := 0) (As := []) (st := _) M_X10_modulus K_L_23 (dT U_L_modulus 1 rfl) rfl rfl (by decide) rfl rfl w.c3 (Nat.le_of_ble_eq_true rfl) (by decide) rfl (Nat.le_of_ble_eq_true rfl) rfl (by decide) (Nat.le_of_ble_eq_true rfl) rfl rfl ?_
  refine S_X10_modulus w v   ?_
  · refine xRet_some ?_
    have hz9 : xr ((gq σ.p : Int)) := by
      unfold xr; omega
    refine x_i2l (dT U_L_modulus 2 rfl) hz9 ?_
    refine x_lreturn (dT U_L_modulus 3 rfl) rfl ?_
    exact k _ rfl hz9

set_option maxRecDepth 20000 in
set_option maxHeartbeats 1000000 in
theorem S_L_fill {G : xG} {d rc rs : Nat} {ex : Bool} {h : xH} {Q : xQ} {σ : St} {row b1 b2 b3 b4 b5 b6 b7 b8 : Int} (w : CW σ h) (v : INV σ) (h_row : xr row) (h_b1 : xr b1) (h_b2 : xr b2) (h_b3 : xr b3) (h_b4 : xr b4) (h_b5 : xr b5) (h_b6 : xr b6) (h_b7 : xr b7) (h_b8 : xr b8) (e1 : ¬ (inb row 8) → Q (.inl (some (vl (-4000000000000000001)))) false h) (k : (inb row 8) → ∀ z9 : Int, z9 = (dg (gf (row8 (σ.p : Int) b1 b2 b3 b4 b5 b6 b7 b8)) 8) → xr z9 → ∀ h2, FC h h2 → CW ((σ.sRow row.toNat (row8 (σ.p : Int) b1 b2 b3 b4 b5 b6 b7 b8))) h2 → INV ((σ.sRow row.toNat (row8 (σ.p : Int) b1 b2 b3 b4 b5 b6 b7 b8))) → Q (.inl (some (vl z9))) ex h2) : X G m_L_fill (d + 8) (rc + 1) (rs + 6) ex 0 (xe m_L_fill.2.2.1 [.ref 3, vi row, vi b1, vi b2, vi b3, vi b4, vi b5, vi b6, vi b7, vi b8]) [] h Q := by
  show X G m_L_fill _ _ _ _ 0 [some (.ref 3), some (vi row), some (vi b1), some (vi b2), some (vi b3), some (vi b4), some (vi b5), some (vi b6), some (vi b7), some (vi b8), none] [] h Q
  have hp := PRb v.p
  have hq := gq_b v.p
  refine x_aload_n (dT U_L_fill 0 rfl) rfl ?_
  refine x_iload_n (dT U_L_fill 1 rfl) rfl ?_
  refine x_iload_n (dT U_L_fill 2 rfl) rfl ?_
  refine x_iload_n (dT U_L_fill 3 rfl) rfl ?_
  refine x_iload (dT U_L_fill 4 rfl) rfl ?_
  refine x_iload (dT U_L_fill 5 rfl) rfl ?_
  refine x_iload (dT U_L_fill 6 rfl) rfl ?_
  refine x_iload (dT U_L_fill 7 rfl) rfl ?_
  refine x_iload (dT U_L_fill 8 rfl) rfl ?_
  refine x_iload (dT U_L_fill 9 rfl) rfl ?_
  refine x_invokevirtualH (rc' := rc) (rs' := rs) (rc2 := 0 + 1) (rs2 := 0 + 6) (As := [_, _, _, _, _, _, _, _, _]) (st := _) M_X10_fill K_L_27 (dT U_L_fill 10 rfl) rfl (by decide) rfl rfl w.c3 (Nat.le_of_ble_eq_true rfl) (by decide) rfl (Nat.le_of_ble_eq_true rfl) rfl (by decide) (Nat.le_of_ble_eq_true rfl) (Nat.add_comm _ _ ▸ rfl) (Nat.add_comm _ _ ▸ rfl) ?_
  refine S_X10_fill w v h_row h_b1 h_b2 h_b3 h_b4 h_b5 h_b6 h_b7 h_b8 (fun k_1 => ?_) (fun k_1 h2 fc w2 => ?_)
  · refine xRetH_thr ?_
    refine ⟨[], (⟨0, 20, 21, 31⟩ : ExceptionTableEntry), [], rfl, fun z hz => absurd hz List.not_mem_nil, rfl, by decide, W_L_31, 10, 2, Or.inr ⟨(dT U_L_fill 13 rfl), rfl⟩, by decide, ?_⟩
    refine x_ldc2 C_L_21 (dT U_L_fill 14 rfl) ?_
    refine x_lreturn (dT U_L_fill 15 rfl) rfl ?_
    exact e1 k_1
  · refine xRetH_some ?_
    have hz9 : xr (dg (gf (row8 (σ.p : Int) b1 b2 b3 b4 b5 b6 b7 b8)) 8) := by
      exact xr_dg
    refine x_i2l (dT U_L_fill 11 rfl) hz9 ?_
    refine x_lreturn (dT U_L_fill 12 rfl) rfl ?_
    exact k k_1 _ rfl hz9 h2 fc w2 (IV_fill v k_1)

set_option maxRecDepth 20000 in
set_option maxHeartbeats 1000000 in
theorem S_L_get {G : xG} {d rc rs : Nat} {ex : Bool} {h : xH} {Q : xQ} {σ : St} {row place : Int} (w : CW σ h) (v : INV σ) (h_row : xr row) (h_place : xr place) (e1 : ¬ (inb row 8 ∧ inb place 8) → Q (.inl (some (vl (-4000000000000000001)))) false h) (k : (inb row 8 ∧ inb place 8) → ∀ z9 : Int, z9 = ((σ.rw row.toNat).getD place.toNat 0) → xr z9 → Q (.inl (some (vl z9))) ex h) : X G m_L_get (d + 8) (rc + 2) (rs + 12) ex 0 (xe m_L_get.2.2.1 [.ref 3, vi row, vi place]) [] h Q := by
  show X G m_L_get _ _ _ _ 0 [some (.ref 3), some (vi row), some (vi place), none] [] h Q
  have hp := PRb v.p
  have hq := gq_b v.p
  refine x_aload_n (dT U_L_get 0 rfl) rfl ?_
  refine x_iload_n (dT U_L_get 1 rfl) rfl ?_
  refine x_iload_n (dT U_L_get 2 rfl) rfl ?_
  refine x_invokevirtualH (rc' := rc) (rs' := rs) (rc2 := 0 + 2) (rs2 := 0 + 12) (As := [_, _]) (st := _) M_X10_get K_L_33 (dT U_L_get 3 rfl) rfl (by decide) rfl rfl w.c3 (Nat.le_of_ble_eq_true rfl) (by decide) rfl (Nat.le_of_ble_eq_true rfl) rfl (by decide) (Nat.le_of_ble_eq_true rfl) (Nat.add_comm _ _ ▸ rfl) (Nat.add_comm _ _ ▸ rfl) ?_
  refine S_X10_get w v h_row h_place (fun k_1 => ?_) (fun k_1 => ?_)
  · refine xRetH_thr ?_
    refine ⟨[], (⟨0, 7, 8, 31⟩ : ExceptionTableEntry), [], rfl, fun z hz => absurd hz List.not_mem_nil, rfl, by decide, W_L_31, 3, 1, Or.inl ⟨3, (dT U_L_get 6 rfl), rfl, rfl⟩, by decide, ?_⟩
    refine x_ldc2 C_L_21 (dT U_L_get 7 rfl) ?_
    refine x_lreturn (dT U_L_get 8 rfl) rfl ?_
    exact e1 k_1
  · refine xRetH_some ?_
    have hz9 : xr ((σ.rw row.toNat).getD place.toNat 0) := by
      exact F24 hp (v.rw _ (show row.toNat < 8 by omega)) _
    refine x_i2l (dT U_L_get 4 rfl) hz9 ?_
    refine x_lreturn (dT U_L_get 5 rfl) rfl ?_
    exact k k_1 _ rfl hz9

set_option maxRecDepth 20000 in
set_option maxHeartbeats 1000000 in
theorem S_L_degree {G : xG} {d rc rs : Nat} {ex : Bool} {h : xH} {Q : xQ} {σ : St} {row : Int} (w : CW σ h) (v : INV σ) (h_row : xr row) (e1 : ¬ (inb row 8) → Q (.inl (some (vl (-4000000000000000001)))) false h) (k : (inb row 8) → ∀ z9 : Int, z9 = (dg (gf (σ.rw row.toNat)) 8) → xr z9 → Q (.inl (some (vl z9))) ex h) : X G m_L_degree (d + 8) (rc + 1) (rs + 6) ex 0 (xe m_L_degree.2.2.1 [.ref 3, vi row]) [] h Q := by
  show X G m_L_degree _ _ _ _ 0 [some (.ref 3), some (vi row), none] [] h Q
  have hp := PRb v.p
  have hq := gq_b v.p
  refine x_aload_n (dT U_L_degree 0 rfl) rfl ?_
  refine x_iload_n (dT U_L_degree 1 rfl) rfl ?_
  refine x_invokevirtualH (rc' := rc) (rs' := rs) (rc2 := 0 + 1) (rs2 := 0 + 6) (As := [_]) (st := _) M_X10_degree K_L_37 (dT U_L_degree 2 rfl) rfl (by decide) rfl rfl w.c3 (Nat.le_of_ble_eq_true rfl) (by decide) rfl (Nat.le_of_ble_eq_true rfl) rfl (by decide) (Nat.le_of_ble_eq_true rfl) (Nat.add_comm _ _ ▸ rfl) (Nat.add_comm _ _ ▸ rfl) ?_
  refine S_X10_degree w v h_row (fun k_1 => ?_) (fun k_1 => ?_)
  · refine xRetH_thr ?_
    refine ⟨[], (⟨0, 6, 7, 31⟩ : ExceptionTableEntry), [], rfl, fun z hz => absurd hz List.not_mem_nil, rfl, by decide, W_L_31, 2, 1, Or.inl ⟨2, (dT U_L_degree 5 rfl), rfl, rfl⟩, by decide, ?_⟩
    refine x_ldc2 C_L_21 (dT U_L_degree 6 rfl) ?_
    refine x_lreturn (dT U_L_degree 7 rfl) rfl ?_
    exact e1 k_1
  · refine xRetH_some ?_
    have hz9 : xr (dg (gf (σ.rw row.toNat)) 8) := by
      exact xr_dg
    refine x_i2l (dT U_L_degree 3 rfl) hz9 ?_
    refine x_lreturn (dT U_L_degree 4 rfl) rfl ?_
    exact k k_1 _ rfl hz9

set_option maxRecDepth 20000 in
set_option maxHeartbeats 1000000 in
theorem S_L_value {G : xG} {d rc rs : Nat} {ex : Bool} {h : xH} {Q : xQ} {σ : St} {row x : Int} (w : CW σ h) (v : INV σ) (h_row : xr row) (h_x : xr x) (e1 : ¬ (inb row 8) → Q (.inl (some (vl (-4000000000000000001)))) false h) (e2 : (inb row 8) → ¬ (inb x σ.p) → Q (.inl (some (vl (-4000000000000000002)))) false h) (k : (inb row 8) → (inb x σ.p) → ∀ z9 : Int, z9 = (hor (gf (σ.rw row.toNat)) σ.p x 8) → xr z9 → Q (.inl (some (vl z9))) ex h) : X G m_L_value (d + 8) (rc + 2) (rs + 12) ex 0 (xe m_L_value.2.2.1 [.ref 3, vi row, vi x]) [] h Q := by
  show X G m_L_value _ _ _ _ 0 [some (.ref 3), some (vi row), some (vi x), none] [] h Q
  have hp := PRb v.p
  have hq := gq_b v.p
  refine x_aload_n (dT U_L_value 0 rfl) rfl ?_
  refine x_iload_n (dT U_L_value 1 rfl) rfl ?_
  refine x_iload_n (dT U_L_value 2 rfl) rfl ?_
  refine x_invokevirtualH (rc' := rc) (rs' := rs) (rc2 := 0 + 2) (rs2 := 0 + 12) (As := [_, _]) (st := _) M_X10_value K_L_40 (dT U_L_value 3 rfl) rfl (by decide) rfl rfl w.c3 (Nat.le_of_ble_eq_true rfl) (by decide) rfl (Nat.le_of_ble_eq_true rfl) rfl (by decide) (Nat.le_of_ble_eq_true rfl) (Nat.add_comm _ _ ▸ rfl) (Nat.add_comm _ _ ▸ rfl) ?_
  refine S_X10_value w v h_row h_x (fun k_1 => ?_) (fun k_1 k_2 => ?_) (fun k_1 k_2 => ?_)
  · refine xRetH_thr ?_
    refine ⟨[], (⟨0, 7, 8, 31⟩ : ExceptionTableEntry), [(⟨0, 7, 13, 17⟩ : ExceptionTableEntry)], rfl, fun z hz => absurd hz List.not_mem_nil, rfl, by decide, W_L_31, 3, 1, Or.inl ⟨3, (dT U_L_value 6 rfl), rfl, rfl⟩, by decide, ?_⟩
    refine x_ldc2 C_L_21 (dT U_L_value 7 rfl) ?_
    refine x_lreturn (dT U_L_value 8 rfl) rfl ?_
    exact e1 k_1
  · refine xRetH_thr ?_
    refine ⟨[(⟨0, 7, 8, 31⟩ : ExceptionTableEntry)], (⟨0, 7, 13, 17⟩ : ExceptionTableEntry), [], rfl, fun z hz => by
        simp only [List.mem_cons, List.not_mem_nil, or_false] at hz
        subst hz
        exact ⟨by decide, "java/lang/IndexOutOfBoundsException", by decide, by decide, W_L_31⟩, rfl, by decide, W_L_17, 3, 1, Or.inl ⟨3, (dT U_L_value 9 rfl), rfl, rfl⟩, by decide, ?_⟩
    refine x_ldc2 C_L_43 (dT U_L_value 10 rfl) ?_
    refine x_lreturn (dT U_L_value 11 rfl) rfl ?_
    exact e2 k_1 k_2
  · refine xRetH_some ?_
    have hz9 : xr (hor (gf (σ.rw row.toNat)) σ.p x 8) := by
      exact xr_hor ⟨by omega, by omega⟩
    refine x_i2l (dT U_L_value 4 rfl) hz9 ?_
    refine x_lreturn (dT U_L_value 5 rfl) rfl ?_
    exact k k_1 k_2 _ rfl hz9

set_option maxRecDepth 20000 in
set_option maxHeartbeats 1000000 in
theorem S_L_mix {G : xG} {d rc rs : Nat} {ex : Bool} {h : xH} {Q : xQ} {σ : St} {row other factor to : Int} (w : CW σ h) (v : INV σ) (h_row : xr row) (h_other : xr other) (h_factor : xr factor) (h_to : xr to) (e1 : ¬ (inb row 8 ∧ inb other 8 ∧ inb to 8) → Q (.inl (some (vl (-4000000000000000001)))) false h) (e2 : (inb row 8 ∧ inb other 8 ∧ inb to 8) → ¬ (inb factor σ.p) → Q (.inl (some (vl (-4000000000000000002)))) false h) (k : (inb row 8 ∧ inb other 8 ∧ inb to 8) → (inb factor σ.p) → ∀ z9 : Int, z9 = (dg (gf (tab (fun t => ((σ.rw row.toNat).getD t 0 + factor * (σ.rw other.toNat).getD t 0) % (σ.p : Int)) 8)) 8) → xr z9 → ∀ h2, FC h h2 → CW ((σ.sRow to.toNat (tab (fun t => ((σ.rw row.toNat).getD t 0 + factor * (σ.rw other.toNat).getD t 0) % (σ.p : Int)) 8))) h2 → INV ((σ.sRow to.toNat (tab (fun t => ((σ.rw row.toNat).getD t 0 + factor * (σ.rw other.toNat).getD t 0) % (σ.p : Int)) 8))) → Q (.inl (some (vl z9))) ex h2) : X G m_L_mix (d + 8) (rc + 4) (rs + 24) ex 0 (xe m_L_mix.2.2.1 [.ref 3, vi row, vi other, vi factor, vi to]) [] h Q := by
  show X G m_L_mix _ _ _ _ 0 [some (.ref 3), some (vi row), some (vi other), some (vi factor), some (vi to), none] [] h Q
  have hp := PRb v.p
  have hq := gq_b v.p
  refine x_aload_n (dT U_L_mix 0 rfl) rfl ?_
  refine x_iload_n (dT U_L_mix 1 rfl) rfl ?_
  refine x_iload_n (dT U_L_mix 2 rfl) rfl ?_
  refine x_iload_n (dT U_L_mix 3 rfl) rfl ?_
  refine x_iload (dT U_L_mix 4 rfl) rfl ?_
  refine x_invokevirtualH (rc' := rc) (rs' := rs) (rc2 := 0 + 4) (rs2 := 0 + 24) (As := [_, _, _, _]) (st := _) M_X10_mix K_L_45 (dT U_L_mix 5 rfl) rfl (by decide) rfl rfl w.c3 (Nat.le_of_ble_eq_true rfl) (by decide) rfl (Nat.le_of_ble_eq_true rfl) rfl (by decide) (Nat.le_of_ble_eq_true rfl) (Nat.add_comm _ _ ▸ rfl) (Nat.add_comm _ _ ▸ rfl) ?_
  refine S_X10_mix w v h_row h_other h_factor h_to (fun k_1 => ?_) (fun k_1 k_2 => ?_) (fun k_1 k_2 h2 fc w2 => ?_)
  · refine xRetH_thr ?_
    refine ⟨[], (⟨0, 10, 11, 31⟩ : ExceptionTableEntry), [(⟨0, 10, 17, 17⟩ : ExceptionTableEntry)], rfl, fun z hz => absurd hz List.not_mem_nil, rfl, by decide, W_L_31, 5, 2, Or.inr ⟨(dT U_L_mix 8 rfl), rfl⟩, by decide, ?_⟩
    refine x_ldc2 C_L_21 (dT U_L_mix 9 rfl) ?_
    refine x_lreturn (dT U_L_mix 10 rfl) rfl ?_
    exact e1 k_1
  · refine xRetH_thr ?_
    refine ⟨[(⟨0, 10, 11, 31⟩ : ExceptionTableEntry)], (⟨0, 10, 17, 17⟩ : ExceptionTableEntry), [], rfl, fun z hz => by
        simp only [List.mem_cons, List.not_mem_nil, or_false] at hz
        subst hz
        exact ⟨by decide, "java/lang/IndexOutOfBoundsException", by decide, by decide, W_L_31⟩, rfl, by decide, W_L_17, 5, 2, Or.inr ⟨(dT U_L_mix 11 rfl), rfl⟩, by decide, ?_⟩
    refine x_ldc2 C_L_43 (dT U_L_mix 12 rfl) ?_
    refine x_lreturn (dT U_L_mix 13 rfl) rfl ?_
    exact e2 k_1 k_2
  · refine xRetH_some ?_
    have hz9 : xr (dg (gf (tab (fun t => ((σ.rw row.toNat).getD t 0 + factor * (σ.rw other.toNat).getD t 0) % (σ.p : Int)) 8)) 8) := by
      exact xr_dg
    refine x_i2l (dT U_L_mix 6 rfl) hz9 ?_
    refine x_lreturn (dT U_L_mix 7 rfl) rfl ?_
    exact k k_1 k_2 _ rfl hz9 h2 fc w2 (IV_mix v k_1 k_2)

set_option maxRecDepth 20000 in
set_option maxHeartbeats 1000000 in
theorem S_L_times {G : xG} {d rc rs : Nat} {ex : Bool} {h : xH} {Q : xQ} {σ : St} {row other to : Int} (w : CW σ h) (v : INV σ) (h_row : xr row) (h_other : xr other) (h_to : xr to) (e1 : ¬ (inb row 8 ∧ inb other 8 ∧ inb to 8) → Q (.inl (some (vl (-4000000000000000001)))) false h) (e2 : (inb row 8 ∧ inb other 8 ∧ inb to 8) → ¬ (¬ (8 ≤ dg (gf (σ.rw row.toNat)) 8 + dg (gf (σ.rw other.toNat)) 8 ∧ 0 ≤ dg (gf (σ.rw row.toNat)) 8 ∧ 0 ≤ dg (gf (σ.rw other.toNat)) 8)) → Q (.inl (some (vl (-4000000000000000002)))) false h) (k : (inb row 8 ∧ inb other 8 ∧ inb to 8) → (¬ (8 ≤ dg (gf (σ.rw row.toNat)) 8 + dg (gf (σ.rw other.toNat)) 8 ∧ 0 ≤ dg (gf (σ.rw row.toNat)) 8 ∧ 0 ≤ dg (gf (σ.rw other.toNat)) 8)) → ∀ z9 : Int, z9 = (dg (gf (tab (fun n => pm (gf (σ.rw row.toNat)) (gf (σ.rw other.toNat)) 8 n % (σ.p : Int)) 8)) 8) → xr z9 → ∀ h2, FC h h2 → CW ((σ.sRow to.toNat (tab (fun n => pm (gf (σ.rw row.toNat)) (gf (σ.rw other.toNat)) 8 n % (σ.p : Int)) 8))) h2 → INV ((σ.sRow to.toNat (tab (fun n => pm (gf (σ.rw row.toNat)) (gf (σ.rw other.toNat)) 8 n % (σ.p : Int)) 8))) → Q (.inl (some (vl z9))) ex h2) : X G m_L_times (d + 8) (rc + 4) (rs + 24) ex 0 (xe m_L_times.2.2.1 [.ref 3, vi row, vi other, vi to]) [] h Q := by
  show X G m_L_times _ _ _ _ 0 [some (.ref 3), some (vi row), some (vi other), some (vi to), none] [] h Q
  have hp := PRb v.p
  have hq := gq_b v.p
  refine x_aload_n (dT U_L_times 0 rfl) rfl ?_
  refine x_iload_n (dT U_L_times 1 rfl) rfl ?_
  refine x_iload_n (dT U_L_times 2 rfl) rfl ?_
  refine x_iload_n (dT U_L_times 3 rfl) rfl ?_
  refine x_invokevirtualH (rc' := rc) (rs' := rs) (rc2 := 0 + 4) (rs2 := 0 + 24) (As := [_, _, _]) (st := _) M_X10_times K_L_49 (dT U_L_times 4 rfl) rfl (by decide) rfl rfl w.c3 (Nat.le_of_ble_eq_true rfl) (by decide) rfl (Nat.le_of_ble_eq_true rfl) rfl (by decide) (Nat.le_of_ble_eq_true rfl) (Nat.add_comm _ _ ▸ rfl) (Nat.add_comm _ _ ▸ rfl) ?_
  refine S_X10_times w v h_row h_other h_to (fun k_1 => ?_) (fun k_1 k_2 => ?_) (fun k_1 k_2 h2 fc w2 => ?_)
  · refine xRetH_thr ?_
    refine ⟨[], (⟨0, 8, 9, 31⟩ : ExceptionTableEntry), [(⟨0, 8, 15, 53⟩ : ExceptionTableEntry)], rfl, fun z hz => absurd hz List.not_mem_nil, rfl, by decide, W_L_31, 4, 2, Or.inr ⟨(dT U_L_times 7 rfl), rfl⟩, by decide, ?_⟩
    refine x_ldc2 C_L_21 (dT U_L_times 8 rfl) ?_
    refine x_lreturn (dT U_L_times 9 rfl) rfl ?_
    exact e1 k_1
  · refine xRetH_thr ?_
    refine ⟨[(⟨0, 8, 9, 31⟩ : ExceptionTableEntry)], (⟨0, 8, 15, 53⟩ : ExceptionTableEntry), [], rfl, fun z hz => by
        simp only [List.mem_cons, List.not_mem_nil, or_false] at hz
        subst hz
        exact ⟨by decide, "java/lang/IndexOutOfBoundsException", by decide, by decide, W_L_31⟩, rfl, by decide, W_L_53, 4, 2, Or.inr ⟨(dT U_L_times 10 rfl), rfl⟩, by decide, ?_⟩
    refine x_ldc2 C_L_43 (dT U_L_times 11 rfl) ?_
    refine x_lreturn (dT U_L_times 12 rfl) rfl ?_
    exact e2 k_1 k_2
  · refine xRetH_some ?_
    have hz9 : xr (dg (gf (tab (fun n => pm (gf (σ.rw row.toNat)) (gf (σ.rw other.toNat)) 8 n % (σ.p : Int)) 8)) 8) := by
      exact xr_dg
    refine x_i2l (dT U_L_times 5 rfl) hz9 ?_
    refine x_lreturn (dT U_L_times 6 rfl) rfl ?_
    exact k k_1 k_2 _ rfl hz9 h2 fc w2 (IV_times v k_1 k_2)

set_option maxRecDepth 20000 in
set_option maxHeartbeats 1000000 in
theorem S_L_divide {G : xG} {d rc rs : Nat} {ex : Bool} {h : xH} {Q : xQ} {σ : St} {row by_ quotient rest : Int} (w : CW σ h) (v : INV σ) (h_row : xr row) (h_by_ : xr by_) (h_quotient : xr quotient) (h_rest : xr rest) (e1 : ¬ (inb row 8 ∧ inb by_ 8 ∧ inb quotient 8 ∧ inb rest 8) → Q (.inl (some (vl (-4000000000000000001)))) false h) (e2 : (inb row 8 ∧ inb by_ 8 ∧ inb quotient 8 ∧ inb rest 8) → ¬ (quotient ≠ rest) → Q (.inl (some (vl (-4000000000000000002)))) false h) (e3 : (inb row 8 ∧ inb by_ 8 ∧ inb quotient 8 ∧ inb rest 8) → (quotient ≠ rest) → ¬ (¬ (dg (gf (σ.rw by_.toNat)) 8) = -1) → Q (.inl (some (vl (-4000000000000000003)))) false h) (k : (inb row 8 ∧ inb by_ 8 ∧ inb quotient 8 ∧ inb rest 8) → (quotient ≠ rest) → (¬ (dg (gf (σ.rw by_.toNat)) 8) = -1) → ∀ z9 : Int, z9 = (dg (gf (dvRL σ.p (σ.rw row.toNat) (σ.rw by_.toNat))) 8) → xr z9 → ∀ h2, FC h h2 → CW (((σ.sRow quotient.toNat (dvQL σ.p (σ.rw row.toNat) (σ.rw by_.toNat))).sRow rest.toNat (dvRL σ.p (σ.rw row.toNat) (σ.rw by_.toNat)))) h2 → INV (((σ.sRow quotient.toNat (dvQL σ.p (σ.rw row.toNat) (σ.rw by_.toNat))).sRow rest.toNat (dvRL σ.p (σ.rw row.toNat) (σ.rw by_.toNat)))) → Q (.inl (some (vl z9))) ex h2) : X G m_L_divide (d + 8) (rc + 5) (rs + 30) ex 0 (xe m_L_divide.2.2.1 [.ref 3, vi row, vi by_, vi quotient, vi rest]) [] h Q := by
  show X G m_L_divide _ _ _ _ 0 [some (.ref 3), some (vi row), some (vi by_), some (vi quotient), some (vi rest), none] [] h Q
  have hp := PRb v.p
  have hq := gq_b v.p
  refine x_aload_n (dT U_L_divide 0 rfl) rfl ?_
  refine x_iload_n (dT U_L_divide 1 rfl) rfl ?_
  refine x_iload_n (dT U_L_divide 2 rfl) rfl ?_
  refine x_iload_n (dT U_L_divide 3 rfl) rfl ?_
  refine x_iload (dT U_L_divide 4 rfl) rfl ?_
  refine x_invokevirtualH (rc' := rc) (rs' := rs) (rc2 := 0 + 5) (rs2 := 0 + 30) (As := [_, _, _, _]) (st := _) M_X10_divide K_L_55 (dT U_L_divide 5 rfl) rfl (by decide) rfl rfl w.c3 (Nat.le_of_ble_eq_true rfl) (by decide) rfl (Nat.le_of_ble_eq_true rfl) rfl (by decide) (Nat.le_of_ble_eq_true rfl) (Nat.add_comm _ _ ▸ rfl) (Nat.add_comm _ _ ▸ rfl) ?_
  refine S_X10_divide w v h_row h_by_ h_quotient h_rest (fun k_1 => ?_) (fun k_1 k_2 => ?_) (fun k_1 k_2 k_3 => ?_) (fun k_1 k_2 k_3 h2 fc w2 => ?_)
  · refine xRetH_thr ?_
    refine ⟨[], (⟨0, 10, 11, 31⟩ : ExceptionTableEntry), [(⟨0, 10, 17, 17⟩ : ExceptionTableEntry), (⟨0, 10, 23, 58⟩ : ExceptionTableEntry)], rfl, fun z hz => absurd hz List.not_mem_nil, rfl, by decide, W_L_31, 5, 2, Or.inr ⟨(dT U_L_divide 8 rfl), rfl⟩, by decide, ?_⟩
    refine x_ldc2 C_L_21 (dT U_L_divide 9 rfl) ?_
    refine x_lreturn (dT U_L_divide 10 rfl) rfl ?_
    exact e1 k_1
  · refine xRetH_thr ?_
    refine ⟨[(⟨0, 10, 11, 31⟩ : ExceptionTableEntry)], (⟨0, 10, 17, 17⟩ : ExceptionTableEntry), [(⟨0, 10, 23, 58⟩ : ExceptionTableEntry)], rfl, fun z hz => by
        simp only [List.mem_cons, List.not_mem_nil, or_false] at hz
        subst hz
        exact ⟨by decide, "java/lang/IndexOutOfBoundsException", by decide, by decide, W_L_31⟩, rfl, by decide, W_L_17, 5, 2, Or.inr ⟨(dT U_L_divide 11 rfl), rfl⟩, by decide, ?_⟩
    refine x_ldc2 C_L_43 (dT U_L_divide 12 rfl) ?_
    refine x_lreturn (dT U_L_divide 13 rfl) rfl ?_
    exact e2 k_1 k_2
  · refine xRetH_thr ?_
    refine ⟨[(⟨0, 10, 11, 31⟩ : ExceptionTableEntry), (⟨0, 10, 17, 17⟩ : ExceptionTableEntry)], (⟨0, 10, 23, 58⟩ : ExceptionTableEntry), [], rfl, fun z hz => by
        simp only [List.mem_cons, List.not_mem_nil, or_false] at hz
        rcases hz with rfl | rfl
        · exact ⟨by decide, "java/lang/IndexOutOfBoundsException", by decide, by decide, W_L_31⟩
        · exact ⟨by decide, "java/lang/IllegalArgumentException", by decide, by decide, W_L_17⟩, rfl, by decide, W_L_58, 5, 2, Or.inr ⟨(dT U_L_divide 14 rfl), rfl⟩, by decide, ?_⟩
    refine x_ldc2 C_L_60 (dT U_L_divide 15 rfl) ?_
    refine x_lreturn (dT U_L_divide 16 rfl) rfl ?_
    exact e3 k_1 k_2 k_3
  · refine xRetH_some ?_
    have hz9 : xr (dg (gf (dvRL σ.p (σ.rw row.toNat) (σ.rw by_.toNat))) 8) := by
      exact xr_dg
    refine x_i2l (dT U_L_divide 6 rfl) hz9 ?_
    refine x_lreturn (dT U_L_divide 7 rfl) rfl ?_
    exact k k_1 k_2 k_3 _ rfl hz9 h2 fc w2 (IV_divide v k_1 k_2 k_3)

set_option maxRecDepth 20000 in
set_option maxHeartbeats 1000000 in
theorem S_L_base {G : xG} {d rc rs : Nat} {ex : Bool} {h : xH} {Q : xQ} {σ : St} {n : Int} (w : CW σ h) (v : INV σ) (h_n : xr n) (e1 : ¬ (inb n 9) → Q (.inl (some (vl (-4000000000000000001)))) false h) (k : (inb n 9) → ∀ z9 : Int, z9 = (MM σ.p (bs σ.p n.toNat : Int)) → xr z9 → Q (.inl (some (vl z9))) ex h) : X G m_L_base (d + 7) (rc + 1) (rs + 6) ex 0 (xe m_L_base.2.2.1 [.ref 3, vi n]) [] h Q := by
  show X G m_L_base _ _ _ _ 0 [some (.ref 3), some (vi n), none] [] h Q
  have hp := PRb v.p
  have hq := gq_b v.p
  refine x_aload_n (dT U_L_base 0 rfl) rfl ?_
  refine x_iload_n (dT U_L_base 1 rfl) rfl ?_
  refine x_invokevirtualH (rc' := rc) (rs' := rs) (rc2 := 0 + 1) (rs2 := 0 + 6) (As := [_]) (st := _) M_X10_base K_L_62 (dT U_L_base 2 rfl) rfl (by decide) rfl rfl w.c3 (Nat.le_of_ble_eq_true rfl) (by decide) rfl (Nat.le_of_ble_eq_true rfl) rfl (by decide) (Nat.le_of_ble_eq_true rfl) (Nat.add_comm _ _ ▸ rfl) (Nat.add_comm _ _ ▸ rfl) ?_
  refine S_X10_base w v h_n (fun k_1 => ?_) (fun k_1 => ?_)
  · refine xRetH_thr ?_
    refine ⟨[], (⟨0, 6, 7, 17⟩ : ExceptionTableEntry), [], rfl, fun z hz => absurd hz List.not_mem_nil, rfl, by decide, W_L_17, 2, 1, Or.inl ⟨2, (dT U_L_base 5 rfl), rfl, rfl⟩, by decide, ?_⟩
    refine x_ldc2 C_L_21 (dT U_L_base 6 rfl) ?_
    refine x_lreturn (dT U_L_base 7 rfl) rfl ?_
    exact e1 k_1
  · refine xRetH_some ?_
    have hz9 : xr (MM σ.p (bs σ.p n.toNat : Int)) := by
      exact xr_MM v.p
    refine x_i2l (dT U_L_base 3 rfl) hz9 ?_
    refine x_lreturn (dT U_L_base 4 rfl) rfl ?_
    exact k k_1 _ rfl hz9

set_option maxRecDepth 20000 in
set_option maxHeartbeats 1000000 in
theorem S_L_isMember {G : xG} {d rc rs : Nat} {ex : Bool} {h : xH} {Q : xQ} {σ : St} {y : Int} (w : CW σ h) (v : INV σ) (h_y : xr y) (k1 : (¬ exI σ.p y = -1) → Q (.inl (some (vi 1))) ex h) (k0 : (¬ (¬ exI σ.p y = -1)) → Q (.inl (some (vi 0))) ex h) : X G m_L_isMember (d + 2) rc rs ex 0 (xe m_L_isMember.2.2.1 [.ref 3, vi y]) [] h Q := by
  show X G m_L_isMember _ _ _ _ 0 [some (.ref 3), some (vi y)] [] h Q
  have hp := PRb v.p
  have hq := gq_b v.p
  refine x_aload_n (dT U_L_isMember 0 rfl) rfl ?_
  refine x_iload_n (dT U_L_isMember 1 rfl) rfl ?_
  refine x_invokevirtual (rc' := rc) (rs' := rs) (rc2 := 0) (rs2 := 0) (As := [_]) (st := _) M_X10_isMember K_L_65 (dT U_L_isMember 2 rfl) rfl rfl (by decide) rfl rfl w.c3 (Nat.le_of_ble_eq_true rfl) (by decide) rfl (Nat.le_of_ble_eq_true rfl) rfl (by decide) (Nat.le_of_ble_eq_true rfl) rfl rfl ?_
  refine S_X10_isMember w v h_y  (fun k_1 => ?_) (fun k_1 => ?_)
  · refine xRet_some ?_
    refine x_zreturn (dT U_L_isMember 3 rfl) rfl (by omega) ?_
    exact k1 k_1
  · refine xRet_some ?_
    refine x_zreturn (dT U_L_isMember 3 rfl) rfl (by omega) ?_
    exact k0 k_1

set_option maxRecDepth 20000 in
set_option maxHeartbeats 1000000 in
theorem S_L_commit {G : xG} {d rc rs : Nat} {ex : Bool} {h : xH} {Q : xQ} {σ : St} {row blind : Int} (w : CW σ h) (v : INV σ) (h_row : xr row) (h_blind : xr blind) (e1 : ¬ (inb row 8) → Q (.inl (some (vl (-4000000000000000001)))) false h) (e2 : (inb row 8) → ¬ (inb blind σ.p) → Q (.inl (some (vl (-4000000000000000002)))) false h) (k : (inb row 8) → (inb blind σ.p) → ∀ z9 : Int, z9 = (MM σ.p (cm σ.p (σ.rw row.toNat) blind)) → xr z9 → Q (.inl (some (vl z9))) ex h) : X G m_L_commit (d + 8) (rc + 2) (rs + 12) ex 0 (xe m_L_commit.2.2.1 [.ref 3, vi row, vi blind]) [] h Q := by
  show X G m_L_commit _ _ _ _ 0 [some (.ref 3), some (vi row), some (vi blind), none] [] h Q
  have hp := PRb v.p
  have hq := gq_b v.p
  refine x_aload_n (dT U_L_commit 0 rfl) rfl ?_
  refine x_iload_n (dT U_L_commit 1 rfl) rfl ?_
  refine x_iload_n (dT U_L_commit 2 rfl) rfl ?_
  refine x_invokevirtualH (rc' := rc) (rs' := rs) (rc2 := 0 + 2) (rs2 := 0 + 12) (As := [_, _]) (st := _) M_X10_commit K_L_69 (dT U_L_commit 3 rfl) rfl (by decide) rfl rfl w.c3 (Nat.le_of_ble_eq_true rfl) (by decide) rfl (Nat.le_of_ble_eq_true rfl) rfl (by decide) (Nat.le_of_ble_eq_true rfl) (Nat.add_comm _ _ ▸ rfl) (Nat.add_comm _ _ ▸ rfl) ?_
  refine S_X10_commit w v h_row h_blind (fun k_1 => ?_) (fun k_1 k_2 => ?_) (fun k_1 k_2 => ?_)
  · refine xRetH_thr ?_
    refine ⟨[], (⟨0, 7, 8, 31⟩ : ExceptionTableEntry), [(⟨0, 7, 13, 17⟩ : ExceptionTableEntry)], rfl, fun z hz => absurd hz List.not_mem_nil, rfl, by decide, W_L_31, 3, 1, Or.inl ⟨3, (dT U_L_commit 6 rfl), rfl, rfl⟩, by decide, ?_⟩
    refine x_ldc2 C_L_21 (dT U_L_commit 7 rfl) ?_
    refine x_lreturn (dT U_L_commit 8 rfl) rfl ?_
    exact e1 k_1
  · refine xRetH_thr ?_
    refine ⟨[(⟨0, 7, 8, 31⟩ : ExceptionTableEntry)], (⟨0, 7, 13, 17⟩ : ExceptionTableEntry), [], rfl, fun z hz => by
        simp only [List.mem_cons, List.not_mem_nil, or_false] at hz
        subst hz
        exact ⟨by decide, "java/lang/IndexOutOfBoundsException", by decide, by decide, W_L_31⟩, rfl, by decide, W_L_17, 3, 1, Or.inl ⟨3, (dT U_L_commit 9 rfl), rfl, rfl⟩, by decide, ?_⟩
    refine x_ldc2 C_L_43 (dT U_L_commit 10 rfl) ?_
    refine x_lreturn (dT U_L_commit 11 rfl) rfl ?_
    exact e2 k_1 k_2
  · refine xRetH_some ?_
    have hz9 : xr (MM σ.p (cm σ.p (σ.rw row.toNat) blind)) := by
      exact xr_MM v.p
    refine x_i2l (dT U_L_commit 4 rfl) hz9 ?_
    refine x_lreturn (dT U_L_commit 5 rfl) rfl ?_
    exact k k_1 k_2 _ rfl hz9

set_option maxRecDepth 20000 in
set_option maxHeartbeats 1000000 in
theorem S_L_isOpened {G : xG} {d rc rs : Nat} {ex : Bool} {h : xH} {Q : xQ} {σ : St} {y row blind : Int} (w : CW σ h) (v : INV σ) (h_y : xr y) (h_row : xr row) (h_blind : xr blind) (e1 : ¬ (inb row 8) → Q (.inl (some (vl (-4000000000000000001)))) false h) (e2 : (inb row 8) → ¬ (¬ exI σ.p y = -1 ∧ inb blind σ.p) → Q (.inl (some (vl (-4000000000000000002)))) false h) (k1 : (inb row 8) → (¬ exI σ.p y = -1 ∧ inb blind σ.p) → (cm σ.p (σ.rw row.toNat) blind = exI σ.p y) → Q (.inl (some (vl 1))) ex h) (k0 : (inb row 8) → (¬ exI σ.p y = -1 ∧ inb blind σ.p) → (¬ (cm σ.p (σ.rw row.toNat) blind = exI σ.p y)) → Q (.inl (some (vl 0))) ex h) : X G m_L_isOpened (d + 8) (rc + 3) (rs + 18) ex 0 (xe m_L_isOpened.2.2.1 [.ref 3, vi y, vi row, vi blind]) [] h Q := by
  show X G m_L_isOpened _ _ _ _ 0 [some (.ref 3), some (vi y), some (vi row), some (vi blind), none] [] h Q
  have hp := PRb v.p
  have hq := gq_b v.p
  refine x_aload_n (dT U_L_isOpened 0 rfl) rfl ?_
  refine x_iload_n (dT U_L_isOpened 1 rfl) rfl ?_
  refine x_iload_n (dT U_L_isOpened 2 rfl) rfl ?_
  refine x_iload_n (dT U_L_isOpened 3 rfl) rfl ?_
  refine x_invokevirtualH (rc' := rc) (rs' := rs) (rc2 := 0 + 3) (rs2 := 0 + 18) (As := [_, _, _]) (st := _) M_X10_isOpened K_L_72 (dT U_L_isOpened 4 rfl) rfl (by decide) rfl rfl w.c3 (Nat.le_of_ble_eq_true rfl) (by decide) rfl (Nat.le_of_ble_eq_true rfl) rfl (by decide) (Nat.le_of_ble_eq_true rfl) (Nat.add_comm _ _ ▸ rfl) (Nat.add_comm _ _ ▸ rfl) ?_
  refine S_X10_isOpened w v h_y h_row h_blind (fun k_1 => ?_) (fun k_1 k_2 => ?_) (fun k_1 k_2 k_3 => ?_) (fun k_1 k_2 k_3 => ?_)
  · refine xRetH_thr ?_
    refine ⟨[], (⟨0, 15, 16, 31⟩ : ExceptionTableEntry), [(⟨0, 15, 22, 17⟩ : ExceptionTableEntry)], rfl, fun z hz => absurd hz List.not_mem_nil, rfl, by decide, W_L_31, 4, 2, Or.inr ⟨(dT U_L_isOpened 10 rfl), rfl⟩, by decide, ?_⟩
    refine x_ldc2 C_L_21 (dT U_L_isOpened 11 rfl) ?_
    refine x_lreturn (dT U_L_isOpened 12 rfl) rfl ?_
    exact e1 k_1
  · refine xRetH_thr ?_
    refine ⟨[(⟨0, 15, 16, 31⟩ : ExceptionTableEntry)], (⟨0, 15, 22, 17⟩ : ExceptionTableEntry), [], rfl, fun z hz => by
        simp only [List.mem_cons, List.not_mem_nil, or_false] at hz
        subst hz
        exact ⟨by decide, "java/lang/IndexOutOfBoundsException", by decide, by decide, W_L_31⟩, rfl, by decide, W_L_17, 4, 2, Or.inr ⟨(dT U_L_isOpened 13 rfl), rfl⟩, by decide, ?_⟩
    refine x_ldc2 C_L_43 (dT U_L_isOpened 14 rfl) ?_
    refine x_lreturn (dT U_L_isOpened 15 rfl) rfl ?_
    exact e2 k_1 k_2
  · refine xRetH_some ?_
    refine x_if_eq (tgt := 14) (dT U_L_isOpened 5 rfl) (by decide) (by unfold xr; omega) (fun z8 => ?_) (fun z8 => ?_)
    · exact absurd z8 (by decide)
    refine x_lconst (z := 1) (dT U_L_isOpened 6 rfl) rfl ?_
    refine x_goto (tgt := 15) (dT U_L_isOpened 7 rfl) (by decide) ?_
    refine x_lreturn (dT U_L_isOpened 9 rfl) rfl ?_
    exact k1 k_1 k_2 k_3
  · refine xRetH_some ?_
    refine x_if_eq (tgt := 14) (dT U_L_isOpened 5 rfl) (by decide) (by unfold xr; omega) (fun z8 => ?_) (fun z8 => ?_)
    rotate_left
    · exact absurd z8 (by decide)
    refine x_lconst (z := 0) (dT U_L_isOpened 8 rfl) rfl ?_
    refine x_lreturn (dT U_L_isOpened 9 rfl) rfl ?_
    exact k0 k_1 k_2 k_3

set_option maxRecDepth 20000 in
set_option maxHeartbeats 1000000 in
theorem S_L_breaks {G : xG} {d rc rs : Nat} {ex : Bool} {h : xH} {Q : xQ} {σ : St} {row blind place to : Int} (w : CW σ h) (v : INV σ) (h_row : xr row) (h_blind : xr blind) (h_place : xr place) (h_to : xr to) (e1 : ¬ (inb row 8 ∧ inb place 8 ∧ inb to 8) → Q (.inl (some (vl (-4000000000000000001)))) false h) (e2 : (inb row 8 ∧ inb place 8 ∧ inb to 8) → ¬ (inb blind σ.p) → Q (.inl (some (vl (-4000000000000000002)))) false h) (k : (inb row 8 ∧ inb place 8 ∧ inb to 8) → (inb blind σ.p) → ∀ z9 : Int, z9 = (((cm σ.p (σ.rw row.toNat) blind - wt σ.p ((σ.rw row.toNat).set place.toNat (((σ.rw row.toNat).getD place.toNat 0 + 1) % (σ.p : Int)))) % (σ.p : Int)) * (iv σ.p (bs σ.p 8) : Int) % (σ.p : Int)) → xr z9 → ∀ h2, FC h h2 → CW ((σ.sRow to.toNat ((σ.rw row.toNat).set place.toNat (((σ.rw row.toNat).getD place.toNat 0 + 1) % (σ.p : Int))))) h2 → INV ((σ.sRow to.toNat ((σ.rw row.toNat).set place.toNat (((σ.rw row.toNat).getD place.toNat 0 + 1) % (σ.p : Int))))) → Q (.inl (some (vl z9))) ex h2) : X G m_L_breaks (d + 8) (rc + 4) (rs + 24) ex 0 (xe m_L_breaks.2.2.1 [.ref 3, vi row, vi blind, vi place, vi to]) [] h Q := by
  show X G m_L_breaks _ _ _ _ 0 [some (.ref 3), some (vi row), some (vi blind), some (vi place), some (vi to), none] [] h Q
  have hp := PRb v.p
  have hq := gq_b v.p
  refine x_aload_n (dT U_L_breaks 0 rfl) rfl ?_
  refine x_iload_n (dT U_L_breaks 1 rfl) rfl ?_
  refine x_iload_n (dT U_L_breaks 2 rfl) rfl ?_
  refine x_iload_n (dT U_L_breaks 3 rfl) rfl ?_
  refine x_iload (dT U_L_breaks 4 rfl) rfl ?_
  refine x_invokevirtualH (rc' := rc) (rs' := rs) (rc2 := 0 + 4) (rs2 := 0 + 24) (As := [_, _, _, _]) (st := _) M_X10_breaks K_L_76 (dT U_L_breaks 5 rfl) rfl (by decide) rfl rfl w.c3 (Nat.le_of_ble_eq_true rfl) (by decide) rfl (Nat.le_of_ble_eq_true rfl) rfl (by decide) (Nat.le_of_ble_eq_true rfl) (Nat.add_comm _ _ ▸ rfl) (Nat.add_comm _ _ ▸ rfl) ?_
  refine S_X10_breaks w v h_row h_blind h_place h_to (fun k_1 => ?_) (fun k_1 k_2 => ?_) (fun k_1 k_2 h2 fc w2 => ?_)
  · refine xRetH_thr ?_
    refine ⟨[], (⟨0, 10, 11, 31⟩ : ExceptionTableEntry), [(⟨0, 10, 17, 17⟩ : ExceptionTableEntry)], rfl, fun z hz => absurd hz List.not_mem_nil, rfl, by decide, W_L_31, 5, 2, Or.inr ⟨(dT U_L_breaks 8 rfl), rfl⟩, by decide, ?_⟩
    refine x_ldc2 C_L_21 (dT U_L_breaks 9 rfl) ?_
    refine x_lreturn (dT U_L_breaks 10 rfl) rfl ?_
    exact e1 k_1
  · refine xRetH_thr ?_
    refine ⟨[(⟨0, 10, 11, 31⟩ : ExceptionTableEntry)], (⟨0, 10, 17, 17⟩ : ExceptionTableEntry), [], rfl, fun z hz => by
        simp only [List.mem_cons, List.not_mem_nil, or_false] at hz
        subst hz
        exact ⟨by decide, "java/lang/IndexOutOfBoundsException", by decide, by decide, W_L_31⟩, rfl, by decide, W_L_17, 5, 2, Or.inr ⟨(dT U_L_breaks 11 rfl), rfl⟩, by decide, ?_⟩
    refine x_ldc2 C_L_43 (dT U_L_breaks 12 rfl) ?_
    refine x_lreturn (dT U_L_breaks 13 rfl) rfl ?_
    exact e2 k_1 k_2
  · refine xRetH_some ?_
    have hz9 : xr (((cm σ.p (σ.rw row.toNat) blind - wt σ.p ((σ.rw row.toNat).set place.toNat (((σ.rw row.toNat).getD place.toNat 0 + 1) % (σ.p : Int)))) % (σ.p : Int)) * (iv σ.p (bs σ.p 8) : Int) % (σ.p : Int)) := by
      exact xr_md ⟨by omega, by omega⟩
    refine x_i2l (dT U_L_breaks 6 rfl) hz9 ?_
    refine x_lreturn (dT U_L_breaks 7 rfl) rfl ?_
    exact k k_1 k_2 _ rfl hz9 h2 fc w2 (IV_breaks v k_1 k_2)

set_option maxRecDepth 20000 in
set_option maxHeartbeats 1000000 in
theorem S_L_seal {G : xG} {d rc rs : Nat} {ex : Bool} {h : xH} {Q : xQ} {σ : St} {a b : Int} (w : CW σ h) (v : INV σ) (h_a : xr a) (h_b : xr b) (e1 : ¬ (inb a 251 ∧ inb b 251) → Q (.inl (some (vl (-4000000000000000001)))) false h) (k : (inb a 251 ∧ inb b 251) → ∀ z9 : Int, z9 = (sl a b) → xr z9 → Q (.inl (some (vl z9))) ex h) : X G m_L_seal (d + 8) (rc + 2) (rs + 12) ex 0 (xe m_L_seal.2.2.1 [.ref 3, vi a, vi b]) [] h Q := by
  show X G m_L_seal _ _ _ _ 0 [some (.ref 3), some (vi a), some (vi b), none] [] h Q
  have hp := PRb v.p
  have hq := gq_b v.p
  refine x_aload_n (dT U_L_seal 0 rfl) rfl ?_
  refine x_iload_n (dT U_L_seal 1 rfl) rfl ?_
  refine x_iload_n (dT U_L_seal 2 rfl) rfl ?_
  refine x_invokevirtualH (rc' := rc) (rs' := rs) (rc2 := 0 + 2) (rs2 := 0 + 12) (As := [_, _]) (st := _) M_X10_seal K_L_79 (dT U_L_seal 3 rfl) rfl (by decide) rfl rfl w.c3 (Nat.le_of_ble_eq_true rfl) (by decide) rfl (Nat.le_of_ble_eq_true rfl) rfl (by decide) (Nat.le_of_ble_eq_true rfl) (Nat.add_comm _ _ ▸ rfl) (Nat.add_comm _ _ ▸ rfl) ?_
  refine S_X10_seal w v h_a h_b (fun k_1 => ?_) (fun k_1 => ?_)
  · refine xRetH_thr ?_
    refine ⟨[], (⟨0, 7, 8, 17⟩ : ExceptionTableEntry), [], rfl, fun z hz => absurd hz List.not_mem_nil, rfl, by decide, W_L_17, 3, 1, Or.inl ⟨3, (dT U_L_seal 6 rfl), rfl, rfl⟩, by decide, ?_⟩
    refine x_ldc2 C_L_21 (dT U_L_seal 7 rfl) ?_
    refine x_lreturn (dT U_L_seal 8 rfl) rfl ?_
    exact e1 k_1
  · refine xRetH_some ?_
    have hz9 : xr (sl a b) := by
      exact xr_sl
    refine x_i2l (dT U_L_seal 4 rfl) hz9 ?_
    refine x_lreturn (dT U_L_seal 5 rfl) rfl ?_
    exact k k_1 _ rfl hz9

set_option maxRecDepth 20000 in
set_option maxHeartbeats 1000000 in
theorem S_L_twin {G : xG} {d rc rs : Nat} {ex : Bool} {h : xH} {Q : xQ} {σ : St} {a b : Int} (w : CW σ h) (v : INV σ) (h_a : xr a) (h_b : xr b) (e1 : ¬ (inb a 251 ∧ inb b 251) → Q (.inl (some (vl (-4000000000000000001)))) false h) (k : (inb a 251 ∧ inb b 251) → ∀ z9 : Int, z9 = (ff (TWP a b) 0 63001) → xr z9 → Q (.inl (some (vl z9))) ex h) : X G m_L_twin (d + 8) (rc + 2) (rs + 12) ex 0 (xe m_L_twin.2.2.1 [.ref 3, vi a, vi b]) [] h Q := by
  show X G m_L_twin _ _ _ _ 0 [some (.ref 3), some (vi a), some (vi b), none] [] h Q
  have hp := PRb v.p
  have hq := gq_b v.p
  refine x_aload_n (dT U_L_twin 0 rfl) rfl ?_
  refine x_iload_n (dT U_L_twin 1 rfl) rfl ?_
  refine x_iload_n (dT U_L_twin 2 rfl) rfl ?_
  refine x_invokevirtualH (rc' := rc) (rs' := rs) (rc2 := 0 + 2) (rs2 := 0 + 12) (As := [_, _]) (st := _) M_X10_twin K_L_82 (dT U_L_twin 3 rfl) rfl (by decide) rfl rfl w.c3 (Nat.le_of_ble_eq_true rfl) (by decide) rfl (Nat.le_of_ble_eq_true rfl) rfl (by decide) (Nat.le_of_ble_eq_true rfl) (Nat.add_comm _ _ ▸ rfl) (Nat.add_comm _ _ ▸ rfl) ?_
  refine S_X10_twin w v h_a h_b (fun k_1 => ?_) (fun k_1 => ?_)
  · refine xRetH_thr ?_
    refine ⟨[], (⟨0, 7, 8, 17⟩ : ExceptionTableEntry), [], rfl, fun z hz => absurd hz List.not_mem_nil, rfl, by decide, W_L_17, 3, 1, Or.inl ⟨3, (dT U_L_twin 6 rfl), rfl, rfl⟩, by decide, ?_⟩
    refine x_ldc2 C_L_21 (dT U_L_twin 7 rfl) ?_
    refine x_lreturn (dT U_L_twin 8 rfl) rfl ?_
    exact e1 k_1
  · refine xRetH_some ?_
    have hz9 : xr (ff (TWP a b) 0 63001) := by
      exact xr_ff (by omega)
    refine x_i2l (dT U_L_twin 4 rfl) hz9 ?_
    refine x_lreturn (dT U_L_twin 5 rfl) rfl ?_
    exact k k_1 _ rfl hz9

set_option maxRecDepth 20000 in
set_option maxHeartbeats 1000000 in
theorem S_L_root {G : xG} {d rc rs : Nat} {ex : Bool} {h : xH} {Q : xQ} {σ : St} {row : Int} (w : CW σ h) (v : INV σ) (h_row : xr row) (e1 : ¬ (inb row 8) → Q (.inl (some (vl (-4000000000000000001)))) false h) (k : (inb row 8) → ∀ z9 : Int, z9 = (gs (gf (σ.rw row.toNat)) 1) → xr z9 → ∀ h2, FC h h2 → CW σ h2 → INV σ → Q (.inl (some (vl z9))) ex h2) : X G m_L_root (d + 8) (rc + 1) (rs + 6) ex 0 (xe m_L_root.2.2.1 [.ref 3, vi row]) [] h Q := by
  show X G m_L_root _ _ _ _ 0 [some (.ref 3), some (vi row), none] [] h Q
  have hp := PRb v.p
  have hq := gq_b v.p
  refine x_aload_n (dT U_L_root 0 rfl) rfl ?_
  refine x_iload_n (dT U_L_root 1 rfl) rfl ?_
  refine x_invokevirtualH (rc' := rc) (rs' := rs) (rc2 := 0 + 1) (rs2 := 0 + 6) (As := [_]) (st := _) M_X10_root K_L_85 (dT U_L_root 2 rfl) rfl (by decide) rfl rfl w.c3 (Nat.le_of_ble_eq_true rfl) (by decide) rfl (Nat.le_of_ble_eq_true rfl) rfl (by decide) (Nat.le_of_ble_eq_true rfl) (Nat.add_comm _ _ ▸ rfl) (Nat.add_comm _ _ ▸ rfl) ?_
  refine S_X10_root w v h_row (fun k_1 => ?_) (fun k_1 h2 fc w2 => ?_)
  · refine xRetH_thr ?_
    refine ⟨[], (⟨0, 6, 7, 31⟩ : ExceptionTableEntry), [], rfl, fun z hz => absurd hz List.not_mem_nil, rfl, by decide, W_L_31, 2, 1, Or.inl ⟨2, (dT U_L_root 5 rfl), rfl, rfl⟩, by decide, ?_⟩
    refine x_ldc2 C_L_21 (dT U_L_root 6 rfl) ?_
    refine x_lreturn (dT U_L_root 7 rfl) rfl ?_
    exact e1 k_1
  · refine xRetH_some ?_
    have hz9 : xr (gs (gf (σ.rw row.toNat)) 1) := by
      exact xr_gs
    refine x_i2l (dT U_L_root 3 rfl) hz9 ?_
    refine x_lreturn (dT U_L_root 4 rfl) rfl ?_
    exact k k_1 _ rfl hz9 h2 fc w2 v

set_option maxRecDepth 20000 in
set_option maxHeartbeats 1000000 in
theorem S_L_beside {G : xG} {d rc rs : Nat} {ex : Bool} {h : xH} {Q : xQ} {σ : St} {row place step : Int} (w : CW σ h) (v : INV σ) (h_row : xr row) (h_place : xr place) (h_step : xr step) (e1 : ¬ (inb row 8 ∧ inb place 8 ∧ inb step 3) → Q (.inl (some (vl (-4000000000000000001)))) false h) (k : (inb row 8 ∧ inb place 8 ∧ inb step 3) → ∀ z9 : Int, z9 = (gs (gf (σ.rw row.toNat)) (bsd place.toNat step.toNat)) → xr z9 → ∀ h2, FC h h2 → CW σ h2 → INV σ → Q (.inl (some (vl z9))) ex h2) : X G m_L_beside (d + 8) (rc + 3) (rs + 18) ex 0 (xe m_L_beside.2.2.1 [.ref 3, vi row, vi place, vi step]) [] h Q := by
  show X G m_L_beside _ _ _ _ 0 [some (.ref 3), some (vi row), some (vi place), some (vi step), none] [] h Q
  have hp := PRb v.p
  have hq := gq_b v.p
  refine x_aload_n (dT U_L_beside 0 rfl) rfl ?_
  refine x_iload_n (dT U_L_beside 1 rfl) rfl ?_
  refine x_iload_n (dT U_L_beside 2 rfl) rfl ?_
  refine x_iload_n (dT U_L_beside 3 rfl) rfl ?_
  refine x_invokevirtualH (rc' := rc) (rs' := rs) (rc2 := 0 + 3) (rs2 := 0 + 18) (As := [_, _, _]) (st := _) M_X10_beside K_L_88 (dT U_L_beside 4 rfl) rfl (by decide) rfl rfl w.c3 (Nat.le_of_ble_eq_true rfl) (by decide) rfl (Nat.le_of_ble_eq_true rfl) rfl (by decide) (Nat.le_of_ble_eq_true rfl) (Nat.add_comm _ _ ▸ rfl) (Nat.add_comm _ _ ▸ rfl) ?_
  refine S_X10_beside w v h_row h_place h_step (fun k_1 => ?_) (fun k_1 h2 fc w2 => ?_)
  · refine xRetH_thr ?_
    refine ⟨[], (⟨0, 8, 9, 31⟩ : ExceptionTableEntry), [], rfl, fun z hz => absurd hz List.not_mem_nil, rfl, by decide, W_L_31, 4, 2, Or.inr ⟨(dT U_L_beside 7 rfl), rfl⟩, by decide, ?_⟩
    refine x_ldc2 C_L_21 (dT U_L_beside 8 rfl) ?_
    refine x_lreturn (dT U_L_beside 9 rfl) rfl ?_
    exact e1 k_1
  · refine xRetH_some ?_
    have hz9 : xr (gs (gf (σ.rw row.toNat)) (bsd place.toNat step.toNat)) := by
      exact xr_gs
    refine x_i2l (dT U_L_beside 5 rfl) hz9 ?_
    refine x_lreturn (dT U_L_beside 6 rfl) rfl ?_
    exact k k_1 _ rfl hz9 h2 fc w2 v

set_option maxRecDepth 20000 in
set_option maxHeartbeats 1000000 in
theorem S_L_climb {G : xG} {d rc rs : Nat} {ex : Bool} {h : xH} {Q : xQ} {σ : St} {place value a b c : Int} (w : CW σ h) (v : INV σ) (h_place : xr place) (h_value : xr value) (h_a : xr a) (h_b : xr b) (h_c : xr c) (e1 : ¬ (inb place 8) → Q (.inl (some (vl (-4000000000000000001)))) false h) (e2 : (inb place 8) → ¬ ((inb value σ.p ∧ inb a 251 ∧ inb b 251 ∧ inb c 251)) → Q (.inl (some (vl (-4000000000000000002)))) false h) (k : (inb place 8) → ((inb value σ.p ∧ inb a 251 ∧ inb b 251 ∧ inb c 251)) → ∀ z9 : Int, z9 = (ws place.toNat value a b c 3) → xr z9 → ∀ h2, FC h h2 → CW σ h2 → INV σ → Q (.inl (some (vl z9))) ex h2) : X G m_L_climb (d + 9) (rc + 5) (rs + 30) ex 0 (xe m_L_climb.2.2.1 [.ref 3, vi place, vi value, vi a, vi b, vi c]) [] h Q := by
  show X G m_L_climb _ _ _ _ 0 [some (.ref 3), some (vi place), some (vi value), some (vi a), some (vi b), some (vi c), none] [] h Q
  have hp := PRb v.p
  have hq := gq_b v.p
  refine x_aload_n (dT U_L_climb 0 rfl) rfl ?_
  refine x_iload_n (dT U_L_climb 1 rfl) rfl ?_
  refine x_iload_n (dT U_L_climb 2 rfl) rfl ?_
  refine x_iload_n (dT U_L_climb 3 rfl) rfl ?_
  refine x_iload (dT U_L_climb 4 rfl) rfl ?_
  refine x_iload (dT U_L_climb 5 rfl) rfl ?_
  refine x_invokevirtualH (rc' := rc) (rs' := rs) (rc2 := 0 + 5) (rs2 := 0 + 30) (As := [_, _, _, _, _]) (st := _) M_X10_climb K_L_91 (dT U_L_climb 6 rfl) rfl (by decide) rfl rfl w.c3 (Nat.le_of_ble_eq_true rfl) (by decide) rfl (Nat.le_of_ble_eq_true rfl) rfl (by decide) (Nat.le_of_ble_eq_true rfl) (Nat.add_comm _ _ ▸ rfl) (Nat.add_comm _ _ ▸ rfl) ?_
  refine S_X10_climb w v h_place h_value h_a h_b h_c (fun k_1 => ?_) (fun k_1 k_2 => ?_) (fun k_1 k_2 h2 fc w2 => ?_)
  · refine xRetH_thr ?_
    refine ⟨[], (⟨0, 12, 13, 31⟩ : ExceptionTableEntry), [(⟨0, 12, 19, 17⟩ : ExceptionTableEntry)], rfl, fun z hz => absurd hz List.not_mem_nil, rfl, by decide, W_L_31, 6, 2, Or.inr ⟨(dT U_L_climb 9 rfl), rfl⟩, by decide, ?_⟩
    refine x_ldc2 C_L_21 (dT U_L_climb 10 rfl) ?_
    refine x_lreturn (dT U_L_climb 11 rfl) rfl ?_
    exact e1 k_1
  · refine xRetH_thr ?_
    refine ⟨[(⟨0, 12, 13, 31⟩ : ExceptionTableEntry)], (⟨0, 12, 19, 17⟩ : ExceptionTableEntry), [], rfl, fun z hz => by
        simp only [List.mem_cons, List.not_mem_nil, or_false] at hz
        subst hz
        exact ⟨by decide, "java/lang/IndexOutOfBoundsException", by decide, by decide, W_L_31⟩, rfl, by decide, W_L_17, 6, 2, Or.inr ⟨(dT U_L_climb 12 rfl), rfl⟩, by decide, ?_⟩
    refine x_ldc2 C_L_43 (dT U_L_climb 13 rfl) ?_
    refine x_lreturn (dT U_L_climb 14 rfl) rfl ?_
    exact e2 k_1 k_2
  · refine xRetH_some ?_
    have hz9 : xr (ws place.toNat value a b c 3) := by
      exact xr_sl
    refine x_i2l (dT U_L_climb 7 rfl) hz9 ?_
    refine x_lreturn (dT U_L_climb 8 rfl) rfl ?_
    exact k k_1 k_2 _ rfl hz9 h2 fc w2 v

set_option maxRecDepth 20000 in
set_option maxHeartbeats 1000000 in
theorem S_L_parts {G : xG} {d rc rs : Nat} {ex : Bool} {h : xH} {Q : xQ} {σ : St} {place value a b c value2 a2 b2 c2 : Int} (w : CW σ h) (v : INV σ) (h_place : xr place) (h_value : xr value) (h_a : xr a) (h_b : xr b) (h_c : xr c) (h_value2 : xr value2) (h_a2 : xr a2) (h_b2 : xr b2) (h_c2 : xr c2) (e1 : ¬ (inb place 8) → Q (.inl (some (vl (-4000000000000000001)))) false h) (e2 : (inb place 8) → ¬ ((inb value σ.p ∧ inb a 251 ∧ inb b 251 ∧ inb c 251) ∧ (inb value2 σ.p ∧ inb a2 251 ∧ inb b2 251 ∧ inb c2 251)) → Q (.inl (some (vl (-4000000000000000002)))) false h) (k : (inb place 8) → ((inb value σ.p ∧ inb a 251 ∧ inb b 251 ∧ inb c 251) ∧ (inb value2 σ.p ∧ inb a2 251 ∧ inb b2 251 ∧ inb c2 251)) → ∀ z9 : Int, z9 = (if ws place.toNat value a b c 3 = ws place.toNat value2 a2 b2 c2 3 then ff (fun j => ws place.toNat value a b c j = ws place.toNat value2 a2 b2 c2 j ∧ ¬ ((wq place.toNat value a b c j).1 = (wq place.toNat value2 a2 b2 c2 j).1 ∧ (wq place.toNat value a b c j).2 = (wq place.toNat value2 a2 b2 c2 j).2)) 0 4 else -1) → xr z9 → ∀ h2, FC h h2 → CW σ h2 → INV σ → Q (.inl (some (vl z9))) ex h2) : X G m_L_parts (d + 9) (rc + 9) (rs + 54) ex 0 (xe m_L_parts.2.2.1 [.ref 3, vi place, vi value, vi a, vi b, vi c, vi value2, vi a2, vi b2, vi c2]) [] h Q := by
  show X G m_L_parts _ _ _ _ 0 [some (.ref 3), some (vi place), some (vi value), some (vi a), some (vi b), some (vi c), some (vi value2), some (vi a2), some (vi b2), some (vi c2), none] [] h Q
  have hp := PRb v.p
  have hq := gq_b v.p
  refine x_aload_n (dT U_L_parts 0 rfl) rfl ?_
  refine x_iload_n (dT U_L_parts 1 rfl) rfl ?_
  refine x_iload_n (dT U_L_parts 2 rfl) rfl ?_
  refine x_iload_n (dT U_L_parts 3 rfl) rfl ?_
  refine x_iload (dT U_L_parts 4 rfl) rfl ?_
  refine x_iload (dT U_L_parts 5 rfl) rfl ?_
  refine x_iload (dT U_L_parts 6 rfl) rfl ?_
  refine x_iload (dT U_L_parts 7 rfl) rfl ?_
  refine x_iload (dT U_L_parts 8 rfl) rfl ?_
  refine x_iload (dT U_L_parts 9 rfl) rfl ?_
  refine x_invokevirtualH (rc' := rc) (rs' := rs) (rc2 := 0 + 9) (rs2 := 0 + 54) (As := [_, _, _, _, _, _, _, _, _]) (st := _) M_X10_parts K_L_95 (dT U_L_parts 10 rfl) rfl (by decide) rfl rfl w.c3 (Nat.le_of_ble_eq_true rfl) (by decide) rfl (Nat.le_of_ble_eq_true rfl) rfl (by decide) (Nat.le_of_ble_eq_true rfl) (Nat.add_comm _ _ ▸ rfl) (Nat.add_comm _ _ ▸ rfl) ?_
  refine S_X10_parts w v h_place h_value h_a h_b h_c h_value2 h_a2 h_b2 h_c2 (fun k_1 => ?_) (fun k_1 k_2 => ?_) (fun k_1 k_2 h2 fc w2 => ?_)
  · refine xRetH_thr ?_
    refine ⟨[], (⟨0, 20, 21, 31⟩ : ExceptionTableEntry), [(⟨0, 20, 27, 17⟩ : ExceptionTableEntry)], rfl, fun z hz => absurd hz List.not_mem_nil, rfl, by decide, W_L_31, 10, 2, Or.inr ⟨(dT U_L_parts 13 rfl), rfl⟩, by decide, ?_⟩
    refine x_ldc2 C_L_21 (dT U_L_parts 14 rfl) ?_
    refine x_lreturn (dT U_L_parts 15 rfl) rfl ?_
    exact e1 k_1
  · refine xRetH_thr ?_
    refine ⟨[(⟨0, 20, 21, 31⟩ : ExceptionTableEntry)], (⟨0, 20, 27, 17⟩ : ExceptionTableEntry), [], rfl, fun z hz => by
        simp only [List.mem_cons, List.not_mem_nil, or_false] at hz
        subst hz
        exact ⟨by decide, "java/lang/IndexOutOfBoundsException", by decide, by decide, W_L_31⟩, rfl, by decide, W_L_17, 10, 2, Or.inr ⟨(dT U_L_parts 16 rfl), rfl⟩, by decide, ?_⟩
    refine x_ldc2 C_L_43 (dT U_L_parts 17 rfl) ?_
    refine x_lreturn (dT U_L_parts 18 rfl) rfl ?_
    exact e2 k_1 k_2
  · refine xRetH_some ?_
    have hz9 : xr (if ws place.toNat value a b c 3 = ws place.toNat value2 a2 b2 c2 3 then ff (fun j => ws place.toNat value a b c j = ws place.toNat value2 a2 b2 c2 j ∧ ¬ ((wq place.toNat value a b c j).1 = (wq place.toNat value2 a2 b2 c2 j).1 ∧ (wq place.toNat value a b c j).2 = (wq place.toNat value2 a2 b2 c2 j).2)) 0 4 else -1) := by
      split
      · exact xr_ff (by omega)
      · unfold xr; omega
    refine x_i2l (dT U_L_parts 11 rfl) hz9 ?_
    refine x_lreturn (dT U_L_parts 12 rfl) rfl ?_
    exact k k_1 k_2 _ rfl hz9 h2 fc w2 v

set_option maxRecDepth 20000 in
set_option maxHeartbeats 1000000 in
theorem S_L_state {G : xG} {d rc rs : Nat} {ex : Bool} {h : xH} {Q : xQ} {σ : St} {run y form x : Int} (w : CW σ h) (v : INV σ) (h_run : xr run) (h_y : xr y) (h_form : xr form) (h_x : xr x) (e1 : ¬ (inb run 4 ∧ inb form 8) → Q (.inl (some (vl (-4000000000000000001)))) false h) (e2 : (inb run 4 ∧ inb form 8) → ¬ (¬ exI σ.p y = -1 ∧ inb x σ.p) → Q (.inl (some (vl (-4000000000000000002)))) false h) (k : (inb run 4 ∧ inb form 8) → (¬ exI σ.p y = -1 ∧ inb x σ.p) → ∀ z9 : Int, z9 = (y) → xr z9 → ∀ h2, FC h h2 → CW ((σ.sRun run.toNat (rBegin (σ.R run.toNat) (exI σ.p y) x (σ.rw form.toNat)))) h2 → INV ((σ.sRun run.toNat (rBegin (σ.R run.toNat) (exI σ.p y) x (σ.rw form.toNat)))) → Q (.inl (some (vl z9))) ex h2) : X G m_L_state (d + 8) (rc + 4) (rs + 24) ex 0 (xe m_L_state.2.2.1 [.ref 3, vi run, vi y, vi form, vi x]) [] h Q := by
  show X G m_L_state _ _ _ _ 0 [some (.ref 3), some (vi run), some (vi y), some (vi form), some (vi x), none] [] h Q
  have hp := PRb v.p
  have hq := gq_b v.p
  refine x_aload_n (dT U_L_state 0 rfl) rfl ?_
  refine x_iload_n (dT U_L_state 1 rfl) rfl ?_
  refine x_iload_n (dT U_L_state 2 rfl) rfl ?_
  refine x_iload_n (dT U_L_state 3 rfl) rfl ?_
  refine x_iload (dT U_L_state 4 rfl) rfl ?_
  refine x_invokevirtualH (rc' := rc) (rs' := rs) (rc2 := 0 + 4) (rs2 := 0 + 24) (As := [_, _, _, _]) (st := _) M_X10_state K_L_98 (dT U_L_state 5 rfl) rfl (by decide) rfl rfl w.c3 (Nat.le_of_ble_eq_true rfl) (by decide) rfl (Nat.le_of_ble_eq_true rfl) rfl (by decide) (Nat.le_of_ble_eq_true rfl) (Nat.add_comm _ _ ▸ rfl) (Nat.add_comm _ _ ▸ rfl) ?_
  refine S_X10_state w v h_run h_y h_form h_x (fun k_1 => ?_) (fun k_1 k_2 => ?_) (fun k_1 k_2 h2 fc w2 => ?_)
  · refine xRetH_thr ?_
    refine ⟨[], (⟨0, 10, 11, 31⟩ : ExceptionTableEntry), [(⟨0, 10, 17, 17⟩ : ExceptionTableEntry)], rfl, fun z hz => absurd hz List.not_mem_nil, rfl, by decide, W_L_31, 5, 2, Or.inr ⟨(dT U_L_state 8 rfl), rfl⟩, by decide, ?_⟩
    refine x_ldc2 C_L_21 (dT U_L_state 9 rfl) ?_
    refine x_lreturn (dT U_L_state 10 rfl) rfl ?_
    exact e1 k_1
  · refine xRetH_thr ?_
    refine ⟨[(⟨0, 10, 11, 31⟩ : ExceptionTableEntry)], (⟨0, 10, 17, 17⟩ : ExceptionTableEntry), [], rfl, fun z hz => by
        simp only [List.mem_cons, List.not_mem_nil, or_false] at hz
        subst hz
        exact ⟨by decide, "java/lang/IndexOutOfBoundsException", by decide, by decide, W_L_31⟩, rfl, by decide, W_L_17, 5, 2, Or.inr ⟨(dT U_L_state 11 rfl), rfl⟩, by decide, ?_⟩
    refine x_ldc2 C_L_43 (dT U_L_state 12 rfl) ?_
    refine x_lreturn (dT U_L_state 13 rfl) rfl ?_
    exact e2 k_1 k_2
  · refine xRetH_some ?_
    have hz9 : xr (y) := by
      exact h_y
    refine x_i2l (dT U_L_state 6 rfl) hz9 ?_
    refine x_lreturn (dT U_L_state 7 rfl) rfl ?_
    exact k k_1 k_2 _ rfl hz9 h2 fc w2 (IV_state v k_1 k_2)

set_option maxRecDepth 20000 in
set_option maxHeartbeats 1000000 in
theorem S_L_open {G : xG} {d rc rs : Nat} {ex : Bool} {h : xH} {Q : xQ} {σ : St} {run mask blind : Int} (w : CW σ h) (v : INV σ) (h_run : xr run) (h_mask : xr mask) (h_blind : xr blind) (e1 : ¬ (inb run 4 ∧ inb mask 8) → Q (.inl (some (vl (-4000000000000000001)))) false h) (e2 : (inb run 4 ∧ inb mask 8) → ¬ (inb blind σ.p) → Q (.inl (some (vl (-4000000000000000002)))) false h) (e3 : (inb run 4 ∧ inb mask 8) → (inb blind σ.p) → ¬ ((σ.R run.toNat).st = 1) → Q (.inl (some (vl (-4000000000000000003)))) false h) (k : (inb run 4 ∧ inb mask 8) → (inb blind σ.p) → ((σ.R run.toNat).st = 1) → ∀ z9 : Int, z9 = (MM σ.p (cm σ.p (σ.rw mask.toNat) blind)) → xr z9 → ∀ h2, FC h h2 → CW ((σ.sRun run.toNat (rOpen σ.p (σ.R run.toNat) (σ.rw mask.toNat) blind))) h2 → INV ((σ.sRun run.toNat (rOpen σ.p (σ.R run.toNat) (σ.rw mask.toNat) blind))) → Q (.inl (some (vl z9))) ex h2) : X G m_L_open (d + 8) (rc + 4) (rs + 24) ex 0 (xe m_L_open.2.2.1 [.ref 3, vi run, vi mask, vi blind]) [] h Q := by
  show X G m_L_open _ _ _ _ 0 [some (.ref 3), some (vi run), some (vi mask), some (vi blind), none] [] h Q
  have hp := PRb v.p
  have hq := gq_b v.p
  refine x_aload_n (dT U_L_open 0 rfl) rfl ?_
  refine x_iload_n (dT U_L_open 1 rfl) rfl ?_
  refine x_iload_n (dT U_L_open 2 rfl) rfl ?_
  refine x_iload_n (dT U_L_open 3 rfl) rfl ?_
  refine x_invokevirtualH (rc' := rc) (rs' := rs) (rc2 := 0 + 4) (rs2 := 0 + 24) (As := [_, _, _]) (st := _) M_X10_open K_L_101 (dT U_L_open 4 rfl) rfl (by decide) rfl rfl w.c3 (Nat.le_of_ble_eq_true rfl) (by decide) rfl (Nat.le_of_ble_eq_true rfl) rfl (by decide) (Nat.le_of_ble_eq_true rfl) (Nat.add_comm _ _ ▸ rfl) (Nat.add_comm _ _ ▸ rfl) ?_
  refine S_X10_open w v h_run h_mask h_blind (fun k_1 => ?_) (fun k_1 k_2 => ?_) (fun k_1 k_2 k_3 => ?_) (fun k_1 k_2 k_3 h2 fc w2 => ?_)
  · refine xRetH_thr ?_
    refine ⟨[], (⟨0, 8, 9, 31⟩ : ExceptionTableEntry), [(⟨0, 8, 15, 17⟩ : ExceptionTableEntry), (⟨0, 8, 21, 53⟩ : ExceptionTableEntry)], rfl, fun z hz => absurd hz List.not_mem_nil, rfl, by decide, W_L_31, 4, 2, Or.inr ⟨(dT U_L_open 7 rfl), rfl⟩, by decide, ?_⟩
    refine x_ldc2 C_L_21 (dT U_L_open 8 rfl) ?_
    refine x_lreturn (dT U_L_open 9 rfl) rfl ?_
    exact e1 k_1
  · refine xRetH_thr ?_
    refine ⟨[(⟨0, 8, 9, 31⟩ : ExceptionTableEntry)], (⟨0, 8, 15, 17⟩ : ExceptionTableEntry), [(⟨0, 8, 21, 53⟩ : ExceptionTableEntry)], rfl, fun z hz => by
        simp only [List.mem_cons, List.not_mem_nil, or_false] at hz
        subst hz
        exact ⟨by decide, "java/lang/IndexOutOfBoundsException", by decide, by decide, W_L_31⟩, rfl, by decide, W_L_17, 4, 2, Or.inr ⟨(dT U_L_open 10 rfl), rfl⟩, by decide, ?_⟩
    refine x_ldc2 C_L_43 (dT U_L_open 11 rfl) ?_
    refine x_lreturn (dT U_L_open 12 rfl) rfl ?_
    exact e2 k_1 k_2
  · refine xRetH_thr ?_
    refine ⟨[(⟨0, 8, 9, 31⟩ : ExceptionTableEntry), (⟨0, 8, 15, 17⟩ : ExceptionTableEntry)], (⟨0, 8, 21, 53⟩ : ExceptionTableEntry), [], rfl, fun z hz => by
        simp only [List.mem_cons, List.not_mem_nil, or_false] at hz
        rcases hz with rfl | rfl
        · exact ⟨by decide, "java/lang/IndexOutOfBoundsException", by decide, by decide, W_L_31⟩
        · exact ⟨by decide, "java/lang/IllegalArgumentException", by decide, by decide, W_L_17⟩, rfl, by decide, W_L_53, 4, 2, Or.inr ⟨(dT U_L_open 13 rfl), rfl⟩, by decide, ?_⟩
    refine x_ldc2 C_L_60 (dT U_L_open 14 rfl) ?_
    refine x_lreturn (dT U_L_open 15 rfl) rfl ?_
    exact e3 k_1 k_2 k_3
  · refine xRetH_some ?_
    have hz9 : xr (MM σ.p (cm σ.p (σ.rw mask.toNat) blind)) := by
      exact xr_MM v.p
    refine x_i2l (dT U_L_open 5 rfl) hz9 ?_
    refine x_lreturn (dT U_L_open 6 rfl) rfl ?_
    exact k k_1 k_2 k_3 _ rfl hz9 h2 fc w2 (IV_open v k_1 k_2 k_3)

set_option maxRecDepth 20000 in
set_option maxHeartbeats 1000000 in
theorem S_L_say {G : xG} {d rc rs : Nat} {ex : Bool} {h : xH} {Q : xQ} {σ : St} {run a x : Int} (w : CW σ h) (v : INV σ) (h_run : xr run) (h_a : xr a) (h_x : xr x) (e1 : ¬ (inb run 4) → Q (.inl (some (vl (-4000000000000000001)))) false h) (e2 : (inb run 4) → ¬ (¬ exI σ.p a = -1 ∧ inb x σ.p) → Q (.inl (some (vl (-4000000000000000002)))) false h) (e3 : (inb run 4) → (¬ exI σ.p a = -1 ∧ inb x σ.p) → ¬ ((σ.R run.toNat).st = 1) → Q (.inl (some (vl (-4000000000000000003)))) false h) (k : (inb run 4) → (¬ exI σ.p a = -1 ∧ inb x σ.p) → ((σ.R run.toNat).st = 1) → ∀ z9 : Int, z9 = (a) → xr z9 → ∀ h2, FC h h2 → CW ((σ.sRun run.toNat (rSay (σ.R run.toNat) (exI σ.p a) x))) h2 → INV ((σ.sRun run.toNat (rSay (σ.R run.toNat) (exI σ.p a) x))) → Q (.inl (some (vl z9))) ex h2) : X G m_L_say (d + 8) (rc + 4) (rs + 24) ex 0 (xe m_L_say.2.2.1 [.ref 3, vi run, vi a, vi x]) [] h Q := by
  show X G m_L_say _ _ _ _ 0 [some (.ref 3), some (vi run), some (vi a), some (vi x), none] [] h Q
  have hp := PRb v.p
  have hq := gq_b v.p
  refine x_aload_n (dT U_L_say 0 rfl) rfl ?_
  refine x_iload_n (dT U_L_say 1 rfl) rfl ?_
  refine x_iload_n (dT U_L_say 2 rfl) rfl ?_
  refine x_iload_n (dT U_L_say 3 rfl) rfl ?_
  refine x_invokevirtualH (rc' := rc) (rs' := rs) (rc2 := 0 + 4) (rs2 := 0 + 24) (As := [_, _, _]) (st := _) M_X10_say K_L_104 (dT U_L_say 4 rfl) rfl (by decide) rfl rfl w.c3 (Nat.le_of_ble_eq_true rfl) (by decide) rfl (Nat.le_of_ble_eq_true rfl) rfl (by decide) (Nat.le_of_ble_eq_true rfl) (Nat.add_comm _ _ ▸ rfl) (Nat.add_comm _ _ ▸ rfl) ?_
  refine S_X10_say w v h_run h_a h_x (fun k_1 => ?_) (fun k_1 k_2 => ?_) (fun k_1 k_2 k_3 => ?_) (fun k_1 k_2 k_3 h2 fc w2 => ?_)
  · refine xRetH_thr ?_
    refine ⟨[], (⟨0, 8, 9, 31⟩ : ExceptionTableEntry), [(⟨0, 8, 15, 17⟩ : ExceptionTableEntry), (⟨0, 8, 21, 53⟩ : ExceptionTableEntry)], rfl, fun z hz => absurd hz List.not_mem_nil, rfl, by decide, W_L_31, 4, 2, Or.inr ⟨(dT U_L_say 7 rfl), rfl⟩, by decide, ?_⟩
    refine x_ldc2 C_L_21 (dT U_L_say 8 rfl) ?_
    refine x_lreturn (dT U_L_say 9 rfl) rfl ?_
    exact e1 k_1
  · refine xRetH_thr ?_
    refine ⟨[(⟨0, 8, 9, 31⟩ : ExceptionTableEntry)], (⟨0, 8, 15, 17⟩ : ExceptionTableEntry), [(⟨0, 8, 21, 53⟩ : ExceptionTableEntry)], rfl, fun z hz => by
        simp only [List.mem_cons, List.not_mem_nil, or_false] at hz
        subst hz
        exact ⟨by decide, "java/lang/IndexOutOfBoundsException", by decide, by decide, W_L_31⟩, rfl, by decide, W_L_17, 4, 2, Or.inr ⟨(dT U_L_say 10 rfl), rfl⟩, by decide, ?_⟩
    refine x_ldc2 C_L_43 (dT U_L_say 11 rfl) ?_
    refine x_lreturn (dT U_L_say 12 rfl) rfl ?_
    exact e2 k_1 k_2
  · refine xRetH_thr ?_
    refine ⟨[(⟨0, 8, 9, 31⟩ : ExceptionTableEntry), (⟨0, 8, 15, 17⟩ : ExceptionTableEntry)], (⟨0, 8, 21, 53⟩ : ExceptionTableEntry), [], rfl, fun z hz => by
        simp only [List.mem_cons, List.not_mem_nil, or_false] at hz
        rcases hz with rfl | rfl
        · exact ⟨by decide, "java/lang/IndexOutOfBoundsException", by decide, by decide, W_L_31⟩
        · exact ⟨by decide, "java/lang/IllegalArgumentException", by decide, by decide, W_L_17⟩, rfl, by decide, W_L_53, 4, 2, Or.inr ⟨(dT U_L_say 13 rfl), rfl⟩, by decide, ?_⟩
    refine x_ldc2 C_L_60 (dT U_L_say 14 rfl) ?_
    refine x_lreturn (dT U_L_say 15 rfl) rfl ?_
    exact e3 k_1 k_2 k_3
  · refine xRetH_some ?_
    have hz9 : xr (a) := by
      exact h_a
    refine x_i2l (dT U_L_say 5 rfl) hz9 ?_
    refine x_lreturn (dT U_L_say 6 rfl) rfl ?_
    exact k k_1 k_2 k_3 _ rfl hz9 h2 fc w2 (IV_say v k_1 k_2 k_3)

set_option maxRecDepth 20000 in
set_option maxHeartbeats 1000000 in
theorem S_L_dare {G : xG} {d rc rs : Nat} {ex : Bool} {h : xH} {Q : xQ} {σ : St} {run c : Int} (w : CW σ h) (v : INV σ) (h_run : xr run) (h_c : xr c) (e1 : ¬ (inb run 4) → Q (.inl (some (vl (-4000000000000000001)))) false h) (e2 : (inb run 4) → ¬ (inb c σ.p) → Q (.inl (some (vl (-4000000000000000002)))) false h) (e3 : (inb run 4) → (inb c σ.p) → ¬ ((σ.R run.toNat).st = 2) → Q (.inl (some (vl (-4000000000000000003)))) false h) (k : (inb run 4) → (inb c σ.p) → ((σ.R run.toNat).st = 2) → ∀ z9 : Int, z9 = (c) → xr z9 → ∀ h2, FC h h2 → CW ((σ.sRun run.toNat (rDare (σ.R run.toNat) c))) h2 → INV ((σ.sRun run.toNat (rDare (σ.R run.toNat) c))) → Q (.inl (some (vl z9))) ex h2) : X G m_L_dare (d + 8) (rc + 3) (rs + 18) ex 0 (xe m_L_dare.2.2.1 [.ref 3, vi run, vi c]) [] h Q := by
  show X G m_L_dare _ _ _ _ 0 [some (.ref 3), some (vi run), some (vi c), none] [] h Q
  have hp := PRb v.p
  have hq := gq_b v.p
  refine x_aload_n (dT U_L_dare 0 rfl) rfl ?_
  refine x_iload_n (dT U_L_dare 1 rfl) rfl ?_
  refine x_iload_n (dT U_L_dare 2 rfl) rfl ?_
  refine x_invokevirtualH (rc' := rc) (rs' := rs) (rc2 := 0 + 3) (rs2 := 0 + 18) (As := [_, _]) (st := _) M_X10_dare K_L_107 (dT U_L_dare 3 rfl) rfl (by decide) rfl rfl w.c3 (Nat.le_of_ble_eq_true rfl) (by decide) rfl (Nat.le_of_ble_eq_true rfl) rfl (by decide) (Nat.le_of_ble_eq_true rfl) (Nat.add_comm _ _ ▸ rfl) (Nat.add_comm _ _ ▸ rfl) ?_
  refine S_X10_dare w v h_run h_c (fun k_1 => ?_) (fun k_1 k_2 => ?_) (fun k_1 k_2 k_3 => ?_) (fun k_1 k_2 k_3 h2 fc w2 => ?_)
  · refine xRetH_thr ?_
    refine ⟨[], (⟨0, 7, 8, 31⟩ : ExceptionTableEntry), [(⟨0, 7, 13, 17⟩ : ExceptionTableEntry), (⟨0, 7, 18, 53⟩ : ExceptionTableEntry)], rfl, fun z hz => absurd hz List.not_mem_nil, rfl, by decide, W_L_31, 3, 1, Or.inl ⟨3, (dT U_L_dare 6 rfl), rfl, rfl⟩, by decide, ?_⟩
    refine x_ldc2 C_L_21 (dT U_L_dare 7 rfl) ?_
    refine x_lreturn (dT U_L_dare 8 rfl) rfl ?_
    exact e1 k_1
  · refine xRetH_thr ?_
    refine ⟨[(⟨0, 7, 8, 31⟩ : ExceptionTableEntry)], (⟨0, 7, 13, 17⟩ : ExceptionTableEntry), [(⟨0, 7, 18, 53⟩ : ExceptionTableEntry)], rfl, fun z hz => by
        simp only [List.mem_cons, List.not_mem_nil, or_false] at hz
        subst hz
        exact ⟨by decide, "java/lang/IndexOutOfBoundsException", by decide, by decide, W_L_31⟩, rfl, by decide, W_L_17, 3, 1, Or.inl ⟨3, (dT U_L_dare 9 rfl), rfl, rfl⟩, by decide, ?_⟩
    refine x_ldc2 C_L_43 (dT U_L_dare 10 rfl) ?_
    refine x_lreturn (dT U_L_dare 11 rfl) rfl ?_
    exact e2 k_1 k_2
  · refine xRetH_thr ?_
    refine ⟨[(⟨0, 7, 8, 31⟩ : ExceptionTableEntry), (⟨0, 7, 13, 17⟩ : ExceptionTableEntry)], (⟨0, 7, 18, 53⟩ : ExceptionTableEntry), [], rfl, fun z hz => by
        simp only [List.mem_cons, List.not_mem_nil, or_false] at hz
        rcases hz with rfl | rfl
        · exact ⟨by decide, "java/lang/IndexOutOfBoundsException", by decide, by decide, W_L_31⟩
        · exact ⟨by decide, "java/lang/IllegalArgumentException", by decide, by decide, W_L_17⟩, rfl, by decide, W_L_53, 3, 1, Or.inl ⟨3, (dT U_L_dare 12 rfl), rfl, rfl⟩, by decide, ?_⟩
    refine x_ldc2 C_L_60 (dT U_L_dare 13 rfl) ?_
    refine x_lreturn (dT U_L_dare 14 rfl) rfl ?_
    exact e3 k_1 k_2 k_3
  · refine xRetH_some ?_
    have hz9 : xr (c) := by
      exact h_c
    refine x_i2l (dT U_L_dare 4 rfl) hz9 ?_
    refine x_lreturn (dT U_L_dare 5 rfl) rfl ?_
    exact k k_1 k_2 k_3 _ rfl hz9 h2 fc w2 (IV_dare v k_1 k_2 k_3)

set_option maxRecDepth 20000 in
set_option maxHeartbeats 1000000 in
theorem S_L_ask {G : xG} {d rc rs : Nat} {ex : Bool} {h : xH} {Q : xQ} {σ : St} {run : Int} (w : CW σ h) (v : INV σ) (h_run : xr run) (e1 : ¬ (inb run 4) → Q (.inl (some (vl (-4000000000000000001)))) false h) (e2 : (inb run 4) → ¬ ((σ.R run.toNat).st = 2) → Q (.inl (some (vl (-4000000000000000002)))) false h) (k : (inb run 4) → ((σ.R run.toNat).st = 2) → ∀ z9 : Int, z9 = ((trs σ.p (σ.R run.toNat) % (σ.p : Int))) → xr z9 → ∀ h2, FC h h2 → CW ((σ.sRun run.toNat (rDare (σ.R run.toNat) (trs σ.p (σ.R run.toNat) % (σ.p : Int))))) h2 → INV ((σ.sRun run.toNat (rDare (σ.R run.toNat) (trs σ.p (σ.R run.toNat) % (σ.p : Int))))) → Q (.inl (some (vl z9))) ex h2) : X G m_L_ask (d + 8) (rc + 2) (rs + 12) ex 0 (xe m_L_ask.2.2.1 [.ref 3, vi run]) [] h Q := by
  show X G m_L_ask _ _ _ _ 0 [some (.ref 3), some (vi run), none] [] h Q
  have hp := PRb v.p
  have hq := gq_b v.p
  refine x_aload_n (dT U_L_ask 0 rfl) rfl ?_
  refine x_iload_n (dT U_L_ask 1 rfl) rfl ?_
  refine x_invokevirtualH (rc' := rc) (rs' := rs) (rc2 := 0 + 2) (rs2 := 0 + 12) (As := [_]) (st := _) M_X10_ask K_L_110 (dT U_L_ask 2 rfl) rfl (by decide) rfl rfl w.c3 (Nat.le_of_ble_eq_true rfl) (by decide) rfl (Nat.le_of_ble_eq_true rfl) rfl (by decide) (Nat.le_of_ble_eq_true rfl) (Nat.add_comm _ _ ▸ rfl) (Nat.add_comm _ _ ▸ rfl) ?_
  refine S_X10_ask w v h_run (fun k_1 => ?_) (fun k_1 k_2 => ?_) (fun k_1 k_2 h2 fc w2 => ?_)
  · refine xRetH_thr ?_
    refine ⟨[], (⟨0, 6, 7, 31⟩ : ExceptionTableEntry), [(⟨0, 6, 12, 53⟩ : ExceptionTableEntry)], rfl, fun z hz => absurd hz List.not_mem_nil, rfl, by decide, W_L_31, 2, 1, Or.inl ⟨2, (dT U_L_ask 5 rfl), rfl, rfl⟩, by decide, ?_⟩
    refine x_ldc2 C_L_21 (dT U_L_ask 6 rfl) ?_
    refine x_lreturn (dT U_L_ask 7 rfl) rfl ?_
    exact e1 k_1
  · refine xRetH_thr ?_
    refine ⟨[(⟨0, 6, 7, 31⟩ : ExceptionTableEntry)], (⟨0, 6, 12, 53⟩ : ExceptionTableEntry), [], rfl, fun z hz => by
        simp only [List.mem_cons, List.not_mem_nil, or_false] at hz
        subst hz
        exact ⟨by decide, "java/lang/IndexOutOfBoundsException", by decide, by decide, W_L_31⟩, rfl, by decide, W_L_53, 2, 1, Or.inl ⟨2, (dT U_L_ask 8 rfl), rfl, rfl⟩, by decide, ?_⟩
    refine x_ldc2 C_L_43 (dT U_L_ask 9 rfl) ?_
    refine x_lreturn (dT U_L_ask 10 rfl) rfl ?_
    exact e2 k_1 k_2
  · refine xRetH_some ?_
    have hz9 : xr ((trs σ.p (σ.R run.toNat) % (σ.p : Int))) := by
      exact xr_md ⟨by omega, by omega⟩
    refine x_i2l (dT U_L_ask 3 rfl) hz9 ?_
    refine x_lreturn (dT U_L_ask 4 rfl) rfl ?_
    exact k k_1 k_2 _ rfl hz9 h2 fc w2 (IV_ask v k_1 k_2)

set_option maxRecDepth 20000 in
set_option maxHeartbeats 1000000 in
theorem S_L_reply {G : xG} {d rc rs : Nat} {ex : Bool} {h : xH} {Q : xQ} {σ : St} {run secret blind : Int} (w : CW σ h) (v : INV σ) (h_run : xr run) (h_secret : xr secret) (h_blind : xr blind) (e1 : ¬ (inb run 4 ∧ inb secret 8) → Q (.inl (some (vl (-4000000000000000001)))) false h) (e2 : (inb run 4 ∧ inb secret 8) → ¬ (inb blind σ.p) → Q (.inl (some (vl (-4000000000000000002)))) false h) (e3 : (inb run 4 ∧ inb secret 8) → (inb blind σ.p) → ¬ ((σ.R run.toNat).mk = true ∧ (σ.R run.toNat).st = 3) → Q (.inl (some (vl (-4000000000000000003)))) false h) (k : (inb run 4 ∧ inb secret 8) → (inb blind σ.p) → ((σ.R run.toNat).mk = true ∧ (σ.R run.toNat).st = 3) → ∀ z9 : Int, z9 = (((σ.R run.toNat).mb + (σ.R run.toNat).c * blind) % (σ.p : Int)) → xr z9 → ∀ h2, FC h h2 → CW ((σ.sRun run.toNat (rReply σ.p (σ.R run.toNat) (σ.rw secret.toNat) blind (decide (suit σ.p (σ.R run.toNat) (σ.rw secret.toNat) blind))))) h2 → INV ((σ.sRun run.toNat (rReply σ.p (σ.R run.toNat) (σ.rw secret.toNat) blind (decide (suit σ.p (σ.R run.toNat) (σ.rw secret.toNat) blind))))) → Q (.inl (some (vl z9))) ex h2) : X G m_L_reply (d + 8) (rc + 5) (rs + 30) ex 0 (xe m_L_reply.2.2.1 [.ref 3, vi run, vi secret, vi blind]) [] h Q := by
  show X G m_L_reply _ _ _ _ 0 [some (.ref 3), some (vi run), some (vi secret), some (vi blind), none] [] h Q
  have hp := PRb v.p
  have hq := gq_b v.p
  refine x_aload_n (dT U_L_reply 0 rfl) rfl ?_
  refine x_iload_n (dT U_L_reply 1 rfl) rfl ?_
  refine x_iload_n (dT U_L_reply 2 rfl) rfl ?_
  refine x_iload_n (dT U_L_reply 3 rfl) rfl ?_
  refine x_invokevirtualH (rc' := rc) (rs' := rs) (rc2 := 0 + 5) (rs2 := 0 + 30) (As := [_, _, _]) (st := _) M_X10_reply K_L_113 (dT U_L_reply 4 rfl) rfl (by decide) rfl rfl w.c3 (Nat.le_of_ble_eq_true rfl) (by decide) rfl (Nat.le_of_ble_eq_true rfl) rfl (by decide) (Nat.le_of_ble_eq_true rfl) (Nat.add_comm _ _ ▸ rfl) (Nat.add_comm _ _ ▸ rfl) ?_
  refine S_X10_reply w v h_run h_secret h_blind (fun k_1 => ?_) (fun k_1 k_2 => ?_) (fun k_1 k_2 k_3 => ?_) (fun k_1 k_2 k_3 h2 fc w2 => ?_)
  · refine xRetH_thr ?_
    refine ⟨[], (⟨0, 8, 9, 31⟩ : ExceptionTableEntry), [(⟨0, 8, 15, 17⟩ : ExceptionTableEntry), (⟨0, 8, 21, 53⟩ : ExceptionTableEntry)], rfl, fun z hz => absurd hz List.not_mem_nil, rfl, by decide, W_L_31, 4, 2, Or.inr ⟨(dT U_L_reply 7 rfl), rfl⟩, by decide, ?_⟩
    refine x_ldc2 C_L_21 (dT U_L_reply 8 rfl) ?_
    refine x_lreturn (dT U_L_reply 9 rfl) rfl ?_
    exact e1 k_1
  · refine xRetH_thr ?_
    refine ⟨[(⟨0, 8, 9, 31⟩ : ExceptionTableEntry)], (⟨0, 8, 15, 17⟩ : ExceptionTableEntry), [(⟨0, 8, 21, 53⟩ : ExceptionTableEntry)], rfl, fun z hz => by
        simp only [List.mem_cons, List.not_mem_nil, or_false] at hz
        subst hz
        exact ⟨by decide, "java/lang/IndexOutOfBoundsException", by decide, by decide, W_L_31⟩, rfl, by decide, W_L_17, 4, 2, Or.inr ⟨(dT U_L_reply 10 rfl), rfl⟩, by decide, ?_⟩
    refine x_ldc2 C_L_43 (dT U_L_reply 11 rfl) ?_
    refine x_lreturn (dT U_L_reply 12 rfl) rfl ?_
    exact e2 k_1 k_2
  · refine xRetH_thr ?_
    refine ⟨[(⟨0, 8, 9, 31⟩ : ExceptionTableEntry), (⟨0, 8, 15, 17⟩ : ExceptionTableEntry)], (⟨0, 8, 21, 53⟩ : ExceptionTableEntry), [], rfl, fun z hz => by
        simp only [List.mem_cons, List.not_mem_nil, or_false] at hz
        rcases hz with rfl | rfl
        · exact ⟨by decide, "java/lang/IndexOutOfBoundsException", by decide, by decide, W_L_31⟩
        · exact ⟨by decide, "java/lang/IllegalArgumentException", by decide, by decide, W_L_17⟩, rfl, by decide, W_L_53, 4, 2, Or.inr ⟨(dT U_L_reply 13 rfl), rfl⟩, by decide, ?_⟩
    refine x_ldc2 C_L_60 (dT U_L_reply 14 rfl) ?_
    refine x_lreturn (dT U_L_reply 15 rfl) rfl ?_
    exact e3 k_1 k_2 k_3
  · refine xRetH_some ?_
    have hz9 : xr (((σ.R run.toNat).mb + (σ.R run.toNat).c * blind) % (σ.p : Int)) := by
      exact xr_md ⟨by omega, by omega⟩
    refine x_i2l (dT U_L_reply 5 rfl) hz9 ?_
    refine x_lreturn (dT U_L_reply 6 rfl) rfl ?_
    exact k k_1 k_2 k_3 _ rfl hz9 h2 fc w2 (IV_reply v k_1 k_2 k_3)

set_option maxRecDepth 20000 in
set_option maxHeartbeats 1000000 in
theorem S_L_tell {G : xG} {d rc rs : Nat} {ex : Bool} {h : xH} {Q : xQ} {σ : St} {run answer t : Int} (w : CW σ h) (v : INV σ) (h_run : xr run) (h_answer : xr answer) (h_t : xr t) (e1 : ¬ (inb run 4 ∧ inb answer 8) → Q (.inl (some (vl (-4000000000000000001)))) false h) (e2 : (inb run 4 ∧ inb answer 8) → ¬ (inb t σ.p) → Q (.inl (some (vl (-4000000000000000002)))) false h) (e3 : (inb run 4 ∧ inb answer 8) → (inb t σ.p) → ¬ ((σ.R run.toNat).st = 3) → Q (.inl (some (vl (-4000000000000000003)))) false h) (k : (inb run 4 ∧ inb answer 8) → (inb t σ.p) → ((σ.R run.toNat).st = 3) → ∀ z9 : Int, z9 = (t) → xr z9 → ∀ h2, FC h h2 → CW ((σ.sRun run.toNat (rTell (σ.R run.toNat) (σ.rw answer.toNat) t))) h2 → INV ((σ.sRun run.toNat (rTell (σ.R run.toNat) (σ.rw answer.toNat) t))) → Q (.inl (some (vl z9))) ex h2) : X G m_L_tell (d + 8) (rc + 4) (rs + 24) ex 0 (xe m_L_tell.2.2.1 [.ref 3, vi run, vi answer, vi t]) [] h Q := by
  show X G m_L_tell _ _ _ _ 0 [some (.ref 3), some (vi run), some (vi answer), some (vi t), none] [] h Q
  have hp := PRb v.p
  have hq := gq_b v.p
  refine x_aload_n (dT U_L_tell 0 rfl) rfl ?_
  refine x_iload_n (dT U_L_tell 1 rfl) rfl ?_
  refine x_iload_n (dT U_L_tell 2 rfl) rfl ?_
  refine x_iload_n (dT U_L_tell 3 rfl) rfl ?_
  refine x_invokevirtualH (rc' := rc) (rs' := rs) (rc2 := 0 + 4) (rs2 := 0 + 24) (As := [_, _, _]) (st := _) M_X10_tell K_L_116 (dT U_L_tell 4 rfl) rfl (by decide) rfl rfl w.c3 (Nat.le_of_ble_eq_true rfl) (by decide) rfl (Nat.le_of_ble_eq_true rfl) rfl (by decide) (Nat.le_of_ble_eq_true rfl) (Nat.add_comm _ _ ▸ rfl) (Nat.add_comm _ _ ▸ rfl) ?_
  refine S_X10_tell w v h_run h_answer h_t (fun k_1 => ?_) (fun k_1 k_2 => ?_) (fun k_1 k_2 k_3 => ?_) (fun k_1 k_2 k_3 h2 fc w2 => ?_)
  · refine xRetH_thr ?_
    refine ⟨[], (⟨0, 8, 9, 31⟩ : ExceptionTableEntry), [(⟨0, 8, 15, 17⟩ : ExceptionTableEntry), (⟨0, 8, 21, 53⟩ : ExceptionTableEntry)], rfl, fun z hz => absurd hz List.not_mem_nil, rfl, by decide, W_L_31, 4, 2, Or.inr ⟨(dT U_L_tell 7 rfl), rfl⟩, by decide, ?_⟩
    refine x_ldc2 C_L_21 (dT U_L_tell 8 rfl) ?_
    refine x_lreturn (dT U_L_tell 9 rfl) rfl ?_
    exact e1 k_1
  · refine xRetH_thr ?_
    refine ⟨[(⟨0, 8, 9, 31⟩ : ExceptionTableEntry)], (⟨0, 8, 15, 17⟩ : ExceptionTableEntry), [(⟨0, 8, 21, 53⟩ : ExceptionTableEntry)], rfl, fun z hz => by
        simp only [List.mem_cons, List.not_mem_nil, or_false] at hz
        subst hz
        exact ⟨by decide, "java/lang/IndexOutOfBoundsException", by decide, by decide, W_L_31⟩, rfl, by decide, W_L_17, 4, 2, Or.inr ⟨(dT U_L_tell 10 rfl), rfl⟩, by decide, ?_⟩
    refine x_ldc2 C_L_43 (dT U_L_tell 11 rfl) ?_
    refine x_lreturn (dT U_L_tell 12 rfl) rfl ?_
    exact e2 k_1 k_2
  · refine xRetH_thr ?_
    refine ⟨[(⟨0, 8, 9, 31⟩ : ExceptionTableEntry), (⟨0, 8, 15, 17⟩ : ExceptionTableEntry)], (⟨0, 8, 21, 53⟩ : ExceptionTableEntry), [], rfl, fun z hz => by
        simp only [List.mem_cons, List.not_mem_nil, or_false] at hz
        rcases hz with rfl | rfl
        · exact ⟨by decide, "java/lang/IndexOutOfBoundsException", by decide, by decide, W_L_31⟩
        · exact ⟨by decide, "java/lang/IllegalArgumentException", by decide, by decide, W_L_17⟩, rfl, by decide, W_L_53, 4, 2, Or.inr ⟨(dT U_L_tell 13 rfl), rfl⟩, by decide, ?_⟩
    refine x_ldc2 C_L_60 (dT U_L_tell 14 rfl) ?_
    refine x_lreturn (dT U_L_tell 15 rfl) rfl ?_
    exact e3 k_1 k_2 k_3
  · refine xRetH_some ?_
    have hz9 : xr (t) := by
      exact h_t
    refine x_i2l (dT U_L_tell 5 rfl) hz9 ?_
    refine x_lreturn (dT U_L_tell 6 rfl) rfl ?_
    exact k k_1 k_2 k_3 _ rfl hz9 h2 fc w2 (IV_tell v k_1 k_2 k_3)

set_option maxRecDepth 20000 in
set_option maxHeartbeats 1000000 in
theorem S_L_isAccepted {G : xG} {d rc rs : Nat} {ex : Bool} {h : xH} {Q : xQ} {σ : St} {run : Int} (w : CW σ h) (v : INV σ) (h_run : xr run) (e1 : ¬ (inb run 4) → Q (.inl (some (vl (-4000000000000000001)))) false h) (k1 : (inb run 4) → (acc σ.p (σ.R run.toNat)) → Q (.inl (some (vl 1))) ex h) (k0 : (inb run 4) → (¬ acc σ.p (σ.R run.toNat)) → Q (.inl (some (vl 0))) ex h) : X G m_L_isAccepted (d + 8) (rc + 1) (rs + 6) ex 0 (xe m_L_isAccepted.2.2.1 [.ref 3, vi run]) [] h Q := by
  show X G m_L_isAccepted _ _ _ _ 0 [some (.ref 3), some (vi run), none] [] h Q
  have hp := PRb v.p
  have hq := gq_b v.p
  refine x_aload_n (dT U_L_isAccepted 0 rfl) rfl ?_
  refine x_iload_n (dT U_L_isAccepted 1 rfl) rfl ?_
  refine x_invokevirtualH (rc' := rc) (rs' := rs) (rc2 := 0 + 1) (rs2 := 0 + 6) (As := [_]) (st := _) M_X10_isAccepted K_L_119 (dT U_L_isAccepted 2 rfl) rfl (by decide) rfl rfl w.c3 (Nat.le_of_ble_eq_true rfl) (by decide) rfl (Nat.le_of_ble_eq_true rfl) rfl (by decide) (Nat.le_of_ble_eq_true rfl) (Nat.add_comm _ _ ▸ rfl) (Nat.add_comm _ _ ▸ rfl) ?_
  refine S_X10_isAccepted w v h_run (fun k_1 => ?_) (fun k_1 k_2 => ?_) (fun k_1 k_2 => ?_)
  · refine xRetH_thr ?_
    refine ⟨[], (⟨0, 13, 14, 31⟩ : ExceptionTableEntry), [], rfl, fun z hz => absurd hz List.not_mem_nil, rfl, by decide, W_L_31, 2, 1, Or.inl ⟨2, (dT U_L_isAccepted 8 rfl), rfl, rfl⟩, by decide, ?_⟩
    refine x_ldc2 C_L_21 (dT U_L_isAccepted 9 rfl) ?_
    refine x_lreturn (dT U_L_isAccepted 10 rfl) rfl ?_
    exact e1 k_1
  · refine xRetH_some ?_
    refine x_if_eq (tgt := 12) (dT U_L_isAccepted 3 rfl) (by decide) (by unfold xr; omega) (fun z8 => ?_) (fun z8 => ?_)
    · exact absurd z8 (by decide)
    refine x_lconst (z := 1) (dT U_L_isAccepted 4 rfl) rfl ?_
    refine x_goto (tgt := 13) (dT U_L_isAccepted 5 rfl) (by decide) ?_
    refine x_lreturn (dT U_L_isAccepted 7 rfl) rfl ?_
    exact k1 k_1 k_2
  · refine xRetH_some ?_
    refine x_if_eq (tgt := 12) (dT U_L_isAccepted 3 rfl) (by decide) (by unfold xr; omega) (fun z8 => ?_) (fun z8 => ?_)
    rotate_left
    · exact absurd z8 (by decide)
    refine x_lconst (z := 0) (dT U_L_isAccepted 6 rfl) rfl ?_
    refine x_lreturn (dT U_L_isAccepted 7 rfl) rfl ?_
    exact k0 k_1 k_2

set_option maxRecDepth 20000 in
set_option maxHeartbeats 1000000 in
theorem S_L_simulate {G : xG} {d rc rs : Nat} {ex : Bool} {h : xH} {Q : xQ} {σ : St} {run c answer t : Int} (w : CW σ h) (v : INV σ) (h_run : xr run) (h_c : xr c) (h_answer : xr answer) (h_t : xr t) (e1 : ¬ (inb run 4 ∧ inb answer 8) → Q (.inl (some (vl (-4000000000000000001)))) false h) (e2 : (inb run 4 ∧ inb answer 8) → ¬ (inb c σ.p ∧ inb t σ.p) → Q (.inl (some (vl (-4000000000000000002)))) false h) (e3 : (inb run 4 ∧ inb answer 8) → (inb c σ.p ∧ inb t σ.p) → ¬ ((σ.R run.toNat).st = 1) → Q (.inl (some (vl (-4000000000000000003)))) false h) (k : (inb run 4 ∧ inb answer 8) → (inb c σ.p ∧ inb t σ.p) → ((σ.R run.toNat).st = 1) → ∀ z9 : Int, z9 = (MM σ.p ((cm σ.p (σ.rw answer.toNat) t - c * (σ.R run.toNat).e) % (σ.p : Int))) → xr z9 → ∀ h2, FC h h2 → CW ((σ.sRun run.toNat (rSim σ.p (σ.R run.toNat) c (σ.rw answer.toNat) t))) h2 → INV ((σ.sRun run.toNat (rSim σ.p (σ.R run.toNat) c (σ.rw answer.toNat) t))) → Q (.inl (some (vl z9))) ex h2) : X G m_L_simulate (d + 8) (rc + 5) (rs + 30) ex 0 (xe m_L_simulate.2.2.1 [.ref 3, vi run, vi c, vi answer, vi t]) [] h Q := by
  show X G m_L_simulate _ _ _ _ 0 [some (.ref 3), some (vi run), some (vi c), some (vi answer), some (vi t), none] [] h Q
  have hp := PRb v.p
  have hq := gq_b v.p
  refine x_aload_n (dT U_L_simulate 0 rfl) rfl ?_
  refine x_iload_n (dT U_L_simulate 1 rfl) rfl ?_
  refine x_iload_n (dT U_L_simulate 2 rfl) rfl ?_
  refine x_iload_n (dT U_L_simulate 3 rfl) rfl ?_
  refine x_iload (dT U_L_simulate 4 rfl) rfl ?_
  refine x_invokevirtualH (rc' := rc) (rs' := rs) (rc2 := 0 + 5) (rs2 := 0 + 30) (As := [_, _, _, _]) (st := _) M_X10_simulate K_L_122 (dT U_L_simulate 5 rfl) rfl (by decide) rfl rfl w.c3 (Nat.le_of_ble_eq_true rfl) (by decide) rfl (Nat.le_of_ble_eq_true rfl) rfl (by decide) (Nat.le_of_ble_eq_true rfl) (Nat.add_comm _ _ ▸ rfl) (Nat.add_comm _ _ ▸ rfl) ?_
  refine S_X10_simulate w v h_run h_c h_answer h_t (fun k_1 => ?_) (fun k_1 k_2 => ?_) (fun k_1 k_2 k_3 => ?_) (fun k_1 k_2 k_3 h2 fc w2 => ?_)
  · refine xRetH_thr ?_
    refine ⟨[], (⟨0, 10, 11, 31⟩ : ExceptionTableEntry), [(⟨0, 10, 17, 17⟩ : ExceptionTableEntry), (⟨0, 10, 23, 53⟩ : ExceptionTableEntry)], rfl, fun z hz => absurd hz List.not_mem_nil, rfl, by decide, W_L_31, 5, 2, Or.inr ⟨(dT U_L_simulate 8 rfl), rfl⟩, by decide, ?_⟩
    refine x_ldc2 C_L_21 (dT U_L_simulate 9 rfl) ?_
    refine x_lreturn (dT U_L_simulate 10 rfl) rfl ?_
    exact e1 k_1
  · refine xRetH_thr ?_
    refine ⟨[(⟨0, 10, 11, 31⟩ : ExceptionTableEntry)], (⟨0, 10, 17, 17⟩ : ExceptionTableEntry), [(⟨0, 10, 23, 53⟩ : ExceptionTableEntry)], rfl, fun z hz => by
        simp only [List.mem_cons, List.not_mem_nil, or_false] at hz
        subst hz
        exact ⟨by decide, "java/lang/IndexOutOfBoundsException", by decide, by decide, W_L_31⟩, rfl, by decide, W_L_17, 5, 2, Or.inr ⟨(dT U_L_simulate 11 rfl), rfl⟩, by decide, ?_⟩
    refine x_ldc2 C_L_43 (dT U_L_simulate 12 rfl) ?_
    refine x_lreturn (dT U_L_simulate 13 rfl) rfl ?_
    exact e2 k_1 k_2
  · refine xRetH_thr ?_
    refine ⟨[(⟨0, 10, 11, 31⟩ : ExceptionTableEntry), (⟨0, 10, 17, 17⟩ : ExceptionTableEntry)], (⟨0, 10, 23, 53⟩ : ExceptionTableEntry), [], rfl, fun z hz => by
        simp only [List.mem_cons, List.not_mem_nil, or_false] at hz
        rcases hz with rfl | rfl
        · exact ⟨by decide, "java/lang/IndexOutOfBoundsException", by decide, by decide, W_L_31⟩
        · exact ⟨by decide, "java/lang/IllegalArgumentException", by decide, by decide, W_L_17⟩, rfl, by decide, W_L_53, 5, 2, Or.inr ⟨(dT U_L_simulate 14 rfl), rfl⟩, by decide, ?_⟩
    refine x_ldc2 C_L_60 (dT U_L_simulate 15 rfl) ?_
    refine x_lreturn (dT U_L_simulate 16 rfl) rfl ?_
    exact e3 k_1 k_2 k_3
  · refine xRetH_some ?_
    have hz9 : xr (MM σ.p ((cm σ.p (σ.rw answer.toNat) t - c * (σ.R run.toNat).e) % (σ.p : Int))) := by
      exact xr_MM v.p
    refine x_i2l (dT U_L_simulate 6 rfl) hz9 ?_
    refine x_lreturn (dT U_L_simulate 7 rfl) rfl ?_
    exact k k_1 k_2 k_3 _ rfl hz9 h2 fc w2 (IV_simulate v k_1 k_2 k_3)

set_option maxRecDepth 20000 in
set_option maxHeartbeats 1000000 in
theorem S_L_extract {G : xG} {d rc rs : Nat} {ex : Bool} {h : xH} {Q : xQ} {σ : St} {run second to : Int} (w : CW σ h) (v : INV σ) (h_run : xr run) (h_second : xr second) (h_to : xr to) (e1 : ¬ (inb run 4 ∧ inb second 4 ∧ inb to 8) → Q (.inl (some (vl (-4000000000000000001)))) false h) (e2 : (inb run 4 ∧ inb second 4 ∧ inb to 8) → ¬ (fork σ.p (σ.R run.toNat) (σ.R second.toNat)) → Q (.inl (some (vl (-4000000000000000002)))) false h) (k : (inb run 4 ∧ inb second 4 ∧ inb to 8) → (fork σ.p (σ.R run.toNat) (σ.R second.toNat)) → ∀ z9 : Int, z9 = ((((σ.R run.toNat).t - (σ.R second.toNat).t) * (iv σ.p (((σ.R run.toNat).c - (σ.R second.toNat).c) % (σ.p : Int)).toNat : Int)) % (σ.p : Int)) → xr z9 → ∀ h2, FC h h2 → CW ((σ.sRow to.toNat (tab (fun t => (((σ.R run.toNat).answer.getD t 0 - (σ.R second.toNat).answer.getD t 0) * (iv σ.p (((σ.R run.toNat).c - (σ.R second.toNat).c) % (σ.p : Int)).toNat : Int)) % (σ.p : Int)) 8))) h2 → INV ((σ.sRow to.toNat (tab (fun t => (((σ.R run.toNat).answer.getD t 0 - (σ.R second.toNat).answer.getD t 0) * (iv σ.p (((σ.R run.toNat).c - (σ.R second.toNat).c) % (σ.p : Int)).toNat : Int)) % (σ.p : Int)) 8))) → Q (.inl (some (vl z9))) ex h2) : X G m_L_extract (d + 8) (rc + 4) (rs + 24) ex 0 (xe m_L_extract.2.2.1 [.ref 3, vi run, vi second, vi to]) [] h Q := by
  show X G m_L_extract _ _ _ _ 0 [some (.ref 3), some (vi run), some (vi second), some (vi to), none] [] h Q
  have hp := PRb v.p
  have hq := gq_b v.p
  refine x_aload_n (dT U_L_extract 0 rfl) rfl ?_
  refine x_iload_n (dT U_L_extract 1 rfl) rfl ?_
  refine x_iload_n (dT U_L_extract 2 rfl) rfl ?_
  refine x_iload_n (dT U_L_extract 3 rfl) rfl ?_
  refine x_invokevirtualH (rc' := rc) (rs' := rs) (rc2 := 0 + 4) (rs2 := 0 + 24) (As := [_, _, _]) (st := _) M_X10_extract K_L_125 (dT U_L_extract 4 rfl) rfl (by decide) rfl rfl w.c3 (Nat.le_of_ble_eq_true rfl) (by decide) rfl (Nat.le_of_ble_eq_true rfl) rfl (by decide) (Nat.le_of_ble_eq_true rfl) (Nat.add_comm _ _ ▸ rfl) (Nat.add_comm _ _ ▸ rfl) ?_
  refine S_X10_extract w v h_run h_second h_to (fun k_1 => ?_) (fun k_1 k_2 => ?_) (fun k_1 k_2 h2 fc w2 => ?_)
  · refine xRetH_thr ?_
    refine ⟨[], (⟨0, 8, 9, 31⟩ : ExceptionTableEntry), [(⟨0, 8, 15, 53⟩ : ExceptionTableEntry)], rfl, fun z hz => absurd hz List.not_mem_nil, rfl, by decide, W_L_31, 4, 2, Or.inr ⟨(dT U_L_extract 7 rfl), rfl⟩, by decide, ?_⟩
    refine x_ldc2 C_L_21 (dT U_L_extract 8 rfl) ?_
    refine x_lreturn (dT U_L_extract 9 rfl) rfl ?_
    exact e1 k_1
  · refine xRetH_thr ?_
    refine ⟨[(⟨0, 8, 9, 31⟩ : ExceptionTableEntry)], (⟨0, 8, 15, 53⟩ : ExceptionTableEntry), [], rfl, fun z hz => by
        simp only [List.mem_cons, List.not_mem_nil, or_false] at hz
        subst hz
        exact ⟨by decide, "java/lang/IndexOutOfBoundsException", by decide, by decide, W_L_31⟩, rfl, by decide, W_L_53, 4, 2, Or.inr ⟨(dT U_L_extract 10 rfl), rfl⟩, by decide, ?_⟩
    refine x_ldc2 C_L_43 (dT U_L_extract 11 rfl) ?_
    refine x_lreturn (dT U_L_extract 12 rfl) rfl ?_
    exact e2 k_1 k_2
  · refine xRetH_some ?_
    have hz9 : xr ((((σ.R run.toNat).t - (σ.R second.toNat).t) * (iv σ.p (((σ.R run.toNat).c - (σ.R second.toNat).c) % (σ.p : Int)).toNat : Int)) % (σ.p : Int)) := by
      exact xr_md ⟨by omega, by omega⟩
    refine x_i2l (dT U_L_extract 5 rfl) hz9 ?_
    refine x_lreturn (dT U_L_extract 6 rfl) rfl ?_
    exact k k_1 k_2 _ rfl hz9 h2 fc w2 (IV_extract v k_1 k_2)

set_option maxRecDepth 20000 in
set_option maxHeartbeats 1000000 in
theorem S_L_maskFor {G : xG} {d rc rs : Nat} {ex : Bool} {h : xH} {Q : xQ} {σ : St} {run secret blind to : Int} (w : CW σ h) (v : INV σ) (h_run : xr run) (h_secret : xr secret) (h_blind : xr blind) (h_to : xr to) (e1 : ¬ (inb run 4 ∧ inb secret 8 ∧ inb to 8) → Q (.inl (some (vl (-4000000000000000001)))) false h) (e2 : (inb run 4 ∧ inb secret 8 ∧ inb to 8) → ¬ (inb blind σ.p) → Q (.inl (some (vl (-4000000000000000002)))) false h) (e3 : (inb run 4 ∧ inb secret 8 ∧ inb to 8) → (inb blind σ.p) → ¬ (acc σ.p (σ.R run.toNat) ∧ suit σ.p (σ.R run.toNat) (σ.rw secret.toNat) blind) → Q (.inl (some (vl (-4000000000000000003)))) false h) (k : (inb run 4 ∧ inb secret 8 ∧ inb to 8) → (inb blind σ.p) → (acc σ.p (σ.R run.toNat) ∧ suit σ.p (σ.R run.toNat) (σ.rw secret.toNat) blind) → ∀ z9 : Int, z9 = (((σ.R run.toNat).t - (σ.R run.toNat).c * blind) % (σ.p : Int)) → xr z9 → ∀ h2, FC h h2 → CW ((σ.sRow to.toNat (tab (fun t => ((σ.R run.toNat).answer.getD t 0 + -(σ.R run.toNat).c * (σ.rw secret.toNat).getD t 0) % (σ.p : Int)) 8))) h2 → INV ((σ.sRow to.toNat (tab (fun t => ((σ.R run.toNat).answer.getD t 0 + -(σ.R run.toNat).c * (σ.rw secret.toNat).getD t 0) % (σ.p : Int)) 8))) → Q (.inl (some (vl z9))) ex h2) : X G m_L_maskFor (d + 8) (rc + 5) (rs + 30) ex 0 (xe m_L_maskFor.2.2.1 [.ref 3, vi run, vi secret, vi blind, vi to]) [] h Q := by
  show X G m_L_maskFor _ _ _ _ 0 [some (.ref 3), some (vi run), some (vi secret), some (vi blind), some (vi to), none] [] h Q
  have hp := PRb v.p
  have hq := gq_b v.p
  refine x_aload_n (dT U_L_maskFor 0 rfl) rfl ?_
  refine x_iload_n (dT U_L_maskFor 1 rfl) rfl ?_
  refine x_iload_n (dT U_L_maskFor 2 rfl) rfl ?_
  refine x_iload_n (dT U_L_maskFor 3 rfl) rfl ?_
  refine x_iload (dT U_L_maskFor 4 rfl) rfl ?_
  refine x_invokevirtualH (rc' := rc) (rs' := rs) (rc2 := 0 + 5) (rs2 := 0 + 30) (As := [_, _, _, _]) (st := _) M_X10_maskFor K_L_128 (dT U_L_maskFor 5 rfl) rfl (by decide) rfl rfl w.c3 (Nat.le_of_ble_eq_true rfl) (by decide) rfl (Nat.le_of_ble_eq_true rfl) rfl (by decide) (Nat.le_of_ble_eq_true rfl) (Nat.add_comm _ _ ▸ rfl) (Nat.add_comm _ _ ▸ rfl) ?_
  refine S_X10_maskFor w v h_run h_secret h_blind h_to (fun k_1 => ?_) (fun k_1 k_2 => ?_) (fun k_1 k_2 k_3 => ?_) (fun k_1 k_2 k_3 h2 fc w2 => ?_)
  · refine xRetH_thr ?_
    refine ⟨[], (⟨0, 10, 11, 31⟩ : ExceptionTableEntry), [(⟨0, 10, 17, 17⟩ : ExceptionTableEntry), (⟨0, 10, 23, 53⟩ : ExceptionTableEntry)], rfl, fun z hz => absurd hz List.not_mem_nil, rfl, by decide, W_L_31, 5, 2, Or.inr ⟨(dT U_L_maskFor 8 rfl), rfl⟩, by decide, ?_⟩
    refine x_ldc2 C_L_21 (dT U_L_maskFor 9 rfl) ?_
    refine x_lreturn (dT U_L_maskFor 10 rfl) rfl ?_
    exact e1 k_1
  · refine xRetH_thr ?_
    refine ⟨[(⟨0, 10, 11, 31⟩ : ExceptionTableEntry)], (⟨0, 10, 17, 17⟩ : ExceptionTableEntry), [(⟨0, 10, 23, 53⟩ : ExceptionTableEntry)], rfl, fun z hz => by
        simp only [List.mem_cons, List.not_mem_nil, or_false] at hz
        subst hz
        exact ⟨by decide, "java/lang/IndexOutOfBoundsException", by decide, by decide, W_L_31⟩, rfl, by decide, W_L_17, 5, 2, Or.inr ⟨(dT U_L_maskFor 11 rfl), rfl⟩, by decide, ?_⟩
    refine x_ldc2 C_L_43 (dT U_L_maskFor 12 rfl) ?_
    refine x_lreturn (dT U_L_maskFor 13 rfl) rfl ?_
    exact e2 k_1 k_2
  · refine xRetH_thr ?_
    refine ⟨[(⟨0, 10, 11, 31⟩ : ExceptionTableEntry), (⟨0, 10, 17, 17⟩ : ExceptionTableEntry)], (⟨0, 10, 23, 53⟩ : ExceptionTableEntry), [], rfl, fun z hz => by
        simp only [List.mem_cons, List.not_mem_nil, or_false] at hz
        rcases hz with rfl | rfl
        · exact ⟨by decide, "java/lang/IndexOutOfBoundsException", by decide, by decide, W_L_31⟩
        · exact ⟨by decide, "java/lang/IllegalArgumentException", by decide, by decide, W_L_17⟩, rfl, by decide, W_L_53, 5, 2, Or.inr ⟨(dT U_L_maskFor 14 rfl), rfl⟩, by decide, ?_⟩
    refine x_ldc2 C_L_60 (dT U_L_maskFor 15 rfl) ?_
    refine x_lreturn (dT U_L_maskFor 16 rfl) rfl ?_
    exact e3 k_1 k_2 k_3
  · refine xRetH_some ?_
    have hz9 : xr (((σ.R run.toNat).t - (σ.R run.toNat).c * blind) % (σ.p : Int)) := by
      exact xr_md ⟨by omega, by omega⟩
    refine x_i2l (dT U_L_maskFor 6 rfl) hz9 ?_
    refine x_lreturn (dT U_L_maskFor 7 rfl) rfl ?_
    exact k k_1 k_2 k_3 _ rfl hz9 h2 fc w2 (IV_maskFor v k_1 k_2 k_3)

set_option maxRecDepth 20000 in
set_option maxHeartbeats 1000000 in
theorem S_L_fits {G : xG} {d rc rs : Nat} {ex : Bool} {h : xH} {Q : xQ} {σ : St} {run secret blind : Int} (w : CW σ h) (v : INV σ) (h_run : xr run) (h_secret : xr secret) (h_blind : xr blind) (e1 : ¬ (inb run 4 ∧ inb secret 8) → Q (.inl (some (vl (-4000000000000000001)))) false h) (e2 : (inb run 4 ∧ inb secret 8) → ¬ (inb blind σ.p) → Q (.inl (some (vl (-4000000000000000002)))) false h) (e3 : (inb run 4 ∧ inb secret 8) → (inb blind σ.p) → ¬ (1 ≤ (σ.R run.toNat).st) → Q (.inl (some (vl (-4000000000000000003)))) false h) (k1 : (inb run 4 ∧ inb secret 8) → (inb blind σ.p) → (1 ≤ (σ.R run.toNat).st) → (suit σ.p (σ.R run.toNat) (σ.rw secret.toNat) blind) → Q (.inl (some (vl 1))) ex h) (k0 : (inb run 4 ∧ inb secret 8) → (inb blind σ.p) → (1 ≤ (σ.R run.toNat).st) → (¬ (suit σ.p (σ.R run.toNat) (σ.rw secret.toNat) blind)) → Q (.inl (some (vl 0))) ex h) : X G m_L_fits (d + 8) (rc + 4) (rs + 24) ex 0 (xe m_L_fits.2.2.1 [.ref 3, vi run, vi secret, vi blind]) [] h Q := by
  show X G m_L_fits _ _ _ _ 0 [some (.ref 3), some (vi run), some (vi secret), some (vi blind), none] [] h Q
  have hp := PRb v.p
  have hq := gq_b v.p
  refine x_aload_n (dT U_L_fits 0 rfl) rfl ?_
  refine x_iload_n (dT U_L_fits 1 rfl) rfl ?_
  refine x_iload_n (dT U_L_fits 2 rfl) rfl ?_
  refine x_iload_n (dT U_L_fits 3 rfl) rfl ?_
  refine x_invokevirtualH (rc' := rc) (rs' := rs) (rc2 := 0 + 4) (rs2 := 0 + 24) (As := [_, _, _]) (st := _) M_X10_fits K_L_131 (dT U_L_fits 4 rfl) rfl (by decide) rfl rfl w.c3 (Nat.le_of_ble_eq_true rfl) (by decide) rfl (Nat.le_of_ble_eq_true rfl) rfl (by decide) (Nat.le_of_ble_eq_true rfl) (Nat.add_comm _ _ ▸ rfl) (Nat.add_comm _ _ ▸ rfl) ?_
  refine S_X10_fits w v h_run h_secret h_blind (fun k_1 => ?_) (fun k_1 k_2 => ?_) (fun k_1 k_2 k_3 => ?_) (fun k_1 k_2 k_3 k_4 => ?_) (fun k_1 k_2 k_3 k_4 => ?_)
  · refine xRetH_thr ?_
    refine ⟨[], (⟨0, 15, 16, 31⟩ : ExceptionTableEntry), [(⟨0, 15, 22, 17⟩ : ExceptionTableEntry), (⟨0, 15, 28, 53⟩ : ExceptionTableEntry)], rfl, fun z hz => absurd hz List.not_mem_nil, rfl, by decide, W_L_31, 4, 2, Or.inr ⟨(dT U_L_fits 10 rfl), rfl⟩, by decide, ?_⟩
    refine x_ldc2 C_L_21 (dT U_L_fits 11 rfl) ?_
    refine x_lreturn (dT U_L_fits 12 rfl) rfl ?_
    exact e1 k_1
  · refine xRetH_thr ?_
    refine ⟨[(⟨0, 15, 16, 31⟩ : ExceptionTableEntry)], (⟨0, 15, 22, 17⟩ : ExceptionTableEntry), [(⟨0, 15, 28, 53⟩ : ExceptionTableEntry)], rfl, fun z hz => by
        simp only [List.mem_cons, List.not_mem_nil, or_false] at hz
        subst hz
        exact ⟨by decide, "java/lang/IndexOutOfBoundsException", by decide, by decide, W_L_31⟩, rfl, by decide, W_L_17, 4, 2, Or.inr ⟨(dT U_L_fits 13 rfl), rfl⟩, by decide, ?_⟩
    refine x_ldc2 C_L_43 (dT U_L_fits 14 rfl) ?_
    refine x_lreturn (dT U_L_fits 15 rfl) rfl ?_
    exact e2 k_1 k_2
  · refine xRetH_thr ?_
    refine ⟨[(⟨0, 15, 16, 31⟩ : ExceptionTableEntry), (⟨0, 15, 22, 17⟩ : ExceptionTableEntry)], (⟨0, 15, 28, 53⟩ : ExceptionTableEntry), [], rfl, fun z hz => by
        simp only [List.mem_cons, List.not_mem_nil, or_false] at hz
        rcases hz with rfl | rfl
        · exact ⟨by decide, "java/lang/IndexOutOfBoundsException", by decide, by decide, W_L_31⟩
        · exact ⟨by decide, "java/lang/IllegalArgumentException", by decide, by decide, W_L_17⟩, rfl, by decide, W_L_53, 4, 2, Or.inr ⟨(dT U_L_fits 16 rfl), rfl⟩, by decide, ?_⟩
    refine x_ldc2 C_L_60 (dT U_L_fits 17 rfl) ?_
    refine x_lreturn (dT U_L_fits 18 rfl) rfl ?_
    exact e3 k_1 k_2 k_3
  · refine xRetH_some ?_
    refine x_if_eq (tgt := 14) (dT U_L_fits 5 rfl) (by decide) (by unfold xr; omega) (fun z8 => ?_) (fun z8 => ?_)
    · exact absurd z8 (by decide)
    refine x_lconst (z := 1) (dT U_L_fits 6 rfl) rfl ?_
    refine x_goto (tgt := 15) (dT U_L_fits 7 rfl) (by decide) ?_
    refine x_lreturn (dT U_L_fits 9 rfl) rfl ?_
    exact k1 k_1 k_2 k_3 k_4
  · refine xRetH_some ?_
    refine x_if_eq (tgt := 14) (dT U_L_fits 5 rfl) (by decide) (by unfold xr; omega) (fun z8 => ?_) (fun z8 => ?_)
    rotate_left
    · exact absurd z8 (by decide)
    refine x_lconst (z := 0) (dT U_L_fits 8 rfl) rfl ?_
    refine x_lreturn (dT U_L_fits 9 rfl) rfl ?_
    exact k0 k_1 k_2 k_3 k_4

set_option maxRecDepth 20000 in
set_option maxHeartbeats 1000000 in
theorem S_L_challenges {G : xG} {d rc rs : Nat} {ex : Bool} {h : xH} {Q : xQ} {σ : St} {run : Int} (w : CW σ h) (v : INV σ) (h_run : xr run) (e1 : ¬ (inb run 4) → Q (.inl (some (vl (-4000000000000000001)))) false h) (e2 : (inb run 4) → ¬ (2 ≤ (σ.R run.toNat).st) → Q (.inl (some (vl (-4000000000000000002)))) false h) (k : (inb run 4) → (2 ≤ (σ.R run.toNat).st) → ∀ z9 : Int, z9 = (answ σ.p (σ.R run.toNat)) → xr z9 → Q (.inl (some (vl z9))) ex h) : X G m_L_challenges (d + 8) (rc + 2) (rs + 12) ex 0 (xe m_L_challenges.2.2.1 [.ref 3, vi run]) [] h Q := by
  show X G m_L_challenges _ _ _ _ 0 [some (.ref 3), some (vi run), none] [] h Q
  have hp := PRb v.p
  have hq := gq_b v.p
  refine x_aload_n (dT U_L_challenges 0 rfl) rfl ?_
  refine x_iload_n (dT U_L_challenges 1 rfl) rfl ?_
  refine x_invokevirtualH (rc' := rc) (rs' := rs) (rc2 := 0 + 2) (rs2 := 0 + 12) (As := [_]) (st := _) M_X10_challenges K_L_134 (dT U_L_challenges 2 rfl) rfl (by decide) rfl rfl w.c3 (Nat.le_of_ble_eq_true rfl) (by decide) rfl (Nat.le_of_ble_eq_true rfl) rfl (by decide) (Nat.le_of_ble_eq_true rfl) (Nat.add_comm _ _ ▸ rfl) (Nat.add_comm _ _ ▸ rfl) ?_
  refine S_X10_challenges w v h_run (fun k_1 => ?_) (fun k_1 k_2 => ?_) (fun k_1 k_2 => ?_)
  · refine xRetH_thr ?_
    refine ⟨[], (⟨0, 6, 7, 31⟩ : ExceptionTableEntry), [(⟨0, 6, 12, 53⟩ : ExceptionTableEntry)], rfl, fun z hz => absurd hz List.not_mem_nil, rfl, by decide, W_L_31, 2, 1, Or.inl ⟨2, (dT U_L_challenges 5 rfl), rfl, rfl⟩, by decide, ?_⟩
    refine x_ldc2 C_L_21 (dT U_L_challenges 6 rfl) ?_
    refine x_lreturn (dT U_L_challenges 7 rfl) rfl ?_
    exact e1 k_1
  · refine xRetH_thr ?_
    refine ⟨[(⟨0, 6, 7, 31⟩ : ExceptionTableEntry)], (⟨0, 6, 12, 53⟩ : ExceptionTableEntry), [], rfl, fun z hz => by
        simp only [List.mem_cons, List.not_mem_nil, or_false] at hz
        subst hz
        exact ⟨by decide, "java/lang/IndexOutOfBoundsException", by decide, by decide, W_L_31⟩, rfl, by decide, W_L_53, 2, 1, Or.inl ⟨2, (dT U_L_challenges 8 rfl), rfl, rfl⟩, by decide, ?_⟩
    refine x_ldc2 C_L_43 (dT U_L_challenges 9 rfl) ?_
    refine x_lreturn (dT U_L_challenges 10 rfl) rfl ?_
    exact e2 k_1 k_2
  · refine xRetH_some ?_
    have hz9 : xr (answ σ.p (σ.R run.toNat)) := by
      exact xr_answ hp
    refine x_i2l (dT U_L_challenges 3 rfl) hz9 ?_
    refine x_lreturn (dT U_L_challenges 4 rfl) rfl ?_
    exact k k_1 k_2 _ rfl hz9

set_option maxRecDepth 20000 in
set_option maxHeartbeats 1000000 in
theorem S_L_told {G : xG} {d rc rs : Nat} {ex : Bool} {h : xH} {Q : xQ} {σ : St} {run what : Int} (w : CW σ h) (v : INV σ) (h_run : xr run) (h_what : xr what) (e1 : ¬ (inb run 4) → Q (.inl (some (vl (-4000000000000000001)))) false h) (e2 : (inb run 4) → ¬ (inb what 7) → Q (.inl (some (vl (-4000000000000000002)))) false h) (k : (inb run 4) → (inb what 7) → ∀ z9 : Int, z9 = (if what = 6 then (if 2 ≤ (σ.R run.toNat).st then trs σ.p (σ.R run.toNat) else -1) else (σ.R run.toNat).num σ.p what.toNat) → xr z9 → Q (.inl (some (vl z9))) ex h) : X G m_L_told (d + 8) (rc + 2) (rs + 12) ex 0 (xe m_L_told.2.2.1 [.ref 3, vi run, vi what]) [] h Q := by
  show X G m_L_told _ _ _ _ 0 [some (.ref 3), some (vi run), some (vi what), none] [] h Q
  have hp := PRb v.p
  have hq := gq_b v.p
  refine x_aload_n (dT U_L_told 0 rfl) rfl ?_
  refine x_iload_n (dT U_L_told 1 rfl) rfl ?_
  refine x_iload_n (dT U_L_told 2 rfl) rfl ?_
  refine x_invokevirtualH (rc' := rc) (rs' := rs) (rc2 := 0 + 2) (rs2 := 0 + 12) (As := [_, _]) (st := _) M_X10_told K_L_137 (dT U_L_told 3 rfl) rfl (by decide) rfl rfl w.c3 (Nat.le_of_ble_eq_true rfl) (by decide) rfl (Nat.le_of_ble_eq_true rfl) rfl (by decide) (Nat.le_of_ble_eq_true rfl) (Nat.add_comm _ _ ▸ rfl) (Nat.add_comm _ _ ▸ rfl) ?_
  refine S_X10_told w v h_run h_what (fun k_1 => ?_) (fun k_1 k_2 => ?_) (fun k_1 k_2 => ?_)
  · refine xRetH_thr ?_
    refine ⟨[], (⟨0, 7, 8, 31⟩ : ExceptionTableEntry), [(⟨0, 7, 13, 17⟩ : ExceptionTableEntry)], rfl, fun z hz => absurd hz List.not_mem_nil, rfl, by decide, W_L_31, 3, 1, Or.inl ⟨3, (dT U_L_told 6 rfl), rfl, rfl⟩, by decide, ?_⟩
    refine x_ldc2 C_L_21 (dT U_L_told 7 rfl) ?_
    refine x_lreturn (dT U_L_told 8 rfl) rfl ?_
    exact e1 k_1
  · refine xRetH_thr ?_
    refine ⟨[(⟨0, 7, 8, 31⟩ : ExceptionTableEntry)], (⟨0, 7, 13, 17⟩ : ExceptionTableEntry), [], rfl, fun z hz => by
        simp only [List.mem_cons, List.not_mem_nil, or_false] at hz
        subst hz
        exact ⟨by decide, "java/lang/IndexOutOfBoundsException", by decide, by decide, W_L_31⟩, rfl, by decide, W_L_17, 3, 1, Or.inl ⟨3, (dT U_L_told 9 rfl), rfl, rfl⟩, by decide, ?_⟩
    refine x_ldc2 C_L_43 (dT U_L_told 10 rfl) ?_
    refine x_lreturn (dT U_L_told 11 rfl) rfl ?_
    exact e2 k_1 k_2
  · refine xRetH_some ?_
    have hz9 : xr (if what = 6 then (if 2 ≤ (σ.R run.toNat).st then trs σ.p (σ.R run.toNat) else -1) else (σ.R run.toNat).num σ.p what.toNat) := by
      split
      · split
        · exact xr_sl
        · unfold xr; omega
      · exact xr_num v.p (v.R _ (show run.toNat < 4 by omega)).1 _
    refine x_i2l (dT U_L_told 4 rfl) hz9 ?_
    refine x_lreturn (dT U_L_told 5 rfl) rfl ?_
    exact k k_1 k_2 _ rfl hz9

set_option maxRecDepth 20000 in
set_option maxHeartbeats 1000000 in
theorem S_L_form {G : xG} {d rc rs : Nat} {ex : Bool} {h : xH} {Q : xQ} {σ : St} {run place isAnswer : Int} (w : CW σ h) (v : INV σ) (h_run : xr run) (h_place : xr place) (h_isAnswer : isAnswer = 0 ∨ isAnswer = 1) (e1 : ¬ (inb run 4 ∧ inb place 8) → Q (.inl (some (vl (-4000000000000000001)))) false h) (e2 : (inb run 4 ∧ inb place 8) → ¬ (1 ≤ (σ.R run.toNat).st ∧ (isAnswer = 1 → 4 ≤ (σ.R run.toNat).st)) → Q (.inl (some (vl (-4000000000000000002)))) false h) (k : (inb run 4 ∧ inb place 8) → (1 ≤ (σ.R run.toNat).st ∧ (isAnswer = 1 → 4 ≤ (σ.R run.toNat).st)) → ∀ z9 : Int, z9 = (if isAnswer = 1 then (σ.R run.toNat).answer.getD place.toNat 0 else (σ.R run.toNat).form.getD place.toNat 0) → xr z9 → Q (.inl (some (vl z9))) ex h) : X G m_L_form (d + 8) (rc + 4) (rs + 24) ex 0 (xe m_L_form.2.2.1 [.ref 3, vi run, vi place, vi isAnswer]) [] h Q := by
  show X G m_L_form _ _ _ _ 0 [some (.ref 3), some (vi run), some (vi place), some (vi isAnswer), none] [] h Q
  have hp := PRb v.p
  have hq := gq_b v.p
  refine x_aload_n (dT U_L_form 0 rfl) rfl ?_
  refine x_iload_n (dT U_L_form 1 rfl) rfl ?_
  refine x_iload_n (dT U_L_form 2 rfl) rfl ?_
  refine x_iload_n (dT U_L_form 3 rfl) rfl ?_
  refine x_invokevirtualH (rc' := rc) (rs' := rs) (rc2 := 0 + 4) (rs2 := 0 + 24) (As := [_, _, _]) (st := _) M_X10_form K_L_140 (dT U_L_form 4 rfl) rfl (by decide) rfl rfl w.c3 (Nat.le_of_ble_eq_true rfl) (by decide) rfl (Nat.le_of_ble_eq_true rfl) rfl (by decide) (Nat.le_of_ble_eq_true rfl) (Nat.add_comm _ _ ▸ rfl) (Nat.add_comm _ _ ▸ rfl) ?_
  refine S_X10_form w v h_run h_place h_isAnswer (fun k_1 => ?_) (fun k_1 k_2 => ?_) (fun k_1 k_2 => ?_)
  · refine xRetH_thr ?_
    refine ⟨[], (⟨0, 8, 9, 31⟩ : ExceptionTableEntry), [(⟨0, 8, 15, 53⟩ : ExceptionTableEntry)], rfl, fun z hz => absurd hz List.not_mem_nil, rfl, by decide, W_L_31, 4, 2, Or.inr ⟨(dT U_L_form 7 rfl), rfl⟩, by decide, ?_⟩
    refine x_ldc2 C_L_21 (dT U_L_form 8 rfl) ?_
    refine x_lreturn (dT U_L_form 9 rfl) rfl ?_
    exact e1 k_1
  · refine xRetH_thr ?_
    refine ⟨[(⟨0, 8, 9, 31⟩ : ExceptionTableEntry)], (⟨0, 8, 15, 53⟩ : ExceptionTableEntry), [], rfl, fun z hz => by
        simp only [List.mem_cons, List.not_mem_nil, or_false] at hz
        subst hz
        exact ⟨by decide, "java/lang/IndexOutOfBoundsException", by decide, by decide, W_L_31⟩, rfl, by decide, W_L_53, 4, 2, Or.inr ⟨(dT U_L_form 10 rfl), rfl⟩, by decide, ?_⟩
    refine x_ldc2 C_L_43 (dT U_L_form 11 rfl) ?_
    refine x_lreturn (dT U_L_form 12 rfl) rfl ?_
    exact e2 k_1 k_2
  · refine xRetH_some ?_
    have hz9 : xr (if isAnswer = 1 then (σ.R run.toNat).answer.getD place.toNat 0 else (σ.R run.toNat).form.getD place.toNat 0) := by
      split
      · exact F24b (v.R _ (show run.toNat < 4 by omega)).1.2.2.2.2.2.2.2.2.2.2.2.2 _
      · exact F24b (v.R _ (show run.toNat < 4 by omega)).1.2.2.2.2.2.2.2.2.2.2.1 _
    refine x_i2l (dT U_L_form 5 rfl) hz9 ?_
    refine x_lreturn (dT U_L_form 6 rfl) rfl ?_
    exact k k_1 k_2 _ rfl hz9

set_option maxRecDepth 20000 in
set_option maxHeartbeats 1000000 in
theorem S_L_fold {G : xG} {d rc rs : Nat} {ex : Bool} {h : xH} {Q : xQ} {σ : St} {run second factor into : Int} (w : CW σ h) (v : INV σ) (h_run : xr run) (h_second : xr second) (h_factor : xr factor) (h_into : xr into) (e1 : ¬ (inb run 4 ∧ inb second 4 ∧ inb into 4) → Q (.inl (some (vl (-4000000000000000001)))) false h) (e2 : (inb run 4 ∧ inb second 4 ∧ inb into 4) → ¬ (inb factor σ.p) → Q (.inl (some (vl (-4000000000000000002)))) false h) (e3 : (inb run 4 ∧ inb second 4 ∧ inb into 4) → (inb factor σ.p) → ¬ (joinable (σ.R run.toNat) (σ.R second.toNat) 0) → Q (.inl (some (vl (-4000000000000000003)))) false h) (k : (inb run 4 ∧ inb second 4 ∧ inb into 4) → (inb factor σ.p) → (joinable (σ.R run.toNat) (σ.R second.toNat) 0) → ∀ z9 : Int, z9 = (MM σ.p (((σ.R run.toNat).e + factor * (σ.R second.toNat).e) % (σ.p : Int))) → xr z9 → ∀ h2, FC h h2 → CW ((σ.sRun into.toNat (rBegin (σ.R into.toNat) (((σ.R run.toNat).e + factor * (σ.R second.toNat).e) % (σ.p : Int)) (((σ.R run.toNat).v + factor * (σ.R second.toNat).v) % (σ.p : Int)) (σ.R run.toNat).form))) h2 → INV ((σ.sRun into.toNat (rBegin (σ.R into.toNat) (((σ.R run.toNat).e + factor * (σ.R second.toNat).e) % (σ.p : Int)) (((σ.R run.toNat).v + factor * (σ.R second.toNat).v) % (σ.p : Int)) (σ.R run.toNat).form))) → Q (.inl (some (vl z9))) ex h2) : X G m_L_fold (d + 8) (rc + 5) (rs + 30) ex 0 (xe m_L_fold.2.2.1 [.ref 3, vi run, vi second, vi factor, vi into]) [] h Q := by
  show X G m_L_fold _ _ _ _ 0 [some (.ref 3), some (vi run), some (vi second), some (vi factor), some (vi into), none] [] h Q
  have hp := PRb v.p
  have hq := gq_b v.p
  refine x_aload_n (dT U_L_fold 0 rfl) rfl ?_
  refine x_iload_n (dT U_L_fold 1 rfl) rfl ?_
  refine x_iload_n (dT U_L_fold 2 rfl) rfl ?_
  refine x_iload_n (dT U_L_fold 3 rfl) rfl ?_
  refine x_iload (dT U_L_fold 4 rfl) rfl ?_
  refine x_invokevirtualH (rc' := rc) (rs' := rs) (rc2 := 0 + 5) (rs2 := 0 + 30) (As := [_, _, _, _]) (st := _) M_X10_fold K_L_144 (dT U_L_fold 5 rfl) rfl (by decide) rfl rfl w.c3 (Nat.le_of_ble_eq_true rfl) (by decide) rfl (Nat.le_of_ble_eq_true rfl) rfl (by decide) (Nat.le_of_ble_eq_true rfl) (Nat.add_comm _ _ ▸ rfl) (Nat.add_comm _ _ ▸ rfl) ?_
  refine S_X10_fold w v h_run h_second h_factor h_into (fun k_1 => ?_) (fun k_1 k_2 => ?_) (fun k_1 k_2 k_3 => ?_) (fun k_1 k_2 k_3 h2 fc w2 => ?_)
  · refine xRetH_thr ?_
    refine ⟨[], (⟨0, 10, 11, 31⟩ : ExceptionTableEntry), [(⟨0, 10, 17, 17⟩ : ExceptionTableEntry), (⟨0, 10, 23, 53⟩ : ExceptionTableEntry)], rfl, fun z hz => absurd hz List.not_mem_nil, rfl, by decide, W_L_31, 5, 2, Or.inr ⟨(dT U_L_fold 8 rfl), rfl⟩, by decide, ?_⟩
    refine x_ldc2 C_L_21 (dT U_L_fold 9 rfl) ?_
    refine x_lreturn (dT U_L_fold 10 rfl) rfl ?_
    exact e1 k_1
  · refine xRetH_thr ?_
    refine ⟨[(⟨0, 10, 11, 31⟩ : ExceptionTableEntry)], (⟨0, 10, 17, 17⟩ : ExceptionTableEntry), [(⟨0, 10, 23, 53⟩ : ExceptionTableEntry)], rfl, fun z hz => by
        simp only [List.mem_cons, List.not_mem_nil, or_false] at hz
        subst hz
        exact ⟨by decide, "java/lang/IndexOutOfBoundsException", by decide, by decide, W_L_31⟩, rfl, by decide, W_L_17, 5, 2, Or.inr ⟨(dT U_L_fold 11 rfl), rfl⟩, by decide, ?_⟩
    refine x_ldc2 C_L_43 (dT U_L_fold 12 rfl) ?_
    refine x_lreturn (dT U_L_fold 13 rfl) rfl ?_
    exact e2 k_1 k_2
  · refine xRetH_thr ?_
    refine ⟨[(⟨0, 10, 11, 31⟩ : ExceptionTableEntry), (⟨0, 10, 17, 17⟩ : ExceptionTableEntry)], (⟨0, 10, 23, 53⟩ : ExceptionTableEntry), [], rfl, fun z hz => by
        simp only [List.mem_cons, List.not_mem_nil, or_false] at hz
        rcases hz with rfl | rfl
        · exact ⟨by decide, "java/lang/IndexOutOfBoundsException", by decide, by decide, W_L_31⟩
        · exact ⟨by decide, "java/lang/IllegalArgumentException", by decide, by decide, W_L_17⟩, rfl, by decide, W_L_53, 5, 2, Or.inr ⟨(dT U_L_fold 14 rfl), rfl⟩, by decide, ?_⟩
    refine x_ldc2 C_L_60 (dT U_L_fold 15 rfl) ?_
    refine x_lreturn (dT U_L_fold 16 rfl) rfl ?_
    exact e3 k_1 k_2 k_3
  · refine xRetH_some ?_
    have hz9 : xr (MM σ.p (((σ.R run.toNat).e + factor * (σ.R second.toNat).e) % (σ.p : Int))) := by
      exact xr_MM v.p
    refine x_i2l (dT U_L_fold 6 rfl) hz9 ?_
    refine x_lreturn (dT U_L_fold 7 rfl) rfl ?_
    exact k k_1 k_2 k_3 _ rfl hz9 h2 fc w2 (IV_fold v k_1 k_2 k_3)

set_option maxRecDepth 20000 in
set_option maxHeartbeats 1000000 in
theorem S_L_factors {G : xG} {d rc rs : Nat} {ex : Bool} {h : xH} {Q : xQ} {σ : St} {run second secret isBatch secret2 : Int} (w : CW σ h) (v : INV σ) (h_run : xr run) (h_second : xr second) (h_secret : xr secret) (h_secret2 : xr secret2) (h_isBatch : isBatch = 0 ∨ isBatch = 1) (e1 : ¬ (inb run 4 ∧ inb second 4 ∧ inb secret 8 ∧ inb secret2 8) → Q (.inl (some (vl (-4000000000000000001)))) false h) (e2 : (inb run 4 ∧ inb second 4 ∧ inb secret 8 ∧ inb secret2 8) → ¬ (joinable (σ.R run.toNat) (σ.R second.toNat) isBatch) → Q (.inl (some (vl (-4000000000000000002)))) false h) (k : (inb run 4 ∧ inb second 4 ∧ inb secret 8 ∧ inb secret2 8) → (joinable (σ.R run.toNat) (σ.R second.toNat) isBatch) → ∀ z9 : Int, z9 = ((ct (fun x : Nat => (((inn (σ.R run.toNat).form (σ.rw secret.toNat) % (σ.p : Int) - (σ.R run.toNat).v) % (σ.p : Int)) + (x : Int) * ((inn (σ.R second.toNat).form (if isBatch = 1 then σ.rw secret.toNat else σ.rw secret2.toNat) % (σ.p : Int) - (σ.R second.toNat).v) % (σ.p : Int))) % (σ.p : Int) = 0) σ.p : Int)) → xr z9 → Q (.inl (some (vl z9))) ex h) : X G m_L_factors (d + 8) (rc + 5) (rs + 30) ex 0 (xe m_L_factors.2.2.1 [.ref 3, vi run, vi second, vi secret, vi isBatch, vi secret2]) [] h Q := by
  show X G m_L_factors _ _ _ _ 0 [some (.ref 3), some (vi run), some (vi second), some (vi secret), some (vi isBatch), some (vi secret2), none] [] h Q
  have hp := PRb v.p
  have hq := gq_b v.p
  refine x_aload_n (dT U_L_factors 0 rfl) rfl ?_
  refine x_iload_n (dT U_L_factors 1 rfl) rfl ?_
  refine x_iload_n (dT U_L_factors 2 rfl) rfl ?_
  refine x_iload_n (dT U_L_factors 3 rfl) rfl ?_
  refine x_iload (dT U_L_factors 4 rfl) rfl ?_
  refine x_iload (dT U_L_factors 5 rfl) rfl ?_
  refine x_invokevirtualH (rc' := rc) (rs' := rs) (rc2 := 0 + 5) (rs2 := 0 + 30) (As := [_, _, _, _, _]) (st := _) M_X10_factors K_L_147 (dT U_L_factors 6 rfl) rfl (by decide) rfl rfl w.c3 (Nat.le_of_ble_eq_true rfl) (by decide) rfl (Nat.le_of_ble_eq_true rfl) rfl (by decide) (Nat.le_of_ble_eq_true rfl) (Nat.add_comm _ _ ▸ rfl) (Nat.add_comm _ _ ▸ rfl) ?_
  refine S_X10_factors w v h_run h_second h_secret h_secret2 h_isBatch (fun k_1 => ?_) (fun k_1 k_2 => ?_) (fun k_1 k_2 => ?_)
  · refine xRetH_thr ?_
    refine ⟨[], (⟨0, 12, 13, 31⟩ : ExceptionTableEntry), [(⟨0, 12, 19, 53⟩ : ExceptionTableEntry)], rfl, fun z hz => absurd hz List.not_mem_nil, rfl, by decide, W_L_31, 6, 2, Or.inr ⟨(dT U_L_factors 9 rfl), rfl⟩, by decide, ?_⟩
    refine x_ldc2 C_L_21 (dT U_L_factors 10 rfl) ?_
    refine x_lreturn (dT U_L_factors 11 rfl) rfl ?_
    exact e1 k_1
  · refine xRetH_thr ?_
    refine ⟨[(⟨0, 12, 13, 31⟩ : ExceptionTableEntry)], (⟨0, 12, 19, 53⟩ : ExceptionTableEntry), [], rfl, fun z hz => by
        simp only [List.mem_cons, List.not_mem_nil, or_false] at hz
        subst hz
        exact ⟨by decide, "java/lang/IndexOutOfBoundsException", by decide, by decide, W_L_31⟩, rfl, by decide, W_L_53, 6, 2, Or.inr ⟨(dT U_L_factors 12 rfl), rfl⟩, by decide, ?_⟩
    refine x_ldc2 C_L_43 (dT U_L_factors 13 rfl) ?_
    refine x_lreturn (dT U_L_factors 14 rfl) rfl ?_
    exact e2 k_1 k_2
  · refine xRetH_some ?_
    have hz9 : xr ((ct (fun x : Nat => (((inn (σ.R run.toNat).form (σ.rw secret.toNat) % (σ.p : Int) - (σ.R run.toNat).v) % (σ.p : Int)) + (x : Int) * ((inn (σ.R second.toNat).form (if isBatch = 1 then σ.rw secret.toNat else σ.rw secret2.toNat) % (σ.p : Int) - (σ.R second.toNat).v) % (σ.p : Int))) % (σ.p : Int) = 0) σ.p : Int)) := by
      exact xr_ct (by omega)
    refine x_i2l (dT U_L_factors 7 rfl) hz9 ?_
    refine x_lreturn (dT U_L_factors 8 rfl) rfl ?_
    exact k k_1 k_2 _ rfl hz9

set_option maxRecDepth 20000 in
set_option maxHeartbeats 1000000 in
theorem S_L_chooseBit {G : xG} {d rc rs : Nat} {ex : Bool} {h : xH} {Q : xQ} {σ : St} {pair bit blind : Int} (w : CW σ h) (v : INV σ) (h_pair : xr pair) (h_bit : xr bit) (h_blind : xr blind) (e1 : ¬ (inb pair 2) → Q (.inl (some (vl (-4000000000000000001)))) false h) (e2 : (inb pair 2) → ¬ (inb bit 2 ∧ inb blind σ.p) → Q (.inl (some (vl (-4000000000000000002)))) false h) (k : (inb pair 2) → (inb bit 2 ∧ inb blind σ.p) → ∀ z9 : Int, z9 = (MM σ.p (cm1 σ.p bit blind)) → xr z9 → ∀ h2, FC h h2 → CW ((σ.sPair pair.toNat (pBegin σ.p (σ.P pair.toNat) bit blind))) h2 → INV ((σ.sPair pair.toNat (pBegin σ.p (σ.P pair.toNat) bit blind))) → Q (.inl (some (vl z9))) ex h2) : X G m_L_chooseBit (d + 8) (rc + 3) (rs + 18) ex 0 (xe m_L_chooseBit.2.2.1 [.ref 3, vi pair, vi bit, vi blind]) [] h Q := by
  show X G m_L_chooseBit _ _ _ _ 0 [some (.ref 3), some (vi pair), some (vi bit), some (vi blind), none] [] h Q
  have hp := PRb v.p
  have hq := gq_b v.p
  refine x_aload_n (dT U_L_chooseBit 0 rfl) rfl ?_
  refine x_iload_n (dT U_L_chooseBit 1 rfl) rfl ?_
  refine x_iload_n (dT U_L_chooseBit 2 rfl) rfl ?_
  refine x_iload_n (dT U_L_chooseBit 3 rfl) rfl ?_
  refine x_invokevirtualH (rc' := rc) (rs' := rs) (rc2 := 0 + 3) (rs2 := 0 + 18) (As := [_, _, _]) (st := _) M_X10_chooseBit K_L_151 (dT U_L_chooseBit 4 rfl) rfl (by decide) rfl rfl w.c3 (Nat.le_of_ble_eq_true rfl) (by decide) rfl (Nat.le_of_ble_eq_true rfl) rfl (by decide) (Nat.le_of_ble_eq_true rfl) (Nat.add_comm _ _ ▸ rfl) (Nat.add_comm _ _ ▸ rfl) ?_
  refine S_X10_chooseBit w v h_pair h_bit h_blind (fun k_1 => ?_) (fun k_1 k_2 => ?_) (fun k_1 k_2 h2 fc w2 => ?_)
  · refine xRetH_thr ?_
    refine ⟨[], (⟨0, 8, 9, 31⟩ : ExceptionTableEntry), [(⟨0, 8, 15, 17⟩ : ExceptionTableEntry)], rfl, fun z hz => absurd hz List.not_mem_nil, rfl, by decide, W_L_31, 4, 2, Or.inr ⟨(dT U_L_chooseBit 7 rfl), rfl⟩, by decide, ?_⟩
    refine x_ldc2 C_L_21 (dT U_L_chooseBit 8 rfl) ?_
    refine x_lreturn (dT U_L_chooseBit 9 rfl) rfl ?_
    exact e1 k_1
  · refine xRetH_thr ?_
    refine ⟨[(⟨0, 8, 9, 31⟩ : ExceptionTableEntry)], (⟨0, 8, 15, 17⟩ : ExceptionTableEntry), [], rfl, fun z hz => by
        simp only [List.mem_cons, List.not_mem_nil, or_false] at hz
        subst hz
        exact ⟨by decide, "java/lang/IndexOutOfBoundsException", by decide, by decide, W_L_31⟩, rfl, by decide, W_L_17, 4, 2, Or.inr ⟨(dT U_L_chooseBit 10 rfl), rfl⟩, by decide, ?_⟩
    refine x_ldc2 C_L_43 (dT U_L_chooseBit 11 rfl) ?_
    refine x_lreturn (dT U_L_chooseBit 12 rfl) rfl ?_
    exact e2 k_1 k_2
  · refine xRetH_some ?_
    have hz9 : xr (MM σ.p (cm1 σ.p bit blind)) := by
      exact xr_MM v.p
    refine x_i2l (dT U_L_chooseBit 5 rfl) hz9 ?_
    refine x_lreturn (dT U_L_chooseBit 6 rfl) rfl ?_
    exact k k_1 k_2 _ rfl hz9 h2 fc w2 (IV_chooseBit v k_1 k_2)

set_option maxRecDepth 20000 in
set_option maxHeartbeats 1000000 in
theorem S_L_hideBit {G : xG} {d rc rs : Nat} {ex : Bool} {h : xH} {Q : xQ} {σ : St} {pair mask c t : Int} (w : CW σ h) (v : INV σ) (h_pair : xr pair) (h_mask : xr mask) (h_c : xr c) (h_t : xr t) (e1 : ¬ (inb pair 2) → Q (.inl (some (vl (-4000000000000000001)))) false h) (e2 : (inb pair 2) → ¬ (inb mask σ.p ∧ inb c σ.p ∧ inb t σ.p) → Q (.inl (some (vl (-4000000000000000002)))) false h) (e3 : (inb pair 2) → (inb mask σ.p ∧ inb c σ.p ∧ inb t σ.p) → ¬ ((σ.P pair.toNat).st = 1) → Q (.inl (some (vl (-4000000000000000003)))) false h) (k : (inb pair 2) → (inb mask σ.p ∧ inb c σ.p ∧ inb t σ.p) → ((σ.P pair.toNat).st = 1) → ∀ z9 : Int, z9 = (191 * MM σ.p (pHide σ.p (σ.P pair.toNat) mask c t).f0 + MM σ.p (pHide σ.p (σ.P pair.toNat) mask c t).f1) → xr z9 → ∀ h2, FC h h2 → CW ((σ.sPair pair.toNat (pHide σ.p (σ.P pair.toNat) mask c t))) h2 → INV ((σ.sPair pair.toNat (pHide σ.p (σ.P pair.toNat) mask c t))) → Q (.inl (some (vl z9))) ex h2) : X G m_L_hideBit (d + 8) (rc + 5) (rs + 30) ex 0 (xe m_L_hideBit.2.2.1 [.ref 3, vi pair, vi mask, vi c, vi t]) [] h Q := by
  show X G m_L_hideBit _ _ _ _ 0 [some (.ref 3), some (vi pair), some (vi mask), some (vi c), some (vi t), none] [] h Q
  have hp := PRb v.p
  have hq := gq_b v.p
  refine x_aload_n (dT U_L_hideBit 0 rfl) rfl ?_
  refine x_iload_n (dT U_L_hideBit 1 rfl) rfl ?_
  refine x_iload_n (dT U_L_hideBit 2 rfl) rfl ?_
  refine x_iload_n (dT U_L_hideBit 3 rfl) rfl ?_
  refine x_iload (dT U_L_hideBit 4 rfl) rfl ?_
  refine x_invokevirtualH (rc' := rc) (rs' := rs) (rc2 := 0 + 5) (rs2 := 0 + 30) (As := [_, _, _, _]) (st := _) M_X10_hideBit K_L_154 (dT U_L_hideBit 5 rfl) rfl (by decide) rfl rfl w.c3 (Nat.le_of_ble_eq_true rfl) (by decide) rfl (Nat.le_of_ble_eq_true rfl) rfl (by decide) (Nat.le_of_ble_eq_true rfl) (Nat.add_comm _ _ ▸ rfl) (Nat.add_comm _ _ ▸ rfl) ?_
  refine S_X10_hideBit w v h_pair h_mask h_c h_t (fun k_1 => ?_) (fun k_1 k_2 => ?_) (fun k_1 k_2 k_3 => ?_) (fun k_1 k_2 k_3 h2 fc w2 => ?_)
  · refine xRetH_thr ?_
    refine ⟨[], (⟨0, 10, 11, 31⟩ : ExceptionTableEntry), [(⟨0, 10, 17, 17⟩ : ExceptionTableEntry), (⟨0, 10, 23, 53⟩ : ExceptionTableEntry)], rfl, fun z hz => absurd hz List.not_mem_nil, rfl, by decide, W_L_31, 5, 2, Or.inr ⟨(dT U_L_hideBit 8 rfl), rfl⟩, by decide, ?_⟩
    refine x_ldc2 C_L_21 (dT U_L_hideBit 9 rfl) ?_
    refine x_lreturn (dT U_L_hideBit 10 rfl) rfl ?_
    exact e1 k_1
  · refine xRetH_thr ?_
    refine ⟨[(⟨0, 10, 11, 31⟩ : ExceptionTableEntry)], (⟨0, 10, 17, 17⟩ : ExceptionTableEntry), [(⟨0, 10, 23, 53⟩ : ExceptionTableEntry)], rfl, fun z hz => by
        simp only [List.mem_cons, List.not_mem_nil, or_false] at hz
        subst hz
        exact ⟨by decide, "java/lang/IndexOutOfBoundsException", by decide, by decide, W_L_31⟩, rfl, by decide, W_L_17, 5, 2, Or.inr ⟨(dT U_L_hideBit 11 rfl), rfl⟩, by decide, ?_⟩
    refine x_ldc2 C_L_43 (dT U_L_hideBit 12 rfl) ?_
    refine x_lreturn (dT U_L_hideBit 13 rfl) rfl ?_
    exact e2 k_1 k_2
  · refine xRetH_thr ?_
    refine ⟨[(⟨0, 10, 11, 31⟩ : ExceptionTableEntry), (⟨0, 10, 17, 17⟩ : ExceptionTableEntry)], (⟨0, 10, 23, 53⟩ : ExceptionTableEntry), [], rfl, fun z hz => by
        simp only [List.mem_cons, List.not_mem_nil, or_false] at hz
        rcases hz with rfl | rfl
        · exact ⟨by decide, "java/lang/IndexOutOfBoundsException", by decide, by decide, W_L_31⟩
        · exact ⟨by decide, "java/lang/IllegalArgumentException", by decide, by decide, W_L_17⟩, rfl, by decide, W_L_53, 5, 2, Or.inr ⟨(dT U_L_hideBit 14 rfl), rfl⟩, by decide, ?_⟩
    refine x_ldc2 C_L_60 (dT U_L_hideBit 15 rfl) ?_
    refine x_lreturn (dT U_L_hideBit 16 rfl) rfl ?_
    exact e3 k_1 k_2 k_3
  · refine xRetH_some ?_
    have hz9 : xr (191 * MM σ.p (pHide σ.p (σ.P pair.toNat) mask c t).f0 + MM σ.p (pHide σ.p (σ.P pair.toNat) mask c t).f1) := by
      have a1 := MM_r (e := (pHide σ.p (σ.P pair.toNat) mask c t).f0) v.p
      have a2 := MM_r (e := (pHide σ.p (σ.P pair.toNat) mask c t).f1) v.p
      unfold xr; omega
    refine x_i2l (dT U_L_hideBit 6 rfl) hz9 ?_
    refine x_lreturn (dT U_L_hideBit 7 rfl) rfl ?_
    exact k k_1 k_2 k_3 _ rfl hz9 h2 fc w2 (IV_hideBit v k_1 k_2 k_3)

set_option maxRecDepth 20000 in
set_option maxHeartbeats 1000000 in
theorem S_L_dareBit {G : xG} {d rc rs : Nat} {ex : Bool} {h : xH} {Q : xQ} {σ : St} {pair c : Int} (w : CW σ h) (v : INV σ) (h_pair : xr pair) (h_c : xr c) (e1 : ¬ (inb pair 2) → Q (.inl (some (vl (-4000000000000000001)))) false h) (e2 : (inb pair 2) → ¬ (inb c σ.p) → Q (.inl (some (vl (-4000000000000000002)))) false h) (e3 : (inb pair 2) → (inb c σ.p) → ¬ ((σ.P pair.toNat).st = 2) → Q (.inl (some (vl (-4000000000000000003)))) false h) (k : (inb pair 2) → (inb c σ.p) → ((σ.P pair.toNat).st = 2) → ∀ z9 : Int, z9 = (if (σ.P pair.toNat).b = 0 then (pDare σ.p (σ.P pair.toNat) c).t0 else (pDare σ.p (σ.P pair.toNat) c).t1) → xr z9 → ∀ h2, FC h h2 → CW ((σ.sPair pair.toNat (pDare σ.p (σ.P pair.toNat) c))) h2 → INV ((σ.sPair pair.toNat (pDare σ.p (σ.P pair.toNat) c))) → Q (.inl (some (vl z9))) ex h2) : X G m_L_dareBit (d + 8) (rc + 3) (rs + 18) ex 0 (xe m_L_dareBit.2.2.1 [.ref 3, vi pair, vi c]) [] h Q := by
  show X G m_L_dareBit _ _ _ _ 0 [some (.ref 3), some (vi pair), some (vi c), none] [] h Q
  have hp := PRb v.p
  have hq := gq_b v.p
  refine x_aload_n (dT U_L_dareBit 0 rfl) rfl ?_
  refine x_iload_n (dT U_L_dareBit 1 rfl) rfl ?_
  refine x_iload_n (dT U_L_dareBit 2 rfl) rfl ?_
  refine x_invokevirtualH (rc' := rc) (rs' := rs) (rc2 := 0 + 3) (rs2 := 0 + 18) (As := [_, _]) (st := _) M_X10_dareBit K_L_157 (dT U_L_dareBit 3 rfl) rfl (by decide) rfl rfl w.c3 (Nat.le_of_ble_eq_true rfl) (by decide) rfl (Nat.le_of_ble_eq_true rfl) rfl (by decide) (Nat.le_of_ble_eq_true rfl) (Nat.add_comm _ _ ▸ rfl) (Nat.add_comm _ _ ▸ rfl) ?_
  refine S_X10_dareBit w v h_pair h_c (fun k_1 => ?_) (fun k_1 k_2 => ?_) (fun k_1 k_2 k_3 => ?_) (fun k_1 k_2 k_3 h2 fc w2 => ?_)
  · refine xRetH_thr ?_
    refine ⟨[], (⟨0, 7, 8, 31⟩ : ExceptionTableEntry), [(⟨0, 7, 13, 17⟩ : ExceptionTableEntry), (⟨0, 7, 18, 53⟩ : ExceptionTableEntry)], rfl, fun z hz => absurd hz List.not_mem_nil, rfl, by decide, W_L_31, 3, 1, Or.inl ⟨3, (dT U_L_dareBit 6 rfl), rfl, rfl⟩, by decide, ?_⟩
    refine x_ldc2 C_L_21 (dT U_L_dareBit 7 rfl) ?_
    refine x_lreturn (dT U_L_dareBit 8 rfl) rfl ?_
    exact e1 k_1
  · refine xRetH_thr ?_
    refine ⟨[(⟨0, 7, 8, 31⟩ : ExceptionTableEntry)], (⟨0, 7, 13, 17⟩ : ExceptionTableEntry), [(⟨0, 7, 18, 53⟩ : ExceptionTableEntry)], rfl, fun z hz => by
        simp only [List.mem_cons, List.not_mem_nil, or_false] at hz
        subst hz
        exact ⟨by decide, "java/lang/IndexOutOfBoundsException", by decide, by decide, W_L_31⟩, rfl, by decide, W_L_17, 3, 1, Or.inl ⟨3, (dT U_L_dareBit 9 rfl), rfl, rfl⟩, by decide, ?_⟩
    refine x_ldc2 C_L_43 (dT U_L_dareBit 10 rfl) ?_
    refine x_lreturn (dT U_L_dareBit 11 rfl) rfl ?_
    exact e2 k_1 k_2
  · refine xRetH_thr ?_
    refine ⟨[(⟨0, 7, 8, 31⟩ : ExceptionTableEntry), (⟨0, 7, 13, 17⟩ : ExceptionTableEntry)], (⟨0, 7, 18, 53⟩ : ExceptionTableEntry), [], rfl, fun z hz => by
        simp only [List.mem_cons, List.not_mem_nil, or_false] at hz
        rcases hz with rfl | rfl
        · exact ⟨by decide, "java/lang/IndexOutOfBoundsException", by decide, by decide, W_L_31⟩
        · exact ⟨by decide, "java/lang/IllegalArgumentException", by decide, by decide, W_L_17⟩, rfl, by decide, W_L_53, 3, 1, Or.inl ⟨3, (dT U_L_dareBit 12 rfl), rfl, rfl⟩, by decide, ?_⟩
    refine x_ldc2 C_L_60 (dT U_L_dareBit 13 rfl) ?_
    refine x_lreturn (dT U_L_dareBit 14 rfl) rfl ?_
    exact e3 k_1 k_2 k_3
  · refine xRetH_some ?_
    have hz9 : xr (if (σ.P pair.toNat).b = 0 then (pDare σ.p (σ.P pair.toNat) c).t0 else (pDare σ.p (σ.P pair.toNat) c).t1) := by
      have q := pDare_ok hp (v.P _ (show pair.toNat < 2 by omega)) k_3 k_2
      split
      · exact xr_c24 q.2.2.2.2.2.2.1
      · exact xr_c24 q.2.2.2.2.2.2.2.1
    refine x_i2l (dT U_L_dareBit 4 rfl) hz9 ?_
    refine x_lreturn (dT U_L_dareBit 5 rfl) rfl ?_
    exact k k_1 k_2 k_3 _ rfl hz9 h2 fc w2 (IV_dareBit v k_1 k_2 k_3)

set_option maxRecDepth 20000 in
set_option maxHeartbeats 1000000 in
theorem S_L_isBitAccepted {G : xG} {d rc rs : Nat} {ex : Bool} {h : xH} {Q : xQ} {σ : St} {pair : Int} (w : CW σ h) (v : INV σ) (h_pair : xr pair) (e1 : ¬ (inb pair 2) → Q (.inl (some (vl (-4000000000000000001)))) false h) (k1 : (inb pair 2) → (σ.P pair.toNat).st = 3 → Q (.inl (some (vl 1))) ex h) (k0 : (inb pair 2) → (¬ ((σ.P pair.toNat).st = 3)) → Q (.inl (some (vl 0))) ex h) : X G m_L_isBitAccepted (d + 8) (rc + 1) (rs + 6) ex 0 (xe m_L_isBitAccepted.2.2.1 [.ref 3, vi pair]) [] h Q := by
  show X G m_L_isBitAccepted _ _ _ _ 0 [some (.ref 3), some (vi pair), none] [] h Q
  have hp := PRb v.p
  have hq := gq_b v.p
  refine x_aload_n (dT U_L_isBitAccepted 0 rfl) rfl ?_
  refine x_iload_n (dT U_L_isBitAccepted 1 rfl) rfl ?_
  refine x_invokevirtualH (rc' := rc) (rs' := rs) (rc2 := 0 + 1) (rs2 := 0 + 6) (As := [_]) (st := _) M_X10_isBitAccepted K_L_160 (dT U_L_isBitAccepted 2 rfl) rfl (by decide) rfl rfl w.c3 (Nat.le_of_ble_eq_true rfl) (by decide) rfl (Nat.le_of_ble_eq_true rfl) rfl (by decide) (Nat.le_of_ble_eq_true rfl) (Nat.add_comm _ _ ▸ rfl) (Nat.add_comm _ _ ▸ rfl) ?_
  refine S_X10_isBitAccepted w v h_pair (fun k_1 => ?_) (fun k_1 k_2 => ?_) (fun k_1 k_2 => ?_)
  · refine xRetH_thr ?_
    refine ⟨[], (⟨0, 13, 14, 31⟩ : ExceptionTableEntry), [], rfl, fun z hz => absurd hz List.not_mem_nil, rfl, by decide, W_L_31, 2, 1, Or.inl ⟨2, (dT U_L_isBitAccepted 8 rfl), rfl, rfl⟩, by decide, ?_⟩
    refine x_ldc2 C_L_21 (dT U_L_isBitAccepted 9 rfl) ?_
    refine x_lreturn (dT U_L_isBitAccepted 10 rfl) rfl ?_
    exact e1 k_1
  · refine xRetH_some ?_
    refine x_if_eq (tgt := 12) (dT U_L_isBitAccepted 3 rfl) (by decide) (by unfold xr; omega) (fun z8 => ?_) (fun z8 => ?_)
    · exact absurd z8 (by decide)
    refine x_lconst (z := 1) (dT U_L_isBitAccepted 4 rfl) rfl ?_
    refine x_goto (tgt := 13) (dT U_L_isBitAccepted 5 rfl) (by decide) ?_
    refine x_lreturn (dT U_L_isBitAccepted 7 rfl) rfl ?_
    exact k1 k_1 k_2
  · refine xRetH_some ?_
    refine x_if_eq (tgt := 12) (dT U_L_isBitAccepted 3 rfl) (by decide) (by unfold xr; omega) (fun z8 => ?_) (fun z8 => ?_)
    rotate_left
    · exact absurd z8 (by decide)
    refine x_lconst (z := 0) (dT U_L_isBitAccepted 6 rfl) rfl ?_
    refine x_lreturn (dT U_L_isBitAccepted 7 rfl) rfl ?_
    exact k0 k_1 k_2

set_option maxRecDepth 20000 in
set_option maxHeartbeats 1000000 in
theorem S_L_bitTold {G : xG} {d rc rs : Nat} {ex : Bool} {h : xH} {Q : xQ} {σ : St} {pair side what : Int} (w : CW σ h) (v : INV σ) (h_pair : xr pair) (h_side : xr side) (h_what : xr what) (e1 : ¬ (inb pair 2) → Q (.inl (some (vl (-4000000000000000001)))) false h) (e2 : (inb pair 2) → ¬ (inb side 2 ∧ inb what 3) → Q (.inl (some (vl (-4000000000000000002)))) false h) (e3 : (inb pair 2) → (inb side 2 ∧ inb what 3) → ¬ ((σ.P pair.toNat).st = 3) → Q (.inl (some (vl (-4000000000000000003)))) false h) (k : (inb pair 2) → (inb side 2 ∧ inb what 3) → ((σ.P pair.toNat).st = 3) → ∀ z9 : Int, z9 = (if what = 0 then MM σ.p (if side = 0 then (σ.P pair.toNat).f0 else (σ.P pair.toNat).f1) else if what = 1 then (if side = 0 then (σ.P pair.toNat).c0 else (σ.P pair.toNat).c1) else (if side = 0 then (σ.P pair.toNat).t0 else (σ.P pair.toNat).t1)) → xr z9 → Q (.inl (some (vl z9))) ex h) : X G m_L_bitTold (d + 8) (rc + 4) (rs + 24) ex 0 (xe m_L_bitTold.2.2.1 [.ref 3, vi pair, vi side, vi what]) [] h Q := by
  show X G m_L_bitTold _ _ _ _ 0 [some (.ref 3), some (vi pair), some (vi side), some (vi what), none] [] h Q
  have hp := PRb v.p
  have hq := gq_b v.p
  refine x_aload_n (dT U_L_bitTold 0 rfl) rfl ?_
  refine x_iload_n (dT U_L_bitTold 1 rfl) rfl ?_
  refine x_iload_n (dT U_L_bitTold 2 rfl) rfl ?_
  refine x_iload_n (dT U_L_bitTold 3 rfl) rfl ?_
  refine x_invokevirtualH (rc' := rc) (rs' := rs) (rc2 := 0 + 4) (rs2 := 0 + 24) (As := [_, _, _]) (st := _) M_X10_bitTold K_L_163 (dT U_L_bitTold 4 rfl) rfl (by decide) rfl rfl w.c3 (Nat.le_of_ble_eq_true rfl) (by decide) rfl (Nat.le_of_ble_eq_true rfl) rfl (by decide) (Nat.le_of_ble_eq_true rfl) (Nat.add_comm _ _ ▸ rfl) (Nat.add_comm _ _ ▸ rfl) ?_
  refine S_X10_bitTold w v h_pair h_side h_what (fun k_1 => ?_) (fun k_1 k_2 => ?_) (fun k_1 k_2 k_3 => ?_) (fun k_1 k_2 k_3 => ?_)
  · refine xRetH_thr ?_
    refine ⟨[], (⟨0, 8, 9, 31⟩ : ExceptionTableEntry), [(⟨0, 8, 15, 17⟩ : ExceptionTableEntry), (⟨0, 8, 21, 53⟩ : ExceptionTableEntry)], rfl, fun z hz => absurd hz List.not_mem_nil, rfl, by decide, W_L_31, 4, 2, Or.inr ⟨(dT U_L_bitTold 7 rfl), rfl⟩, by decide, ?_⟩
    refine x_ldc2 C_L_21 (dT U_L_bitTold 8 rfl) ?_
    refine x_lreturn (dT U_L_bitTold 9 rfl) rfl ?_
    exact e1 k_1
  · refine xRetH_thr ?_
    refine ⟨[(⟨0, 8, 9, 31⟩ : ExceptionTableEntry)], (⟨0, 8, 15, 17⟩ : ExceptionTableEntry), [(⟨0, 8, 21, 53⟩ : ExceptionTableEntry)], rfl, fun z hz => by
        simp only [List.mem_cons, List.not_mem_nil, or_false] at hz
        subst hz
        exact ⟨by decide, "java/lang/IndexOutOfBoundsException", by decide, by decide, W_L_31⟩, rfl, by decide, W_L_17, 4, 2, Or.inr ⟨(dT U_L_bitTold 10 rfl), rfl⟩, by decide, ?_⟩
    refine x_ldc2 C_L_43 (dT U_L_bitTold 11 rfl) ?_
    refine x_lreturn (dT U_L_bitTold 12 rfl) rfl ?_
    exact e2 k_1 k_2
  · refine xRetH_thr ?_
    refine ⟨[(⟨0, 8, 9, 31⟩ : ExceptionTableEntry), (⟨0, 8, 15, 17⟩ : ExceptionTableEntry)], (⟨0, 8, 21, 53⟩ : ExceptionTableEntry), [], rfl, fun z hz => by
        simp only [List.mem_cons, List.not_mem_nil, or_false] at hz
        rcases hz with rfl | rfl
        · exact ⟨by decide, "java/lang/IndexOutOfBoundsException", by decide, by decide, W_L_31⟩
        · exact ⟨by decide, "java/lang/IllegalArgumentException", by decide, by decide, W_L_17⟩, rfl, by decide, W_L_53, 4, 2, Or.inr ⟨(dT U_L_bitTold 13 rfl), rfl⟩, by decide, ?_⟩
    refine x_ldc2 C_L_60 (dT U_L_bitTold 14 rfl) ?_
    refine x_lreturn (dT U_L_bitTold 15 rfl) rfl ?_
    exact e3 k_1 k_2 k_3
  · refine xRetH_some ?_
    have hz9 : xr (if what = 0 then MM σ.p (if side = 0 then (σ.P pair.toNat).f0 else (σ.P pair.toNat).f1) else if what = 1 then (if side = 0 then (σ.P pair.toNat).c0 else (σ.P pair.toNat).c1) else (if side = 0 then (σ.P pair.toNat).t0 else (σ.P pair.toNat).t1)) := by
      have q := (v.P _ (show pair.toNat < 2 by omega))
      split
      · exact xr_MM v.p
      split
      · split
        · exact xr_c24 q.2.2.2.2.1
        · exact xr_c24 q.2.2.2.2.2.1
      · split
        · exact xr_c24 q.2.2.2.2.2.2.1
        · exact xr_c24 q.2.2.2.2.2.2.2.1
    refine x_i2l (dT U_L_bitTold 5 rfl) hz9 ?_
    refine x_lreturn (dT U_L_bitTold 6 rfl) rfl ?_
    exact k k_1 k_2 k_3 _ rfl hz9

set_option maxRecDepth 20000 in
set_option maxHeartbeats 1000000 in
theorem S_L_bitLike {G : xG} {d rc rs : Nat} {ex : Bool} {h : xH} {Q : xQ} {σ : St} {pair bit : Int} (w : CW σ h) (v : INV σ) (h_pair : xr pair) (h_bit : xr bit) (e1 : ¬ (inb pair 2) → Q (.inl (some (vl (-4000000000000000001)))) false h) (e2 : (inb pair 2) → ¬ (inb bit 2) → Q (.inl (some (vl (-4000000000000000002)))) false h) (e3 : (inb pair 2) → (inb bit 2) → ¬ ((σ.P pair.toNat).st = 3) → Q (.inl (some (vl (-4000000000000000003)))) false h) (k : (inb pair 2) → (inb bit 2) → ((σ.P pair.toNat).st = 3) → ∀ z9 : Int, z9 = (1) → xr z9 → Q (.inl (some (vl z9))) ex h) : X G m_L_bitLike (d + 8) (rc + 3) (rs + 18) ex 0 (xe m_L_bitLike.2.2.1 [.ref 3, vi pair, vi bit]) [] h Q := by
  show X G m_L_bitLike _ _ _ _ 0 [some (.ref 3), some (vi pair), some (vi bit), none] [] h Q
  have hp := PRb v.p
  have hq := gq_b v.p
  refine x_aload_n (dT U_L_bitLike 0 rfl) rfl ?_
  refine x_iload_n (dT U_L_bitLike 1 rfl) rfl ?_
  refine x_iload_n (dT U_L_bitLike 2 rfl) rfl ?_
  refine x_invokevirtualH (rc' := rc) (rs' := rs) (rc2 := 0 + 3) (rs2 := 0 + 18) (As := [_, _]) (st := _) M_X10_bitLike K_L_166 (dT U_L_bitLike 3 rfl) rfl (by decide) rfl rfl w.c3 (Nat.le_of_ble_eq_true rfl) (by decide) rfl (Nat.le_of_ble_eq_true rfl) rfl (by decide) (Nat.le_of_ble_eq_true rfl) (Nat.add_comm _ _ ▸ rfl) (Nat.add_comm _ _ ▸ rfl) ?_
  refine S_X10_bitLike w v h_pair h_bit (fun k_1 => ?_) (fun k_1 k_2 => ?_) (fun k_1 k_2 k_3 => ?_) (fun k_1 k_2 k_3 => ?_)
  · refine xRetH_thr ?_
    refine ⟨[], (⟨0, 7, 8, 31⟩ : ExceptionTableEntry), [(⟨0, 7, 13, 17⟩ : ExceptionTableEntry), (⟨0, 7, 18, 53⟩ : ExceptionTableEntry)], rfl, fun z hz => absurd hz List.not_mem_nil, rfl, by decide, W_L_31, 3, 1, Or.inl ⟨3, (dT U_L_bitLike 6 rfl), rfl, rfl⟩, by decide, ?_⟩
    refine x_ldc2 C_L_21 (dT U_L_bitLike 7 rfl) ?_
    refine x_lreturn (dT U_L_bitLike 8 rfl) rfl ?_
    exact e1 k_1
  · refine xRetH_thr ?_
    refine ⟨[(⟨0, 7, 8, 31⟩ : ExceptionTableEntry)], (⟨0, 7, 13, 17⟩ : ExceptionTableEntry), [(⟨0, 7, 18, 53⟩ : ExceptionTableEntry)], rfl, fun z hz => by
        simp only [List.mem_cons, List.not_mem_nil, or_false] at hz
        subst hz
        exact ⟨by decide, "java/lang/IndexOutOfBoundsException", by decide, by decide, W_L_31⟩, rfl, by decide, W_L_17, 3, 1, Or.inl ⟨3, (dT U_L_bitLike 9 rfl), rfl, rfl⟩, by decide, ?_⟩
    refine x_ldc2 C_L_43 (dT U_L_bitLike 10 rfl) ?_
    refine x_lreturn (dT U_L_bitLike 11 rfl) rfl ?_
    exact e2 k_1 k_2
  · refine xRetH_thr ?_
    refine ⟨[(⟨0, 7, 8, 31⟩ : ExceptionTableEntry), (⟨0, 7, 13, 17⟩ : ExceptionTableEntry)], (⟨0, 7, 18, 53⟩ : ExceptionTableEntry), [], rfl, fun z hz => by
        simp only [List.mem_cons, List.not_mem_nil, or_false] at hz
        rcases hz with rfl | rfl
        · exact ⟨by decide, "java/lang/IndexOutOfBoundsException", by decide, by decide, W_L_31⟩
        · exact ⟨by decide, "java/lang/IllegalArgumentException", by decide, by decide, W_L_17⟩, rfl, by decide, W_L_53, 3, 1, Or.inl ⟨3, (dT U_L_bitLike 12 rfl), rfl, rfl⟩, by decide, ?_⟩
    refine x_ldc2 C_L_60 (dT U_L_bitLike 13 rfl) ?_
    refine x_lreturn (dT U_L_bitLike 14 rfl) rfl ?_
    exact e3 k_1 k_2 k_3
  · refine xRetH_some ?_
    have hz9 : xr (1) := by
      unfold xr; omega
    refine x_i2l (dT U_L_bitLike 4 rfl) hz9 ?_
    refine x_lreturn (dT U_L_bitLike 5 rfl) rfl ?_
    exact k k_1 k_2 k_3 _ rfl hz9

set_option maxRecDepth 20000 in
set_option maxHeartbeats 1000000 in
theorem S_L_total {G : xG} {d rc rs : Nat} {ex : Bool} {h : xH} {Q : xQ} {σ : St} {row : Int} (w : CW σ h) (v : INV σ) (h_row : xr row) (e1 : ¬ (inb row 8) → Q (.inl (some (vl (-4000000000000000001)))) false h) (k : (inb row 8) → ∀ z9 : Int, z9 = (sm (gf (σ.rw row.toNat)) 8 % (σ.p : Int)) → xr z9 → Q (.inl (some (vl z9))) ex h) : X G m_L_total (d + 8) (rc + 1) (rs + 6) ex 0 (xe m_L_total.2.2.1 [.ref 3, vi row]) [] h Q := by
  show X G m_L_total _ _ _ _ 0 [some (.ref 3), some (vi row), none] [] h Q
  have hp := PRb v.p
  have hq := gq_b v.p
  refine x_aload_n (dT U_L_total 0 rfl) rfl ?_
  refine x_iload_n (dT U_L_total 1 rfl) rfl ?_
  refine x_invokevirtualH (rc' := rc) (rs' := rs) (rc2 := 0 + 1) (rs2 := 0 + 6) (As := [_]) (st := _) M_X10_total K_L_169 (dT U_L_total 2 rfl) rfl (by decide) rfl rfl w.c3 (Nat.le_of_ble_eq_true rfl) (by decide) rfl (Nat.le_of_ble_eq_true rfl) rfl (by decide) (Nat.le_of_ble_eq_true rfl) (Nat.add_comm _ _ ▸ rfl) (Nat.add_comm _ _ ▸ rfl) ?_
  refine S_X10_total w v h_row (fun k_1 => ?_) (fun k_1 => ?_)
  · refine xRetH_thr ?_
    refine ⟨[], (⟨0, 6, 7, 31⟩ : ExceptionTableEntry), [], rfl, fun z hz => absurd hz List.not_mem_nil, rfl, by decide, W_L_31, 2, 1, Or.inl ⟨2, (dT U_L_total 5 rfl), rfl, rfl⟩, by decide, ?_⟩
    refine x_ldc2 C_L_21 (dT U_L_total 6 rfl) ?_
    refine x_lreturn (dT U_L_total 7 rfl) rfl ?_
    exact e1 k_1
  · refine xRetH_some ?_
    have hz9 : xr (sm (gf (σ.rw row.toNat)) 8 % (σ.p : Int)) := by
      exact xr_md ⟨by omega, by omega⟩
    refine x_i2l (dT U_L_total 3 rfl) hz9 ?_
    refine x_lreturn (dT U_L_total 4 rfl) rfl ?_
    exact k k_1 _ rfl hz9

set_option maxRecDepth 20000 in
set_option maxHeartbeats 1000000 in
theorem S_L_extend {G : xG} {d rc rs : Nat} {ex : Bool} {h : xH} {Q : xQ} {σ : St} {row x y z : Int} (w : CW σ h) (v : INV σ) (h_row : xr row) (h_x : xr x) (h_y : xr y) (h_z : xr z) (e1 : ¬ (inb row 8) → Q (.inl (some (vl (-4000000000000000001)))) false h) (e2 : (inb row 8) → ¬ (inb x σ.p ∧ inb y σ.p ∧ inb z σ.p) → Q (.inl (some (vl (-4000000000000000002)))) false h) (k : (inb row 8) → (inb x σ.p ∧ inb y σ.p ∧ inb z σ.p) → ∀ z9 : Int, z9 = ((ext (σ.p : Int) (σ.rw row.toNat) x y z).getD 0 0) → xr z9 → ∀ h2, FC h h2 → CW σ h2 → INV σ → Q (.inl (some (vl z9))) ex h2) : X G m_L_extend (d + 8) (rc + 4) (rs + 24) ex 0 (xe m_L_extend.2.2.1 [.ref 3, vi row, vi x, vi y, vi z]) [] h Q := by
  show X G m_L_extend _ _ _ _ 0 [some (.ref 3), some (vi row), some (vi x), some (vi y), some (vi z), none] [] h Q
  have hp := PRb v.p
  have hq := gq_b v.p
  refine x_aload_n (dT U_L_extend 0 rfl) rfl ?_
  refine x_iload_n (dT U_L_extend 1 rfl) rfl ?_
  refine x_iload_n (dT U_L_extend 2 rfl) rfl ?_
  refine x_iload_n (dT U_L_extend 3 rfl) rfl ?_
  refine x_iload (dT U_L_extend 4 rfl) rfl ?_
  refine x_invokevirtualH (rc' := rc) (rs' := rs) (rc2 := 0 + 4) (rs2 := 0 + 24) (As := [_, _, _, _]) (st := _) M_X10_extend K_L_172 (dT U_L_extend 5 rfl) rfl (by decide) rfl rfl w.c3 (Nat.le_of_ble_eq_true rfl) (by decide) rfl (Nat.le_of_ble_eq_true rfl) rfl (by decide) (Nat.le_of_ble_eq_true rfl) (Nat.add_comm _ _ ▸ rfl) (Nat.add_comm _ _ ▸ rfl) ?_
  refine S_X10_extend w v h_row h_x h_y h_z (fun k_1 => ?_) (fun k_1 k_2 => ?_) (fun k_1 k_2 h2 fc w2 => ?_)
  · refine xRetH_thr ?_
    refine ⟨[], (⟨0, 10, 11, 31⟩ : ExceptionTableEntry), [(⟨0, 10, 17, 17⟩ : ExceptionTableEntry)], rfl, fun z hz => absurd hz List.not_mem_nil, rfl, by decide, W_L_31, 5, 2, Or.inr ⟨(dT U_L_extend 8 rfl), rfl⟩, by decide, ?_⟩
    refine x_ldc2 C_L_21 (dT U_L_extend 9 rfl) ?_
    refine x_lreturn (dT U_L_extend 10 rfl) rfl ?_
    exact e1 k_1
  · refine xRetH_thr ?_
    refine ⟨[(⟨0, 10, 11, 31⟩ : ExceptionTableEntry)], (⟨0, 10, 17, 17⟩ : ExceptionTableEntry), [], rfl, fun z hz => by
        simp only [List.mem_cons, List.not_mem_nil, or_false] at hz
        subst hz
        exact ⟨by decide, "java/lang/IndexOutOfBoundsException", by decide, by decide, W_L_31⟩, rfl, by decide, W_L_17, 5, 2, Or.inr ⟨(dT U_L_extend 11 rfl), rfl⟩, by decide, ?_⟩
    refine x_ldc2 C_L_43 (dT U_L_extend 12 rfl) ?_
    refine x_lreturn (dT U_L_extend 13 rfl) rfl ?_
    exact e2 k_1 k_2
  · refine xRetH_some ?_
    have hz9 : xr ((ext (σ.p : Int) (σ.rw row.toNat) x y z).getD 0 0) := by
      have q := bnd_F (r := 2) (w := z) (show (0 : Int) < σ.p by omega) (bnd_F (r := 1) (w := y) (show (0 : Int) < σ.p by omega) (bnd_F (r := 0) (w := x) (show (0 : Int) < σ.p by omega) (v.rw _ (show row.toNat < 8 by omega))))
      exact F24 hp q _
    refine x_i2l (dT U_L_extend 6 rfl) hz9 ?_
    refine x_lreturn (dT U_L_extend 7 rfl) rfl ?_
    exact k k_1 k_2 _ rfl hz9 h2 fc w2 v

set_option maxRecDepth 20000 in
set_option maxHeartbeats 1000000 in
theorem S_L_play {G : xG} {d rc rs : Nat} {ex : Bool} {h : xH} {Q : xQ} {σ : St} {row claim : Int} (w : CW σ h) (v : INV σ) (h_row : xr row) (h_claim : xr claim) (e1 : ¬ (inb row 8) → Q (.inl (some (vl (-4000000000000000001)))) false h) (e2 : (inb row 8) → ¬ (inb claim σ.p) → Q (.inl (some (vl (-4000000000000000002)))) false h) (k : (inb row 8) → (inb claim σ.p) → ∀ z9 : Int, z9 = (wnn σ.p (σ.rw row.toNat) 0 0 claim σ.g.z σ.g.o) → xr z9 → ∀ i9 : Int, (i9 = 1 ∧ claim = cr σ.p (σ.rw row.toNat) 0 ∨ i9 = 0) → ∀ h2, FC h h2 → CW ((σ.sg (1, 0, i9, claim, 0, σ.g.z, σ.g.o, σ.rw row.toNat, σ.rw row.toNat, σ.g.dr))) h2 → INV ((σ.sg (1, 0, i9, claim, 0, σ.g.z, σ.g.o, σ.rw row.toNat, σ.rw row.toNat, σ.g.dr))) → Q (.inl (some (vl z9))) ex h2) : X G m_L_play (d + 8) (rc + 2) (rs + 12) ex 0 (xe m_L_play.2.2.1 [.ref 3, vi row, vi claim]) [] h Q := by
  show X G m_L_play _ _ _ _ 0 [some (.ref 3), some (vi row), some (vi claim), none] [] h Q
  have hp := PRb v.p
  have hq := gq_b v.p
  refine x_aload_n (dT U_L_play 0 rfl) rfl ?_
  refine x_iload_n (dT U_L_play 1 rfl) rfl ?_
  refine x_iload_n (dT U_L_play 2 rfl) rfl ?_
  refine x_invokevirtualH (rc' := rc) (rs' := rs) (rc2 := 0 + 2) (rs2 := 0 + 12) (As := [_, _]) (st := _) M_X10_play K_L_175 (dT U_L_play 3 rfl) rfl (by decide) rfl rfl w.c3 (Nat.le_of_ble_eq_true rfl) (by decide) rfl (Nat.le_of_ble_eq_true rfl) rfl (by decide) (Nat.le_of_ble_eq_true rfl) (Nat.add_comm _ _ ▸ rfl) (Nat.add_comm _ _ ▸ rfl) ?_
  refine S_X10_play w v h_row h_claim (fun k_1 => ?_) (fun k_1 k_2 => ?_) (fun k_1 k_2 i9 q9 h2 fc w2 => ?_)
  · refine xRetH_thr ?_
    refine ⟨[], (⟨0, 7, 8, 31⟩ : ExceptionTableEntry), [(⟨0, 7, 13, 17⟩ : ExceptionTableEntry)], rfl, fun z hz => absurd hz List.not_mem_nil, rfl, by decide, W_L_31, 3, 1, Or.inl ⟨3, (dT U_L_play 6 rfl), rfl, rfl⟩, by decide, ?_⟩
    refine x_ldc2 C_L_21 (dT U_L_play 7 rfl) ?_
    refine x_lreturn (dT U_L_play 8 rfl) rfl ?_
    exact e1 k_1
  · refine xRetH_thr ?_
    refine ⟨[(⟨0, 7, 8, 31⟩ : ExceptionTableEntry)], (⟨0, 7, 13, 17⟩ : ExceptionTableEntry), [], rfl, fun z hz => by
        simp only [List.mem_cons, List.not_mem_nil, or_false] at hz
        subst hz
        exact ⟨by decide, "java/lang/IndexOutOfBoundsException", by decide, by decide, W_L_31⟩, rfl, by decide, W_L_17, 3, 1, Or.inl ⟨3, (dT U_L_play 9 rfl), rfl, rfl⟩, by decide, ?_⟩
    refine x_ldc2 C_L_43 (dT U_L_play 10 rfl) ?_
    refine x_lreturn (dT U_L_play 11 rfl) rfl ?_
    exact e2 k_1 k_2
  · refine xRetH_some ?_
    have hz9 : xr (wnn σ.p (σ.rw row.toNat) 0 0 claim σ.g.z σ.g.o) := by
      exact xr_wnn v.p
    refine x_i2l (dT U_L_play 4 rfl) hz9 ?_
    refine x_lreturn (dT U_L_play 5 rfl) rfl ?_
    exact k k_1 k_2 _ rfl hz9 i9 q9 h2 fc w2 (IV_play v k_1 k_2 q9)

set_option maxRecDepth 20000 in
set_option maxHeartbeats 1000000 in
theorem S_L_send {G : xG} {d rc rs : Nat} {ex : Bool} {h : xH} {Q : xQ} {σ : St} {zero one : Int} (w : CW σ h) (v : INV σ) (h_zero : xr zero) (h_one : xr one) (e1 : ¬ (inb zero σ.p ∧ inb one σ.p) → Q (.inl (some (vl (-4000000000000000001)))) false h) (e2 : (inb zero σ.p ∧ inb one σ.p) → ¬ (σ.g.b = 1 ∧ σ.g.s = 0 ∧ σ.g.r < 3) → Q (.inl (some (vl (-4000000000000000002)))) false h) (e3 : (inb zero σ.p ∧ inb one σ.p) → (σ.g.b = 1 ∧ σ.g.s = 0 ∧ σ.g.r < 3) → ¬ ((zero + one) % (σ.p : Int) = σ.g.c) → Q (.inl (some (vl (-4000000000000000003)))) false h) (k : (inb zero σ.p ∧ inb one σ.p) → (σ.g.b = 1 ∧ σ.g.s = 0 ∧ σ.g.r < 3) → ((zero + one) % (σ.p : Int) = σ.g.c) → ∀ z9 : Int, z9 = (wnn σ.p σ.g.l σ.g.r 1 σ.g.c zero one) → xr z9 → ∀ i9 : Int, (i9 = 1 ∧ σ.g.i = 1 ∧ zero = rz σ.p σ.g.l σ.g.r ∧ one = ro σ.p σ.g.l σ.g.r ∨ i9 = 0) → ∀ h2, FC h h2 → CW ((σ.sg (σ.g.b, 1, i9, σ.g.c, σ.g.r, zero, one, σ.g.l, σ.g.tbl, σ.g.dr))) h2 → INV ((σ.sg (σ.g.b, 1, i9, σ.g.c, σ.g.r, zero, one, σ.g.l, σ.g.tbl, σ.g.dr))) → Q (.inl (some (vl z9))) ex h2) : X G m_L_send (d + 8) (rc + 4) (rs + 24) ex 0 (xe m_L_send.2.2.1 [.ref 3, vi zero, vi one]) [] h Q := by
  show X G m_L_send _ _ _ _ 0 [some (.ref 3), some (vi zero), some (vi one), none] [] h Q
  have hp := PRb v.p
  have hq := gq_b v.p
  refine x_aload_n (dT U_L_send 0 rfl) rfl ?_
  refine x_iload_n (dT U_L_send 1 rfl) rfl ?_
  refine x_iload_n (dT U_L_send 2 rfl) rfl ?_
  refine x_invokevirtualH (rc' := rc) (rs' := rs) (rc2 := 0 + 4) (rs2 := 0 + 24) (As := [_, _]) (st := _) M_X10_send K_L_178 (dT U_L_send 3 rfl) rfl (by decide) rfl rfl w.c3 (Nat.le_of_ble_eq_true rfl) (by decide) rfl (Nat.le_of_ble_eq_true rfl) rfl (by decide) (Nat.le_of_ble_eq_true rfl) (Nat.add_comm _ _ ▸ rfl) (Nat.add_comm _ _ ▸ rfl) ?_
  refine S_X10_send w v h_zero h_one (fun k_1 => ?_) (fun k_1 k_2 => ?_) (fun k_1 k_2 k_3 => ?_) (fun k_1 k_2 k_3 i9 q9 h2 fc w2 => ?_)
  · refine xRetH_thr ?_
    refine ⟨[], (⟨0, 7, 8, 17⟩ : ExceptionTableEntry), [(⟨0, 7, 13, 53⟩ : ExceptionTableEntry), (⟨0, 7, 18, 58⟩ : ExceptionTableEntry)], rfl, fun z hz => absurd hz List.not_mem_nil, rfl, by decide, W_L_17, 3, 1, Or.inl ⟨3, (dT U_L_send 6 rfl), rfl, rfl⟩, by decide, ?_⟩
    refine x_ldc2 C_L_21 (dT U_L_send 7 rfl) ?_
    refine x_lreturn (dT U_L_send 8 rfl) rfl ?_
    exact e1 k_1
  · refine xRetH_thr ?_
    refine ⟨[(⟨0, 7, 8, 17⟩ : ExceptionTableEntry)], (⟨0, 7, 13, 53⟩ : ExceptionTableEntry), [(⟨0, 7, 18, 58⟩ : ExceptionTableEntry)], rfl, fun z hz => by
        simp only [List.mem_cons, List.not_mem_nil, or_false] at hz
        subst hz
        exact ⟨by decide, "java/lang/IllegalArgumentException", by decide, by decide, W_L_17⟩, rfl, by decide, W_L_53, 3, 1, Or.inl ⟨3, (dT U_L_send 9 rfl), rfl, rfl⟩, by decide, ?_⟩
    refine x_ldc2 C_L_43 (dT U_L_send 10 rfl) ?_
    refine x_lreturn (dT U_L_send 11 rfl) rfl ?_
    exact e2 k_1 k_2
  · refine xRetH_thr ?_
    refine ⟨[(⟨0, 7, 8, 17⟩ : ExceptionTableEntry), (⟨0, 7, 13, 53⟩ : ExceptionTableEntry)], (⟨0, 7, 18, 58⟩ : ExceptionTableEntry), [], rfl, fun z hz => by
        simp only [List.mem_cons, List.not_mem_nil, or_false] at hz
        rcases hz with rfl | rfl
        · exact ⟨by decide, "java/lang/IllegalArgumentException", by decide, by decide, W_L_17⟩
        · exact ⟨by decide, "java/lang/IllegalStateException", by decide, by decide, W_L_53⟩, rfl, by decide, W_L_58, 3, 1, Or.inl ⟨3, (dT U_L_send 12 rfl), rfl, rfl⟩, by decide, ?_⟩
    refine x_ldc2 C_L_60 (dT U_L_send 13 rfl) ?_
    refine x_lreturn (dT U_L_send 14 rfl) rfl ?_
    exact e3 k_1 k_2 k_3
  · refine xRetH_some ?_
    have hz9 : xr (wnn σ.p σ.g.l σ.g.r 1 σ.g.c zero one) := by
      exact xr_wnn v.p
    refine x_i2l (dT U_L_send 4 rfl) hz9 ?_
    refine x_lreturn (dT U_L_send 5 rfl) rfl ?_
    exact k k_1 k_2 k_3 _ rfl hz9 i9 q9 h2 fc w2 (IV_send v k_1 k_2 k_3 q9)

set_option maxRecDepth 20000 in
set_option maxHeartbeats 1000000 in
theorem S_L_draw {G : xG} {d rc rs : Nat} {ex : Bool} {h : xH} {Q : xQ} {σ : St} {c : Int} (w : CW σ h) (v : INV σ) (h_c : xr c) (e1 : ¬ (inb c σ.p) → Q (.inl (some (vl (-4000000000000000001)))) false h) (e2 : (inb c σ.p) → ¬ (σ.g.b = 1 ∧ σ.g.s = 1) → Q (.inl (some (vl (-4000000000000000002)))) false h) (k : (inb c σ.p) → (σ.g.b = 1 ∧ σ.g.s = 1) → ∀ z9 : Int, z9 = (ln σ.p σ.g.z σ.g.o c) → xr z9 → ∀ h2, FC h h2 → CW ((σ.sg (σ.g.b, 0, σ.g.i, ln σ.p σ.g.z σ.g.o c, σ.g.r + 1, σ.g.z, σ.g.o, bnd σ.p σ.g.l σ.g.r c, σ.g.tbl, σ.g.dr.set σ.g.r c))) h2 → INV ((σ.sg (σ.g.b, 0, σ.g.i, ln σ.p σ.g.z σ.g.o c, σ.g.r + 1, σ.g.z, σ.g.o, bnd σ.p σ.g.l σ.g.r c, σ.g.tbl, σ.g.dr.set σ.g.r c))) → Q (.inl (some (vl z9))) ex h2) : X G m_L_draw (d + 8) (rc + 2) (rs + 12) ex 0 (xe m_L_draw.2.2.1 [.ref 3, vi c]) [] h Q := by
  show X G m_L_draw _ _ _ _ 0 [some (.ref 3), some (vi c), none] [] h Q
  have hp := PRb v.p
  have hq := gq_b v.p
  refine x_aload_n (dT U_L_draw 0 rfl) rfl ?_
  refine x_iload_n (dT U_L_draw 1 rfl) rfl ?_
  refine x_invokevirtualH (rc' := rc) (rs' := rs) (rc2 := 0 + 2) (rs2 := 0 + 12) (As := [_]) (st := _) M_X10_draw K_L_181 (dT U_L_draw 2 rfl) rfl (by decide) rfl rfl w.c3 (Nat.le_of_ble_eq_true rfl) (by decide) rfl (Nat.le_of_ble_eq_true rfl) rfl (by decide) (Nat.le_of_ble_eq_true rfl) (Nat.add_comm _ _ ▸ rfl) (Nat.add_comm _ _ ▸ rfl) ?_
  refine S_X10_draw w v h_c (fun k_1 => ?_) (fun k_1 k_2 => ?_) (fun k_1 k_2 h2 fc w2 => ?_)
  · refine xRetH_thr ?_
    refine ⟨[], (⟨0, 6, 7, 17⟩ : ExceptionTableEntry), [(⟨0, 6, 12, 53⟩ : ExceptionTableEntry)], rfl, fun z hz => absurd hz List.not_mem_nil, rfl, by decide, W_L_17, 2, 1, Or.inl ⟨2, (dT U_L_draw 5 rfl), rfl, rfl⟩, by decide, ?_⟩
    refine x_ldc2 C_L_21 (dT U_L_draw 6 rfl) ?_
    refine x_lreturn (dT U_L_draw 7 rfl) rfl ?_
    exact e1 k_1
  · refine xRetH_thr ?_
    refine ⟨[(⟨0, 6, 7, 17⟩ : ExceptionTableEntry)], (⟨0, 6, 12, 53⟩ : ExceptionTableEntry), [], rfl, fun z hz => by
        simp only [List.mem_cons, List.not_mem_nil, or_false] at hz
        subst hz
        exact ⟨by decide, "java/lang/IllegalArgumentException", by decide, by decide, W_L_17⟩, rfl, by decide, W_L_53, 2, 1, Or.inl ⟨2, (dT U_L_draw 8 rfl), rfl, rfl⟩, by decide, ?_⟩
    refine x_ldc2 C_L_43 (dT U_L_draw 9 rfl) ?_
    refine x_lreturn (dT U_L_draw 10 rfl) rfl ?_
    exact e2 k_1 k_2
  · refine xRetH_some ?_
    have hz9 : xr (ln σ.p σ.g.z σ.g.o c) := by
      exact xr_md ⟨by omega, by omega⟩
    refine x_i2l (dT U_L_draw 3 rfl) hz9 ?_
    refine x_lreturn (dT U_L_draw 4 rfl) rfl ?_
    exact k k_1 k_2 _ rfl hz9 h2 fc w2 (IV_draw v k_1 k_2)

set_option maxRecDepth 20000 in
set_option maxHeartbeats 1000000 in
theorem S_L_honest {G : xG} {d rc rs : Nat} {ex : Bool} {h : xH} {Q : xQ} {σ : St} (w : CW σ h) (v : INV σ) (e1 : ¬ (σ.g.b = 1 ∧ σ.g.s = 0 ∧ σ.g.r < 3) → Q (.inl (some (vl (-4000000000000000001)))) false h) (k : (σ.g.b = 1 ∧ σ.g.s = 0 ∧ σ.g.r < 3) → ∀ z9 : Int, z9 = (32 * rz σ.p σ.g.l σ.g.r + ro σ.p σ.g.l σ.g.r) → xr z9 → Q (.inl (some (vl z9))) ex h) : X G m_L_honest (d + 8) (rc + 1) (rs + 6) ex 0 (xe m_L_honest.2.2.1 [.ref 3]) [] h Q := by
  show X G m_L_honest _ _ _ _ 0 [some (.ref 3), none] [] h Q
  have hp := PRb v.p
  have hq := gq_b v.p
  refine x_aload_n (dT U_L_honest 0 rfl) rfl ?_
  refine x_invokevirtualH (rc' := rc) (rs' := rs) (rc2 := 0 + 1) (rs2 := 0 + 6) (As := []) (st := _) M_X10_honest K_L_184 (dT U_L_honest 1 rfl) rfl (by decide) rfl rfl w.c3 (Nat.le_of_ble_eq_true rfl) (by decide) rfl (Nat.le_of_ble_eq_true rfl) rfl (by decide) (Nat.le_of_ble_eq_true rfl) (Nat.add_comm _ _ ▸ rfl) (Nat.add_comm _ _ ▸ rfl) ?_
  refine S_X10_honest w v  (fun k_1 => ?_) (fun k_1 => ?_)
  · refine xRetH_thr ?_
    refine ⟨[], (⟨0, 5, 6, 53⟩ : ExceptionTableEntry), [], rfl, fun z hz => absurd hz List.not_mem_nil, rfl, by decide, W_L_53, 1, 1, Or.inl ⟨1, (dT U_L_honest 4 rfl), rfl, rfl⟩, by decide, ?_⟩
    refine x_ldc2 C_L_21 (dT U_L_honest 5 rfl) ?_
    refine x_lreturn (dT U_L_honest 6 rfl) rfl ?_
    exact e1 k_1
  · refine xRetH_some ?_
    have hz9 : xr (32 * rz σ.p σ.g.l σ.g.r + ro σ.p σ.g.l σ.g.r) := by
      have a1 := modb (z := sm (gf σ.g.l) (hlf σ.g.r)) (p := (σ.p : Int)) (by omega)
      have a2 := modb (z := sm (gf σ.g.l) (2 * hlf σ.g.r) - sm (gf σ.g.l) (hlf σ.g.r)) (p := (σ.p : Int)) (by omega)
      unfold rz ro xr; omega
    refine x_i2l (dT U_L_honest 2 rfl) hz9 ?_
    refine x_lreturn (dT U_L_honest 3 rfl) rfl ?_
    exact k k_1 _ rfl hz9

set_option maxRecDepth 20000 in
set_option maxHeartbeats 1000000 in
theorem S_L_isWon {G : xG} {d rc rs : Nat} {ex : Bool} {h : xH} {Q : xQ} {σ : St} (w : CW σ h) (v : INV σ) (e1 : ¬ (σ.g.b = 1) → Q (.inl (some (vl (-4000000000000000001)))) false h) (k1 : (σ.g.b = 1) → (σ.g.r = 3 ∧ σ.g.c = cr σ.p σ.g.l σ.g.r) → Q (.inl (some (vl 1))) ex h) (k0 : (σ.g.b = 1) → (¬ (σ.g.r = 3 ∧ σ.g.c = cr σ.p σ.g.l σ.g.r)) → Q (.inl (some (vl 0))) ex h) : X G m_L_isWon (d + 8) (rc + 1) (rs + 6) ex 0 (xe m_L_isWon.2.2.1 [.ref 3]) [] h Q := by
  show X G m_L_isWon _ _ _ _ 0 [some (.ref 3), none] [] h Q
  have hp := PRb v.p
  have hq := gq_b v.p
  refine x_aload_n (dT U_L_isWon 0 rfl) rfl ?_
  refine x_invokevirtualH (rc' := rc) (rs' := rs) (rc2 := 0 + 1) (rs2 := 0 + 6) (As := []) (st := _) M_X10_isWon K_L_187 (dT U_L_isWon 1 rfl) rfl (by decide) rfl rfl w.c3 (Nat.le_of_ble_eq_true rfl) (by decide) rfl (Nat.le_of_ble_eq_true rfl) rfl (by decide) (Nat.le_of_ble_eq_true rfl) (Nat.add_comm _ _ ▸ rfl) (Nat.add_comm _ _ ▸ rfl) ?_
  refine S_X10_isWon w v  (fun k_1 => ?_) (fun k_1 k_2 => ?_) (fun k_1 k_2 => ?_)
  · refine xRetH_thr ?_
    refine ⟨[], (⟨0, 12, 13, 53⟩ : ExceptionTableEntry), [], rfl, fun z hz => absurd hz List.not_mem_nil, rfl, by decide, W_L_53, 1, 1, Or.inl ⟨1, (dT U_L_isWon 7 rfl), rfl, rfl⟩, by decide, ?_⟩
    refine x_ldc2 C_L_21 (dT U_L_isWon 8 rfl) ?_
    refine x_lreturn (dT U_L_isWon 9 rfl) rfl ?_
    exact e1 k_1
  · refine xRetH_some ?_
    refine x_if_eq (tgt := 11) (dT U_L_isWon 2 rfl) (by decide) (by unfold xr; omega) (fun z8 => ?_) (fun z8 => ?_)
    · exact absurd z8 (by decide)
    refine x_lconst (z := 1) (dT U_L_isWon 3 rfl) rfl ?_
    refine x_goto (tgt := 12) (dT U_L_isWon 4 rfl) (by decide) ?_
    refine x_lreturn (dT U_L_isWon 6 rfl) rfl ?_
    exact k1 k_1 k_2
  · refine xRetH_some ?_
    refine x_if_eq (tgt := 11) (dT U_L_isWon 2 rfl) (by decide) (by unfold xr; omega) (fun z8 => ?_) (fun z8 => ?_)
    rotate_left
    · exact absurd z8 (by decide)
    refine x_lconst (z := 0) (dT U_L_isWon 5 rfl) rfl ?_
    refine x_lreturn (dT U_L_isWon 6 rfl) rfl ?_
    exact k0 k_1 k_2

set_option maxRecDepth 20000 in
set_option maxHeartbeats 1000000 in
theorem S_L_chances {G : xG} {d rc rs : Nat} {ex : Bool} {h : xH} {Q : xQ} {σ : St} (w : CW σ h) (v : INV σ) (e1 : ¬ (σ.g.b = 1) → Q (.inl (some (vl (-4000000000000000001)))) false h) (k : (σ.g.b = 1) → ∀ z9 : Int, z9 = (wnn σ.p σ.g.l σ.g.r σ.g.s σ.g.c σ.g.z σ.g.o) → xr z9 → Q (.inl (some (vl z9))) ex h) : X G m_L_chances (d + 8) (rc + 1) (rs + 6) ex 0 (xe m_L_chances.2.2.1 [.ref 3]) [] h Q := by
  show X G m_L_chances _ _ _ _ 0 [some (.ref 3), none] [] h Q
  have hp := PRb v.p
  have hq := gq_b v.p
  refine x_aload_n (dT U_L_chances 0 rfl) rfl ?_
  refine x_invokevirtualH (rc' := rc) (rs' := rs) (rc2 := 0 + 1) (rs2 := 0 + 6) (As := []) (st := _) M_X10_chances K_L_191 (dT U_L_chances 1 rfl) rfl (by decide) rfl rfl w.c3 (Nat.le_of_ble_eq_true rfl) (by decide) rfl (Nat.le_of_ble_eq_true rfl) rfl (by decide) (Nat.le_of_ble_eq_true rfl) (Nat.add_comm _ _ ▸ rfl) (Nat.add_comm _ _ ▸ rfl) ?_
  refine S_X10_chances w v  (fun k_1 => ?_) (fun k_1 => ?_)
  · refine xRetH_thr ?_
    refine ⟨[], (⟨0, 5, 6, 53⟩ : ExceptionTableEntry), [], rfl, fun z hz => absurd hz List.not_mem_nil, rfl, by decide, W_L_53, 1, 1, Or.inl ⟨1, (dT U_L_chances 4 rfl), rfl, rfl⟩, by decide, ?_⟩
    refine x_ldc2 C_L_21 (dT U_L_chances 5 rfl) ?_
    refine x_lreturn (dT U_L_chances 6 rfl) rfl ?_
    exact e1 k_1
  · refine xRetH_some ?_
    have hz9 : xr (wnn σ.p σ.g.l σ.g.r σ.g.s σ.g.c σ.g.z σ.g.o) := by
      exact xr_wnn v.p
    refine x_i2l (dT U_L_chances 2 rfl) hz9 ?_
    refine x_lreturn (dT U_L_chances 3 rfl) rfl ?_
    exact k k_1 _ rfl hz9

set_option maxRecDepth 20000 in
set_option maxHeartbeats 1000000 in
theorem S_L_mint {G : xG} {d rc rs : Nat} {ex : Bool} {h : xH} {Q : xQ} {σ : St} {amount blind : Int} (w : CW σ h) (v : INV σ) (h_amount : xr amount) (h_blind : xr blind) (e1 : ¬ (inb amount σ.p ∧ inb blind σ.p) → Q (.inl (some (vl (-4000000000000000001)))) false h) (e2 : (inb amount σ.p ∧ inb blind σ.p) → ¬ (σ.L.n + 1 ≤ 16) → Q (.inl (some (vl (-4000000000000000002)))) false h) (k : (inb amount σ.p ∧ inb blind σ.p) → (σ.L.n + 1 ≤ 16) → ∀ z9 : Int, z9 = ((σ.L.n : Int)) → xr z9 → ∀ h2, FC h h2 → CW ((σ.sL (σ.L.n + 1, (σ.L.mi + (cm1 σ.p amount blind)) % (σ.p : Int), σ.L.pa, σ.L.nn.set σ.L.n (cm1 σ.p amount blind), σ.L.gl.set σ.L.n (MM σ.p (cm1 σ.p amount blind))))) h2 → INV ((σ.sL (σ.L.n + 1, (σ.L.mi + (cm1 σ.p amount blind)) % (σ.p : Int), σ.L.pa, σ.L.nn.set σ.L.n (cm1 σ.p amount blind), σ.L.gl.set σ.L.n (MM σ.p (cm1 σ.p amount blind))))) → Q (.inl (some (vl z9))) ex h2) : X G m_L_mint (d + 8) (rc + 3) (rs + 18) ex 0 (xe m_L_mint.2.2.1 [.ref 3, vi amount, vi blind]) [] h Q := by
  show X G m_L_mint _ _ _ _ 0 [some (.ref 3), some (vi amount), some (vi blind), none] [] h Q
  have hp := PRb v.p
  have hq := gq_b v.p
  refine x_aload_n (dT U_L_mint 0 rfl) rfl ?_
  refine x_iload_n (dT U_L_mint 1 rfl) rfl ?_
  refine x_iload_n (dT U_L_mint 2 rfl) rfl ?_
  refine x_invokevirtualH (rc' := rc) (rs' := rs) (rc2 := 0 + 3) (rs2 := 0 + 18) (As := [_, _]) (st := _) M_X10_mint K_L_194 (dT U_L_mint 3 rfl) rfl (by decide) rfl rfl w.c3 (Nat.le_of_ble_eq_true rfl) (by decide) rfl (Nat.le_of_ble_eq_true rfl) rfl (by decide) (Nat.le_of_ble_eq_true rfl) (Nat.add_comm _ _ ▸ rfl) (Nat.add_comm _ _ ▸ rfl) ?_
  refine S_X10_mint w v h_amount h_blind (fun k_1 => ?_) (fun k_1 k_2 => ?_) (fun k_1 k_2 h2 fc w2 => ?_)
  · refine xRetH_thr ?_
    refine ⟨[], (⟨0, 7, 8, 17⟩ : ExceptionTableEntry), [(⟨0, 7, 13, 53⟩ : ExceptionTableEntry)], rfl, fun z hz => absurd hz List.not_mem_nil, rfl, by decide, W_L_17, 3, 1, Or.inl ⟨3, (dT U_L_mint 6 rfl), rfl, rfl⟩, by decide, ?_⟩
    refine x_ldc2 C_L_21 (dT U_L_mint 7 rfl) ?_
    refine x_lreturn (dT U_L_mint 8 rfl) rfl ?_
    exact e1 k_1
  · refine xRetH_thr ?_
    refine ⟨[(⟨0, 7, 8, 17⟩ : ExceptionTableEntry)], (⟨0, 7, 13, 53⟩ : ExceptionTableEntry), [], rfl, fun z hz => by
        simp only [List.mem_cons, List.not_mem_nil, or_false] at hz
        subst hz
        exact ⟨by decide, "java/lang/IllegalArgumentException", by decide, by decide, W_L_17⟩, rfl, by decide, W_L_53, 3, 1, Or.inl ⟨3, (dT U_L_mint 9 rfl), rfl, rfl⟩, by decide, ?_⟩
    refine x_ldc2 C_L_43 (dT U_L_mint 10 rfl) ?_
    refine x_lreturn (dT U_L_mint 11 rfl) rfl ?_
    exact e2 k_1 k_2
  · refine xRetH_some ?_
    have hz9 : xr ((σ.L.n : Int)) := by
      have h9 := v.L.1; unfold xr; omega
    refine x_i2l (dT U_L_mint 4 rfl) hz9 ?_
    refine x_lreturn (dT U_L_mint 5 rfl) rfl ?_
    exact k k_1 k_2 _ rfl hz9 h2 fc w2 (IV_mint v k_1 k_2)

set_option maxRecDepth 20000 in
set_option maxHeartbeats 1000000 in
theorem S_L_split {G : xG} {d rc rs : Nat} {ex : Bool} {h : xH} {Q : xQ} {σ : St} {note amount blind : Int} (w : CW σ h) (v : INV σ) (h_note : xr note) (h_amount : xr amount) (h_blind : xr blind) (e1 : ¬ (inb note σ.L.n) → Q (.inl (some (vl (-4000000000000000001)))) false h) (e2 : (inb note σ.L.n) → ¬ (inb amount σ.p ∧ inb blind σ.p) → Q (.inl (some (vl (-4000000000000000002)))) false h) (e3 : (inb note σ.L.n) → (inb amount σ.p ∧ inb blind σ.p) → ¬ (¬ (σ.L.nn.getD note.toNat 0) = -1 ∧ σ.L.n + 2 ≤ 16) → Q (.inl (some (vl (-4000000000000000003)))) false h) (k : (inb note σ.L.n) → (inb amount σ.p ∧ inb blind σ.p) → (¬ (σ.L.nn.getD note.toNat 0) = -1 ∧ σ.L.n + 2 ≤ 16) → ∀ z9 : Int, z9 = ((σ.L.n : Int)) → xr z9 → ∀ h2, FC h h2 → CW ((σ.sL (σ.L.n + 2, σ.L.mi, σ.L.pa, ((σ.L.nn.set note.toNat (-1)).set σ.L.n (cm1 σ.p amount blind)).set (σ.L.n + 1) (((σ.L.nn.getD note.toNat 0) - (cm1 σ.p amount blind)) % (σ.p : Int)), ((σ.L.gl.set note.toNat 0).set σ.L.n (MM σ.p (cm1 σ.p amount blind))).set (σ.L.n + 1) (MM σ.p (((σ.L.nn.getD note.toNat 0) - (cm1 σ.p amount blind)) % (σ.p : Int)))))) h2 → INV ((σ.sL (σ.L.n + 2, σ.L.mi, σ.L.pa, ((σ.L.nn.set note.toNat (-1)).set σ.L.n (cm1 σ.p amount blind)).set (σ.L.n + 1) (((σ.L.nn.getD note.toNat 0) - (cm1 σ.p amount blind)) % (σ.p : Int)), ((σ.L.gl.set note.toNat 0).set σ.L.n (MM σ.p (cm1 σ.p amount blind))).set (σ.L.n + 1) (MM σ.p (((σ.L.nn.getD note.toNat 0) - (cm1 σ.p amount blind)) % (σ.p : Int)))))) → Q (.inl (some (vl z9))) ex h2) : X G m_L_split (d + 8) (rc + 5) (rs + 30) ex 0 (xe m_L_split.2.2.1 [.ref 3, vi note, vi amount, vi blind]) [] h Q := by
  show X G m_L_split _ _ _ _ 0 [some (.ref 3), some (vi note), some (vi amount), some (vi blind), none] [] h Q
  have hp := PRb v.p
  have hq := gq_b v.p
  refine x_aload_n (dT U_L_split 0 rfl) rfl ?_
  refine x_iload_n (dT U_L_split 1 rfl) rfl ?_
  refine x_iload_n (dT U_L_split 2 rfl) rfl ?_
  refine x_iload_n (dT U_L_split 3 rfl) rfl ?_
  refine x_invokevirtualH (rc' := rc) (rs' := rs) (rc2 := 0 + 5) (rs2 := 0 + 30) (As := [_, _, _]) (st := _) M_X10_split K_L_197 (dT U_L_split 4 rfl) rfl (by decide) rfl rfl w.c3 (Nat.le_of_ble_eq_true rfl) (by decide) rfl (Nat.le_of_ble_eq_true rfl) rfl (by decide) (Nat.le_of_ble_eq_true rfl) (Nat.add_comm _ _ ▸ rfl) (Nat.add_comm _ _ ▸ rfl) ?_
  refine S_X10_split w v h_note h_amount h_blind (fun k_1 => ?_) (fun k_1 k_2 => ?_) (fun k_1 k_2 k_3 => ?_) (fun k_1 k_2 k_3 h2 fc w2 => ?_)
  · refine xRetH_thr ?_
    refine ⟨[], (⟨0, 8, 9, 31⟩ : ExceptionTableEntry), [(⟨0, 8, 15, 17⟩ : ExceptionTableEntry), (⟨0, 8, 21, 53⟩ : ExceptionTableEntry)], rfl, fun z hz => absurd hz List.not_mem_nil, rfl, by decide, W_L_31, 4, 2, Or.inr ⟨(dT U_L_split 7 rfl), rfl⟩, by decide, ?_⟩
    refine x_ldc2 C_L_21 (dT U_L_split 8 rfl) ?_
    refine x_lreturn (dT U_L_split 9 rfl) rfl ?_
    exact e1 k_1
  · refine xRetH_thr ?_
    refine ⟨[(⟨0, 8, 9, 31⟩ : ExceptionTableEntry)], (⟨0, 8, 15, 17⟩ : ExceptionTableEntry), [(⟨0, 8, 21, 53⟩ : ExceptionTableEntry)], rfl, fun z hz => by
        simp only [List.mem_cons, List.not_mem_nil, or_false] at hz
        subst hz
        exact ⟨by decide, "java/lang/IndexOutOfBoundsException", by decide, by decide, W_L_31⟩, rfl, by decide, W_L_17, 4, 2, Or.inr ⟨(dT U_L_split 10 rfl), rfl⟩, by decide, ?_⟩
    refine x_ldc2 C_L_43 (dT U_L_split 11 rfl) ?_
    refine x_lreturn (dT U_L_split 12 rfl) rfl ?_
    exact e2 k_1 k_2
  · refine xRetH_thr ?_
    refine ⟨[(⟨0, 8, 9, 31⟩ : ExceptionTableEntry), (⟨0, 8, 15, 17⟩ : ExceptionTableEntry)], (⟨0, 8, 21, 53⟩ : ExceptionTableEntry), [], rfl, fun z hz => by
        simp only [List.mem_cons, List.not_mem_nil, or_false] at hz
        rcases hz with rfl | rfl
        · exact ⟨by decide, "java/lang/IndexOutOfBoundsException", by decide, by decide, W_L_31⟩
        · exact ⟨by decide, "java/lang/IllegalArgumentException", by decide, by decide, W_L_17⟩, rfl, by decide, W_L_53, 4, 2, Or.inr ⟨(dT U_L_split 13 rfl), rfl⟩, by decide, ?_⟩
    refine x_ldc2 C_L_60 (dT U_L_split 14 rfl) ?_
    refine x_lreturn (dT U_L_split 15 rfl) rfl ?_
    exact e3 k_1 k_2 k_3
  · refine xRetH_some ?_
    have hz9 : xr ((σ.L.n : Int)) := by
      have h9 := v.L.1; unfold xr; omega
    refine x_i2l (dT U_L_split 5 rfl) hz9 ?_
    refine x_lreturn (dT U_L_split 6 rfl) rfl ?_
    exact k k_1 k_2 k_3 _ rfl hz9 h2 fc w2 (IV_split v k_1 k_2 k_3)

set_option maxRecDepth 20000 in
set_option maxHeartbeats 1000000 in
theorem S_L_merge {G : xG} {d rc rs : Nat} {ex : Bool} {h : xH} {Q : xQ} {σ : St} {note second : Int} (w : CW σ h) (v : INV σ) (h_note : xr note) (h_second : xr second) (e1 : ¬ (inb note σ.L.n ∧ inb second σ.L.n) → Q (.inl (some (vl (-4000000000000000001)))) false h) (e2 : (inb note σ.L.n ∧ inb second σ.L.n) → ¬ (¬ note = second) → Q (.inl (some (vl (-4000000000000000002)))) false h) (e3 : (inb note σ.L.n ∧ inb second σ.L.n) → (¬ note = second) → ¬ (¬ (σ.L.nn.getD note.toNat 0) = -1 ∧ ¬ (σ.L.nn.getD second.toNat 0) = -1 ∧ σ.L.n + 1 ≤ 16) → Q (.inl (some (vl (-4000000000000000003)))) false h) (k : (inb note σ.L.n ∧ inb second σ.L.n) → (¬ note = second) → (¬ (σ.L.nn.getD note.toNat 0) = -1 ∧ ¬ (σ.L.nn.getD second.toNat 0) = -1 ∧ σ.L.n + 1 ≤ 16) → ∀ z9 : Int, z9 = ((σ.L.n : Int)) → xr z9 → ∀ h2, FC h h2 → CW ((σ.sL (σ.L.n + 1, σ.L.mi, σ.L.pa, ((σ.L.nn.set note.toNat (-1)).set second.toNat (-1)).set σ.L.n (((σ.L.nn.getD note.toNat 0) + (σ.L.nn.getD second.toNat 0)) % (σ.p : Int)), ((σ.L.gl.set note.toNat 0).set second.toNat 0).set σ.L.n (MM σ.p (((σ.L.nn.getD note.toNat 0) + (σ.L.nn.getD second.toNat 0)) % (σ.p : Int)))))) h2 → INV ((σ.sL (σ.L.n + 1, σ.L.mi, σ.L.pa, ((σ.L.nn.set note.toNat (-1)).set second.toNat (-1)).set σ.L.n (((σ.L.nn.getD note.toNat 0) + (σ.L.nn.getD second.toNat 0)) % (σ.p : Int)), ((σ.L.gl.set note.toNat 0).set second.toNat 0).set σ.L.n (MM σ.p (((σ.L.nn.getD note.toNat 0) + (σ.L.nn.getD second.toNat 0)) % (σ.p : Int)))))) → Q (.inl (some (vl z9))) ex h2) : X G m_L_merge (d + 8) (rc + 6) (rs + 36) ex 0 (xe m_L_merge.2.2.1 [.ref 3, vi note, vi second]) [] h Q := by
  show X G m_L_merge _ _ _ _ 0 [some (.ref 3), some (vi note), some (vi second), none] [] h Q
  have hp := PRb v.p
  have hq := gq_b v.p
  refine x_aload_n (dT U_L_merge 0 rfl) rfl ?_
  refine x_iload_n (dT U_L_merge 1 rfl) rfl ?_
  refine x_iload_n (dT U_L_merge 2 rfl) rfl ?_
  refine x_invokevirtualH (rc' := rc) (rs' := rs) (rc2 := 0 + 6) (rs2 := 0 + 36) (As := [_, _]) (st := _) M_X10_merge K_L_200 (dT U_L_merge 3 rfl) rfl (by decide) rfl rfl w.c3 (Nat.le_of_ble_eq_true rfl) (by decide) rfl (Nat.le_of_ble_eq_true rfl) rfl (by decide) (Nat.le_of_ble_eq_true rfl) (Nat.add_comm _ _ ▸ rfl) (Nat.add_comm _ _ ▸ rfl) ?_
  refine S_X10_merge w v h_note h_second (fun k_1 => ?_) (fun k_1 k_2 => ?_) (fun k_1 k_2 k_3 => ?_) (fun k_1 k_2 k_3 h2 fc w2 => ?_)
  · refine xRetH_thr ?_
    refine ⟨[], (⟨0, 7, 8, 31⟩ : ExceptionTableEntry), [(⟨0, 7, 13, 17⟩ : ExceptionTableEntry), (⟨0, 7, 18, 53⟩ : ExceptionTableEntry)], rfl, fun z hz => absurd hz List.not_mem_nil, rfl, by decide, W_L_31, 3, 1, Or.inl ⟨3, (dT U_L_merge 6 rfl), rfl, rfl⟩, by decide, ?_⟩
    refine x_ldc2 C_L_21 (dT U_L_merge 7 rfl) ?_
    refine x_lreturn (dT U_L_merge 8 rfl) rfl ?_
    exact e1 k_1
  · refine xRetH_thr ?_
    refine ⟨[(⟨0, 7, 8, 31⟩ : ExceptionTableEntry)], (⟨0, 7, 13, 17⟩ : ExceptionTableEntry), [(⟨0, 7, 18, 53⟩ : ExceptionTableEntry)], rfl, fun z hz => by
        simp only [List.mem_cons, List.not_mem_nil, or_false] at hz
        subst hz
        exact ⟨by decide, "java/lang/IndexOutOfBoundsException", by decide, by decide, W_L_31⟩, rfl, by decide, W_L_17, 3, 1, Or.inl ⟨3, (dT U_L_merge 9 rfl), rfl, rfl⟩, by decide, ?_⟩
    refine x_ldc2 C_L_43 (dT U_L_merge 10 rfl) ?_
    refine x_lreturn (dT U_L_merge 11 rfl) rfl ?_
    exact e2 k_1 k_2
  · refine xRetH_thr ?_
    refine ⟨[(⟨0, 7, 8, 31⟩ : ExceptionTableEntry), (⟨0, 7, 13, 17⟩ : ExceptionTableEntry)], (⟨0, 7, 18, 53⟩ : ExceptionTableEntry), [], rfl, fun z hz => by
        simp only [List.mem_cons, List.not_mem_nil, or_false] at hz
        rcases hz with rfl | rfl
        · exact ⟨by decide, "java/lang/IndexOutOfBoundsException", by decide, by decide, W_L_31⟩
        · exact ⟨by decide, "java/lang/IllegalArgumentException", by decide, by decide, W_L_17⟩, rfl, by decide, W_L_53, 3, 1, Or.inl ⟨3, (dT U_L_merge 12 rfl), rfl, rfl⟩, by decide, ?_⟩
    refine x_ldc2 C_L_60 (dT U_L_merge 13 rfl) ?_
    refine x_lreturn (dT U_L_merge 14 rfl) rfl ?_
    exact e3 k_1 k_2 k_3
  · refine xRetH_some ?_
    have hz9 : xr ((σ.L.n : Int)) := by
      have h9 := v.L.1; unfold xr; omega
    refine x_i2l (dT U_L_merge 4 rfl) hz9 ?_
    refine x_lreturn (dT U_L_merge 5 rfl) rfl ?_
    exact k k_1 k_2 k_3 _ rfl hz9 h2 fc w2 (IV_merge v k_1 k_2 k_3)

set_option maxRecDepth 20000 in
set_option maxHeartbeats 1000000 in
theorem S_L_note {G : xG} {d rc rs : Nat} {ex : Bool} {h : xH} {Q : xQ} {σ : St} {note : Int} (w : CW σ h) (v : INV σ) (h_note : xr note) (e1 : ¬ (inb note σ.L.n) → Q (.inl (some (vl (-4000000000000000001)))) false h) (k : (inb note σ.L.n) → ∀ z9 : Int, z9 = (nv σ.p (σ.L.nn.getD note.toNat 0)) → xr z9 → Q (.inl (some (vl z9))) ex h) : X G m_L_note (d + 8) (rc + 1) (rs + 6) ex 0 (xe m_L_note.2.2.1 [.ref 3, vi note]) [] h Q := by
  show X G m_L_note _ _ _ _ 0 [some (.ref 3), some (vi note), none] [] h Q
  have hp := PRb v.p
  have hq := gq_b v.p
  refine x_aload_n (dT U_L_note 0 rfl) rfl ?_
  refine x_iload_n (dT U_L_note 1 rfl) rfl ?_
  refine x_invokevirtualH (rc' := rc) (rs' := rs) (rc2 := 0 + 1) (rs2 := 0 + 6) (As := [_]) (st := _) M_X10_note K_L_203 (dT U_L_note 2 rfl) rfl (by decide) rfl rfl w.c3 (Nat.le_of_ble_eq_true rfl) (by decide) rfl (Nat.le_of_ble_eq_true rfl) rfl (by decide) (Nat.le_of_ble_eq_true rfl) (Nat.add_comm _ _ ▸ rfl) (Nat.add_comm _ _ ▸ rfl) ?_
  refine S_X10_note w v h_note (fun k_1 => ?_) (fun k_1 => ?_)
  · refine xRetH_thr ?_
    refine ⟨[], (⟨0, 6, 7, 31⟩ : ExceptionTableEntry), [], rfl, fun z hz => absurd hz List.not_mem_nil, rfl, by decide, W_L_31, 2, 1, Or.inl ⟨2, (dT U_L_note 5 rfl), rfl, rfl⟩, by decide, ?_⟩
    refine x_ldc2 C_L_21 (dT U_L_note 6 rfl) ?_
    refine x_lreturn (dT U_L_note 7 rfl) rfl ?_
    exact e1 k_1
  · refine xRetH_some ?_
    have hz9 : xr (nv σ.p (σ.L.nn.getD note.toNat 0)) := by
      unfold nv; split
      · unfold xr; omega
      · exact xr_MM v.p
    refine x_i2l (dT U_L_note 3 rfl) hz9 ?_
    refine x_lreturn (dT U_L_note 4 rfl) rfl ?_
    exact k k_1 _ rfl hz9

set_option maxRecDepth 20000 in
set_option maxHeartbeats 1000000 in
theorem S_L_pay {G : xG} {d rc rs : Nat} {ex : Bool} {h : xH} {Q : xQ} {σ : St} {note run : Int} (w : CW σ h) (v : INV σ) (h_note : xr note) (h_run : xr run) (e1 : ¬ (inb note σ.L.n ∧ inb run 4) → Q (.inl (some (vl (-4000000000000000001)))) false h) (e2 : (inb note σ.L.n ∧ inb run 4) → ¬ (¬ (σ.L.nn.getD note.toNat 0) = -1 ∧ opn σ.p (σ.R run.toNat) (σ.L.nn.getD note.toNat 0)) → Q (.inl (some (vl (-4000000000000000002)))) false h) (k : (inb note σ.L.n ∧ inb run 4) → (¬ (σ.L.nn.getD note.toNat 0) = -1 ∧ opn σ.p (σ.R run.toNat) (σ.L.nn.getD note.toNat 0)) → ∀ z9 : Int, z9 = ((σ.R run.toNat).v) → xr z9 → ∀ h2, FC h h2 → CW ((σ.sL (σ.L.n, σ.L.mi, (σ.L.pa + (σ.L.nn.getD note.toNat 0)) % (σ.p : Int), σ.L.nn.set note.toNat (-1), σ.L.gl.set note.toNat 0))) h2 → INV ((σ.sL (σ.L.n, σ.L.mi, (σ.L.pa + (σ.L.nn.getD note.toNat 0)) % (σ.p : Int), σ.L.nn.set note.toNat (-1), σ.L.gl.set note.toNat 0))) → Q (.inl (some (vl z9))) ex h2) : X G m_L_pay (d + 8) (rc + 4) (rs + 24) ex 0 (xe m_L_pay.2.2.1 [.ref 3, vi note, vi run]) [] h Q := by
  show X G m_L_pay _ _ _ _ 0 [some (.ref 3), some (vi note), some (vi run), none] [] h Q
  have hp := PRb v.p
  have hq := gq_b v.p
  refine x_aload_n (dT U_L_pay 0 rfl) rfl ?_
  refine x_iload_n (dT U_L_pay 1 rfl) rfl ?_
  refine x_iload_n (dT U_L_pay 2 rfl) rfl ?_
  refine x_invokevirtualH (rc' := rc) (rs' := rs) (rc2 := 0 + 4) (rs2 := 0 + 24) (As := [_, _]) (st := _) M_X10_pay K_L_206 (dT U_L_pay 3 rfl) rfl (by decide) rfl rfl w.c3 (Nat.le_of_ble_eq_true rfl) (by decide) rfl (Nat.le_of_ble_eq_true rfl) rfl (by decide) (Nat.le_of_ble_eq_true rfl) (Nat.add_comm _ _ ▸ rfl) (Nat.add_comm _ _ ▸ rfl) ?_
  refine S_X10_pay w v h_note h_run (fun k_1 => ?_) (fun k_1 k_2 => ?_) (fun k_1 k_2 h2 fc w2 => ?_)
  · refine xRetH_thr ?_
    refine ⟨[], (⟨0, 7, 8, 31⟩ : ExceptionTableEntry), [(⟨0, 7, 13, 53⟩ : ExceptionTableEntry)], rfl, fun z hz => absurd hz List.not_mem_nil, rfl, by decide, W_L_31, 3, 1, Or.inl ⟨3, (dT U_L_pay 6 rfl), rfl, rfl⟩, by decide, ?_⟩
    refine x_ldc2 C_L_21 (dT U_L_pay 7 rfl) ?_
    refine x_lreturn (dT U_L_pay 8 rfl) rfl ?_
    exact e1 k_1
  · refine xRetH_thr ?_
    refine ⟨[(⟨0, 7, 8, 31⟩ : ExceptionTableEntry)], (⟨0, 7, 13, 53⟩ : ExceptionTableEntry), [], rfl, fun z hz => by
        simp only [List.mem_cons, List.not_mem_nil, or_false] at hz
        subst hz
        exact ⟨by decide, "java/lang/IndexOutOfBoundsException", by decide, by decide, W_L_31⟩, rfl, by decide, W_L_53, 3, 1, Or.inl ⟨3, (dT U_L_pay 9 rfl), rfl, rfl⟩, by decide, ?_⟩
    refine x_ldc2 C_L_43 (dT U_L_pay 10 rfl) ?_
    refine x_lreturn (dT U_L_pay 11 rfl) rfl ?_
    exact e2 k_1 k_2
  · refine xRetH_some ?_
    have hz9 : xr ((σ.R run.toNat).v) := by
      have h9 := (v.R _ (show run.toNat < 4 by omega)).1.v (by have := k_2.2.1.1; omega); unfold xr; omega
    refine x_i2l (dT U_L_pay 4 rfl) hz9 ?_
    refine x_lreturn (dT U_L_pay 5 rfl) rfl ?_
    exact k k_1 k_2 _ rfl hz9 h2 fc w2 (IV_pay v k_1 k_2)

set_option maxRecDepth 20000 in
set_option maxHeartbeats 1000000 in
theorem S_L_standing {G : xG} {d rc rs : Nat} {ex : Bool} {h : xH} {Q : xQ} {σ : St} (w : CW σ h) (v : INV σ) (k : ∀ z9 : Int, z9 = (MM σ.p (stnd σ.p (gf σ.L.nn) σ.L.n)) → xr z9 → Q (.inl (some (vl z9))) ex h) : X G m_L_standing (d + 3) rc rs ex 0 (xe m_L_standing.2.2.1 [.ref 3]) [] h Q := by
  show X G m_L_standing _ _ _ _ 0 [some (.ref 3)] [] h Q
  have hp := PRb v.p
  have hq := gq_b v.p
  refine x_aload_n (dT U_L_standing 0 rfl) rfl ?_
  refine x_invokevirtual (rc' := rc) (rs' := rs) (rc2 := 0) (rs2 := 0) (As := []) (st := _) M_X10_standing K_L_209 (dT U_L_standing 1 rfl) rfl rfl (by decide) rfl rfl w.c3 (Nat.le_of_ble_eq_true rfl) (by decide) rfl (Nat.le_of_ble_eq_true rfl) rfl (by decide) (Nat.le_of_ble_eq_true rfl) rfl rfl ?_
  refine S_X10_standing w v   ?_
  · refine xRet_some ?_
    have hz9 : xr (MM σ.p (stnd σ.p (gf σ.L.nn) σ.L.n)) := by
      exact xr_MM v.p
    refine x_i2l (dT U_L_standing 2 rfl) hz9 ?_
    refine x_lreturn (dT U_L_standing 3 rfl) rfl ?_
    exact k _ rfl hz9

set_option maxRecDepth 20000 in
set_option maxHeartbeats 1000000 in
theorem S_L_isTrue {G : xG} {d rc rs : Nat} {ex : Bool} {h : xH} {Q : xQ} {σ : St} (w : CW σ h) (v : INV σ) (k : ∀ z9 : Int, z9 = 1 → xr z9 → ∀ h2, FC h h2 → CW σ h2 → INV σ → Q (.inl (some (vl z9))) ex h2) : X G m_L_isTrue (d + 8) rc rs ex 0 (xe m_L_isTrue.2.2.1 [.ref 3]) [] h Q := by
  show X G m_L_isTrue _ _ _ _ 0 [some (.ref 3)] [] h Q
  have hp := PRb v.p
  have hq := gq_b v.p
  refine x_aload_n (dT U_L_isTrue 0 rfl) rfl ?_
  refine x_invokevirtual (rc' := rc) (rs' := rs) (rc2 := 0) (rs2 := 0) (As := []) (st := _) M_X10_isTrue K_L_212 (dT U_L_isTrue 1 rfl) rfl rfl (by decide) rfl rfl w.c3 (Nat.le_of_ble_eq_true rfl) (by decide) rfl (Nat.le_of_ble_eq_true rfl) rfl (by decide) (Nat.le_of_ble_eq_true rfl) rfl rfl ?_
  refine S_X10_isTrue w v   (fun h2 fc w2 => ?_)
  · refine xRet_some ?_
    have hz9 : xr (1 : Int) := by unfold xr; omega
    refine x_if_eq (tgt := 11) (dT U_L_isTrue 2 rfl) (by decide) (by unfold xr; omega) (fun z8 => ?_) (fun z8 => ?_)
    · exact absurd z8 (by decide)
    refine x_lconst (z := 1) (dT U_L_isTrue 3 rfl) rfl ?_
    refine x_goto (tgt := 12) (dT U_L_isTrue 4 rfl) (by decide) ?_
    refine x_lreturn (dT U_L_isTrue 6 rfl) rfl ?_
    exact k _ rfl hz9 h2 fc w2 v

