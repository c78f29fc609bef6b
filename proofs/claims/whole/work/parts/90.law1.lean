theorem vi_nf (z : Int) : ∃ b, xr b ∧ vi z = vi b := ⟨(xI z).toInt, by
    have h1 := Int32.le_toInt (xI z)
    have h2 := Int32.toInt_lt (xI z)
    unfold xr; omega, by show Value.int (xI z) = Value.int (Int32.ofInt (xI z).toInt); rw [Int32.ofInt_toInt]⟩
theorem x_i2lN {G : xG} {mt : xM} {d rc rs pc : Nat} {ex : Bool} {ls : List (Option Value)} {st : List Value} {h : xH} {Q : xQ} {a : Int} (hd : decode mt.2.1 pc = .ok (.i2l, 1)) (k : ∀ b, xr b → vi a = vi b → X G mt d rc rs ex (pc + 1) ls (vl b :: st) h Q) : X G mt d rc rs ex pc ls (vi a :: st) h Q := by
  obtain ⟨b, hb, e⟩ := vi_nf a
  have q := x_i2l hd hb (k b hb e)
  rw [← e] at q
  exact q
theorem xRetH_some {G : xG} {mt : xM} {d rc rs pc : Nat} {ls : List (Option Value)} {st : List Value} {Q : xQ} {v : Value} {ex : Bool} {h : xH} (k : X G mt d rc rs ex (pc + 3) ls (v :: st) h Q) : xRetH G mt d rc rs pc ls st Q (.inl (some v)) ex h := k
theorem xRetH_thr {G : xG} {mt : xM} {d rc rs pc : Nat} {ls : List (Option Value)} {st : List Value} {Q : xQ} {E : String} {ex : Bool} {h : xH} (k : xHnd G mt d rc rs pc E h Q) : xRetH G mt d rc rs pc ls st Q (.inr E) ex h := k

set_option maxRecDepth 20000 in
set_option maxHeartbeats 1000000 in
theorem S_L_field {G : xG} {d rc rs : Nat} {ex : Bool} {h : xH} {Q : xQ} {σ : St} {number : Int} {l0 : Int} (w : CW σ h) (v : INV σ) (h_number : xr number) (ho : h[143]? = some (cJ [l0])) (e1 : ¬ (inb number 8) → Q (.inl (some (vi 1))) false h) (k : (inb number 8) → ∀ h2, FC h h2 → CW (fldSt σ (prn number.toNat)) h2 → ∀ z9, xr z9 → vi ((prn number.toNat : Int)) = vi z9 → Q (.inl (some (vi 0))) ex (h2.set 143 (cJ [z9]))) : X G m_L_field (d + 7) (rc + 1) (rs + 6) ex 0 (xe m_L_field.2.2.1 [.ref 3, vi number, .ref 143]) [] h Q := by
  show X G m_L_field _ _ _ _ 0 [some (.ref 3), some (vi number), some (.ref 143), none] [] h Q
  refine x_aload_n (dT U_L_field 0 rfl) rfl ?_
  refine x_iconst (dT U_L_field 1 rfl) ?_
  refine x_aload_n (dT U_L_field 2 rfl) rfl ?_
  refine x_iload_n (dT U_L_field 3 rfl) rfl ?_
  refine x_invokevirtualH (rc' := rc) (rs' := rs) (rc2 := 0 + 1) (rs2 := 0 + 6) (As := [_]) (st := _) M_X10_field K_L_7 (dT U_L_field 4 rfl) rfl (by decide) rfl rfl w.c3 (Nat.le_of_ble_eq_true rfl) (by decide) rfl (Nat.le_of_ble_eq_true rfl) rfl (by decide) (Nat.le_of_ble_eq_true rfl) (Nat.add_comm _ _ ▸ rfl) (Nat.add_comm _ _ ▸ rfl) ?_
  refine S_X10_field w v h_number (fun c1 => ?_) (fun c1 h2 fc w2 => ?_)
  · refine xRetH_thr ?_
    refine ⟨[], (⟨0, 9, 12, 13⟩ : ExceptionTableEntry), [], rfl, fun z hz => absurd hz List.not_mem_nil, rfl, by decide, W_L_13, 3, 1, Or.inl ⟨3, (dT U_L_field 8 rfl), rfl, rfl⟩, by decide, ?_⟩
    refine x_iconst (dT U_L_field 9 rfl) ?_
    refine x_ireturn (dT U_L_field 10 rfl) rfl ?_
    exact e1 c1
  · refine xRetH_some ?_
    refine x_i2lN (dT U_L_field 5 rfl) (fun z9 hz9 ez9 => ?_)
    refine x_lastore 0 (dT U_L_field 6 rfl) (fc.get ho (by omega)) (Nat.le_of_ble_eq_true rfl) rfl (Nat.le_of_ble_eq_true rfl) (Nat.le_of_ble_eq_true rfl) ?_
    refine x_goto (tgt := 15) (dT U_L_field 7 rfl) (by decide) ?_
    refine x_iconst (dT U_L_field 11 rfl) ?_
    refine x_ireturn (dT U_L_field 12 rfl) rfl ?_
    exact k c1 h2 fc w2 z9 hz9 ez9

set_option maxRecDepth 20000 in
set_option maxHeartbeats 1000000 in
theorem S_L_put {G : xG} {d rc rs : Nat} {ex : Bool} {h : xH} {Q : xQ} {σ : St} {row place value : Int} {l0 : Int} (w : CW σ h) (v : INV σ) (h_row : xr row) (h_place : xr place) (h_value : xr value) (ho : h[143]? = some (cJ [l0])) (e1 : ¬ (inb row 8 ∧ inb place 8) → Q (.inl (some (vi 1))) false h) (e2 : (inb row 8 ∧ inb place 8) → ¬ (inb value σ.p) → Q (.inl (some (vi 2))) false h) (k : (inb row 8 ∧ inb place 8) → (inb value σ.p) → ∀ h2, FC h h2 → CW (σ.sRow row.toNat ((σ.rw row.toNat).set place.toNat value)) h2 → ∀ z9, xr z9 → vi ((σ.rw row.toNat).getD place.toNat 0) = vi z9 → Q (.inl (some (vi 0))) ex (h2.set 143 (cJ [z9]))) : X G m_L_put (d + 8) (rc + 3) (rs + 18) ex 0 (xe m_L_put.2.2.1 [.ref 3, vi row, vi place, vi value, .ref 143]) [] h Q := by
  show X G m_L_put _ _ _ _ 0 [some (.ref 3), some (vi row), some (vi place), some (vi value), some (.ref 143), none] [] h Q
  refine x_aload (dT U_L_put 0 rfl) rfl ?_
  refine x_iconst (dT U_L_put 1 rfl) ?_
  refine x_aload_n (dT U_L_put 2 rfl) rfl ?_
  refine x_iload_n (dT U_L_put 3 rfl) rfl ?_
  refine x_iload_n (dT U_L_put 4 rfl) rfl ?_
  refine x_iload_n (dT U_L_put 5 rfl) rfl ?_
  refine x_invokevirtualH (rc' := rc) (rs' := rs) (rc2 := 0 + 3) (rs2 := 0 + 18) (As := [_, _, _]) (st := _) M_X10_put K_L_15 (dT U_L_put 6 rfl) rfl (by decide) rfl rfl w.c3 (Nat.le_of_ble_eq_true rfl) (by decide) rfl (Nat.le_of_ble_eq_true rfl) rfl (by decide) (Nat.le_of_ble_eq_true rfl) (Nat.add_comm _ _ ▸ rfl) (Nat.add_comm _ _ ▸ rfl) ?_
  refine S_X10_put w v h_row h_place h_value (fun c1 => ?_) (fun c1 c2 => ?_) (fun c1 c2 h2 fc w2 => ?_)
  · refine xRetH_thr ?_
    refine ⟨[], (⟨0, 12, 15, 19⟩ : ExceptionTableEntry), [(⟨0, 12, 19, 13⟩ : ExceptionTableEntry)], rfl, fun z hz => absurd hz List.not_mem_nil, rfl, by decide, W_L_19, 5, 2, Or.inr ⟨(dT U_L_put 10 rfl), rfl⟩, by decide, ?_⟩
    refine x_iconst (dT U_L_put 11 rfl) ?_
    refine x_ireturn (dT U_L_put 12 rfl) rfl ?_
    exact e1 c1
  · refine xRetH_thr ?_
    refine ⟨[(⟨0, 12, 15, 19⟩ : ExceptionTableEntry)], (⟨0, 12, 19, 13⟩ : ExceptionTableEntry), [], rfl, fun z hz => by
        simp only [List.mem_cons, List.not_mem_nil, or_false] at hz
        subst hz
        exact ⟨by decide, "java/lang/IndexOutOfBoundsException", by decide, by decide, W_L_19⟩, rfl, by decide, W_L_13, 5, 2, Or.inr ⟨(dT U_L_put 13 rfl), rfl⟩, by decide, ?_⟩
    refine x_iconst (dT U_L_put 14 rfl) ?_
    refine x_ireturn (dT U_L_put 15 rfl) rfl ?_
    exact e2 c1 c2
  · refine xRetH_some ?_
    refine x_i2lN (dT U_L_put 7 rfl) (fun z9 hz9 ez9 => ?_)
    refine x_lastore 0 (dT U_L_put 8 rfl) (fc.get ho (by omega)) (Nat.le_of_ble_eq_true rfl) rfl (Nat.le_of_ble_eq_true rfl) (Nat.le_of_ble_eq_true rfl) ?_
    refine x_goto (tgt := 23) (dT U_L_put 9 rfl) (by decide) ?_
    refine x_iconst (dT U_L_put 16 rfl) ?_
    refine x_ireturn (dT U_L_put 17 rfl) rfl ?_
    exact k c1 c2 h2 fc w2 z9 hz9 ez9

set_option maxRecDepth 20000 in
set_option maxHeartbeats 1000000 in
theorem S_L_fill {G : xG} {d rc rs : Nat} {ex : Bool} {h : xH} {Q : xQ} {σ : St} {row b1 b2 b3 b4 b5 b6 b7 b8 : Int} {l0 : Int} (w : CW σ h) (v : INV σ) (h_row : xr row) (h_b1 : xr b1) (h_b2 : xr b2) (h_b3 : xr b3) (h_b4 : xr b4) (h_b5 : xr b5) (h_b6 : xr b6) (h_b7 : xr b7) (h_b8 : xr b8) (ho : h[143]? = some (cJ [l0])) (e1 : ¬ (inb row 8) → Q (.inl (some (vi 1))) false h) (k : (inb row 8) → ∀ h2, FC h h2 → CW (σ.sRow row.toNat (row8 (σ.p : Int) b1 b2 b3 b4 b5 b6 b7 b8)) h2 → ∀ z9, xr z9 → vi (dg (gf (row8 (σ.p : Int) b1 b2 b3 b4 b5 b6 b7 b8)) 8) = vi z9 → Q (.inl (some (vi 0))) ex (h2.set 143 (cJ [z9]))) : X G m_L_fill (d + 8) (rc + 1) (rs + 6) ex 0 (xe m_L_fill.2.2.1 [.ref 3, vi row, vi b1, vi b2, vi b3, vi b4, vi b5, vi b6, vi b7, vi b8, .ref 143]) [] h Q := by
  show X G m_L_fill _ _ _ _ 0 [some (.ref 3), some (vi row), some (vi b1), some (vi b2), some (vi b3), some (vi b4), some (vi b5), some (vi b6), some (vi b7), some (vi b8), some (.ref 143), none] [] h Q
  refine x_aload (dT U_L_fill 0 rfl) rfl ?_
  refine x_iconst (dT U_L_fill 1 rfl) ?_
  refine x_aload_n (dT U_L_fill 2 rfl) rfl ?_
  refine x_iload_n (dT U_L_fill 3 rfl) rfl ?_
  refine x_iload_n (dT U_L_fill 4 rfl) rfl ?_
  refine x_iload_n (dT U_L_fill 5 rfl) rfl ?_
  refine x_iload (dT U_L_fill 6 rfl) rfl ?_
  refine x_iload (dT U_L_fill 7 rfl) rfl ?_
  refine x_iload (dT U_L_fill 8 rfl) rfl ?_
  refine x_iload (dT U_L_fill 9 rfl) rfl ?_
  refine x_iload (dT U_L_fill 10 rfl) rfl ?_
  refine x_iload (dT U_L_fill 11 rfl) rfl ?_
  refine x_invokevirtualH (rc' := rc) (rs' := rs) (rc2 := 0 + 1) (rs2 := 0 + 6) (As := [_, _, _, _, _, _, _, _, _]) (st := _) M_X10_fill K_L_21 (dT U_L_fill 12 rfl) rfl (by decide) rfl rfl w.c3 (Nat.le_of_ble_eq_true rfl) (by decide) rfl (Nat.le_of_ble_eq_true rfl) rfl (by decide) (Nat.le_of_ble_eq_true rfl) (Nat.add_comm _ _ ▸ rfl) (Nat.add_comm _ _ ▸ rfl) ?_
  refine S_X10_fill w v h_row h_b1 h_b2 h_b3 h_b4 h_b5 h_b6 h_b7 h_b8 (fun c1 => ?_) (fun c1 h2 fc w2 => ?_)
  · refine xRetH_thr ?_
    refine ⟨[], (⟨0, 24, 27, 19⟩ : ExceptionTableEntry), [], rfl, fun z hz => absurd hz List.not_mem_nil, rfl, by decide, W_L_19, 11, 2, Or.inr ⟨(dT U_L_fill 16 rfl), rfl⟩, by decide, ?_⟩
    refine x_iconst (dT U_L_fill 17 rfl) ?_
    refine x_ireturn (dT U_L_fill 18 rfl) rfl ?_
    exact e1 c1
  · refine xRetH_some ?_
    refine x_i2lN (dT U_L_fill 13 rfl) (fun z9 hz9 ez9 => ?_)
    refine x_lastore 0 (dT U_L_fill 14 rfl) (fc.get ho (by omega)) (Nat.le_of_ble_eq_true rfl) rfl (Nat.le_of_ble_eq_true rfl) (Nat.le_of_ble_eq_true rfl) ?_
    refine x_goto (tgt := 31) (dT U_L_fill 15 rfl) (by decide) ?_
    refine x_iconst (dT U_L_fill 19 rfl) ?_
    refine x_ireturn (dT U_L_fill 20 rfl) rfl ?_
    exact k c1 h2 fc w2 z9 hz9 ez9

set_option maxRecDepth 20000 in
set_option maxHeartbeats 1000000 in
theorem S_L_get {G : xG} {d rc rs : Nat} {ex : Bool} {h : xH} {Q : xQ} {σ : St} {row place : Int} {l0 : Int} (w : CW σ h) (v : INV σ) (h_row : xr row) (h_place : xr place) (ho : h[143]? = some (cJ [l0])) (e1 : ¬ (inb row 8 ∧ inb place 8) → Q (.inl (some (vi 1))) false h) (k : (inb row 8 ∧ inb place 8) → ∀ z9, xr z9 → vi ((σ.rw row.toNat).getD place.toNat 0) = vi z9 → Q (.inl (some (vi 0))) ex (h.set 143 (cJ [z9]))) : X G m_L_get (d + 8) (rc + 2) (rs + 12) ex 0 (xe m_L_get.2.2.1 [.ref 3, vi row, vi place, .ref 143]) [] h Q := by
  show X G m_L_get _ _ _ _ 0 [some (.ref 3), some (vi row), some (vi place), some (.ref 143), none] [] h Q
  refine x_aload_n (dT U_L_get 0 rfl) rfl ?_
  refine x_iconst (dT U_L_get 1 rfl) ?_
  refine x_aload_n (dT U_L_get 2 rfl) rfl ?_
  refine x_iload_n (dT U_L_get 3 rfl) rfl ?_
  refine x_iload_n (dT U_L_get 4 rfl) rfl ?_
  refine x_invokevirtualH (rc' := rc) (rs' := rs) (rc2 := 0 + 2) (rs2 := 0 + 12) (As := [_, _]) (st := _) M_X10_get K_L_25 (dT U_L_get 5 rfl) rfl (by decide) rfl rfl w.c3 (Nat.le_of_ble_eq_true rfl) (by decide) rfl (Nat.le_of_ble_eq_true rfl) rfl (by decide) (Nat.le_of_ble_eq_true rfl) (Nat.add_comm _ _ ▸ rfl) (Nat.add_comm _ _ ▸ rfl) ?_
  refine S_X10_get w v h_row h_place (fun c1 => ?_) (fun c1 => ?_)
  · refine xRetH_thr ?_
    refine ⟨[], (⟨0, 10, 13, 19⟩ : ExceptionTableEntry), [], rfl, fun z hz => absurd hz List.not_mem_nil, rfl, by decide, W_L_19, 4, 2, Or.inr ⟨(dT U_L_get 9 rfl), rfl⟩, by decide, ?_⟩
    refine x_iconst (dT U_L_get 10 rfl) ?_
    refine x_ireturn (dT U_L_get 11 rfl) rfl ?_
    exact e1 c1
  · refine xRetH_some ?_
    refine x_i2lN (dT U_L_get 6 rfl) (fun z9 hz9 ez9 => ?_)
    refine x_lastore 0 (dT U_L_get 7 rfl) ho (Nat.le_of_ble_eq_true rfl) rfl (Nat.le_of_ble_eq_true rfl) (Nat.le_of_ble_eq_true rfl) ?_
    refine x_goto (tgt := 17) (dT U_L_get 8 rfl) (by decide) ?_
    refine x_iconst (dT U_L_get 12 rfl) ?_
    refine x_ireturn (dT U_L_get 13 rfl) rfl ?_
    exact k c1 z9 hz9 ez9

set_option maxRecDepth 20000 in
set_option maxHeartbeats 1000000 in
theorem S_L_degree {G : xG} {d rc rs : Nat} {ex : Bool} {h : xH} {Q : xQ} {σ : St} {row : Int} {l0 : Int} (w : CW σ h) (v : INV σ) (h_row : xr row) (ho : h[143]? = some (cJ [l0])) (e1 : ¬ (inb row 8) → Q (.inl (some (vi 1))) false h) (k : (inb row 8) → ∀ z9, xr z9 → vi (dg (gf (σ.rw row.toNat)) 8) = vi z9 → Q (.inl (some (vi 0))) ex (h.set 143 (cJ [z9]))) : X G m_L_degree (d + 8) (rc + 1) (rs + 6) ex 0 (xe m_L_degree.2.2.1 [.ref 3, vi row, .ref 143]) [] h Q := by
  show X G m_L_degree _ _ _ _ 0 [some (.ref 3), some (vi row), some (.ref 143), none] [] h Q
  refine x_aload_n (dT U_L_degree 0 rfl) rfl ?_
  refine x_iconst (dT U_L_degree 1 rfl) ?_
  refine x_aload_n (dT U_L_degree 2 rfl) rfl ?_
  refine x_iload_n (dT U_L_degree 3 rfl) rfl ?_
  refine x_invokevirtualH (rc' := rc) (rs' := rs) (rc2 := 0 + 1) (rs2 := 0 + 6) (As := [_]) (st := _) M_X10_degree K_L_29 (dT U_L_degree 4 rfl) rfl (by decide) rfl rfl w.c3 (Nat.le_of_ble_eq_true rfl) (by decide) rfl (Nat.le_of_ble_eq_true rfl) rfl (by decide) (Nat.le_of_ble_eq_true rfl) (Nat.add_comm _ _ ▸ rfl) (Nat.add_comm _ _ ▸ rfl) ?_
  refine S_X10_degree w v h_row (fun c1 => ?_) (fun c1 => ?_)
  · refine xRetH_thr ?_
    refine ⟨[], (⟨0, 9, 12, 19⟩ : ExceptionTableEntry), [], rfl, fun z hz => absurd hz List.not_mem_nil, rfl, by decide, W_L_19, 3, 1, Or.inl ⟨3, (dT U_L_degree 8 rfl), rfl, rfl⟩, by decide, ?_⟩
    refine x_iconst (dT U_L_degree 9 rfl) ?_
    refine x_ireturn (dT U_L_degree 10 rfl) rfl ?_
    exact e1 c1
  · refine xRetH_some ?_
    refine x_i2lN (dT U_L_degree 5 rfl) (fun z9 hz9 ez9 => ?_)
    refine x_lastore 0 (dT U_L_degree 6 rfl) ho (Nat.le_of_ble_eq_true rfl) rfl (Nat.le_of_ble_eq_true rfl) (Nat.le_of_ble_eq_true rfl) ?_
    refine x_goto (tgt := 15) (dT U_L_degree 7 rfl) (by decide) ?_
    refine x_iconst (dT U_L_degree 11 rfl) ?_
    refine x_ireturn (dT U_L_degree 12 rfl) rfl ?_
    exact k c1 z9 hz9 ez9

set_option maxRecDepth 20000 in
set_option maxHeartbeats 1000000 in
theorem S_L_value {G : xG} {d rc rs : Nat} {ex : Bool} {h : xH} {Q : xQ} {σ : St} {row x : Int} {l0 : Int} (w : CW σ h) (v : INV σ) (h_row : xr row) (h_x : xr x) (ho : h[143]? = some (cJ [l0])) (e1 : ¬ (inb row 8) → Q (.inl (some (vi 1))) false h) (e2 : (inb row 8) → ¬ (inb x σ.p) → Q (.inl (some (vi 2))) false h) (k : (inb row 8) → (inb x σ.p) → ∀ z9, xr z9 → vi (hor (gf (σ.rw row.toNat)) σ.p x 8) = vi z9 → Q (.inl (some (vi 0))) ex (h.set 143 (cJ [z9]))) : X G m_L_value (d + 8) (rc + 2) (rs + 12) ex 0 (xe m_L_value.2.2.1 [.ref 3, vi row, vi x, .ref 143]) [] h Q := by
  show X G m_L_value _ _ _ _ 0 [some (.ref 3), some (vi row), some (vi x), some (.ref 143), none] [] h Q
  refine x_aload_n (dT U_L_value 0 rfl) rfl ?_
  refine x_iconst (dT U_L_value 1 rfl) ?_
  refine x_aload_n (dT U_L_value 2 rfl) rfl ?_
  refine x_iload_n (dT U_L_value 3 rfl) rfl ?_
  refine x_iload_n (dT U_L_value 4 rfl) rfl ?_
  refine x_invokevirtualH (rc' := rc) (rs' := rs) (rc2 := 0 + 2) (rs2 := 0 + 12) (As := [_, _]) (st := _) M_X10_value K_L_32 (dT U_L_value 5 rfl) rfl (by decide) rfl rfl w.c3 (Nat.le_of_ble_eq_true rfl) (by decide) rfl (Nat.le_of_ble_eq_true rfl) rfl (by decide) (Nat.le_of_ble_eq_true rfl) (Nat.add_comm _ _ ▸ rfl) (Nat.add_comm _ _ ▸ rfl) ?_
  refine S_X10_value w v h_row h_x (fun c1 => ?_) (fun c1 c2 => ?_) (fun c1 c2 => ?_)
  · refine xRetH_thr ?_
    refine ⟨[], (⟨0, 10, 13, 19⟩ : ExceptionTableEntry), [(⟨0, 10, 17, 13⟩ : ExceptionTableEntry)], rfl, fun z hz => absurd hz List.not_mem_nil, rfl, by decide, W_L_19, 4, 2, Or.inr ⟨(dT U_L_value 9 rfl), rfl⟩, by decide, ?_⟩
    refine x_iconst (dT U_L_value 10 rfl) ?_
    refine x_ireturn (dT U_L_value 11 rfl) rfl ?_
    exact e1 c1
  · refine xRetH_thr ?_
    refine ⟨[(⟨0, 10, 13, 19⟩ : ExceptionTableEntry)], (⟨0, 10, 17, 13⟩ : ExceptionTableEntry), [], rfl, fun z hz => by
        simp only [List.mem_cons, List.not_mem_nil, or_false] at hz
        subst hz
        exact ⟨by decide, "java/lang/IndexOutOfBoundsException", by decide, by decide, W_L_19⟩, rfl, by decide, W_L_13, 4, 2, Or.inr ⟨(dT U_L_value 12 rfl), rfl⟩, by decide, ?_⟩
    refine x_iconst (dT U_L_value 13 rfl) ?_
    refine x_ireturn (dT U_L_value 14 rfl) rfl ?_
    exact e2 c1 c2
  · refine xRetH_some ?_
    refine x_i2lN (dT U_L_value 6 rfl) (fun z9 hz9 ez9 => ?_)
    refine x_lastore 0 (dT U_L_value 7 rfl) ho (Nat.le_of_ble_eq_true rfl) rfl (Nat.le_of_ble_eq_true rfl) (Nat.le_of_ble_eq_true rfl) ?_
    refine x_goto (tgt := 21) (dT U_L_value 8 rfl) (by decide) ?_
    refine x_iconst (dT U_L_value 15 rfl) ?_
    refine x_ireturn (dT U_L_value 16 rfl) rfl ?_
    exact k c1 c2 z9 hz9 ez9

set_option maxRecDepth 20000 in
set_option maxHeartbeats 1000000 in
theorem S_L_inner {G : xG} {d rc rs : Nat} {ex : Bool} {h : xH} {Q : xQ} {σ : St} {row other : Int} {l0 : Int} (w : CW σ h) (v : INV σ) (h_row : xr row) (h_other : xr other) (ho : h[143]? = some (cJ [l0])) (e1 : ¬ (inb row 8 ∧ inb other 8) → Q (.inl (some (vi 1))) false h) (k : (inb row 8 ∧ inb other 8) → ∀ z9, xr z9 → vi (inn (σ.rw row.toNat) (σ.rw other.toNat) % (σ.p : Int)) = vi z9 → Q (.inl (some (vi 0))) ex (h.set 143 (cJ [z9]))) : X G m_L_inner (d + 8) (rc + 2) (rs + 12) ex 0 (xe m_L_inner.2.2.1 [.ref 3, vi row, vi other, .ref 143]) [] h Q := by
  show X G m_L_inner _ _ _ _ 0 [some (.ref 3), some (vi row), some (vi other), some (.ref 143), none] [] h Q
  refine x_aload_n (dT U_L_inner 0 rfl) rfl ?_
  refine x_iconst (dT U_L_inner 1 rfl) ?_
  refine x_aload_n (dT U_L_inner 2 rfl) rfl ?_
  refine x_iload_n (dT U_L_inner 3 rfl) rfl ?_
  refine x_iload_n (dT U_L_inner 4 rfl) rfl ?_
  refine x_invokevirtualH (rc' := rc) (rs' := rs) (rc2 := 0 + 2) (rs2 := 0 + 12) (As := [_, _]) (st := _) M_X10_inner K_L_35 (dT U_L_inner 5 rfl) rfl (by decide) rfl rfl w.c3 (Nat.le_of_ble_eq_true rfl) (by decide) rfl (Nat.le_of_ble_eq_true rfl) rfl (by decide) (Nat.le_of_ble_eq_true rfl) (Nat.add_comm _ _ ▸ rfl) (Nat.add_comm _ _ ▸ rfl) ?_
  refine S_X10_inner w v h_row h_other (fun c1 => ?_) (fun c1 => ?_)
  · refine xRetH_thr ?_
    refine ⟨[], (⟨0, 10, 13, 19⟩ : ExceptionTableEntry), [], rfl, fun z hz => absurd hz List.not_mem_nil, rfl, by decide, W_L_19, 4, 2, Or.inr ⟨(dT U_L_inner 9 rfl), rfl⟩, by decide, ?_⟩
    refine x_iconst (dT U_L_inner 10 rfl) ?_
    refine x_ireturn (dT U_L_inner 11 rfl) rfl ?_
    exact e1 c1
  · refine xRetH_some ?_
    refine x_i2lN (dT U_L_inner 6 rfl) (fun z9 hz9 ez9 => ?_)
    refine x_lastore 0 (dT U_L_inner 7 rfl) ho (Nat.le_of_ble_eq_true rfl) rfl (Nat.le_of_ble_eq_true rfl) (Nat.le_of_ble_eq_true rfl) ?_
    refine x_goto (tgt := 17) (dT U_L_inner 8 rfl) (by decide) ?_
    refine x_iconst (dT U_L_inner 12 rfl) ?_
    refine x_ireturn (dT U_L_inner 13 rfl) rfl ?_
    exact k c1 z9 hz9 ez9

set_option maxRecDepth 20000 in
set_option maxHeartbeats 1000000 in
theorem S_L_mix {G : xG} {d rc rs : Nat} {ex : Bool} {h : xH} {Q : xQ} {σ : St} {row other factor to : Int} {l0 : Int} (w : CW σ h) (v : INV σ) (h_row : xr row) (h_other : xr other) (h_factor : xr factor) (h_to : xr to) (ho : h[143]? = some (cJ [l0])) (e1 : ¬ (inb row 8 ∧ inb other 8 ∧ inb to 8) → Q (.inl (some (vi 1))) false h) (e2 : (inb row 8 ∧ inb other 8 ∧ inb to 8) → ¬ (inb factor σ.p) → Q (.inl (some (vi 2))) false h) (k : (inb row 8 ∧ inb other 8 ∧ inb to 8) → (inb factor σ.p) → ∀ h2, FC h h2 → CW (σ.sRow to.toNat (tab (fun t => ((σ.rw row.toNat).getD t 0 + factor * (σ.rw other.toNat).getD t 0) % (σ.p : Int)) 8)) h2 → ∀ z9, xr z9 → vi (dg (gf (tab (fun t => ((σ.rw row.toNat).getD t 0 + factor * (σ.rw other.toNat).getD t 0) % (σ.p : Int)) 8)) 8) = vi z9 → Q (.inl (some (vi 0))) ex (h2.set 143 (cJ [z9]))) : X G m_L_mix (d + 8) (rc + 4) (rs + 24) ex 0 (xe m_L_mix.2.2.1 [.ref 3, vi row, vi other, vi factor, vi to, .ref 143]) [] h Q := by
  show X G m_L_mix _ _ _ _ 0 [some (.ref 3), some (vi row), some (vi other), some (vi factor), some (vi to), some (.ref 143), none] [] h Q
  refine x_aload (dT U_L_mix 0 rfl) rfl ?_
  refine x_iconst (dT U_L_mix 1 rfl) ?_
  refine x_aload_n (dT U_L_mix 2 rfl) rfl ?_
  refine x_iload_n (dT U_L_mix 3 rfl) rfl ?_
  refine x_iload_n (dT U_L_mix 4 rfl) rfl ?_
  refine x_iload_n (dT U_L_mix 5 rfl) rfl ?_
  refine x_iload (dT U_L_mix 6 rfl) rfl ?_
  refine x_invokevirtualH (rc' := rc) (rs' := rs) (rc2 := 0 + 4) (rs2 := 0 + 24) (As := [_, _, _, _]) (st := _) M_X10_mix K_L_38 (dT U_L_mix 7 rfl) rfl (by decide) rfl rfl w.c3 (Nat.le_of_ble_eq_true rfl) (by decide) rfl (Nat.le_of_ble_eq_true rfl) rfl (by decide) (Nat.le_of_ble_eq_true rfl) (Nat.add_comm _ _ ▸ rfl) (Nat.add_comm _ _ ▸ rfl) ?_
  refine S_X10_mix w v h_row h_other h_factor h_to (fun c1 => ?_) (fun c1 c2 => ?_) (fun c1 c2 h2 fc w2 => ?_)
  · refine xRetH_thr ?_
    refine ⟨[], (⟨0, 14, 17, 19⟩ : ExceptionTableEntry), [(⟨0, 14, 21, 13⟩ : ExceptionTableEntry)], rfl, fun z hz => absurd hz List.not_mem_nil, rfl, by decide, W_L_19, 6, 2, Or.inr ⟨(dT U_L_mix 11 rfl), rfl⟩, by decide, ?_⟩
    refine x_iconst (dT U_L_mix 12 rfl) ?_
    refine x_ireturn (dT U_L_mix 13 rfl) rfl ?_
    exact e1 c1
  · refine xRetH_thr ?_
    refine ⟨[(⟨0, 14, 17, 19⟩ : ExceptionTableEntry)], (⟨0, 14, 21, 13⟩ : ExceptionTableEntry), [], rfl, fun z hz => by
        simp only [List.mem_cons, List.not_mem_nil, or_false] at hz
        subst hz
        exact ⟨by decide, "java/lang/IndexOutOfBoundsException", by decide, by decide, W_L_19⟩, rfl, by decide, W_L_13, 6, 2, Or.inr ⟨(dT U_L_mix 14 rfl), rfl⟩, by decide, ?_⟩
    refine x_iconst (dT U_L_mix 15 rfl) ?_
    refine x_ireturn (dT U_L_mix 16 rfl) rfl ?_
    exact e2 c1 c2
  · refine xRetH_some ?_
    refine x_i2lN (dT U_L_mix 8 rfl) (fun z9 hz9 ez9 => ?_)
    refine x_lastore 0 (dT U_L_mix 9 rfl) (fc.get ho (by omega)) (Nat.le_of_ble_eq_true rfl) rfl (Nat.le_of_ble_eq_true rfl) (Nat.le_of_ble_eq_true rfl) ?_
    refine x_goto (tgt := 25) (dT U_L_mix 10 rfl) (by decide) ?_
    refine x_iconst (dT U_L_mix 17 rfl) ?_
    refine x_ireturn (dT U_L_mix 18 rfl) rfl ?_
    exact k c1 c2 h2 fc w2 z9 hz9 ez9

set_option maxRecDepth 20000 in
set_option maxHeartbeats 1000000 in
theorem S_L_times {G : xG} {d rc rs : Nat} {ex : Bool} {h : xH} {Q : xQ} {σ : St} {row other to : Int} {l0 : Int} (w : CW σ h) (v : INV σ) (h_row : xr row) (h_other : xr other) (h_to : xr to) (ho : h[143]? = some (cJ [l0])) (e1 : ¬ (inb row 8 ∧ inb other 8 ∧ inb to 8) → Q (.inl (some (vi 1))) false h) (e2 : (inb row 8 ∧ inb other 8 ∧ inb to 8) → ¬ (¬ (8 ≤ dg (gf (σ.rw row.toNat)) 8 + dg (gf (σ.rw other.toNat)) 8 ∧ 0 ≤ dg (gf (σ.rw row.toNat)) 8 ∧ 0 ≤ dg (gf (σ.rw other.toNat)) 8)) → Q (.inl (some (vi 2))) false h) (k : (inb row 8 ∧ inb other 8 ∧ inb to 8) → (¬ (8 ≤ dg (gf (σ.rw row.toNat)) 8 + dg (gf (σ.rw other.toNat)) 8 ∧ 0 ≤ dg (gf (σ.rw row.toNat)) 8 ∧ 0 ≤ dg (gf (σ.rw other.toNat)) 8)) → ∀ h2, FC h h2 → CW (σ.sRow to.toNat (tab (fun n => pm (gf (σ.rw row.toNat)) (gf (σ.rw other.toNat)) 8 n % (σ.p : Int)) 8)) h2 → ∀ z9, xr z9 → vi (dg (gf (tab (fun n => pm (gf (σ.rw row.toNat)) (gf (σ.rw other.toNat)) 8 n % (σ.p : Int)) 8)) 8) = vi z9 → Q (.inl (some (vi 0))) ex (h2.set 143 (cJ [z9]))) : X G m_L_times (d + 8) (rc + 4) (rs + 24) ex 0 (xe m_L_times.2.2.1 [.ref 3, vi row, vi other, vi to, .ref 143]) [] h Q := by
  show X G m_L_times _ _ _ _ 0 [some (.ref 3), some (vi row), some (vi other), some (vi to), some (.ref 143), none] [] h Q
  refine x_aload (dT U_L_times 0 rfl) rfl ?_
  refine x_iconst (dT U_L_times 1 rfl) ?_
  refine x_aload_n (dT U_L_times 2 rfl) rfl ?_
  refine x_iload_n (dT U_L_times 3 rfl) rfl ?_
  refine x_iload_n (dT U_L_times 4 rfl) rfl ?_
  refine x_iload_n (dT U_L_times 5 rfl) rfl ?_
  refine x_invokevirtualH (rc' := rc) (rs' := rs) (rc2 := 0 + 4) (rs2 := 0 + 24) (As := [_, _, _]) (st := _) M_X10_times K_L_42 (dT U_L_times 6 rfl) rfl (by decide) rfl rfl w.c3 (Nat.le_of_ble_eq_true rfl) (by decide) rfl (Nat.le_of_ble_eq_true rfl) rfl (by decide) (Nat.le_of_ble_eq_true rfl) (Nat.add_comm _ _ ▸ rfl) (Nat.add_comm _ _ ▸ rfl) ?_
  refine S_X10_times w v h_row h_other h_to (fun c1 => ?_) (fun c1 c2 => ?_) (fun c1 c2 h2 fc w2 => ?_)
  · refine xRetH_thr ?_
    refine ⟨[], (⟨0, 12, 15, 19⟩ : ExceptionTableEntry), [(⟨0, 12, 19, 45⟩ : ExceptionTableEntry)], rfl, fun z hz => absurd hz List.not_mem_nil, rfl, by decide, W_L_19, 5, 2, Or.inr ⟨(dT U_L_times 10 rfl), rfl⟩, by decide, ?_⟩
    refine x_iconst (dT U_L_times 11 rfl) ?_
    refine x_ireturn (dT U_L_times 12 rfl) rfl ?_
    exact e1 c1
  · refine xRetH_thr ?_
    refine ⟨[(⟨0, 12, 15, 19⟩ : ExceptionTableEntry)], (⟨0, 12, 19, 45⟩ : ExceptionTableEntry), [], rfl, fun z hz => by
        simp only [List.mem_cons, List.not_mem_nil, or_false] at hz
        subst hz
        exact ⟨by decide, "java/lang/IndexOutOfBoundsException", by decide, by decide, W_L_19⟩, rfl, by decide, W_L_45, 5, 2, Or.inr ⟨(dT U_L_times 13 rfl), rfl⟩, by decide, ?_⟩
    refine x_iconst (dT U_L_times 14 rfl) ?_
    refine x_ireturn (dT U_L_times 15 rfl) rfl ?_
    exact e2 c1 c2
  · refine xRetH_some ?_
    refine x_i2lN (dT U_L_times 7 rfl) (fun z9 hz9 ez9 => ?_)
    refine x_lastore 0 (dT U_L_times 8 rfl) (fc.get ho (by omega)) (Nat.le_of_ble_eq_true rfl) rfl (Nat.le_of_ble_eq_true rfl) (Nat.le_of_ble_eq_true rfl) ?_
    refine x_goto (tgt := 23) (dT U_L_times 9 rfl) (by decide) ?_
    refine x_iconst (dT U_L_times 16 rfl) ?_
    refine x_ireturn (dT U_L_times 17 rfl) rfl ?_
    exact k c1 c2 h2 fc w2 z9 hz9 ez9

set_option maxRecDepth 20000 in
set_option maxHeartbeats 1000000 in
theorem S_L_divide {G : xG} {d rc rs : Nat} {ex : Bool} {h : xH} {Q : xQ} {σ : St} {row by_ quotient rest : Int} {l0 : Int} (w : CW σ h) (v : INV σ) (h_row : xr row) (h_by_ : xr by_) (h_quotient : xr quotient) (h_rest : xr rest) (ho : h[143]? = some (cJ [l0])) (e1 : ¬ (inb row 8 ∧ inb by_ 8 ∧ inb quotient 8 ∧ inb rest 8) → Q (.inl (some (vi 1))) false h) (e2 : (inb row 8 ∧ inb by_ 8 ∧ inb quotient 8 ∧ inb rest 8) → ¬ (quotient ≠ rest) → Q (.inl (some (vi 2))) false h) (e3 : (inb row 8 ∧ inb by_ 8 ∧ inb quotient 8 ∧ inb rest 8) → (quotient ≠ rest) → ¬ (¬ (dg (gf (σ.rw by_.toNat)) 8) = -1) → Q (.inl (some (vi 3))) false h) (k : (inb row 8 ∧ inb by_ 8 ∧ inb quotient 8 ∧ inb rest 8) → (quotient ≠ rest) → (¬ (dg (gf (σ.rw by_.toNat)) 8) = -1) → ∀ h2, FC h h2 → CW ((σ.sRow quotient.toNat (dvQL σ.p (σ.rw row.toNat) (σ.rw by_.toNat))).sRow rest.toNat (dvRL σ.p (σ.rw row.toNat) (σ.rw by_.toNat))) h2 → ∀ z9, xr z9 → vi (dg (gf (dvRL σ.p (σ.rw row.toNat) (σ.rw by_.toNat))) 8) = vi z9 → Q (.inl (some (vi 0))) ex (h2.set 143 (cJ [z9]))) : X G m_L_divide (d + 8) (rc + 5) (rs + 30) ex 0 (xe m_L_divide.2.2.1 [.ref 3, vi row, vi by_, vi quotient, vi rest, .ref 143]) [] h Q := by
  show X G m_L_divide _ _ _ _ 0 [some (.ref 3), some (vi row), some (vi by_), some (vi quotient), some (vi rest), some (.ref 143), none] [] h Q
  refine x_aload (dT U_L_divide 0 rfl) rfl ?_
  refine x_iconst (dT U_L_divide 1 rfl) ?_
  refine x_aload_n (dT U_L_divide 2 rfl) rfl ?_
  refine x_iload_n (dT U_L_divide 3 rfl) rfl ?_
  refine x_iload_n (dT U_L_divide 4 rfl) rfl ?_
  refine x_iload_n (dT U_L_divide 5 rfl) rfl ?_
  refine x_iload (dT U_L_divide 6 rfl) rfl ?_
  refine x_invokevirtualH (rc' := rc) (rs' := rs) (rc2 := 0 + 5) (rs2 := 0 + 30) (As := [_, _, _, _]) (st := _) M_X10_divide K_L_47 (dT U_L_divide 7 rfl) rfl (by decide) rfl rfl w.c3 (Nat.le_of_ble_eq_true rfl) (by decide) rfl (Nat.le_of_ble_eq_true rfl) rfl (by decide) (Nat.le_of_ble_eq_true rfl) (Nat.add_comm _ _ ▸ rfl) (Nat.add_comm _ _ ▸ rfl) ?_
  refine S_X10_divide w v h_row h_by_ h_quotient h_rest (fun c1 => ?_) (fun c1 c2 => ?_) (fun c1 c2 c3 => ?_) (fun c1 c2 c3 h2 fc w2 => ?_)
  · refine xRetH_thr ?_
    refine ⟨[], (⟨0, 14, 17, 19⟩ : ExceptionTableEntry), [(⟨0, 14, 21, 13⟩ : ExceptionTableEntry), (⟨0, 14, 25, 50⟩ : ExceptionTableEntry)], rfl, fun z hz => absurd hz List.not_mem_nil, rfl, by decide, W_L_19, 6, 2, Or.inr ⟨(dT U_L_divide 11 rfl), rfl⟩, by decide, ?_⟩
    refine x_iconst (dT U_L_divide 12 rfl) ?_
    refine x_ireturn (dT U_L_divide 13 rfl) rfl ?_
    exact e1 c1
  · refine xRetH_thr ?_
    refine ⟨[(⟨0, 14, 17, 19⟩ : ExceptionTableEntry)], (⟨0, 14, 21, 13⟩ : ExceptionTableEntry), [(⟨0, 14, 25, 50⟩ : ExceptionTableEntry)], rfl, fun z hz => by
        simp only [List.mem_cons, List.not_mem_nil, or_false] at hz
        subst hz
        exact ⟨by decide, "java/lang/IndexOutOfBoundsException", by decide, by decide, W_L_19⟩, rfl, by decide, W_L_13, 6, 2, Or.inr ⟨(dT U_L_divide 14 rfl), rfl⟩, by decide, ?_⟩
    refine x_iconst (dT U_L_divide 15 rfl) ?_
    refine x_ireturn (dT U_L_divide 16 rfl) rfl ?_
    exact e2 c1 c2
  · refine xRetH_thr ?_
    refine ⟨[(⟨0, 14, 17, 19⟩ : ExceptionTableEntry), (⟨0, 14, 21, 13⟩ : ExceptionTableEntry)], (⟨0, 14, 25, 50⟩ : ExceptionTableEntry), [], rfl, fun z hz => by
        simp only [List.mem_cons, List.not_mem_nil, or_false] at hz
        rcases hz with rfl | rfl
        · exact ⟨by decide, "java/lang/IndexOutOfBoundsException", by decide, by decide, W_L_19⟩
        · exact ⟨by decide, "java/lang/IllegalArgumentException", by decide, by decide, W_L_13⟩, rfl, by decide, W_L_50, 6, 2, Or.inr ⟨(dT U_L_divide 17 rfl), rfl⟩, by decide, ?_⟩
    refine x_iconst (dT U_L_divide 18 rfl) ?_
    refine x_ireturn (dT U_L_divide 19 rfl) rfl ?_
    exact e3 c1 c2 c3
  · refine xRetH_some ?_
    refine x_i2lN (dT U_L_divide 8 rfl) (fun z9 hz9 ez9 => ?_)
    refine x_lastore 0 (dT U_L_divide 9 rfl) (fc.get ho (by omega)) (Nat.le_of_ble_eq_true rfl) rfl (Nat.le_of_ble_eq_true rfl) (Nat.le_of_ble_eq_true rfl) ?_
    refine x_goto (tgt := 29) (dT U_L_divide 10 rfl) (by decide) ?_
    refine x_iconst (dT U_L_divide 20 rfl) ?_
    refine x_ireturn (dT U_L_divide 21 rfl) rfl ?_
    exact k c1 c2 c3 h2 fc w2 z9 hz9 ez9

set_option maxRecDepth 20000 in
set_option maxHeartbeats 1000000 in
theorem S_L_through {G : xG} {d rc rs : Nat} {ex : Bool} {h : xH} {Q : xQ} {σ : St} {points values many to : Int} {l0 : Int} (w : CW σ h) (v : INV σ) (h_points : xr points) (h_values : xr values) (h_many : xr many) (h_to : xr to) (ho : h[143]? = some (cJ [l0])) (e1 : ¬ (inb points 8 ∧ inb values 8 ∧ inb to 8) → Q (.inl (some (vi 1))) false h) (e2 : (inb points 8 ∧ inb values 8 ∧ inb to 8) → ¬ ((1 ≤ many ∧ many ≤ 8) ∧ (∀ i j : Nat, j < i → (i : Int) < many → ¬ (σ.rw points.toNat).getD i 0 = (σ.rw points.toNat).getD j 0)) → Q (.inl (some (vi 2))) false h) (k : (inb points 8 ∧ inb values 8 ∧ inb to 8) → ((1 ≤ many ∧ many ≤ 8) ∧ (∀ i j : Nat, j < i → (i : Int) < many → ¬ (σ.rw points.toNat).getD i 0 = (σ.rw points.toNat).getD j 0)) → ∀ h2, FC h h2 → CW (σ.sRow to.toNat (tab (lit σ.p (gf (σ.rw points.toNat)) (gf (σ.rw values.toNat)) many.toNat many.toNat) 8)) h2 → ∀ z9, xr z9 → vi (dg (gf (tab (lit σ.p (gf (σ.rw points.toNat)) (gf (σ.rw values.toNat)) many.toNat many.toNat) 8)) 8) = vi z9 → Q (.inl (some (vi 0))) ex (h2.set 143 (cJ [z9]))) : X G m_L_through (d + 8) (rc + 4) (rs + 24) ex 0 (xe m_L_through.2.2.1 [.ref 3, vi points, vi values, vi many, vi to, .ref 143]) [] h Q := by
  show X G m_L_through _ _ _ _ 0 [some (.ref 3), some (vi points), some (vi values), some (vi many), some (vi to), some (.ref 143), none] [] h Q
  refine x_aload (dT U_L_through 0 rfl) rfl ?_
  refine x_iconst (dT U_L_through 1 rfl) ?_
  refine x_aload_n (dT U_L_through 2 rfl) rfl ?_
  refine x_iload_n (dT U_L_through 3 rfl) rfl ?_
  refine x_iload_n (dT U_L_through 4 rfl) rfl ?_
  refine x_iload_n (dT U_L_through 5 rfl) rfl ?_
  refine x_iload (dT U_L_through 6 rfl) rfl ?_
  refine x_invokevirtualH (rc' := rc) (rs' := rs) (rc2 := 0 + 4) (rs2 := 0 + 24) (As := [_, _, _, _]) (st := _) M_X10_through K_L_52 (dT U_L_through 7 rfl) rfl (by decide) rfl rfl w.c3 (Nat.le_of_ble_eq_true rfl) (by decide) rfl (Nat.le_of_ble_eq_true rfl) rfl (by decide) (Nat.le_of_ble_eq_true rfl) (Nat.add_comm _ _ ▸ rfl) (Nat.add_comm _ _ ▸ rfl) ?_
  refine S_X10_through w v h_points h_values h_many h_to (fun c1 => ?_) (fun c1 c2 => ?_) (fun c1 c2 h2 fc w2 => ?_)
  · refine xRetH_thr ?_
    refine ⟨[], (⟨0, 14, 17, 19⟩ : ExceptionTableEntry), [(⟨0, 14, 21, 13⟩ : ExceptionTableEntry)], rfl, fun z hz => absurd hz List.not_mem_nil, rfl, by decide, W_L_19, 6, 2, Or.inr ⟨(dT U_L_through 11 rfl), rfl⟩, by decide, ?_⟩
    refine x_iconst (dT U_L_through 12 rfl) ?_
    refine x_ireturn (dT U_L_through 13 rfl) rfl ?_
    exact e1 c1
  · refine xRetH_thr ?_
    refine ⟨[(⟨0, 14, 17, 19⟩ : ExceptionTableEntry)], (⟨0, 14, 21, 13⟩ : ExceptionTableEntry), [], rfl, fun z hz => by
        simp only [List.mem_cons, List.not_mem_nil, or_false] at hz
        subst hz
        exact ⟨by decide, "java/lang/IndexOutOfBoundsException", by decide, by decide, W_L_19⟩, rfl, by decide, W_L_13, 6, 2, Or.inr ⟨(dT U_L_through 14 rfl), rfl⟩, by decide, ?_⟩
    refine x_iconst (dT U_L_through 15 rfl) ?_
    refine x_ireturn (dT U_L_through 16 rfl) rfl ?_
    exact e2 c1 c2
  · refine xRetH_some ?_
    refine x_i2lN (dT U_L_through 8 rfl) (fun z9 hz9 ez9 => ?_)
    refine x_lastore 0 (dT U_L_through 9 rfl) (fc.get ho (by omega)) (Nat.le_of_ble_eq_true rfl) rfl (Nat.le_of_ble_eq_true rfl) (Nat.le_of_ble_eq_true rfl) ?_
    refine x_goto (tgt := 25) (dT U_L_through 10 rfl) (by decide) ?_
    refine x_iconst (dT U_L_through 17 rfl) ?_
    refine x_ireturn (dT U_L_through 18 rfl) rfl ?_
    exact k c1 c2 h2 fc w2 z9 hz9 ez9

set_option maxRecDepth 20000 in
set_option maxHeartbeats 1000000 in
theorem S_L_powers {G : xG} {d rc rs : Nat} {ex : Bool} {h : xH} {Q : xQ} {σ : St} {x to : Int} {l0 : Int} (w : CW σ h) (v : INV σ) (h_x : xr x) (h_to : xr to) (ho : h[143]? = some (cJ [l0])) (e1 : ¬ (inb to 8) → Q (.inl (some (vi 1))) false h) (e2 : (inb to 8) → ¬ (inb x σ.p) → Q (.inl (some (vi 2))) false h) (k : (inb to 8) → (inb x σ.p) → ∀ h2, FC h h2 → CW (σ.sRow to.toNat (tab (pws (σ.p : Int) x) 8)) h2 → ∀ z9, xr z9 → vi (dg (gf (tab (pws (σ.p : Int) x) 8)) 8) = vi z9 → Q (.inl (some (vi 0))) ex (h2.set 143 (cJ [z9]))) : X G m_L_powers (d + 8) (rc + 2) (rs + 12) ex 0 (xe m_L_powers.2.2.1 [.ref 3, vi x, vi to, .ref 143]) [] h Q := by
  show X G m_L_powers _ _ _ _ 0 [some (.ref 3), some (vi x), some (vi to), some (.ref 143), none] [] h Q
  refine x_aload_n (dT U_L_powers 0 rfl) rfl ?_
  refine x_iconst (dT U_L_powers 1 rfl) ?_
  refine x_aload_n (dT U_L_powers 2 rfl) rfl ?_
  refine x_iload_n (dT U_L_powers 3 rfl) rfl ?_
  refine x_iload_n (dT U_L_powers 4 rfl) rfl ?_
  refine x_invokevirtualH (rc' := rc) (rs' := rs) (rc2 := 0 + 2) (rs2 := 0 + 12) (As := [_, _]) (st := _) M_X10_powers K_L_55 (dT U_L_powers 5 rfl) rfl (by decide) rfl rfl w.c3 (Nat.le_of_ble_eq_true rfl) (by decide) rfl (Nat.le_of_ble_eq_true rfl) rfl (by decide) (Nat.le_of_ble_eq_true rfl) (Nat.add_comm _ _ ▸ rfl) (Nat.add_comm _ _ ▸ rfl) ?_
  refine S_X10_powers w v h_x h_to (fun c1 => ?_) (fun c1 c2 => ?_) (fun c1 c2 h2 fc w2 => ?_)
  · refine xRetH_thr ?_
    refine ⟨[], (⟨0, 10, 13, 19⟩ : ExceptionTableEntry), [(⟨0, 10, 17, 13⟩ : ExceptionTableEntry)], rfl, fun z hz => absurd hz List.not_mem_nil, rfl, by decide, W_L_19, 4, 2, Or.inr ⟨(dT U_L_powers 9 rfl), rfl⟩, by decide, ?_⟩
    refine x_iconst (dT U_L_powers 10 rfl) ?_
    refine x_ireturn (dT U_L_powers 11 rfl) rfl ?_
    exact e1 c1
  · refine xRetH_thr ?_
    refine ⟨[(⟨0, 10, 13, 19⟩ : ExceptionTableEntry)], (⟨0, 10, 17, 13⟩ : ExceptionTableEntry), [], rfl, fun z hz => by
        simp only [List.mem_cons, List.not_mem_nil, or_false] at hz
        subst hz
        exact ⟨by decide, "java/lang/IndexOutOfBoundsException", by decide, by decide, W_L_19⟩, rfl, by decide, W_L_13, 4, 2, Or.inr ⟨(dT U_L_powers 12 rfl), rfl⟩, by decide, ?_⟩
    refine x_iconst (dT U_L_powers 13 rfl) ?_
    refine x_ireturn (dT U_L_powers 14 rfl) rfl ?_
    exact e2 c1 c2
  · refine xRetH_some ?_
    refine x_i2lN (dT U_L_powers 6 rfl) (fun z9 hz9 ez9 => ?_)
    refine x_lastore 0 (dT U_L_powers 7 rfl) (fc.get ho (by omega)) (Nat.le_of_ble_eq_true rfl) rfl (Nat.le_of_ble_eq_true rfl) (Nat.le_of_ble_eq_true rfl) ?_
    refine x_goto (tgt := 21) (dT U_L_powers 8 rfl) (by decide) ?_
    refine x_iconst (dT U_L_powers 15 rfl) ?_
    refine x_ireturn (dT U_L_powers 16 rfl) rfl ?_
    exact k c1 c2 h2 fc w2 z9 hz9 ez9

set_option maxRecDepth 20000 in
set_option maxHeartbeats 1000000 in
theorem S_L_isMixed {G : xG} {d rc rs : Nat} {ex : Bool} {h : xH} {Q : xQ} {σ : St} {row other : Int} {l0 : Int} (w : CW σ h) (v : INV σ) (h_row : xr row) (h_other : xr other) (ho : h[143]? = some (cJ [l0])) (e1 : ¬ (inb row 8 ∧ inb other 8) → Q (.inl (some (vi 1))) false h) (k1 : (inb row 8 ∧ inb other 8) → sameN (gf (σ.rw row.toNat)) (gf (σ.rw other.toNat)) → Q (.inl (some (vi 0))) ex (h.set 143 (cJ [1]))) (k0 : (inb row 8 ∧ inb other 8) → ¬ (sameN (gf (σ.rw row.toNat)) (gf (σ.rw other.toNat))) → Q (.inl (some (vi 0))) ex (h.set 143 (cJ [0]))) : X G m_L_isMixed (d + 8) (rc + 2) (rs + 12) ex 0 (xe m_L_isMixed.2.2.1 [.ref 3, vi row, vi other, .ref 143]) [] h Q := by
  show X G m_L_isMixed _ _ _ _ 0 [some (.ref 3), some (vi row), some (vi other), some (.ref 143), none] [] h Q
  refine x_aload_n (dT U_L_isMixed 0 rfl) rfl ?_
  refine x_iconst (dT U_L_isMixed 1 rfl) ?_
  refine x_aload_n (dT U_L_isMixed 2 rfl) rfl ?_
  refine x_iload_n (dT U_L_isMixed 3 rfl) rfl ?_
  refine x_iload_n (dT U_L_isMixed 4 rfl) rfl ?_
  refine x_invokevirtualH (rc' := rc) (rs' := rs) (rc2 := 0 + 2) (rs2 := 0 + 12) (As := [_, _]) (st := _) M_X10_isMixed K_L_58 (dT U_L_isMixed 5 rfl) rfl (by decide) rfl rfl w.c3 (Nat.le_of_ble_eq_true rfl) (by decide) rfl (Nat.le_of_ble_eq_true rfl) rfl (by decide) (Nat.le_of_ble_eq_true rfl) (Nat.add_comm _ _ ▸ rfl) (Nat.add_comm _ _ ▸ rfl) ?_
  refine S_X10_isMixed w v h_row h_other (fun c1 => ?_) (fun c1 c2 => ?_) (fun c1 c2 => ?_)
  · refine xRetH_thr ?_
    refine ⟨[], (⟨0, 17, 20, 19⟩ : ExceptionTableEntry), [], rfl, fun z hz => absurd hz List.not_mem_nil, rfl, by decide, W_L_19, 4, 2, Or.inr ⟨(dT U_L_isMixed 12 rfl), rfl⟩, by decide, ?_⟩
    refine x_iconst (dT U_L_isMixed 13 rfl) ?_
    refine x_ireturn (dT U_L_isMixed 14 rfl) rfl ?_
    exact e1 c1
  · refine xRetH_some ?_
    refine x_if_eqn (tgt := 15) (dT U_L_isMixed 6 rfl) (by decide) (by decide) ?_
    refine x_lconst (z := 1) (dT U_L_isMixed 7 rfl) rfl ?_
    refine x_goto (tgt := 16) (dT U_L_isMixed 8 rfl) (by decide) ?_
    refine x_lastore 0 (dT U_L_isMixed 10 rfl) ho (Nat.le_of_ble_eq_true rfl) rfl (Nat.le_of_ble_eq_true rfl) (Nat.le_of_ble_eq_true rfl) ?_
    refine x_goto (tgt := 24) (dT U_L_isMixed 11 rfl) (by decide) ?_
    refine x_iconst (dT U_L_isMixed 15 rfl) ?_
    refine x_ireturn (dT U_L_isMixed 16 rfl) rfl ?_
    exact k1 c1 c2
  · refine xRetH_some ?_
    refine x_if_eqj (tgt := 15) (dT U_L_isMixed 6 rfl) (by decide) (by decide) ?_
    refine x_lconst (z := 0) (dT U_L_isMixed 9 rfl) rfl ?_
    refine x_lastore 0 (dT U_L_isMixed 10 rfl) ho (Nat.le_of_ble_eq_true rfl) rfl (Nat.le_of_ble_eq_true rfl) (Nat.le_of_ble_eq_true rfl) ?_
    refine x_goto (tgt := 24) (dT U_L_isMixed 11 rfl) (by decide) ?_
    refine x_iconst (dT U_L_isMixed 15 rfl) ?_
    refine x_ireturn (dT U_L_isMixed 16 rfl) rfl ?_
    exact k0 c1 c2

set_option maxRecDepth 20000 in
set_option maxHeartbeats 1000000 in
theorem S_L_meets {G : xG} {d rc rs : Nat} {ex : Bool} {h : xH} {Q : xQ} {σ : St} {row other : Int} {l0 : Int} (w : CW σ h) (v : INV σ) (h_row : xr row) (h_other : xr other) (ho : h[143]? = some (cJ [l0])) (e1 : ¬ (inb row 8 ∧ inb other 8) → Q (.inl (some (vi 1))) false h) (k : (inb row 8 ∧ inb other 8) → ∀ z9, xr z9 → vi ((ct (fun x : Nat => pw σ.p (gf (σ.rw row.toNat)) x 8 = pw σ.p (gf (σ.rw other.toNat)) x 8) σ.p : Int)) = vi z9 → Q (.inl (some (vi 0))) ex (h.set 143 (cJ [z9]))) : X G m_L_meets (d + 8) (rc + 2) (rs + 12) ex 0 (xe m_L_meets.2.2.1 [.ref 3, vi row, vi other, .ref 143]) [] h Q := by
  show X G m_L_meets _ _ _ _ 0 [some (.ref 3), some (vi row), some (vi other), some (.ref 143), none] [] h Q
  refine x_aload_n (dT U_L_meets 0 rfl) rfl ?_
  refine x_iconst (dT U_L_meets 1 rfl) ?_
  refine x_aload_n (dT U_L_meets 2 rfl) rfl ?_
  refine x_iload_n (dT U_L_meets 3 rfl) rfl ?_
  refine x_iload_n (dT U_L_meets 4 rfl) rfl ?_
  refine x_invokevirtualH (rc' := rc) (rs' := rs) (rc2 := 0 + 2) (rs2 := 0 + 12) (As := [_, _]) (st := _) M_X10_meets K_L_62 (dT U_L_meets 5 rfl) rfl (by decide) rfl rfl w.c3 (Nat.le_of_ble_eq_true rfl) (by decide) rfl (Nat.le_of_ble_eq_true rfl) rfl (by decide) (Nat.le_of_ble_eq_true rfl) (Nat.add_comm _ _ ▸ rfl) (Nat.add_comm _ _ ▸ rfl) ?_
  refine S_X10_meets w v h_row h_other (fun c1 => ?_) (fun c1 => ?_)
  · refine xRetH_thr ?_
    refine ⟨[], (⟨0, 10, 13, 19⟩ : ExceptionTableEntry), [], rfl, fun z hz => absurd hz List.not_mem_nil, rfl, by decide, W_L_19, 4, 2, Or.inr ⟨(dT U_L_meets 9 rfl), rfl⟩, by decide, ?_⟩
    refine x_iconst (dT U_L_meets 10 rfl) ?_
    refine x_ireturn (dT U_L_meets 11 rfl) rfl ?_
    exact e1 c1
  · refine xRetH_some ?_
    refine x_i2lN (dT U_L_meets 6 rfl) (fun z9 hz9 ez9 => ?_)
    refine x_lastore 0 (dT U_L_meets 7 rfl) ho (Nat.le_of_ble_eq_true rfl) rfl (Nat.le_of_ble_eq_true rfl) (Nat.le_of_ble_eq_true rfl) ?_
    refine x_goto (tgt := 17) (dT U_L_meets 8 rfl) (by decide) ?_
    refine x_iconst (dT U_L_meets 12 rfl) ?_
    refine x_ireturn (dT U_L_meets 13 rfl) rfl ?_
    exact k c1 z9 hz9 ez9

set_option maxRecDepth 20000 in
set_option maxHeartbeats 1000000 in
theorem S_L_base {G : xG} {d rc rs : Nat} {ex : Bool} {h : xH} {Q : xQ} {σ : St} {n : Int} {l0 : Int} (w : CW σ h) (v : INV σ) (h_n : xr n) (ho : h[143]? = some (cJ [l0])) (e1 : ¬ (inb n 9) → Q (.inl (some (vi 1))) false h) (k : (inb n 9) → ∀ z9, xr z9 → vi (MM σ.p (bs σ.p n.toNat : Int)) = vi z9 → Q (.inl (some (vi 0))) ex (h.set 143 (cJ [z9]))) : X G m_L_base (d + 7) (rc + 1) (rs + 6) ex 0 (xe m_L_base.2.2.1 [.ref 3, vi n, .ref 143]) [] h Q := by
  show X G m_L_base _ _ _ _ 0 [some (.ref 3), some (vi n), some (.ref 143), none] [] h Q
  refine x_aload_n (dT U_L_base 0 rfl) rfl ?_
  refine x_iconst (dT U_L_base 1 rfl) ?_
  refine x_aload_n (dT U_L_base 2 rfl) rfl ?_
  refine x_iload_n (dT U_L_base 3 rfl) rfl ?_
  refine x_invokevirtualH (rc' := rc) (rs' := rs) (rc2 := 0 + 1) (rs2 := 0 + 6) (As := [_]) (st := _) M_X10_base K_L_65 (dT U_L_base 4 rfl) rfl (by decide) rfl rfl w.c3 (Nat.le_of_ble_eq_true rfl) (by decide) rfl (Nat.le_of_ble_eq_true rfl) rfl (by decide) (Nat.le_of_ble_eq_true rfl) (Nat.add_comm _ _ ▸ rfl) (Nat.add_comm _ _ ▸ rfl) ?_
  refine S_X10_base w v h_n (fun c1 => ?_) (fun c1 => ?_)
  · refine xRetH_thr ?_
    refine ⟨[], (⟨0, 9, 12, 13⟩ : ExceptionTableEntry), [], rfl, fun z hz => absurd hz List.not_mem_nil, rfl, by decide, W_L_13, 3, 1, Or.inl ⟨3, (dT U_L_base 8 rfl), rfl, rfl⟩, by decide, ?_⟩
    refine x_iconst (dT U_L_base 9 rfl) ?_
    refine x_ireturn (dT U_L_base 10 rfl) rfl ?_
    exact e1 c1
  · refine xRetH_some ?_
    refine x_i2lN (dT U_L_base 5 rfl) (fun z9 hz9 ez9 => ?_)
    refine x_lastore 0 (dT U_L_base 6 rfl) ho (Nat.le_of_ble_eq_true rfl) rfl (Nat.le_of_ble_eq_true rfl) (Nat.le_of_ble_eq_true rfl) ?_
    refine x_goto (tgt := 15) (dT U_L_base 7 rfl) (by decide) ?_
    refine x_iconst (dT U_L_base 11 rfl) ?_
    refine x_ireturn (dT U_L_base 12 rfl) rfl ?_
    exact k c1 z9 hz9 ez9

set_option maxRecDepth 20000 in
set_option maxHeartbeats 1000000 in
theorem S_L_log {G : xG} {d rc rs : Nat} {ex : Bool} {h : xH} {Q : xQ} {σ : St} {y : Int} {l0 : Int} (w : CW σ h) (v : INV σ) (h_y : xr y) (ho : h[143]? = some (cJ [l0])) (e1 : ¬ (¬ exI σ.p y = -1) → Q (.inl (some (vi 1))) false h) (k : (¬ exI σ.p y = -1) → ∀ z9, xr z9 → vi (exI σ.p y) = vi z9 → Q (.inl (some (vi 0))) ex (h.set 143 (cJ [z9]))) : X G m_L_log (d + 8) (rc + 1) (rs + 6) ex 0 (xe m_L_log.2.2.1 [.ref 3, vi y, .ref 143]) [] h Q := by
  show X G m_L_log _ _ _ _ 0 [some (.ref 3), some (vi y), some (.ref 143), none] [] h Q
  refine x_aload_n (dT U_L_log 0 rfl) rfl ?_
  refine x_iconst (dT U_L_log 1 rfl) ?_
  refine x_aload_n (dT U_L_log 2 rfl) rfl ?_
  refine x_iload_n (dT U_L_log 3 rfl) rfl ?_
  refine x_invokevirtualH (rc' := rc) (rs' := rs) (rc2 := 0 + 1) (rs2 := 0 + 6) (As := [_]) (st := _) M_X10_log K_L_68 (dT U_L_log 4 rfl) rfl (by decide) rfl rfl w.c3 (Nat.le_of_ble_eq_true rfl) (by decide) rfl (Nat.le_of_ble_eq_true rfl) rfl (by decide) (Nat.le_of_ble_eq_true rfl) (Nat.add_comm _ _ ▸ rfl) (Nat.add_comm _ _ ▸ rfl) ?_
  refine S_X10_log w v h_y (fun c1 => ?_) (fun c1 => ?_)
  · refine xRetH_thr ?_
    refine ⟨[], (⟨0, 9, 12, 13⟩ : ExceptionTableEntry), [], rfl, fun z hz => absurd hz List.not_mem_nil, rfl, by decide, W_L_13, 3, 1, Or.inl ⟨3, (dT U_L_log 8 rfl), rfl, rfl⟩, by decide, ?_⟩
    refine x_iconst (dT U_L_log 9 rfl) ?_
    refine x_ireturn (dT U_L_log 10 rfl) rfl ?_
    exact e1 c1
  · refine xRetH_some ?_
    refine x_i2lN (dT U_L_log 5 rfl) (fun z9 hz9 ez9 => ?_)
    refine x_lastore 0 (dT U_L_log 6 rfl) ho (Nat.le_of_ble_eq_true rfl) rfl (Nat.le_of_ble_eq_true rfl) (Nat.le_of_ble_eq_true rfl) ?_
    refine x_goto (tgt := 15) (dT U_L_log 7 rfl) (by decide) ?_
    refine x_iconst (dT U_L_log 11 rfl) ?_
    refine x_ireturn (dT U_L_log 12 rfl) rfl ?_
    exact k c1 z9 hz9 ez9

set_option maxRecDepth 20000 in
set_option maxHeartbeats 1000000 in
theorem S_L_commit {G : xG} {d rc rs : Nat} {ex : Bool} {h : xH} {Q : xQ} {σ : St} {row blind : Int} {l0 : Int} (w : CW σ h) (v : INV σ) (h_row : xr row) (h_blind : xr blind) (ho : h[143]? = some (cJ [l0])) (e1 : ¬ (inb row 8) → Q (.inl (some (vi 1))) false h) (e2 : (inb row 8) → ¬ (inb blind σ.p) → Q (.inl (some (vi 2))) false h) (k : (inb row 8) → (inb blind σ.p) → ∀ z9, xr z9 → vi (MM σ.p (cm σ.p (σ.rw row.toNat) blind)) = vi z9 → Q (.inl (some (vi 0))) ex (h.set 143 (cJ [z9]))) : X G m_L_commit (d + 8) (rc + 2) (rs + 12) ex 0 (xe m_L_commit.2.2.1 [.ref 3, vi row, vi blind, .ref 143]) [] h Q := by
  show X G m_L_commit _ _ _ _ 0 [some (.ref 3), some (vi row), some (vi blind), some (.ref 143), none] [] h Q
  refine x_aload_n (dT U_L_commit 0 rfl) rfl ?_
  refine x_iconst (dT U_L_commit 1 rfl) ?_
  refine x_aload_n (dT U_L_commit 2 rfl) rfl ?_
  refine x_iload_n (dT U_L_commit 3 rfl) rfl ?_
  refine x_iload_n (dT U_L_commit 4 rfl) rfl ?_
  refine x_invokevirtualH (rc' := rc) (rs' := rs) (rc2 := 0 + 2) (rs2 := 0 + 12) (As := [_, _]) (st := _) M_X10_commit K_L_71 (dT U_L_commit 5 rfl) rfl (by decide) rfl rfl w.c3 (Nat.le_of_ble_eq_true rfl) (by decide) rfl (Nat.le_of_ble_eq_true rfl) rfl (by decide) (Nat.le_of_ble_eq_true rfl) (Nat.add_comm _ _ ▸ rfl) (Nat.add_comm _ _ ▸ rfl) ?_
  refine S_X10_commit w v h_row h_blind (fun c1 => ?_) (fun c1 c2 => ?_) (fun c1 c2 => ?_)
  · refine xRetH_thr ?_
    refine ⟨[], (⟨0, 10, 13, 19⟩ : ExceptionTableEntry), [(⟨0, 10, 17, 13⟩ : ExceptionTableEntry)], rfl, fun z hz => absurd hz List.not_mem_nil, rfl, by decide, W_L_19, 4, 2, Or.inr ⟨(dT U_L_commit 9 rfl), rfl⟩, by decide, ?_⟩
    refine x_iconst (dT U_L_commit 10 rfl) ?_
    refine x_ireturn (dT U_L_commit 11 rfl) rfl ?_
    exact e1 c1
  · refine xRetH_thr ?_
    refine ⟨[(⟨0, 10, 13, 19⟩ : ExceptionTableEntry)], (⟨0, 10, 17, 13⟩ : ExceptionTableEntry), [], rfl, fun z hz => by
        simp only [List.mem_cons, List.not_mem_nil, or_false] at hz
        subst hz
        exact ⟨by decide, "java/lang/IndexOutOfBoundsException", by decide, by decide, W_L_19⟩, rfl, by decide, W_L_13, 4, 2, Or.inr ⟨(dT U_L_commit 12 rfl), rfl⟩, by decide, ?_⟩
    refine x_iconst (dT U_L_commit 13 rfl) ?_
    refine x_ireturn (dT U_L_commit 14 rfl) rfl ?_
    exact e2 c1 c2
  · refine xRetH_some ?_
    refine x_i2lN (dT U_L_commit 6 rfl) (fun z9 hz9 ez9 => ?_)
    refine x_lastore 0 (dT U_L_commit 7 rfl) ho (Nat.le_of_ble_eq_true rfl) rfl (Nat.le_of_ble_eq_true rfl) (Nat.le_of_ble_eq_true rfl) ?_
    refine x_goto (tgt := 21) (dT U_L_commit 8 rfl) (by decide) ?_
    refine x_iconst (dT U_L_commit 15 rfl) ?_
    refine x_ireturn (dT U_L_commit 16 rfl) rfl ?_
    exact k c1 c2 z9 hz9 ez9

set_option maxRecDepth 20000 in
set_option maxHeartbeats 1000000 in
theorem S_L_isOpened {G : xG} {d rc rs : Nat} {ex : Bool} {h : xH} {Q : xQ} {σ : St} {y row blind : Int} {l0 : Int} (w : CW σ h) (v : INV σ) (h_y : xr y) (h_row : xr row) (h_blind : xr blind) (ho : h[143]? = some (cJ [l0])) (e1 : ¬ (inb row 8) → Q (.inl (some (vi 1))) false h) (e2 : (inb row 8) → ¬ (¬ exI σ.p y = -1 ∧ inb blind σ.p) → Q (.inl (some (vi 2))) false h) (k1 : (inb row 8) → (¬ exI σ.p y = -1 ∧ inb blind σ.p) → cm σ.p (σ.rw row.toNat) blind = exI σ.p y → Q (.inl (some (vi 0))) ex (h.set 143 (cJ [1]))) (k0 : (inb row 8) → (¬ exI σ.p y = -1 ∧ inb blind σ.p) → ¬ (cm σ.p (σ.rw row.toNat) blind = exI σ.p y) → Q (.inl (some (vi 0))) ex (h.set 143 (cJ [0]))) : X G m_L_isOpened (d + 8) (rc + 3) (rs + 18) ex 0 (xe m_L_isOpened.2.2.1 [.ref 3, vi y, vi row, vi blind, .ref 143]) [] h Q := by
  show X G m_L_isOpened _ _ _ _ 0 [some (.ref 3), some (vi y), some (vi row), some (vi blind), some (.ref 143), none] [] h Q
  refine x_aload (dT U_L_isOpened 0 rfl) rfl ?_
  refine x_iconst (dT U_L_isOpened 1 rfl) ?_
  refine x_aload_n (dT U_L_isOpened 2 rfl) rfl ?_
  refine x_iload_n (dT U_L_isOpened 3 rfl) rfl ?_
  refine x_iload_n (dT U_L_isOpened 4 rfl) rfl ?_
  refine x_iload_n (dT U_L_isOpened 5 rfl) rfl ?_
  refine x_invokevirtualH (rc' := rc) (rs' := rs) (rc2 := 0 + 3) (rs2 := 0 + 18) (As := [_, _, _]) (st := _) M_X10_isOpened K_L_74 (dT U_L_isOpened 6 rfl) rfl (by decide) rfl rfl w.c3 (Nat.le_of_ble_eq_true rfl) (by decide) rfl (Nat.le_of_ble_eq_true rfl) rfl (by decide) (Nat.le_of_ble_eq_true rfl) (Nat.add_comm _ _ ▸ rfl) (Nat.add_comm _ _ ▸ rfl) ?_
  refine S_X10_isOpened w v h_y h_row h_blind (fun c1 => ?_) (fun c1 c2 => ?_) (fun c1 c2 c3 => ?_) (fun c1 c2 c3 => ?_)
  · refine xRetH_thr ?_
    refine ⟨[], (⟨0, 19, 22, 19⟩ : ExceptionTableEntry), [(⟨0, 19, 26, 13⟩ : ExceptionTableEntry)], rfl, fun z hz => absurd hz List.not_mem_nil, rfl, by decide, W_L_19, 5, 2, Or.inr ⟨(dT U_L_isOpened 13 rfl), rfl⟩, by decide, ?_⟩
    refine x_iconst (dT U_L_isOpened 14 rfl) ?_
    refine x_ireturn (dT U_L_isOpened 15 rfl) rfl ?_
    exact e1 c1
  · refine xRetH_thr ?_
    refine ⟨[(⟨0, 19, 22, 19⟩ : ExceptionTableEntry)], (⟨0, 19, 26, 13⟩ : ExceptionTableEntry), [], rfl, fun z hz => by
        simp only [List.mem_cons, List.not_mem_nil, or_false] at hz
        subst hz
        exact ⟨by decide, "java/lang/IndexOutOfBoundsException", by decide, by decide, W_L_19⟩, rfl, by decide, W_L_13, 5, 2, Or.inr ⟨(dT U_L_isOpened 16 rfl), rfl⟩, by decide, ?_⟩
    refine x_iconst (dT U_L_isOpened 17 rfl) ?_
    refine x_ireturn (dT U_L_isOpened 18 rfl) rfl ?_
    exact e2 c1 c2
  · refine xRetH_some ?_
    refine x_if_eqn (tgt := 17) (dT U_L_isOpened 7 rfl) (by decide) (by decide) ?_
    refine x_lconst (z := 1) (dT U_L_isOpened 8 rfl) rfl ?_
    refine x_goto (tgt := 18) (dT U_L_isOpened 9 rfl) (by decide) ?_
    refine x_lastore 0 (dT U_L_isOpened 11 rfl) ho (Nat.le_of_ble_eq_true rfl) rfl (Nat.le_of_ble_eq_true rfl) (Nat.le_of_ble_eq_true rfl) ?_
    refine x_goto (tgt := 30) (dT U_L_isOpened 12 rfl) (by decide) ?_
    refine x_iconst (dT U_L_isOpened 19 rfl) ?_
    refine x_ireturn (dT U_L_isOpened 20 rfl) rfl ?_
    exact k1 c1 c2 c3
  · refine xRetH_some ?_
    refine x_if_eqj (tgt := 17) (dT U_L_isOpened 7 rfl) (by decide) (by decide) ?_
    refine x_lconst (z := 0) (dT U_L_isOpened 10 rfl) rfl ?_
    refine x_lastore 0 (dT U_L_isOpened 11 rfl) ho (Nat.le_of_ble_eq_true rfl) rfl (Nat.le_of_ble_eq_true rfl) (Nat.le_of_ble_eq_true rfl) ?_
    refine x_goto (tgt := 30) (dT U_L_isOpened 12 rfl) (by decide) ?_
    refine x_iconst (dT U_L_isOpened 19 rfl) ?_
    refine x_ireturn (dT U_L_isOpened 20 rfl) rfl ?_
    exact k0 c1 c2 c3

set_option maxRecDepth 20000 in
set_option maxHeartbeats 1000000 in
theorem S_L_breaks {G : xG} {d rc rs : Nat} {ex : Bool} {h : xH} {Q : xQ} {σ : St} {row blind place to : Int} {l0 : Int} (w : CW σ h) (v : INV σ) (h_row : xr row) (h_blind : xr blind) (h_place : xr place) (h_to : xr to) (ho : h[143]? = some (cJ [l0])) (e1 : ¬ (inb row 8 ∧ inb place 8 ∧ inb to 8) → Q (.inl (some (vi 1))) false h) (e2 : (inb row 8 ∧ inb place 8 ∧ inb to 8) → ¬ (inb blind σ.p) → Q (.inl (some (vi 2))) false h) (k : (inb row 8 ∧ inb place 8 ∧ inb to 8) → (inb blind σ.p) → ∀ h2, FC h h2 → CW (σ.sRow to.toNat ((σ.rw row.toNat).set place.toNat (((σ.rw row.toNat).getD place.toNat 0 + 1) % (σ.p : Int)))) h2 → ∀ z9, xr z9 → vi (((cm σ.p (σ.rw row.toNat) blind - wt σ.p ((σ.rw row.toNat).set place.toNat (((σ.rw row.toNat).getD place.toNat 0 + 1) % (σ.p : Int)))) % (σ.p : Int)) * (iv σ.p (bs σ.p 8) : Int) % (σ.p : Int)) = vi z9 → Q (.inl (some (vi 0))) ex (h2.set 143 (cJ [z9]))) : X G m_L_breaks (d + 8) (rc + 4) (rs + 24) ex 0 (xe m_L_breaks.2.2.1 [.ref 3, vi row, vi blind, vi place, vi to, .ref 143]) [] h Q := by
  show X G m_L_breaks _ _ _ _ 0 [some (.ref 3), some (vi row), some (vi blind), some (vi place), some (vi to), some (.ref 143), none] [] h Q
  refine x_aload (dT U_L_breaks 0 rfl) rfl ?_
  refine x_iconst (dT U_L_breaks 1 rfl) ?_
  refine x_aload_n (dT U_L_breaks 2 rfl) rfl ?_
  refine x_iload_n (dT U_L_breaks 3 rfl) rfl ?_
  refine x_iload_n (dT U_L_breaks 4 rfl) rfl ?_
  refine x_iload_n (dT U_L_breaks 5 rfl) rfl ?_
  refine x_iload (dT U_L_breaks 6 rfl) rfl ?_
  refine x_invokevirtualH (rc' := rc) (rs' := rs) (rc2 := 0 + 4) (rs2 := 0 + 24) (As := [_, _, _, _]) (st := _) M_X10_breaks K_L_78 (dT U_L_breaks 7 rfl) rfl (by decide) rfl rfl w.c3 (Nat.le_of_ble_eq_true rfl) (by decide) rfl (Nat.le_of_ble_eq_true rfl) rfl (by decide) (Nat.le_of_ble_eq_true rfl) (Nat.add_comm _ _ ▸ rfl) (Nat.add_comm _ _ ▸ rfl) ?_
  refine S_X10_breaks w v h_row h_blind h_place h_to (fun c1 => ?_) (fun c1 c2 => ?_) (fun c1 c2 h2 fc w2 => ?_)
  · refine xRetH_thr ?_
    refine ⟨[], (⟨0, 14, 17, 19⟩ : ExceptionTableEntry), [(⟨0, 14, 21, 13⟩ : ExceptionTableEntry)], rfl, fun z hz => absurd hz List.not_mem_nil, rfl, by decide, W_L_19, 6, 2, Or.inr ⟨(dT U_L_breaks 11 rfl), rfl⟩, by decide, ?_⟩
    refine x_iconst (dT U_L_breaks 12 rfl) ?_
    refine x_ireturn (dT U_L_breaks 13 rfl) rfl ?_
    exact e1 c1
  · refine xRetH_thr ?_
    refine ⟨[(⟨0, 14, 17, 19⟩ : ExceptionTableEntry)], (⟨0, 14, 21, 13⟩ : ExceptionTableEntry), [], rfl, fun z hz => by
        simp only [List.mem_cons, List.not_mem_nil, or_false] at hz
        subst hz
        exact ⟨by decide, "java/lang/IndexOutOfBoundsException", by decide, by decide, W_L_19⟩, rfl, by decide, W_L_13, 6, 2, Or.inr ⟨(dT U_L_breaks 14 rfl), rfl⟩, by decide, ?_⟩
    refine x_iconst (dT U_L_breaks 15 rfl) ?_
    refine x_ireturn (dT U_L_breaks 16 rfl) rfl ?_
    exact e2 c1 c2
  · refine xRetH_some ?_
    refine x_i2lN (dT U_L_breaks 8 rfl) (fun z9 hz9 ez9 => ?_)
    refine x_lastore 0 (dT U_L_breaks 9 rfl) (fc.get ho (by omega)) (Nat.le_of_ble_eq_true rfl) rfl (Nat.le_of_ble_eq_true rfl) (Nat.le_of_ble_eq_true rfl) ?_
    refine x_goto (tgt := 25) (dT U_L_breaks 10 rfl) (by decide) ?_
    refine x_iconst (dT U_L_breaks 17 rfl) ?_
    refine x_ireturn (dT U_L_breaks 18 rfl) rfl ?_
    exact k c1 c2 h2 fc w2 z9 hz9 ez9

set_option maxRecDepth 20000 in
set_option maxHeartbeats 1000000 in
theorem S_L_seal {G : xG} {d rc rs : Nat} {ex : Bool} {h : xH} {Q : xQ} {σ : St} {a b : Int} {l0 : Int} (w : CW σ h) (v : INV σ) (h_a : xr a) (h_b : xr b) (ho : h[143]? = some (cJ [l0])) (e1 : ¬ (inb a 251 ∧ inb b 251) → Q (.inl (some (vi 1))) false h) (k : (inb a 251 ∧ inb b 251) → ∀ z9, xr z9 → vi (sl a b) = vi z9 → Q (.inl (some (vi 0))) ex (h.set 143 (cJ [z9]))) : X G m_L_seal (d + 8) (rc + 2) (rs + 12) ex 0 (xe m_L_seal.2.2.1 [.ref 3, vi a, vi b, .ref 143]) [] h Q := by
  show X G m_L_seal _ _ _ _ 0 [some (.ref 3), some (vi a), some (vi b), some (.ref 143), none] [] h Q
  refine x_aload_n (dT U_L_seal 0 rfl) rfl ?_
  refine x_iconst (dT U_L_seal 1 rfl) ?_
  refine x_aload_n (dT U_L_seal 2 rfl) rfl ?_
  refine x_iload_n (dT U_L_seal 3 rfl) rfl ?_
  refine x_iload_n (dT U_L_seal 4 rfl) rfl ?_
  refine x_invokevirtualH (rc' := rc) (rs' := rs) (rc2 := 0 + 2) (rs2 := 0 + 12) (As := [_, _]) (st := _) M_X10_seal K_L_81 (dT U_L_seal 5 rfl) rfl (by decide) rfl rfl w.c3 (Nat.le_of_ble_eq_true rfl) (by decide) rfl (Nat.le_of_ble_eq_true rfl) rfl (by decide) (Nat.le_of_ble_eq_true rfl) (Nat.add_comm _ _ ▸ rfl) (Nat.add_comm _ _ ▸ rfl) ?_
  refine S_X10_seal w v h_a h_b (fun c1 => ?_) (fun c1 => ?_)
  · refine xRetH_thr ?_
    refine ⟨[], (⟨0, 10, 13, 13⟩ : ExceptionTableEntry), [], rfl, fun z hz => absurd hz List.not_mem_nil, rfl, by decide, W_L_13, 4, 2, Or.inr ⟨(dT U_L_seal 9 rfl), rfl⟩, by decide, ?_⟩
    refine x_iconst (dT U_L_seal 10 rfl) ?_
    refine x_ireturn (dT U_L_seal 11 rfl) rfl ?_
    exact e1 c1
  · refine xRetH_some ?_
    refine x_i2lN (dT U_L_seal 6 rfl) (fun z9 hz9 ez9 => ?_)
    refine x_lastore 0 (dT U_L_seal 7 rfl) ho (Nat.le_of_ble_eq_true rfl) rfl (Nat.le_of_ble_eq_true rfl) (Nat.le_of_ble_eq_true rfl) ?_
    refine x_goto (tgt := 17) (dT U_L_seal 8 rfl) (by decide) ?_
    refine x_iconst (dT U_L_seal 12 rfl) ?_
    refine x_ireturn (dT U_L_seal 13 rfl) rfl ?_
    exact k c1 z9 hz9 ez9

set_option maxRecDepth 20000 in
set_option maxHeartbeats 1000000 in
theorem S_L_twin {G : xG} {d rc rs : Nat} {ex : Bool} {h : xH} {Q : xQ} {σ : St} {a b : Int} {l0 : Int} (w : CW σ h) (v : INV σ) (h_a : xr a) (h_b : xr b) (ho : h[143]? = some (cJ [l0])) (e1 : ¬ (inb a 251 ∧ inb b 251) → Q (.inl (some (vi 1))) false h) (k : (inb a 251 ∧ inb b 251) → ∀ z9, xr z9 → vi (ff (TWP a b) 0 63001) = vi z9 → Q (.inl (some (vi 0))) ex (h.set 143 (cJ [z9]))) : X G m_L_twin (d + 8) (rc + 2) (rs + 12) ex 0 (xe m_L_twin.2.2.1 [.ref 3, vi a, vi b, .ref 143]) [] h Q := by
  show X G m_L_twin _ _ _ _ 0 [some (.ref 3), some (vi a), some (vi b), some (.ref 143), none] [] h Q
  refine x_aload_n (dT U_L_twin 0 rfl) rfl ?_
  refine x_iconst (dT U_L_twin 1 rfl) ?_
  refine x_aload_n (dT U_L_twin 2 rfl) rfl ?_
  refine x_iload_n (dT U_L_twin 3 rfl) rfl ?_
  refine x_iload_n (dT U_L_twin 4 rfl) rfl ?_
  refine x_invokevirtualH (rc' := rc) (rs' := rs) (rc2 := 0 + 2) (rs2 := 0 + 12) (As := [_, _]) (st := _) M_X10_twin K_L_84 (dT U_L_twin 5 rfl) rfl (by decide) rfl rfl w.c3 (Nat.le_of_ble_eq_true rfl) (by decide) rfl (Nat.le_of_ble_eq_true rfl) rfl (by decide) (Nat.le_of_ble_eq_true rfl) (Nat.add_comm _ _ ▸ rfl) (Nat.add_comm _ _ ▸ rfl) ?_
  refine S_X10_twin w v h_a h_b (fun c1 => ?_) (fun c1 => ?_)
  · refine xRetH_thr ?_
    refine ⟨[], (⟨0, 10, 13, 13⟩ : ExceptionTableEntry), [], rfl, fun z hz => absurd hz List.not_mem_nil, rfl, by decide, W_L_13, 4, 2, Or.inr ⟨(dT U_L_twin 9 rfl), rfl⟩, by decide, ?_⟩
    refine x_iconst (dT U_L_twin 10 rfl) ?_
    refine x_ireturn (dT U_L_twin 11 rfl) rfl ?_
    exact e1 c1
  · refine xRetH_some ?_
    refine x_i2lN (dT U_L_twin 6 rfl) (fun z9 hz9 ez9 => ?_)
    refine x_lastore 0 (dT U_L_twin 7 rfl) ho (Nat.le_of_ble_eq_true rfl) rfl (Nat.le_of_ble_eq_true rfl) (Nat.le_of_ble_eq_true rfl) ?_
    refine x_goto (tgt := 17) (dT U_L_twin 8 rfl) (by decide) ?_
    refine x_iconst (dT U_L_twin 12 rfl) ?_
    refine x_ireturn (dT U_L_twin 13 rfl) rfl ?_
    exact k c1 z9 hz9 ez9

set_option maxRecDepth 20000 in
set_option maxHeartbeats 1000000 in
theorem S_L_root {G : xG} {d rc rs : Nat} {ex : Bool} {h : xH} {Q : xQ} {σ : St} {row : Int} {l0 : Int} (w : CW σ h) (v : INV σ) (h_row : xr row) (ho : h[143]? = some (cJ [l0])) (e1 : ¬ (inb row 8) → Q (.inl (some (vi 1))) false h) (k : (inb row 8) → ∀ h2, FC h h2 → CW σ h2 → ∀ z9, xr z9 → vi (gs (gf (σ.rw row.toNat)) 1) = vi z9 → Q (.inl (some (vi 0))) ex (h2.set 143 (cJ [z9]))) : X G m_L_root (d + 8) (rc + 1) (rs + 6) ex 0 (xe m_L_root.2.2.1 [.ref 3, vi row, .ref 143]) [] h Q := by
  show X G m_L_root _ _ _ _ 0 [some (.ref 3), some (vi row), some (.ref 143), none] [] h Q
  refine x_aload_n (dT U_L_root 0 rfl) rfl ?_
  refine x_iconst (dT U_L_root 1 rfl) ?_
  refine x_aload_n (dT U_L_root 2 rfl) rfl ?_
  refine x_iload_n (dT U_L_root 3 rfl) rfl ?_
  refine x_invokevirtualH (rc' := rc) (rs' := rs) (rc2 := 0 + 1) (rs2 := 0 + 6) (As := [_]) (st := _) M_X10_root K_L_87 (dT U_L_root 4 rfl) rfl (by decide) rfl rfl w.c3 (Nat.le_of_ble_eq_true rfl) (by decide) rfl (Nat.le_of_ble_eq_true rfl) rfl (by decide) (Nat.le_of_ble_eq_true rfl) (Nat.add_comm _ _ ▸ rfl) (Nat.add_comm _ _ ▸ rfl) ?_
  refine S_X10_root w v h_row (fun c1 => ?_) (fun c1 h2 fc w2 => ?_)
  · refine xRetH_thr ?_
    refine ⟨[], (⟨0, 9, 12, 19⟩ : ExceptionTableEntry), [], rfl, fun z hz => absurd hz List.not_mem_nil, rfl, by decide, W_L_19, 3, 1, Or.inl ⟨3, (dT U_L_root 8 rfl), rfl, rfl⟩, by decide, ?_⟩
    refine x_iconst (dT U_L_root 9 rfl) ?_
    refine x_ireturn (dT U_L_root 10 rfl) rfl ?_
    exact e1 c1
  · refine xRetH_some ?_
    refine x_i2lN (dT U_L_root 5 rfl) (fun z9 hz9 ez9 => ?_)
    refine x_lastore 0 (dT U_L_root 6 rfl) (fc.get ho (by omega)) (Nat.le_of_ble_eq_true rfl) rfl (Nat.le_of_ble_eq_true rfl) (Nat.le_of_ble_eq_true rfl) ?_
    refine x_goto (tgt := 15) (dT U_L_root 7 rfl) (by decide) ?_
    refine x_iconst (dT U_L_root 11 rfl) ?_
    refine x_ireturn (dT U_L_root 12 rfl) rfl ?_
    exact k c1 h2 fc w2 z9 hz9 ez9

set_option maxRecDepth 20000 in
set_option maxHeartbeats 1000000 in
theorem S_L_beside {G : xG} {d rc rs : Nat} {ex : Bool} {h : xH} {Q : xQ} {σ : St} {row place step : Int} {l0 : Int} (w : CW σ h) (v : INV σ) (h_row : xr row) (h_place : xr place) (h_step : xr step) (ho : h[143]? = some (cJ [l0])) (e1 : ¬ (inb row 8 ∧ inb place 8 ∧ inb step 3) → Q (.inl (some (vi 1))) false h) (k : (inb row 8 ∧ inb place 8 ∧ inb step 3) → ∀ h2, FC h h2 → CW σ h2 → ∀ z9, xr z9 → vi (gs (gf (σ.rw row.toNat)) (bsd place.toNat step.toNat)) = vi z9 → Q (.inl (some (vi 0))) ex (h2.set 143 (cJ [z9]))) : X G m_L_beside (d + 8) (rc + 3) (rs + 18) ex 0 (xe m_L_beside.2.2.1 [.ref 3, vi row, vi place, vi step, .ref 143]) [] h Q := by
  show X G m_L_beside _ _ _ _ 0 [some (.ref 3), some (vi row), some (vi place), some (vi step), some (.ref 143), none] [] h Q
  refine x_aload (dT U_L_beside 0 rfl) rfl ?_
  refine x_iconst (dT U_L_beside 1 rfl) ?_
  refine x_aload_n (dT U_L_beside 2 rfl) rfl ?_
  refine x_iload_n (dT U_L_beside 3 rfl) rfl ?_
  refine x_iload_n (dT U_L_beside 4 rfl) rfl ?_
  refine x_iload_n (dT U_L_beside 5 rfl) rfl ?_
  refine x_invokevirtualH (rc' := rc) (rs' := rs) (rc2 := 0 + 3) (rs2 := 0 + 18) (As := [_, _, _]) (st := _) M_X10_beside K_L_90 (dT U_L_beside 6 rfl) rfl (by decide) rfl rfl w.c3 (Nat.le_of_ble_eq_true rfl) (by decide) rfl (Nat.le_of_ble_eq_true rfl) rfl (by decide) (Nat.le_of_ble_eq_true rfl) (Nat.add_comm _ _ ▸ rfl) (Nat.add_comm _ _ ▸ rfl) ?_
  refine S_X10_beside w v h_row h_place h_step (fun c1 => ?_) (fun c1 h2 fc w2 => ?_)
  · refine xRetH_thr ?_
    refine ⟨[], (⟨0, 12, 15, 19⟩ : ExceptionTableEntry), [], rfl, fun z hz => absurd hz List.not_mem_nil, rfl, by decide, W_L_19, 5, 2, Or.inr ⟨(dT U_L_beside 10 rfl), rfl⟩, by decide, ?_⟩
    refine x_iconst (dT U_L_beside 11 rfl) ?_
    refine x_ireturn (dT U_L_beside 12 rfl) rfl ?_
    exact e1 c1
  · refine xRetH_some ?_
    refine x_i2lN (dT U_L_beside 7 rfl) (fun z9 hz9 ez9 => ?_)
    refine x_lastore 0 (dT U_L_beside 8 rfl) (fc.get ho (by omega)) (Nat.le_of_ble_eq_true rfl) rfl (Nat.le_of_ble_eq_true rfl) (Nat.le_of_ble_eq_true rfl) ?_
    refine x_goto (tgt := 19) (dT U_L_beside 9 rfl) (by decide) ?_
    refine x_iconst (dT U_L_beside 13 rfl) ?_
    refine x_ireturn (dT U_L_beside 14 rfl) rfl ?_
    exact k c1 h2 fc w2 z9 hz9 ez9

set_option maxRecDepth 20000 in
set_option maxHeartbeats 1000000 in
theorem S_L_climb {G : xG} {d rc rs : Nat} {ex : Bool} {h : xH} {Q : xQ} {σ : St} {place value a b c : Int} {l0 : Int} (w : CW σ h) (v : INV σ) (h_place : xr place) (h_value : xr value) (h_a : xr a) (h_b : xr b) (h_c : xr c) (ho : h[143]? = some (cJ [l0])) (e1 : ¬ (inb place 8) → Q (.inl (some (vi 1))) false h) (e2 : (inb place 8) → ¬ ((inb value σ.p ∧ inb a 251 ∧ inb b 251 ∧ inb c 251)) → Q (.inl (some (vi 2))) false h) (k : (inb place 8) → ((inb value σ.p ∧ inb a 251 ∧ inb b 251 ∧ inb c 251)) → ∀ h2, FC h h2 → CW σ h2 → ∀ z9, xr z9 → vi (ws place.toNat value a b c 3) = vi z9 → Q (.inl (some (vi 0))) ex (h2.set 143 (cJ [z9]))) : X G m_L_climb (d + 9) (rc + 5) (rs + 30) ex 0 (xe m_L_climb.2.2.1 [.ref 3, vi place, vi value, vi a, vi b, vi c, .ref 143]) [] h Q := by
  show X G m_L_climb _ _ _ _ 0 [some (.ref 3), some (vi place), some (vi value), some (vi a), some (vi b), some (vi c), some (.ref 143), none] [] h Q
  refine x_aload (dT U_L_climb 0 rfl) rfl ?_
  refine x_iconst (dT U_L_climb 1 rfl) ?_
  refine x_aload_n (dT U_L_climb 2 rfl) rfl ?_
  refine x_iload_n (dT U_L_climb 3 rfl) rfl ?_
  refine x_iload_n (dT U_L_climb 4 rfl) rfl ?_
  refine x_iload_n (dT U_L_climb 5 rfl) rfl ?_
  refine x_iload (dT U_L_climb 6 rfl) rfl ?_
  refine x_iload (dT U_L_climb 7 rfl) rfl ?_
  refine x_invokevirtualH (rc' := rc) (rs' := rs) (rc2 := 0 + 5) (rs2 := 0 + 30) (As := [_, _, _, _, _]) (st := _) M_X10_climb K_L_93 (dT U_L_climb 8 rfl) rfl (by decide) rfl rfl w.c3 (Nat.le_of_ble_eq_true rfl) (by decide) rfl (Nat.le_of_ble_eq_true rfl) rfl (by decide) (Nat.le_of_ble_eq_true rfl) (Nat.add_comm _ _ ▸ rfl) (Nat.add_comm _ _ ▸ rfl) ?_
  refine S_X10_climb w v h_place h_value h_a h_b h_c (fun c1 => ?_) (fun c1 c2 => ?_) (fun c1 c2 h2 fc w2 => ?_)
  · refine xRetH_thr ?_
    refine ⟨[], (⟨0, 16, 19, 19⟩ : ExceptionTableEntry), [(⟨0, 16, 23, 13⟩ : ExceptionTableEntry)], rfl, fun z hz => absurd hz List.not_mem_nil, rfl, by decide, W_L_19, 7, 2, Or.inr ⟨(dT U_L_climb 12 rfl), rfl⟩, by decide, ?_⟩
    refine x_iconst (dT U_L_climb 13 rfl) ?_
    refine x_ireturn (dT U_L_climb 14 rfl) rfl ?_
    exact e1 c1
  · refine xRetH_thr ?_
    refine ⟨[(⟨0, 16, 19, 19⟩ : ExceptionTableEntry)], (⟨0, 16, 23, 13⟩ : ExceptionTableEntry), [], rfl, fun z hz => by
        simp only [List.mem_cons, List.not_mem_nil, or_false] at hz
        subst hz
        exact ⟨by decide, "java/lang/IndexOutOfBoundsException", by decide, by decide, W_L_19⟩, rfl, by decide, W_L_13, 7, 2, Or.inr ⟨(dT U_L_climb 15 rfl), rfl⟩, by decide, ?_⟩
    refine x_iconst (dT U_L_climb 16 rfl) ?_
    refine x_ireturn (dT U_L_climb 17 rfl) rfl ?_
    exact e2 c1 c2
  · refine xRetH_some ?_
    refine x_i2lN (dT U_L_climb 9 rfl) (fun z9 hz9 ez9 => ?_)
    refine x_lastore 0 (dT U_L_climb 10 rfl) (fc.get ho (by omega)) (Nat.le_of_ble_eq_true rfl) rfl (Nat.le_of_ble_eq_true rfl) (Nat.le_of_ble_eq_true rfl) ?_
    refine x_goto (tgt := 27) (dT U_L_climb 11 rfl) (by decide) ?_
    refine x_iconst (dT U_L_climb 18 rfl) ?_
    refine x_ireturn (dT U_L_climb 19 rfl) rfl ?_
    exact k c1 c2 h2 fc w2 z9 hz9 ez9

set_option maxRecDepth 20000 in
set_option maxHeartbeats 1000000 in
theorem S_L_parts {G : xG} {d rc rs : Nat} {ex : Bool} {h : xH} {Q : xQ} {σ : St} {place value a b c value2 a2 b2 c2 : Int} {l0 : Int} (w : CW σ h) (v : INV σ) (h_place : xr place) (h_value : xr value) (h_a : xr a) (h_b : xr b) (h_c : xr c) (h_value2 : xr value2) (h_a2 : xr a2) (h_b2 : xr b2) (h_c2 : xr c2) (ho : h[143]? = some (cJ [l0])) (e1 : ¬ (inb place 8) → Q (.inl (some (vi 1))) false h) (e2 : (inb place 8) → ¬ ((inb value σ.p ∧ inb a 251 ∧ inb b 251 ∧ inb c 251) ∧ (inb value2 σ.p ∧ inb a2 251 ∧ inb b2 251 ∧ inb c2 251)) → Q (.inl (some (vi 2))) false h) (k : (inb place 8) → ((inb value σ.p ∧ inb a 251 ∧ inb b 251 ∧ inb c 251) ∧ (inb value2 σ.p ∧ inb a2 251 ∧ inb b2 251 ∧ inb c2 251)) → ∀ h2, FC h h2 → CW σ h2 → ∀ z9, xr z9 → vi (if ws place.toNat value a b c 3 = ws place.toNat value2 a2 b2 c2 3 then ff (fun j => ws place.toNat value a b c j = ws place.toNat value2 a2 b2 c2 j ∧ ¬ ((wq place.toNat value a b c j).1 = (wq place.toNat value2 a2 b2 c2 j).1 ∧ (wq place.toNat value a b c j).2 = (wq place.toNat value2 a2 b2 c2 j).2)) 0 4 else -1) = vi z9 → Q (.inl (some (vi 0))) ex (h2.set 143 (cJ [z9]))) : X G m_L_parts (d + 9) (rc + 9) (rs + 54) ex 0 (xe m_L_parts.2.2.1 [.ref 3, vi place, vi value, vi a, vi b, vi c, vi value2, vi a2, vi b2, vi c2, .ref 143]) [] h Q := by
  show X G m_L_parts _ _ _ _ 0 [some (.ref 3), some (vi place), some (vi value), some (vi a), some (vi b), some (vi c), some (vi value2), some (vi a2), some (vi b2), some (vi c2), some (.ref 143), none] [] h Q
  refine x_aload (dT U_L_parts 0 rfl) rfl ?_
  refine x_iconst (dT U_L_parts 1 rfl) ?_
  refine x_aload_n (dT U_L_parts 2 rfl) rfl ?_
  refine x_iload_n (dT U_L_parts 3 rfl) rfl ?_
  refine x_iload_n (dT U_L_parts 4 rfl) rfl ?_
  refine x_iload_n (dT U_L_parts 5 rfl) rfl ?_
  refine x_iload (dT U_L_parts 6 rfl) rfl ?_
  refine x_iload (dT U_L_parts 7 rfl) rfl ?_
  refine x_iload (dT U_L_parts 8 rfl) rfl ?_
  refine x_iload (dT U_L_parts 9 rfl) rfl ?_
  refine x_iload (dT U_L_parts 10 rfl) rfl ?_
  refine x_iload (dT U_L_parts 11 rfl) rfl ?_
  refine x_invokevirtualH (rc' := rc) (rs' := rs) (rc2 := 0 + 9) (rs2 := 0 + 54) (As := [_, _, _, _, _, _, _, _, _]) (st := _) M_X10_parts K_L_97 (dT U_L_parts 12 rfl) rfl (by decide) rfl rfl w.c3 (Nat.le_of_ble_eq_true rfl) (by decide) rfl (Nat.le_of_ble_eq_true rfl) rfl (by decide) (Nat.le_of_ble_eq_true rfl) (Nat.add_comm _ _ ▸ rfl) (Nat.add_comm _ _ ▸ rfl) ?_
  refine S_X10_parts w v h_place h_value h_a h_b h_c h_value2 h_a2 h_b2 h_c2 (fun c1 => ?_) (fun c1 c2 => ?_) (fun c1 c2 h2 fc w2 => ?_)
  · refine xRetH_thr ?_
    refine ⟨[], (⟨0, 24, 27, 19⟩ : ExceptionTableEntry), [(⟨0, 24, 31, 13⟩ : ExceptionTableEntry)], rfl, fun z hz => absurd hz List.not_mem_nil, rfl, by decide, W_L_19, 11, 2, Or.inr ⟨(dT U_L_parts 16 rfl), rfl⟩, by decide, ?_⟩
    refine x_iconst (dT U_L_parts 17 rfl) ?_
    refine x_ireturn (dT U_L_parts 18 rfl) rfl ?_
    exact e1 c1
  · refine xRetH_thr ?_
    refine ⟨[(⟨0, 24, 27, 19⟩ : ExceptionTableEntry)], (⟨0, 24, 31, 13⟩ : ExceptionTableEntry), [], rfl, fun z hz => by
        simp only [List.mem_cons, List.not_mem_nil, or_false] at hz
        subst hz
        exact ⟨by decide, "java/lang/IndexOutOfBoundsException", by decide, by decide, W_L_19⟩, rfl, by decide, W_L_13, 11, 2, Or.inr ⟨(dT U_L_parts 19 rfl), rfl⟩, by decide, ?_⟩
    refine x_iconst (dT U_L_parts 20 rfl) ?_
    refine x_ireturn (dT U_L_parts 21 rfl) rfl ?_
    exact e2 c1 c2
  · refine xRetH_some ?_
    refine x_i2lN (dT U_L_parts 13 rfl) (fun z9 hz9 ez9 => ?_)
    refine x_lastore 0 (dT U_L_parts 14 rfl) (fc.get ho (by omega)) (Nat.le_of_ble_eq_true rfl) rfl (Nat.le_of_ble_eq_true rfl) (Nat.le_of_ble_eq_true rfl) ?_
    refine x_goto (tgt := 35) (dT U_L_parts 15 rfl) (by decide) ?_
    refine x_iconst (dT U_L_parts 22 rfl) ?_
    refine x_ireturn (dT U_L_parts 23 rfl) rfl ?_
    exact k c1 c2 h2 fc w2 z9 hz9 ez9

set_option maxRecDepth 20000 in
set_option maxHeartbeats 1000000 in
theorem S_L_state {G : xG} {d rc rs : Nat} {ex : Bool} {h : xH} {Q : xQ} {σ : St} {run y form x : Int} {l0 : Int} (w : CW σ h) (v : INV σ) (h_run : xr run) (h_y : xr y) (h_form : xr form) (h_x : xr x) (ho : h[143]? = some (cJ [l0])) (e1 : ¬ (inb run 4 ∧ inb form 8) → Q (.inl (some (vi 1))) false h) (e2 : (inb run 4 ∧ inb form 8) → ¬ (¬ exI σ.p y = -1 ∧ inb x σ.p) → Q (.inl (some (vi 2))) false h) (k : (inb run 4 ∧ inb form 8) → (¬ exI σ.p y = -1 ∧ inb x σ.p) → ∀ h2, FC h h2 → CW (σ.sRun run.toNat (rBegin (σ.R run.toNat) (exI σ.p y) x (σ.rw form.toNat))) h2 → ∀ z9, xr z9 → vi (y) = vi z9 → Q (.inl (some (vi 0))) ex (h2.set 143 (cJ [z9]))) : X G m_L_state (d + 8) (rc + 4) (rs + 24) ex 0 (xe m_L_state.2.2.1 [.ref 3, vi run, vi y, vi form, vi x, .ref 143]) [] h Q := by
  show X G m_L_state _ _ _ _ 0 [some (.ref 3), some (vi run), some (vi y), some (vi form), some (vi x), some (.ref 143), none] [] h Q
  refine x_aload (dT U_L_state 0 rfl) rfl ?_
  refine x_iconst (dT U_L_state 1 rfl) ?_
  refine x_aload_n (dT U_L_state 2 rfl) rfl ?_
  refine x_iload_n (dT U_L_state 3 rfl) rfl ?_
  refine x_iload_n (dT U_L_state 4 rfl) rfl ?_
  refine x_iload_n (dT U_L_state 5 rfl) rfl ?_
  refine x_iload (dT U_L_state 6 rfl) rfl ?_
  refine x_invokevirtualH (rc' := rc) (rs' := rs) (rc2 := 0 + 4) (rs2 := 0 + 24) (As := [_, _, _, _]) (st := _) M_X10_state K_L_100 (dT U_L_state 7 rfl) rfl (by decide) rfl rfl w.c3 (Nat.le_of_ble_eq_true rfl) (by decide) rfl (Nat.le_of_ble_eq_true rfl) rfl (by decide) (Nat.le_of_ble_eq_true rfl) (Nat.add_comm _ _ ▸ rfl) (Nat.add_comm _ _ ▸ rfl) ?_
  refine S_X10_state w v h_run h_y h_form h_x (fun c1 => ?_) (fun c1 c2 => ?_) (fun c1 c2 h2 fc w2 => ?_)
  · refine xRetH_thr ?_
    refine ⟨[], (⟨0, 14, 17, 19⟩ : ExceptionTableEntry), [(⟨0, 14, 21, 13⟩ : ExceptionTableEntry)], rfl, fun z hz => absurd hz List.not_mem_nil, rfl, by decide, W_L_19, 6, 2, Or.inr ⟨(dT U_L_state 11 rfl), rfl⟩, by decide, ?_⟩
    refine x_iconst (dT U_L_state 12 rfl) ?_
    refine x_ireturn (dT U_L_state 13 rfl) rfl ?_
    exact e1 c1
  · refine xRetH_thr ?_
    refine ⟨[(⟨0, 14, 17, 19⟩ : ExceptionTableEntry)], (⟨0, 14, 21, 13⟩ : ExceptionTableEntry), [], rfl, fun z hz => by
        simp only [List.mem_cons, List.not_mem_nil, or_false] at hz
        subst hz
        exact ⟨by decide, "java/lang/IndexOutOfBoundsException", by decide, by decide, W_L_19⟩, rfl, by decide, W_L_13, 6, 2, Or.inr ⟨(dT U_L_state 14 rfl), rfl⟩, by decide, ?_⟩
    refine x_iconst (dT U_L_state 15 rfl) ?_
    refine x_ireturn (dT U_L_state 16 rfl) rfl ?_
    exact e2 c1 c2
  · refine xRetH_some ?_
    refine x_i2lN (dT U_L_state 8 rfl) (fun z9 hz9 ez9 => ?_)
    refine x_lastore 0 (dT U_L_state 9 rfl) (fc.get ho (by omega)) (Nat.le_of_ble_eq_true rfl) rfl (Nat.le_of_ble_eq_true rfl) (Nat.le_of_ble_eq_true rfl) ?_
    refine x_goto (tgt := 25) (dT U_L_state 10 rfl) (by decide) ?_
    refine x_iconst (dT U_L_state 17 rfl) ?_
    refine x_ireturn (dT U_L_state 18 rfl) rfl ?_
    exact k c1 c2 h2 fc w2 z9 hz9 ez9

set_option maxRecDepth 20000 in
set_option maxHeartbeats 1000000 in
theorem S_L_open {G : xG} {d rc rs : Nat} {ex : Bool} {h : xH} {Q : xQ} {σ : St} {run mask blind : Int} {l0 : Int} (w : CW σ h) (v : INV σ) (h_run : xr run) (h_mask : xr mask) (h_blind : xr blind) (ho : h[143]? = some (cJ [l0])) (e1 : ¬ (inb run 4 ∧ inb mask 8) → Q (.inl (some (vi 1))) false h) (e2 : (inb run 4 ∧ inb mask 8) → ¬ (inb blind σ.p) → Q (.inl (some (vi 2))) false h) (e3 : (inb run 4 ∧ inb mask 8) → (inb blind σ.p) → ¬ ((σ.R run.toNat).st = 1) → Q (.inl (some (vi 3))) false h) (k : (inb run 4 ∧ inb mask 8) → (inb blind σ.p) → ((σ.R run.toNat).st = 1) → ∀ h2, FC h h2 → CW (σ.sRun run.toNat (rOpen σ.p (σ.R run.toNat) (σ.rw mask.toNat) blind)) h2 → ∀ z9, xr z9 → vi (MM σ.p (cm σ.p (σ.rw mask.toNat) blind)) = vi z9 → Q (.inl (some (vi 0))) ex (h2.set 143 (cJ [z9]))) : X G m_L_open (d + 8) (rc + 4) (rs + 24) ex 0 (xe m_L_open.2.2.1 [.ref 3, vi run, vi mask, vi blind, .ref 143]) [] h Q := by
  show X G m_L_open _ _ _ _ 0 [some (.ref 3), some (vi run), some (vi mask), some (vi blind), some (.ref 143), none] [] h Q
  refine x_aload (dT U_L_open 0 rfl) rfl ?_
  refine x_iconst (dT U_L_open 1 rfl) ?_
  refine x_aload_n (dT U_L_open 2 rfl) rfl ?_
  refine x_iload_n (dT U_L_open 3 rfl) rfl ?_
  refine x_iload_n (dT U_L_open 4 rfl) rfl ?_
  refine x_iload_n (dT U_L_open 5 rfl) rfl ?_
  refine x_invokevirtualH (rc' := rc) (rs' := rs) (rc2 := 0 + 4) (rs2 := 0 + 24) (As := [_, _, _]) (st := _) M_X10_open K_L_103 (dT U_L_open 6 rfl) rfl (by decide) rfl rfl w.c3 (Nat.le_of_ble_eq_true rfl) (by decide) rfl (Nat.le_of_ble_eq_true rfl) rfl (by decide) (Nat.le_of_ble_eq_true rfl) (Nat.add_comm _ _ ▸ rfl) (Nat.add_comm _ _ ▸ rfl) ?_
  refine S_X10_open w v h_run h_mask h_blind (fun c1 => ?_) (fun c1 c2 => ?_) (fun c1 c2 c3 => ?_) (fun c1 c2 c3 h2 fc w2 => ?_)
  · refine xRetH_thr ?_
    refine ⟨[], (⟨0, 12, 15, 19⟩ : ExceptionTableEntry), [(⟨0, 12, 19, 13⟩ : ExceptionTableEntry), (⟨0, 12, 23, 45⟩ : ExceptionTableEntry)], rfl, fun z hz => absurd hz List.not_mem_nil, rfl, by decide, W_L_19, 5, 2, Or.inr ⟨(dT U_L_open 10 rfl), rfl⟩, by decide, ?_⟩
    refine x_iconst (dT U_L_open 11 rfl) ?_
    refine x_ireturn (dT U_L_open 12 rfl) rfl ?_
    exact e1 c1
  · refine xRetH_thr ?_
    refine ⟨[(⟨0, 12, 15, 19⟩ : ExceptionTableEntry)], (⟨0, 12, 19, 13⟩ : ExceptionTableEntry), [(⟨0, 12, 23, 45⟩ : ExceptionTableEntry)], rfl, fun z hz => by
        simp only [List.mem_cons, List.not_mem_nil, or_false] at hz
        subst hz
        exact ⟨by decide, "java/lang/IndexOutOfBoundsException", by decide, by decide, W_L_19⟩, rfl, by decide, W_L_13, 5, 2, Or.inr ⟨(dT U_L_open 13 rfl), rfl⟩, by decide, ?_⟩
    refine x_iconst (dT U_L_open 14 rfl) ?_
    refine x_ireturn (dT U_L_open 15 rfl) rfl ?_
    exact e2 c1 c2
  · refine xRetH_thr ?_
    refine ⟨[(⟨0, 12, 15, 19⟩ : ExceptionTableEntry), (⟨0, 12, 19, 13⟩ : ExceptionTableEntry)], (⟨0, 12, 23, 45⟩ : ExceptionTableEntry), [], rfl, fun z hz => by
        simp only [List.mem_cons, List.not_mem_nil, or_false] at hz
        rcases hz with rfl | rfl
        · exact ⟨by decide, "java/lang/IndexOutOfBoundsException", by decide, by decide, W_L_19⟩
        · exact ⟨by decide, "java/lang/IllegalArgumentException", by decide, by decide, W_L_13⟩, rfl, by decide, W_L_45, 5, 2, Or.inr ⟨(dT U_L_open 16 rfl), rfl⟩, by decide, ?_⟩
    refine x_iconst (dT U_L_open 17 rfl) ?_
    refine x_ireturn (dT U_L_open 18 rfl) rfl ?_
    exact e3 c1 c2 c3
  · refine xRetH_some ?_
    refine x_i2lN (dT U_L_open 7 rfl) (fun z9 hz9 ez9 => ?_)
    refine x_lastore 0 (dT U_L_open 8 rfl) (fc.get ho (by omega)) (Nat.le_of_ble_eq_true rfl) rfl (Nat.le_of_ble_eq_true rfl) (Nat.le_of_ble_eq_true rfl) ?_
    refine x_goto (tgt := 27) (dT U_L_open 9 rfl) (by decide) ?_
    refine x_iconst (dT U_L_open 19 rfl) ?_
    refine x_ireturn (dT U_L_open 20 rfl) rfl ?_
    exact k c1 c2 c3 h2 fc w2 z9 hz9 ez9

set_option maxRecDepth 20000 in
set_option maxHeartbeats 1000000 in
theorem S_L_say {G : xG} {d rc rs : Nat} {ex : Bool} {h : xH} {Q : xQ} {σ : St} {run a x : Int} {l0 : Int} (w : CW σ h) (v : INV σ) (h_run : xr run) (h_a : xr a) (h_x : xr x) (ho : h[143]? = some (cJ [l0])) (e1 : ¬ (inb run 4) → Q (.inl (some (vi 1))) false h) (e2 : (inb run 4) → ¬ (¬ exI σ.p a = -1 ∧ inb x σ.p) → Q (.inl (some (vi 2))) false h) (e3 : (inb run 4) → (¬ exI σ.p a = -1 ∧ inb x σ.p) → ¬ ((σ.R run.toNat).st = 1) → Q (.inl (some (vi 3))) false h) (k : (inb run 4) → (¬ exI σ.p a = -1 ∧ inb x σ.p) → ((σ.R run.toNat).st = 1) → ∀ h2, FC h h2 → CW (σ.sRun run.toNat (rSay (σ.R run.toNat) (exI σ.p a) x)) h2 → ∀ z9, xr z9 → vi (a) = vi z9 → Q (.inl (some (vi 0))) ex (h2.set 143 (cJ [z9]))) : X G m_L_say (d + 8) (rc + 4) (rs + 24) ex 0 (xe m_L_say.2.2.1 [.ref 3, vi run, vi a, vi x, .ref 143]) [] h Q := by
  show X G m_L_say _ _ _ _ 0 [some (.ref 3), some (vi run), some (vi a), some (vi x), some (.ref 143), none] [] h Q
  refine x_aload (dT U_L_say 0 rfl) rfl ?_
  refine x_iconst (dT U_L_say 1 rfl) ?_
  refine x_aload_n (dT U_L_say 2 rfl) rfl ?_
  refine x_iload_n (dT U_L_say 3 rfl) rfl ?_
  refine x_iload_n (dT U_L_say 4 rfl) rfl ?_
  refine x_iload_n (dT U_L_say 5 rfl) rfl ?_
  refine x_invokevirtualH (rc' := rc) (rs' := rs) (rc2 := 0 + 4) (rs2 := 0 + 24) (As := [_, _, _]) (st := _) M_X10_say K_L_106 (dT U_L_say 6 rfl) rfl (by decide) rfl rfl w.c3 (Nat.le_of_ble_eq_true rfl) (by decide) rfl (Nat.le_of_ble_eq_true rfl) rfl (by decide) (Nat.le_of_ble_eq_true rfl) (Nat.add_comm _ _ ▸ rfl) (Nat.add_comm _ _ ▸ rfl) ?_
  refine S_X10_say w v h_run h_a h_x (fun c1 => ?_) (fun c1 c2 => ?_) (fun c1 c2 c3 => ?_) (fun c1 c2 c3 h2 fc w2 => ?_)
  · refine xRetH_thr ?_
    refine ⟨[], (⟨0, 12, 15, 19⟩ : ExceptionTableEntry), [(⟨0, 12, 19, 13⟩ : ExceptionTableEntry), (⟨0, 12, 23, 45⟩ : ExceptionTableEntry)], rfl, fun z hz => absurd hz List.not_mem_nil, rfl, by decide, W_L_19, 5, 2, Or.inr ⟨(dT U_L_say 10 rfl), rfl⟩, by decide, ?_⟩
    refine x_iconst (dT U_L_say 11 rfl) ?_
    refine x_ireturn (dT U_L_say 12 rfl) rfl ?_
    exact e1 c1
  · refine xRetH_thr ?_
    refine ⟨[(⟨0, 12, 15, 19⟩ : ExceptionTableEntry)], (⟨0, 12, 19, 13⟩ : ExceptionTableEntry), [(⟨0, 12, 23, 45⟩ : ExceptionTableEntry)], rfl, fun z hz => by
        simp only [List.mem_cons, List.not_mem_nil, or_false] at hz
        subst hz
        exact ⟨by decide, "java/lang/IndexOutOfBoundsException", by decide, by decide, W_L_19⟩, rfl, by decide, W_L_13, 5, 2, Or.inr ⟨(dT U_L_say 13 rfl), rfl⟩, by decide, ?_⟩
    refine x_iconst (dT U_L_say 14 rfl) ?_
    refine x_ireturn (dT U_L_say 15 rfl) rfl ?_
    exact e2 c1 c2
  · refine xRetH_thr ?_
    refine ⟨[(⟨0, 12, 15, 19⟩ : ExceptionTableEntry), (⟨0, 12, 19, 13⟩ : ExceptionTableEntry)], (⟨0, 12, 23, 45⟩ : ExceptionTableEntry), [], rfl, fun z hz => by
        simp only [List.mem_cons, List.not_mem_nil, or_false] at hz
        rcases hz with rfl | rfl
        · exact ⟨by decide, "java/lang/IndexOutOfBoundsException", by decide, by decide, W_L_19⟩
        · exact ⟨by decide, "java/lang/IllegalArgumentException", by decide, by decide, W_L_13⟩, rfl, by decide, W_L_45, 5, 2, Or.inr ⟨(dT U_L_say 16 rfl), rfl⟩, by decide, ?_⟩
    refine x_iconst (dT U_L_say 17 rfl) ?_
    refine x_ireturn (dT U_L_say 18 rfl) rfl ?_
    exact e3 c1 c2 c3
  · refine xRetH_some ?_
    refine x_i2lN (dT U_L_say 7 rfl) (fun z9 hz9 ez9 => ?_)
    refine x_lastore 0 (dT U_L_say 8 rfl) (fc.get ho (by omega)) (Nat.le_of_ble_eq_true rfl) rfl (Nat.le_of_ble_eq_true rfl) (Nat.le_of_ble_eq_true rfl) ?_
    refine x_goto (tgt := 27) (dT U_L_say 9 rfl) (by decide) ?_
    refine x_iconst (dT U_L_say 19 rfl) ?_
    refine x_ireturn (dT U_L_say 20 rfl) rfl ?_
    exact k c1 c2 c3 h2 fc w2 z9 hz9 ez9

set_option maxRecDepth 20000 in
set_option maxHeartbeats 1000000 in
theorem S_L_dare {G : xG} {d rc rs : Nat} {ex : Bool} {h : xH} {Q : xQ} {σ : St} {run c : Int} {l0 : Int} (w : CW σ h) (v : INV σ) (h_run : xr run) (h_c : xr c) (ho : h[143]? = some (cJ [l0])) (e1 : ¬ (inb run 4) → Q (.inl (some (vi 1))) false h) (e2 : (inb run 4) → ¬ (inb c σ.p) → Q (.inl (some (vi 2))) false h) (e3 : (inb run 4) → (inb c σ.p) → ¬ ((σ.R run.toNat).st = 2) → Q (.inl (some (vi 3))) false h) (k : (inb run 4) → (inb c σ.p) → ((σ.R run.toNat).st = 2) → ∀ h2, FC h h2 → CW (σ.sRun run.toNat (rDare (σ.R run.toNat) c)) h2 → ∀ z9, xr z9 → vi (c) = vi z9 → Q (.inl (some (vi 0))) ex (h2.set 143 (cJ [z9]))) : X G m_L_dare (d + 8) (rc + 3) (rs + 18) ex 0 (xe m_L_dare.2.2.1 [.ref 3, vi run, vi c, .ref 143]) [] h Q := by
  show X G m_L_dare _ _ _ _ 0 [some (.ref 3), some (vi run), some (vi c), some (.ref 143), none] [] h Q
  refine x_aload_n (dT U_L_dare 0 rfl) rfl ?_
  refine x_iconst (dT U_L_dare 1 rfl) ?_
  refine x_aload_n (dT U_L_dare 2 rfl) rfl ?_
  refine x_iload_n (dT U_L_dare 3 rfl) rfl ?_
  refine x_iload_n (dT U_L_dare 4 rfl) rfl ?_
  refine x_invokevirtualH (rc' := rc) (rs' := rs) (rc2 := 0 + 3) (rs2 := 0 + 18) (As := [_, _]) (st := _) M_X10_dare K_L_109 (dT U_L_dare 5 rfl) rfl (by decide) rfl rfl w.c3 (Nat.le_of_ble_eq_true rfl) (by decide) rfl (Nat.le_of_ble_eq_true rfl) rfl (by decide) (Nat.le_of_ble_eq_true rfl) (Nat.add_comm _ _ ▸ rfl) (Nat.add_comm _ _ ▸ rfl) ?_
  refine S_X10_dare w v h_run h_c (fun c1 => ?_) (fun c1 c2 => ?_) (fun c1 c2 c3 => ?_) (fun c1 c2 c3 h2 fc w2 => ?_)
  · refine xRetH_thr ?_
    refine ⟨[], (⟨0, 10, 13, 19⟩ : ExceptionTableEntry), [(⟨0, 10, 17, 13⟩ : ExceptionTableEntry), (⟨0, 10, 21, 45⟩ : ExceptionTableEntry)], rfl, fun z hz => absurd hz List.not_mem_nil, rfl, by decide, W_L_19, 4, 2, Or.inr ⟨(dT U_L_dare 9 rfl), rfl⟩, by decide, ?_⟩
    refine x_iconst (dT U_L_dare 10 rfl) ?_
    refine x_ireturn (dT U_L_dare 11 rfl) rfl ?_
    exact e1 c1
  · refine xRetH_thr ?_
    refine ⟨[(⟨0, 10, 13, 19⟩ : ExceptionTableEntry)], (⟨0, 10, 17, 13⟩ : ExceptionTableEntry), [(⟨0, 10, 21, 45⟩ : ExceptionTableEntry)], rfl, fun z hz => by
        simp only [List.mem_cons, List.not_mem_nil, or_false] at hz
        subst hz
        exact ⟨by decide, "java/lang/IndexOutOfBoundsException", by decide, by decide, W_L_19⟩, rfl, by decide, W_L_13, 4, 2, Or.inr ⟨(dT U_L_dare 12 rfl), rfl⟩, by decide, ?_⟩
    refine x_iconst (dT U_L_dare 13 rfl) ?_
    refine x_ireturn (dT U_L_dare 14 rfl) rfl ?_
    exact e2 c1 c2
  · refine xRetH_thr ?_
    refine ⟨[(⟨0, 10, 13, 19⟩ : ExceptionTableEntry), (⟨0, 10, 17, 13⟩ : ExceptionTableEntry)], (⟨0, 10, 21, 45⟩ : ExceptionTableEntry), [], rfl, fun z hz => by
        simp only [List.mem_cons, List.not_mem_nil, or_false] at hz
        rcases hz with rfl | rfl
        · exact ⟨by decide, "java/lang/IndexOutOfBoundsException", by decide, by decide, W_L_19⟩
        · exact ⟨by decide, "java/lang/IllegalArgumentException", by decide, by decide, W_L_13⟩, rfl, by decide, W_L_45, 4, 2, Or.inr ⟨(dT U_L_dare 15 rfl), rfl⟩, by decide, ?_⟩
    refine x_iconst (dT U_L_dare 16 rfl) ?_
    refine x_ireturn (dT U_L_dare 17 rfl) rfl ?_
    exact e3 c1 c2 c3
  · refine xRetH_some ?_
    refine x_i2lN (dT U_L_dare 6 rfl) (fun z9 hz9 ez9 => ?_)
    refine x_lastore 0 (dT U_L_dare 7 rfl) (fc.get ho (by omega)) (Nat.le_of_ble_eq_true rfl) rfl (Nat.le_of_ble_eq_true rfl) (Nat.le_of_ble_eq_true rfl) ?_
    refine x_goto (tgt := 25) (dT U_L_dare 8 rfl) (by decide) ?_
    refine x_iconst (dT U_L_dare 18 rfl) ?_
    refine x_ireturn (dT U_L_dare 19 rfl) rfl ?_
    exact k c1 c2 c3 h2 fc w2 z9 hz9 ez9

set_option maxRecDepth 20000 in
set_option maxHeartbeats 1000000 in
theorem S_L_ask {G : xG} {d rc rs : Nat} {ex : Bool} {h : xH} {Q : xQ} {σ : St} {run : Int} {l0 : Int} (w : CW σ h) (v : INV σ) (h_run : xr run) (ho : h[143]? = some (cJ [l0])) (e1 : ¬ (inb run 4) → Q (.inl (some (vi 1))) false h) (e2 : (inb run 4) → ¬ ((σ.R run.toNat).st = 2) → Q (.inl (some (vi 2))) false h) (k : (inb run 4) → ((σ.R run.toNat).st = 2) → ∀ h2, FC h h2 → CW (σ.sRun run.toNat (rDare (σ.R run.toNat) (trs σ.p (σ.R run.toNat) % (σ.p : Int)))) h2 → ∀ z9, xr z9 → vi ((trs σ.p (σ.R run.toNat) % (σ.p : Int))) = vi z9 → Q (.inl (some (vi 0))) ex (h2.set 143 (cJ [z9]))) : X G m_L_ask (d + 8) (rc + 2) (rs + 12) ex 0 (xe m_L_ask.2.2.1 [.ref 3, vi run, .ref 143]) [] h Q := by
  show X G m_L_ask _ _ _ _ 0 [some (.ref 3), some (vi run), some (.ref 143), none] [] h Q
  refine x_aload_n (dT U_L_ask 0 rfl) rfl ?_
  refine x_iconst (dT U_L_ask 1 rfl) ?_
  refine x_aload_n (dT U_L_ask 2 rfl) rfl ?_
  refine x_iload_n (dT U_L_ask 3 rfl) rfl ?_
  refine x_invokevirtualH (rc' := rc) (rs' := rs) (rc2 := 0 + 2) (rs2 := 0 + 12) (As := [_]) (st := _) M_X10_ask K_L_112 (dT U_L_ask 4 rfl) rfl (by decide) rfl rfl w.c3 (Nat.le_of_ble_eq_true rfl) (by decide) rfl (Nat.le_of_ble_eq_true rfl) rfl (by decide) (Nat.le_of_ble_eq_true rfl) (Nat.add_comm _ _ ▸ rfl) (Nat.add_comm _ _ ▸ rfl) ?_
  refine S_X10_ask w v h_run (fun c1 => ?_) (fun c1 c2 => ?_) (fun c1 c2 h2 fc w2 => ?_)
  · refine xRetH_thr ?_
    refine ⟨[], (⟨0, 9, 12, 19⟩ : ExceptionTableEntry), [(⟨0, 9, 15, 45⟩ : ExceptionTableEntry)], rfl, fun z hz => absurd hz List.not_mem_nil, rfl, by decide, W_L_19, 3, 1, Or.inl ⟨3, (dT U_L_ask 8 rfl), rfl, rfl⟩, by decide, ?_⟩
    refine x_iconst (dT U_L_ask 9 rfl) ?_
    refine x_ireturn (dT U_L_ask 10 rfl) rfl ?_
    exact e1 c1
  · refine xRetH_thr ?_
    refine ⟨[(⟨0, 9, 12, 19⟩ : ExceptionTableEntry)], (⟨0, 9, 15, 45⟩ : ExceptionTableEntry), [], rfl, fun z hz => by
        simp only [List.mem_cons, List.not_mem_nil, or_false] at hz
        subst hz
        exact ⟨by decide, "java/lang/IndexOutOfBoundsException", by decide, by decide, W_L_19⟩, rfl, by decide, W_L_45, 3, 1, Or.inl ⟨3, (dT U_L_ask 11 rfl), rfl, rfl⟩, by decide, ?_⟩
    refine x_iconst (dT U_L_ask 12 rfl) ?_
    refine x_ireturn (dT U_L_ask 13 rfl) rfl ?_
    exact e2 c1 c2
  · refine xRetH_some ?_
    refine x_i2lN (dT U_L_ask 5 rfl) (fun z9 hz9 ez9 => ?_)
    refine x_lastore 0 (dT U_L_ask 6 rfl) (fc.get ho (by omega)) (Nat.le_of_ble_eq_true rfl) rfl (Nat.le_of_ble_eq_true rfl) (Nat.le_of_ble_eq_true rfl) ?_
    refine x_goto (tgt := 18) (dT U_L_ask 7 rfl) (by decide) ?_
    refine x_iconst (dT U_L_ask 14 rfl) ?_
    refine x_ireturn (dT U_L_ask 15 rfl) rfl ?_
    exact k c1 c2 h2 fc w2 z9 hz9 ez9

set_option maxRecDepth 20000 in
set_option maxHeartbeats 1000000 in
theorem S_L_reply {G : xG} {d rc rs : Nat} {ex : Bool} {h : xH} {Q : xQ} {σ : St} {run secret blind : Int} {l0 : Int} (w : CW σ h) (v : INV σ) (h_run : xr run) (h_secret : xr secret) (h_blind : xr blind) (ho : h[143]? = some (cJ [l0])) (e1 : ¬ (inb run 4 ∧ inb secret 8) → Q (.inl (some (vi 1))) false h) (e2 : (inb run 4 ∧ inb secret 8) → ¬ (inb blind σ.p) → Q (.inl (some (vi 2))) false h) (e3 : (inb run 4 ∧ inb secret 8) → (inb blind σ.p) → ¬ ((σ.R run.toNat).mk = true ∧ (σ.R run.toNat).st = 3) → Q (.inl (some (vi 3))) false h) (k : (inb run 4 ∧ inb secret 8) → (inb blind σ.p) → ((σ.R run.toNat).mk = true ∧ (σ.R run.toNat).st = 3) → ∀ h2, FC h h2 → CW (σ.sRun run.toNat (rReply σ.p (σ.R run.toNat) (σ.rw secret.toNat) blind (decide (suit σ.p (σ.R run.toNat) (σ.rw secret.toNat) blind)))) h2 → ∀ z9, xr z9 → vi (((σ.R run.toNat).mb + (σ.R run.toNat).c * blind) % (σ.p : Int)) = vi z9 → Q (.inl (some (vi 0))) ex (h2.set 143 (cJ [z9]))) : X G m_L_reply (d + 8) (rc + 5) (rs + 30) ex 0 (xe m_L_reply.2.2.1 [.ref 3, vi run, vi secret, vi blind, .ref 143]) [] h Q := by
  show X G m_L_reply _ _ _ _ 0 [some (.ref 3), some (vi run), some (vi secret), some (vi blind), some (.ref 143), none] [] h Q
  refine x_aload (dT U_L_reply 0 rfl) rfl ?_
  refine x_iconst (dT U_L_reply 1 rfl) ?_
  refine x_aload_n (dT U_L_reply 2 rfl) rfl ?_
  refine x_iload_n (dT U_L_reply 3 rfl) rfl ?_
  refine x_iload_n (dT U_L_reply 4 rfl) rfl ?_
  refine x_iload_n (dT U_L_reply 5 rfl) rfl ?_
  refine x_invokevirtualH (rc' := rc) (rs' := rs) (rc2 := 0 + 5) (rs2 := 0 + 30) (As := [_, _, _]) (st := _) M_X10_reply K_L_115 (dT U_L_reply 6 rfl) rfl (by decide) rfl rfl w.c3 (Nat.le_of_ble_eq_true rfl) (by decide) rfl (Nat.le_of_ble_eq_true rfl) rfl (by decide) (Nat.le_of_ble_eq_true rfl) (Nat.add_comm _ _ ▸ rfl) (Nat.add_comm _ _ ▸ rfl) ?_
  refine S_X10_reply w v h_run h_secret h_blind (fun c1 => ?_) (fun c1 c2 => ?_) (fun c1 c2 c3 => ?_) (fun c1 c2 c3 h2 fc w2 => ?_)
  · refine xRetH_thr ?_
    refine ⟨[], (⟨0, 12, 15, 19⟩ : ExceptionTableEntry), [(⟨0, 12, 19, 13⟩ : ExceptionTableEntry), (⟨0, 12, 23, 45⟩ : ExceptionTableEntry)], rfl, fun z hz => absurd hz List.not_mem_nil, rfl, by decide, W_L_19, 5, 2, Or.inr ⟨(dT U_L_reply 10 rfl), rfl⟩, by decide, ?_⟩
    refine x_iconst (dT U_L_reply 11 rfl) ?_
    refine x_ireturn (dT U_L_reply 12 rfl) rfl ?_
    exact e1 c1
  · refine xRetH_thr ?_
    refine ⟨[(⟨0, 12, 15, 19⟩ : ExceptionTableEntry)], (⟨0, 12, 19, 13⟩ : ExceptionTableEntry), [(⟨0, 12, 23, 45⟩ : ExceptionTableEntry)], rfl, fun z hz => by
        simp only [List.mem_cons, List.not_mem_nil, or_false] at hz
        subst hz
        exact ⟨by decide, "java/lang/IndexOutOfBoundsException", by decide, by decide, W_L_19⟩, rfl, by decide, W_L_13, 5, 2, Or.inr ⟨(dT U_L_reply 13 rfl), rfl⟩, by decide, ?_⟩
    refine x_iconst (dT U_L_reply 14 rfl) ?_
    refine x_ireturn (dT U_L_reply 15 rfl) rfl ?_
    exact e2 c1 c2
  · refine xRetH_thr ?_
    refine ⟨[(⟨0, 12, 15, 19⟩ : ExceptionTableEntry), (⟨0, 12, 19, 13⟩ : ExceptionTableEntry)], (⟨0, 12, 23, 45⟩ : ExceptionTableEntry), [], rfl, fun z hz => by
        simp only [List.mem_cons, List.not_mem_nil, or_false] at hz
        rcases hz with rfl | rfl
        · exact ⟨by decide, "java/lang/IndexOutOfBoundsException", by decide, by decide, W_L_19⟩
        · exact ⟨by decide, "java/lang/IllegalArgumentException", by decide, by decide, W_L_13⟩, rfl, by decide, W_L_45, 5, 2, Or.inr ⟨(dT U_L_reply 16 rfl), rfl⟩, by decide, ?_⟩
    refine x_iconst (dT U_L_reply 17 rfl) ?_
    refine x_ireturn (dT U_L_reply 18 rfl) rfl ?_
    exact e3 c1 c2 c3
  · refine xRetH_some ?_
    refine x_i2lN (dT U_L_reply 7 rfl) (fun z9 hz9 ez9 => ?_)
    refine x_lastore 0 (dT U_L_reply 8 rfl) (fc.get ho (by omega)) (Nat.le_of_ble_eq_true rfl) rfl (Nat.le_of_ble_eq_true rfl) (Nat.le_of_ble_eq_true rfl) ?_
    refine x_goto (tgt := 27) (dT U_L_reply 9 rfl) (by decide) ?_
    refine x_iconst (dT U_L_reply 19 rfl) ?_
    refine x_ireturn (dT U_L_reply 20 rfl) rfl ?_
    exact k c1 c2 c3 h2 fc w2 z9 hz9 ez9

set_option maxRecDepth 20000 in
set_option maxHeartbeats 1000000 in
theorem S_L_tell {G : xG} {d rc rs : Nat} {ex : Bool} {h : xH} {Q : xQ} {σ : St} {run answer t : Int} {l0 : Int} (w : CW σ h) (v : INV σ) (h_run : xr run) (h_answer : xr answer) (h_t : xr t) (ho : h[143]? = some (cJ [l0])) (e1 : ¬ (inb run 4 ∧ inb answer 8) → Q (.inl (some (vi 1))) false h) (e2 : (inb run 4 ∧ inb answer 8) → ¬ (inb t σ.p) → Q (.inl (some (vi 2))) false h) (e3 : (inb run 4 ∧ inb answer 8) → (inb t σ.p) → ¬ ((σ.R run.toNat).st = 3) → Q (.inl (some (vi 3))) false h) (k : (inb run 4 ∧ inb answer 8) → (inb t σ.p) → ((σ.R run.toNat).st = 3) → ∀ h2, FC h h2 → CW (σ.sRun run.toNat (rTell (σ.R run.toNat) (σ.rw answer.toNat) t)) h2 → ∀ z9, xr z9 → vi (t) = vi z9 → Q (.inl (some (vi 0))) ex (h2.set 143 (cJ [z9]))) : X G m_L_tell (d + 8) (rc + 4) (rs + 24) ex 0 (xe m_L_tell.2.2.1 [.ref 3, vi run, vi answer, vi t, .ref 143]) [] h Q := by
  show X G m_L_tell _ _ _ _ 0 [some (.ref 3), some (vi run), some (vi answer), some (vi t), some (.ref 143), none] [] h Q
  refine x_aload (dT U_L_tell 0 rfl) rfl ?_
  refine x_iconst (dT U_L_tell 1 rfl) ?_
  refine x_aload_n (dT U_L_tell 2 rfl) rfl ?_
  refine x_iload_n (dT U_L_tell 3 rfl) rfl ?_
  refine x_iload_n (dT U_L_tell 4 rfl) rfl ?_
  refine x_iload_n (dT U_L_tell 5 rfl) rfl ?_
  refine x_invokevirtualH (rc' := rc) (rs' := rs) (rc2 := 0 + 4) (rs2 := 0 + 24) (As := [_, _, _]) (st := _) M_X10_tell K_L_118 (dT U_L_tell 6 rfl) rfl (by decide) rfl rfl w.c3 (Nat.le_of_ble_eq_true rfl) (by decide) rfl (Nat.le_of_ble_eq_true rfl) rfl (by decide) (Nat.le_of_ble_eq_true rfl) (Nat.add_comm _ _ ▸ rfl) (Nat.add_comm _ _ ▸ rfl) ?_
  refine S_X10_tell w v h_run h_answer h_t (fun c1 => ?_) (fun c1 c2 => ?_) (fun c1 c2 c3 => ?_) (fun c1 c2 c3 h2 fc w2 => ?_)
  · refine xRetH_thr ?_
    refine ⟨[], (⟨0, 12, 15, 19⟩ : ExceptionTableEntry), [(⟨0, 12, 19, 13⟩ : ExceptionTableEntry), (⟨0, 12, 23, 45⟩ : ExceptionTableEntry)], rfl, fun z hz => absurd hz List.not_mem_nil, rfl, by decide, W_L_19, 5, 2, Or.inr ⟨(dT U_L_tell 10 rfl), rfl⟩, by decide, ?_⟩
    refine x_iconst (dT U_L_tell 11 rfl) ?_
    refine x_ireturn (dT U_L_tell 12 rfl) rfl ?_
    exact e1 c1
  · refine xRetH_thr ?_
    refine ⟨[(⟨0, 12, 15, 19⟩ : ExceptionTableEntry)], (⟨0, 12, 19, 13⟩ : ExceptionTableEntry), [(⟨0, 12, 23, 45⟩ : ExceptionTableEntry)], rfl, fun z hz => by
        simp only [List.mem_cons, List.not_mem_nil, or_false] at hz
        subst hz
        exact ⟨by decide, "java/lang/IndexOutOfBoundsException", by decide, by decide, W_L_19⟩, rfl, by decide, W_L_13, 5, 2, Or.inr ⟨(dT U_L_tell 13 rfl), rfl⟩, by decide, ?_⟩
    refine x_iconst (dT U_L_tell 14 rfl) ?_
    refine x_ireturn (dT U_L_tell 15 rfl) rfl ?_
    exact e2 c1 c2
  · refine xRetH_thr ?_
    refine ⟨[(⟨0, 12, 15, 19⟩ : ExceptionTableEntry), (⟨0, 12, 19, 13⟩ : ExceptionTableEntry)], (⟨0, 12, 23, 45⟩ : ExceptionTableEntry), [], rfl, fun z hz => by
        simp only [List.mem_cons, List.not_mem_nil, or_false] at hz
        rcases hz with rfl | rfl
        · exact ⟨by decide, "java/lang/IndexOutOfBoundsException", by decide, by decide, W_L_19⟩
        · exact ⟨by decide, "java/lang/IllegalArgumentException", by decide, by decide, W_L_13⟩, rfl, by decide, W_L_45, 5, 2, Or.inr ⟨(dT U_L_tell 16 rfl), rfl⟩, by decide, ?_⟩
    refine x_iconst (dT U_L_tell 17 rfl) ?_
    refine x_ireturn (dT U_L_tell 18 rfl) rfl ?_
    exact e3 c1 c2 c3
  · refine xRetH_some ?_
    refine x_i2lN (dT U_L_tell 7 rfl) (fun z9 hz9 ez9 => ?_)
    refine x_lastore 0 (dT U_L_tell 8 rfl) (fc.get ho (by omega)) (Nat.le_of_ble_eq_true rfl) rfl (Nat.le_of_ble_eq_true rfl) (Nat.le_of_ble_eq_true rfl) ?_
    refine x_goto (tgt := 27) (dT U_L_tell 9 rfl) (by decide) ?_
    refine x_iconst (dT U_L_tell 19 rfl) ?_
    refine x_ireturn (dT U_L_tell 20 rfl) rfl ?_
    exact k c1 c2 c3 h2 fc w2 z9 hz9 ez9

set_option maxRecDepth 20000 in
set_option maxHeartbeats 1000000 in
theorem S_L_isAccepted {G : xG} {d rc rs : Nat} {ex : Bool} {h : xH} {Q : xQ} {σ : St} {run : Int} {l0 : Int} (w : CW σ h) (v : INV σ) (h_run : xr run) (ho : h[143]? = some (cJ [l0])) (e1 : ¬ (inb run 4) → Q (.inl (some (vi 1))) false h) (k1 : (inb run 4) → acc σ.p (σ.R run.toNat) → Q (.inl (some (vi 0))) ex (h.set 143 (cJ [1]))) (k0 : (inb run 4) → ¬ acc σ.p (σ.R run.toNat) → Q (.inl (some (vi 0))) ex (h.set 143 (cJ [0]))) : X G m_L_isAccepted (d + 8) (rc + 1) (rs + 6) ex 0 (xe m_L_isAccepted.2.2.1 [.ref 3, vi run, .ref 143]) [] h Q := by
  show X G m_L_isAccepted _ _ _ _ 0 [some (.ref 3), some (vi run), some (.ref 143), none] [] h Q
  refine x_aload_n (dT U_L_isAccepted 0 rfl) rfl ?_
  refine x_iconst (dT U_L_isAccepted 1 rfl) ?_
  refine x_aload_n (dT U_L_isAccepted 2 rfl) rfl ?_
  refine x_iload_n (dT U_L_isAccepted 3 rfl) rfl ?_
  refine x_invokevirtualH (rc' := rc) (rs' := rs) (rc2 := 0 + 1) (rs2 := 0 + 6) (As := [_]) (st := _) M_X10_isAccepted K_L_121 (dT U_L_isAccepted 4 rfl) rfl (by decide) rfl rfl w.c3 (Nat.le_of_ble_eq_true rfl) (by decide) rfl (Nat.le_of_ble_eq_true rfl) rfl (by decide) (Nat.le_of_ble_eq_true rfl) (Nat.add_comm _ _ ▸ rfl) (Nat.add_comm _ _ ▸ rfl) ?_
  refine S_X10_isAccepted w v h_run (fun c1 => ?_) (fun c1 c2 => ?_) (fun c1 c2 => ?_)
  · refine xRetH_thr ?_
    refine ⟨[], (⟨0, 16, 19, 19⟩ : ExceptionTableEntry), [], rfl, fun z hz => absurd hz List.not_mem_nil, rfl, by decide, W_L_19, 3, 1, Or.inl ⟨3, (dT U_L_isAccepted 11 rfl), rfl, rfl⟩, by decide, ?_⟩
    refine x_iconst (dT U_L_isAccepted 12 rfl) ?_
    refine x_ireturn (dT U_L_isAccepted 13 rfl) rfl ?_
    exact e1 c1
  · refine xRetH_some ?_
    refine x_if_eqn (tgt := 14) (dT U_L_isAccepted 5 rfl) (by decide) (by decide) ?_
    refine x_lconst (z := 1) (dT U_L_isAccepted 6 rfl) rfl ?_
    refine x_goto (tgt := 15) (dT U_L_isAccepted 7 rfl) (by decide) ?_
    refine x_lastore 0 (dT U_L_isAccepted 9 rfl) ho (Nat.le_of_ble_eq_true rfl) rfl (Nat.le_of_ble_eq_true rfl) (Nat.le_of_ble_eq_true rfl) ?_
    refine x_goto (tgt := 22) (dT U_L_isAccepted 10 rfl) (by decide) ?_
    refine x_iconst (dT U_L_isAccepted 14 rfl) ?_
    refine x_ireturn (dT U_L_isAccepted 15 rfl) rfl ?_
    exact k1 c1 c2
  · refine xRetH_some ?_
    refine x_if_eqj (tgt := 14) (dT U_L_isAccepted 5 rfl) (by decide) (by decide) ?_
    refine x_lconst (z := 0) (dT U_L_isAccepted 8 rfl) rfl ?_
    refine x_lastore 0 (dT U_L_isAccepted 9 rfl) ho (Nat.le_of_ble_eq_true rfl) rfl (Nat.le_of_ble_eq_true rfl) (Nat.le_of_ble_eq_true rfl) ?_
    refine x_goto (tgt := 22) (dT U_L_isAccepted 10 rfl) (by decide) ?_
    refine x_iconst (dT U_L_isAccepted 14 rfl) ?_
    refine x_ireturn (dT U_L_isAccepted 15 rfl) rfl ?_
    exact k0 c1 c2

set_option maxRecDepth 20000 in
set_option maxHeartbeats 1000000 in
theorem S_L_simulate {G : xG} {d rc rs : Nat} {ex : Bool} {h : xH} {Q : xQ} {σ : St} {run c answer t : Int} {l0 : Int} (w : CW σ h) (v : INV σ) (h_run : xr run) (h_c : xr c) (h_answer : xr answer) (h_t : xr t) (ho : h[143]? = some (cJ [l0])) (e1 : ¬ (inb run 4 ∧ inb answer 8) → Q (.inl (some (vi 1))) false h) (e2 : (inb run 4 ∧ inb answer 8) → ¬ (inb c σ.p ∧ inb t σ.p) → Q (.inl (some (vi 2))) false h) (e3 : (inb run 4 ∧ inb answer 8) → (inb c σ.p ∧ inb t σ.p) → ¬ ((σ.R run.toNat).st = 1) → Q (.inl (some (vi 3))) false h) (k : (inb run 4 ∧ inb answer 8) → (inb c σ.p ∧ inb t σ.p) → ((σ.R run.toNat).st = 1) → ∀ h2, FC h h2 → CW (σ.sRun run.toNat (rSim σ.p (σ.R run.toNat) c (σ.rw answer.toNat) t)) h2 → ∀ z9, xr z9 → vi (MM σ.p ((cm σ.p (σ.rw answer.toNat) t - c * (σ.R run.toNat).e) % (σ.p : Int))) = vi z9 → Q (.inl (some (vi 0))) ex (h2.set 143 (cJ [z9]))) : X G m_L_simulate (d + 8) (rc + 5) (rs + 30) ex 0 (xe m_L_simulate.2.2.1 [.ref 3, vi run, vi c, vi answer, vi t, .ref 143]) [] h Q := by
  show X G m_L_simulate _ _ _ _ 0 [some (.ref 3), some (vi run), some (vi c), some (vi answer), some (vi t), some (.ref 143), none] [] h Q
  refine x_aload (dT U_L_simulate 0 rfl) rfl ?_
  refine x_iconst (dT U_L_simulate 1 rfl) ?_
  refine x_aload_n (dT U_L_simulate 2 rfl) rfl ?_
  refine x_iload_n (dT U_L_simulate 3 rfl) rfl ?_
  refine x_iload_n (dT U_L_simulate 4 rfl) rfl ?_
  refine x_iload_n (dT U_L_simulate 5 rfl) rfl ?_
  refine x_iload (dT U_L_simulate 6 rfl) rfl ?_
  refine x_invokevirtualH (rc' := rc) (rs' := rs) (rc2 := 0 + 5) (rs2 := 0 + 30) (As := [_, _, _, _]) (st := _) M_X10_simulate K_L_125 (dT U_L_simulate 7 rfl) rfl (by decide) rfl rfl w.c3 (Nat.le_of_ble_eq_true rfl) (by decide) rfl (Nat.le_of_ble_eq_true rfl) rfl (by decide) (Nat.le_of_ble_eq_true rfl) (Nat.add_comm _ _ ▸ rfl) (Nat.add_comm _ _ ▸ rfl) ?_
  refine S_X10_simulate w v h_run h_c h_answer h_t (fun c1 => ?_) (fun c1 c2 => ?_) (fun c1 c2 c3 => ?_) (fun c1 c2 c3 h2 fc w2 => ?_)
  · refine xRetH_thr ?_
    refine ⟨[], (⟨0, 14, 17, 19⟩ : ExceptionTableEntry), [(⟨0, 14, 21, 13⟩ : ExceptionTableEntry), (⟨0, 14, 25, 45⟩ : ExceptionTableEntry)], rfl, fun z hz => absurd hz List.not_mem_nil, rfl, by decide, W_L_19, 6, 2, Or.inr ⟨(dT U_L_simulate 11 rfl), rfl⟩, by decide, ?_⟩
    refine x_iconst (dT U_L_simulate 12 rfl) ?_
    refine x_ireturn (dT U_L_simulate 13 rfl) rfl ?_
    exact e1 c1
  · refine xRetH_thr ?_
    refine ⟨[(⟨0, 14, 17, 19⟩ : ExceptionTableEntry)], (⟨0, 14, 21, 13⟩ : ExceptionTableEntry), [(⟨0, 14, 25, 45⟩ : ExceptionTableEntry)], rfl, fun z hz => by
        simp only [List.mem_cons, List.not_mem_nil, or_false] at hz
        subst hz
        exact ⟨by decide, "java/lang/IndexOutOfBoundsException", by decide, by decide, W_L_19⟩, rfl, by decide, W_L_13, 6, 2, Or.inr ⟨(dT U_L_simulate 14 rfl), rfl⟩, by decide, ?_⟩
    refine x_iconst (dT U_L_simulate 15 rfl) ?_
    refine x_ireturn (dT U_L_simulate 16 rfl) rfl ?_
    exact e2 c1 c2
  · refine xRetH_thr ?_
    refine ⟨[(⟨0, 14, 17, 19⟩ : ExceptionTableEntry), (⟨0, 14, 21, 13⟩ : ExceptionTableEntry)], (⟨0, 14, 25, 45⟩ : ExceptionTableEntry), [], rfl, fun z hz => by
        simp only [List.mem_cons, List.not_mem_nil, or_false] at hz
        rcases hz with rfl | rfl
        · exact ⟨by decide, "java/lang/IndexOutOfBoundsException", by decide, by decide, W_L_19⟩
        · exact ⟨by decide, "java/lang/IllegalArgumentException", by decide, by decide, W_L_13⟩, rfl, by decide, W_L_45, 6, 2, Or.inr ⟨(dT U_L_simulate 17 rfl), rfl⟩, by decide, ?_⟩
    refine x_iconst (dT U_L_simulate 18 rfl) ?_
    refine x_ireturn (dT U_L_simulate 19 rfl) rfl ?_
    exact e3 c1 c2 c3
  · refine xRetH_some ?_
    refine x_i2lN (dT U_L_simulate 8 rfl) (fun z9 hz9 ez9 => ?_)
    refine x_lastore 0 (dT U_L_simulate 9 rfl) (fc.get ho (by omega)) (Nat.le_of_ble_eq_true rfl) rfl (Nat.le_of_ble_eq_true rfl) (Nat.le_of_ble_eq_true rfl) ?_
    refine x_goto (tgt := 29) (dT U_L_simulate 10 rfl) (by decide) ?_
    refine x_iconst (dT U_L_simulate 20 rfl) ?_
    refine x_ireturn (dT U_L_simulate 21 rfl) rfl ?_
    exact k c1 c2 c3 h2 fc w2 z9 hz9 ez9

set_option maxRecDepth 20000 in
set_option maxHeartbeats 1000000 in
theorem S_L_extract {G : xG} {d rc rs : Nat} {ex : Bool} {h : xH} {Q : xQ} {σ : St} {run second to : Int} {l0 : Int} (w : CW σ h) (v : INV σ) (h_run : xr run) (h_second : xr second) (h_to : xr to) (ho : h[143]? = some (cJ [l0])) (e1 : ¬ (inb run 4 ∧ inb second 4 ∧ inb to 8) → Q (.inl (some (vi 1))) false h) (e2 : (inb run 4 ∧ inb second 4 ∧ inb to 8) → ¬ (fork σ.p (σ.R run.toNat) (σ.R second.toNat)) → Q (.inl (some (vi 2))) false h) (k : (inb run 4 ∧ inb second 4 ∧ inb to 8) → (fork σ.p (σ.R run.toNat) (σ.R second.toNat)) → ∀ h2, FC h h2 → CW (σ.sRow to.toNat (tab (fun t => (((σ.R run.toNat).answer.getD t 0 - (σ.R second.toNat).answer.getD t 0) * (iv σ.p (((σ.R run.toNat).c - (σ.R second.toNat).c) % (σ.p : Int)).toNat : Int)) % (σ.p : Int)) 8)) h2 → ∀ z9, xr z9 → vi ((((σ.R run.toNat).t - (σ.R second.toNat).t) * (iv σ.p (((σ.R run.toNat).c - (σ.R second.toNat).c) % (σ.p : Int)).toNat : Int)) % (σ.p : Int)) = vi z9 → Q (.inl (some (vi 0))) ex (h2.set 143 (cJ [z9]))) : X G m_L_extract (d + 8) (rc + 4) (rs + 24) ex 0 (xe m_L_extract.2.2.1 [.ref 3, vi run, vi second, vi to, .ref 143]) [] h Q := by
  show X G m_L_extract _ _ _ _ 0 [some (.ref 3), some (vi run), some (vi second), some (vi to), some (.ref 143), none] [] h Q
  refine x_aload (dT U_L_extract 0 rfl) rfl ?_
  refine x_iconst (dT U_L_extract 1 rfl) ?_
  refine x_aload_n (dT U_L_extract 2 rfl) rfl ?_
  refine x_iload_n (dT U_L_extract 3 rfl) rfl ?_
  refine x_iload_n (dT U_L_extract 4 rfl) rfl ?_
  refine x_iload_n (dT U_L_extract 5 rfl) rfl ?_
  refine x_invokevirtualH (rc' := rc) (rs' := rs) (rc2 := 0 + 4) (rs2 := 0 + 24) (As := [_, _, _]) (st := _) M_X10_extract K_L_128 (dT U_L_extract 6 rfl) rfl (by decide) rfl rfl w.c3 (Nat.le_of_ble_eq_true rfl) (by decide) rfl (Nat.le_of_ble_eq_true rfl) rfl (by decide) (Nat.le_of_ble_eq_true rfl) (Nat.add_comm _ _ ▸ rfl) (Nat.add_comm _ _ ▸ rfl) ?_
  refine S_X10_extract w v h_run h_second h_to (fun c1 => ?_) (fun c1 c2 => ?_) (fun c1 c2 h2 fc w2 => ?_)
  · refine xRetH_thr ?_
    refine ⟨[], (⟨0, 12, 15, 19⟩ : ExceptionTableEntry), [(⟨0, 12, 19, 45⟩ : ExceptionTableEntry)], rfl, fun z hz => absurd hz List.not_mem_nil, rfl, by decide, W_L_19, 5, 2, Or.inr ⟨(dT U_L_extract 10 rfl), rfl⟩, by decide, ?_⟩
    refine x_iconst (dT U_L_extract 11 rfl) ?_
    refine x_ireturn (dT U_L_extract 12 rfl) rfl ?_
    exact e1 c1
  · refine xRetH_thr ?_
    refine ⟨[(⟨0, 12, 15, 19⟩ : ExceptionTableEntry)], (⟨0, 12, 19, 45⟩ : ExceptionTableEntry), [], rfl, fun z hz => by
        simp only [List.mem_cons, List.not_mem_nil, or_false] at hz
        subst hz
        exact ⟨by decide, "java/lang/IndexOutOfBoundsException", by decide, by decide, W_L_19⟩, rfl, by decide, W_L_45, 5, 2, Or.inr ⟨(dT U_L_extract 13 rfl), rfl⟩, by decide, ?_⟩
    refine x_iconst (dT U_L_extract 14 rfl) ?_
    refine x_ireturn (dT U_L_extract 15 rfl) rfl ?_
    exact e2 c1 c2
  · refine xRetH_some ?_
    refine x_i2lN (dT U_L_extract 7 rfl) (fun z9 hz9 ez9 => ?_)
    refine x_lastore 0 (dT U_L_extract 8 rfl) (fc.get ho (by omega)) (Nat.le_of_ble_eq_true rfl) rfl (Nat.le_of_ble_eq_true rfl) (Nat.le_of_ble_eq_true rfl) ?_
    refine x_goto (tgt := 23) (dT U_L_extract 9 rfl) (by decide) ?_
    refine x_iconst (dT U_L_extract 16 rfl) ?_
    refine x_ireturn (dT U_L_extract 17 rfl) rfl ?_
    exact k c1 c2 h2 fc w2 z9 hz9 ez9

set_option maxRecDepth 20000 in
set_option maxHeartbeats 1000000 in
theorem S_L_maskFor {G : xG} {d rc rs : Nat} {ex : Bool} {h : xH} {Q : xQ} {σ : St} {run secret blind to : Int} {l0 : Int} (w : CW σ h) (v : INV σ) (h_run : xr run) (h_secret : xr secret) (h_blind : xr blind) (h_to : xr to) (ho : h[143]? = some (cJ [l0])) (e1 : ¬ (inb run 4 ∧ inb secret 8 ∧ inb to 8) → Q (.inl (some (vi 1))) false h) (e2 : (inb run 4 ∧ inb secret 8 ∧ inb to 8) → ¬ (inb blind σ.p) → Q (.inl (some (vi 2))) false h) (e3 : (inb run 4 ∧ inb secret 8 ∧ inb to 8) → (inb blind σ.p) → ¬ (acc σ.p (σ.R run.toNat) ∧ suit σ.p (σ.R run.toNat) (σ.rw secret.toNat) blind) → Q (.inl (some (vi 3))) false h) (k : (inb run 4 ∧ inb secret 8 ∧ inb to 8) → (inb blind σ.p) → (acc σ.p (σ.R run.toNat) ∧ suit σ.p (σ.R run.toNat) (σ.rw secret.toNat) blind) → ∀ h2, FC h h2 → CW (σ.sRow to.toNat (tab (fun t => ((σ.R run.toNat).answer.getD t 0 + -(σ.R run.toNat).c * (σ.rw secret.toNat).getD t 0) % (σ.p : Int)) 8)) h2 → ∀ z9, xr z9 → vi (((σ.R run.toNat).t - (σ.R run.toNat).c * blind) % (σ.p : Int)) = vi z9 → Q (.inl (some (vi 0))) ex (h2.set 143 (cJ [z9]))) : X G m_L_maskFor (d + 8) (rc + 5) (rs + 30) ex 0 (xe m_L_maskFor.2.2.1 [.ref 3, vi run, vi secret, vi blind, vi to, .ref 143]) [] h Q := by
  show X G m_L_maskFor _ _ _ _ 0 [some (.ref 3), some (vi run), some (vi secret), some (vi blind), some (vi to), some (.ref 143), none] [] h Q
  refine x_aload (dT U_L_maskFor 0 rfl) rfl ?_
  refine x_iconst (dT U_L_maskFor 1 rfl) ?_
  refine x_aload_n (dT U_L_maskFor 2 rfl) rfl ?_
  refine x_iload_n (dT U_L_maskFor 3 rfl) rfl ?_
  refine x_iload_n (dT U_L_maskFor 4 rfl) rfl ?_
  refine x_iload_n (dT U_L_maskFor 5 rfl) rfl ?_
  refine x_iload (dT U_L_maskFor 6 rfl) rfl ?_
  refine x_invokevirtualH (rc' := rc) (rs' := rs) (rc2 := 0 + 5) (rs2 := 0 + 30) (As := [_, _, _, _]) (st := _) M_X10_maskFor K_L_131 (dT U_L_maskFor 7 rfl) rfl (by decide) rfl rfl w.c3 (Nat.le_of_ble_eq_true rfl) (by decide) rfl (Nat.le_of_ble_eq_true rfl) rfl (by decide) (Nat.le_of_ble_eq_true rfl) (Nat.add_comm _ _ ▸ rfl) (Nat.add_comm _ _ ▸ rfl) ?_
  refine S_X10_maskFor w v h_run h_secret h_blind h_to (fun c1 => ?_) (fun c1 c2 => ?_) (fun c1 c2 c3 => ?_) (fun c1 c2 c3 h2 fc w2 => ?_)
  · refine xRetH_thr ?_
    refine ⟨[], (⟨0, 14, 17, 19⟩ : ExceptionTableEntry), [(⟨0, 14, 21, 13⟩ : ExceptionTableEntry), (⟨0, 14, 25, 45⟩ : ExceptionTableEntry)], rfl, fun z hz => absurd hz List.not_mem_nil, rfl, by decide, W_L_19, 6, 2, Or.inr ⟨(dT U_L_maskFor 11 rfl), rfl⟩, by decide, ?_⟩
    refine x_iconst (dT U_L_maskFor 12 rfl) ?_
    refine x_ireturn (dT U_L_maskFor 13 rfl) rfl ?_
    exact e1 c1
  · refine xRetH_thr ?_
    refine ⟨[(⟨0, 14, 17, 19⟩ : ExceptionTableEntry)], (⟨0, 14, 21, 13⟩ : ExceptionTableEntry), [(⟨0, 14, 25, 45⟩ : ExceptionTableEntry)], rfl, fun z hz => by
        simp only [List.mem_cons, List.not_mem_nil, or_false] at hz
        subst hz
        exact ⟨by decide, "java/lang/IndexOutOfBoundsException", by decide, by decide, W_L_19⟩, rfl, by decide, W_L_13, 6, 2, Or.inr ⟨(dT U_L_maskFor 14 rfl), rfl⟩, by decide, ?_⟩
    refine x_iconst (dT U_L_maskFor 15 rfl) ?_
    refine x_ireturn (dT U_L_maskFor 16 rfl) rfl ?_
    exact e2 c1 c2
  · refine xRetH_thr ?_
    refine ⟨[(⟨0, 14, 17, 19⟩ : ExceptionTableEntry), (⟨0, 14, 21, 13⟩ : ExceptionTableEntry)], (⟨0, 14, 25, 45⟩ : ExceptionTableEntry), [], rfl, fun z hz => by
        simp only [List.mem_cons, List.not_mem_nil, or_false] at hz
        rcases hz with rfl | rfl
        · exact ⟨by decide, "java/lang/IndexOutOfBoundsException", by decide, by decide, W_L_19⟩
        · exact ⟨by decide, "java/lang/IllegalArgumentException", by decide, by decide, W_L_13⟩, rfl, by decide, W_L_45, 6, 2, Or.inr ⟨(dT U_L_maskFor 17 rfl), rfl⟩, by decide, ?_⟩
    refine x_iconst (dT U_L_maskFor 18 rfl) ?_
    refine x_ireturn (dT U_L_maskFor 19 rfl) rfl ?_
    exact e3 c1 c2 c3
  · refine xRetH_some ?_
    refine x_i2lN (dT U_L_maskFor 8 rfl) (fun z9 hz9 ez9 => ?_)
    refine x_lastore 0 (dT U_L_maskFor 9 rfl) (fc.get ho (by omega)) (Nat.le_of_ble_eq_true rfl) rfl (Nat.le_of_ble_eq_true rfl) (Nat.le_of_ble_eq_true rfl) ?_
    refine x_goto (tgt := 29) (dT U_L_maskFor 10 rfl) (by decide) ?_
    refine x_iconst (dT U_L_maskFor 20 rfl) ?_
    refine x_ireturn (dT U_L_maskFor 21 rfl) rfl ?_
    exact k c1 c2 c3 h2 fc w2 z9 hz9 ez9

set_option maxRecDepth 20000 in
set_option maxHeartbeats 1000000 in
theorem S_L_fits {G : xG} {d rc rs : Nat} {ex : Bool} {h : xH} {Q : xQ} {σ : St} {run secret blind : Int} {l0 : Int} (w : CW σ h) (v : INV σ) (h_run : xr run) (h_secret : xr secret) (h_blind : xr blind) (ho : h[143]? = some (cJ [l0])) (e1 : ¬ (inb run 4 ∧ inb secret 8) → Q (.inl (some (vi 1))) false h) (e2 : (inb run 4 ∧ inb secret 8) → ¬ (inb blind σ.p) → Q (.inl (some (vi 2))) false h) (e3 : (inb run 4 ∧ inb secret 8) → (inb blind σ.p) → ¬ (1 ≤ (σ.R run.toNat).st) → Q (.inl (some (vi 3))) false h) (k1 : (inb run 4 ∧ inb secret 8) → (inb blind σ.p) → (1 ≤ (σ.R run.toNat).st) → suit σ.p (σ.R run.toNat) (σ.rw secret.toNat) blind → Q (.inl (some (vi 0))) ex (h.set 143 (cJ [1]))) (k0 : (inb run 4 ∧ inb secret 8) → (inb blind σ.p) → (1 ≤ (σ.R run.toNat).st) → ¬ (suit σ.p (σ.R run.toNat) (σ.rw secret.toNat) blind) → Q (.inl (some (vi 0))) ex (h.set 143 (cJ [0]))) : X G m_L_fits (d + 8) (rc + 4) (rs + 24) ex 0 (xe m_L_fits.2.2.1 [.ref 3, vi run, vi secret, vi blind, .ref 143]) [] h Q := by
  show X G m_L_fits _ _ _ _ 0 [some (.ref 3), some (vi run), some (vi secret), some (vi blind), some (.ref 143), none] [] h Q
  refine x_aload (dT U_L_fits 0 rfl) rfl ?_
  refine x_iconst (dT U_L_fits 1 rfl) ?_
  refine x_aload_n (dT U_L_fits 2 rfl) rfl ?_
  refine x_iload_n (dT U_L_fits 3 rfl) rfl ?_
  refine x_iload_n (dT U_L_fits 4 rfl) rfl ?_
  refine x_iload_n (dT U_L_fits 5 rfl) rfl ?_
  refine x_invokevirtualH (rc' := rc) (rs' := rs) (rc2 := 0 + 4) (rs2 := 0 + 24) (As := [_, _, _]) (st := _) M_X10_fits K_L_134 (dT U_L_fits 6 rfl) rfl (by decide) rfl rfl w.c3 (Nat.le_of_ble_eq_true rfl) (by decide) rfl (Nat.le_of_ble_eq_true rfl) rfl (by decide) (Nat.le_of_ble_eq_true rfl) (Nat.add_comm _ _ ▸ rfl) (Nat.add_comm _ _ ▸ rfl) ?_
  refine S_X10_fits w v h_run h_secret h_blind (fun c1 => ?_) (fun c1 c2 => ?_) (fun c1 c2 c3 => ?_) (fun c1 c2 c3 c4 => ?_) (fun c1 c2 c3 c4 => ?_)
  · refine xRetH_thr ?_
    refine ⟨[], (⟨0, 19, 22, 19⟩ : ExceptionTableEntry), [(⟨0, 19, 26, 13⟩ : ExceptionTableEntry), (⟨0, 19, 30, 45⟩ : ExceptionTableEntry)], rfl, fun z hz => absurd hz List.not_mem_nil, rfl, by decide, W_L_19, 5, 2, Or.inr ⟨(dT U_L_fits 13 rfl), rfl⟩, by decide, ?_⟩
    refine x_iconst (dT U_L_fits 14 rfl) ?_
    refine x_ireturn (dT U_L_fits 15 rfl) rfl ?_
    exact e1 c1
  · refine xRetH_thr ?_
    refine ⟨[(⟨0, 19, 22, 19⟩ : ExceptionTableEntry)], (⟨0, 19, 26, 13⟩ : ExceptionTableEntry), [(⟨0, 19, 30, 45⟩ : ExceptionTableEntry)], rfl, fun z hz => by
        simp only [List.mem_cons, List.not_mem_nil, or_false] at hz
        subst hz
        exact ⟨by decide, "java/lang/IndexOutOfBoundsException", by decide, by decide, W_L_19⟩, rfl, by decide, W_L_13, 5, 2, Or.inr ⟨(dT U_L_fits 16 rfl), rfl⟩, by decide, ?_⟩
    refine x_iconst (dT U_L_fits 17 rfl) ?_
    refine x_ireturn (dT U_L_fits 18 rfl) rfl ?_
    exact e2 c1 c2
  · refine xRetH_thr ?_
    refine ⟨[(⟨0, 19, 22, 19⟩ : ExceptionTableEntry), (⟨0, 19, 26, 13⟩ : ExceptionTableEntry)], (⟨0, 19, 30, 45⟩ : ExceptionTableEntry), [], rfl, fun z hz => by
        simp only [List.mem_cons, List.not_mem_nil, or_false] at hz
        rcases hz with rfl | rfl
        · exact ⟨by decide, "java/lang/IndexOutOfBoundsException", by decide, by decide, W_L_19⟩
        · exact ⟨by decide, "java/lang/IllegalArgumentException", by decide, by decide, W_L_13⟩, rfl, by decide, W_L_45, 5, 2, Or.inr ⟨(dT U_L_fits 19 rfl), rfl⟩, by decide, ?_⟩
    refine x_iconst (dT U_L_fits 20 rfl) ?_
    refine x_ireturn (dT U_L_fits 21 rfl) rfl ?_
    exact e3 c1 c2 c3
  · refine xRetH_some ?_
    refine x_if_eqn (tgt := 17) (dT U_L_fits 7 rfl) (by decide) (by decide) ?_
    refine x_lconst (z := 1) (dT U_L_fits 8 rfl) rfl ?_
    refine x_goto (tgt := 18) (dT U_L_fits 9 rfl) (by decide) ?_
    refine x_lastore 0 (dT U_L_fits 11 rfl) ho (Nat.le_of_ble_eq_true rfl) rfl (Nat.le_of_ble_eq_true rfl) (Nat.le_of_ble_eq_true rfl) ?_
    refine x_goto (tgt := 34) (dT U_L_fits 12 rfl) (by decide) ?_
    refine x_iconst (dT U_L_fits 22 rfl) ?_
    refine x_ireturn (dT U_L_fits 23 rfl) rfl ?_
    exact k1 c1 c2 c3 c4
  · refine xRetH_some ?_
    refine x_if_eqj (tgt := 17) (dT U_L_fits 7 rfl) (by decide) (by decide) ?_
    refine x_lconst (z := 0) (dT U_L_fits 10 rfl) rfl ?_
    refine x_lastore 0 (dT U_L_fits 11 rfl) ho (Nat.le_of_ble_eq_true rfl) rfl (Nat.le_of_ble_eq_true rfl) (Nat.le_of_ble_eq_true rfl) ?_
    refine x_goto (tgt := 34) (dT U_L_fits 12 rfl) (by decide) ?_
    refine x_iconst (dT U_L_fits 22 rfl) ?_
    refine x_ireturn (dT U_L_fits 23 rfl) rfl ?_
    exact k0 c1 c2 c3 c4

set_option maxRecDepth 20000 in
set_option maxHeartbeats 1000000 in
theorem S_L_challenges {G : xG} {d rc rs : Nat} {ex : Bool} {h : xH} {Q : xQ} {σ : St} {run : Int} {l0 : Int} (w : CW σ h) (v : INV σ) (h_run : xr run) (ho : h[143]? = some (cJ [l0])) (e1 : ¬ (inb run 4) → Q (.inl (some (vi 1))) false h) (e2 : (inb run 4) → ¬ (2 ≤ (σ.R run.toNat).st) → Q (.inl (some (vi 2))) false h) (k : (inb run 4) → (2 ≤ (σ.R run.toNat).st) → ∀ z9, xr z9 → vi (answ σ.p (σ.R run.toNat)) = vi z9 → Q (.inl (some (vi 0))) ex (h.set 143 (cJ [z9]))) : X G m_L_challenges (d + 8) (rc + 2) (rs + 12) ex 0 (xe m_L_challenges.2.2.1 [.ref 3, vi run, .ref 143]) [] h Q := by
  show X G m_L_challenges _ _ _ _ 0 [some (.ref 3), some (vi run), some (.ref 143), none] [] h Q
  refine x_aload_n (dT U_L_challenges 0 rfl) rfl ?_
  refine x_iconst (dT U_L_challenges 1 rfl) ?_
  refine x_aload_n (dT U_L_challenges 2 rfl) rfl ?_
  refine x_iload_n (dT U_L_challenges 3 rfl) rfl ?_
  refine x_invokevirtualH (rc' := rc) (rs' := rs) (rc2 := 0 + 2) (rs2 := 0 + 12) (As := [_]) (st := _) M_X10_challenges K_L_137 (dT U_L_challenges 4 rfl) rfl (by decide) rfl rfl w.c3 (Nat.le_of_ble_eq_true rfl) (by decide) rfl (Nat.le_of_ble_eq_true rfl) rfl (by decide) (Nat.le_of_ble_eq_true rfl) (Nat.add_comm _ _ ▸ rfl) (Nat.add_comm _ _ ▸ rfl) ?_
  refine S_X10_challenges w v h_run (fun c1 => ?_) (fun c1 c2 => ?_) (fun c1 c2 => ?_)
  · refine xRetH_thr ?_
    refine ⟨[], (⟨0, 9, 12, 19⟩ : ExceptionTableEntry), [(⟨0, 9, 15, 45⟩ : ExceptionTableEntry)], rfl, fun z hz => absurd hz List.not_mem_nil, rfl, by decide, W_L_19, 3, 1, Or.inl ⟨3, (dT U_L_challenges 8 rfl), rfl, rfl⟩, by decide, ?_⟩
    refine x_iconst (dT U_L_challenges 9 rfl) ?_
    refine x_ireturn (dT U_L_challenges 10 rfl) rfl ?_
    exact e1 c1
  · refine xRetH_thr ?_
    refine ⟨[(⟨0, 9, 12, 19⟩ : ExceptionTableEntry)], (⟨0, 9, 15, 45⟩ : ExceptionTableEntry), [], rfl, fun z hz => by
        simp only [List.mem_cons, List.not_mem_nil, or_false] at hz
        subst hz
        exact ⟨by decide, "java/lang/IndexOutOfBoundsException", by decide, by decide, W_L_19⟩, rfl, by decide, W_L_45, 3, 1, Or.inl ⟨3, (dT U_L_challenges 11 rfl), rfl, rfl⟩, by decide, ?_⟩
    refine x_iconst (dT U_L_challenges 12 rfl) ?_
    refine x_ireturn (dT U_L_challenges 13 rfl) rfl ?_
    exact e2 c1 c2
  · refine xRetH_some ?_
    refine x_i2lN (dT U_L_challenges 5 rfl) (fun z9 hz9 ez9 => ?_)
    refine x_lastore 0 (dT U_L_challenges 6 rfl) ho (Nat.le_of_ble_eq_true rfl) rfl (Nat.le_of_ble_eq_true rfl) (Nat.le_of_ble_eq_true rfl) ?_
    refine x_goto (tgt := 18) (dT U_L_challenges 7 rfl) (by decide) ?_
    refine x_iconst (dT U_L_challenges 14 rfl) ?_
    refine x_ireturn (dT U_L_challenges 15 rfl) rfl ?_
    exact k c1 c2 z9 hz9 ez9

set_option maxRecDepth 20000 in
set_option maxHeartbeats 1000000 in
theorem S_L_told {G : xG} {d rc rs : Nat} {ex : Bool} {h : xH} {Q : xQ} {σ : St} {run what : Int} {l0 : Int} (w : CW σ h) (v : INV σ) (h_run : xr run) (h_what : xr what) (ho : h[143]? = some (cJ [l0])) (e1 : ¬ (inb run 4) → Q (.inl (some (vi 1))) false h) (e2 : (inb run 4) → ¬ (inb what 7) → Q (.inl (some (vi 2))) false h) (k : (inb run 4) → (inb what 7) → ∀ z9, xr z9 → vi (if what = 6 then (if 2 ≤ (σ.R run.toNat).st then trs σ.p (σ.R run.toNat) else -1) else (σ.R run.toNat).num σ.p what.toNat) = vi z9 → Q (.inl (some (vi 0))) ex (h.set 143 (cJ [z9]))) : X G m_L_told (d + 8) (rc + 2) (rs + 12) ex 0 (xe m_L_told.2.2.1 [.ref 3, vi run, vi what, .ref 143]) [] h Q := by
  show X G m_L_told _ _ _ _ 0 [some (.ref 3), some (vi run), some (vi what), some (.ref 143), none] [] h Q
  refine x_aload_n (dT U_L_told 0 rfl) rfl ?_
  refine x_iconst (dT U_L_told 1 rfl) ?_
  refine x_aload_n (dT U_L_told 2 rfl) rfl ?_
  refine x_iload_n (dT U_L_told 3 rfl) rfl ?_
  refine x_iload_n (dT U_L_told 4 rfl) rfl ?_
  refine x_invokevirtualH (rc' := rc) (rs' := rs) (rc2 := 0 + 2) (rs2 := 0 + 12) (As := [_, _]) (st := _) M_X10_told K_L_140 (dT U_L_told 5 rfl) rfl (by decide) rfl rfl w.c3 (Nat.le_of_ble_eq_true rfl) (by decide) rfl (Nat.le_of_ble_eq_true rfl) rfl (by decide) (Nat.le_of_ble_eq_true rfl) (Nat.add_comm _ _ ▸ rfl) (Nat.add_comm _ _ ▸ rfl) ?_
  refine S_X10_told w v h_run h_what (fun c1 => ?_) (fun c1 c2 => ?_) (fun c1 c2 => ?_)
  · refine xRetH_thr ?_
    refine ⟨[], (⟨0, 10, 13, 19⟩ : ExceptionTableEntry), [(⟨0, 10, 17, 13⟩ : ExceptionTableEntry)], rfl, fun z hz => absurd hz List.not_mem_nil, rfl, by decide, W_L_19, 4, 2, Or.inr ⟨(dT U_L_told 9 rfl), rfl⟩, by decide, ?_⟩
    refine x_iconst (dT U_L_told 10 rfl) ?_
    refine x_ireturn (dT U_L_told 11 rfl) rfl ?_
    exact e1 c1
  · refine xRetH_thr ?_
    refine ⟨[(⟨0, 10, 13, 19⟩ : ExceptionTableEntry)], (⟨0, 10, 17, 13⟩ : ExceptionTableEntry), [], rfl, fun z hz => by
        simp only [List.mem_cons, List.not_mem_nil, or_false] at hz
        subst hz
        exact ⟨by decide, "java/lang/IndexOutOfBoundsException", by decide, by decide, W_L_19⟩, rfl, by decide, W_L_13, 4, 2, Or.inr ⟨(dT U_L_told 12 rfl), rfl⟩, by decide, ?_⟩
    refine x_iconst (dT U_L_told 13 rfl) ?_
    refine x_ireturn (dT U_L_told 14 rfl) rfl ?_
    exact e2 c1 c2
  · refine xRetH_some ?_
    refine x_i2lN (dT U_L_told 6 rfl) (fun z9 hz9 ez9 => ?_)
    refine x_lastore 0 (dT U_L_told 7 rfl) ho (Nat.le_of_ble_eq_true rfl) rfl (Nat.le_of_ble_eq_true rfl) (Nat.le_of_ble_eq_true rfl) ?_
    refine x_goto (tgt := 21) (dT U_L_told 8 rfl) (by decide) ?_
    refine x_iconst (dT U_L_told 15 rfl) ?_
    refine x_ireturn (dT U_L_told 16 rfl) rfl ?_
    exact k c1 c2 z9 hz9 ez9

set_option maxRecDepth 20000 in
set_option maxHeartbeats 1000000 in
theorem S_L_form {G : xG} {d rc rs : Nat} {ex : Bool} {h : xH} {Q : xQ} {σ : St} {run place isAnswer : Int} {l0 : Int} (w : CW σ h) (v : INV σ) (h_run : xr run) (h_place : xr place) (h_isAnswer : isAnswer = 0 ∨ isAnswer = 1) (ho : h[143]? = some (cJ [l0])) (e1 : ¬ (inb run 4 ∧ inb place 8) → Q (.inl (some (vi 1))) false h) (e2 : (inb run 4 ∧ inb place 8) → ¬ (1 ≤ (σ.R run.toNat).st ∧ (isAnswer = 1 → 4 ≤ (σ.R run.toNat).st)) → Q (.inl (some (vi 2))) false h) (k : (inb run 4 ∧ inb place 8) → (1 ≤ (σ.R run.toNat).st ∧ (isAnswer = 1 → 4 ≤ (σ.R run.toNat).st)) → ∀ z9, xr z9 → vi (if isAnswer = 1 then (σ.R run.toNat).answer.getD place.toNat 0 else (σ.R run.toNat).form.getD place.toNat 0) = vi z9 → Q (.inl (some (vi 0))) ex (h.set 143 (cJ [z9]))) : X G m_L_form (d + 8) (rc + 4) (rs + 24) ex 0 (xe m_L_form.2.2.1 [.ref 3, vi run, vi place, vi isAnswer, .ref 143]) [] h Q := by
  show X G m_L_form _ _ _ _ 0 [some (.ref 3), some (vi run), some (vi place), some (vi isAnswer), some (.ref 143), none] [] h Q
  refine x_aload (dT U_L_form 0 rfl) rfl ?_
  refine x_iconst (dT U_L_form 1 rfl) ?_
  refine x_aload_n (dT U_L_form 2 rfl) rfl ?_
  refine x_iload_n (dT U_L_form 3 rfl) rfl ?_
  refine x_iload_n (dT U_L_form 4 rfl) rfl ?_
  refine x_iload_n (dT U_L_form 5 rfl) rfl ?_
  refine x_invokevirtualH (rc' := rc) (rs' := rs) (rc2 := 0 + 4) (rs2 := 0 + 24) (As := [_, _, _]) (st := _) M_X10_form K_L_143 (dT U_L_form 6 rfl) rfl (by decide) rfl rfl w.c3 (Nat.le_of_ble_eq_true rfl) (by decide) rfl (Nat.le_of_ble_eq_true rfl) rfl (by decide) (Nat.le_of_ble_eq_true rfl) (Nat.add_comm _ _ ▸ rfl) (Nat.add_comm _ _ ▸ rfl) ?_
  refine S_X10_form w v h_run h_place h_isAnswer (fun c1 => ?_) (fun c1 c2 => ?_) (fun c1 c2 => ?_)
  · refine xRetH_thr ?_
    refine ⟨[], (⟨0, 12, 15, 19⟩ : ExceptionTableEntry), [(⟨0, 12, 19, 45⟩ : ExceptionTableEntry)], rfl, fun z hz => absurd hz List.not_mem_nil, rfl, by decide, W_L_19, 5, 2, Or.inr ⟨(dT U_L_form 10 rfl), rfl⟩, by decide, ?_⟩
    refine x_iconst (dT U_L_form 11 rfl) ?_
    refine x_ireturn (dT U_L_form 12 rfl) rfl ?_
    exact e1 c1
  · refine xRetH_thr ?_
    refine ⟨[(⟨0, 12, 15, 19⟩ : ExceptionTableEntry)], (⟨0, 12, 19, 45⟩ : ExceptionTableEntry), [], rfl, fun z hz => by
        simp only [List.mem_cons, List.not_mem_nil, or_false] at hz
        subst hz
        exact ⟨by decide, "java/lang/IndexOutOfBoundsException", by decide, by decide, W_L_19⟩, rfl, by decide, W_L_45, 5, 2, Or.inr ⟨(dT U_L_form 13 rfl), rfl⟩, by decide, ?_⟩
    refine x_iconst (dT U_L_form 14 rfl) ?_
    refine x_ireturn (dT U_L_form 15 rfl) rfl ?_
    exact e2 c1 c2
  · refine xRetH_some ?_
    refine x_i2lN (dT U_L_form 7 rfl) (fun z9 hz9 ez9 => ?_)
    refine x_lastore 0 (dT U_L_form 8 rfl) ho (Nat.le_of_ble_eq_true rfl) rfl (Nat.le_of_ble_eq_true rfl) (Nat.le_of_ble_eq_true rfl) ?_
    refine x_goto (tgt := 23) (dT U_L_form 9 rfl) (by decide) ?_
    refine x_iconst (dT U_L_form 16 rfl) ?_
    refine x_ireturn (dT U_L_form 17 rfl) rfl ?_
    exact k c1 c2 z9 hz9 ez9

set_option maxRecDepth 20000 in
set_option maxHeartbeats 1000000 in
theorem S_L_fold {G : xG} {d rc rs : Nat} {ex : Bool} {h : xH} {Q : xQ} {σ : St} {run second factor into : Int} {l0 : Int} (w : CW σ h) (v : INV σ) (h_run : xr run) (h_second : xr second) (h_factor : xr factor) (h_into : xr into) (ho : h[143]? = some (cJ [l0])) (e1 : ¬ (inb run 4 ∧ inb second 4 ∧ inb into 4) → Q (.inl (some (vi 1))) false h) (e2 : (inb run 4 ∧ inb second 4 ∧ inb into 4) → ¬ (inb factor σ.p) → Q (.inl (some (vi 2))) false h) (e3 : (inb run 4 ∧ inb second 4 ∧ inb into 4) → (inb factor σ.p) → ¬ (joinable (σ.R run.toNat) (σ.R second.toNat) 0) → Q (.inl (some (vi 3))) false h) (k : (inb run 4 ∧ inb second 4 ∧ inb into 4) → (inb factor σ.p) → (joinable (σ.R run.toNat) (σ.R second.toNat) 0) → ∀ h2, FC h h2 → CW (σ.sRun into.toNat (rBegin (σ.R into.toNat) (((σ.R run.toNat).e + factor * (σ.R second.toNat).e) % (σ.p : Int)) (((σ.R run.toNat).v + factor * (σ.R second.toNat).v) % (σ.p : Int)) (σ.R run.toNat).form)) h2 → ∀ z9, xr z9 → vi (MM σ.p (((σ.R run.toNat).e + factor * (σ.R second.toNat).e) % (σ.p : Int))) = vi z9 → Q (.inl (some (vi 0))) ex (h2.set 143 (cJ [z9]))) : X G m_L_fold (d + 8) (rc + 5) (rs + 30) ex 0 (xe m_L_fold.2.2.1 [.ref 3, vi run, vi second, vi factor, vi into, .ref 143]) [] h Q := by
  show X G m_L_fold _ _ _ _ 0 [some (.ref 3), some (vi run), some (vi second), some (vi factor), some (vi into), some (.ref 143), none] [] h Q
  refine x_aload (dT U_L_fold 0 rfl) rfl ?_
  refine x_iconst (dT U_L_fold 1 rfl) ?_
  refine x_aload_n (dT U_L_fold 2 rfl) rfl ?_
  refine x_iload_n (dT U_L_fold 3 rfl) rfl ?_
  refine x_iload_n (dT U_L_fold 4 rfl) rfl ?_
  refine x_iload_n (dT U_L_fold 5 rfl) rfl ?_
  refine x_iload (dT U_L_fold 6 rfl) rfl ?_
  refine x_invokevirtualH (rc' := rc) (rs' := rs) (rc2 := 0 + 5) (rs2 := 0 + 30) (As := [_, _, _, _]) (st := _) M_X10_fold K_L_147 (dT U_L_fold 7 rfl) rfl (by decide) rfl rfl w.c3 (Nat.le_of_ble_eq_true rfl) (by decide) rfl (Nat.le_of_ble_eq_true rfl) rfl (by decide) (Nat.le_of_ble_eq_true rfl) (Nat.add_comm _ _ ▸ rfl) (Nat.add_comm _ _ ▸ rfl) ?_
  refine S_X10_fold w v h_run h_second h_factor h_into (fun c1 => ?_) (fun c1 c2 => ?_) (fun c1 c2 c3 => ?_) (fun c1 c2 c3 h2 fc w2 => ?_)
  · refine xRetH_thr ?_
    refine ⟨[], (⟨0, 14, 17, 19⟩ : ExceptionTableEntry), [(⟨0, 14, 21, 13⟩ : ExceptionTableEntry), (⟨0, 14, 25, 45⟩ : ExceptionTableEntry)], rfl, fun z hz => absurd hz List.not_mem_nil, rfl, by decide, W_L_19, 6, 2, Or.inr ⟨(dT U_L_fold 11 rfl), rfl⟩, by decide, ?_⟩
    refine x_iconst (dT U_L_fold 12 rfl) ?_
    refine x_ireturn (dT U_L_fold 13 rfl) rfl ?_
    exact e1 c1
  · refine xRetH_thr ?_
    refine ⟨[(⟨0, 14, 17, 19⟩ : ExceptionTableEntry)], (⟨0, 14, 21, 13⟩ : ExceptionTableEntry), [(⟨0, 14, 25, 45⟩ : ExceptionTableEntry)], rfl, fun z hz => by
        simp only [List.mem_cons, List.not_mem_nil, or_false] at hz
        subst hz
        exact ⟨by decide, "java/lang/IndexOutOfBoundsException", by decide, by decide, W_L_19⟩, rfl, by decide, W_L_13, 6, 2, Or.inr ⟨(dT U_L_fold 14 rfl), rfl⟩, by decide, ?_⟩
    refine x_iconst (dT U_L_fold 15 rfl) ?_
    refine x_ireturn (dT U_L_fold 16 rfl) rfl ?_
    exact e2 c1 c2
  · refine xRetH_thr ?_
    refine ⟨[(⟨0, 14, 17, 19⟩ : ExceptionTableEntry), (⟨0, 14, 21, 13⟩ : ExceptionTableEntry)], (⟨0, 14, 25, 45⟩ : ExceptionTableEntry), [], rfl, fun z hz => by
        simp only [List.mem_cons, List.not_mem_nil, or_false] at hz
        rcases hz with rfl | rfl
        · exact ⟨by decide, "java/lang/IndexOutOfBoundsException", by decide, by decide, W_L_19⟩
        · exact ⟨by decide, "java/lang/IllegalArgumentException", by decide, by decide, W_L_13⟩, rfl, by decide, W_L_45, 6, 2, Or.inr ⟨(dT U_L_fold 17 rfl), rfl⟩, by decide, ?_⟩
    refine x_iconst (dT U_L_fold 18 rfl) ?_
    refine x_ireturn (dT U_L_fold 19 rfl) rfl ?_
    exact e3 c1 c2 c3
  · refine xRetH_some ?_
    refine x_i2lN (dT U_L_fold 8 rfl) (fun z9 hz9 ez9 => ?_)
    refine x_lastore 0 (dT U_L_fold 9 rfl) (fc.get ho (by omega)) (Nat.le_of_ble_eq_true rfl) rfl (Nat.le_of_ble_eq_true rfl) (Nat.le_of_ble_eq_true rfl) ?_
    refine x_goto (tgt := 29) (dT U_L_fold 10 rfl) (by decide) ?_
    refine x_iconst (dT U_L_fold 20 rfl) ?_
    refine x_ireturn (dT U_L_fold 21 rfl) rfl ?_
    exact k c1 c2 c3 h2 fc w2 z9 hz9 ez9

set_option maxRecDepth 20000 in
set_option maxHeartbeats 1000000 in
theorem S_L_batch {G : xG} {d rc rs : Nat} {ex : Bool} {h : xH} {Q : xQ} {σ : St} {run second factor into : Int} {l0 : Int} (w : CW σ h) (v : INV σ) (h_run : xr run) (h_second : xr second) (h_factor : xr factor) (h_into : xr into) (ho : h[143]? = some (cJ [l0])) (e1 : ¬ (inb run 4 ∧ inb second 4 ∧ inb into 4) → Q (.inl (some (vi 1))) false h) (e2 : (inb run 4 ∧ inb second 4 ∧ inb into 4) → ¬ (inb factor σ.p) → Q (.inl (some (vi 2))) false h) (e3 : (inb run 4 ∧ inb second 4 ∧ inb into 4) → (inb factor σ.p) → ¬ (joinable (σ.R run.toNat) (σ.R second.toNat) 1) → Q (.inl (some (vi 3))) false h) (k : (inb run 4 ∧ inb second 4 ∧ inb into 4) → (inb factor σ.p) → (joinable (σ.R run.toNat) (σ.R second.toNat) 1) → ∀ h2, FC h h2 → CW (σ.sRun into.toNat (rBegin (σ.R into.toNat) (σ.R run.toNat).e (((σ.R run.toNat).v + factor * (σ.R second.toNat).v) % (σ.p : Int)) (tab (fun t => ((σ.R run.toNat).form.getD t 0 + factor * (σ.R second.toNat).form.getD t 0) % (σ.p : Int)) 8))) h2 → ∀ z9, xr z9 → vi ((((σ.R run.toNat).v + factor * (σ.R second.toNat).v) % (σ.p : Int))) = vi z9 → Q (.inl (some (vi 0))) ex (h2.set 143 (cJ [z9]))) : X G m_L_batch (d + 8) (rc + 5) (rs + 30) ex 0 (xe m_L_batch.2.2.1 [.ref 3, vi run, vi second, vi factor, vi into, .ref 143]) [] h Q := by
  show X G m_L_batch _ _ _ _ 0 [some (.ref 3), some (vi run), some (vi second), some (vi factor), some (vi into), some (.ref 143), none] [] h Q
  refine x_aload (dT U_L_batch 0 rfl) rfl ?_
  refine x_iconst (dT U_L_batch 1 rfl) ?_
  refine x_aload_n (dT U_L_batch 2 rfl) rfl ?_
  refine x_iload_n (dT U_L_batch 3 rfl) rfl ?_
  refine x_iload_n (dT U_L_batch 4 rfl) rfl ?_
  refine x_iload_n (dT U_L_batch 5 rfl) rfl ?_
  refine x_iload (dT U_L_batch 6 rfl) rfl ?_
  refine x_invokevirtualH (rc' := rc) (rs' := rs) (rc2 := 0 + 5) (rs2 := 0 + 30) (As := [_, _, _, _]) (st := _) M_X10_batch K_L_150 (dT U_L_batch 7 rfl) rfl (by decide) rfl rfl w.c3 (Nat.le_of_ble_eq_true rfl) (by decide) rfl (Nat.le_of_ble_eq_true rfl) rfl (by decide) (Nat.le_of_ble_eq_true rfl) (Nat.add_comm _ _ ▸ rfl) (Nat.add_comm _ _ ▸ rfl) ?_
  refine S_X10_batch w v h_run h_second h_factor h_into (fun c1 => ?_) (fun c1 c2 => ?_) (fun c1 c2 c3 => ?_) (fun c1 c2 c3 h2 fc w2 => ?_)
  · refine xRetH_thr ?_
    refine ⟨[], (⟨0, 14, 17, 19⟩ : ExceptionTableEntry), [(⟨0, 14, 21, 13⟩ : ExceptionTableEntry), (⟨0, 14, 25, 45⟩ : ExceptionTableEntry)], rfl, fun z hz => absurd hz List.not_mem_nil, rfl, by decide, W_L_19, 6, 2, Or.inr ⟨(dT U_L_batch 11 rfl), rfl⟩, by decide, ?_⟩
    refine x_iconst (dT U_L_batch 12 rfl) ?_
    refine x_ireturn (dT U_L_batch 13 rfl) rfl ?_
    exact e1 c1
  · refine xRetH_thr ?_
    refine ⟨[(⟨0, 14, 17, 19⟩ : ExceptionTableEntry)], (⟨0, 14, 21, 13⟩ : ExceptionTableEntry), [(⟨0, 14, 25, 45⟩ : ExceptionTableEntry)], rfl, fun z hz => by
        simp only [List.mem_cons, List.not_mem_nil, or_false] at hz
        subst hz
        exact ⟨by decide, "java/lang/IndexOutOfBoundsException", by decide, by decide, W_L_19⟩, rfl, by decide, W_L_13, 6, 2, Or.inr ⟨(dT U_L_batch 14 rfl), rfl⟩, by decide, ?_⟩
    refine x_iconst (dT U_L_batch 15 rfl) ?_
    refine x_ireturn (dT U_L_batch 16 rfl) rfl ?_
    exact e2 c1 c2
  · refine xRetH_thr ?_
    refine ⟨[(⟨0, 14, 17, 19⟩ : ExceptionTableEntry), (⟨0, 14, 21, 13⟩ : ExceptionTableEntry)], (⟨0, 14, 25, 45⟩ : ExceptionTableEntry), [], rfl, fun z hz => by
        simp only [List.mem_cons, List.not_mem_nil, or_false] at hz
        rcases hz with rfl | rfl
        · exact ⟨by decide, "java/lang/IndexOutOfBoundsException", by decide, by decide, W_L_19⟩
        · exact ⟨by decide, "java/lang/IllegalArgumentException", by decide, by decide, W_L_13⟩, rfl, by decide, W_L_45, 6, 2, Or.inr ⟨(dT U_L_batch 17 rfl), rfl⟩, by decide, ?_⟩
    refine x_iconst (dT U_L_batch 18 rfl) ?_
    refine x_ireturn (dT U_L_batch 19 rfl) rfl ?_
    exact e3 c1 c2 c3
  · refine xRetH_some ?_
    refine x_i2lN (dT U_L_batch 8 rfl) (fun z9 hz9 ez9 => ?_)
    refine x_lastore 0 (dT U_L_batch 9 rfl) (fc.get ho (by omega)) (Nat.le_of_ble_eq_true rfl) rfl (Nat.le_of_ble_eq_true rfl) (Nat.le_of_ble_eq_true rfl) ?_
    refine x_goto (tgt := 29) (dT U_L_batch 10 rfl) (by decide) ?_
    refine x_iconst (dT U_L_batch 20 rfl) ?_
    refine x_ireturn (dT U_L_batch 21 rfl) rfl ?_
    exact k c1 c2 c3 h2 fc w2 z9 hz9 ez9

set_option maxRecDepth 20000 in
set_option maxHeartbeats 1000000 in
theorem S_L_factors {G : xG} {d rc rs : Nat} {ex : Bool} {h : xH} {Q : xQ} {σ : St} {run second secret isBatch secret2 : Int} {l0 : Int} (w : CW σ h) (v : INV σ) (h_run : xr run) (h_second : xr second) (h_secret : xr secret) (h_secret2 : xr secret2) (h_isBatch : isBatch = 0 ∨ isBatch = 1) (ho : h[143]? = some (cJ [l0])) (e1 : ¬ (inb run 4 ∧ inb second 4 ∧ inb secret 8 ∧ inb secret2 8) → Q (.inl (some (vi 1))) false h) (e2 : (inb run 4 ∧ inb second 4 ∧ inb secret 8 ∧ inb secret2 8) → ¬ (joinable (σ.R run.toNat) (σ.R second.toNat) isBatch) → Q (.inl (some (vi 2))) false h) (k : (inb run 4 ∧ inb second 4 ∧ inb secret 8 ∧ inb secret2 8) → (joinable (σ.R run.toNat) (σ.R second.toNat) isBatch) → ∀ z9, xr z9 → vi ((ct (fun x : Nat => (((inn (σ.R run.toNat).form (σ.rw secret.toNat) % (σ.p : Int) - (σ.R run.toNat).v) % (σ.p : Int)) + (x : Int) * ((inn (σ.R second.toNat).form (if isBatch = 1 then σ.rw secret.toNat else σ.rw secret2.toNat) % (σ.p : Int) - (σ.R second.toNat).v) % (σ.p : Int))) % (σ.p : Int) = 0) σ.p : Int)) = vi z9 → Q (.inl (some (vi 0))) ex (h.set 143 (cJ [z9]))) : X G m_L_factors (d + 8) (rc + 5) (rs + 30) ex 0 (xe m_L_factors.2.2.1 [.ref 3, vi run, vi second, vi secret, vi isBatch, vi secret2, .ref 143]) [] h Q := by
  show X G m_L_factors _ _ _ _ 0 [some (.ref 3), some (vi run), some (vi second), some (vi secret), some (vi isBatch), some (vi secret2), some (.ref 143), none] [] h Q
  refine x_aload (dT U_L_factors 0 rfl) rfl ?_
  refine x_iconst (dT U_L_factors 1 rfl) ?_
  refine x_aload_n (dT U_L_factors 2 rfl) rfl ?_
  refine x_iload_n (dT U_L_factors 3 rfl) rfl ?_
  refine x_iload_n (dT U_L_factors 4 rfl) rfl ?_
  refine x_iload_n (dT U_L_factors 5 rfl) rfl ?_
  refine x_iload (dT U_L_factors 6 rfl) rfl ?_
  refine x_iload (dT U_L_factors 7 rfl) rfl ?_
  refine x_invokevirtualH (rc' := rc) (rs' := rs) (rc2 := 0 + 5) (rs2 := 0 + 30) (As := [_, _, _, _, _]) (st := _) M_X10_factors K_L_153 (dT U_L_factors 8 rfl) rfl (by decide) rfl rfl w.c3 (Nat.le_of_ble_eq_true rfl) (by decide) rfl (Nat.le_of_ble_eq_true rfl) rfl (by decide) (Nat.le_of_ble_eq_true rfl) (Nat.add_comm _ _ ▸ rfl) (Nat.add_comm _ _ ▸ rfl) ?_
  refine S_X10_factors w v h_run h_second h_secret h_secret2 h_isBatch (fun c1 => ?_) (fun c1 c2 => ?_) (fun c1 c2 => ?_)
  · refine xRetH_thr ?_
    refine ⟨[], (⟨0, 16, 19, 19⟩ : ExceptionTableEntry), [(⟨0, 16, 23, 45⟩ : ExceptionTableEntry)], rfl, fun z hz => absurd hz List.not_mem_nil, rfl, by decide, W_L_19, 7, 2, Or.inr ⟨(dT U_L_factors 12 rfl), rfl⟩, by decide, ?_⟩
    refine x_iconst (dT U_L_factors 13 rfl) ?_
    refine x_ireturn (dT U_L_factors 14 rfl) rfl ?_
    exact e1 c1
  · refine xRetH_thr ?_
    refine ⟨[(⟨0, 16, 19, 19⟩ : ExceptionTableEntry)], (⟨0, 16, 23, 45⟩ : ExceptionTableEntry), [], rfl, fun z hz => by
        simp only [List.mem_cons, List.not_mem_nil, or_false] at hz
        subst hz
        exact ⟨by decide, "java/lang/IndexOutOfBoundsException", by decide, by decide, W_L_19⟩, rfl, by decide, W_L_45, 7, 2, Or.inr ⟨(dT U_L_factors 15 rfl), rfl⟩, by decide, ?_⟩
    refine x_iconst (dT U_L_factors 16 rfl) ?_
    refine x_ireturn (dT U_L_factors 17 rfl) rfl ?_
    exact e2 c1 c2
  · refine xRetH_some ?_
    refine x_i2lN (dT U_L_factors 9 rfl) (fun z9 hz9 ez9 => ?_)
    refine x_lastore 0 (dT U_L_factors 10 rfl) ho (Nat.le_of_ble_eq_true rfl) rfl (Nat.le_of_ble_eq_true rfl) (Nat.le_of_ble_eq_true rfl) ?_
    refine x_goto (tgt := 27) (dT U_L_factors 11 rfl) (by decide) ?_
    refine x_iconst (dT U_L_factors 18 rfl) ?_
    refine x_ireturn (dT U_L_factors 19 rfl) rfl ?_
    exact k c1 c2 z9 hz9 ez9

set_option maxRecDepth 20000 in
set_option maxHeartbeats 1000000 in
theorem S_L_chooseBit {G : xG} {d rc rs : Nat} {ex : Bool} {h : xH} {Q : xQ} {σ : St} {pair bit blind : Int} {l0 : Int} (w : CW σ h) (v : INV σ) (h_pair : xr pair) (h_bit : xr bit) (h_blind : xr blind) (ho : h[143]? = some (cJ [l0])) (e1 : ¬ (inb pair 2) → Q (.inl (some (vi 1))) false h) (e2 : (inb pair 2) → ¬ (inb bit 2 ∧ inb blind σ.p) → Q (.inl (some (vi 2))) false h) (k : (inb pair 2) → (inb bit 2 ∧ inb blind σ.p) → ∀ h2, FC h h2 → CW (σ.sPair pair.toNat (pBegin σ.p (σ.P pair.toNat) bit blind)) h2 → ∀ z9, xr z9 → vi (MM σ.p (cm1 σ.p bit blind)) = vi z9 → Q (.inl (some (vi 0))) ex (h2.set 143 (cJ [z9]))) : X G m_L_chooseBit (d + 8) (rc + 3) (rs + 18) ex 0 (xe m_L_chooseBit.2.2.1 [.ref 3, vi pair, vi bit, vi blind, .ref 143]) [] h Q := by
  show X G m_L_chooseBit _ _ _ _ 0 [some (.ref 3), some (vi pair), some (vi bit), some (vi blind), some (.ref 143), none] [] h Q
  refine x_aload (dT U_L_chooseBit 0 rfl) rfl ?_
  refine x_iconst (dT U_L_chooseBit 1 rfl) ?_
  refine x_aload_n (dT U_L_chooseBit 2 rfl) rfl ?_
  refine x_iload_n (dT U_L_chooseBit 3 rfl) rfl ?_
  refine x_iload_n (dT U_L_chooseBit 4 rfl) rfl ?_
  refine x_iload_n (dT U_L_chooseBit 5 rfl) rfl ?_
  refine x_invokevirtualH (rc' := rc) (rs' := rs) (rc2 := 0 + 3) (rs2 := 0 + 18) (As := [_, _, _]) (st := _) M_X10_chooseBit K_L_157 (dT U_L_chooseBit 6 rfl) rfl (by decide) rfl rfl w.c3 (Nat.le_of_ble_eq_true rfl) (by decide) rfl (Nat.le_of_ble_eq_true rfl) rfl (by decide) (Nat.le_of_ble_eq_true rfl) (Nat.add_comm _ _ ▸ rfl) (Nat.add_comm _ _ ▸ rfl) ?_
  refine S_X10_chooseBit w v h_pair h_bit h_blind (fun c1 => ?_) (fun c1 c2 => ?_) (fun c1 c2 h2 fc w2 => ?_)
  · refine xRetH_thr ?_
    refine ⟨[], (⟨0, 12, 15, 19⟩ : ExceptionTableEntry), [(⟨0, 12, 19, 13⟩ : ExceptionTableEntry)], rfl, fun z hz => absurd hz List.not_mem_nil, rfl, by decide, W_L_19, 5, 2, Or.inr ⟨(dT U_L_chooseBit 10 rfl), rfl⟩, by decide, ?_⟩
    refine x_iconst (dT U_L_chooseBit 11 rfl) ?_
    refine x_ireturn (dT U_L_chooseBit 12 rfl) rfl ?_
    exact e1 c1
  · refine xRetH_thr ?_
    refine ⟨[(⟨0, 12, 15, 19⟩ : ExceptionTableEntry)], (⟨0, 12, 19, 13⟩ : ExceptionTableEntry), [], rfl, fun z hz => by
        simp only [List.mem_cons, List.not_mem_nil, or_false] at hz
        subst hz
        exact ⟨by decide, "java/lang/IndexOutOfBoundsException", by decide, by decide, W_L_19⟩, rfl, by decide, W_L_13, 5, 2, Or.inr ⟨(dT U_L_chooseBit 13 rfl), rfl⟩, by decide, ?_⟩
    refine x_iconst (dT U_L_chooseBit 14 rfl) ?_
    refine x_ireturn (dT U_L_chooseBit 15 rfl) rfl ?_
    exact e2 c1 c2
  · refine xRetH_some ?_
    refine x_i2lN (dT U_L_chooseBit 7 rfl) (fun z9 hz9 ez9 => ?_)
    refine x_lastore 0 (dT U_L_chooseBit 8 rfl) (fc.get ho (by omega)) (Nat.le_of_ble_eq_true rfl) rfl (Nat.le_of_ble_eq_true rfl) (Nat.le_of_ble_eq_true rfl) ?_
    refine x_goto (tgt := 23) (dT U_L_chooseBit 9 rfl) (by decide) ?_
    refine x_iconst (dT U_L_chooseBit 16 rfl) ?_
    refine x_ireturn (dT U_L_chooseBit 17 rfl) rfl ?_
    exact k c1 c2 h2 fc w2 z9 hz9 ez9

set_option maxRecDepth 20000 in
set_option maxHeartbeats 1000000 in
theorem S_L_hideBit {G : xG} {d rc rs : Nat} {ex : Bool} {h : xH} {Q : xQ} {σ : St} {pair mask c t : Int} {l0 : Int} (w : CW σ h) (v : INV σ) (h_pair : xr pair) (h_mask : xr mask) (h_c : xr c) (h_t : xr t) (ho : h[143]? = some (cJ [l0])) (e1 : ¬ (inb pair 2) → Q (.inl (some (vi 1))) false h) (e2 : (inb pair 2) → ¬ (inb mask σ.p ∧ inb c σ.p ∧ inb t σ.p) → Q (.inl (some (vi 2))) false h) (e3 : (inb pair 2) → (inb mask σ.p ∧ inb c σ.p ∧ inb t σ.p) → ¬ ((σ.P pair.toNat).st = 1) → Q (.inl (some (vi 3))) false h) (k : (inb pair 2) → (inb mask σ.p ∧ inb c σ.p ∧ inb t σ.p) → ((σ.P pair.toNat).st = 1) → ∀ h2, FC h h2 → CW (σ.sPair pair.toNat (pHide σ.p (σ.P pair.toNat) mask c t)) h2 → ∀ z9, xr z9 → vi (191 * MM σ.p (pHide σ.p (σ.P pair.toNat) mask c t).f0 + MM σ.p (pHide σ.p (σ.P pair.toNat) mask c t).f1) = vi z9 → Q (.inl (some (vi 0))) ex (h2.set 143 (cJ [z9]))) : X G m_L_hideBit (d + 8) (rc + 5) (rs + 30) ex 0 (xe m_L_hideBit.2.2.1 [.ref 3, vi pair, vi mask, vi c, vi t, .ref 143]) [] h Q := by
  show X G m_L_hideBit _ _ _ _ 0 [some (.ref 3), some (vi pair), some (vi mask), some (vi c), some (vi t), some (.ref 143), none] [] h Q
  refine x_aload (dT U_L_hideBit 0 rfl) rfl ?_
  refine x_iconst (dT U_L_hideBit 1 rfl) ?_
  refine x_aload_n (dT U_L_hideBit 2 rfl) rfl ?_
  refine x_iload_n (dT U_L_hideBit 3 rfl) rfl ?_
  refine x_iload_n (dT U_L_hideBit 4 rfl) rfl ?_
  refine x_iload_n (dT U_L_hideBit 5 rfl) rfl ?_
  refine x_iload (dT U_L_hideBit 6 rfl) rfl ?_
  refine x_invokevirtualH (rc' := rc) (rs' := rs) (rc2 := 0 + 5) (rs2 := 0 + 30) (As := [_, _, _, _]) (st := _) M_X10_hideBit K_L_160 (dT U_L_hideBit 7 rfl) rfl (by decide) rfl rfl w.c3 (Nat.le_of_ble_eq_true rfl) (by decide) rfl (Nat.le_of_ble_eq_true rfl) rfl (by decide) (Nat.le_of_ble_eq_true rfl) (Nat.add_comm _ _ ▸ rfl) (Nat.add_comm _ _ ▸ rfl) ?_
  refine S_X10_hideBit w v h_pair h_mask h_c h_t (fun c1 => ?_) (fun c1 c2 => ?_) (fun c1 c2 c3 => ?_) (fun c1 c2 c3 h2 fc w2 => ?_)
  · refine xRetH_thr ?_
    refine ⟨[], (⟨0, 14, 17, 19⟩ : ExceptionTableEntry), [(⟨0, 14, 21, 13⟩ : ExceptionTableEntry), (⟨0, 14, 25, 45⟩ : ExceptionTableEntry)], rfl, fun z hz => absurd hz List.not_mem_nil, rfl, by decide, W_L_19, 6, 2, Or.inr ⟨(dT U_L_hideBit 11 rfl), rfl⟩, by decide, ?_⟩
    refine x_iconst (dT U_L_hideBit 12 rfl) ?_
    refine x_ireturn (dT U_L_hideBit 13 rfl) rfl ?_
    exact e1 c1
  · refine xRetH_thr ?_
    refine ⟨[(⟨0, 14, 17, 19⟩ : ExceptionTableEntry)], (⟨0, 14, 21, 13⟩ : ExceptionTableEntry), [(⟨0, 14, 25, 45⟩ : ExceptionTableEntry)], rfl, fun z hz => by
        simp only [List.mem_cons, List.not_mem_nil, or_false] at hz
        subst hz
        exact ⟨by decide, "java/lang/IndexOutOfBoundsException", by decide, by decide, W_L_19⟩, rfl, by decide, W_L_13, 6, 2, Or.inr ⟨(dT U_L_hideBit 14 rfl), rfl⟩, by decide, ?_⟩
    refine x_iconst (dT U_L_hideBit 15 rfl) ?_
    refine x_ireturn (dT U_L_hideBit 16 rfl) rfl ?_
    exact e2 c1 c2
  · refine xRetH_thr ?_
    refine ⟨[(⟨0, 14, 17, 19⟩ : ExceptionTableEntry), (⟨0, 14, 21, 13⟩ : ExceptionTableEntry)], (⟨0, 14, 25, 45⟩ : ExceptionTableEntry), [], rfl, fun z hz => by
        simp only [List.mem_cons, List.not_mem_nil, or_false] at hz
        rcases hz with rfl | rfl
        · exact ⟨by decide, "java/lang/IndexOutOfBoundsException", by decide, by decide, W_L_19⟩
        · exact ⟨by decide, "java/lang/IllegalArgumentException", by decide, by decide, W_L_13⟩, rfl, by decide, W_L_45, 6, 2, Or.inr ⟨(dT U_L_hideBit 17 rfl), rfl⟩, by decide, ?_⟩
    refine x_iconst (dT U_L_hideBit 18 rfl) ?_
    refine x_ireturn (dT U_L_hideBit 19 rfl) rfl ?_
    exact e3 c1 c2 c3
  · refine xRetH_some ?_
    refine x_i2lN (dT U_L_hideBit 8 rfl) (fun z9 hz9 ez9 => ?_)
    refine x_lastore 0 (dT U_L_hideBit 9 rfl) (fc.get ho (by omega)) (Nat.le_of_ble_eq_true rfl) rfl (Nat.le_of_ble_eq_true rfl) (Nat.le_of_ble_eq_true rfl) ?_
    refine x_goto (tgt := 29) (dT U_L_hideBit 10 rfl) (by decide) ?_
    refine x_iconst (dT U_L_hideBit 20 rfl) ?_
    refine x_ireturn (dT U_L_hideBit 21 rfl) rfl ?_
    exact k c1 c2 c3 h2 fc w2 z9 hz9 ez9

set_option maxRecDepth 20000 in
set_option maxHeartbeats 1000000 in
theorem S_L_dareBit {G : xG} {d rc rs : Nat} {ex : Bool} {h : xH} {Q : xQ} {σ : St} {pair c : Int} {l0 : Int} (w : CW σ h) (v : INV σ) (h_pair : xr pair) (h_c : xr c) (ho : h[143]? = some (cJ [l0])) (e1 : ¬ (inb pair 2) → Q (.inl (some (vi 1))) false h) (e2 : (inb pair 2) → ¬ (inb c σ.p) → Q (.inl (some (vi 2))) false h) (e3 : (inb pair 2) → (inb c σ.p) → ¬ ((σ.P pair.toNat).st = 2) → Q (.inl (some (vi 3))) false h) (k : (inb pair 2) → (inb c σ.p) → ((σ.P pair.toNat).st = 2) → ∀ h2, FC h h2 → CW (σ.sPair pair.toNat (pDare σ.p (σ.P pair.toNat) c)) h2 → ∀ z9, xr z9 → vi (if (σ.P pair.toNat).b = 0 then (pDare σ.p (σ.P pair.toNat) c).t0 else (pDare σ.p (σ.P pair.toNat) c).t1) = vi z9 → Q (.inl (some (vi 0))) ex (h2.set 143 (cJ [z9]))) : X G m_L_dareBit (d + 8) (rc + 3) (rs + 18) ex 0 (xe m_L_dareBit.2.2.1 [.ref 3, vi pair, vi c, .ref 143]) [] h Q := by
  show X G m_L_dareBit _ _ _ _ 0 [some (.ref 3), some (vi pair), some (vi c), some (.ref 143), none] [] h Q
  refine x_aload_n (dT U_L_dareBit 0 rfl) rfl ?_
  refine x_iconst (dT U_L_dareBit 1 rfl) ?_
  refine x_aload_n (dT U_L_dareBit 2 rfl) rfl ?_
  refine x_iload_n (dT U_L_dareBit 3 rfl) rfl ?_
  refine x_iload_n (dT U_L_dareBit 4 rfl) rfl ?_
  refine x_invokevirtualH (rc' := rc) (rs' := rs) (rc2 := 0 + 3) (rs2 := 0 + 18) (As := [_, _]) (st := _) M_X10_dareBit K_L_163 (dT U_L_dareBit 5 rfl) rfl (by decide) rfl rfl w.c3 (Nat.le_of_ble_eq_true rfl) (by decide) rfl (Nat.le_of_ble_eq_true rfl) rfl (by decide) (Nat.le_of_ble_eq_true rfl) (Nat.add_comm _ _ ▸ rfl) (Nat.add_comm _ _ ▸ rfl) ?_
  refine S_X10_dareBit w v h_pair h_c (fun c1 => ?_) (fun c1 c2 => ?_) (fun c1 c2 c3 => ?_) (fun c1 c2 c3 h2 fc w2 => ?_)
  · refine xRetH_thr ?_
    refine ⟨[], (⟨0, 10, 13, 19⟩ : ExceptionTableEntry), [(⟨0, 10, 17, 13⟩ : ExceptionTableEntry), (⟨0, 10, 21, 45⟩ : ExceptionTableEntry)], rfl, fun z hz => absurd hz List.not_mem_nil, rfl, by decide, W_L_19, 4, 2, Or.inr ⟨(dT U_L_dareBit 9 rfl), rfl⟩, by decide, ?_⟩
    refine x_iconst (dT U_L_dareBit 10 rfl) ?_
    refine x_ireturn (dT U_L_dareBit 11 rfl) rfl ?_
    exact e1 c1
  · refine xRetH_thr ?_
    refine ⟨[(⟨0, 10, 13, 19⟩ : ExceptionTableEntry)], (⟨0, 10, 17, 13⟩ : ExceptionTableEntry), [(⟨0, 10, 21, 45⟩ : ExceptionTableEntry)], rfl, fun z hz => by
        simp only [List.mem_cons, List.not_mem_nil, or_false] at hz
        subst hz
        exact ⟨by decide, "java/lang/IndexOutOfBoundsException", by decide, by decide, W_L_19⟩, rfl, by decide, W_L_13, 4, 2, Or.inr ⟨(dT U_L_dareBit 12 rfl), rfl⟩, by decide, ?_⟩
    refine x_iconst (dT U_L_dareBit 13 rfl) ?_
    refine x_ireturn (dT U_L_dareBit 14 rfl) rfl ?_
    exact e2 c1 c2
  · refine xRetH_thr ?_
    refine ⟨[(⟨0, 10, 13, 19⟩ : ExceptionTableEntry), (⟨0, 10, 17, 13⟩ : ExceptionTableEntry)], (⟨0, 10, 21, 45⟩ : ExceptionTableEntry), [], rfl, fun z hz => by
        simp only [List.mem_cons, List.not_mem_nil, or_false] at hz
        rcases hz with rfl | rfl
        · exact ⟨by decide, "java/lang/IndexOutOfBoundsException", by decide, by decide, W_L_19⟩
        · exact ⟨by decide, "java/lang/IllegalArgumentException", by decide, by decide, W_L_13⟩, rfl, by decide, W_L_45, 4, 2, Or.inr ⟨(dT U_L_dareBit 15 rfl), rfl⟩, by decide, ?_⟩
    refine x_iconst (dT U_L_dareBit 16 rfl) ?_
    refine x_ireturn (dT U_L_dareBit 17 rfl) rfl ?_
    exact e3 c1 c2 c3
  · refine xRetH_some ?_
    refine x_i2lN (dT U_L_dareBit 6 rfl) (fun z9 hz9 ez9 => ?_)
    refine x_lastore 0 (dT U_L_dareBit 7 rfl) (fc.get ho (by omega)) (Nat.le_of_ble_eq_true rfl) rfl (Nat.le_of_ble_eq_true rfl) (Nat.le_of_ble_eq_true rfl) ?_
    refine x_goto (tgt := 25) (dT U_L_dareBit 8 rfl) (by decide) ?_
    refine x_iconst (dT U_L_dareBit 18 rfl) ?_
    refine x_ireturn (dT U_L_dareBit 19 rfl) rfl ?_
    exact k c1 c2 c3 h2 fc w2 z9 hz9 ez9

set_option maxRecDepth 20000 in
set_option maxHeartbeats 1000000 in
theorem S_L_isBitAccepted {G : xG} {d rc rs : Nat} {ex : Bool} {h : xH} {Q : xQ} {σ : St} {pair : Int} {l0 : Int} (w : CW σ h) (v : INV σ) (h_pair : xr pair) (ho : h[143]? = some (cJ [l0])) (e1 : ¬ (inb pair 2) → Q (.inl (some (vi 1))) false h) (k1 : (inb pair 2) → (σ.P pair.toNat).st = 3 → Q (.inl (some (vi 0))) ex (h.set 143 (cJ [1]))) (k0 : (inb pair 2) → ¬ ((σ.P pair.toNat).st = 3) → Q (.inl (some (vi 0))) ex (h.set 143 (cJ [0]))) : X G m_L_isBitAccepted (d + 8) (rc + 1) (rs + 6) ex 0 (xe m_L_isBitAccepted.2.2.1 [.ref 3, vi pair, .ref 143]) [] h Q := by
  show X G m_L_isBitAccepted _ _ _ _ 0 [some (.ref 3), some (vi pair), some (.ref 143), none] [] h Q
  refine x_aload_n (dT U_L_isBitAccepted 0 rfl) rfl ?_
  refine x_iconst (dT U_L_isBitAccepted 1 rfl) ?_
  refine x_aload_n (dT U_L_isBitAccepted 2 rfl) rfl ?_
  refine x_iload_n (dT U_L_isBitAccepted 3 rfl) rfl ?_
  refine x_invokevirtualH (rc' := rc) (rs' := rs) (rc2 := 0 + 1) (rs2 := 0 + 6) (As := [_]) (st := _) M_X10_isBitAccepted K_L_166 (dT U_L_isBitAccepted 4 rfl) rfl (by decide) rfl rfl w.c3 (Nat.le_of_ble_eq_true rfl) (by decide) rfl (Nat.le_of_ble_eq_true rfl) rfl (by decide) (Nat.le_of_ble_eq_true rfl) (Nat.add_comm _ _ ▸ rfl) (Nat.add_comm _ _ ▸ rfl) ?_
  refine S_X10_isBitAccepted w v h_pair (fun c1 => ?_) (fun c1 c2 => ?_) (fun c1 c2 => ?_)
  · refine xRetH_thr ?_
    refine ⟨[], (⟨0, 16, 19, 19⟩ : ExceptionTableEntry), [], rfl, fun z hz => absurd hz List.not_mem_nil, rfl, by decide, W_L_19, 3, 1, Or.inl ⟨3, (dT U_L_isBitAccepted 11 rfl), rfl, rfl⟩, by decide, ?_⟩
    refine x_iconst (dT U_L_isBitAccepted 12 rfl) ?_
    refine x_ireturn (dT U_L_isBitAccepted 13 rfl) rfl ?_
    exact e1 c1
  · refine xRetH_some ?_
    refine x_if_eqn (tgt := 14) (dT U_L_isBitAccepted 5 rfl) (by decide) (by decide) ?_
    refine x_lconst (z := 1) (dT U_L_isBitAccepted 6 rfl) rfl ?_
    refine x_goto (tgt := 15) (dT U_L_isBitAccepted 7 rfl) (by decide) ?_
    refine x_lastore 0 (dT U_L_isBitAccepted 9 rfl) ho (Nat.le_of_ble_eq_true rfl) rfl (Nat.le_of_ble_eq_true rfl) (Nat.le_of_ble_eq_true rfl) ?_
    refine x_goto (tgt := 22) (dT U_L_isBitAccepted 10 rfl) (by decide) ?_
    refine x_iconst (dT U_L_isBitAccepted 14 rfl) ?_
    refine x_ireturn (dT U_L_isBitAccepted 15 rfl) rfl ?_
    exact k1 c1 c2
  · refine xRetH_some ?_
    refine x_if_eqj (tgt := 14) (dT U_L_isBitAccepted 5 rfl) (by decide) (by decide) ?_
    refine x_lconst (z := 0) (dT U_L_isBitAccepted 8 rfl) rfl ?_
    refine x_lastore 0 (dT U_L_isBitAccepted 9 rfl) ho (Nat.le_of_ble_eq_true rfl) rfl (Nat.le_of_ble_eq_true rfl) (Nat.le_of_ble_eq_true rfl) ?_
    refine x_goto (tgt := 22) (dT U_L_isBitAccepted 10 rfl) (by decide) ?_
    refine x_iconst (dT U_L_isBitAccepted 14 rfl) ?_
    refine x_ireturn (dT U_L_isBitAccepted 15 rfl) rfl ?_
    exact k0 c1 c2

set_option maxRecDepth 20000 in
set_option maxHeartbeats 1000000 in
theorem S_L_bitTold {G : xG} {d rc rs : Nat} {ex : Bool} {h : xH} {Q : xQ} {σ : St} {pair side what : Int} {l0 : Int} (w : CW σ h) (v : INV σ) (h_pair : xr pair) (h_side : xr side) (h_what : xr what) (ho : h[143]? = some (cJ [l0])) (e1 : ¬ (inb pair 2) → Q (.inl (some (vi 1))) false h) (e2 : (inb pair 2) → ¬ (inb side 2 ∧ inb what 3) → Q (.inl (some (vi 2))) false h) (e3 : (inb pair 2) → (inb side 2 ∧ inb what 3) → ¬ ((σ.P pair.toNat).st = 3) → Q (.inl (some (vi 3))) false h) (k : (inb pair 2) → (inb side 2 ∧ inb what 3) → ((σ.P pair.toNat).st = 3) → ∀ z9, xr z9 → vi (if what = 0 then MM σ.p (if side = 0 then (σ.P pair.toNat).f0 else (σ.P pair.toNat).f1) else if what = 1 then (if side = 0 then (σ.P pair.toNat).c0 else (σ.P pair.toNat).c1) else (if side = 0 then (σ.P pair.toNat).t0 else (σ.P pair.toNat).t1)) = vi z9 → Q (.inl (some (vi 0))) ex (h.set 143 (cJ [z9]))) : X G m_L_bitTold (d + 8) (rc + 4) (rs + 24) ex 0 (xe m_L_bitTold.2.2.1 [.ref 3, vi pair, vi side, vi what, .ref 143]) [] h Q := by
  show X G m_L_bitTold _ _ _ _ 0 [some (.ref 3), some (vi pair), some (vi side), some (vi what), some (.ref 143), none] [] h Q
  refine x_aload (dT U_L_bitTold 0 rfl) rfl ?_
  refine x_iconst (dT U_L_bitTold 1 rfl) ?_
  refine x_aload_n (dT U_L_bitTold 2 rfl) rfl ?_
  refine x_iload_n (dT U_L_bitTold 3 rfl) rfl ?_
  refine x_iload_n (dT U_L_bitTold 4 rfl) rfl ?_
  refine x_iload_n (dT U_L_bitTold 5 rfl) rfl ?_
  refine x_invokevirtualH (rc' := rc) (rs' := rs) (rc2 := 0 + 4) (rs2 := 0 + 24) (As := [_, _, _]) (st := _) M_X10_bitTold K_L_169 (dT U_L_bitTold 6 rfl) rfl (by decide) rfl rfl w.c3 (Nat.le_of_ble_eq_true rfl) (by decide) rfl (Nat.le_of_ble_eq_true rfl) rfl (by decide) (Nat.le_of_ble_eq_true rfl) (Nat.add_comm _ _ ▸ rfl) (Nat.add_comm _ _ ▸ rfl) ?_
  refine S_X10_bitTold w v h_pair h_side h_what (fun c1 => ?_) (fun c1 c2 => ?_) (fun c1 c2 c3 => ?_) (fun c1 c2 c3 => ?_)
  · refine xRetH_thr ?_
    refine ⟨[], (⟨0, 12, 15, 19⟩ : ExceptionTableEntry), [(⟨0, 12, 19, 13⟩ : ExceptionTableEntry), (⟨0, 12, 23, 45⟩ : ExceptionTableEntry)], rfl, fun z hz => absurd hz List.not_mem_nil, rfl, by decide, W_L_19, 5, 2, Or.inr ⟨(dT U_L_bitTold 10 rfl), rfl⟩, by decide, ?_⟩
    refine x_iconst (dT U_L_bitTold 11 rfl) ?_
    refine x_ireturn (dT U_L_bitTold 12 rfl) rfl ?_
    exact e1 c1
  · refine xRetH_thr ?_
    refine ⟨[(⟨0, 12, 15, 19⟩ : ExceptionTableEntry)], (⟨0, 12, 19, 13⟩ : ExceptionTableEntry), [(⟨0, 12, 23, 45⟩ : ExceptionTableEntry)], rfl, fun z hz => by
        simp only [List.mem_cons, List.not_mem_nil, or_false] at hz
        subst hz
        exact ⟨by decide, "java/lang/IndexOutOfBoundsException", by decide, by decide, W_L_19⟩, rfl, by decide, W_L_13, 5, 2, Or.inr ⟨(dT U_L_bitTold 13 rfl), rfl⟩, by decide, ?_⟩
    refine x_iconst (dT U_L_bitTold 14 rfl) ?_
    refine x_ireturn (dT U_L_bitTold 15 rfl) rfl ?_
    exact e2 c1 c2
  · refine xRetH_thr ?_
    refine ⟨[(⟨0, 12, 15, 19⟩ : ExceptionTableEntry), (⟨0, 12, 19, 13⟩ : ExceptionTableEntry)], (⟨0, 12, 23, 45⟩ : ExceptionTableEntry), [], rfl, fun z hz => by
        simp only [List.mem_cons, List.not_mem_nil, or_false] at hz
        rcases hz with rfl | rfl
        · exact ⟨by decide, "java/lang/IndexOutOfBoundsException", by decide, by decide, W_L_19⟩
        · exact ⟨by decide, "java/lang/IllegalArgumentException", by decide, by decide, W_L_13⟩, rfl, by decide, W_L_45, 5, 2, Or.inr ⟨(dT U_L_bitTold 16 rfl), rfl⟩, by decide, ?_⟩
    refine x_iconst (dT U_L_bitTold 17 rfl) ?_
    refine x_ireturn (dT U_L_bitTold 18 rfl) rfl ?_
    exact e3 c1 c2 c3
  · refine xRetH_some ?_
    refine x_i2lN (dT U_L_bitTold 7 rfl) (fun z9 hz9 ez9 => ?_)
    refine x_lastore 0 (dT U_L_bitTold 8 rfl) ho (Nat.le_of_ble_eq_true rfl) rfl (Nat.le_of_ble_eq_true rfl) (Nat.le_of_ble_eq_true rfl) ?_
    refine x_goto (tgt := 27) (dT U_L_bitTold 9 rfl) (by decide) ?_
    refine x_iconst (dT U_L_bitTold 19 rfl) ?_
    refine x_ireturn (dT U_L_bitTold 20 rfl) rfl ?_
    exact k c1 c2 c3 z9 hz9 ez9

set_option maxRecDepth 20000 in
set_option maxHeartbeats 1000000 in
theorem S_L_bitLike {G : xG} {d rc rs : Nat} {ex : Bool} {h : xH} {Q : xQ} {σ : St} {pair bit : Int} {l0 : Int} (w : CW σ h) (v : INV σ) (h_pair : xr pair) (h_bit : xr bit) (ho : h[143]? = some (cJ [l0])) (e1 : ¬ (inb pair 2) → Q (.inl (some (vi 1))) false h) (e2 : (inb pair 2) → ¬ (inb bit 2) → Q (.inl (some (vi 2))) false h) (e3 : (inb pair 2) → (inb bit 2) → ¬ ((σ.P pair.toNat).st = 3) → Q (.inl (some (vi 3))) false h) (k : (inb pair 2) → (inb bit 2) → ((σ.P pair.toNat).st = 3) → ∀ z9, xr z9 → vi (1) = vi z9 → Q (.inl (some (vi 0))) ex (h.set 143 (cJ [z9]))) : X G m_L_bitLike (d + 8) (rc + 3) (rs + 18) ex 0 (xe m_L_bitLike.2.2.1 [.ref 3, vi pair, vi bit, .ref 143]) [] h Q := by
  show X G m_L_bitLike _ _ _ _ 0 [some (.ref 3), some (vi pair), some (vi bit), some (.ref 143), none] [] h Q
  refine x_aload_n (dT U_L_bitLike 0 rfl) rfl ?_
  refine x_iconst (dT U_L_bitLike 1 rfl) ?_
  refine x_aload_n (dT U_L_bitLike 2 rfl) rfl ?_
  refine x_iload_n (dT U_L_bitLike 3 rfl) rfl ?_
  refine x_iload_n (dT U_L_bitLike 4 rfl) rfl ?_
  refine x_invokevirtualH (rc' := rc) (rs' := rs) (rc2 := 0 + 3) (rs2 := 0 + 18) (As := [_, _]) (st := _) M_X10_bitLike K_L_172 (dT U_L_bitLike 5 rfl) rfl (by decide) rfl rfl w.c3 (Nat.le_of_ble_eq_true rfl) (by decide) rfl (Nat.le_of_ble_eq_true rfl) rfl (by decide) (Nat.le_of_ble_eq_true rfl) (Nat.add_comm _ _ ▸ rfl) (Nat.add_comm _ _ ▸ rfl) ?_
  refine S_X10_bitLike w v h_pair h_bit (fun c1 => ?_) (fun c1 c2 => ?_) (fun c1 c2 c3 => ?_) (fun c1 c2 c3 => ?_)
  · refine xRetH_thr ?_
    refine ⟨[], (⟨0, 10, 13, 19⟩ : ExceptionTableEntry), [(⟨0, 10, 17, 13⟩ : ExceptionTableEntry), (⟨0, 10, 21, 45⟩ : ExceptionTableEntry)], rfl, fun z hz => absurd hz List.not_mem_nil, rfl, by decide, W_L_19, 4, 2, Or.inr ⟨(dT U_L_bitLike 9 rfl), rfl⟩, by decide, ?_⟩
    refine x_iconst (dT U_L_bitLike 10 rfl) ?_
    refine x_ireturn (dT U_L_bitLike 11 rfl) rfl ?_
    exact e1 c1
  · refine xRetH_thr ?_
    refine ⟨[(⟨0, 10, 13, 19⟩ : ExceptionTableEntry)], (⟨0, 10, 17, 13⟩ : ExceptionTableEntry), [(⟨0, 10, 21, 45⟩ : ExceptionTableEntry)], rfl, fun z hz => by
        simp only [List.mem_cons, List.not_mem_nil, or_false] at hz
        subst hz
        exact ⟨by decide, "java/lang/IndexOutOfBoundsException", by decide, by decide, W_L_19⟩, rfl, by decide, W_L_13, 4, 2, Or.inr ⟨(dT U_L_bitLike 12 rfl), rfl⟩, by decide, ?_⟩
    refine x_iconst (dT U_L_bitLike 13 rfl) ?_
    refine x_ireturn (dT U_L_bitLike 14 rfl) rfl ?_
    exact e2 c1 c2
  · refine xRetH_thr ?_
    refine ⟨[(⟨0, 10, 13, 19⟩ : ExceptionTableEntry), (⟨0, 10, 17, 13⟩ : ExceptionTableEntry)], (⟨0, 10, 21, 45⟩ : ExceptionTableEntry), [], rfl, fun z hz => by
        simp only [List.mem_cons, List.not_mem_nil, or_false] at hz
        rcases hz with rfl | rfl
        · exact ⟨by decide, "java/lang/IndexOutOfBoundsException", by decide, by decide, W_L_19⟩
        · exact ⟨by decide, "java/lang/IllegalArgumentException", by decide, by decide, W_L_13⟩, rfl, by decide, W_L_45, 4, 2, Or.inr ⟨(dT U_L_bitLike 15 rfl), rfl⟩, by decide, ?_⟩
    refine x_iconst (dT U_L_bitLike 16 rfl) ?_
    refine x_ireturn (dT U_L_bitLike 17 rfl) rfl ?_
    exact e3 c1 c2 c3
  · refine xRetH_some ?_
    refine x_i2lN (dT U_L_bitLike 6 rfl) (fun z9 hz9 ez9 => ?_)
    refine x_lastore 0 (dT U_L_bitLike 7 rfl) ho (Nat.le_of_ble_eq_true rfl) rfl (Nat.le_of_ble_eq_true rfl) (Nat.le_of_ble_eq_true rfl) ?_
    refine x_goto (tgt := 25) (dT U_L_bitLike 8 rfl) (by decide) ?_
    refine x_iconst (dT U_L_bitLike 18 rfl) ?_
    refine x_ireturn (dT U_L_bitLike 19 rfl) rfl ?_
    exact k c1 c2 c3 z9 hz9 ez9

set_option maxRecDepth 20000 in
set_option maxHeartbeats 1000000 in
theorem S_L_gate {G : xG} {d rc rs : Nat} {ex : Bool} {h : xH} {Q : xQ} {σ : St} {kind a b c : Int} {l0 : Int} (w : CW σ h) (v : INV σ) (h_kind : xr kind) (h_a : xr a) (h_b : xr b) (h_c : xr c) (ho : h[143]? = some (cJ [l0])) (e1 : ¬ (inb a 8 ∧ (kind = 0 ∨ kind = 1 → inb b 8 ∧ inb c 8) ∧ (kind = 4 → inb b 8)) → Q (.inl (some (vi 1))) false h) (e2 : (inb a 8 ∧ (kind = 0 ∨ kind = 1 → inb b 8 ∧ inb c 8) ∧ (kind = 4 → inb b 8)) → ¬ (inb kind 5 ∧ (kind = 2 → inb b σ.p)) → Q (.inl (some (vi 2))) false h) (e3 : (inb a 8 ∧ (kind = 0 ∨ kind = 1 → inb b 8 ∧ inb c 8) ∧ (kind = 4 → inb b 8)) → (inb kind 5 ∧ (kind = 2 → inb b σ.p)) → ¬ (σ.G.n < 8) → Q (.inl (some (vi 3))) false h) (k : (inb a 8 ∧ (kind = 0 ∨ kind = 1 → inb b 8 ∧ inb c 8) ∧ (kind = 4 → inb b 8)) → (inb kind 5 ∧ (kind = 2 → inb b σ.p)) → (σ.G.n < 8) → ∀ h2, FC h h2 → CW (σ.sG (σ.G.n + 1, σ.G.k.set σ.G.n kind, σ.G.a.set σ.G.n a, σ.G.b.set σ.G.n b, σ.G.c.set σ.G.n c)) h2 → ∀ z9, xr z9 → vi ((σ.G.n : Int) + 1) = vi z9 → Q (.inl (some (vi 0))) ex (h2.set 143 (cJ [z9]))) : X G m_L_gate (d + 8) (rc + 6) (rs + 36) ex 0 (xe m_L_gate.2.2.1 [.ref 3, vi kind, vi a, vi b, vi c, .ref 143]) [] h Q := by
  show X G m_L_gate _ _ _ _ 0 [some (.ref 3), some (vi kind), some (vi a), some (vi b), some (vi c), some (.ref 143), none] [] h Q
  refine x_aload (dT U_L_gate 0 rfl) rfl ?_
  refine x_iconst (dT U_L_gate 1 rfl) ?_
  refine x_aload_n (dT U_L_gate 2 rfl) rfl ?_
  refine x_iload_n (dT U_L_gate 3 rfl) rfl ?_
  refine x_iload_n (dT U_L_gate 4 rfl) rfl ?_
  refine x_iload_n (dT U_L_gate 5 rfl) rfl ?_
  refine x_iload (dT U_L_gate 6 rfl) rfl ?_
  refine x_invokevirtualH (rc' := rc) (rs' := rs) (rc2 := 0 + 6) (rs2 := 0 + 36) (As := [_, _, _, _]) (st := _) M_X10_gate K_L_175 (dT U_L_gate 7 rfl) rfl (by decide) rfl rfl w.c3 (Nat.le_of_ble_eq_true rfl) (by decide) rfl (Nat.le_of_ble_eq_true rfl) rfl (by decide) (Nat.le_of_ble_eq_true rfl) (Nat.add_comm _ _ ▸ rfl) (Nat.add_comm _ _ ▸ rfl) ?_
  refine S_X10_gate w v h_kind h_a h_b h_c (fun c1 => ?_) (fun c1 c2 => ?_) (fun c1 c2 c3 => ?_) (fun c1 c2 c3 h2 fc w2 => ?_)
  · refine xRetH_thr ?_
    refine ⟨[], (⟨0, 14, 17, 19⟩ : ExceptionTableEntry), [(⟨0, 14, 21, 13⟩ : ExceptionTableEntry), (⟨0, 14, 25, 45⟩ : ExceptionTableEntry)], rfl, fun z hz => absurd hz List.not_mem_nil, rfl, by decide, W_L_19, 6, 2, Or.inr ⟨(dT U_L_gate 11 rfl), rfl⟩, by decide, ?_⟩
    refine x_iconst (dT U_L_gate 12 rfl) ?_
    refine x_ireturn (dT U_L_gate 13 rfl) rfl ?_
    exact e1 c1
  · refine xRetH_thr ?_
    refine ⟨[(⟨0, 14, 17, 19⟩ : ExceptionTableEntry)], (⟨0, 14, 21, 13⟩ : ExceptionTableEntry), [(⟨0, 14, 25, 45⟩ : ExceptionTableEntry)], rfl, fun z hz => by
        simp only [List.mem_cons, List.not_mem_nil, or_false] at hz
        subst hz
        exact ⟨by decide, "java/lang/IndexOutOfBoundsException", by decide, by decide, W_L_19⟩, rfl, by decide, W_L_13, 6, 2, Or.inr ⟨(dT U_L_gate 14 rfl), rfl⟩, by decide, ?_⟩
    refine x_iconst (dT U_L_gate 15 rfl) ?_
    refine x_ireturn (dT U_L_gate 16 rfl) rfl ?_
    exact e2 c1 c2
  · refine xRetH_thr ?_
    refine ⟨[(⟨0, 14, 17, 19⟩ : ExceptionTableEntry), (⟨0, 14, 21, 13⟩ : ExceptionTableEntry)], (⟨0, 14, 25, 45⟩ : ExceptionTableEntry), [], rfl, fun z hz => by
        simp only [List.mem_cons, List.not_mem_nil, or_false] at hz
        rcases hz with rfl | rfl
        · exact ⟨by decide, "java/lang/IndexOutOfBoundsException", by decide, by decide, W_L_19⟩
        · exact ⟨by decide, "java/lang/IllegalArgumentException", by decide, by decide, W_L_13⟩, rfl, by decide, W_L_45, 6, 2, Or.inr ⟨(dT U_L_gate 17 rfl), rfl⟩, by decide, ?_⟩
    refine x_iconst (dT U_L_gate 18 rfl) ?_
    refine x_ireturn (dT U_L_gate 19 rfl) rfl ?_
    exact e3 c1 c2 c3
  · refine xRetH_some ?_
    refine x_i2lN (dT U_L_gate 8 rfl) (fun z9 hz9 ez9 => ?_)
    refine x_lastore 0 (dT U_L_gate 9 rfl) (fc.get ho (by omega)) (Nat.le_of_ble_eq_true rfl) rfl (Nat.le_of_ble_eq_true rfl) (Nat.le_of_ble_eq_true rfl) ?_
    refine x_goto (tgt := 29) (dT U_L_gate 10 rfl) (by decide) ?_
    refine x_iconst (dT U_L_gate 20 rfl) ?_
    refine x_ireturn (dT U_L_gate 21 rfl) rfl ?_
    exact k c1 c2 c3 h2 fc w2 z9 hz9 ez9

set_option maxRecDepth 20000 in
set_option maxHeartbeats 1000000 in
theorem S_L_fails {G : xG} {d rc rs : Nat} {ex : Bool} {h : xH} {Q : xQ} {σ : St} {row : Int} {l0 : Int} (w : CW σ h) (v : INV σ) (h_row : xr row) (ho : h[143]? = some (cJ [l0])) (e1 : ¬ (inb row 8) → Q (.inl (some (vi 1))) false h) (k : (inb row 8) → ∀ h2, FC h h2 → CW σ h2 → ∀ z9, xr z9 → vi (ff (fun t => ¬ flt σ (σ.rw row.toNat) t = 0) 0 8) = vi z9 → Q (.inl (some (vi 0))) ex (h2.set 143 (cJ [z9]))) : X G m_L_fails (d + 8) (rc + 1) (rs + 6) ex 0 (xe m_L_fails.2.2.1 [.ref 3, vi row, .ref 143]) [] h Q := by
  show X G m_L_fails _ _ _ _ 0 [some (.ref 3), some (vi row), some (.ref 143), none] [] h Q
  refine x_aload_n (dT U_L_fails 0 rfl) rfl ?_
  refine x_iconst (dT U_L_fails 1 rfl) ?_
  refine x_aload_n (dT U_L_fails 2 rfl) rfl ?_
  refine x_iload_n (dT U_L_fails 3 rfl) rfl ?_
  refine x_invokevirtualH (rc' := rc) (rs' := rs) (rc2 := 0 + 1) (rs2 := 0 + 6) (As := [_]) (st := _) M_X10_fails K_L_178 (dT U_L_fails 4 rfl) rfl (by decide) rfl rfl w.c3 (Nat.le_of_ble_eq_true rfl) (by decide) rfl (Nat.le_of_ble_eq_true rfl) rfl (by decide) (Nat.le_of_ble_eq_true rfl) (Nat.add_comm _ _ ▸ rfl) (Nat.add_comm _ _ ▸ rfl) ?_
  refine S_X10_fails w v h_row (fun c1 => ?_) (fun c1 h2 fc w2 => ?_)
  · refine xRetH_thr ?_
    refine ⟨[], (⟨0, 9, 12, 19⟩ : ExceptionTableEntry), [], rfl, fun z hz => absurd hz List.not_mem_nil, rfl, by decide, W_L_19, 3, 1, Or.inl ⟨3, (dT U_L_fails 8 rfl), rfl, rfl⟩, by decide, ?_⟩
    refine x_iconst (dT U_L_fails 9 rfl) ?_
    refine x_ireturn (dT U_L_fails 10 rfl) rfl ?_
    exact e1 c1
  · refine xRetH_some ?_
    refine x_i2lN (dT U_L_fails 5 rfl) (fun z9 hz9 ez9 => ?_)
    refine x_lastore 0 (dT U_L_fails 6 rfl) (fc.get ho (by omega)) (Nat.le_of_ble_eq_true rfl) rfl (Nat.le_of_ble_eq_true rfl) (Nat.le_of_ble_eq_true rfl) ?_
    refine x_goto (tgt := 15) (dT U_L_fails 7 rfl) (by decide) ?_
    refine x_iconst (dT U_L_fails 11 rfl) ?_
    refine x_ireturn (dT U_L_fails 12 rfl) rfl ?_
    exact k c1 h2 fc w2 z9 hz9 ez9

set_option maxRecDepth 20000 in
set_option maxHeartbeats 1000000 in
theorem S_L_faults {G : xG} {d rc rs : Nat} {ex : Bool} {h : xH} {Q : xQ} {σ : St} {row to : Int} {l0 : Int} (w : CW σ h) (v : INV σ) (h_row : xr row) (h_to : xr to) (ho : h[143]? = some (cJ [l0])) (e1 : ¬ (inb row 8 ∧ inb to 8) → Q (.inl (some (vi 1))) false h) (k : (inb row 8 ∧ inb to 8) → ∀ h2, FC h h2 → CW (σ.sRow to.toNat (tab (flt σ (σ.rw row.toNat)) 8)) h2 → ∀ z9, xr z9 → vi ((ct (fun t => ¬ flt σ (σ.rw row.toNat) t = 0) 8 : Int)) = vi z9 → Q (.inl (some (vi 0))) ex (h2.set 143 (cJ [z9]))) : X G m_L_faults (d + 8) (rc + 2) (rs + 12) ex 0 (xe m_L_faults.2.2.1 [.ref 3, vi row, vi to, .ref 143]) [] h Q := by
  show X G m_L_faults _ _ _ _ 0 [some (.ref 3), some (vi row), some (vi to), some (.ref 143), none] [] h Q
  refine x_aload_n (dT U_L_faults 0 rfl) rfl ?_
  refine x_iconst (dT U_L_faults 1 rfl) ?_
  refine x_aload_n (dT U_L_faults 2 rfl) rfl ?_
  refine x_iload_n (dT U_L_faults 3 rfl) rfl ?_
  refine x_iload_n (dT U_L_faults 4 rfl) rfl ?_
  refine x_invokevirtualH (rc' := rc) (rs' := rs) (rc2 := 0 + 2) (rs2 := 0 + 12) (As := [_, _]) (st := _) M_X10_faults K_L_181 (dT U_L_faults 5 rfl) rfl (by decide) rfl rfl w.c3 (Nat.le_of_ble_eq_true rfl) (by decide) rfl (Nat.le_of_ble_eq_true rfl) rfl (by decide) (Nat.le_of_ble_eq_true rfl) (Nat.add_comm _ _ ▸ rfl) (Nat.add_comm _ _ ▸ rfl) ?_
  refine S_X10_faults w v h_row h_to (fun c1 => ?_) (fun c1 h2 fc w2 => ?_)
  · refine xRetH_thr ?_
    refine ⟨[], (⟨0, 10, 13, 19⟩ : ExceptionTableEntry), [], rfl, fun z hz => absurd hz List.not_mem_nil, rfl, by decide, W_L_19, 4, 2, Or.inr ⟨(dT U_L_faults 9 rfl), rfl⟩, by decide, ?_⟩
    refine x_iconst (dT U_L_faults 10 rfl) ?_
    refine x_ireturn (dT U_L_faults 11 rfl) rfl ?_
    exact e1 c1
  · refine xRetH_some ?_
    refine x_i2lN (dT U_L_faults 6 rfl) (fun z9 hz9 ez9 => ?_)
    refine x_lastore 0 (dT U_L_faults 7 rfl) (fc.get ho (by omega)) (Nat.le_of_ble_eq_true rfl) rfl (Nat.le_of_ble_eq_true rfl) (Nat.le_of_ble_eq_true rfl) ?_
    refine x_goto (tgt := 17) (dT U_L_faults 8 rfl) (by decide) ?_
    refine x_iconst (dT U_L_faults 12 rfl) ?_
    refine x_ireturn (dT U_L_faults 13 rfl) rfl ?_
    exact k c1 h2 fc w2 z9 hz9 ez9

set_option maxRecDepth 20000 in
set_option maxHeartbeats 1000000 in
theorem S_L_spots {G : xG} {d rc rs : Nat} {ex : Bool} {h : xH} {Q : xQ} {σ : St} {row : Int} {l0 : Int} (w : CW σ h) (v : INV σ) (h_row : xr row) (ho : h[143]? = some (cJ [l0])) (e1 : ¬ (inb row 8) → Q (.inl (some (vi 1))) false h) (k : (inb row 8) → ∀ h2, FC h h2 → CW σ h2 → ∀ z9, xr z9 → vi ((ct (fun x : Nat => hor (gf (tab (flt σ (σ.rw row.toNat)) 8)) σ.p (x : Int) 8 = 0) σ.p : Int)) = vi z9 → Q (.inl (some (vi 0))) ex (h2.set 143 (cJ [z9]))) : X G m_L_spots (d + 8) (rc + 1) (rs + 6) ex 0 (xe m_L_spots.2.2.1 [.ref 3, vi row, .ref 143]) [] h Q := by
  show X G m_L_spots _ _ _ _ 0 [some (.ref 3), some (vi row), some (.ref 143), none] [] h Q
  refine x_aload_n (dT U_L_spots 0 rfl) rfl ?_
  refine x_iconst (dT U_L_spots 1 rfl) ?_
  refine x_aload_n (dT U_L_spots 2 rfl) rfl ?_
  refine x_iload_n (dT U_L_spots 3 rfl) rfl ?_
  refine x_invokevirtualH (rc' := rc) (rs' := rs) (rc2 := 0 + 1) (rs2 := 0 + 6) (As := [_]) (st := _) M_X10_spots K_L_184 (dT U_L_spots 4 rfl) rfl (by decide) rfl rfl w.c3 (Nat.le_of_ble_eq_true rfl) (by decide) rfl (Nat.le_of_ble_eq_true rfl) rfl (by decide) (Nat.le_of_ble_eq_true rfl) (Nat.add_comm _ _ ▸ rfl) (Nat.add_comm _ _ ▸ rfl) ?_
  refine S_X10_spots w v h_row (fun c1 => ?_) (fun c1 h2 fc w2 => ?_)
  · refine xRetH_thr ?_
    refine ⟨[], (⟨0, 9, 12, 19⟩ : ExceptionTableEntry), [], rfl, fun z hz => absurd hz List.not_mem_nil, rfl, by decide, W_L_19, 3, 1, Or.inl ⟨3, (dT U_L_spots 8 rfl), rfl, rfl⟩, by decide, ?_⟩
    refine x_iconst (dT U_L_spots 9 rfl) ?_
    refine x_ireturn (dT U_L_spots 10 rfl) rfl ?_
    exact e1 c1
  · refine xRetH_some ?_
    refine x_i2lN (dT U_L_spots 5 rfl) (fun z9 hz9 ez9 => ?_)
    refine x_lastore 0 (dT U_L_spots 6 rfl) (fc.get ho (by omega)) (Nat.le_of_ble_eq_true rfl) rfl (Nat.le_of_ble_eq_true rfl) (Nat.le_of_ble_eq_true rfl) ?_
    refine x_goto (tgt := 15) (dT U_L_spots 7 rfl) (by decide) ?_
    refine x_iconst (dT U_L_spots 11 rfl) ?_
    refine x_ireturn (dT U_L_spots 12 rfl) rfl ?_
    exact k c1 h2 fc w2 z9 hz9 ez9

set_option maxRecDepth 20000 in
set_option maxHeartbeats 1000000 in
theorem S_L_total {G : xG} {d rc rs : Nat} {ex : Bool} {h : xH} {Q : xQ} {σ : St} {row : Int} {l0 : Int} (w : CW σ h) (v : INV σ) (h_row : xr row) (ho : h[143]? = some (cJ [l0])) (e1 : ¬ (inb row 8) → Q (.inl (some (vi 1))) false h) (k : (inb row 8) → ∀ z9, xr z9 → vi (sm (gf (σ.rw row.toNat)) 8 % (σ.p : Int)) = vi z9 → Q (.inl (some (vi 0))) ex (h.set 143 (cJ [z9]))) : X G m_L_total (d + 8) (rc + 1) (rs + 6) ex 0 (xe m_L_total.2.2.1 [.ref 3, vi row, .ref 143]) [] h Q := by
  show X G m_L_total _ _ _ _ 0 [some (.ref 3), some (vi row), some (.ref 143), none] [] h Q
  refine x_aload_n (dT U_L_total 0 rfl) rfl ?_
  refine x_iconst (dT U_L_total 1 rfl) ?_
  refine x_aload_n (dT U_L_total 2 rfl) rfl ?_
  refine x_iload_n (dT U_L_total 3 rfl) rfl ?_
  refine x_invokevirtualH (rc' := rc) (rs' := rs) (rc2 := 0 + 1) (rs2 := 0 + 6) (As := [_]) (st := _) M_X10_total K_L_187 (dT U_L_total 4 rfl) rfl (by decide) rfl rfl w.c3 (Nat.le_of_ble_eq_true rfl) (by decide) rfl (Nat.le_of_ble_eq_true rfl) rfl (by decide) (Nat.le_of_ble_eq_true rfl) (Nat.add_comm _ _ ▸ rfl) (Nat.add_comm _ _ ▸ rfl) ?_
  refine S_X10_total w v h_row (fun c1 => ?_) (fun c1 => ?_)
  · refine xRetH_thr ?_
    refine ⟨[], (⟨0, 9, 12, 19⟩ : ExceptionTableEntry), [], rfl, fun z hz => absurd hz List.not_mem_nil, rfl, by decide, W_L_19, 3, 1, Or.inl ⟨3, (dT U_L_total 8 rfl), rfl, rfl⟩, by decide, ?_⟩
    refine x_iconst (dT U_L_total 9 rfl) ?_
    refine x_ireturn (dT U_L_total 10 rfl) rfl ?_
    exact e1 c1
  · refine xRetH_some ?_
    refine x_i2lN (dT U_L_total 5 rfl) (fun z9 hz9 ez9 => ?_)
    refine x_lastore 0 (dT U_L_total 6 rfl) ho (Nat.le_of_ble_eq_true rfl) rfl (Nat.le_of_ble_eq_true rfl) (Nat.le_of_ble_eq_true rfl) ?_
    refine x_goto (tgt := 15) (dT U_L_total 7 rfl) (by decide) ?_
    refine x_iconst (dT U_L_total 11 rfl) ?_
    refine x_ireturn (dT U_L_total 12 rfl) rfl ?_
    exact k c1 z9 hz9 ez9

set_option maxRecDepth 20000 in
set_option maxHeartbeats 1000000 in
theorem S_L_extend {G : xG} {d rc rs : Nat} {ex : Bool} {h : xH} {Q : xQ} {σ : St} {row x y z : Int} {l0 : Int} (w : CW σ h) (v : INV σ) (h_row : xr row) (h_x : xr x) (h_y : xr y) (h_z : xr z) (ho : h[143]? = some (cJ [l0])) (e1 : ¬ (inb row 8) → Q (.inl (some (vi 1))) false h) (e2 : (inb row 8) → ¬ (inb x σ.p ∧ inb y σ.p ∧ inb z σ.p) → Q (.inl (some (vi 2))) false h) (k : (inb row 8) → (inb x σ.p ∧ inb y σ.p ∧ inb z σ.p) → ∀ h2, FC h h2 → CW σ h2 → ∀ z9, xr z9 → vi ((ext (σ.p : Int) (σ.rw row.toNat) x y z).getD 0 0) = vi z9 → Q (.inl (some (vi 0))) ex (h2.set 143 (cJ [z9]))) : X G m_L_extend (d + 8) (rc + 4) (rs + 24) ex 0 (xe m_L_extend.2.2.1 [.ref 3, vi row, vi x, vi y, vi z, .ref 143]) [] h Q := by
  show X G m_L_extend _ _ _ _ 0 [some (.ref 3), some (vi row), some (vi x), some (vi y), some (vi z), some (.ref 143), none] [] h Q
  refine x_aload (dT U_L_extend 0 rfl) rfl ?_
  refine x_iconst (dT U_L_extend 1 rfl) ?_
  refine x_aload_n (dT U_L_extend 2 rfl) rfl ?_
  refine x_iload_n (dT U_L_extend 3 rfl) rfl ?_
  refine x_iload_n (dT U_L_extend 4 rfl) rfl ?_
  refine x_iload_n (dT U_L_extend 5 rfl) rfl ?_
  refine x_iload (dT U_L_extend 6 rfl) rfl ?_
  refine x_invokevirtualH (rc' := rc) (rs' := rs) (rc2 := 0 + 4) (rs2 := 0 + 24) (As := [_, _, _, _]) (st := _) M_X10_extend K_L_190 (dT U_L_extend 7 rfl) rfl (by decide) rfl rfl w.c3 (Nat.le_of_ble_eq_true rfl) (by decide) rfl (Nat.le_of_ble_eq_true rfl) rfl (by decide) (Nat.le_of_ble_eq_true rfl) (Nat.add_comm _ _ ▸ rfl) (Nat.add_comm _ _ ▸ rfl) ?_
  refine S_X10_extend w v h_row h_x h_y h_z (fun c1 => ?_) (fun c1 c2 => ?_) (fun c1 c2 h2 fc w2 => ?_)
  · refine xRetH_thr ?_
    refine ⟨[], (⟨0, 14, 17, 19⟩ : ExceptionTableEntry), [(⟨0, 14, 21, 13⟩ : ExceptionTableEntry)], rfl, fun z hz => absurd hz List.not_mem_nil, rfl, by decide, W_L_19, 6, 2, Or.inr ⟨(dT U_L_extend 11 rfl), rfl⟩, by decide, ?_⟩
    refine x_iconst (dT U_L_extend 12 rfl) ?_
    refine x_ireturn (dT U_L_extend 13 rfl) rfl ?_
    exact e1 c1
  · refine xRetH_thr ?_
    refine ⟨[(⟨0, 14, 17, 19⟩ : ExceptionTableEntry)], (⟨0, 14, 21, 13⟩ : ExceptionTableEntry), [], rfl, fun z hz => by
        simp only [List.mem_cons, List.not_mem_nil, or_false] at hz
        subst hz
        exact ⟨by decide, "java/lang/IndexOutOfBoundsException", by decide, by decide, W_L_19⟩, rfl, by decide, W_L_13, 6, 2, Or.inr ⟨(dT U_L_extend 14 rfl), rfl⟩, by decide, ?_⟩
    refine x_iconst (dT U_L_extend 15 rfl) ?_
    refine x_ireturn (dT U_L_extend 16 rfl) rfl ?_
    exact e2 c1 c2
  · refine xRetH_some ?_
    refine x_i2lN (dT U_L_extend 8 rfl) (fun z9 hz9 ez9 => ?_)
    refine x_lastore 0 (dT U_L_extend 9 rfl) (fc.get ho (by omega)) (Nat.le_of_ble_eq_true rfl) rfl (Nat.le_of_ble_eq_true rfl) (Nat.le_of_ble_eq_true rfl) ?_
    refine x_goto (tgt := 25) (dT U_L_extend 10 rfl) (by decide) ?_
    refine x_iconst (dT U_L_extend 17 rfl) ?_
    refine x_ireturn (dT U_L_extend 18 rfl) rfl ?_
    exact k c1 c2 h2 fc w2 z9 hz9 ez9

set_option maxRecDepth 20000 in
set_option maxHeartbeats 1000000 in
theorem S_L_play {G : xG} {d rc rs : Nat} {ex : Bool} {h : xH} {Q : xQ} {σ : St} {row claim : Int} {l0 : Int} (w : CW σ h) (v : INV σ) (h_row : xr row) (h_claim : xr claim) (ho : h[143]? = some (cJ [l0])) (e1 : ¬ (inb row 8) → Q (.inl (some (vi 1))) false h) (e2 : (inb row 8) → ¬ (inb claim σ.p) → Q (.inl (some (vi 2))) false h) (k : (inb row 8) → (inb claim σ.p) → ∀ i9 : Int, (i9 = 1 ∧ claim = cr σ.p (σ.rw row.toNat) 0 ∨ i9 = 0) → ∀ h2, FC h h2 → CW (σ.sg (1, 0, i9, claim, 0, σ.g.z, σ.g.o, σ.rw row.toNat, σ.rw row.toNat, σ.g.dr)) h2 → ∀ z9, xr z9 → vi (wnn σ.p (σ.rw row.toNat) 0 0 claim σ.g.z σ.g.o) = vi z9 → Q (.inl (some (vi 0))) ex (h2.set 143 (cJ [z9]))) : X G m_L_play (d + 8) (rc + 2) (rs + 12) ex 0 (xe m_L_play.2.2.1 [.ref 3, vi row, vi claim, .ref 143]) [] h Q := by
  show X G m_L_play _ _ _ _ 0 [some (.ref 3), some (vi row), some (vi claim), some (.ref 143), none] [] h Q
  refine x_aload_n (dT U_L_play 0 rfl) rfl ?_
  refine x_iconst (dT U_L_play 1 rfl) ?_
  refine x_aload_n (dT U_L_play 2 rfl) rfl ?_
  refine x_iload_n (dT U_L_play 3 rfl) rfl ?_
  refine x_iload_n (dT U_L_play 4 rfl) rfl ?_
  refine x_invokevirtualH (rc' := rc) (rs' := rs) (rc2 := 0 + 2) (rs2 := 0 + 12) (As := [_, _]) (st := _) M_X10_play K_L_193 (dT U_L_play 5 rfl) rfl (by decide) rfl rfl w.c3 (Nat.le_of_ble_eq_true rfl) (by decide) rfl (Nat.le_of_ble_eq_true rfl) rfl (by decide) (Nat.le_of_ble_eq_true rfl) (Nat.add_comm _ _ ▸ rfl) (Nat.add_comm _ _ ▸ rfl) ?_
  refine S_X10_play w v h_row h_claim (fun c1 => ?_) (fun c1 c2 => ?_) (fun c1 c2 i9 q9 h2 fc w2 => ?_)
  · refine xRetH_thr ?_
    refine ⟨[], (⟨0, 10, 13, 19⟩ : ExceptionTableEntry), [(⟨0, 10, 17, 13⟩ : ExceptionTableEntry)], rfl, fun z hz => absurd hz List.not_mem_nil, rfl, by decide, W_L_19, 4, 2, Or.inr ⟨(dT U_L_play 9 rfl), rfl⟩, by decide, ?_⟩
    refine x_iconst (dT U_L_play 10 rfl) ?_
    refine x_ireturn (dT U_L_play 11 rfl) rfl ?_
    exact e1 c1
  · refine xRetH_thr ?_
    refine ⟨[(⟨0, 10, 13, 19⟩ : ExceptionTableEntry)], (⟨0, 10, 17, 13⟩ : ExceptionTableEntry), [], rfl, fun z hz => by
        simp only [List.mem_cons, List.not_mem_nil, or_false] at hz
        subst hz
        exact ⟨by decide, "java/lang/IndexOutOfBoundsException", by decide, by decide, W_L_19⟩, rfl, by decide, W_L_13, 4, 2, Or.inr ⟨(dT U_L_play 12 rfl), rfl⟩, by decide, ?_⟩
    refine x_iconst (dT U_L_play 13 rfl) ?_
    refine x_ireturn (dT U_L_play 14 rfl) rfl ?_
    exact e2 c1 c2
  · refine xRetH_some ?_
    refine x_i2lN (dT U_L_play 6 rfl) (fun z9 hz9 ez9 => ?_)
    refine x_lastore 0 (dT U_L_play 7 rfl) (fc.get ho (by omega)) (Nat.le_of_ble_eq_true rfl) rfl (Nat.le_of_ble_eq_true rfl) (Nat.le_of_ble_eq_true rfl) ?_
    refine x_goto (tgt := 21) (dT U_L_play 8 rfl) (by decide) ?_
    refine x_iconst (dT U_L_play 15 rfl) ?_
    refine x_ireturn (dT U_L_play 16 rfl) rfl ?_
    exact k c1 c2 i9 q9 h2 fc w2 z9 hz9 ez9

set_option maxRecDepth 20000 in
set_option maxHeartbeats 1000000 in
theorem S_L_send {G : xG} {d rc rs : Nat} {ex : Bool} {h : xH} {Q : xQ} {σ : St} {zero one : Int} {l0 : Int} (w : CW σ h) (v : INV σ) (h_zero : xr zero) (h_one : xr one) (ho : h[143]? = some (cJ [l0])) (e1 : ¬ (inb zero σ.p ∧ inb one σ.p) → Q (.inl (some (vi 1))) false h) (e2 : (inb zero σ.p ∧ inb one σ.p) → ¬ (σ.g.b = 1 ∧ σ.g.s = 0 ∧ σ.g.r < 3) → Q (.inl (some (vi 2))) false h) (e3 : (inb zero σ.p ∧ inb one σ.p) → (σ.g.b = 1 ∧ σ.g.s = 0 ∧ σ.g.r < 3) → ¬ ((zero + one) % (σ.p : Int) = σ.g.c) → Q (.inl (some (vi 3))) false h) (k : (inb zero σ.p ∧ inb one σ.p) → (σ.g.b = 1 ∧ σ.g.s = 0 ∧ σ.g.r < 3) → ((zero + one) % (σ.p : Int) = σ.g.c) → ∀ i9 : Int, (i9 = 1 ∧ σ.g.i = 1 ∧ zero = rz σ.p σ.g.l σ.g.r ∧ one = ro σ.p σ.g.l σ.g.r ∨ i9 = 0) → ∀ h2, FC h h2 → CW (σ.sg (σ.g.b, 1, i9, σ.g.c, σ.g.r, zero, one, σ.g.l, σ.g.tbl, σ.g.dr)) h2 → ∀ z9, xr z9 → vi (wnn σ.p σ.g.l σ.g.r 1 σ.g.c zero one) = vi z9 → Q (.inl (some (vi 0))) ex (h2.set 143 (cJ [z9]))) : X G m_L_send (d + 8) (rc + 4) (rs + 24) ex 0 (xe m_L_send.2.2.1 [.ref 3, vi zero, vi one, .ref 143]) [] h Q := by
  show X G m_L_send _ _ _ _ 0 [some (.ref 3), some (vi zero), some (vi one), some (.ref 143), none] [] h Q
  refine x_aload_n (dT U_L_send 0 rfl) rfl ?_
  refine x_iconst (dT U_L_send 1 rfl) ?_
  refine x_aload_n (dT U_L_send 2 rfl) rfl ?_
  refine x_iload_n (dT U_L_send 3 rfl) rfl ?_
  refine x_iload_n (dT U_L_send 4 rfl) rfl ?_
  refine x_invokevirtualH (rc' := rc) (rs' := rs) (rc2 := 0 + 4) (rs2 := 0 + 24) (As := [_, _]) (st := _) M_X10_send K_L_196 (dT U_L_send 5 rfl) rfl (by decide) rfl rfl w.c3 (Nat.le_of_ble_eq_true rfl) (by decide) rfl (Nat.le_of_ble_eq_true rfl) rfl (by decide) (Nat.le_of_ble_eq_true rfl) (Nat.add_comm _ _ ▸ rfl) (Nat.add_comm _ _ ▸ rfl) ?_
  refine S_X10_send w v h_zero h_one (fun c1 => ?_) (fun c1 c2 => ?_) (fun c1 c2 c3 => ?_) (fun c1 c2 c3 i9 q9 h2 fc w2 => ?_)
  · refine xRetH_thr ?_
    refine ⟨[], (⟨0, 10, 13, 13⟩ : ExceptionTableEntry), [(⟨0, 10, 17, 45⟩ : ExceptionTableEntry), (⟨0, 10, 21, 50⟩ : ExceptionTableEntry)], rfl, fun z hz => absurd hz List.not_mem_nil, rfl, by decide, W_L_13, 4, 2, Or.inr ⟨(dT U_L_send 9 rfl), rfl⟩, by decide, ?_⟩
    refine x_iconst (dT U_L_send 10 rfl) ?_
    refine x_ireturn (dT U_L_send 11 rfl) rfl ?_
    exact e1 c1
  · refine xRetH_thr ?_
    refine ⟨[(⟨0, 10, 13, 13⟩ : ExceptionTableEntry)], (⟨0, 10, 17, 45⟩ : ExceptionTableEntry), [(⟨0, 10, 21, 50⟩ : ExceptionTableEntry)], rfl, fun z hz => by
        simp only [List.mem_cons, List.not_mem_nil, or_false] at hz
        subst hz
        exact ⟨by decide, "java/lang/IllegalArgumentException", by decide, by decide, W_L_13⟩, rfl, by decide, W_L_45, 4, 2, Or.inr ⟨(dT U_L_send 12 rfl), rfl⟩, by decide, ?_⟩
    refine x_iconst (dT U_L_send 13 rfl) ?_
    refine x_ireturn (dT U_L_send 14 rfl) rfl ?_
    exact e2 c1 c2
  · refine xRetH_thr ?_
    refine ⟨[(⟨0, 10, 13, 13⟩ : ExceptionTableEntry), (⟨0, 10, 17, 45⟩ : ExceptionTableEntry)], (⟨0, 10, 21, 50⟩ : ExceptionTableEntry), [], rfl, fun z hz => by
        simp only [List.mem_cons, List.not_mem_nil, or_false] at hz
        rcases hz with rfl | rfl
        · exact ⟨by decide, "java/lang/IllegalArgumentException", by decide, by decide, W_L_13⟩
        · exact ⟨by decide, "java/lang/IllegalStateException", by decide, by decide, W_L_45⟩, rfl, by decide, W_L_50, 4, 2, Or.inr ⟨(dT U_L_send 15 rfl), rfl⟩, by decide, ?_⟩
    refine x_iconst (dT U_L_send 16 rfl) ?_
    refine x_ireturn (dT U_L_send 17 rfl) rfl ?_
    exact e3 c1 c2 c3
  · refine xRetH_some ?_
    refine x_i2lN (dT U_L_send 6 rfl) (fun z9 hz9 ez9 => ?_)
    refine x_lastore 0 (dT U_L_send 7 rfl) (fc.get ho (by omega)) (Nat.le_of_ble_eq_true rfl) rfl (Nat.le_of_ble_eq_true rfl) (Nat.le_of_ble_eq_true rfl) ?_
    refine x_goto (tgt := 25) (dT U_L_send 8 rfl) (by decide) ?_
    refine x_iconst (dT U_L_send 18 rfl) ?_
    refine x_ireturn (dT U_L_send 19 rfl) rfl ?_
    exact k c1 c2 c3 i9 q9 h2 fc w2 z9 hz9 ez9

set_option maxRecDepth 20000 in
set_option maxHeartbeats 1000000 in
theorem S_L_draw {G : xG} {d rc rs : Nat} {ex : Bool} {h : xH} {Q : xQ} {σ : St} {c : Int} {l0 : Int} (w : CW σ h) (v : INV σ) (h_c : xr c) (ho : h[143]? = some (cJ [l0])) (e1 : ¬ (inb c σ.p) → Q (.inl (some (vi 1))) false h) (e2 : (inb c σ.p) → ¬ (σ.g.b = 1 ∧ σ.g.s = 1) → Q (.inl (some (vi 2))) false h) (k : (inb c σ.p) → (σ.g.b = 1 ∧ σ.g.s = 1) → ∀ h2, FC h h2 → CW (σ.sg (σ.g.b, 0, σ.g.i, ln σ.p σ.g.z σ.g.o c, σ.g.r + 1, σ.g.z, σ.g.o, bnd σ.p σ.g.l σ.g.r c, σ.g.tbl, σ.g.dr.set σ.g.r c)) h2 → ∀ z9, xr z9 → vi (ln σ.p σ.g.z σ.g.o c) = vi z9 → Q (.inl (some (vi 0))) ex (h2.set 143 (cJ [z9]))) : X G m_L_draw (d + 8) (rc + 2) (rs + 12) ex 0 (xe m_L_draw.2.2.1 [.ref 3, vi c, .ref 143]) [] h Q := by
  show X G m_L_draw _ _ _ _ 0 [some (.ref 3), some (vi c), some (.ref 143), none] [] h Q
  refine x_aload_n (dT U_L_draw 0 rfl) rfl ?_
  refine x_iconst (dT U_L_draw 1 rfl) ?_
  refine x_aload_n (dT U_L_draw 2 rfl) rfl ?_
  refine x_iload_n (dT U_L_draw 3 rfl) rfl ?_
  refine x_invokevirtualH (rc' := rc) (rs' := rs) (rc2 := 0 + 2) (rs2 := 0 + 12) (As := [_]) (st := _) M_X10_draw K_L_199 (dT U_L_draw 4 rfl) rfl (by decide) rfl rfl w.c3 (Nat.le_of_ble_eq_true rfl) (by decide) rfl (Nat.le_of_ble_eq_true rfl) rfl (by decide) (Nat.le_of_ble_eq_true rfl) (Nat.add_comm _ _ ▸ rfl) (Nat.add_comm _ _ ▸ rfl) ?_
  refine S_X10_draw w v h_c (fun c1 => ?_) (fun c1 c2 => ?_) (fun c1 c2 h2 fc w2 => ?_)
  · refine xRetH_thr ?_
    refine ⟨[], (⟨0, 9, 12, 13⟩ : ExceptionTableEntry), [(⟨0, 9, 15, 45⟩ : ExceptionTableEntry)], rfl, fun z hz => absurd hz List.not_mem_nil, rfl, by decide, W_L_13, 3, 1, Or.inl ⟨3, (dT U_L_draw 8 rfl), rfl, rfl⟩, by decide, ?_⟩
    refine x_iconst (dT U_L_draw 9 rfl) ?_
    refine x_ireturn (dT U_L_draw 10 rfl) rfl ?_
    exact e1 c1
  · refine xRetH_thr ?_
    refine ⟨[(⟨0, 9, 12, 13⟩ : ExceptionTableEntry)], (⟨0, 9, 15, 45⟩ : ExceptionTableEntry), [], rfl, fun z hz => by
        simp only [List.mem_cons, List.not_mem_nil, or_false] at hz
        subst hz
        exact ⟨by decide, "java/lang/IllegalArgumentException", by decide, by decide, W_L_13⟩, rfl, by decide, W_L_45, 3, 1, Or.inl ⟨3, (dT U_L_draw 11 rfl), rfl, rfl⟩, by decide, ?_⟩
    refine x_iconst (dT U_L_draw 12 rfl) ?_
    refine x_ireturn (dT U_L_draw 13 rfl) rfl ?_
    exact e2 c1 c2
  · refine xRetH_some ?_
    refine x_i2lN (dT U_L_draw 5 rfl) (fun z9 hz9 ez9 => ?_)
    refine x_lastore 0 (dT U_L_draw 6 rfl) (fc.get ho (by omega)) (Nat.le_of_ble_eq_true rfl) rfl (Nat.le_of_ble_eq_true rfl) (Nat.le_of_ble_eq_true rfl) ?_
    refine x_goto (tgt := 18) (dT U_L_draw 7 rfl) (by decide) ?_
    refine x_iconst (dT U_L_draw 14 rfl) ?_
    refine x_ireturn (dT U_L_draw 15 rfl) rfl ?_
    exact k c1 c2 h2 fc w2 z9 hz9 ez9

set_option maxRecDepth 20000 in
set_option maxHeartbeats 1000000 in
theorem S_L_honest {G : xG} {d rc rs : Nat} {ex : Bool} {h : xH} {Q : xQ} {σ : St} {l0 : Int} (w : CW σ h) (v : INV σ) (ho : h[143]? = some (cJ [l0])) (e1 : ¬ (σ.g.b = 1 ∧ σ.g.s = 0 ∧ σ.g.r < 3) → Q (.inl (some (vi 1))) false h) (k : (σ.g.b = 1 ∧ σ.g.s = 0 ∧ σ.g.r < 3) → ∀ z9, xr z9 → vi (32 * rz σ.p σ.g.l σ.g.r + ro σ.p σ.g.l σ.g.r) = vi z9 → Q (.inl (some (vi 0))) ex (h.set 143 (cJ [z9]))) : X G m_L_honest (d + 8) (rc + 1) (rs + 6) ex 0 (xe m_L_honest.2.2.1 [.ref 3, .ref 143]) [] h Q := by
  show X G m_L_honest _ _ _ _ 0 [some (.ref 3), some (.ref 143), none] [] h Q
  refine x_aload_n (dT U_L_honest 0 rfl) rfl ?_
  refine x_iconst (dT U_L_honest 1 rfl) ?_
  refine x_aload_n (dT U_L_honest 2 rfl) rfl ?_
  refine x_invokevirtualH (rc' := rc) (rs' := rs) (rc2 := 0 + 1) (rs2 := 0 + 6) (As := []) (st := _) M_X10_honest K_L_202 (dT U_L_honest 3 rfl) rfl (by decide) rfl rfl w.c3 (Nat.le_of_ble_eq_true rfl) (by decide) rfl (Nat.le_of_ble_eq_true rfl) rfl (by decide) (Nat.le_of_ble_eq_true rfl) (Nat.add_comm _ _ ▸ rfl) (Nat.add_comm _ _ ▸ rfl) ?_
  refine S_X10_honest w v  (fun c1 => ?_) (fun c1 => ?_)
  · refine xRetH_thr ?_
    refine ⟨[], (⟨0, 8, 11, 45⟩ : ExceptionTableEntry), [], rfl, fun z hz => absurd hz List.not_mem_nil, rfl, by decide, W_L_45, 2, 1, Or.inl ⟨2, (dT U_L_honest 7 rfl), rfl, rfl⟩, by decide, ?_⟩
    refine x_iconst (dT U_L_honest 8 rfl) ?_
    refine x_ireturn (dT U_L_honest 9 rfl) rfl ?_
    exact e1 c1
  · refine xRetH_some ?_
    refine x_i2lN (dT U_L_honest 4 rfl) (fun z9 hz9 ez9 => ?_)
    refine x_lastore 0 (dT U_L_honest 5 rfl) ho (Nat.le_of_ble_eq_true rfl) rfl (Nat.le_of_ble_eq_true rfl) (Nat.le_of_ble_eq_true rfl) ?_
    refine x_goto (tgt := 14) (dT U_L_honest 6 rfl) (by decide) ?_
    refine x_iconst (dT U_L_honest 10 rfl) ?_
    refine x_ireturn (dT U_L_honest 11 rfl) rfl ?_
    exact k c1 z9 hz9 ez9

set_option maxRecDepth 20000 in
set_option maxHeartbeats 1000000 in
theorem S_L_isWon {G : xG} {d rc rs : Nat} {ex : Bool} {h : xH} {Q : xQ} {σ : St} {l0 : Int} (w : CW σ h) (v : INV σ) (ho : h[143]? = some (cJ [l0])) (e1 : ¬ (σ.g.b = 1) → Q (.inl (some (vi 1))) false h) (k1 : (σ.g.b = 1) → σ.g.r = 3 ∧ σ.g.c = cr σ.p σ.g.l σ.g.r → Q (.inl (some (vi 0))) ex (h.set 143 (cJ [1]))) (k0 : (σ.g.b = 1) → ¬ (σ.g.r = 3 ∧ σ.g.c = cr σ.p σ.g.l σ.g.r) → Q (.inl (some (vi 0))) ex (h.set 143 (cJ [0]))) : X G m_L_isWon (d + 8) (rc + 1) (rs + 6) ex 0 (xe m_L_isWon.2.2.1 [.ref 3, .ref 143]) [] h Q := by
  show X G m_L_isWon _ _ _ _ 0 [some (.ref 3), some (.ref 143), none] [] h Q
  refine x_aload_n (dT U_L_isWon 0 rfl) rfl ?_
  refine x_iconst (dT U_L_isWon 1 rfl) ?_
  refine x_aload_n (dT U_L_isWon 2 rfl) rfl ?_
  refine x_invokevirtualH (rc' := rc) (rs' := rs) (rc2 := 0 + 1) (rs2 := 0 + 6) (As := []) (st := _) M_X10_isWon K_L_206 (dT U_L_isWon 3 rfl) rfl (by decide) rfl rfl w.c3 (Nat.le_of_ble_eq_true rfl) (by decide) rfl (Nat.le_of_ble_eq_true rfl) rfl (by decide) (Nat.le_of_ble_eq_true rfl) (Nat.add_comm _ _ ▸ rfl) (Nat.add_comm _ _ ▸ rfl) ?_
  refine S_X10_isWon w v  (fun c1 => ?_) (fun c1 c2 => ?_) (fun c1 c2 => ?_)
  · refine xRetH_thr ?_
    refine ⟨[], (⟨0, 15, 18, 45⟩ : ExceptionTableEntry), [], rfl, fun z hz => absurd hz List.not_mem_nil, rfl, by decide, W_L_45, 2, 1, Or.inl ⟨2, (dT U_L_isWon 10 rfl), rfl, rfl⟩, by decide, ?_⟩
    refine x_iconst (dT U_L_isWon 11 rfl) ?_
    refine x_ireturn (dT U_L_isWon 12 rfl) rfl ?_
    exact e1 c1
  · refine xRetH_some ?_
    refine x_if_eqn (tgt := 13) (dT U_L_isWon 4 rfl) (by decide) (by decide) ?_
    refine x_lconst (z := 1) (dT U_L_isWon 5 rfl) rfl ?_
    refine x_goto (tgt := 14) (dT U_L_isWon 6 rfl) (by decide) ?_
    refine x_lastore 0 (dT U_L_isWon 8 rfl) ho (Nat.le_of_ble_eq_true rfl) rfl (Nat.le_of_ble_eq_true rfl) (Nat.le_of_ble_eq_true rfl) ?_
    refine x_goto (tgt := 21) (dT U_L_isWon 9 rfl) (by decide) ?_
    refine x_iconst (dT U_L_isWon 13 rfl) ?_
    refine x_ireturn (dT U_L_isWon 14 rfl) rfl ?_
    exact k1 c1 c2
  · refine xRetH_some ?_
    refine x_if_eqj (tgt := 13) (dT U_L_isWon 4 rfl) (by decide) (by decide) ?_
    refine x_lconst (z := 0) (dT U_L_isWon 7 rfl) rfl ?_
    refine x_lastore 0 (dT U_L_isWon 8 rfl) ho (Nat.le_of_ble_eq_true rfl) rfl (Nat.le_of_ble_eq_true rfl) (Nat.le_of_ble_eq_true rfl) ?_
    refine x_goto (tgt := 21) (dT U_L_isWon 9 rfl) (by decide) ?_
    refine x_iconst (dT U_L_isWon 13 rfl) ?_
    refine x_ireturn (dT U_L_isWon 14 rfl) rfl ?_
    exact k0 c1 c2

set_option maxRecDepth 20000 in
set_option maxHeartbeats 1000000 in
theorem S_L_chances {G : xG} {d rc rs : Nat} {ex : Bool} {h : xH} {Q : xQ} {σ : St} {l0 : Int} (w : CW σ h) (v : INV σ) (ho : h[143]? = some (cJ [l0])) (e1 : ¬ (σ.g.b = 1) → Q (.inl (some (vi 1))) false h) (k : (σ.g.b = 1) → ∀ z9, xr z9 → vi (wnn σ.p σ.g.l σ.g.r σ.g.s σ.g.c σ.g.z σ.g.o) = vi z9 → Q (.inl (some (vi 0))) ex (h.set 143 (cJ [z9]))) : X G m_L_chances (d + 8) (rc + 1) (rs + 6) ex 0 (xe m_L_chances.2.2.1 [.ref 3, .ref 143]) [] h Q := by
  show X G m_L_chances _ _ _ _ 0 [some (.ref 3), some (.ref 143), none] [] h Q
  refine x_aload_n (dT U_L_chances 0 rfl) rfl ?_
  refine x_iconst (dT U_L_chances 1 rfl) ?_
  refine x_aload_n (dT U_L_chances 2 rfl) rfl ?_
  refine x_invokevirtualH (rc' := rc) (rs' := rs) (rc2 := 0 + 1) (rs2 := 0 + 6) (As := []) (st := _) M_X10_chances K_L_210 (dT U_L_chances 3 rfl) rfl (by decide) rfl rfl w.c3 (Nat.le_of_ble_eq_true rfl) (by decide) rfl (Nat.le_of_ble_eq_true rfl) rfl (by decide) (Nat.le_of_ble_eq_true rfl) (Nat.add_comm _ _ ▸ rfl) (Nat.add_comm _ _ ▸ rfl) ?_
  refine S_X10_chances w v  (fun c1 => ?_) (fun c1 => ?_)
  · refine xRetH_thr ?_
    refine ⟨[], (⟨0, 8, 11, 45⟩ : ExceptionTableEntry), [], rfl, fun z hz => absurd hz List.not_mem_nil, rfl, by decide, W_L_45, 2, 1, Or.inl ⟨2, (dT U_L_chances 7 rfl), rfl, rfl⟩, by decide, ?_⟩
    refine x_iconst (dT U_L_chances 8 rfl) ?_
    refine x_ireturn (dT U_L_chances 9 rfl) rfl ?_
    exact e1 c1
  · refine xRetH_some ?_
    refine x_i2lN (dT U_L_chances 4 rfl) (fun z9 hz9 ez9 => ?_)
    refine x_lastore 0 (dT U_L_chances 5 rfl) ho (Nat.le_of_ble_eq_true rfl) rfl (Nat.le_of_ble_eq_true rfl) (Nat.le_of_ble_eq_true rfl) ?_
    refine x_goto (tgt := 14) (dT U_L_chances 6 rfl) (by decide) ?_
    refine x_iconst (dT U_L_chances 10 rfl) ?_
    refine x_ireturn (dT U_L_chances 11 rfl) rfl ?_
    exact k c1 z9 hz9 ez9

set_option maxRecDepth 20000 in
set_option maxHeartbeats 1000000 in
theorem S_L_mint {G : xG} {d rc rs : Nat} {ex : Bool} {h : xH} {Q : xQ} {σ : St} {amount blind : Int} {l0 : Int} (w : CW σ h) (v : INV σ) (h_amount : xr amount) (h_blind : xr blind) (ho : h[143]? = some (cJ [l0])) (e1 : ¬ (inb amount σ.p ∧ inb blind σ.p) → Q (.inl (some (vi 1))) false h) (e2 : (inb amount σ.p ∧ inb blind σ.p) → ¬ (σ.L.n + 1 ≤ 16) → Q (.inl (some (vi 2))) false h) (k : (inb amount σ.p ∧ inb blind σ.p) → (σ.L.n + 1 ≤ 16) → ∀ h2, FC h h2 → CW (σ.sL (σ.L.n + 1, (σ.L.mi + (cm1 σ.p amount blind)) % (σ.p : Int), σ.L.pa, σ.L.nn.set σ.L.n (cm1 σ.p amount blind), σ.L.gl.set σ.L.n (MM σ.p (cm1 σ.p amount blind)))) h2 → ∀ z9, xr z9 → vi ((σ.L.n : Int)) = vi z9 → Q (.inl (some (vi 0))) ex (h2.set 143 (cJ [z9]))) : X G m_L_mint (d + 8) (rc + 3) (rs + 18) ex 0 (xe m_L_mint.2.2.1 [.ref 3, vi amount, vi blind, .ref 143]) [] h Q := by
  show X G m_L_mint _ _ _ _ 0 [some (.ref 3), some (vi amount), some (vi blind), some (.ref 143), none] [] h Q
  refine x_aload_n (dT U_L_mint 0 rfl) rfl ?_
  refine x_iconst (dT U_L_mint 1 rfl) ?_
  refine x_aload_n (dT U_L_mint 2 rfl) rfl ?_
  refine x_iload_n (dT U_L_mint 3 rfl) rfl ?_
  refine x_iload_n (dT U_L_mint 4 rfl) rfl ?_
  refine x_invokevirtualH (rc' := rc) (rs' := rs) (rc2 := 0 + 3) (rs2 := 0 + 18) (As := [_, _]) (st := _) M_X10_mint K_L_213 (dT U_L_mint 5 rfl) rfl (by decide) rfl rfl w.c3 (Nat.le_of_ble_eq_true rfl) (by decide) rfl (Nat.le_of_ble_eq_true rfl) rfl (by decide) (Nat.le_of_ble_eq_true rfl) (Nat.add_comm _ _ ▸ rfl) (Nat.add_comm _ _ ▸ rfl) ?_
  refine S_X10_mint w v h_amount h_blind (fun c1 => ?_) (fun c1 c2 => ?_) (fun c1 c2 h2 fc w2 => ?_)
  · refine xRetH_thr ?_
    refine ⟨[], (⟨0, 10, 13, 13⟩ : ExceptionTableEntry), [(⟨0, 10, 17, 45⟩ : ExceptionTableEntry)], rfl, fun z hz => absurd hz List.not_mem_nil, rfl, by decide, W_L_13, 4, 2, Or.inr ⟨(dT U_L_mint 9 rfl), rfl⟩, by decide, ?_⟩
    refine x_iconst (dT U_L_mint 10 rfl) ?_
    refine x_ireturn (dT U_L_mint 11 rfl) rfl ?_
    exact e1 c1
  · refine xRetH_thr ?_
    refine ⟨[(⟨0, 10, 13, 13⟩ : ExceptionTableEntry)], (⟨0, 10, 17, 45⟩ : ExceptionTableEntry), [], rfl, fun z hz => by
        simp only [List.mem_cons, List.not_mem_nil, or_false] at hz
        subst hz
        exact ⟨by decide, "java/lang/IllegalArgumentException", by decide, by decide, W_L_13⟩, rfl, by decide, W_L_45, 4, 2, Or.inr ⟨(dT U_L_mint 12 rfl), rfl⟩, by decide, ?_⟩
    refine x_iconst (dT U_L_mint 13 rfl) ?_
    refine x_ireturn (dT U_L_mint 14 rfl) rfl ?_
    exact e2 c1 c2
  · refine xRetH_some ?_
    refine x_i2lN (dT U_L_mint 6 rfl) (fun z9 hz9 ez9 => ?_)
    refine x_lastore 0 (dT U_L_mint 7 rfl) (fc.get ho (by omega)) (Nat.le_of_ble_eq_true rfl) rfl (Nat.le_of_ble_eq_true rfl) (Nat.le_of_ble_eq_true rfl) ?_
    refine x_goto (tgt := 21) (dT U_L_mint 8 rfl) (by decide) ?_
    refine x_iconst (dT U_L_mint 15 rfl) ?_
    refine x_ireturn (dT U_L_mint 16 rfl) rfl ?_
    exact k c1 c2 h2 fc w2 z9 hz9 ez9

set_option maxRecDepth 20000 in
set_option maxHeartbeats 1000000 in
theorem S_L_split {G : xG} {d rc rs : Nat} {ex : Bool} {h : xH} {Q : xQ} {σ : St} {note amount blind : Int} {l0 : Int} (w : CW σ h) (v : INV σ) (h_note : xr note) (h_amount : xr amount) (h_blind : xr blind) (ho : h[143]? = some (cJ [l0])) (e1 : ¬ (inb note σ.L.n) → Q (.inl (some (vi 1))) false h) (e2 : (inb note σ.L.n) → ¬ (inb amount σ.p ∧ inb blind σ.p) → Q (.inl (some (vi 2))) false h) (e3 : (inb note σ.L.n) → (inb amount σ.p ∧ inb blind σ.p) → ¬ (¬ (σ.L.nn.getD note.toNat 0) = -1 ∧ σ.L.n + 2 ≤ 16) → Q (.inl (some (vi 3))) false h) (k : (inb note σ.L.n) → (inb amount σ.p ∧ inb blind σ.p) → (¬ (σ.L.nn.getD note.toNat 0) = -1 ∧ σ.L.n + 2 ≤ 16) → ∀ h2, FC h h2 → CW (σ.sL (σ.L.n + 2, σ.L.mi, σ.L.pa, ((σ.L.nn.set note.toNat (-1)).set σ.L.n (cm1 σ.p amount blind)).set (σ.L.n + 1) (((σ.L.nn.getD note.toNat 0) - (cm1 σ.p amount blind)) % (σ.p : Int)), ((σ.L.gl.set note.toNat 0).set σ.L.n (MM σ.p (cm1 σ.p amount blind))).set (σ.L.n + 1) (MM σ.p (((σ.L.nn.getD note.toNat 0) - (cm1 σ.p amount blind)) % (σ.p : Int))))) h2 → ∀ z9, xr z9 → vi ((σ.L.n : Int)) = vi z9 → Q (.inl (some (vi 0))) ex (h2.set 143 (cJ [z9]))) : X G m_L_split (d + 8) (rc + 5) (rs + 30) ex 0 (xe m_L_split.2.2.1 [.ref 3, vi note, vi amount, vi blind, .ref 143]) [] h Q := by
  show X G m_L_split _ _ _ _ 0 [some (.ref 3), some (vi note), some (vi amount), some (vi blind), some (.ref 143), none] [] h Q
  refine x_aload (dT U_L_split 0 rfl) rfl ?_
  refine x_iconst (dT U_L_split 1 rfl) ?_
  refine x_aload_n (dT U_L_split 2 rfl) rfl ?_
  refine x_iload_n (dT U_L_split 3 rfl) rfl ?_
  refine x_iload_n (dT U_L_split 4 rfl) rfl ?_
  refine x_iload_n (dT U_L_split 5 rfl) rfl ?_
  refine x_invokevirtualH (rc' := rc) (rs' := rs) (rc2 := 0 + 5) (rs2 := 0 + 30) (As := [_, _, _]) (st := _) M_X10_split K_L_216 (dT U_L_split 6 rfl) rfl (by decide) rfl rfl w.c3 (Nat.le_of_ble_eq_true rfl) (by decide) rfl (Nat.le_of_ble_eq_true rfl) rfl (by decide) (Nat.le_of_ble_eq_true rfl) (Nat.add_comm _ _ ▸ rfl) (Nat.add_comm _ _ ▸ rfl) ?_
  refine S_X10_split w v h_note h_amount h_blind (fun c1 => ?_) (fun c1 c2 => ?_) (fun c1 c2 c3 => ?_) (fun c1 c2 c3 h2 fc w2 => ?_)
  · refine xRetH_thr ?_
    refine ⟨[], (⟨0, 12, 15, 19⟩ : ExceptionTableEntry), [(⟨0, 12, 19, 13⟩ : ExceptionTableEntry), (⟨0, 12, 23, 45⟩ : ExceptionTableEntry)], rfl, fun z hz => absurd hz List.not_mem_nil, rfl, by decide, W_L_19, 5, 2, Or.inr ⟨(dT U_L_split 10 rfl), rfl⟩, by decide, ?_⟩
    refine x_iconst (dT U_L_split 11 rfl) ?_
    refine x_ireturn (dT U_L_split 12 rfl) rfl ?_
    exact e1 c1
  · refine xRetH_thr ?_
    refine ⟨[(⟨0, 12, 15, 19⟩ : ExceptionTableEntry)], (⟨0, 12, 19, 13⟩ : ExceptionTableEntry), [(⟨0, 12, 23, 45⟩ : ExceptionTableEntry)], rfl, fun z hz => by
        simp only [List.mem_cons, List.not_mem_nil, or_false] at hz
        subst hz
        exact ⟨by decide, "java/lang/IndexOutOfBoundsException", by decide, by decide, W_L_19⟩, rfl, by decide, W_L_13, 5, 2, Or.inr ⟨(dT U_L_split 13 rfl), rfl⟩, by decide, ?_⟩
    refine x_iconst (dT U_L_split 14 rfl) ?_
    refine x_ireturn (dT U_L_split 15 rfl) rfl ?_
    exact e2 c1 c2
  · refine xRetH_thr ?_
    refine ⟨[(⟨0, 12, 15, 19⟩ : ExceptionTableEntry), (⟨0, 12, 19, 13⟩ : ExceptionTableEntry)], (⟨0, 12, 23, 45⟩ : ExceptionTableEntry), [], rfl, fun z hz => by
        simp only [List.mem_cons, List.not_mem_nil, or_false] at hz
        rcases hz with rfl | rfl
        · exact ⟨by decide, "java/lang/IndexOutOfBoundsException", by decide, by decide, W_L_19⟩
        · exact ⟨by decide, "java/lang/IllegalArgumentException", by decide, by decide, W_L_13⟩, rfl, by decide, W_L_45, 5, 2, Or.inr ⟨(dT U_L_split 16 rfl), rfl⟩, by decide, ?_⟩
    refine x_iconst (dT U_L_split 17 rfl) ?_
    refine x_ireturn (dT U_L_split 18 rfl) rfl ?_
    exact e3 c1 c2 c3
  · refine xRetH_some ?_
    refine x_i2lN (dT U_L_split 7 rfl) (fun z9 hz9 ez9 => ?_)
    refine x_lastore 0 (dT U_L_split 8 rfl) (fc.get ho (by omega)) (Nat.le_of_ble_eq_true rfl) rfl (Nat.le_of_ble_eq_true rfl) (Nat.le_of_ble_eq_true rfl) ?_
    refine x_goto (tgt := 27) (dT U_L_split 9 rfl) (by decide) ?_
    refine x_iconst (dT U_L_split 19 rfl) ?_
    refine x_ireturn (dT U_L_split 20 rfl) rfl ?_
    exact k c1 c2 c3 h2 fc w2 z9 hz9 ez9

set_option maxRecDepth 20000 in
set_option maxHeartbeats 1000000 in
theorem S_L_merge {G : xG} {d rc rs : Nat} {ex : Bool} {h : xH} {Q : xQ} {σ : St} {note second : Int} {l0 : Int} (w : CW σ h) (v : INV σ) (h_note : xr note) (h_second : xr second) (ho : h[143]? = some (cJ [l0])) (e1 : ¬ (inb note σ.L.n ∧ inb second σ.L.n) → Q (.inl (some (vi 1))) false h) (e2 : (inb note σ.L.n ∧ inb second σ.L.n) → ¬ (¬ note = second) → Q (.inl (some (vi 2))) false h) (e3 : (inb note σ.L.n ∧ inb second σ.L.n) → (¬ note = second) → ¬ (¬ (σ.L.nn.getD note.toNat 0) = -1 ∧ ¬ (σ.L.nn.getD second.toNat 0) = -1 ∧ σ.L.n + 1 ≤ 16) → Q (.inl (some (vi 3))) false h) (k : (inb note σ.L.n ∧ inb second σ.L.n) → (¬ note = second) → (¬ (σ.L.nn.getD note.toNat 0) = -1 ∧ ¬ (σ.L.nn.getD second.toNat 0) = -1 ∧ σ.L.n + 1 ≤ 16) → ∀ h2, FC h h2 → CW (σ.sL (σ.L.n + 1, σ.L.mi, σ.L.pa, ((σ.L.nn.set note.toNat (-1)).set second.toNat (-1)).set σ.L.n (((σ.L.nn.getD note.toNat 0) + (σ.L.nn.getD second.toNat 0)) % (σ.p : Int)), ((σ.L.gl.set note.toNat 0).set second.toNat 0).set σ.L.n (MM σ.p (((σ.L.nn.getD note.toNat 0) + (σ.L.nn.getD second.toNat 0)) % (σ.p : Int))))) h2 → ∀ z9, xr z9 → vi ((σ.L.n : Int)) = vi z9 → Q (.inl (some (vi 0))) ex (h2.set 143 (cJ [z9]))) : X G m_L_merge (d + 8) (rc + 6) (rs + 36) ex 0 (xe m_L_merge.2.2.1 [.ref 3, vi note, vi second, .ref 143]) [] h Q := by
  show X G m_L_merge _ _ _ _ 0 [some (.ref 3), some (vi note), some (vi second), some (.ref 143), none] [] h Q
  refine x_aload_n (dT U_L_merge 0 rfl) rfl ?_
  refine x_iconst (dT U_L_merge 1 rfl) ?_
  refine x_aload_n (dT U_L_merge 2 rfl) rfl ?_
  refine x_iload_n (dT U_L_merge 3 rfl) rfl ?_
  refine x_iload_n (dT U_L_merge 4 rfl) rfl ?_
  refine x_invokevirtualH (rc' := rc) (rs' := rs) (rc2 := 0 + 6) (rs2 := 0 + 36) (As := [_, _]) (st := _) M_X10_merge K_L_219 (dT U_L_merge 5 rfl) rfl (by decide) rfl rfl w.c3 (Nat.le_of_ble_eq_true rfl) (by decide) rfl (Nat.le_of_ble_eq_true rfl) rfl (by decide) (Nat.le_of_ble_eq_true rfl) (Nat.add_comm _ _ ▸ rfl) (Nat.add_comm _ _ ▸ rfl) ?_
  refine S_X10_merge w v h_note h_second (fun c1 => ?_) (fun c1 c2 => ?_) (fun c1 c2 c3 => ?_) (fun c1 c2 c3 h2 fc w2 => ?_)
  · refine xRetH_thr ?_
    refine ⟨[], (⟨0, 10, 13, 19⟩ : ExceptionTableEntry), [(⟨0, 10, 17, 13⟩ : ExceptionTableEntry), (⟨0, 10, 21, 45⟩ : ExceptionTableEntry)], rfl, fun z hz => absurd hz List.not_mem_nil, rfl, by decide, W_L_19, 4, 2, Or.inr ⟨(dT U_L_merge 9 rfl), rfl⟩, by decide, ?_⟩
    refine x_iconst (dT U_L_merge 10 rfl) ?_
    refine x_ireturn (dT U_L_merge 11 rfl) rfl ?_
    exact e1 c1
  · refine xRetH_thr ?_
    refine ⟨[(⟨0, 10, 13, 19⟩ : ExceptionTableEntry)], (⟨0, 10, 17, 13⟩ : ExceptionTableEntry), [(⟨0, 10, 21, 45⟩ : ExceptionTableEntry)], rfl, fun z hz => by
        simp only [List.mem_cons, List.not_mem_nil, or_false] at hz
        subst hz
        exact ⟨by decide, "java/lang/IndexOutOfBoundsException", by decide, by decide, W_L_19⟩, rfl, by decide, W_L_13, 4, 2, Or.inr ⟨(dT U_L_merge 12 rfl), rfl⟩, by decide, ?_⟩
    refine x_iconst (dT U_L_merge 13 rfl) ?_
    refine x_ireturn (dT U_L_merge 14 rfl) rfl ?_
    exact e2 c1 c2
  · refine xRetH_thr ?_
    refine ⟨[(⟨0, 10, 13, 19⟩ : ExceptionTableEntry), (⟨0, 10, 17, 13⟩ : ExceptionTableEntry)], (⟨0, 10, 21, 45⟩ : ExceptionTableEntry), [], rfl, fun z hz => by
        simp only [List.mem_cons, List.not_mem_nil, or_false] at hz
        rcases hz with rfl | rfl
        · exact ⟨by decide, "java/lang/IndexOutOfBoundsException", by decide, by decide, W_L_19⟩
        · exact ⟨by decide, "java/lang/IllegalArgumentException", by decide, by decide, W_L_13⟩, rfl, by decide, W_L_45, 4, 2, Or.inr ⟨(dT U_L_merge 15 rfl), rfl⟩, by decide, ?_⟩
    refine x_iconst (dT U_L_merge 16 rfl) ?_
    refine x_ireturn (dT U_L_merge 17 rfl) rfl ?_
    exact e3 c1 c2 c3
  · refine xRetH_some ?_
    refine x_i2lN (dT U_L_merge 6 rfl) (fun z9 hz9 ez9 => ?_)
    refine x_lastore 0 (dT U_L_merge 7 rfl) (fc.get ho (by omega)) (Nat.le_of_ble_eq_true rfl) rfl (Nat.le_of_ble_eq_true rfl) (Nat.le_of_ble_eq_true rfl) ?_
    refine x_goto (tgt := 25) (dT U_L_merge 8 rfl) (by decide) ?_
    refine x_iconst (dT U_L_merge 18 rfl) ?_
    refine x_ireturn (dT U_L_merge 19 rfl) rfl ?_
    exact k c1 c2 c3 h2 fc w2 z9 hz9 ez9

set_option maxRecDepth 20000 in
set_option maxHeartbeats 1000000 in
theorem S_L_note {G : xG} {d rc rs : Nat} {ex : Bool} {h : xH} {Q : xQ} {σ : St} {note : Int} {l0 : Int} (w : CW σ h) (v : INV σ) (h_note : xr note) (ho : h[143]? = some (cJ [l0])) (e1 : ¬ (inb note σ.L.n) → Q (.inl (some (vi 1))) false h) (k : (inb note σ.L.n) → ∀ z9, xr z9 → vi (nv σ.p (σ.L.nn.getD note.toNat 0)) = vi z9 → Q (.inl (some (vi 0))) ex (h.set 143 (cJ [z9]))) : X G m_L_note (d + 8) (rc + 1) (rs + 6) ex 0 (xe m_L_note.2.2.1 [.ref 3, vi note, .ref 143]) [] h Q := by
  show X G m_L_note _ _ _ _ 0 [some (.ref 3), some (vi note), some (.ref 143), none] [] h Q
  refine x_aload_n (dT U_L_note 0 rfl) rfl ?_
  refine x_iconst (dT U_L_note 1 rfl) ?_
  refine x_aload_n (dT U_L_note 2 rfl) rfl ?_
  refine x_iload_n (dT U_L_note 3 rfl) rfl ?_
  refine x_invokevirtualH (rc' := rc) (rs' := rs) (rc2 := 0 + 1) (rs2 := 0 + 6) (As := [_]) (st := _) M_X10_note K_L_222 (dT U_L_note 4 rfl) rfl (by decide) rfl rfl w.c3 (Nat.le_of_ble_eq_true rfl) (by decide) rfl (Nat.le_of_ble_eq_true rfl) rfl (by decide) (Nat.le_of_ble_eq_true rfl) (Nat.add_comm _ _ ▸ rfl) (Nat.add_comm _ _ ▸ rfl) ?_
  refine S_X10_note w v h_note (fun c1 => ?_) (fun c1 => ?_)
  · refine xRetH_thr ?_
    refine ⟨[], (⟨0, 9, 12, 19⟩ : ExceptionTableEntry), [], rfl, fun z hz => absurd hz List.not_mem_nil, rfl, by decide, W_L_19, 3, 1, Or.inl ⟨3, (dT U_L_note 8 rfl), rfl, rfl⟩, by decide, ?_⟩
    refine x_iconst (dT U_L_note 9 rfl) ?_
    refine x_ireturn (dT U_L_note 10 rfl) rfl ?_
    exact e1 c1
  · refine xRetH_some ?_
    refine x_i2lN (dT U_L_note 5 rfl) (fun z9 hz9 ez9 => ?_)
    refine x_lastore 0 (dT U_L_note 6 rfl) ho (Nat.le_of_ble_eq_true rfl) rfl (Nat.le_of_ble_eq_true rfl) (Nat.le_of_ble_eq_true rfl) ?_
    refine x_goto (tgt := 15) (dT U_L_note 7 rfl) (by decide) ?_
    refine x_iconst (dT U_L_note 11 rfl) ?_
    refine x_ireturn (dT U_L_note 12 rfl) rfl ?_
    exact k c1 z9 hz9 ez9

set_option maxRecDepth 20000 in
set_option maxHeartbeats 1000000 in
theorem S_L_pay {G : xG} {d rc rs : Nat} {ex : Bool} {h : xH} {Q : xQ} {σ : St} {note run : Int} {l0 : Int} (w : CW σ h) (v : INV σ) (h_note : xr note) (h_run : xr run) (ho : h[143]? = some (cJ [l0])) (e1 : ¬ (inb note σ.L.n ∧ inb run 4) → Q (.inl (some (vi 1))) false h) (e2 : (inb note σ.L.n ∧ inb run 4) → ¬ (¬ (σ.L.nn.getD note.toNat 0) = -1 ∧ opn σ.p (σ.R run.toNat) (σ.L.nn.getD note.toNat 0)) → Q (.inl (some (vi 2))) false h) (k : (inb note σ.L.n ∧ inb run 4) → (¬ (σ.L.nn.getD note.toNat 0) = -1 ∧ opn σ.p (σ.R run.toNat) (σ.L.nn.getD note.toNat 0)) → ∀ h2, FC h h2 → CW (σ.sL (σ.L.n, σ.L.mi, (σ.L.pa + (σ.L.nn.getD note.toNat 0)) % (σ.p : Int), σ.L.nn.set note.toNat (-1), σ.L.gl.set note.toNat 0)) h2 → ∀ z9, xr z9 → vi ((σ.R run.toNat).v) = vi z9 → Q (.inl (some (vi 0))) ex (h2.set 143 (cJ [z9]))) : X G m_L_pay (d + 8) (rc + 4) (rs + 24) ex 0 (xe m_L_pay.2.2.1 [.ref 3, vi note, vi run, .ref 143]) [] h Q := by
  show X G m_L_pay _ _ _ _ 0 [some (.ref 3), some (vi note), some (vi run), some (.ref 143), none] [] h Q
  refine x_aload_n (dT U_L_pay 0 rfl) rfl ?_
  refine x_iconst (dT U_L_pay 1 rfl) ?_
  refine x_aload_n (dT U_L_pay 2 rfl) rfl ?_
  refine x_iload_n (dT U_L_pay 3 rfl) rfl ?_
  refine x_iload_n (dT U_L_pay 4 rfl) rfl ?_
  refine x_invokevirtualH (rc' := rc) (rs' := rs) (rc2 := 0 + 4) (rs2 := 0 + 24) (As := [_, _]) (st := _) M_X10_pay K_L_225 (dT U_L_pay 5 rfl) rfl (by decide) rfl rfl w.c3 (Nat.le_of_ble_eq_true rfl) (by decide) rfl (Nat.le_of_ble_eq_true rfl) rfl (by decide) (Nat.le_of_ble_eq_true rfl) (Nat.add_comm _ _ ▸ rfl) (Nat.add_comm _ _ ▸ rfl) ?_
  refine S_X10_pay w v h_note h_run (fun c1 => ?_) (fun c1 c2 => ?_) (fun c1 c2 h2 fc w2 => ?_)
  · refine xRetH_thr ?_
    refine ⟨[], (⟨0, 10, 13, 19⟩ : ExceptionTableEntry), [(⟨0, 10, 17, 45⟩ : ExceptionTableEntry)], rfl, fun z hz => absurd hz List.not_mem_nil, rfl, by decide, W_L_19, 4, 2, Or.inr ⟨(dT U_L_pay 9 rfl), rfl⟩, by decide, ?_⟩
    refine x_iconst (dT U_L_pay 10 rfl) ?_
    refine x_ireturn (dT U_L_pay 11 rfl) rfl ?_
    exact e1 c1
  · refine xRetH_thr ?_
    refine ⟨[(⟨0, 10, 13, 19⟩ : ExceptionTableEntry)], (⟨0, 10, 17, 45⟩ : ExceptionTableEntry), [], rfl, fun z hz => by
        simp only [List.mem_cons, List.not_mem_nil, or_false] at hz
        subst hz
        exact ⟨by decide, "java/lang/IndexOutOfBoundsException", by decide, by decide, W_L_19⟩, rfl, by decide, W_L_45, 4, 2, Or.inr ⟨(dT U_L_pay 12 rfl), rfl⟩, by decide, ?_⟩
    refine x_iconst (dT U_L_pay 13 rfl) ?_
    refine x_ireturn (dT U_L_pay 14 rfl) rfl ?_
    exact e2 c1 c2
  · refine xRetH_some ?_
    refine x_i2lN (dT U_L_pay 6 rfl) (fun z9 hz9 ez9 => ?_)
    refine x_lastore 0 (dT U_L_pay 7 rfl) (fc.get ho (by omega)) (Nat.le_of_ble_eq_true rfl) rfl (Nat.le_of_ble_eq_true rfl) (Nat.le_of_ble_eq_true rfl) ?_
    refine x_goto (tgt := 21) (dT U_L_pay 8 rfl) (by decide) ?_
    refine x_iconst (dT U_L_pay 15 rfl) ?_
    refine x_ireturn (dT U_L_pay 16 rfl) rfl ?_
    exact k c1 c2 h2 fc w2 z9 hz9 ez9

set_option maxRecDepth 20000 in
set_option maxHeartbeats 1000000 in
theorem S_L_risk {G : xG} {d rc rs : Nat} {ex : Bool} {h : xH} {Q : xQ} {σ : St} {many : Int} {l0 : UInt64} (w : CW σ h) (v : INV σ) (h_many : xr many) (ho : h[144]? = some (cD [l0])) (e1 : ¬ (1 ≤ many ∧ many ≤ 30) → Q (.inl (some (vi 1))) false h) (k : (1 ≤ many ∧ many ≤ 30) → Q (.inl (some (vi 0))) ex (h.set 144 (cD [(rkP σ.p many.toNat)]))) : X G m_L_risk (d + 7) (rc + 1) (rs + 6) ex 0 (xe m_L_risk.2.2.1 [.ref 3, vi many, .ref 144]) [] h Q := by
  show X G m_L_risk _ _ _ _ 0 [some (.ref 3), some (vi many), some (.ref 144), none] [] h Q
  refine x_aload_n (dT U_L_risk 0 rfl) rfl ?_
  refine x_iconst (dT U_L_risk 1 rfl) ?_
  refine x_aload_n (dT U_L_risk 2 rfl) rfl ?_
  refine x_iload_n (dT U_L_risk 3 rfl) rfl ?_
  refine x_invokevirtualH (rc' := rc) (rs' := rs) (rc2 := 0 + 1) (rs2 := 0 + 6) (As := [_]) (st := _) M_X10_risk K_L_228 (dT U_L_risk 4 rfl) rfl (by decide) rfl rfl w.c3 (Nat.le_of_ble_eq_true rfl) (by decide) rfl (Nat.le_of_ble_eq_true rfl) rfl (by decide) (Nat.le_of_ble_eq_true rfl) (Nat.add_comm _ _ ▸ rfl) (Nat.add_comm _ _ ▸ rfl) ?_
  refine S_X10_risk w v h_many (fun c1 => ?_) (fun c1 => ?_)
  · refine xRetH_thr ?_
    refine ⟨[], (⟨0, 8, 11, 13⟩ : ExceptionTableEntry), [], rfl, fun z hz => absurd hz List.not_mem_nil, rfl, by decide, W_L_13, 3, 1, Or.inl ⟨3, (dT U_L_risk 7 rfl), rfl, rfl⟩, by decide, ?_⟩
    refine x_iconst (dT U_L_risk 8 rfl) ?_
    refine x_ireturn (dT U_L_risk 9 rfl) rfl ?_
    exact e1 c1
  · refine xRetH_some ?_
    refine x_dastore 0 (dT U_L_risk 5 rfl) ho (Nat.le_of_ble_eq_true rfl) rfl (Nat.le_of_ble_eq_true rfl) (Nat.le_of_ble_eq_true rfl) ?_
    refine x_goto (tgt := 14) (dT U_L_risk 6 rfl) (by decide) ?_
    refine x_iconst (dT U_L_risk 10 rfl) ?_
    refine x_ireturn (dT U_L_risk 11 rfl) rfl ?_
    exact k c1
