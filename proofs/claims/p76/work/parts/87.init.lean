set_option maxRecDepth 20000 in
set_option maxHeartbeats 1000000 in
theorem S_X1_init {G : xG} {d rc rs : Nat} {h : xH} {Q : xQ} {a : Nat} (hN : h.length = a + 1) (ha : 3 ≤ a) (fa : h[a]? = some (cO 1 [vi 0]))  (kk : ∀ h2 : xH, h2.length = a + 1 → (∀ (b : Nat) (x : xC), b ≠ a → h[b]? = some x → h2[b]? = some x) → h2[a]? = some (cO 1 [vi 7]) → Q (.inl none) true h2) : X G m_X1_init (d + 1) (rc + 0) (rs + 0) true 0 (xe m_X1_init.2.2.1 [.ref a]) [] h Q := by
  show X G m_X1_init _ _ _ _ 0 [some (.ref a)] [] h Q
  refine x_aload_n (dT U_X1_init 0 rfl) rfl ?_
  refine x_objinit K_X1_3 w_oi w_oc (dT U_X1_init 1 rfl) (Nat.le_of_ble_eq_true rfl) (by omega) ?_
  refine x_aload_n (dT U_X1_init 2 rfl) rfl ?_
  refine x_bipush (dT U_X1_init 3 rfl) (by decide) ?_
  refine y_put hN F_X1_9 (dT U_X1_init 4 rfl) fa (by omega) (Nat.le_of_ble_eq_true rfl) rfl rfl (fun h1 l1 k1 f1 => ?_)
  have l1 : h1.length = a + 1 := l1
  have f1 : h1[a]? = some (cO 1 [vi 7]) := f1
  refine x_return (dT U_X1_init 5 rfl) rfl ?_
  have S0 : ∀ (b : Nat) (x : xC), b < a + 1 → b ≠ a → h[b]? = some x → h1[b]? = some x := fun b x q0 q1 hx => k1 b x (by omega) hx
  exact kk _ l1 (fun b x ne hx => S0 b x (by have := (List.getElem?_eq_some_iff.mp hx).1; omega) ne hx) f1

set_option maxRecDepth 20000 in
set_option maxHeartbeats 1000000 in
theorem S_X6_init {G : xG} {d rc rs : Nat} {h : xH} {Q : xQ} {a : Nat} (hN : h.length = a + 1) (ha : 3 ≤ a) (fa : h[a]? = some (cO 6 [.null, .null, .null]))  (kk : ∀ h2 : xH, h2.length = a + 3 → (∀ (b : Nat) (x : xC), b ≠ a → h[b]? = some x → h2[b]? = some x) → h2[a]? = some (cO 6 [.ref 4, .ref (a + 1), .ref (a + 2)]) → h2[a + 1]? = some (cA 0 (List.replicate 8 0)) → h2[a + 2]? = some (cA 0 (List.replicate 8 0)) → Q (.inl none) true h2) : X G m_X6_init (d + 1) (rc + 2) (rs + 16) true 0 (xe m_X6_init.2.2.1 [.ref a, .ref 4]) [] h Q := by
  show X G m_X6_init _ _ _ _ 0 [some (.ref a), some (.ref 4)] [] h Q
  refine x_aload_n (dT U_X6_init 0 rfl) rfl ?_
  refine x_objinit K_X6_3 w_oi w_oc (dT U_X6_init 1 rfl) (Nat.le_of_ble_eq_true rfl) (by omega) ?_
  refine x_aload_n (dT U_X6_init 2 rfl) rfl ?_
  refine x_aload_n (dT U_X6_init 3 rfl) rfl ?_
  refine y_fin hN F_X6_9 rfl rfl (dT U_X6_init 4 rfl) fa (by omega) (Nat.le_of_ble_eq_true rfl) rfl rfl (fun h1 l1 k1 f1 => ?_)
  have l1 : h1.length = a + 1 := l1
  have f1 : h1[a]? = some (cO 6 [.ref (4), .null, .null]) := f1
  refine x_aload_n (dT U_X6_init 5 rfl) rfl ?_
  refine x_bipush (dT U_X6_init 6 rfl) (by decide) ?_
  refine y_newI (rc' := rc + 1) (rs' := rs + 8) (N := a + 1) (k := 0) (atype := .int) 8 l1 (by decide) w_ac_int (dT U_X6_init 7 rfl) rfl (by decide) rfl rfl (fun h2 l2 k2 f2 => ?_)
  have l2 : h2.length = a + 2 := l2
  refine y_fin l2 F_X6_15 rfl rfl (dT U_X6_init 8 rfl) (k2 _ _ f1) (by omega) (Nat.le_of_ble_eq_true rfl) rfl rfl (fun h3 l3 k3 f3 => ?_)
  have l3 : h3.length = a + 2 := l3
  have f3 : h3[a]? = some (cO 6 [.ref (4), .ref (a + 1), .null]) := f3
  refine x_aload_n (dT U_X6_init 9 rfl) rfl ?_
  refine x_bipush (dT U_X6_init 10 rfl) (by decide) ?_
  refine y_newI (rc' := rc + 0) (rs' := rs + 0) (N := a + 2) (k := 0) (atype := .int) 8 l3 (by decide) w_ac_int (dT U_X6_init 11 rfl) rfl (by decide) rfl rfl (fun h4 l4 k4 f4 => ?_)
  have l4 : h4.length = a + 3 := l4
  refine y_fin l4 F_X6_19 rfl rfl (dT U_X6_init 12 rfl) (k4 _ _ f3) (by omega) (Nat.le_of_ble_eq_true rfl) rfl rfl (fun h5 l5 k5 f5 => ?_)
  have l5 : h5.length = a + 3 := l5
  have f5 : h5[a]? = some (cO 6 [.ref (4), .ref (a + 1), .ref (a + 2)]) := f5
  refine x_return (dT U_X6_init 13 rfl) rfl ?_
  have S4 : ∀ (b : Nat) (x : xC), b < a + 3 → b ≠ a → h4[b]? = some x → h5[b]? = some x := fun b x q0 q1 hx => k5 b x (by omega) hx
  have S3 : ∀ (b : Nat) (x : xC), b < a + 2 → b ≠ a → h3[b]? = some x → h5[b]? = some x := fun b x q0 q1 hx => S4 b x (by omega) (by omega) (k4 b x hx)
  have S2 : ∀ (b : Nat) (x : xC), b < a + 2 → b ≠ a → h2[b]? = some x → h5[b]? = some x := fun b x q0 q1 hx => S3 b x (by omega) (by omega) (k3 b x (by omega) hx)
  have S1 : ∀ (b : Nat) (x : xC), b < a + 1 → b ≠ a → h1[b]? = some x → h5[b]? = some x := fun b x q0 q1 hx => S2 b x (by omega) (by omega) (k2 b x hx)
  have S0 : ∀ (b : Nat) (x : xC), b < a + 1 → b ≠ a → h[b]? = some x → h5[b]? = some x := fun b x q0 q1 hx => S1 b x (by omega) (by omega) (k1 b x (by omega) hx)
  exact kk _ l5 (fun b x ne hx => S0 b x (by have := (List.getElem?_eq_some_iff.mp hx).1; omega) ne hx) f5 (S2 _ _ (by omega) (by omega) f2) (S4 _ _ (by omega) (by omega) f4)

set_option maxRecDepth 20000 in
set_option maxHeartbeats 1000000 in
theorem S_X7_init {G : xG} {d rc rs : Nat} {h : xH} {Q : xQ} {a : Nat} {q0 : Int} (hN : h.length = a + 1) (ha : 3 ≤ a) (fa : h[a]? = some (cO 7 [.null, .null, .null, .null, .null, vi 0, vi 0, vi 0, vi 0, vi 0, vi 0, vi 0, vi 0])) (f5 : h[5]? = some (cO 3 [.ref 4, vi q0, .ref 6, .ref 7, .ref 8])) (f59 : 5 < a) (kk : ∀ h2 : xH, h2.length = a + 4 → (∀ (b : Nat) (x : xC), b ≠ a → h[b]? = some x → h2[b]? = some x) → h2[a]? = some (cR a (-1, -1, -1, -1, -1, -1, -1, 0)) → h2[a + 1]? = some (cA 0 (List.replicate 8 0)) → h2[a + 2]? = some (cA 0 (List.replicate 8 0)) → h2[a + 3]? = some (cA 0 (List.replicate 8 0)) → Q (.inl none) true h2) : X G m_X7_init (d + 1) (rc + 3) (rs + 24) true 0 (xe m_X7_init.2.2.1 [.ref a, .ref 5]) [] h Q := by
  show X G m_X7_init _ _ _ _ 0 [some (.ref a), some (.ref 5)] [] h Q
  refine x_aload_n (dT U_X7_init 0 rfl) rfl ?_
  refine x_objinit K_X7_3 w_oi w_oc (dT U_X7_init 1 rfl) (Nat.le_of_ble_eq_true rfl) (by omega) ?_
  refine x_aload_n (dT U_X7_init 2 rfl) rfl ?_
  refine x_aload_n (dT U_X7_init 3 rfl) rfl ?_
  refine y_fin hN F_X7_9 rfl rfl (dT U_X7_init 4 rfl) fa (by omega) (Nat.le_of_ble_eq_true rfl) rfl rfl (fun h1 l1 k1 f1 => ?_)
  have l1 : h1.length = a + 1 := l1
  have f1 : h1[a]? = some (cO 7 [.ref (5), .null, .null, .null, .null, vi 0, vi 0, vi 0, vi 0, vi 0, vi 0, vi 0, vi 0]) := f1
  refine x_aload_n (dT U_X7_init 5 rfl) rfl ?_
  refine x_aload_n (dT U_X7_init 6 rfl) rfl ?_
  refine x_getfield F_X7_15 (dT U_X7_init 7 rfl) (k1 _ _ (by omega) f5) (Nat.le_of_ble_eq_true rfl) rfl ?_
  refine y_fin l1 F_X7_21 rfl rfl (dT U_X7_init 8 rfl) f1 (by omega) (Nat.le_of_ble_eq_true rfl) rfl rfl (fun h2 l2 k2 f2 => ?_)
  have l2 : h2.length = a + 1 := l2
  have f2 : h2[a]? = some (cO 7 [.ref (5), .ref (4), .null, .null, .null, vi 0, vi 0, vi 0, vi 0, vi 0, vi 0, vi 0, vi 0]) := f2
  refine x_aload_n (dT U_X7_init 9 rfl) rfl ?_
  refine x_bipush (dT U_X7_init 10 rfl) (by decide) ?_
  refine y_newI (rc' := rc + 2) (rs' := rs + 16) (N := a + 1) (k := 0) (atype := .int) 8 l2 (by decide) w_ac_int (dT U_X7_init 11 rfl) rfl (by decide) rfl rfl (fun h3 l3 k3 f3 => ?_)
  have l3 : h3.length = a + 2 := l3
  refine y_fin l3 F_X7_22 rfl rfl (dT U_X7_init 12 rfl) (k3 _ _ f2) (by omega) (Nat.le_of_ble_eq_true rfl) rfl rfl (fun h4 l4 k4 f4 => ?_)
  have l4 : h4.length = a + 2 := l4
  have f4 : h4[a]? = some (cO 7 [.ref (5), .ref (4), .ref (a + 1), .null, .null, vi 0, vi 0, vi 0, vi 0, vi 0, vi 0, vi 0, vi 0]) := f4
  refine x_aload_n (dT U_X7_init 13 rfl) rfl ?_
  refine x_bipush (dT U_X7_init 14 rfl) (by decide) ?_
  refine y_newI (rc' := rc + 1) (rs' := rs + 8) (N := a + 2) (k := 0) (atype := .int) 8 l4 (by decide) w_ac_int (dT U_X7_init 15 rfl) rfl (by decide) rfl rfl (fun h5 l5 k5 f5 => ?_)
  have l5 : h5.length = a + 3 := l5
  refine y_fin l5 F_X7_26 rfl rfl (dT U_X7_init 16 rfl) (k5 _ _ f4) (by omega) (Nat.le_of_ble_eq_true rfl) rfl rfl (fun h6 l6 k6 f6 => ?_)
  have l6 : h6.length = a + 3 := l6
  have f6 : h6[a]? = some (cO 7 [.ref (5), .ref (4), .ref (a + 1), .ref (a + 2), .null, vi 0, vi 0, vi 0, vi 0, vi 0, vi 0, vi 0, vi 0]) := f6
  refine x_aload_n (dT U_X7_init 17 rfl) rfl ?_
  refine x_bipush (dT U_X7_init 18 rfl) (by decide) ?_
  refine y_newI (rc' := rc + 0) (rs' := rs + 0) (N := a + 3) (k := 0) (atype := .int) 8 l6 (by decide) w_ac_int (dT U_X7_init 19 rfl) rfl (by decide) rfl rfl (fun h7 l7 k7 f7 => ?_)
  have l7 : h7.length = a + 4 := l7
  refine y_fin l7 F_X7_29 rfl rfl (dT U_X7_init 20 rfl) (k7 _ _ f6) (by omega) (Nat.le_of_ble_eq_true rfl) rfl rfl (fun h8 l8 k8 f8 => ?_)
  have l8 : h8.length = a + 4 := l8
  have f8 : h8[a]? = some (cO 7 [.ref (5), .ref (4), .ref (a + 1), .ref (a + 2), .ref (a + 3), vi 0, vi 0, vi 0, vi 0, vi 0, vi 0, vi 0, vi 0]) := f8
  refine x_aload_n (dT U_X7_init 21 rfl) rfl ?_
  refine x_invokevirtual (rc' := rc + 0) (rs' := rs + 0) (rc2 := 0) (rs2 := 0) (As := []) (st := _) M_X7_forget K_X7_32 (dT U_X7_init 22 rfl) rfl rfl (by decide) rfl rfl f8 (by omega) (by decide) rfl (Nat.le_of_ble_eq_true rfl) rfl (by decide) (Nat.le_of_ble_eq_true rfl) rfl rfl ?_
  refine S_X7_forget ha (show _ = some (cR a (0, 0, 0, 0, 0, 0, 0, 0)) from f8) ?_
  refine xRet_none ?_
  have l9 : (h8.set a (cR a (-1, -1, -1, -1, -1, -1, -1, 0))).length = a + 4 := by rw [List.length_set]; exact l8
  have k9 : Kp a h8 (h8.set a (cR a (-1, -1, -1, -1, -1, -1, -1, 0))) := Kp.st
  have f9 : (h8.set a (cR a (-1, -1, -1, -1, -1, -1, -1, 0)))[a]? = some (cR a (-1, -1, -1, -1, -1, -1, -1, 0)) := hset_eq f8
  generalize (h8.set a (cR a (-1, -1, -1, -1, -1, -1, -1, 0))) = h9 at l9 k9 f9 ⊢
  refine x_return (dT U_X7_init 23 rfl) rfl ?_
  have S8 : ∀ (b : Nat) (x : xC), b < a + 4 → b ≠ a → h8[b]? = some x → h9[b]? = some x := fun b x q0 q1 hx => k9 b x (by omega) hx
  have S7 : ∀ (b : Nat) (x : xC), b < a + 4 → b ≠ a → h7[b]? = some x → h9[b]? = some x := fun b x q0 q1 hx => S8 b x (by omega) (by omega) (k8 b x (by omega) hx)
  have S6 : ∀ (b : Nat) (x : xC), b < a + 3 → b ≠ a → h6[b]? = some x → h9[b]? = some x := fun b x q0 q1 hx => S7 b x (by omega) (by omega) (k7 b x hx)
  have S5 : ∀ (b : Nat) (x : xC), b < a + 3 → b ≠ a → h5[b]? = some x → h9[b]? = some x := fun b x q0 q1 hx => S6 b x (by omega) (by omega) (k6 b x (by omega) hx)
  have S4 : ∀ (b : Nat) (x : xC), b < a + 2 → b ≠ a → h4[b]? = some x → h9[b]? = some x := fun b x q0 q1 hx => S5 b x (by omega) (by omega) (k5 b x hx)
  have S3 : ∀ (b : Nat) (x : xC), b < a + 2 → b ≠ a → h3[b]? = some x → h9[b]? = some x := fun b x q0 q1 hx => S4 b x (by omega) (by omega) (k4 b x (by omega) hx)
  have S2 : ∀ (b : Nat) (x : xC), b < a + 1 → b ≠ a → h2[b]? = some x → h9[b]? = some x := fun b x q0 q1 hx => S3 b x (by omega) (by omega) (k3 b x hx)
  have S1 : ∀ (b : Nat) (x : xC), b < a + 1 → b ≠ a → h1[b]? = some x → h9[b]? = some x := fun b x q0 q1 hx => S2 b x (by omega) (by omega) (k2 b x (by omega) hx)
  have S0 : ∀ (b : Nat) (x : xC), b < a + 1 → b ≠ a → h[b]? = some x → h9[b]? = some x := fun b x q0 q1 hx => S1 b x (by omega) (by omega) (k1 b x (by omega) hx)
  exact kk _ l9 (fun b x ne hx => S0 b x (by have := (List.getElem?_eq_some_iff.mp hx).1; omega) ne hx) f9 (S3 _ _ (by omega) (by omega) f3) (S5 _ _ (by omega) (by omega) f5) (S7 _ _ (by omega) (by omega) f7)

set_option maxRecDepth 20000 in
set_option maxHeartbeats 1000000 in
theorem S_X5_init {G : xG} {d rc rs : Nat} {h : xH} {Q : xQ} {a : Nat} {q0 : Int} (hN : h.length = a + 1) (ha : 3 ≤ a) (fa : h[a]? = some (cO 5 [.null, .null, .null, .null, .null, vi 0, vi 0, vi 0, vi 0, vi 0])) (f5 : h[5]? = some (cO 3 [.ref 4, vi q0, .ref 6, .ref 7, .ref 8])) (f59 : 5 < a) (kk : ∀ h2 : xH, h2.length = a + 4 → (∀ (b : Nat) (x : xC), b ≠ a → h[b]? = some x → h2[b]? = some x) → h2[a]? = some (cP a (-1) 0 0 (-1) (-1)) → h2[a + 1]? = some (cA 0 (List.replicate 2 0)) → h2[a + 2]? = some (cA 0 (List.replicate 2 0)) → h2[a + 3]? = some (cA 0 (List.replicate 2 0)) → Q (.inl none) true h2) : X G m_X5_init (d + 1) (rc + 3) (rs + 6) true 0 (xe m_X5_init.2.2.1 [.ref a, .ref 5]) [] h Q := by
  show X G m_X5_init _ _ _ _ 0 [some (.ref a), some (.ref 5)] [] h Q
  refine x_aload_n (dT U_X5_init 0 rfl) rfl ?_
  refine x_objinit K_X5_3 w_oi w_oc (dT U_X5_init 1 rfl) (Nat.le_of_ble_eq_true rfl) (by omega) ?_
  refine x_aload_n (dT U_X5_init 2 rfl) rfl ?_
  refine x_aload_n (dT U_X5_init 3 rfl) rfl ?_
  refine y_fin hN F_X5_9 rfl rfl (dT U_X5_init 4 rfl) fa (by omega) (Nat.le_of_ble_eq_true rfl) rfl rfl (fun h1 l1 k1 f1 => ?_)
  have l1 : h1.length = a + 1 := l1
  have f1 : h1[a]? = some (cO 5 [.ref (5), .null, .null, .null, .null, vi 0, vi 0, vi 0, vi 0, vi 0]) := f1
  refine x_aload_n (dT U_X5_init 5 rfl) rfl ?_
  refine x_aload_n (dT U_X5_init 6 rfl) rfl ?_
  refine x_getfield F_X5_15 (dT U_X5_init 7 rfl) (k1 _ _ (by omega) f5) (Nat.le_of_ble_eq_true rfl) rfl ?_
  refine y_fin l1 F_X5_21 rfl rfl (dT U_X5_init 8 rfl) f1 (by omega) (Nat.le_of_ble_eq_true rfl) rfl rfl (fun h2 l2 k2 f2 => ?_)
  have l2 : h2.length = a + 1 := l2
  have f2 : h2[a]? = some (cO 5 [.ref (5), .ref (4), .null, .null, .null, vi 0, vi 0, vi 0, vi 0, vi 0]) := f2
  refine x_aload_n (dT U_X5_init 9 rfl) rfl ?_
  refine x_iconst (dT U_X5_init 10 rfl) ?_
  refine y_newI (rc' := rc + 2) (rs' := rs + 4) (N := a + 1) (k := 0) (atype := .int) 2 l2 (by decide) w_ac_int (dT U_X5_init 11 rfl) rfl (by decide) rfl rfl (fun h3 l3 k3 f3 => ?_)
  have l3 : h3.length = a + 2 := l3
  refine y_fin l3 F_X5_22 rfl rfl (dT U_X5_init 12 rfl) (k3 _ _ f2) (by omega) (Nat.le_of_ble_eq_true rfl) rfl rfl (fun h4 l4 k4 f4 => ?_)
  have l4 : h4.length = a + 2 := l4
  have f4 : h4[a]? = some (cO 5 [.ref (5), .ref (4), .ref (a + 1), .null, .null, vi 0, vi 0, vi 0, vi 0, vi 0]) := f4
  refine x_aload_n (dT U_X5_init 13 rfl) rfl ?_
  refine x_iconst (dT U_X5_init 14 rfl) ?_
  refine y_newI (rc' := rc + 1) (rs' := rs + 2) (N := a + 2) (k := 0) (atype := .int) 2 l4 (by decide) w_ac_int (dT U_X5_init 15 rfl) rfl (by decide) rfl rfl (fun h5 l5 k5 f5 => ?_)
  have l5 : h5.length = a + 3 := l5
  refine y_fin l5 F_X5_26 rfl rfl (dT U_X5_init 16 rfl) (k5 _ _ f4) (by omega) (Nat.le_of_ble_eq_true rfl) rfl rfl (fun h6 l6 k6 f6 => ?_)
  have l6 : h6.length = a + 3 := l6
  have f6 : h6[a]? = some (cO 5 [.ref (5), .ref (4), .ref (a + 1), .ref (a + 2), .null, vi 0, vi 0, vi 0, vi 0, vi 0]) := f6
  refine x_aload_n (dT U_X5_init 17 rfl) rfl ?_
  refine x_iconst (dT U_X5_init 18 rfl) ?_
  refine y_newI (rc' := rc + 0) (rs' := rs + 0) (N := a + 3) (k := 0) (atype := .int) 2 l6 (by decide) w_ac_int (dT U_X5_init 19 rfl) rfl (by decide) rfl rfl (fun h7 l7 k7 f7 => ?_)
  have l7 : h7.length = a + 4 := l7
  refine y_fin l7 F_X5_29 rfl rfl (dT U_X5_init 20 rfl) (k7 _ _ f6) (by omega) (Nat.le_of_ble_eq_true rfl) rfl rfl (fun h8 l8 k8 f8 => ?_)
  have l8 : h8.length = a + 4 := l8
  have f8 : h8[a]? = some (cO 5 [.ref (5), .ref (4), .ref (a + 1), .ref (a + 2), .ref (a + 3), vi 0, vi 0, vi 0, vi 0, vi 0]) := f8
  refine x_aload_n (dT U_X5_init 21 rfl) rfl ?_
  refine x_invokevirtual (rc' := rc + 0) (rs' := rs + 0) (rc2 := 0) (rs2 := 0) (As := []) (st := _) M_X5_forget K_X5_32 (dT U_X5_init 22 rfl) rfl rfl (by decide) rfl rfl f8 (by omega) (by decide) rfl (Nat.le_of_ble_eq_true rfl) rfl (by decide) (Nat.le_of_ble_eq_true rfl) rfl rfl ?_
  refine S_X5_forget ha (show _ = some (cP a 0 0 0 0 0) from f8) ?_
  refine xRet_none ?_
  have l9 : (h8.set a (cP a (-1) 0 0 (-1) (-1))).length = a + 4 := by rw [List.length_set]; exact l8
  have k9 : Kp a h8 (h8.set a (cP a (-1) 0 0 (-1) (-1))) := Kp.st
  have f9 : (h8.set a (cP a (-1) 0 0 (-1) (-1)))[a]? = some (cP a (-1) 0 0 (-1) (-1)) := hset_eq f8
  generalize (h8.set a (cP a (-1) 0 0 (-1) (-1))) = h9 at l9 k9 f9 ⊢
  refine x_return (dT U_X5_init 23 rfl) rfl ?_
  have S8 : ∀ (b : Nat) (x : xC), b < a + 4 → b ≠ a → h8[b]? = some x → h9[b]? = some x := fun b x q0 q1 hx => k9 b x (by omega) hx
  have S7 : ∀ (b : Nat) (x : xC), b < a + 4 → b ≠ a → h7[b]? = some x → h9[b]? = some x := fun b x q0 q1 hx => S8 b x (by omega) (by omega) (k8 b x (by omega) hx)
  have S6 : ∀ (b : Nat) (x : xC), b < a + 3 → b ≠ a → h6[b]? = some x → h9[b]? = some x := fun b x q0 q1 hx => S7 b x (by omega) (by omega) (k7 b x hx)
  have S5 : ∀ (b : Nat) (x : xC), b < a + 3 → b ≠ a → h5[b]? = some x → h9[b]? = some x := fun b x q0 q1 hx => S6 b x (by omega) (by omega) (k6 b x (by omega) hx)
  have S4 : ∀ (b : Nat) (x : xC), b < a + 2 → b ≠ a → h4[b]? = some x → h9[b]? = some x := fun b x q0 q1 hx => S5 b x (by omega) (by omega) (k5 b x hx)
  have S3 : ∀ (b : Nat) (x : xC), b < a + 2 → b ≠ a → h3[b]? = some x → h9[b]? = some x := fun b x q0 q1 hx => S4 b x (by omega) (by omega) (k4 b x (by omega) hx)
  have S2 : ∀ (b : Nat) (x : xC), b < a + 1 → b ≠ a → h2[b]? = some x → h9[b]? = some x := fun b x q0 q1 hx => S3 b x (by omega) (by omega) (k3 b x hx)
  have S1 : ∀ (b : Nat) (x : xC), b < a + 1 → b ≠ a → h1[b]? = some x → h9[b]? = some x := fun b x q0 q1 hx => S2 b x (by omega) (by omega) (k2 b x (by omega) hx)
  have S0 : ∀ (b : Nat) (x : xC), b < a + 1 → b ≠ a → h[b]? = some x → h9[b]? = some x := fun b x q0 q1 hx => S1 b x (by omega) (by omega) (k1 b x (by omega) hx)
  exact kk _ l9 (fun b x ne hx => S0 b x (by have := (List.getElem?_eq_some_iff.mp hx).1; omega) ne hx) f9 (S3 _ _ (by omega) (by omega) f3) (S5 _ _ (by omega) (by omega) f5) (S7 _ _ (by omega) (by omega) f7)

set_option maxRecDepth 20000 in
set_option maxHeartbeats 1000000 in
theorem S_X0_init {G : xG} {d rc rs : Nat} {h : xH} {Q : xQ} {a : Nat} (hN : h.length = a + 1) (ha : 3 ≤ a) (fa : h[a]? = some (cO 0 [.null, .null, .null, .null, .null, .null, vi 0]))  (kk : ∀ h2 : xH, h2.length = a + 5 → (∀ (b : Nat) (x : xC), b ≠ a → h[b]? = some x → h2[b]? = some x) → h2[a]? = some (cO 0 [.ref 4, .ref 9, .ref (a + 1), .ref (a + 2), .ref (a + 3), .ref (a + 4), vi 0]) → h2[a + 1]? = some (cA 0 (List.replicate 8 0)) → h2[a + 2]? = some (cA 0 (List.replicate 8 0)) → h2[a + 3]? = some (cA 0 (List.replicate 8 0)) → h2[a + 4]? = some (cA 0 (List.replicate 8 0)) → Q (.inl none) true h2) : X G m_X0_init (d + 1) (rc + 4) (rs + 32) true 0 (xe m_X0_init.2.2.1 [.ref a, .ref 4, .ref 9]) [] h Q := by
  show X G m_X0_init _ _ _ _ 0 [some (.ref a), some (.ref 4), some (.ref 9)] [] h Q
  refine x_aload_n (dT U_X0_init 0 rfl) rfl ?_
  refine x_objinit K_X0_3 w_oi w_oc (dT U_X0_init 1 rfl) (Nat.le_of_ble_eq_true rfl) (by omega) ?_
  refine x_aload_n (dT U_X0_init 2 rfl) rfl ?_
  refine x_aload_n (dT U_X0_init 3 rfl) rfl ?_
  refine y_fin hN F_X0_9 rfl rfl (dT U_X0_init 4 rfl) fa (by omega) (Nat.le_of_ble_eq_true rfl) rfl rfl (fun h1 l1 k1 f1 => ?_)
  have l1 : h1.length = a + 1 := l1
  have f1 : h1[a]? = some (cO 0 [.ref (4), .null, .null, .null, .null, .null, vi 0]) := f1
  refine x_aload_n (dT U_X0_init 5 rfl) rfl ?_
  refine x_aload_n (dT U_X0_init 6 rfl) rfl ?_
  refine y_fin l1 F_X0_15 rfl rfl (dT U_X0_init 7 rfl) f1 (by omega) (Nat.le_of_ble_eq_true rfl) rfl rfl (fun h2 l2 k2 f2 => ?_)
  have l2 : h2.length = a + 1 := l2
  have f2 : h2[a]? = some (cO 0 [.ref (4), .ref (9), .null, .null, .null, .null, vi 0]) := f2
  refine x_aload_n (dT U_X0_init 8 rfl) rfl ?_
  refine x_bipush (dT U_X0_init 9 rfl) (by decide) ?_
  refine y_newI (rc' := rc + 3) (rs' := rs + 24) (N := a + 1) (k := 0) (atype := .int) 8 l2 (by decide) w_ac_int (dT U_X0_init 10 rfl) rfl (by decide) rfl rfl (fun h3 l3 k3 f3 => ?_)
  have l3 : h3.length = a + 2 := l3
  refine y_fin l3 F_X0_19 rfl rfl (dT U_X0_init 11 rfl) (k3 _ _ f2) (by omega) (Nat.le_of_ble_eq_true rfl) rfl rfl (fun h4 l4 k4 f4 => ?_)
  have l4 : h4.length = a + 2 := l4
  have f4 : h4[a]? = some (cO 0 [.ref (4), .ref (9), .ref (a + 1), .null, .null, .null, vi 0]) := f4
  refine x_aload_n (dT U_X0_init 12 rfl) rfl ?_
  refine x_bipush (dT U_X0_init 13 rfl) (by decide) ?_
  refine y_newI (rc' := rc + 2) (rs' := rs + 16) (N := a + 2) (k := 0) (atype := .int) 8 l4 (by decide) w_ac_int (dT U_X0_init 14 rfl) rfl (by decide) rfl rfl (fun h5 l5 k5 f5 => ?_)
  have l5 : h5.length = a + 3 := l5
  refine y_fin l5 F_X0_23 rfl rfl (dT U_X0_init 15 rfl) (k5 _ _ f4) (by omega) (Nat.le_of_ble_eq_true rfl) rfl rfl (fun h6 l6 k6 f6 => ?_)
  have l6 : h6.length = a + 3 := l6
  have f6 : h6[a]? = some (cO 0 [.ref (4), .ref (9), .ref (a + 1), .ref (a + 2), .null, .null, vi 0]) := f6
  refine x_aload_n (dT U_X0_init 16 rfl) rfl ?_
  refine x_bipush (dT U_X0_init 17 rfl) (by decide) ?_
  refine y_newI (rc' := rc + 1) (rs' := rs + 8) (N := a + 3) (k := 0) (atype := .int) 8 l6 (by decide) w_ac_int (dT U_X0_init 18 rfl) rfl (by decide) rfl rfl (fun h7 l7 k7 f7 => ?_)
  have l7 : h7.length = a + 4 := l7
  refine y_fin l7 F_X0_26 rfl rfl (dT U_X0_init 19 rfl) (k7 _ _ f6) (by omega) (Nat.le_of_ble_eq_true rfl) rfl rfl (fun h8 l8 k8 f8 => ?_)
  have l8 : h8.length = a + 4 := l8
  have f8 : h8[a]? = some (cO 0 [.ref (4), .ref (9), .ref (a + 1), .ref (a + 2), .ref (a + 3), .null, vi 0]) := f8
  refine x_aload_n (dT U_X0_init 20 rfl) rfl ?_
  refine x_bipush (dT U_X0_init 21 rfl) (by decide) ?_
  refine y_newI (rc' := rc + 0) (rs' := rs + 0) (N := a + 4) (k := 0) (atype := .int) 8 l8 (by decide) w_ac_int (dT U_X0_init 22 rfl) rfl (by decide) rfl rfl (fun h9 l9 k9 f9 => ?_)
  have l9 : h9.length = a + 5 := l9
  refine y_fin l9 F_X0_29 rfl rfl (dT U_X0_init 23 rfl) (k9 _ _ f8) (by omega) (Nat.le_of_ble_eq_true rfl) rfl rfl (fun h10 l10 k10 f10 => ?_)
  have l10 : h10.length = a + 5 := l10
  have f10 : h10[a]? = some (cO 0 [.ref (4), .ref (9), .ref (a + 1), .ref (a + 2), .ref (a + 3), .ref (a + 4), vi 0]) := f10
  refine x_return (dT U_X0_init 24 rfl) rfl ?_
  have S9 : ∀ (b : Nat) (x : xC), b < a + 5 → b ≠ a → h9[b]? = some x → h10[b]? = some x := fun b x q0 q1 hx => k10 b x (by omega) hx
  have S8 : ∀ (b : Nat) (x : xC), b < a + 4 → b ≠ a → h8[b]? = some x → h10[b]? = some x := fun b x q0 q1 hx => S9 b x (by omega) (by omega) (k9 b x hx)
  have S7 : ∀ (b : Nat) (x : xC), b < a + 4 → b ≠ a → h7[b]? = some x → h10[b]? = some x := fun b x q0 q1 hx => S8 b x (by omega) (by omega) (k8 b x (by omega) hx)
  have S6 : ∀ (b : Nat) (x : xC), b < a + 3 → b ≠ a → h6[b]? = some x → h10[b]? = some x := fun b x q0 q1 hx => S7 b x (by omega) (by omega) (k7 b x hx)
  have S5 : ∀ (b : Nat) (x : xC), b < a + 3 → b ≠ a → h5[b]? = some x → h10[b]? = some x := fun b x q0 q1 hx => S6 b x (by omega) (by omega) (k6 b x (by omega) hx)
  have S4 : ∀ (b : Nat) (x : xC), b < a + 2 → b ≠ a → h4[b]? = some x → h10[b]? = some x := fun b x q0 q1 hx => S5 b x (by omega) (by omega) (k5 b x hx)
  have S3 : ∀ (b : Nat) (x : xC), b < a + 2 → b ≠ a → h3[b]? = some x → h10[b]? = some x := fun b x q0 q1 hx => S4 b x (by omega) (by omega) (k4 b x (by omega) hx)
  have S2 : ∀ (b : Nat) (x : xC), b < a + 1 → b ≠ a → h2[b]? = some x → h10[b]? = some x := fun b x q0 q1 hx => S3 b x (by omega) (by omega) (k3 b x hx)
  have S1 : ∀ (b : Nat) (x : xC), b < a + 1 → b ≠ a → h1[b]? = some x → h10[b]? = some x := fun b x q0 q1 hx => S2 b x (by omega) (by omega) (k2 b x (by omega) hx)
  have S0 : ∀ (b : Nat) (x : xC), b < a + 1 → b ≠ a → h[b]? = some x → h10[b]? = some x := fun b x q0 q1 hx => S1 b x (by omega) (by omega) (k1 b x (by omega) hx)
  exact kk _ l10 (fun b x ne hx => S0 b x (by have := (List.getElem?_eq_some_iff.mp hx).1; omega) ne hx) f10 (S3 _ _ (by omega) (by omega) f3) (S5 _ _ (by omega) (by omega) f5) (S7 _ _ (by omega) (by omega) f7) (S9 _ _ (by omega) (by omega) f9)

set_option maxRecDepth 20000 in
set_option maxHeartbeats 1000000 in
theorem S_X2_init {G : xG} {d rc rs : Nat} {h : xH} {Q : xQ} {a : Nat} (hN : h.length = a + 1) (ha : 3 ≤ a) (fa : h[a]? = some (cO 2 [.null, .null, vi 0, vi 0, vi 0, vi 0, vi 0, vi 0, vi 0]))  (kk : ∀ h2 : xH, h2.length = a + 2 → (∀ (b : Nat) (x : xC), b ≠ a → h[b]? = some x → h2[b]? = some x) → h2[a]? = some (cO 2 [.ref 4, .ref (a + 1), vi 0, vi 0, vi 0, vi 0, vi 0, vi 0, vi 0]) → h2[a + 1]? = some (cA 0 (List.replicate 8 0)) → Q (.inl none) true h2) : X G m_X2_init (d + 1) (rc + 1) (rs + 8) true 0 (xe m_X2_init.2.2.1 [.ref a, .ref 4]) [] h Q := by
  show X G m_X2_init _ _ _ _ 0 [some (.ref a), some (.ref 4)] [] h Q
  refine x_aload_n (dT U_X2_init 0 rfl) rfl ?_
  refine x_objinit K_X2_3 w_oi w_oc (dT U_X2_init 1 rfl) (Nat.le_of_ble_eq_true rfl) (by omega) ?_
  refine x_aload_n (dT U_X2_init 2 rfl) rfl ?_
  refine x_aload_n (dT U_X2_init 3 rfl) rfl ?_
  refine y_fin hN F_X2_9 rfl rfl (dT U_X2_init 4 rfl) fa (by omega) (Nat.le_of_ble_eq_true rfl) rfl rfl (fun h1 l1 k1 f1 => ?_)
  have l1 : h1.length = a + 1 := l1
  have f1 : h1[a]? = some (cO 2 [.ref (4), .null, vi 0, vi 0, vi 0, vi 0, vi 0, vi 0, vi 0]) := f1
  refine x_aload_n (dT U_X2_init 5 rfl) rfl ?_
  refine x_bipush (dT U_X2_init 6 rfl) (by decide) ?_
  refine y_newI (rc' := rc + 0) (rs' := rs + 0) (N := a + 1) (k := 0) (atype := .int) 8 l1 (by decide) w_ac_int (dT U_X2_init 7 rfl) rfl (by decide) rfl rfl (fun h2 l2 k2 f2 => ?_)
  have l2 : h2.length = a + 2 := l2
  refine y_fin l2 F_X2_15 rfl rfl (dT U_X2_init 8 rfl) (k2 _ _ f1) (by omega) (Nat.le_of_ble_eq_true rfl) rfl rfl (fun h3 l3 k3 f3 => ?_)
  have l3 : h3.length = a + 2 := l3
  have f3 : h3[a]? = some (cO 2 [.ref (4), .ref (a + 1), vi 0, vi 0, vi 0, vi 0, vi 0, vi 0, vi 0]) := f3
  refine x_return (dT U_X2_init 9 rfl) rfl ?_
  have S2 : ∀ (b : Nat) (x : xC), b < a + 2 → b ≠ a → h2[b]? = some x → h3[b]? = some x := fun b x q0 q1 hx => k3 b x (by omega) hx
  have S1 : ∀ (b : Nat) (x : xC), b < a + 1 → b ≠ a → h1[b]? = some x → h3[b]? = some x := fun b x q0 q1 hx => S2 b x (by omega) (by omega) (k2 b x hx)
  have S0 : ∀ (b : Nat) (x : xC), b < a + 1 → b ≠ a → h[b]? = some x → h3[b]? = some x := fun b x q0 q1 hx => S1 b x (by omega) (by omega) (k1 b x (by omega) hx)
  exact kk _ l3 (fun b x ne hx => S0 b x (by have := (List.getElem?_eq_some_iff.mp hx).1; omega) ne hx) f3 (S2 _ _ (by omega) (by omega) f2)

set_option maxRecDepth 20000 in
set_option maxHeartbeats 1000000 in
theorem S_X8_init {G : xG} {d rc rs : Nat} {h : xH} {Q : xQ} {a : Nat} (hN : h.length = a + 1) (ha : 3 ≤ a) (fa : h[a]? = some (cO 8 [.null]))  (kk : ∀ h2 : xH, h2.length = a + 2 → (∀ (b : Nat) (x : xC), b ≠ a → h[b]? = some x → h2[b]? = some x) → h2[a]? = some (cO 8 [.ref (a + 1)]) → h2[a + 1]? = some (cA 0 (List.replicate 16 0)) → Q (.inl none) true h2) : X G m_X8_init (d + 1) (rc + 1) (rs + 16) true 0 (xe m_X8_init.2.2.1 [.ref a]) [] h Q := by
  show X G m_X8_init _ _ _ _ 0 [some (.ref a)] [] h Q
  refine x_aload_n (dT U_X8_init 0 rfl) rfl ?_
  refine x_objinit K_X8_3 w_oi w_oc (dT U_X8_init 1 rfl) (Nat.le_of_ble_eq_true rfl) (by omega) ?_
  refine x_aload_n (dT U_X8_init 2 rfl) rfl ?_
  refine x_bipush (dT U_X8_init 3 rfl) (by decide) ?_
  refine y_newI (rc' := rc + 0) (rs' := rs + 0) (N := a + 1) (k := 0) (atype := .int) 16 hN (by decide) w_ac_int (dT U_X8_init 4 rfl) rfl (by decide) rfl rfl (fun h1 l1 k1 f1 => ?_)
  have l1 : h1.length = a + 2 := l1
  refine y_fin l1 F_X8_9 rfl rfl (dT U_X8_init 5 rfl) (k1 _ _ fa) (by omega) (Nat.le_of_ble_eq_true rfl) rfl rfl (fun h2 l2 k2 f2 => ?_)
  have l2 : h2.length = a + 2 := l2
  have f2 : h2[a]? = some (cO 8 [.ref (a + 1)]) := f2
  refine x_return (dT U_X8_init 6 rfl) rfl ?_
  have S1 : ∀ (b : Nat) (x : xC), b < a + 2 → b ≠ a → h1[b]? = some x → h2[b]? = some x := fun b x q0 q1 hx => k2 b x (by omega) hx
  have S0 : ∀ (b : Nat) (x : xC), b < a + 1 → b ≠ a → h[b]? = some x → h2[b]? = some x := fun b x q0 q1 hx => S1 b x (by omega) (by omega) (k1 b x hx)
  exact kk _ l2 (fun b x ne hx => S0 b x (by have := (List.getElem?_eq_some_iff.mp hx).1; omega) ne hx) f2 (S1 _ _ (by omega) (by omega) f1)

set_option maxRecDepth 20000 in
set_option maxHeartbeats 1000000 in
theorem S_X9_init {G : xG} {d rc rs : Nat} {h : xH} {Q : xQ} {a : Nat} (hN : h.length = a + 1) (ha : 3 ≤ a) (fa : h[a]? = some (cO 9 [.null, .null, .null]))  (kk : ∀ h2 : xH, h2.length = a + 4 → (∀ (b : Nat) (x : xC), b ≠ a → h[b]? = some x → h2[b]? = some x) → h2[a]? = some (cO 9 [.ref (a + 1), .ref (a + 2), .ref (a + 3)]) → h2[a + 1]? = some (cA 0 (List.replicate 4 0)) → h2[a + 2]? = some (cA 0 (List.replicate 4 0)) → h2[a + 3]? = some (cA 0 (List.replicate 4 0)) → Q (.inl none) true h2) : X G m_X9_init (d + 1) (rc + 3) (rs + 12) true 0 (xe m_X9_init.2.2.1 [.ref a]) [] h Q := by
  show X G m_X9_init _ _ _ _ 0 [some (.ref a)] [] h Q
  refine x_aload_n (dT U_X9_init 0 rfl) rfl ?_
  refine x_objinit K_X9_3 w_oi w_oc (dT U_X9_init 1 rfl) (Nat.le_of_ble_eq_true rfl) (by omega) ?_
  refine x_aload_n (dT U_X9_init 2 rfl) rfl ?_
  refine x_iconst (dT U_X9_init 3 rfl) ?_
  refine y_newI (rc' := rc + 2) (rs' := rs + 8) (N := a + 1) (k := 0) (atype := .int) 4 hN (by decide) w_ac_int (dT U_X9_init 4 rfl) rfl (by decide) rfl rfl (fun h1 l1 k1 f1 => ?_)
  have l1 : h1.length = a + 2 := l1
  refine y_fin l1 F_X9_9 rfl rfl (dT U_X9_init 5 rfl) (k1 _ _ fa) (by omega) (Nat.le_of_ble_eq_true rfl) rfl rfl (fun h2 l2 k2 f2 => ?_)
  have l2 : h2.length = a + 2 := l2
  have f2 : h2[a]? = some (cO 9 [.ref (a + 1), .null, .null]) := f2
  refine x_aload_n (dT U_X9_init 6 rfl) rfl ?_
  refine x_iconst (dT U_X9_init 7 rfl) ?_
  refine y_newI (rc' := rc + 1) (rs' := rs + 4) (N := a + 2) (k := 0) (atype := .int) 4 l2 (by decide) w_ac_int (dT U_X9_init 8 rfl) rfl (by decide) rfl rfl (fun h3 l3 k3 f3 => ?_)
  have l3 : h3.length = a + 3 := l3
  refine y_fin l3 F_X9_15 rfl rfl (dT U_X9_init 9 rfl) (k3 _ _ f2) (by omega) (Nat.le_of_ble_eq_true rfl) rfl rfl (fun h4 l4 k4 f4 => ?_)
  have l4 : h4.length = a + 3 := l4
  have f4 : h4[a]? = some (cO 9 [.ref (a + 1), .ref (a + 2), .null]) := f4
  refine x_aload_n (dT U_X9_init 10 rfl) rfl ?_
  refine x_iconst (dT U_X9_init 11 rfl) ?_
  refine y_newI (rc' := rc + 0) (rs' := rs + 0) (N := a + 3) (k := 0) (atype := .int) 4 l4 (by decide) w_ac_int (dT U_X9_init 12 rfl) rfl (by decide) rfl rfl (fun h5 l5 k5 f5 => ?_)
  have l5 : h5.length = a + 4 := l5
  refine y_fin l5 F_X9_18 rfl rfl (dT U_X9_init 13 rfl) (k5 _ _ f4) (by omega) (Nat.le_of_ble_eq_true rfl) rfl rfl (fun h6 l6 k6 f6 => ?_)
  have l6 : h6.length = a + 4 := l6
  have f6 : h6[a]? = some (cO 9 [.ref (a + 1), .ref (a + 2), .ref (a + 3)]) := f6
  refine x_return (dT U_X9_init 14 rfl) rfl ?_
  have S5 : ∀ (b : Nat) (x : xC), b < a + 4 → b ≠ a → h5[b]? = some x → h6[b]? = some x := fun b x q0 q1 hx => k6 b x (by omega) hx
  have S4 : ∀ (b : Nat) (x : xC), b < a + 3 → b ≠ a → h4[b]? = some x → h6[b]? = some x := fun b x q0 q1 hx => S5 b x (by omega) (by omega) (k5 b x hx)
  have S3 : ∀ (b : Nat) (x : xC), b < a + 3 → b ≠ a → h3[b]? = some x → h6[b]? = some x := fun b x q0 q1 hx => S4 b x (by omega) (by omega) (k4 b x (by omega) hx)
  have S2 : ∀ (b : Nat) (x : xC), b < a + 2 → b ≠ a → h2[b]? = some x → h6[b]? = some x := fun b x q0 q1 hx => S3 b x (by omega) (by omega) (k3 b x hx)
  have S1 : ∀ (b : Nat) (x : xC), b < a + 2 → b ≠ a → h1[b]? = some x → h6[b]? = some x := fun b x q0 q1 hx => S2 b x (by omega) (by omega) (k2 b x (by omega) hx)
  have S0 : ∀ (b : Nat) (x : xC), b < a + 1 → b ≠ a → h[b]? = some x → h6[b]? = some x := fun b x q0 q1 hx => S1 b x (by omega) (by omega) (k1 b x hx)
  exact kk _ l6 (fun b x ne hx => S0 b x (by have := (List.getElem?_eq_some_iff.mp hx).1; omega) ne hx) f6 (S1 _ _ (by omega) (by omega) f1) (S3 _ _ (by omega) (by omega) f3) (S5 _ _ (by omega) (by omega) f5)

set_option maxRecDepth 20000 in
set_option maxHeartbeats 1000000 in
theorem S_X4_init {G : xG} {d rc rs : Nat} {h : xH} {Q : xQ}  (hN : h.length = 55) (fa : h[54]? = some (cO 4 [.null, .null, vi 0, vi 0, vi 0]))  (kk : ∀ h2 : xH, h2.length = 56 → (∀ (b : Nat) (x : xC), b ≠ 54 → h[b]? = some x → h2[b]? = some x) → h2[54]? = some (cL 0 1 1) → h2[55]? = some (cA 0 (List.replicate 16 0)) → Q (.inl none) true h2) : X G m_X4_init (d + 1) (rc + 1) (rs + 16) true 0 (xe m_X4_init.2.2.1 [.ref 54, .ref 5]) [] h Q := by
  show X G m_X4_init _ _ _ _ 0 [some (.ref 54), some (.ref 5)] [] h Q
  refine x_aload_n (dT U_X4_init 0 rfl) rfl ?_
  refine x_objinit K_X4_3 w_oi w_oc (dT U_X4_init 1 rfl) (Nat.le_of_ble_eq_true rfl) (by omega) ?_
  refine x_aload_n (dT U_X4_init 2 rfl) rfl ?_
  refine x_aload_n (dT U_X4_init 3 rfl) rfl ?_
  refine y_fin hN F_X4_9 rfl rfl (dT U_X4_init 4 rfl) fa (Nat.le_of_ble_eq_true rfl) (Nat.le_of_ble_eq_true rfl) rfl rfl (fun h1 l1 k1 f1 => ?_)
  have l1 : h1.length = 55 := l1
  have f1 : h1[54]? = some (cO 4 [.ref (5), .null, vi 0, vi 0, vi 0]) := f1
  refine x_aload_n (dT U_X4_init 5 rfl) rfl ?_
  refine x_bipush (dT U_X4_init 6 rfl) (by decide) ?_
  refine y_newI (rc' := rc + 0) (rs' := rs + 0) (N := 55) (k := 0) (atype := .int) 16 l1 (by decide) w_ac_int (dT U_X4_init 7 rfl) rfl (by decide) rfl rfl (fun h2 l2 k2 f2 => ?_)
  have l2 : h2.length = 56 := l2
  refine y_fin l2 F_X4_15 rfl rfl (dT U_X4_init 8 rfl) (k2 _ _ f1) (Nat.le_of_ble_eq_true rfl) (Nat.le_of_ble_eq_true rfl) rfl rfl (fun h3 l3 k3 f3 => ?_)
  have l3 : h3.length = 56 := l3
  have f3 : h3[54]? = some (cO 4 [.ref (5), .ref (55), vi 0, vi 0, vi 0]) := f3
  refine x_aload_n (dT U_X4_init 9 rfl) rfl ?_
  refine x_invokevirtual (rc' := rc + 0) (rs' := rs + 0) (rc2 := 0) (rs2 := 0) (As := []) (st := _) M_X4_forget K_X4_19 (dT U_X4_init 10 rfl) rfl rfl (by decide) rfl rfl f3 (Nat.le_of_ble_eq_true rfl) (by decide) rfl (Nat.le_of_ble_eq_true rfl) rfl (by decide) (Nat.le_of_ble_eq_true rfl) rfl rfl ?_
  refine S_X4_forget (show _ = some (cL 0 0 0) from f3) ?_
  refine xRet_none ?_
  have l4 : (h3.set 54 (cL 0 1 1)).length = 56 := by rw [List.length_set]; exact l3
  have k4 : Kp 54 h3 (h3.set 54 (cL 0 1 1)) := Kp.st
  have f4 : (h3.set 54 (cL 0 1 1))[54]? = some (cL 0 1 1) := hset_eq f3
  generalize (h3.set 54 (cL 0 1 1)) = h4 at l4 k4 f4 ⊢
  refine x_return (dT U_X4_init 11 rfl) rfl ?_
  have S3 : ∀ (b : Nat) (x : xC), b < 56 → b ≠ 54 → h3[b]? = some x → h4[b]? = some x := fun b x q0 q1 hx => k4 b x (by omega) hx
  have S2 : ∀ (b : Nat) (x : xC), b < 56 → b ≠ 54 → h2[b]? = some x → h4[b]? = some x := fun b x q0 q1 hx => S3 b x (by omega) (by omega) (k3 b x (by omega) hx)
  have S1 : ∀ (b : Nat) (x : xC), b < 55 → b ≠ 54 → h1[b]? = some x → h4[b]? = some x := fun b x q0 q1 hx => S2 b x (by omega) (by omega) (k2 b x hx)
  have S0 : ∀ (b : Nat) (x : xC), b < 55 → b ≠ 54 → h[b]? = some x → h4[b]? = some x := fun b x q0 q1 hx => S1 b x (by omega) (by omega) (k1 b x (by omega) hx)
  exact kk _ l4 (fun b x ne hx => S0 b x (by have := (List.getElem?_eq_some_iff.mp hx).1; omega) ne hx) f4 (S2 _ _ (by omega) (by omega) f2)

set_option maxRecDepth 20000 in
set_option maxHeartbeats 1000000 in
theorem S_X3_init {G : xG} {d rc rs : Nat} {h : xH} {Q : xQ} (hN : h.length = 6) (fa : h[5]? = some (cO 3 [.null, vi 0, .null, .null, .null])) (fw : h[4]? = some (cO 1 [vi 7])) (kk : ∀ h2 : xH, h2.length = 9 → (∀ (b : Nat) (x : xC), b ≠ 5 → h[b]? = some x → h2[b]? = some x) → GW 7 h2 → Q (.inl none) true h2) : X G m_X3_init (d + 3) (rc + 3) (rs + 224) true 0 (xe m_X3_init.2.2.1 [.ref 5, .ref 4]) [] h Q := by
  show X G m_X3_init _ _ _ _ 0 [some (.ref 5), some (.ref 4)] [] h Q
  refine x_aload_n (dT U_X3_init 0 rfl) rfl ?_
  refine x_objinit K_X3_3 w_oi w_oc (dT U_X3_init 1 rfl) (Nat.le_of_ble_eq_true rfl) (by omega) ?_
  refine x_aload_n (dT U_X3_init 2 rfl) rfl ?_
  refine x_aload_n (dT U_X3_init 3 rfl) rfl ?_
  refine y_fin hN F_X3_9 rfl rfl (dT U_X3_init 4 rfl) fa (Nat.le_of_ble_eq_true rfl) (Nat.le_of_ble_eq_true rfl) rfl rfl (fun h1 l1 k1 f1 => ?_)
  have l1 : h1.length = 6 := l1
  have f1 : h1[5]? = some (cO 3 [.ref (4), vi 0, .null, .null, .null]) := f1
  refine x_aload_n (dT U_X3_init 5 rfl) rfl ?_
  refine x_bipush (dT U_X3_init 6 rfl) (by decide) ?_
  refine y_newI (rc' := rc + 2) (rs' := rs + 201) (N := 6) (k := 0) (atype := .int) 23 l1 (by decide) w_ac_int (dT U_X3_init 7 rfl) rfl (by decide) rfl rfl (fun h2 l2 k2 f2 => ?_)
  have l2 : h2.length = 7 := l2
  refine y_fin l2 F_X3_15 rfl rfl (dT U_X3_init 8 rfl) (k2 _ _ f1) (Nat.le_of_ble_eq_true rfl) (Nat.le_of_ble_eq_true rfl) rfl rfl (fun h3 l3 k3 f3 => ?_)
  have l3 : h3.length = 7 := l3
  have f3 : h3[5]? = some (cO 3 [.ref (4), vi 0, .ref (6), .null, .null]) := f3
  refine x_aload_n (dT U_X3_init 9 rfl) rfl ?_
  refine x_sipush (dT U_X3_init 10 rfl) (by decide) ?_
  refine y_newI (rc' := rc + 1) (rs' := rs + 9) (N := 7) (k := 0) (atype := .int) 192 l3 (by decide) w_ac_int (dT U_X3_init 11 rfl) rfl (by decide) rfl rfl (fun h4 l4 k4 f4 => ?_)
  have l4 : h4.length = 8 := l4
  refine y_fin l4 F_X3_19 rfl rfl (dT U_X3_init 12 rfl) (k4 _ _ f3) (Nat.le_of_ble_eq_true rfl) (Nat.le_of_ble_eq_true rfl) rfl rfl (fun h5 l5 k5 f5 => ?_)
  have l5 : h5.length = 8 := l5
  have f5 : h5[5]? = some (cO 3 [.ref (4), vi 0, .ref (6), .ref (7), .null]) := f5
  refine x_aload_n (dT U_X3_init 13 rfl) rfl ?_
  refine x_bipush (dT U_X3_init 14 rfl) (by decide) ?_
  refine y_newI (rc' := rc + 0) (rs' := rs + 0) (N := 8) (k := 0) (atype := .int) 9 l5 (by decide) w_ac_int (dT U_X3_init 15 rfl) rfl (by decide) rfl rfl (fun h6 l6 k6 f6 => ?_)
  have l6 : h6.length = 9 := l6
  refine y_fin l6 F_X3_22 rfl rfl (dT U_X3_init 16 rfl) (k6 _ _ f5) (Nat.le_of_ble_eq_true rfl) (Nat.le_of_ble_eq_true rfl) rfl rfl (fun h7 l7 k7 f7 => ?_)
  have l7 : h7.length = 9 := l7
  have f7 : h7[5]? = some (cO 3 [.ref (4), vi 0, .ref (6), .ref (7), .ref (8)]) := f7
  refine x_aload_n (dT U_X3_init 17 rfl) rfl ?_
  have S6 : ∀ (b : Nat) (x : xC), b < 9 → b ≠ 5 → h6[b]? = some x → h7[b]? = some x := fun b x q0 q1 hx => k7 b x (by omega) hx
  have S5 : ∀ (b : Nat) (x : xC), b < 8 → b ≠ 5 → h5[b]? = some x → h7[b]? = some x := fun b x q0 q1 hx => S6 b x (by omega) (by omega) (k6 b x hx)
  have S4 : ∀ (b : Nat) (x : xC), b < 8 → b ≠ 5 → h4[b]? = some x → h7[b]? = some x := fun b x q0 q1 hx => S5 b x (by omega) (by omega) (k5 b x (by omega) hx)
  have S3 : ∀ (b : Nat) (x : xC), b < 7 → b ≠ 5 → h3[b]? = some x → h7[b]? = some x := fun b x q0 q1 hx => S4 b x (by omega) (by omega) (k4 b x hx)
  have S2 : ∀ (b : Nat) (x : xC), b < 7 → b ≠ 5 → h2[b]? = some x → h7[b]? = some x := fun b x q0 q1 hx => S3 b x (by omega) (by omega) (k3 b x (by omega) hx)
  have S1 : ∀ (b : Nat) (x : xC), b < 6 → b ≠ 5 → h1[b]? = some x → h7[b]? = some x := fun b x q0 q1 hx => S2 b x (by omega) (by omega) (k2 b x hx)
  have S0 : ∀ (b : Nat) (x : xC), b < 6 → b ≠ 5 → h[b]? = some x → h7[b]? = some x := fun b x q0 q1 hx => S1 b x (by omega) (by omega) (k1 b x (by omega) hx)
  refine x_invokevirtual (rc' := rc + 0) (rs' := rs + 0) (rc2 := 0) (rs2 := 0) (As := []) (st := _) M_X3_build K_X3_25 (dT U_X3_init 18 rfl) rfl rfl (by decide) rfl rfl f7 (Nat.le_of_ble_eq_true rfl) (by decide) rfl (Nat.le_of_ble_eq_true rfl) rfl (by decide) (Nat.le_of_ble_eq_true rfl) rfl rfl ?_
  refine S_X3_build (p := 7) (q0 := 0) (by decide) (show _ = some (cO 1 [vi ((7 : Nat) : Int)]) from (k7 _ _ (by decide) (k6 _ _ (k5 _ _ (by decide) (k4 _ _ (k3 _ _ (by decide) (k2 _ _ (k1 _ _ (by decide) fw)))))))) f7 (S2 _ _ (by omega) (by omega) f2) rfl (S4 _ _ (by omega) (by omega) f4) rfl (S6 _ _ (by omega) (by omega) f6) rfl (fun h9 fr gw => ?_)
  refine xRet_none ?_
  refine x_return (dT U_X3_init 19 rfl) rfl ?_
  exact kk _ (fr.1.trans l7) (fun b x ne hx => (fr.2 b (by have := (List.getElem?_eq_some_iff.mp hx).1; simp only [List.mem_cons, List.not_mem_nil, or_false]; omega)).trans (S0 b x (by have := (List.getElem?_eq_some_iff.mp hx).1; omega) ne hx)) gw

theorem GW.mv {p : Nat} {h h2 : xH} (w : GW p h) (f : ∀ (b : Nat) (x : xC), 4 ≤ b → b ≤ 8 → h[b]? = some x → h2[b]? = some x) : GW p h2 := by
  obtain ⟨a, b, ⟨ml, c, c1, c2⟩, e, g⟩ := w
  exact ⟨f _ _ (by omega) (by omega) a, f _ _ (by omega) (by omega) b, ⟨ml, f _ _ (by omega) (by omega) c, c1, c2⟩, f _ _ (by omega) (by omega) e, f _ _ (by omega) (by omega) g⟩
def z16 : List Int := List.replicate 16 0
def R0 : RS := (0, 0, 0, 0, 0, 0, 0, 0, false, false, zr8, zr8, zr8)
def P0 : PS := (0, 0, 0, 0, 0, 0, 0, 0, 0, 0, 0, 0, 0, 0)
def σ0 : St := (7, fun _ => zr8, fun _ => R0, fun _ => P0, (0, zr8, zr8, zr8, zr8), (0, 0, 0, 0, 0, 0, 0, zr8, zr8, [0, 0, 0]), (0, 0, 0, z16, z16))
