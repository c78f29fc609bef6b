theorem bs_eq {p i : Nat} (hp : 2 < p ∧ p < 24) (hi : i < 9) : (1 : Int) + ((i : Int) * (i : Int) + (i : Int)).tmod ((p : Int) - 1) = (bs p i : Int) := by
  have e0 : ((i : Int) * (i : Int) + (i : Int)) = ((i * i + i : Nat) : Int) := by rw [Int.natCast_add, Int.natCast_mul]
  have e1 : (p : Int) - 1 = ((p - 1 : Nat) : Int) := by omega
  rw [e0, e1, Int.tmod_eq_emod_of_nonneg (by omega), ← Int.natCast_emod]
  unfold bs
  omega

set_option maxRecDepth 20000 in
set_option maxHeartbeats 1000000 in
theorem S_X3_build3 {G : xG} {d rc rs : Nat} {ex : Bool} {h3 : xH} {Q : xQ} {p : Nat} {w : Int} {bl : List Int} (hp : p ∈ PR) (f5 : h3[5]? = some (cO 3 [.ref 4, vi (gq p : Int), .ref 6, .ref 7, .ref 8])) (f8 : h3[8]? = some (cA 0 bl)) (l8 : bl.length = 9)
    (M3 : Q (.inl none) ex (h3.set 8 (cA 0 (bsl p)))) : X G m_X3_build (d + 2) rc rs ex 105 [some (.ref 5), some (vi (p : Int)), some (vi (gB p : Int)), some (vi w), some (vi 0)] [] h3 Q := by
  have hb := PRb hp
  have L3 : ∀ (n i : Nat), i + n = 9 → X G m_X3_build (d + 2) rc rs ex 105 [some (.ref 5), some (vi (p : Int)), some (vi (gB p : Int)), some (vi w), some (vi (i : Int))] [] (h3.set 8 (cA 0 (fillL (fun i => (bs p i : Int)) bl i))) Q := by
    intro n
    induction n with
    | zero =>
      intro i hi 
      refine x_iload (dT U_X3_build 58 rfl) rfl ?_
      refine x_bipush (dT U_X3_build 59 rfl) (by decide) ?_
      refine x_icmp_ge (tgt := 148) (dT U_X3_build 60 rfl) (by decide) (by unfold xr at *; omega) (by unfold xr at *; omega) (fun c109 => ?_) (fun c109 => ?_)
      · skip
        refine x_return (dT U_X3_build 83 rfl) rfl ?_
        have e : i = 9 := by omega
        subst e
        rw [fillL_all l8]
        exact M3
      · exfalso; omega
    | succ n ih =>
      intro i hi 
      have f5 := hset_ne (a := 8) (c := cA 0 (fillL (fun i => (bs p i : Int)) bl i)) (by decide) f5
      have f8 := hset_eq (c := cA 0 (fillL (fun i => (bs p i : Int)) bl i)) f8
      refine x_iload (dT U_X3_build 58 rfl) rfl ?_
      refine x_bipush (dT U_X3_build 59 rfl) (by decide) ?_
      refine x_icmp_ge (tgt := 148) (dT U_X3_build 60 rfl) (by decide) (by unfold xr at *; omega) (by unfold xr at *; omega) (fun c109 => ?_) (fun c109 => ?_)
      · exfalso; omega
      · skip
        refine x_aload_n (dT U_X3_build 61 rfl) rfl ?_
        refine x_getfield F_X3_22 (dT U_X3_build 62 rfl) f5 (by decide) rfl ?_
        refine x_iload (dT U_X3_build 63 rfl) rfl ?_
        refine x_iload_n (dT U_X3_build 64 rfl) rfl ?_
        refine x_iconst (dT U_X3_build 65 rfl) ?_
        refine x_icmp_le (tgt := 140) (dT U_X3_build 66 rfl) (by decide) (by unfold xr at *; omega) (by unfold xr at *; omega) (fun c120 => ?_) (fun c120 => ?_)
        · exfalso; omega
        · skip
          refine x_iconst (dT U_X3_build 67 rfl) ?_
          refine x_iload (dT U_X3_build 68 rfl) rfl ?_
          refine x_iload (dT U_X3_build 69 rfl) rfl ?_
          refine x_imul (dT U_X3_build 70 rfl) ?_
          refine x_iload (dT U_X3_build 71 rfl) rfl ?_
          refine x_iadd (dT U_X3_build 72 rfl) ?_
          refine x_iload_n (dT U_X3_build 73 rfl) rfl ?_
          refine x_iconst (dT U_X3_build 74 rfl) ?_
          refine x_isub (dT U_X3_build 75 rfl) ?_
          refine x_irem (dT U_X3_build 76 rfl) (by have := mulb (a := (i : Int)) (b := (i : Int)) (p := 9) (by omega) (by omega) (by omega); unfold xr; omega) (by unfold xr at *; omega) (by omega) ?_
          refine x_iadd (dT U_X3_build 77 rfl) ?_
          refine x_goto (tgt := 141) (dT U_X3_build 78 rfl) (by decide) ?_
          rw [bs_eq hb (by omega)]
          refine x_iastore (i) (dT U_X3_build 80 rfl) f8 (by decide) rfl (by rw [fillL_len]; omega) (by rw [fillL_len]; omega) ?_
          rw [List.set_set]
          refine x_iinc (ls' := [some (.ref _), some (vi _), some (vi _), some (vi _), some (vi _)]) (dT U_X3_build 81 rfl) (by decide) rfl rfl ?_
          refine x_goto (tgt := 105) (dT U_X3_build 82 rfl) (by decide) ?_
          exact ih (i + 1) (by omega)
  have q := L3 9 0 (by omega)
  rw [show fillL (fun i => (bs p i : Int)) bl 0 = bl from rfl, hset_self f8] at q
  exact q
set_option maxRecDepth 20000 in
set_option maxHeartbeats 1000000 in
theorem S_X3_build2 {G : xG} {d rc rs : Nat} {ex : Bool} {h1 : xH} {Q : xQ} {p : Nat} {ml : List Int} (hp : p ∈ PR) (f5 : h1[5]? = some (cO 3 [.ref 4, vi (gq p : Int), .ref 6, .ref 7, .ref 8])) (f6 : h1[6]? = some (cA 0 ml)) (l6 : ml.length = 23) (f7 : h1[7]? = some (cA 0 (exlr p 0)))
    (M2 : X G m_X3_build (d + 2) rc rs ex 102 [some (.ref 5), some (vi (p : Int)), some (vi (gB p : Int)), some (vi (mm p p : Int)), some (vi (p : Int))] [] ((h1.set 6 (cA 0 (fillL (fun e => (mm p e : Int)) ml p))).set 7 (cA 0 (exlr p p))) Q) : X G m_X3_build (d + 2) rc rs ex 49 [some (.ref 5), some (vi (p : Int)), some (vi (gB p : Int)), some (vi 1), some (vi 0)] [] h1 Q := by
  have hb := PRb hp
  have hq := gq_b hp
  have f5a := f5
  have f7a := f7
  have L2 : ∀ (n i : Nat), i + n = p → X G m_X3_build (d + 2) rc rs ex 49 [some (.ref 5), some (vi (p : Int)), some (vi (gB p : Int)), some (vi (mm p i : Int)), some (vi (i : Int))] [] ((h1.set 6 (cA 0 (fillL (fun e => (mm p e : Int)) ml i))).set 7 (cA 0 (exlr p i))) Q := by
    intro n
    induction n with
    | zero =>
      intro i hi 
      refine x_iload (dT U_X3_build 28 rfl) rfl ?_
      refine x_iload_n (dT U_X3_build 29 rfl) rfl ?_
      refine x_icmp_ge (tgt := 102) (dT U_X3_build 30 rfl) (by decide) (by unfold xr at *; omega) (by unfold xr at *; omega) (fun c52 => ?_) (fun c52 => ?_)
      · skip
        have e : i = p := by omega
        subst e
        exact M2
      · exfalso; omega
    | succ n ih =>
      intro i hi 
      have hmi := mm_b hp (show i < p by omega)
      have hgB : gB p < gq p := Nat.mod_lt _ (by omega)
      have f5 : ((h1.set 6 (cA 0 (fillL (fun e => (mm p e : Int)) ml i))).set 7 (cA 0 (exlr p i)))[5]? = _ := hset_ne (by decide) (hset_ne (by decide) f5)
      have f6 : ((h1.set 6 (cA 0 (fillL (fun e => (mm p e : Int)) ml i))).set 7 (cA 0 (exlr p i)))[6]? = _ := hset_ne (by decide) (hset_eq f6)
      refine x_iload (dT U_X3_build 28 rfl) rfl ?_
      refine x_iload_n (dT U_X3_build 29 rfl) rfl ?_
      refine x_icmp_ge (tgt := 102) (dT U_X3_build 30 rfl) (by decide) (by unfold xr at *; omega) (by unfold xr at *; omega) (fun c52 => ?_) (fun c52 => ?_)
      · exfalso; omega
      · skip
        refine x_iload (dT U_X3_build 31 rfl) rfl ?_
        refine x_bipush (dT U_X3_build 32 rfl) (by decide) ?_
        refine x_icmp_ge (tgt := 102) (dT U_X3_build 33 rfl) (by decide) (by unfold xr at *; omega) (by unfold xr at *; omega) (fun c59 => ?_) (fun c59 => ?_)
        · exfalso; omega
        · skip
          refine x_aload_n (dT U_X3_build 34 rfl) rfl ?_
          refine x_getfield F_X3_15 (dT U_X3_build 35 rfl) f5 (by decide) rfl ?_
          refine x_iload (dT U_X3_build 36 rfl) rfl ?_
          refine x_iload_n (dT U_X3_build 37 rfl) rfl ?_
          refine x_iastore (i) (dT U_X3_build 38 rfl) f6 (by decide) rfl (by rw [fillL_len]; omega) (by rw [fillL_len]; omega) ?_
          rw [List.set_comm _ _ (by decide), List.set_set]
          have f5 : ((h1.set 6 (cA 0 (fillL (fun e => (mm p e : Int)) ml (i + 1)))).set 7 (cA 0 (exlr p i)))[5]? = _ := hset_ne (by decide) (hset_ne (by decide) f5a)
          have f7 : ((h1.set 6 (cA 0 (fillL (fun e => (mm p e : Int)) ml (i + 1)))).set 7 (cA 0 (exlr p i)))[7]? = some (cA 0 (exlr p i)) := hset_eq (hset_ne (by decide) f7a)
          refine x_iload_n (dT U_X3_build 39 rfl) rfl ?_
          refine x_if_le (tgt := 89) (dT U_X3_build 40 rfl) (by decide) (by unfold xr at *; omega) (fun c71 => ?_) (fun c71 => ?_)
          · exfalso; omega
          · skip
            refine x_iload_n (dT U_X3_build 41 rfl) rfl ?_
            refine x_sipush (dT U_X3_build 42 rfl) (by decide) ?_
            refine x_icmp_ge (tgt := 89) (dT U_X3_build 43 rfl) (by decide) (by unfold xr at *; omega) (by unfold xr at *; omega) (fun c78 => ?_) (fun c78 => ?_)
            · exfalso; omega
            · skip
              refine x_aload_n (dT U_X3_build 44 rfl) rfl ?_
              refine x_getfield F_X3_19 (dT U_X3_build 45 rfl) f5 (by decide) rfl ?_
              refine x_iload_n (dT U_X3_build 46 rfl) rfl ?_
              refine x_iload (dT U_X3_build 47 rfl) rfl ?_
              refine x_iastore (mm p i) (dT U_X3_build 48 rfl) f7 (by decide) rfl (by rw [exlr_len]; omega) (by rw [exlr_len]; omega) ?_
              rw [List.set_set]
              have f5 : ((h1.set 6 (cA 0 (fillL (fun e => (mm p e : Int)) ml (i + 1)))).set 7 (cA 0 (exlr p (i + 1))))[5]? = _ := hset_ne (by decide) (hset_ne (by decide) f5a)
              refine x_aload_n (dT U_X3_build 49 rfl) rfl ?_
              refine x_iload_n (dT U_X3_build 50 rfl) rfl ?_
              refine x_iload_n (dT U_X3_build 51 rfl) rfl ?_
              refine x_invokevirtual (rc' := rc) (rs' := rs) (rc2 := 0) (rs2 := 0) (As := [_, _]) (st := _) M_X3_product K_X3_44 (dT U_X3_build 52 rfl) rfl rfl (by decide) rfl rfl f5 (by decide) (by decide) rfl (Nat.le_of_ble_eq_true rfl) rfl (by decide) (Nat.le_of_ble_eq_true rfl) rfl rfl ?_
              refine S_X3_product f5 (by omega) (by omega) (by omega) ?_
              have e5 : (mm p i : Int) * (gB p : Int) % (gq p : Int) = (mm p (i + 1) : Int) := by rw [← mm_step hp (show i < p by omega), Int.natCast_emod, Int.natCast_mul]
              rw [e5]
              refine xRet_some ?_
              refine x_istore_n (ls' := [some (.ref _), some (vi _), some (vi _), some (vi _), some (vi _)]) (dT U_X3_build 53 rfl) (by decide) rfl ?_
              refine x_iinc (ls' := [some (.ref _), some (vi _), some (vi _), some (vi _), some (vi _)]) (dT U_X3_build 54 rfl) (by decide) rfl rfl ?_
              refine x_goto (tgt := 49) (dT U_X3_build 55 rfl) (by decide) ?_
              exact ih (i + 1) (by omega)
  have q := L2 p 0 (by omega)
  rw [show fillL (fun e => (mm p e : Int)) ml 0 = ml from rfl, hset_self f6, hset_self f7, mm_0 p hp] at q
  exact q
set_option maxRecDepth 20000 in
set_option maxHeartbeats 1000000 in
theorem S_X3_build1 {G : xG} {d rc rs : Nat} {ex : Bool} {h1 : xH} {Q : xQ} {p : Nat} {el : List Int} (hp : p ∈ PR) (f5 : h1[5]? = some (cO 3 [.ref 4, vi (gq p : Int), .ref 6, .ref 7, .ref 8])) (f7 : h1[7]? = some (cA 0 el)) (l7 : el.length = 192)
    (M1 : X G m_X3_build (d + 2) rc rs ex 44 [some (.ref 5), some (vi (p : Int)), some (vi (gB p : Int)), some (vi (192 : Int)), none] [] (h1.set 7 (cA 0 (tab (fun _ => -1) 192))) Q) : X G m_X3_build (d + 2) rc rs ex 24 [some (.ref 5), some (vi (p : Int)), some (vi (gB p : Int)), some (vi 0), none] [] h1 Q := by
  have L1 : ∀ (n i : Nat), i + n = 192 → X G m_X3_build (d + 2) rc rs ex 24 [some (.ref 5), some (vi (p : Int)), some (vi (gB p : Int)), some (vi (i : Int)), none] [] (h1.set 7 (cA 0 (fillL (fun _ => -1) el i))) Q := by
    intro n
    induction n with
    | zero =>
      intro i hi 
      refine x_iload_n (dT U_X3_build 14 rfl) rfl ?_
      refine x_sipush (dT U_X3_build 15 rfl) (by decide) ?_
      refine x_icmp_ge (tgt := 44) (dT U_X3_build 16 rfl) (by decide) (by unfold xr at *; omega) (by unfold xr at *; omega) (fun c28 => ?_) (fun c28 => ?_)
      · skip
        have e : i = 192 := by omega
        subst e
        rw [fillL_all l7]
        exact M1
      · exfalso; omega
    | succ n ih =>
      intro i hi 
      have f5 := hset_ne (a := 7) (c := cA 0 (fillL (fun _ => -1) el i)) (by decide) f5
      have f7 := hset_eq (c := cA 0 (fillL (fun _ => -1) el i)) f7
      refine x_iload_n (dT U_X3_build 14 rfl) rfl ?_
      refine x_sipush (dT U_X3_build 15 rfl) (by decide) ?_
      refine x_icmp_ge (tgt := 44) (dT U_X3_build 16 rfl) (by decide) (by unfold xr at *; omega) (by unfold xr at *; omega) (fun c28 => ?_) (fun c28 => ?_)
      · exfalso; omega
      · skip
        refine x_aload_n (dT U_X3_build 17 rfl) rfl ?_
        refine x_getfield F_X3_19 (dT U_X3_build 18 rfl) f5 (by decide) rfl ?_
        refine x_iload_n (dT U_X3_build 19 rfl) rfl ?_
        refine x_iconst (dT U_X3_build 20 rfl) ?_
        refine x_iastore (i) (dT U_X3_build 21 rfl) f7 (by decide) rfl (by rw [fillL_len]; omega) (by rw [fillL_len]; omega) ?_
        rw [List.set_set]
        refine x_iinc (ls' := [some (.ref _), some (vi _), some (vi _), some (vi _), none]) (dT U_X3_build 22 rfl) (by decide) rfl rfl ?_
        refine x_goto (tgt := 24) (dT U_X3_build 23 rfl) (by decide) ?_
        exact ih (i + 1) (by omega)
  have q := L1 192 0 (by omega)
  rw [show fillL (fun _ => -1) el 0 = el from rfl, hset_self f7] at q
  exact q

set_option maxRecDepth 20000 in
set_option maxHeartbeats 1000000 in
theorem S_X3_build {G : xG} {d rc rs : Nat} {ex : Bool} {h : xH} {Q : xQ} {p : Nat} {q0 : Int} {ml el bl : List Int} (hp : p ∈ PR) (f4 : h[4]? = some (cO 1 [vi (p : Int)])) (f5 : h[5]? = some (cO 3 [.ref 4, vi q0, .ref 6, .ref 7, .ref 8])) (f6 : h[6]? = some (cA 0 ml)) (l6 : ml.length = 23) (f7 : h[7]? = some (cA 0 el)) (l7 : el.length = 192) (f8 : h[8]? = some (cA 0 bl)) (l8 : bl.length = 9) (k : ∀ h2, Fr [5, 6, 7, 8] h h2 → GW p h2 → Q (.inl none) ex h2) : X G m_X3_build (d + 2) rc rs ex 0 (xe m_X3_build.2.2.1 [.ref 5]) [] h Q := by
  show X G m_X3_build _ _ _ _ 0 [some (.ref 5), none, none, none, none] [] h Q
  have hb := PRb hp
  refine x_aload_n (dT U_X3_build 0 rfl) rfl ?_
  refine x_getfield F_X3_9 (dT U_X3_build 1 rfl) f5 (by decide) rfl ?_
  refine x_getfield F_X3_28 (dT U_X3_build 2 rfl) f4 (by decide) rfl ?_
  refine x_istore_n (ls' := [some (.ref _), some (vi _), none, none, none]) (dT U_X3_build 3 rfl) (by decide) rfl ?_
  refine x_aload_n (dT U_X3_build 4 rfl) rfl ?_
  refine x_iload_n (dT U_X3_build 5 rfl) rfl ?_
  refine x_invokestatic (rc' := rc) (rs' := rs) (rc2 := 0) (rs2 := 0) (As := [_]) (st := _) M_X3_leastModulus K_X3_34 (dT U_X3_build 6 rfl) rfl rfl rfl rfl (Nat.le_of_ble_eq_true rfl) rfl (by decide) (Nat.le_of_ble_eq_true rfl) rfl rfl ?_
  refine S_X3_leastModulus hp ?_
  refine xRet_some ?_
  refine x_putfield F_X3_38 (dT U_X3_build 7 rfl) f5 (by decide) (Nat.le_of_ble_eq_true rfl) rfl rfl ?_
  show X G _ _ _ _ _ _ _ _ (h.set 5 (cO 3 [.ref 4, vi (gq p : Int), .ref 6, .ref 7, .ref 8])) _
  have g5 := hset_eq (c := (cO 3 [.ref 4, vi (gq p : Int), .ref 6, .ref 7, .ref 8])) f5
  have g7 := hset_ne (a := 5) (c := (cO 3 [.ref 4, vi (gq p : Int), .ref 6, .ref 7, .ref 8])) (by decide) f7
  refine x_aload_n (dT U_X3_build 8 rfl) rfl ?_
  refine x_iload_n (dT U_X3_build 9 rfl) rfl ?_
  refine x_invokevirtual (rc' := rc) (rs' := rs) (rc2 := 0) (rs2 := 0) (As := [_]) (st := _) M_X3_leastGenerator K_X3_41 (dT U_X3_build 10 rfl) rfl rfl (by decide) rfl rfl g5 (by decide) (by decide) rfl (Nat.le_of_ble_eq_true rfl) rfl (by decide) (Nat.le_of_ble_eq_true rfl) rfl rfl ?_
  refine S_X3_leastGenerator g5 hp ?_
  refine xRet_some ?_
  refine x_istore_n (ls' := [some (.ref _), some (vi _), some (vi _), none, none]) (dT U_X3_build 11 rfl) (by decide) rfl ?_
  refine x_iconst (dT U_X3_build 12 rfl) ?_
  refine x_istore_n (ls' := [some (.ref _), some (vi _), some (vi _), some (vi _), none]) (dT U_X3_build 13 rfl) (by decide) rfl ?_
  refine S_X3_build1 hp g5 g7 l7 ?_
  refine x_iconst (dT U_X3_build 24 rfl) ?_
  refine x_istore_n (ls' := [some (.ref _), some (vi _), some (vi _), some (vi _), none]) (dT U_X3_build 25 rfl) (by decide) rfl ?_
  refine x_iconst (dT U_X3_build 26 rfl) ?_
  refine x_istore (ls' := [some (.ref _), some (vi _), some (vi _), some (vi _), some (vi _)]) (dT U_X3_build 27 rfl) (by decide) rfl ?_
  have i5 := hset_ne (a := 7) (c := cA 0 (tab (fun _ => -1) 192)) (by decide) g5
  have i6 := hset_ne (a := 7) (c := cA 0 (tab (fun _ => -1) 192)) (by decide) (hset_ne (a := 5) (c := (cO 3 [.ref 4, vi (gq p : Int), .ref 6, .ref 7, .ref 8])) (by decide) f6)
  have i7 := hset_eq (c := cA 0 (tab (fun _ => -1) 192)) g7
  refine S_X3_build2 hp i5 i6 l6 i7 ?_
  refine x_iconst (dT U_X3_build 56 rfl) ?_
  refine x_istore (ls' := [some (.ref _), some (vi _), some (vi _), some (vi _), some (vi _)]) (dT U_X3_build 57 rfl) (by decide) rfl ?_
  refine S_X3_build3 hp (hset_ne (by decide) (hset_ne (by decide) i5)) (hset_ne (by decide) (hset_ne (by decide) (hset_ne (a := 7) (by decide) (hset_ne (a := 5) (by decide) f8)))) l8 ?_
  rw [exl_r0 p hp]
  refine k _ ?_ ⟨?_, ?_, ⟨fillL (fun e => (mm p e : Int)) ml p, ?_, by rw [fillL_len, l6], fun e he => fillL_lt _ _ _ _ he (by omega)⟩, ?_, ?_⟩
  · exact (((((Fr.rf _ h).set (by decide)).set (by decide)).set (by decide)).set (by decide)).set (by decide)
  · exact hset_ne (by decide) (hset_ne (by decide) (hset_ne (by decide) (hset_ne (by decide) (hset_ne (by decide) f4))))
  · exact hset_ne (by decide) (hset_ne (by decide) (hset_ne (by decide) (hset_ne (by decide) (hset_eq f5))))
  · exact hset_ne (by decide) (hset_ne (by decide) (hset_eq i6))
  · exact hset_ne (by decide) (hset_eq (hset_ne (by decide) i7))
  · exact hset_eq (hset_ne (by decide) (hset_ne (by decide) (hset_ne (a := 7) (by decide) (hset_ne (a := 5) (by decide) f8))))
