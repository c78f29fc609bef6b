set_option maxRecDepth 20000 in
set_option maxHeartbeats 1000000 in
theorem S_X11_faultOf {G : xG} {d rc rs : Nat} {ex : Bool} {h : xH} {Q : xQ} {σ : St} {cc0 : Int} {rr : Nat} {ss : Int} {g i : Nat} (w : MX σ cc0 rr ss h) (v : INV σ) (hg : g < σ.G.n) (hi : i < 8) (k : Q (.inl (some (vi (gfault σ.p σ.rw (gf (σ.rw i)) (σ.G.k.getD g 0) (σ.G.a.getD g 0) (σ.G.b.getD g 0) (σ.G.c.getD g 0))))) ex h) : X G m_X11_faultOf (d + 1) rc rs ex 0 (xe m_X11_faultOf.2.2.1 [.ref 70, vi (g : Int), .ref (74 + i)]) [] h Q := by
  show X G m_X11_faultOf _ _ _ _ 0 [some (.ref 70), some (vi (g : Int)), some (.ref (74 + i)), none, none, none, none, none, none] [] h Q
  have hp := PRb v.p
  have hq := gq_b v.p
  have gn := v.G.1
  have gk := v.G.2.2 g hg
  have xa := (v.rw i hi).2 (σ.G.a.getD g 0).toNat
  have xb := (v.rw i hi).2 (σ.G.b.getD g 0).toNat
  have xc := (v.rw i hi).2 (σ.G.c.getD g 0).toNat
  have xab := mulb xa xb (by omega)
  have xaa := mulb xa xa (by omega)
  refine x_aload_n (dT U_X11_faultOf 0 rfl) rfl ?_
  refine x_getfield F_X11_85 (dT U_X11_faultOf 1 rfl) w.c70 (Nat.le_of_ble_eq_true rfl) rfl ?_
  refine x_iload_n (dT U_X11_faultOf 2 rfl) rfl ?_
  refine x_aaload (g) (dT U_X11_faultOf 3 rfl) w.c124 (Nat.le_of_ble_eq_true rfl) (by decide) rfl (mgL_get (by omega)) (Nat.le_of_ble_eq_true rfl) ?_
  refine x_iconst (dT U_X11_faultOf 4 rfl) ?_
  refine x_ialoadv (0) (dT U_X11_faultOf 5 rfl) (w.gates g (by omega)) (by omega) rfl (show 0 < 4 by omega) (show 4 < 2147483648 by decide) (show _ = (σ.G.k.getD g 0) from rfl) ?_
  refine x_istore_n (ls' := [some (.ref _), some (vi _), some (.ref _), some (vi _), none, none, none, none, none]) (dT U_X11_faultOf 6 rfl) (by decide) rfl ?_
  refine x_aload_n (dT U_X11_faultOf 7 rfl) rfl ?_
  refine x_getfield F_X11_85 (dT U_X11_faultOf 8 rfl) w.c70 (Nat.le_of_ble_eq_true rfl) rfl ?_
  refine x_iload_n (dT U_X11_faultOf 9 rfl) rfl ?_
  refine x_aaload (g) (dT U_X11_faultOf 10 rfl) w.c124 (Nat.le_of_ble_eq_true rfl) (by decide) rfl (mgL_get (by omega)) (Nat.le_of_ble_eq_true rfl) ?_
  refine x_iconst (dT U_X11_faultOf 11 rfl) ?_
  refine x_ialoadv (2) (dT U_X11_faultOf 12 rfl) (w.gates g (by omega)) (by omega) rfl (show 2 < 4 by omega) (show 4 < 2147483648 by decide) (show _ = (σ.G.b.getD g 0) from rfl) ?_
  refine x_istore (ls' := [some (.ref _), some (vi _), some (.ref _), some (vi _), some (vi _), none, none, none, none]) (dT U_X11_faultOf 13 rfl) (by decide) rfl ?_
  refine x_aload_n (dT U_X11_faultOf 14 rfl) rfl ?_
  refine x_aload_n (dT U_X11_faultOf 15 rfl) rfl ?_
  refine x_getfield F_X11_85 (dT U_X11_faultOf 16 rfl) w.c70 (Nat.le_of_ble_eq_true rfl) rfl ?_
  refine x_iload_n (dT U_X11_faultOf 17 rfl) rfl ?_
  refine x_aaload (g) (dT U_X11_faultOf 18 rfl) w.c124 (Nat.le_of_ble_eq_true rfl) (by decide) rfl (mgL_get (by omega)) (Nat.le_of_ble_eq_true rfl) ?_
  refine x_iconst (dT U_X11_faultOf 19 rfl) ?_
  refine x_ialoadv (1) (dT U_X11_faultOf 20 rfl) (w.gates g (by omega)) (by omega) rfl (show 1 < 4 by omega) (show 4 < 2147483648 by decide) (show _ = (σ.G.a.getD g 0) from rfl) ?_
  refine x_ialoadv ((σ.G.a.getD g 0).toNat) (dT U_X11_faultOf 21 rfl) (w.rows i hi) (by omega) (by omega) (by rw [(v.rw i hi).1]; omega) (by rw [(v.rw i hi).1]; omega) (show _ = ((σ.rw i).getD (σ.G.a.getD g 0).toNat 0) from rfl) ?_
  refine x_i2l (dT U_X11_faultOf 22 rfl) (by unfold xr; omega) ?_
  refine x_lstore (ls' := [some (.ref _), some (vi _), some (.ref _), some (vi _), some (vi _), some (vl _), none, none, none]) (dT U_X11_faultOf 23 rfl) (by decide) rfl ?_
  refine x_iload_n (dT U_X11_faultOf 24 rfl) rfl ?_
  refine x_if_ne (tgt := 61) (dT U_X11_faultOf 25 rfl) (by decide) (by unfold xr; omega) (fun c33 => ?_) (fun c33 => ?_)
  · skip
    refine x_iload_n (dT U_X11_faultOf 45 rfl) rfl ?_
    refine x_iconst (dT U_X11_faultOf 46 rfl) ?_
    refine x_icmp_ne (tgt := 91) (dT U_X11_faultOf 47 rfl) (by decide) (by unfold xr; omega) (by unfold xr; omega) (fun c63 => ?_) (fun c63 => ?_)
    · skip
      refine x_iload_n (dT U_X11_faultOf 67 rfl) rfl ?_
      refine x_iconst (dT U_X11_faultOf 68 rfl) ?_
      refine x_icmp_ge (tgt := 123) (dT U_X11_faultOf 69 rfl) (by decide) (by unfold xr; omega) (by unfold xr; omega) (fun c93 => ?_) (fun c93 => ?_)
      · skip
        refine x_iconst (dT U_X11_faultOf 86 rfl) ?_
        refine x_istore (ls' := [some (.ref _), some (vi _), some (.ref _), some (vi _), some (vi _), some (vl _), none, some (vi _), none]) (dT U_X11_faultOf 87 rfl) (by decide) rfl ?_
        refine x_iconst (dT U_X11_faultOf 88 rfl) ?_
        refine x_istore (ls' := [some (.ref _), some (vi _), some (.ref _), some (vi _), some (vi _), some (vl _), none, some (vi _), some (vi _)]) (dT U_X11_faultOf 89 rfl) (by decide) rfl ?_
        have L : ∀ (n t : Nat), t + n = 8 → X G m_X11_faultOf (d + 1) rc rs ex 129 [some (.ref 70), some (vi (g : Int)), some (.ref (74 + i)), some (vi (σ.G.k.getD g 0)), some (vi (σ.G.b.getD g 0)), some (vl ((σ.rw i).getD (σ.G.a.getD g 0).toNat 0)), none, some (vi (tf (σ.p : Int) ((σ.rw i).getD (σ.G.a.getD g 0).toNat 0) (gf (σ.rw (σ.G.b.getD g 0).toNat)) t)), some (vi (t : Int))] [] h Q := by
          intro n
          induction n with
          | zero =>
            intro t hi_ 
            refine x_iload (dT U_X11_faultOf 90 rfl) rfl ?_
            refine x_bipush (dT U_X11_faultOf 91 rfl) (by decide) ?_
            refine x_icmp_ge (tgt := 166) (dT U_X11_faultOf 92 rfl) (by decide) (by unfold xr; omega) (by unfold xr at *; omega) (fun c133 => ?_) (fun c133 => ?_)
            · skip
              refine x_iload (dT U_X11_faultOf 110 rfl) rfl ?_
              refine x_ireturn (dT U_X11_faultOf 111 rfl) rfl ?_
              have e : t = 8 := by omega
              subst e
              unfold gfault at k
              rw [if_neg (by omega), if_neg (by omega), if_neg (by omega), if_neg (by omega)] at k
              exact k
            · exfalso; omega
          | succ n ih =>
            intro t hi_ 
            have tb := tf_b (p := (σ.p : Int)) (a := ((σ.rw i).getD (σ.G.a.getD g 0).toNat 0)) (r := gf (σ.rw (σ.G.b.getD g 0).toNat)) (by omega) t
            have rb := (v.rw (σ.G.b.getD g 0).toNat (by omega)).2 t
            have xm := mulb2 (a := ((σ.rw i).getD (σ.G.a.getD g 0).toNat 0) - (σ.rw (σ.G.b.getD g 0).toNat).getD t 0) (b := tf (σ.p : Int) ((σ.rw i).getD (σ.G.a.getD g 0).toNat 0) (gf (σ.rw (σ.G.b.getD g 0).toNat)) t) (p := (σ.p : Int)) (by omega) tb (by omega)
            have xm2 := Int.mul_comm (tf (σ.p : Int) ((σ.rw i).getD (σ.G.a.getD g 0).toNat 0) (gf (σ.rw (σ.G.b.getD g 0).toNat)) t) (((σ.rw i).getD (σ.G.a.getD g 0).toNat 0) - (σ.rw (σ.G.b.getD g 0).toNat).getD t 0)
            refine x_iload (dT U_X11_faultOf 90 rfl) rfl ?_
            refine x_bipush (dT U_X11_faultOf 91 rfl) (by decide) ?_
            refine x_icmp_ge (tgt := 166) (dT U_X11_faultOf 92 rfl) (by decide) (by unfold xr; omega) (by unfold xr at *; omega) (fun c133 => ?_) (fun c133 => ?_)
            · exfalso; omega
            · skip
              refine x_aload_n (dT U_X11_faultOf 93 rfl) rfl ?_
              refine x_iload (dT U_X11_faultOf 94 rfl) rfl ?_
              refine x_i2l (dT U_X11_faultOf 95 rfl) (by unfold xr; omega) ?_
              refine x_lload (dT U_X11_faultOf 96 rfl) rfl ?_
              refine x_aload_n (dT U_X11_faultOf 97 rfl) rfl ?_
              refine x_getfield F_X11_18 (dT U_X11_faultOf 98 rfl) w.c70 (Nat.le_of_ble_eq_true rfl) rfl ?_
              refine x_iload (dT U_X11_faultOf 99 rfl) rfl ?_
              refine x_aaload ((σ.G.b.getD g 0).toNat) (dT U_X11_faultOf 100 rfl) w.c73 (Nat.le_of_ble_eq_true rfl) (by decide) (by omega) (mrL_get (by omega)) (Nat.le_of_ble_eq_true rfl) ?_
              refine x_iload (dT U_X11_faultOf 101 rfl) rfl ?_
              refine x_iaload (t) (dT U_X11_faultOf 102 rfl) (w.rows (σ.G.b.getD g 0).toNat (by omega)) (by omega) rfl (by rw [(v.rw (σ.G.b.getD g 0).toNat (by omega)).1]; omega) (by rw [(v.rw (σ.G.b.getD g 0).toNat (by omega)).1]; omega) ?_
              refine x_i2l (dT U_X11_faultOf 103 rfl) (by unfold xr; omega) ?_
              refine x_lsub (dT U_X11_faultOf 104 rfl) ?_
              refine x_lmul (dT U_X11_faultOf 105 rfl) ?_
              refine x_invokevirtual (rc' := rc) (rs' := rs) (rc2 := 0) (rs2 := 0) (As := [_]) (st := _) M_X11_f K_X11_156 (dT U_X11_faultOf 106 rfl) rfl rfl (by decide) rfl rfl w.c70 (Nat.le_of_ble_eq_true rfl) (by decide) rfl (Nat.le_of_ble_eq_true rfl) rfl (by decide) (Nat.le_of_ble_eq_true rfl) rfl rfl ?_
              refine S_X11_f (w.mp) v.p (by unfold xrl; omega) ?_
              refine xRet_some ?_
              refine x_istore (ls' := [some (.ref _), some (vi _), some (.ref _), some (vi _), some (vi _), some (vl _), none, some (vi _), some (vi _)]) (dT U_X11_faultOf 107 rfl) (by decide) rfl ?_
              refine x_iinc (ls' := [some (.ref _), some (vi _), some (.ref _), some (vi _), some (vi _), some (vl _), none, some (vi _), some (vi _)]) (dT U_X11_faultOf 108 rfl) (by decide) rfl rfl ?_
              refine x_goto (tgt := 129) (dT U_X11_faultOf 109 rfl) (by decide) ?_
              exact ih (t + 1) (by omega)
        exact L 8 0 (by omega)
      · skip
        refine x_aload_n (dT U_X11_faultOf 70 rfl) rfl ?_
        refine x_iload_n (dT U_X11_faultOf 71 rfl) rfl ?_
        refine x_iconst (dT U_X11_faultOf 72 rfl) ?_
        refine x_icmp_ne (tgt := 111) (dT U_X11_faultOf 73 rfl) (by decide) (by unfold xr; omega) (by unfold xr; omega) (fun c99 => ?_) (fun c99 => ?_)
        · skip
          refine x_lload (dT U_X11_faultOf 79 rfl) rfl ?_
          refine x_lload (dT U_X11_faultOf 80 rfl) rfl ?_
          refine x_lmul (dT U_X11_faultOf 81 rfl) ?_
          refine x_lload (dT U_X11_faultOf 82 rfl) rfl ?_
          refine x_lsub (dT U_X11_faultOf 83 rfl) ?_
          refine x_invokevirtual (rc' := rc) (rs' := rs) (rc2 := 0) (rs2 := 0) (As := [_]) (st := _) M_X11_f K_X11_156 (dT U_X11_faultOf 84 rfl) rfl rfl (by decide) rfl rfl w.c70 (Nat.le_of_ble_eq_true rfl) (by decide) rfl (Nat.le_of_ble_eq_true rfl) rfl (by decide) (Nat.le_of_ble_eq_true rfl) rfl rfl ?_
          refine S_X11_f (w.mp) v.p (by unfold xrl; omega) ?_
          refine xRet_some ?_
          refine x_ireturn (dT U_X11_faultOf 85 rfl) rfl ?_
          first | (unfold gfault at k; rw [if_neg (by omega), if_neg (by omega), if_pos (by omega)] at k; exact k) | (unfold gfault at k; rw [if_neg (by omega), if_neg (by omega), if_neg (by omega), if_pos (by omega)] at k; exact k)
        · skip
          refine x_lload (dT U_X11_faultOf 74 rfl) rfl ?_
          refine x_iload (dT U_X11_faultOf 75 rfl) rfl ?_
          refine x_i2l (dT U_X11_faultOf 76 rfl) (by unfold xr; omega) ?_
          refine x_lsub (dT U_X11_faultOf 77 rfl) ?_
          refine x_goto (tgt := 119) (dT U_X11_faultOf 78 rfl) (by decide) ?_
          refine x_invokevirtual (rc' := rc) (rs' := rs) (rc2 := 0) (rs2 := 0) (As := [_]) (st := _) M_X11_f K_X11_156 (dT U_X11_faultOf 84 rfl) rfl rfl (by decide) rfl rfl w.c70 (Nat.le_of_ble_eq_true rfl) (by decide) rfl (Nat.le_of_ble_eq_true rfl) rfl (by decide) (Nat.le_of_ble_eq_true rfl) rfl rfl ?_
          refine S_X11_f (w.mp) v.p (by unfold xrl; omega) ?_
          refine xRet_some ?_
          refine x_ireturn (dT U_X11_faultOf 85 rfl) rfl ?_
          first | (unfold gfault at k; rw [if_neg (by omega), if_neg (by omega), if_pos (by omega)] at k; exact k) | (unfold gfault at k; rw [if_neg (by omega), if_neg (by omega), if_neg (by omega), if_pos (by omega)] at k; exact k)
    · skip
      refine x_aload_n (dT U_X11_faultOf 48 rfl) rfl ?_
      refine x_lload (dT U_X11_faultOf 49 rfl) rfl ?_
      refine x_aload_n (dT U_X11_faultOf 50 rfl) rfl ?_
      refine x_iload (dT U_X11_faultOf 51 rfl) rfl ?_
      refine x_ialoadv ((σ.G.b.getD g 0).toNat) (dT U_X11_faultOf 52 rfl) (w.rows i hi) (by omega) (by omega) (by rw [(v.rw i hi).1]; omega) (by rw [(v.rw i hi).1]; omega) (show _ = ((σ.rw i).getD (σ.G.b.getD g 0).toNat 0) from rfl) ?_
      refine x_i2l (dT U_X11_faultOf 53 rfl) (by unfold xr; omega) ?_
      refine x_lmul (dT U_X11_faultOf 54 rfl) ?_
      refine x_aload_n (dT U_X11_faultOf 55 rfl) rfl ?_
      refine x_aload_n (dT U_X11_faultOf 56 rfl) rfl ?_
      refine x_getfield F_X11_85 (dT U_X11_faultOf 57 rfl) w.c70 (Nat.le_of_ble_eq_true rfl) rfl ?_
      refine x_iload_n (dT U_X11_faultOf 58 rfl) rfl ?_
      refine x_aaload (g) (dT U_X11_faultOf 59 rfl) w.c124 (Nat.le_of_ble_eq_true rfl) (by decide) rfl (mgL_get (by omega)) (Nat.le_of_ble_eq_true rfl) ?_
      refine x_iconst (dT U_X11_faultOf 60 rfl) ?_
      refine x_ialoadv (3) (dT U_X11_faultOf 61 rfl) (w.gates g (by omega)) (by omega) rfl (show 3 < 4 by omega) (show 4 < 2147483648 by decide) (show _ = (σ.G.c.getD g 0) from rfl) ?_
      refine x_ialoadv ((σ.G.c.getD g 0).toNat) (dT U_X11_faultOf 62 rfl) (w.rows i hi) (by omega) (by omega) (by rw [(v.rw i hi).1]; omega) (by rw [(v.rw i hi).1]; omega) (show _ = ((σ.rw i).getD (σ.G.c.getD g 0).toNat 0) from rfl) ?_
      refine x_i2l (dT U_X11_faultOf 63 rfl) (by unfold xr; omega) ?_
      refine x_lsub (dT U_X11_faultOf 64 rfl) ?_
      refine x_invokevirtual (rc' := rc) (rs' := rs) (rc2 := 0) (rs2 := 0) (As := [_]) (st := _) M_X11_f K_X11_156 (dT U_X11_faultOf 65 rfl) rfl rfl (by decide) rfl rfl w.c70 (Nat.le_of_ble_eq_true rfl) (by decide) rfl (Nat.le_of_ble_eq_true rfl) rfl (by decide) (Nat.le_of_ble_eq_true rfl) rfl rfl ?_
      refine S_X11_f (w.mp) v.p (by unfold xrl; omega) ?_
      refine xRet_some ?_
      refine x_ireturn (dT U_X11_faultOf 66 rfl) rfl ?_
      unfold gfault at k
      rw [if_neg (by omega), if_pos (by omega)] at k
      exact k
  · skip
    refine x_aload_n (dT U_X11_faultOf 26 rfl) rfl ?_
    refine x_lload (dT U_X11_faultOf 27 rfl) rfl ?_
    refine x_aload_n (dT U_X11_faultOf 28 rfl) rfl ?_
    refine x_iload (dT U_X11_faultOf 29 rfl) rfl ?_
    refine x_ialoadv ((σ.G.b.getD g 0).toNat) (dT U_X11_faultOf 30 rfl) (w.rows i hi) (by omega) (by omega) (by rw [(v.rw i hi).1]; omega) (by rw [(v.rw i hi).1]; omega) (show _ = ((σ.rw i).getD (σ.G.b.getD g 0).toNat 0) from rfl) ?_
    refine x_i2l (dT U_X11_faultOf 31 rfl) (by unfold xr; omega) ?_
    refine x_ladd (dT U_X11_faultOf 32 rfl) ?_
    refine x_aload_n (dT U_X11_faultOf 33 rfl) rfl ?_
    refine x_aload_n (dT U_X11_faultOf 34 rfl) rfl ?_
    refine x_getfield F_X11_85 (dT U_X11_faultOf 35 rfl) w.c70 (Nat.le_of_ble_eq_true rfl) rfl ?_
    refine x_iload_n (dT U_X11_faultOf 36 rfl) rfl ?_
    refine x_aaload (g) (dT U_X11_faultOf 37 rfl) w.c124 (Nat.le_of_ble_eq_true rfl) (by decide) rfl (mgL_get (by omega)) (Nat.le_of_ble_eq_true rfl) ?_
    refine x_iconst (dT U_X11_faultOf 38 rfl) ?_
    refine x_ialoadv (3) (dT U_X11_faultOf 39 rfl) (w.gates g (by omega)) (by omega) rfl (show 3 < 4 by omega) (show 4 < 2147483648 by decide) (show _ = (σ.G.c.getD g 0) from rfl) ?_
    refine x_ialoadv ((σ.G.c.getD g 0).toNat) (dT U_X11_faultOf 40 rfl) (w.rows i hi) (by omega) (by omega) (by rw [(v.rw i hi).1]; omega) (by rw [(v.rw i hi).1]; omega) (show _ = ((σ.rw i).getD (σ.G.c.getD g 0).toNat 0) from rfl) ?_
    refine x_i2l (dT U_X11_faultOf 41 rfl) (by unfold xr; omega) ?_
    refine x_lsub (dT U_X11_faultOf 42 rfl) ?_
    refine x_invokevirtual (rc' := rc) (rs' := rs) (rc2 := 0) (rs2 := 0) (As := [_]) (st := _) M_X11_f K_X11_156 (dT U_X11_faultOf 43 rfl) rfl rfl (by decide) rfl rfl w.c70 (Nat.le_of_ble_eq_true rfl) (by decide) rfl (Nat.le_of_ble_eq_true rfl) rfl (by decide) (Nat.le_of_ble_eq_true rfl) rfl rfl ?_
    refine S_X11_f (w.mp) v.p (by unfold xrl; omega) ?_
    refine xRet_some ?_
    refine x_ireturn (dT U_X11_faultOf 44 rfl) rfl ?_
    unfold gfault at k
    rw [if_pos (by omega)] at k
    exact k

set_option maxRecDepth 20000 in
set_option maxHeartbeats 1000000 in
theorem S_X11_look {G : xG} {d rc rs : Nat} {ex : Bool} {h : xH} {Q : xQ} {σ : St} {cc0 : Int} {rr : Nat} {ss : Int} {i : Nat} (w : MX σ cc0 rr ss h) (v : INV σ) (hi : i < 8) (k : ∀ {l37 : List Int}, h[137]? = some (cA 0 l37) → l37.length = 8 → Q (.inl none) ex (h.set 137 (cA 0 (tab (flt σ (σ.rw i)) 8)))) : X G m_X11_look (d + 2) rc rs ex 0 (xe m_X11_look.2.2.1 [.ref 70, vi (i : Int)]) [] h Q := by
  show X G m_X11_look _ _ _ _ 0 [some (.ref 70), some (vi (i : Int)), none] [] h Q
  have hp := PRb v.p
  have hq := gq_b v.p
  obtain ⟨l37, hs137, ls137⟩ := w.s137
  have gn := v.G.1
  have L : ∀ (n t : Nat), t + n = 8 → X G m_X11_look (d + 2) rc rs ex 2 [some (.ref 70), some (vi (i : Int)), some (vi (t : Int))] [] (h.set 137 (cA 0 (fillL (flt σ (σ.rw i)) l37 t))) Q := by
    intro n
    induction n with
    | zero =>
      intro t hi_ 
      refine x_iload_n (dT U_X11_look 2 rfl) rfl ?_
      refine x_bipush (dT U_X11_look 3 rfl) (by decide) ?_
      refine x_icmp_ge (tgt := 43) (dT U_X11_look 4 rfl) (by decide) (by unfold xr; omega) (by unfold xr at *; omega) (fun c5 => ?_) (fun c5 => ?_)
      · skip
        refine x_return (dT U_X11_look 24 rfl) rfl ?_
        have e : t = 8 := by omega
        subst e
        rw [fillL_all ls137]
        exact k hs137 ls137
      · exfalso; omega
    | succ n ih =>
      intro t hi_ 
      have wt := w.t137 (l := fillL (flt σ (σ.rw i)) l37 t) (fun a ha => by rw [hset_fr (by omega)]) (hset_eq hs137) (by rw [fillL_len]; exact ls137)
      refine x_iload_n (dT U_X11_look 2 rfl) rfl ?_
      refine x_bipush (dT U_X11_look 3 rfl) (by decide) ?_
      refine x_icmp_ge (tgt := 43) (dT U_X11_look 4 rfl) (by decide) (by unfold xr; omega) (by unfold xr at *; omega) (fun c5 => ?_) (fun c5 => ?_)
      · exfalso; omega
      · skip
        refine x_aload_n (dT U_X11_look 5 rfl) rfl ?_
        refine x_getfield F_X11_100 (dT U_X11_look 6 rfl) wt.c70 (Nat.le_of_ble_eq_true rfl) rfl ?_
        refine x_iload_n (dT U_X11_look 7 rfl) rfl ?_
        refine x_iload_n (dT U_X11_look 8 rfl) rfl ?_
        refine x_aload_n (dT U_X11_look 9 rfl) rfl ?_
        refine x_getfield F_X11_140 (dT U_X11_look 10 rfl) wt.c70 (Nat.le_of_ble_eq_true rfl) rfl ?_
        refine x_icmp_ge (tgt := 35) (dT U_X11_look 11 rfl) (by decide) (by unfold xr; omega) (by unfold xr; omega) (fun c18 => ?_) (fun c18 => ?_)
        · skip
          have ef : flt σ (σ.rw i) t = 0 := if_neg (by omega)
          refine x_iconst (dT U_X11_look 20 rfl) ?_
          refine x_iastore (t) (dT U_X11_look 21 rfl) (hset_eq hs137) (Nat.le_of_ble_eq_true rfl) rfl (by rw [fillL_len, ls137]; omega) (by rw [fillL_len, ls137]; omega) ?_
          rw [List.set_set]
          refine x_iinc (ls' := [some (.ref _), some (vi _), some (vi _)]) (dT U_X11_look 22 rfl) (by decide) rfl rfl ?_
          refine x_goto (tgt := 2) (dT U_X11_look 23 rfl) (by decide) ?_
          first | exact ih (t + 1) (by omega) | (have q := ih (t + 1) (by omega); rw [show fillL (flt σ (σ.rw i)) l37 (t + 1) = (fillL (flt σ (σ.rw i)) l37 t).set t 0 by show List.set _ t _ = _; rw [ef]] at q; exact q)
        · skip
          refine x_aload_n (dT U_X11_look 12 rfl) rfl ?_
          refine x_iload_n (dT U_X11_look 13 rfl) rfl ?_
          refine x_aload_n (dT U_X11_look 14 rfl) rfl ?_
          refine x_getfield F_X11_18 (dT U_X11_look 15 rfl) wt.c70 (Nat.le_of_ble_eq_true rfl) rfl ?_
          refine x_iload_n (dT U_X11_look 16 rfl) rfl ?_
          refine x_aaload (i) (dT U_X11_look 17 rfl) wt.c73 (Nat.le_of_ble_eq_true rfl) (by decide) rfl (mrL_get (by omega)) (Nat.le_of_ble_eq_true rfl) ?_
          refine x_invokevirtual (rc' := rc) (rs' := rs) (rc2 := 0) (rs2 := 0) (As := [_, _]) (st := _) M_X11_faultOf K_X11_291 (dT U_X11_look 18 rfl) rfl rfl (by decide) rfl rfl wt.c70 (Nat.le_of_ble_eq_true rfl) (by decide) rfl (Nat.le_of_ble_eq_true rfl) rfl (by decide) (Nat.le_of_ble_eq_true rfl) rfl rfl ?_
          refine S_X11_faultOf wt v (by omega) hi ?_
          refine xRet_some ?_
          have ef : gfault σ.p σ.rw (gf (σ.rw i)) (σ.G.k.getD t 0) (σ.G.a.getD t 0) (σ.G.b.getD t 0) (σ.G.c.getD t 0) = flt σ (σ.rw i) t := (show flt σ (σ.rw i) t = _ from if_pos (by omega)).symm
          rw [ef]
          refine x_goto (tgt := 36) (dT U_X11_look 19 rfl) (by decide) ?_
          refine x_iastore (t) (dT U_X11_look 21 rfl) (hset_eq hs137) (Nat.le_of_ble_eq_true rfl) rfl (by rw [fillL_len, ls137]; omega) (by rw [fillL_len, ls137]; omega) ?_
          rw [List.set_set]
          refine x_iinc (ls' := [some (.ref _), some (vi _), some (vi _)]) (dT U_X11_look 22 rfl) (by decide) rfl rfl ?_
          refine x_goto (tgt := 2) (dT U_X11_look 23 rfl) (by decide) ?_
          first | exact ih (t + 1) (by omega) | (have q := ih (t + 1) (by omega); rw [show fillL (flt σ (σ.rw i)) l37 (t + 1) = (fillL (flt σ (σ.rw i)) l37 t).set t 0 by show List.set _ t _ = _; rw [ef]] at q; exact q)
  refine x_iconst (dT U_X11_look 0 rfl) ?_
  refine x_istore_n (ls' := [some (.ref _), some (vi _), some (vi _)]) (dT U_X11_look 1 rfl) (by decide) rfl ?_
  have q := L 8 0 (by omega)
  rw [show fillL (flt σ (σ.rw i)) l37 0 = l37 from rfl, hset_self hs137] at q
  exact q

set_option maxRecDepth 20000 in
set_option maxHeartbeats 1000000 in
theorem S_X11_fails {G : xG} {d rc rs : Nat} {ex : Bool} {h : xH} {Q : xQ} {σ : St} {cc0 : Int} {rr : Nat} {ss : Int} {row : Int} (w : MX σ cc0 rr ss h) (v : INV σ) (h_row : xr row) (e1 : ¬ (inb row 8) → ∀ h2 z, Ag 70 142 h h2 → MX σ 1 rr ss h2 → xr z → Q (.inl (some (vi z))) ex h2) (k : (inb row 8) → ∀ h2 r2 s2, Ag 70 142 h h2 → MX σ 0 r2 s2 h2 → Q (.inl (some (vi (ff (fun t => ¬ flt σ (σ.rw row.toNat) t = 0) 0 8)))) ex h2) : X G m_X11_fails (d + 3) rc rs ex 0 (xe m_X11_fails.2.2.1 [.ref 70, vi row]) [] h Q := by
  show X G m_X11_fails _ _ _ _ 0 [some (.ref 70), some (vi row), none] [] h Q
  have hp := PRb v.p
  have hq := gq_b v.p
  refine x_aload_n (dT U_X11_fails 0 rfl) rfl ?_
  refine x_iload_n (dT U_X11_fails 1 rfl) rfl ?_
  refine x_invokestatic (rc' := rc) (rs' := rs) (rc2 := 0) (rs2 := 0) (As := [_]) (st := _) M_X11_isRow K_X11_164 (dT U_X11_fails 2 rfl) rfl rfl rfl rfl (Nat.le_of_ble_eq_true rfl) rfl (by decide) (Nat.le_of_ble_eq_true rfl) rfl rfl ?_
  refine S_X11_isRow h_row (fun q1 => ?_) (fun q1 => ?_)
  · refine xRet_some ?_
    refine x_iconst (dT U_X11_fails 3 rfl) ?_
    refine x_invokevirtual (rc' := rc) (rs' := rs) (rc2 := 0) (rs2 := 0) (As := [_, _]) (st := _) M_X11_lets K_X11_167 (dT U_X11_fails 4 rfl) rfl rfl (by decide) rfl rfl w.c70 (Nat.le_of_ble_eq_true rfl) (by decide) rfl (Nat.le_of_ble_eq_true rfl) rfl (by decide) (Nat.le_of_ble_eq_true rfl) rfl rfl ?_
    refine S_X11_lets1 w (fun h1 g1 w1 => ?_)
    refine xRet_some ?_
    obtain ⟨i, hi, rfl⟩ : ∃ j : Nat, j < 8 ∧ row = (j : Int) := ⟨row.toNat, by omega, by omega⟩
    try simp only [tnc] at e1 k
    refine x_if_nej (tgt := 14) (dT U_X11_fails 5 rfl) (by decide) (by decide) ?_
    refine x_aload_n (dT U_X11_fails 8 rfl) rfl ?_
    refine x_iload_n (dT U_X11_fails 9 rfl) rfl ?_
    refine x_invokevirtual (rc' := rc) (rs' := rs) (rc2 := 0) (rs2 := 0) (As := [_]) (st := _) M_X11_look K_X11_295 (dT U_X11_fails 10 rfl) rfl rfl (by decide) rfl rfl w1.c70 (Nat.le_of_ble_eq_true rfl) (by decide) rfl (Nat.le_of_ble_eq_true rfl) rfl (by decide) (Nat.le_of_ble_eq_true rfl) rfl rfl ?_
    refine S_X11_look w1 v hi (fun {l37} hs137 ls137 => ?_)
    refine xRet_none ?_
    have w5 : MX σ 0 rr ss _ := w1.t137 (l := (tab (flt σ (σ.rw i)) 8)) (fun a ha => by rw [hset_fr (by omega)]) (hset_eq hs137) (tab_len _ _)
    have fF := flt_F hp.1 (σ.rw i)
    refine x_iconst (dT U_X11_fails 11 rfl) ?_
    refine x_istore_n (ls' := [some (.ref _), some (vi _), some (vi _)]) (dT U_X11_fails 12 rfl) (by decide) rfl ?_
    have L : ∀ (n t : Nat), t + n = 8 → Q (.inl (some (vi (ff (fun t => ¬ flt σ (σ.rw i) t = 0) t n)))) ex (h1.set 137 (cA 0 (tab (flt σ (σ.rw i)) 8))) → X G m_X11_fails (d + 3) rc rs ex 21 [some (.ref 70), some (vi (i : Int)), some (vi (t : Int))] [] (h1.set 137 (cA 0 (tab (flt σ (σ.rw i)) 8))) Q := by
      intro n
      induction n with
      | zero =>
        intro t hi_ kk
        refine x_iload_n (dT U_X11_fails 13 rfl) rfl ?_
        refine x_bipush (dT U_X11_fails 14 rfl) (by decide) ?_
        refine x_icmp_ge (tgt := 44) (dT U_X11_fails 15 rfl) (by decide) (by unfold xr; omega) (by unfold xr at *; omega) (fun c24 => ?_) (fun c24 => ?_)
        · skip
          refine x_iconst (dT U_X11_fails 25 rfl) ?_
          refine x_ireturn (dT U_X11_fails 26 rfl) rfl ?_
          exact kk
        · exfalso; omega
      | succ n ih =>
        intro t hi_ kk
        refine x_iload_n (dT U_X11_fails 13 rfl) rfl ?_
        refine x_bipush (dT U_X11_fails 14 rfl) (by decide) ?_
        refine x_icmp_ge (tgt := 44) (dT U_X11_fails 15 rfl) (by decide) (by unfold xr; omega) (by unfold xr at *; omega) (fun c24 => ?_) (fun c24 => ?_)
        · exfalso; omega
        · skip
          refine x_aload_n (dT U_X11_fails 16 rfl) rfl ?_
          refine x_getfield F_X11_100 (dT U_X11_fails 17 rfl) w5.c70 (Nat.le_of_ble_eq_true rfl) rfl ?_
          refine x_iload_n (dT U_X11_fails 18 rfl) rfl ?_
          refine x_ialoadv (t) (dT U_X11_fails 19 rfl) (hset_eq hs137) (Nat.le_of_ble_eq_true rfl) rfl (by rw [tab_len]; omega) (by rw [tab_len]; omega) (tab_get _ (by omega)) ?_
          have fb := fF.2 t
          rw [tab_get _ (by omega)] at fb
          refine x_if_eq (tgt := 38) (dT U_X11_fails 20 rfl) (by decide) (by unfold xr; omega) (fun c33 => ?_) (fun c33 => ?_)
          · skip
            rw [ff_n (fun z => z (by assumption))] at kk
            refine x_iinc (ls' := [some (.ref _), some (vi _), some (vi _)]) (dT U_X11_fails 23 rfl) (by decide) rfl rfl ?_
            refine x_goto (tgt := 21) (dT U_X11_fails 24 rfl) (by decide) ?_
            exact ih (t + 1) (by omega) kk
          · skip
            rw [ff_y (P := (fun t => ¬ flt σ (σ.rw i) t = 0)) (by assumption)] at kk
            refine x_iload_n (dT U_X11_fails 21 rfl) rfl ?_
            refine x_ireturn (dT U_X11_fails 22 rfl) rfl ?_
            exact kk
    exact L 8 0 (by omega) (k (by omega) _ _ _ ((Ag.tr (Ag.rf 70 142 h) (g1.w (by omega))).set (by omega)) w5)
  · refine xRet_some ?_
    refine x_iconst (dT U_X11_fails 3 rfl) ?_
    refine x_invokevirtual (rc' := rc) (rs' := rs) (rc2 := 0) (rs2 := 0) (As := [_, _]) (st := _) M_X11_lets K_X11_167 (dT U_X11_fails 4 rfl) rfl rfl (by decide) rfl rfl w.c70 (Nat.le_of_ble_eq_true rfl) (by decide) rfl (Nat.le_of_ble_eq_true rfl) rfl (by decide) (Nat.le_of_ble_eq_true rfl) rfl rfl ?_
    refine S_X11_lets0 w (fun h1 g1 w1 => ?_)
    refine xRet_some ?_
    refine x_if_nen (tgt := 14) (dT U_X11_fails 5 rfl) (by decide) (by decide) ?_
    refine x_iconst (dT U_X11_fails 6 rfl) ?_
    refine x_ireturn (dT U_X11_fails 7 rfl) rfl ?_
    exact e1 (by omega) _ _ (Ag.tr (Ag.rf 70 142 h) (g1.w (by omega))) w1 (by unfold xr; omega)

theorem ct_not {P : Nat → Prop} [DecidablePred P] : ∀ n, ct (fun t => ¬ P t) n + ct P n = n
  | 0 => rfl
  | n + 1 => by
    have ih := ct_not (P := P) n
    by_cases c : P n
    · rw [ct_yes c, ct_no (P := fun t => ¬ P t) (fun z => z c)]; omega
    · rw [ct_no c, ct_yes (P := fun t => ¬ P t) c]; omega

set_option maxRecDepth 20000 in
set_option maxHeartbeats 1000000 in
theorem S_X11_faults {G : xG} {d rc rs : Nat} {ex : Bool} {h : xH} {Q : xQ} {σ : St} {cc0 : Int} {rr : Nat} {ss : Int} {row to : Int} (w : MX σ cc0 rr ss h) (v : INV σ) (h_row : xr row) (h_to : xr to) (e1 : ¬ (inb row 8 ∧ inb to 8) → ∀ h2 z, Ag 70 142 h h2 → MX σ 1 rr ss h2 → xr z → Q (.inl (some (vi z))) ex h2) (k : (inb row 8 ∧ inb to 8) → ∀ h2 r2 s2, Ag 70 142 h h2 → MX (σ.sRow to.toNat (tab (flt σ (σ.rw row.toNat)) 8)) 0 r2 s2 h2 → Q (.inl (some (vi ((ct (fun t => ¬ flt σ (σ.rw row.toNat) t = 0) 8 : Int))))) ex h2) : X G m_X11_faults (d + 3) rc rs ex 0 (xe m_X11_faults.2.2.1 [.ref 70, vi row, vi to]) [] h Q := by
  show X G m_X11_faults _ _ _ _ 0 [some (.ref 70), some (vi row), some (vi to)] [] h Q
  have hp := PRb v.p
  have hq := gq_b v.p
  refine x_aload_n (dT U_X11_faults 0 rfl) rfl ?_
  refine x_iload_n (dT U_X11_faults 1 rfl) rfl ?_
  refine x_invokestatic (rc' := rc) (rs' := rs) (rc2 := 0) (rs2 := 0) (As := [_]) (st := _) M_X11_isRow K_X11_164 (dT U_X11_faults 2 rfl) rfl rfl rfl rfl (Nat.le_of_ble_eq_true rfl) rfl (by decide) (Nat.le_of_ble_eq_true rfl) rfl rfl ?_
  refine S_X11_isRow h_row (fun q1 => ?_) (fun q1 => ?_)
  · refine xRet_some ?_
    refine x_if_eqn (tgt := 19) (dT U_X11_faults 3 rfl) (by decide) (by decide) ?_
    refine x_iload_n (dT U_X11_faults 4 rfl) rfl ?_
    refine x_invokestatic (rc' := rc) (rs' := rs) (rc2 := 0) (rs2 := 0) (As := [_]) (st := _) M_X11_isRow K_X11_164 (dT U_X11_faults 5 rfl) rfl rfl rfl rfl (Nat.le_of_ble_eq_true rfl) rfl (by decide) (Nat.le_of_ble_eq_true rfl) rfl rfl ?_
    refine S_X11_isRow h_to (fun q2 => ?_) (fun q2 => ?_)
    · refine xRet_some ?_
      refine x_if_eqn (tgt := 19) (dT U_X11_faults 6 rfl) (by decide) (by decide) ?_
      refine x_iconst (dT U_X11_faults 7 rfl) ?_
      refine x_goto (tgt := 20) (dT U_X11_faults 8 rfl) (by decide) ?_
      refine x_iconst (dT U_X11_faults 10 rfl) ?_
      refine x_invokevirtual (rc' := rc) (rs' := rs) (rc2 := 0) (rs2 := 0) (As := [_, _]) (st := _) M_X11_lets K_X11_167 (dT U_X11_faults 11 rfl) rfl rfl (by decide) rfl rfl w.c70 (Nat.le_of_ble_eq_true rfl) (by decide) rfl (Nat.le_of_ble_eq_true rfl) rfl (by decide) (Nat.le_of_ble_eq_true rfl) rfl rfl ?_
      refine S_X11_lets1 w (fun h1 g1 w1 => ?_)
      refine xRet_some ?_
      obtain ⟨i, hi, rfl⟩ : ∃ j : Nat, j < 8 ∧ row = (j : Int) := ⟨row.toNat, by omega, by omega⟩
      try simp only [tnc] at e1 k
      obtain ⟨j, hj, rfl⟩ : ∃ j : Nat, j < 8 ∧ to = (j : Int) := ⟨to.toNat, by omega, by omega⟩
      try simp only [tnc] at e1 k
      refine x_if_nej (tgt := 29) (dT U_X11_faults 12 rfl) (by decide) (by decide) ?_
      refine x_aload_n (dT U_X11_faults 15 rfl) rfl ?_
      refine x_iload_n (dT U_X11_faults 16 rfl) rfl ?_
      refine x_invokevirtual (rc' := rc) (rs' := rs) (rc2 := 0) (rs2 := 0) (As := [_]) (st := _) M_X11_look K_X11_295 (dT U_X11_faults 17 rfl) rfl rfl (by decide) rfl rfl w1.c70 (Nat.le_of_ble_eq_true rfl) (by decide) rfl (Nat.le_of_ble_eq_true rfl) rfl (by decide) (Nat.le_of_ble_eq_true rfl) rfl rfl ?_
      refine S_X11_look w1 v hi (fun {l37} hs137 ls137 => ?_)
      refine xRet_none ?_
      have w5 : MX σ 0 rr ss _ := w1.t137 (l := (tab (flt σ (σ.rw i)) 8)) (fun a ha => by rw [hset_fr (by omega)]) (hset_eq hs137) (tab_len _ _)
      have fF := flt_F hp.1 (σ.rw i)
      refine x_aload_n (dT U_X11_faults 18 rfl) rfl ?_
      refine x_getfield F_X11_18 (dT U_X11_faults 19 rfl) w5.c70 (Nat.le_of_ble_eq_true rfl) rfl ?_
      refine x_iload_n (dT U_X11_faults 20 rfl) rfl ?_
      refine x_aaload (j) (dT U_X11_faults 21 rfl) w5.c73 (Nat.le_of_ble_eq_true rfl) (by decide) rfl (mrL_get (by omega)) (Nat.le_of_ble_eq_true rfl) ?_
      refine x_aload_n (dT U_X11_faults 22 rfl) rfl ?_
      refine x_getfield F_X11_100 (dT U_X11_faults 23 rfl) w5.c70 (Nat.le_of_ble_eq_true rfl) rfl ?_
      refine x_invokestatic (rc' := rc) (rs' := rs) (rc2 := 0) (rs2 := 0) (As := [_, _]) (st := _) M_X11_becomes K_X11_189 (dT U_X11_faults 24 rfl) rfl rfl rfl rfl (Nat.le_of_ble_eq_true rfl) rfl (by decide) (Nat.le_of_ble_eq_true rfl) rfl rfl ?_
      refine S_becomes8 (w5.rows j hj) (by omega) (v.rw j hj).1 (hset_eq hs137) (by omega) (tab_len _ _) ?_
      refine xRet_none ?_
      refine x_bipush (dT U_X11_faults 25 rfl) (by decide) ?_
      refine x_aload_n (dT U_X11_faults 26 rfl) rfl ?_
      refine x_getfield F_X11_100 (dT U_X11_faults 27 rfl) (hset_ne (by omega) (w5.c70)) (Nat.le_of_ble_eq_true rfl) rfl ?_
      refine x_iconst (dT U_X11_faults 28 rfl) ?_
      refine x_invokestatic (rc' := rc) (rs' := rs) (rc2 := 0) (rs2 := 0) (As := [_, _]) (st := _) M_X11_often K_X11_201 (dT U_X11_faults 29 rfl) rfl rfl rfl rfl (Nat.le_of_ble_eq_true rfl) rfl (by decide) (Nat.le_of_ble_eq_true rfl) rfl rfl ?_
      refine S_X11_often (hset_ne (by omega) (hset_eq hs137)) (by omega) (tab_len _ _) (fun t => by have := fF.2 t; unfold xr; omega) (by unfold xr; omega) ?_
      have cn9 := ct_not (P := fun t => flt σ (σ.rw i) t = 0) 8
      rw [ct_congr (P := fun t => gf (tab (flt σ (σ.rw i)) 8) t = 0) (Q := fun t => flt σ (σ.rw i) t = 0) 8 (fun t ht => by unfold gf; rw [tab_get _ ht])]
      refine xRet_some ?_
      refine x_isub (dT U_X11_faults 30 rfl) ?_
      refine x_ireturn (dT U_X11_faults 31 rfl) rfl ?_
      rw [show (8 : Int) - (ct (fun t => flt σ (σ.rw i) t = 0) 8 : Int) = (ct (fun t => ¬ flt σ (σ.rw i) t = 0) 8 : Int) by omega]
      exact k (by omega) _ _ _ (((Ag.tr (Ag.rf 70 142 h) (g1.w (by omega))).set (by omega)).set (by omega)) (w5.row (i := j) (l := (tab (flt σ (σ.rw i)) 8)) (fun a ha => by rw [hset_fr (by omega)]) hj (hset_eq (w5.rows j hj)))
    · refine xRet_some ?_
      refine x_if_eqj (tgt := 19) (dT U_X11_faults 6 rfl) (by decide) (by decide) ?_
      refine x_iconst (dT U_X11_faults 9 rfl) ?_
      refine x_iconst (dT U_X11_faults 10 rfl) ?_
      refine x_invokevirtual (rc' := rc) (rs' := rs) (rc2 := 0) (rs2 := 0) (As := [_, _]) (st := _) M_X11_lets K_X11_167 (dT U_X11_faults 11 rfl) rfl rfl (by decide) rfl rfl w.c70 (Nat.le_of_ble_eq_true rfl) (by decide) rfl (Nat.le_of_ble_eq_true rfl) rfl (by decide) (Nat.le_of_ble_eq_true rfl) rfl rfl ?_
      refine S_X11_lets0 w (fun h1 g1 w1 => ?_)
      refine xRet_some ?_
      refine x_if_nen (tgt := 29) (dT U_X11_faults 12 rfl) (by decide) (by decide) ?_
      refine x_iconst (dT U_X11_faults 13 rfl) ?_
      refine x_ireturn (dT U_X11_faults 14 rfl) rfl ?_
      exact e1 (by omega) _ _ (Ag.tr (Ag.rf 70 142 h) (g1.w (by omega))) w1 (by unfold xr; omega)
  · refine xRet_some ?_
    refine x_if_eqj (tgt := 19) (dT U_X11_faults 3 rfl) (by decide) (by decide) ?_
    refine x_iconst (dT U_X11_faults 9 rfl) ?_
    refine x_iconst (dT U_X11_faults 10 rfl) ?_
    refine x_invokevirtual (rc' := rc) (rs' := rs) (rc2 := 0) (rs2 := 0) (As := [_, _]) (st := _) M_X11_lets K_X11_167 (dT U_X11_faults 11 rfl) rfl rfl (by decide) rfl rfl w.c70 (Nat.le_of_ble_eq_true rfl) (by decide) rfl (Nat.le_of_ble_eq_true rfl) rfl (by decide) (Nat.le_of_ble_eq_true rfl) rfl rfl ?_
    refine S_X11_lets0 w (fun h1 g1 w1 => ?_)
    refine xRet_some ?_
    refine x_if_nen (tgt := 29) (dT U_X11_faults 12 rfl) (by decide) (by decide) ?_
    refine x_iconst (dT U_X11_faults 13 rfl) ?_
    refine x_ireturn (dT U_X11_faults 14 rfl) rfl ?_
    exact e1 (by omega) _ _ (Ag.tr (Ag.rf 70 142 h) (g1.w (by omega))) w1 (by unfold xr; omega)

set_option maxRecDepth 20000 in
set_option maxHeartbeats 1000000 in
theorem S_X11_spots {G : xG} {d rc rs : Nat} {ex : Bool} {h : xH} {Q : xQ} {σ : St} {cc0 : Int} {rr : Nat} {ss : Int} {row : Int} (w : MX σ cc0 rr ss h) (v : INV σ) (h_row : xr row) (e1 : ¬ (inb row 8) → ∀ h2 z, Ag 70 142 h h2 → MX σ 1 rr ss h2 → xr z → Q (.inl (some (vi z))) ex h2) (k : (inb row 8) → ∀ h2 r2 s2, Ag 70 142 h h2 → MX σ 0 r2 s2 h2 → Q (.inl (some (vi ((ct (fun x : Nat => hor (gf (tab (flt σ (σ.rw row.toNat)) 8)) σ.p (x : Int) 8 = 0) σ.p : Int))))) ex h2) : X G m_X11_spots (d + 3) rc rs ex 0 (xe m_X11_spots.2.2.1 [.ref 70, vi row]) [] h Q := by
  show X G m_X11_spots _ _ _ _ 0 [some (.ref 70), some (vi row), none, none] [] h Q
  have hp := PRb v.p
  have hq := gq_b v.p
  refine x_aload_n (dT U_X11_spots 0 rfl) rfl ?_
  refine x_iload_n (dT U_X11_spots 1 rfl) rfl ?_
  refine x_invokestatic (rc' := rc) (rs' := rs) (rc2 := 0) (rs2 := 0) (As := [_]) (st := _) M_X11_isRow K_X11_164 (dT U_X11_spots 2 rfl) rfl rfl rfl rfl (Nat.le_of_ble_eq_true rfl) rfl (by decide) (Nat.le_of_ble_eq_true rfl) rfl rfl ?_
  refine S_X11_isRow h_row (fun q1 => ?_) (fun q1 => ?_)
  · refine xRet_some ?_
    refine x_iconst (dT U_X11_spots 3 rfl) ?_
    refine x_invokevirtual (rc' := rc) (rs' := rs) (rc2 := 0) (rs2 := 0) (As := [_, _]) (st := _) M_X11_lets K_X11_167 (dT U_X11_spots 4 rfl) rfl rfl (by decide) rfl rfl w.c70 (Nat.le_of_ble_eq_true rfl) (by decide) rfl (Nat.le_of_ble_eq_true rfl) rfl (by decide) (Nat.le_of_ble_eq_true rfl) rfl rfl ?_
    refine S_X11_lets1 w (fun h1 g1 w1 => ?_)
    refine xRet_some ?_
    obtain ⟨i, hi, rfl⟩ : ∃ j : Nat, j < 8 ∧ row = (j : Int) := ⟨row.toNat, by omega, by omega⟩
    try simp only [tnc] at e1 k
    refine x_if_nej (tgt := 14) (dT U_X11_spots 5 rfl) (by decide) (by decide) ?_
    refine x_aload_n (dT U_X11_spots 8 rfl) rfl ?_
    refine x_iload_n (dT U_X11_spots 9 rfl) rfl ?_
    refine x_invokevirtual (rc' := rc) (rs' := rs) (rc2 := 0) (rs2 := 0) (As := [_]) (st := _) M_X11_look K_X11_295 (dT U_X11_spots 10 rfl) rfl rfl (by decide) rfl rfl w1.c70 (Nat.le_of_ble_eq_true rfl) (by decide) rfl (Nat.le_of_ble_eq_true rfl) rfl (by decide) (Nat.le_of_ble_eq_true rfl) rfl rfl ?_
    refine S_X11_look w1 v hi (fun {l37} hs137 ls137 => ?_)
    refine xRet_none ?_
    have w5 : MX σ 0 rr ss _ := w1.t137 (l := (tab (flt σ (σ.rw i)) 8)) (fun a ha => by rw [hset_fr (by omega)]) (hset_eq hs137) (tab_len _ _)
    have fF := flt_F hp.1 (σ.rw i)
    refine x_iconst (dT U_X11_spots 11 rfl) ?_
    refine x_istore_n (ls' := [some (.ref _), some (vi _), some (vi _), none]) (dT U_X11_spots 12 rfl) (by decide) rfl ?_
    refine x_iconst (dT U_X11_spots 13 rfl) ?_
    refine x_istore_n (ls' := [some (.ref _), some (vi _), some (vi _), some (vi _)]) (dT U_X11_spots 14 rfl) (by decide) rfl ?_
    have L : ∀ (n u : Nat), u + n = σ.p → X G m_X11_spots (d + 3) rc rs ex 23 [some (.ref 70), some (vi (i : Int)), some (vi (ct (fun x : Nat => hor (gf (tab (flt σ (σ.rw i)) 8)) σ.p (x : Int) 8 = 0) u : Int)), some (vi (u : Int))] [] (h1.set 137 (cA 0 (tab (flt σ (σ.rw i)) 8))) Q := by
      intro n
      induction n with
      | zero =>
        intro u hi_ 
        refine x_iload_n (dT U_X11_spots 15 rfl) rfl ?_
        refine x_aload_n (dT U_X11_spots 16 rfl) rfl ?_
        refine x_getfield F_X11_130 (dT U_X11_spots 17 rfl) w5.c70 (Nat.le_of_ble_eq_true rfl) rfl ?_
        refine x_icmp_ge (tgt := 59) (dT U_X11_spots 18 rfl) (by decide) (by unfold xr; omega) (by unfold xr; omega) (fun c28 => ?_) (fun c28 => ?_)
        · skip
          have e : u = σ.p := by omega
          rw [e]
          refine x_iload_n (dT U_X11_spots 34 rfl) rfl ?_
          refine x_ireturn (dT U_X11_spots 35 rfl) rfl ?_
          exact k (by omega) _ _ _ ((Ag.tr (Ag.rf 70 142 h) (g1.w (by omega))).set (by omega)) w5
        · exfalso; omega
      | succ n ih =>
        intro u hi_ 
        refine x_iload_n (dT U_X11_spots 15 rfl) rfl ?_
        refine x_aload_n (dT U_X11_spots 16 rfl) rfl ?_
        refine x_getfield F_X11_130 (dT U_X11_spots 17 rfl) w5.c70 (Nat.le_of_ble_eq_true rfl) rfl ?_
        refine x_icmp_ge (tgt := 59) (dT U_X11_spots 18 rfl) (by decide) (by unfold xr; omega) (by unfold xr; omega) (fun c28 => ?_) (fun c28 => ?_)
        · exfalso; omega
        · skip
          refine x_iload_n (dT U_X11_spots 19 rfl) rfl ?_
          refine x_aload_n (dT U_X11_spots 20 rfl) rfl ?_
          refine x_aload_n (dT U_X11_spots 21 rfl) rfl ?_
          refine x_getfield F_X11_100 (dT U_X11_spots 22 rfl) w5.c70 (Nat.le_of_ble_eq_true rfl) rfl ?_
          refine x_bipush (dT U_X11_spots 23 rfl) (by decide) ?_
          refine x_iload_n (dT U_X11_spots 24 rfl) rfl ?_
          refine x_invokevirtual (rc' := rc) (rs' := rs) (rc2 := 0) (rs2 := 0) (As := [_, _, _]) (st := _) M_X11_valueOf K_X11_181 (dT U_X11_spots 25 rfl) rfl rfl (by decide) rfl rfl w5.c70 (Nat.le_of_ble_eq_true rfl) (by decide) rfl (Nat.le_of_ble_eq_true rfl) rfl (by decide) (Nat.le_of_ble_eq_true rfl) rfl rfl ?_
          refine S_X11_valueOf (m := 8) (w5.mp) v.p (hset_eq hs137) (by omega) (by rw [tab_len]; omega) fF.2 (by omega) ?_
          rw [horm8]
          have hb9 := hor_b (f := gf (tab (flt σ (σ.rw i)) 8)) (p := (σ.p : Int)) (x := (u : Int)) (by omega) 8
          refine xRet_some ?_
          refine x_if_ne (tgt := 50) (dT U_X11_spots 26 rfl) (by decide) (by unfold xr; omega) (fun c43 => ?_) (fun c43 => ?_)
          · skip
            refine x_iconst (dT U_X11_spots 29 rfl) ?_
            refine x_iadd (dT U_X11_spots 30 rfl) ?_
            refine x_istore_n (ls' := [some (.ref _), some (vi _), some (vi _), some (vi _)]) (dT U_X11_spots 31 rfl) (by decide) rfl ?_
            refine x_iinc (ls' := [some (.ref _), some (vi _), some (vi _), some (vi _)]) (dT U_X11_spots 32 rfl) (by decide) rfl rfl ?_
            refine x_goto (tgt := 23) (dT U_X11_spots 33 rfl) (by decide) ?_
            have q := ih (u + 1) (by omega)
            first | rw [ct_yes (P := (fun x : Nat => hor (gf (tab (flt σ (σ.rw i)) 8)) σ.p (x : Int) 8 = 0)) c43] at q | rw [ct_no (P := (fun x : Nat => hor (gf (tab (flt σ (σ.rw i)) 8)) σ.p (x : Int) 8 = 0)) c43] at q
            first | exact q | (rw [show (ct (fun x : Nat => hor (gf (tab (flt σ (σ.rw i)) 8)) σ.p (x : Int) 8 = 0) u : Int) + 0 = (ct (fun x : Nat => hor (gf (tab (flt σ (σ.rw i)) 8)) σ.p (x : Int) 8 = 0) u : Int) from Int.add_zero _]; exact q)
          · skip
            refine x_iconst (dT U_X11_spots 27 rfl) ?_
            refine x_goto (tgt := 51) (dT U_X11_spots 28 rfl) (by decide) ?_
            refine x_iadd (dT U_X11_spots 30 rfl) ?_
            refine x_istore_n (ls' := [some (.ref _), some (vi _), some (vi _), some (vi _)]) (dT U_X11_spots 31 rfl) (by decide) rfl ?_
            refine x_iinc (ls' := [some (.ref _), some (vi _), some (vi _), some (vi _)]) (dT U_X11_spots 32 rfl) (by decide) rfl rfl ?_
            refine x_goto (tgt := 23) (dT U_X11_spots 33 rfl) (by decide) ?_
            have q := ih (u + 1) (by omega)
            first | rw [ct_yes (P := (fun x : Nat => hor (gf (tab (flt σ (σ.rw i)) 8)) σ.p (x : Int) 8 = 0)) c43] at q | rw [ct_no (P := (fun x : Nat => hor (gf (tab (flt σ (σ.rw i)) 8)) σ.p (x : Int) 8 = 0)) c43] at q
            first | exact q | (rw [show (ct (fun x : Nat => hor (gf (tab (flt σ (σ.rw i)) 8)) σ.p (x : Int) 8 = 0) u : Int) + 0 = (ct (fun x : Nat => hor (gf (tab (flt σ (σ.rw i)) 8)) σ.p (x : Int) 8 = 0) u : Int) from Int.add_zero _]; exact q)
    exact L σ.p 0 (by omega)
  · refine xRet_some ?_
    refine x_iconst (dT U_X11_spots 3 rfl) ?_
    refine x_invokevirtual (rc' := rc) (rs' := rs) (rc2 := 0) (rs2 := 0) (As := [_, _]) (st := _) M_X11_lets K_X11_167 (dT U_X11_spots 4 rfl) rfl rfl (by decide) rfl rfl w.c70 (Nat.le_of_ble_eq_true rfl) (by decide) rfl (Nat.le_of_ble_eq_true rfl) rfl (by decide) (Nat.le_of_ble_eq_true rfl) rfl rfl ?_
    refine S_X11_lets0 w (fun h1 g1 w1 => ?_)
    refine xRet_some ?_
    refine x_if_nen (tgt := 14) (dT U_X11_spots 5 rfl) (by decide) (by decide) ?_
    refine x_iconst (dT U_X11_spots 6 rfl) ?_
    refine x_ireturn (dT U_X11_spots 7 rfl) rfl ?_
    exact e1 (by omega) _ _ (Ag.tr (Ag.rf 70 142 h) (g1.w (by omega))) w1 (by unfold xr; omega)

theorem gset_e {l : List Int} {n : Nat} {v : Int} (h : n < l.length) : (l.set n v).getD n 0 = v := by rw [List.getD_eq_getElem?_getD, List.getElem?_set_self h]; rfl
theorem gset_n {l : List Int} {n j : Nat} {v : Int} (h : j ≠ n) : (l.set n v).getD j 0 = l.getD j 0 := by rw [List.getD_eq_getElem?_getD, List.getElem?_set_ne (Ne.symm h), ← List.getD_eq_getElem?_getD]

set_option maxRecDepth 20000 in
set_option maxHeartbeats 1000000 in
theorem S_X11_gate {G : xG} {d rc rs : Nat} {ex : Bool} {h : xH} {Q : xQ} {σ : St} {cc0 : Int} {rr : Nat} {ss : Int} {kind a b c : Int} (w : MX σ cc0 rr ss h) (v : INV σ) (h_kind : xr kind) (h_a : xr a) (h_b : xr b) (h_c : xr c) (e1 : ¬ (inb a 8 ∧ (kind = 0 ∨ kind = 1 → inb b 8 ∧ inb c 8) ∧ (kind = 4 → inb b 8)) → ∀ h2 z, Ag 70 142 h h2 → MX σ 1 rr ss h2 → xr z → Q (.inl (some (vi z))) ex h2) (e2 : (inb a 8 ∧ (kind = 0 ∨ kind = 1 → inb b 8 ∧ inb c 8) ∧ (kind = 4 → inb b 8)) → ¬ (inb kind 5 ∧ (kind = 2 → inb b σ.p)) → ∀ h2 z, Ag 70 142 h h2 → MX σ 2 rr ss h2 → xr z → Q (.inl (some (vi z))) ex h2) (e3 : (inb a 8 ∧ (kind = 0 ∨ kind = 1 → inb b 8 ∧ inb c 8) ∧ (kind = 4 → inb b 8)) → (inb kind 5 ∧ (kind = 2 → inb b σ.p)) → ¬ (σ.G.n < 8) → ∀ h2 z, Ag 70 142 h h2 → MX σ 3 rr ss h2 → xr z → Q (.inl (some (vi z))) ex h2) (k : (inb a 8 ∧ (kind = 0 ∨ kind = 1 → inb b 8 ∧ inb c 8) ∧ (kind = 4 → inb b 8)) → (inb kind 5 ∧ (kind = 2 → inb b σ.p)) → (σ.G.n < 8) → ∀ h2 r2 s2, Ag 70 142 h h2 → MX (σ.sG (σ.G.n + 1, σ.G.k.set σ.G.n kind, σ.G.a.set σ.G.n a, σ.G.b.set σ.G.n b, σ.G.c.set σ.G.n c)) 0 r2 s2 h2 → Q (.inl (some (vi ((σ.G.n : Int) + 1)))) ex h2) : X G m_X11_gate (d + 2) rc rs ex 0 (xe m_X11_gate.2.2.1 [.ref 70, vi kind, vi a, vi b, vi c]) [] h Q := by
  show X G m_X11_gate _ _ _ _ 0 [some (.ref 70), some (vi kind), some (vi a), some (vi b), some (vi c), none] [] h Q
  have hp := PRb v.p
  have hq := gq_b v.p
  refine x_iload_n (dT U_X11_gate 0 rfl) rfl ?_
  refine x_invokestatic (rc' := rc) (rs' := rs) (rc2 := 0) (rs2 := 0) (As := [_]) (st := _) M_X11_isRow K_X11_164 (dT U_X11_gate 1 rfl) rfl rfl rfl rfl (Nat.le_of_ble_eq_true rfl) rfl (by decide) (Nat.le_of_ble_eq_true rfl) rfl rfl ?_
  refine S_X11_isRow h_a (fun q1 => ?_) (fun q1 => ?_)
  · refine xRet_some ?_
    refine x_istore (ls' := [some (.ref _), some (vi _), some (vi _), some (vi _), some (vi _), some (vi _)]) (dT U_X11_gate 2 rfl) (by decide) rfl ?_
    refine x_iload_n (dT U_X11_gate 3 rfl) rfl ?_
    refine x_if_eq (tgt := 15) (dT U_X11_gate 4 rfl) (by decide) h_kind (fun c7 => ?_) (fun c7 => ?_)
    · skip
      refine x_iload (dT U_X11_gate 8 rfl) rfl ?_
      refine x_if_eqn (tgt := 39) (dT U_X11_gate 9 rfl) (by decide) (by decide) ?_
      refine x_iload_n (dT U_X11_gate 10 rfl) rfl ?_
      refine x_invokestatic (rc' := rc) (rs' := rs) (rc2 := 0) (rs2 := 0) (As := [_]) (st := _) M_X11_isRow K_X11_164 (dT U_X11_gate 11 rfl) rfl rfl rfl rfl (Nat.le_of_ble_eq_true rfl) rfl (by decide) (Nat.le_of_ble_eq_true rfl) rfl rfl ?_
      refine S_X11_isRow h_b (fun q2 => ?_) (fun q2 => ?_)
      · refine xRet_some ?_
        refine x_if_eqn (tgt := 39) (dT U_X11_gate 12 rfl) (by decide) (by decide) ?_
        refine x_iload (dT U_X11_gate 13 rfl) rfl ?_
        refine x_invokestatic (rc' := rc) (rs' := rs) (rc2 := 0) (rs2 := 0) (As := [_]) (st := _) M_X11_isRow K_X11_164 (dT U_X11_gate 14 rfl) rfl rfl rfl rfl (Nat.le_of_ble_eq_true rfl) rfl (by decide) (Nat.le_of_ble_eq_true rfl) rfl rfl ?_
        refine S_X11_isRow h_c (fun q3 => ?_) (fun q3 => ?_)
        · refine xRet_some ?_
          refine x_if_eqn (tgt := 39) (dT U_X11_gate 15 rfl) (by decide) (by decide) ?_
          refine x_iconst (dT U_X11_gate 16 rfl) ?_
          refine x_goto (tgt := 40) (dT U_X11_gate 17 rfl) (by decide) ?_
          refine x_istore (ls' := [some (.ref _), some (vi _), some (vi _), some (vi _), some (vi _), some (vi _)]) (dT U_X11_gate 19 rfl) (by decide) rfl ?_
          refine x_iload_n (dT U_X11_gate 20 rfl) rfl ?_
          refine x_iconst (dT U_X11_gate 21 rfl) ?_
          refine x_icmp_ne (tgt := 66) (dT U_X11_gate 22 rfl) (by decide) h_kind (by unfold xr; omega) (fun c44 => ?_) (fun c44 => ?_)
          · skip
            refine x_aload_n (dT U_X11_gate 32 rfl) rfl ?_
            refine x_iload (dT U_X11_gate 33 rfl) rfl ?_
            refine x_iconst (dT U_X11_gate 34 rfl) ?_
            refine x_invokevirtual (rc' := rc) (rs' := rs) (rc2 := 0) (rs2 := 0) (As := [_, _]) (st := _) M_X11_lets K_X11_167 (dT U_X11_gate 35 rfl) rfl rfl (by decide) rfl rfl w.c70 (Nat.le_of_ble_eq_true rfl) (by decide) rfl (Nat.le_of_ble_eq_true rfl) rfl (by decide) (Nat.le_of_ble_eq_true rfl) rfl rfl ?_
            refine S_X11_lets1 w (fun h1 g1 w1 => ?_)
            refine xRet_some ?_
            refine x_if_eqn (tgt := 132) (dT U_X11_gate 36 rfl) (by decide) (by decide) ?_
            refine x_aload_n (dT U_X11_gate 37 rfl) rfl ?_
            refine x_iload_n (dT U_X11_gate 38 rfl) rfl ?_
            refine x_iconst (dT U_X11_gate 39 rfl) ?_
            refine x_invokestatic (rc' := rc) (rs' := rs) (rc2 := 0) (rs2 := 0) (As := [_, _]) (st := _) M_X11_in K_X11_126 (dT U_X11_gate 40 rfl) rfl rfl rfl rfl (Nat.le_of_ble_eq_true rfl) rfl (by decide) (Nat.le_of_ble_eq_true rfl) rfl rfl ?_
            refine S_X11_in h_kind (by unfold xr; omega) (fun q4 => ?_) (fun q4 => ?_)
            · refine xRet_some ?_
              refine x_if_eqn (tgt := 102) (dT U_X11_gate 41 rfl) (by decide) (by decide) ?_
              refine x_iload_n (dT U_X11_gate 42 rfl) rfl ?_
              refine x_iconst (dT U_X11_gate 43 rfl) ?_
              refine x_icmp_ne (tgt := 98) (dT U_X11_gate 44 rfl) (by decide) h_kind (by unfold xr; omega) (fun c87 => ?_) (fun c87 => ?_)
              · skip
                refine x_iconst (dT U_X11_gate 49 rfl) ?_
                refine x_goto (tgt := 103) (dT U_X11_gate 50 rfl) (by decide) ?_
                refine x_iconst (dT U_X11_gate 52 rfl) ?_
                refine x_invokevirtual (rc' := rc) (rs' := rs) (rc2 := 0) (rs2 := 0) (As := [_, _]) (st := _) M_X11_lets K_X11_167 (dT U_X11_gate 53 rfl) rfl rfl (by decide) rfl rfl w1.c70 (Nat.le_of_ble_eq_true rfl) (by decide) rfl (Nat.le_of_ble_eq_true rfl) rfl (by decide) (Nat.le_of_ble_eq_true rfl) rfl rfl ?_
                refine S_X11_lets1 w1 (fun h2 g2 w2 => ?_)
                refine xRet_some ?_
                refine x_if_eqn (tgt := 132) (dT U_X11_gate 54 rfl) (by decide) (by decide) ?_
                refine x_aload_n (dT U_X11_gate 55 rfl) rfl ?_
                refine x_aload_n (dT U_X11_gate 56 rfl) rfl ?_
                refine x_getfield F_X11_140 (dT U_X11_gate 57 rfl) w2.c70 (Nat.le_of_ble_eq_true rfl) rfl ?_
                refine x_bipush (dT U_X11_gate 58 rfl) (by decide) ?_
                have gn := v.G.1
                obtain ⟨gl1, gl2, gl3, gl4⟩ := v.G.2.1
                refine x_icmp_ge (tgt := 124) (dT U_X11_gate 59 rfl) (by decide) (by unfold xr; omega) (by unfold xr; omega) (fun c117 => ?_) (fun c117 => ?_)
                · skip
                  refine x_iconst (dT U_X11_gate 62 rfl) ?_
                  refine x_iconst (dT U_X11_gate 63 rfl) ?_
                  refine x_invokevirtual (rc' := rc) (rs' := rs) (rc2 := 0) (rs2 := 0) (As := [_, _]) (st := _) M_X11_lets K_X11_167 (dT U_X11_gate 64 rfl) rfl rfl (by decide) rfl rfl w2.c70 (Nat.le_of_ble_eq_true rfl) (by decide) rfl (Nat.le_of_ble_eq_true rfl) rfl (by decide) (Nat.le_of_ble_eq_true rfl) rfl rfl ?_
                  refine S_X11_lets0 w2 (fun h3 g3 w3 => ?_)
                  refine xRet_some ?_
                  refine x_if_nen (tgt := 134) (dT U_X11_gate 65 rfl) (by decide) (by decide) ?_
                  refine x_iconst (dT U_X11_gate 66 rfl) ?_
                  refine x_ireturn (dT U_X11_gate 67 rfl) rfl ?_
                  exact e3 (by omega) (by omega) (by omega) _ _ (Ag.tr (Ag.tr (Ag.tr (Ag.rf 70 142 h) (g1.w (by omega))) (g2.w (by omega))) (g3.w (by omega))) w3 (by unfold xr; omega)
                · skip
                  refine x_iconst (dT U_X11_gate 60 rfl) ?_
                  refine x_goto (tgt := 125) (dT U_X11_gate 61 rfl) (by decide) ?_
                  refine x_iconst (dT U_X11_gate 63 rfl) ?_
                  refine x_invokevirtual (rc' := rc) (rs' := rs) (rc2 := 0) (rs2 := 0) (As := [_, _]) (st := _) M_X11_lets K_X11_167 (dT U_X11_gate 64 rfl) rfl rfl (by decide) rfl rfl w2.c70 (Nat.le_of_ble_eq_true rfl) (by decide) rfl (Nat.le_of_ble_eq_true rfl) rfl (by decide) (Nat.le_of_ble_eq_true rfl) rfl rfl ?_
                  refine S_X11_lets1 w2 (fun h3 g3 w3 => ?_)
                  refine xRet_some ?_
                  refine x_if_nej (tgt := 134) (dT U_X11_gate 65 rfl) (by decide) (by decide) ?_
                  refine x_aload_n (dT U_X11_gate 68 rfl) rfl ?_
                  refine x_getfield F_X11_85 (dT U_X11_gate 69 rfl) w3.c70 (Nat.le_of_ble_eq_true rfl) rfl ?_
                  refine x_aload_n (dT U_X11_gate 70 rfl) rfl ?_
                  refine x_getfield F_X11_140 (dT U_X11_gate 71 rfl) w3.c70 (Nat.le_of_ble_eq_true rfl) rfl ?_
                  refine x_aaload (σ.G.n) (dT U_X11_gate 72 rfl) w3.c124 (Nat.le_of_ble_eq_true rfl) (by decide) rfl (mgL_get (by omega)) (Nat.le_of_ble_eq_true rfl) ?_
                  refine x_iconst (dT U_X11_gate 73 rfl) ?_
                  refine x_iload_n (dT U_X11_gate 74 rfl) rfl ?_
                  refine x_iastore (0) (dT U_X11_gate 75 rfl) (w3.gates σ.G.n (by omega)) (by omega) rfl (show 0 < 4 by omega) (show 4 < 2147483648 by decide) ?_
                  refine x_aload_n (dT U_X11_gate 76 rfl) rfl ?_
                  refine x_getfield F_X11_85 (dT U_X11_gate 77 rfl) (hset_ne (by omega) (w3.c70)) (Nat.le_of_ble_eq_true rfl) rfl ?_
                  refine x_aload_n (dT U_X11_gate 78 rfl) rfl ?_
                  refine x_getfield F_X11_140 (dT U_X11_gate 79 rfl) (hset_ne (by omega) (w3.c70)) (Nat.le_of_ble_eq_true rfl) rfl ?_
                  refine x_aaload (σ.G.n) (dT U_X11_gate 80 rfl) (hset_ne (by omega) (w3.c124)) (Nat.le_of_ble_eq_true rfl) (by decide) rfl (mgL_get (by omega)) (Nat.le_of_ble_eq_true rfl) ?_
                  refine x_iconst (dT U_X11_gate 81 rfl) ?_
                  refine x_iload_n (dT U_X11_gate 82 rfl) rfl ?_
                  refine x_iastore (1) (dT U_X11_gate 83 rfl) (hset_eq (w3.gates σ.G.n (by omega))) (by omega) rfl (show 1 < 4 by omega) (show 4 < 2147483648 by decide) ?_
                  rw [List.set_set]
                  refine x_aload_n (dT U_X11_gate 84 rfl) rfl ?_
                  refine x_getfield F_X11_85 (dT U_X11_gate 85 rfl) (hset_ne (by omega) (w3.c70)) (Nat.le_of_ble_eq_true rfl) rfl ?_
                  refine x_aload_n (dT U_X11_gate 86 rfl) rfl ?_
                  refine x_getfield F_X11_140 (dT U_X11_gate 87 rfl) (hset_ne (by omega) (w3.c70)) (Nat.le_of_ble_eq_true rfl) rfl ?_
                  refine x_aaload (σ.G.n) (dT U_X11_gate 88 rfl) (hset_ne (by omega) (w3.c124)) (Nat.le_of_ble_eq_true rfl) (by decide) rfl (mgL_get (by omega)) (Nat.le_of_ble_eq_true rfl) ?_
                  refine x_iconst (dT U_X11_gate 89 rfl) ?_
                  refine x_iload_n (dT U_X11_gate 90 rfl) rfl ?_
                  refine x_iastore (2) (dT U_X11_gate 91 rfl) (hset_eq (w3.gates σ.G.n (by omega))) (by omega) rfl (show 2 < 4 by omega) (show 4 < 2147483648 by decide) ?_
                  rw [List.set_set]
                  refine x_aload_n (dT U_X11_gate 92 rfl) rfl ?_
                  refine x_getfield F_X11_85 (dT U_X11_gate 93 rfl) (hset_ne (by omega) (w3.c70)) (Nat.le_of_ble_eq_true rfl) rfl ?_
                  refine x_aload_n (dT U_X11_gate 94 rfl) rfl ?_
                  refine x_getfield F_X11_140 (dT U_X11_gate 95 rfl) (hset_ne (by omega) (w3.c70)) (Nat.le_of_ble_eq_true rfl) rfl ?_
                  refine x_aaload (σ.G.n) (dT U_X11_gate 96 rfl) (hset_ne (by omega) (w3.c124)) (Nat.le_of_ble_eq_true rfl) (by decide) rfl (mgL_get (by omega)) (Nat.le_of_ble_eq_true rfl) ?_
                  refine x_iconst (dT U_X11_gate 97 rfl) ?_
                  refine x_iload (dT U_X11_gate 98 rfl) rfl ?_
                  refine x_iastore (3) (dT U_X11_gate 99 rfl) (hset_eq (w3.gates σ.G.n (by omega))) (by omega) rfl (show 3 < 4 by omega) (show 4 < 2147483648 by decide) ?_
                  rw [List.set_set]
                  refine x_aload_n (dT U_X11_gate 100 rfl) rfl ?_
                  refine x_dup (dT U_X11_gate 101 rfl) rfl ?_
                  refine x_getfield F_X11_140 (dT U_X11_gate 102 rfl) (hset_ne (by omega) (w3.c70)) (Nat.le_of_ble_eq_true rfl) rfl ?_
                  refine x_iconst (dT U_X11_gate 103 rfl) ?_
                  refine x_iadd (dT U_X11_gate 104 rfl) ?_
                  refine x_putfield F_X11_140 (dT U_X11_gate 105 rfl) (hset_ne (by omega) (w3.c70)) (Nat.le_of_ble_eq_true rfl) (Nat.le_of_ble_eq_true rfl) rfl rfl ?_
                  change X G _ _ _ _ _ _ _ _ (List.set _ 70 (mC 0 σ.p (σ.G.n + 1) σ.g.b rr σ.g.c ss σ.g.z σ.g.o σ.L.n)) _
                  refine x_aload_n (dT U_X11_gate 106 rfl) rfl ?_
                  refine x_getfield F_X11_140 (dT U_X11_gate 107 rfl) (hset_eq (hset_ne (by omega) (w3.c70))) (Nat.le_of_ble_eq_true rfl) rfl ?_
                  refine x_ireturn (dT U_X11_gate 108 rfl) rfl ?_
                  exact k (by omega) (by omega) (by omega) _ _ _ (((Ag.tr (Ag.tr (Ag.tr (Ag.rf 70 142 h) (g1.w (by omega))) (g2.w (by omega))) (g3.w (by omega))).set (by omega)).set (by omega)) (w3.gate (G := (σ.G.n + 1, σ.G.k.set σ.G.n kind, σ.G.a.set σ.G.n a, σ.G.b.set σ.G.n b, σ.G.c.set σ.G.n c)) (fun a9 ha => by rw [hset_fr (by omega), hset_fr (by omega)]) (hset_eq (hset_ne (by omega) (w3.c70))) (fun j hj => by
                      by_cases e : j = σ.G.n
                      · subst e
                        show _ = some (cA 0 [(σ.G.k.set σ.G.n kind).getD σ.G.n 0, (σ.G.a.set σ.G.n a).getD σ.G.n 0, (σ.G.b.set σ.G.n b).getD σ.G.n 0, (σ.G.c.set σ.G.n c).getD σ.G.n 0])
                        rw [gset_e (by omega), gset_e (by omega), gset_e (by omega), gset_e (by omega)]
                        exact hset_ne (by omega) (hset_eq (w3.gates σ.G.n hj))
                      · show _ = some (cA 0 [(σ.G.k.set σ.G.n kind).getD j 0, (σ.G.a.set σ.G.n a).getD j 0, (σ.G.b.set σ.G.n b).getD j 0, (σ.G.c.set σ.G.n c).getD j 0])
                        rw [gset_n e, gset_n e, gset_n e, gset_n e]
                        exact hset_ne (by omega) (hset_ne (by omega) (w3.gates j hj))))
              · skip
                refine x_aload_n (dT U_X11_gate 45 rfl) rfl ?_
                refine x_iload_n (dT U_X11_gate 46 rfl) rfl ?_
                refine x_invokevirtual (rc' := rc) (rs' := rs) (rc2 := 0) (rs2 := 0) (As := [_]) (st := _) M_X11_isNumber K_X11_174 (dT U_X11_gate 47 rfl) rfl rfl (by decide) rfl rfl w1.c70 (Nat.le_of_ble_eq_true rfl) (by decide) rfl (Nat.le_of_ble_eq_true rfl) rfl (by decide) (Nat.le_of_ble_eq_true rfl) rfl rfl ?_
                refine S_X11_isNumber (w1.mp) v.p h_b (fun q5 => ?_) (fun q5 => ?_)
                · refine xRet_some ?_
                  refine x_if_eqn (tgt := 102) (dT U_X11_gate 48 rfl) (by decide) (by decide) ?_
                  refine x_iconst (dT U_X11_gate 49 rfl) ?_
                  refine x_goto (tgt := 103) (dT U_X11_gate 50 rfl) (by decide) ?_
                  refine x_iconst (dT U_X11_gate 52 rfl) ?_
                  refine x_invokevirtual (rc' := rc) (rs' := rs) (rc2 := 0) (rs2 := 0) (As := [_, _]) (st := _) M_X11_lets K_X11_167 (dT U_X11_gate 53 rfl) rfl rfl (by decide) rfl rfl w1.c70 (Nat.le_of_ble_eq_true rfl) (by decide) rfl (Nat.le_of_ble_eq_true rfl) rfl (by decide) (Nat.le_of_ble_eq_true rfl) rfl rfl ?_
                  refine S_X11_lets1 w1 (fun h2 g2 w2 => ?_)
                  refine xRet_some ?_
                  refine x_if_eqn (tgt := 132) (dT U_X11_gate 54 rfl) (by decide) (by decide) ?_
                  refine x_aload_n (dT U_X11_gate 55 rfl) rfl ?_
                  refine x_aload_n (dT U_X11_gate 56 rfl) rfl ?_
                  refine x_getfield F_X11_140 (dT U_X11_gate 57 rfl) w2.c70 (Nat.le_of_ble_eq_true rfl) rfl ?_
                  refine x_bipush (dT U_X11_gate 58 rfl) (by decide) ?_
                  have gn := v.G.1
                  obtain ⟨gl1, gl2, gl3, gl4⟩ := v.G.2.1
                  refine x_icmp_ge (tgt := 124) (dT U_X11_gate 59 rfl) (by decide) (by unfold xr; omega) (by unfold xr; omega) (fun c117 => ?_) (fun c117 => ?_)
                  · skip
                    refine x_iconst (dT U_X11_gate 62 rfl) ?_
                    refine x_iconst (dT U_X11_gate 63 rfl) ?_
                    refine x_invokevirtual (rc' := rc) (rs' := rs) (rc2 := 0) (rs2 := 0) (As := [_, _]) (st := _) M_X11_lets K_X11_167 (dT U_X11_gate 64 rfl) rfl rfl (by decide) rfl rfl w2.c70 (Nat.le_of_ble_eq_true rfl) (by decide) rfl (Nat.le_of_ble_eq_true rfl) rfl (by decide) (Nat.le_of_ble_eq_true rfl) rfl rfl ?_
                    refine S_X11_lets0 w2 (fun h3 g3 w3 => ?_)
                    refine xRet_some ?_
                    refine x_if_nen (tgt := 134) (dT U_X11_gate 65 rfl) (by decide) (by decide) ?_
                    refine x_iconst (dT U_X11_gate 66 rfl) ?_
                    refine x_ireturn (dT U_X11_gate 67 rfl) rfl ?_
                    exact e3 (by omega) (by omega) (by omega) _ _ (Ag.tr (Ag.tr (Ag.tr (Ag.rf 70 142 h) (g1.w (by omega))) (g2.w (by omega))) (g3.w (by omega))) w3 (by unfold xr; omega)
                  · skip
                    refine x_iconst (dT U_X11_gate 60 rfl) ?_
                    refine x_goto (tgt := 125) (dT U_X11_gate 61 rfl) (by decide) ?_
                    refine x_iconst (dT U_X11_gate 63 rfl) ?_
                    refine x_invokevirtual (rc' := rc) (rs' := rs) (rc2 := 0) (rs2 := 0) (As := [_, _]) (st := _) M_X11_lets K_X11_167 (dT U_X11_gate 64 rfl) rfl rfl (by decide) rfl rfl w2.c70 (Nat.le_of_ble_eq_true rfl) (by decide) rfl (Nat.le_of_ble_eq_true rfl) rfl (by decide) (Nat.le_of_ble_eq_true rfl) rfl rfl ?_
                    refine S_X11_lets1 w2 (fun h3 g3 w3 => ?_)
                    refine xRet_some ?_
                    refine x_if_nej (tgt := 134) (dT U_X11_gate 65 rfl) (by decide) (by decide) ?_
                    refine x_aload_n (dT U_X11_gate 68 rfl) rfl ?_
                    refine x_getfield F_X11_85 (dT U_X11_gate 69 rfl) w3.c70 (Nat.le_of_ble_eq_true rfl) rfl ?_
                    refine x_aload_n (dT U_X11_gate 70 rfl) rfl ?_
                    refine x_getfield F_X11_140 (dT U_X11_gate 71 rfl) w3.c70 (Nat.le_of_ble_eq_true rfl) rfl ?_
                    refine x_aaload (σ.G.n) (dT U_X11_gate 72 rfl) w3.c124 (Nat.le_of_ble_eq_true rfl) (by decide) rfl (mgL_get (by omega)) (Nat.le_of_ble_eq_true rfl) ?_
                    refine x_iconst (dT U_X11_gate 73 rfl) ?_
                    refine x_iload_n (dT U_X11_gate 74 rfl) rfl ?_
                    refine x_iastore (0) (dT U_X11_gate 75 rfl) (w3.gates σ.G.n (by omega)) (by omega) rfl (show 0 < 4 by omega) (show 4 < 2147483648 by decide) ?_
                    refine x_aload_n (dT U_X11_gate 76 rfl) rfl ?_
                    refine x_getfield F_X11_85 (dT U_X11_gate 77 rfl) (hset_ne (by omega) (w3.c70)) (Nat.le_of_ble_eq_true rfl) rfl ?_
                    refine x_aload_n (dT U_X11_gate 78 rfl) rfl ?_
                    refine x_getfield F_X11_140 (dT U_X11_gate 79 rfl) (hset_ne (by omega) (w3.c70)) (Nat.le_of_ble_eq_true rfl) rfl ?_
                    refine x_aaload (σ.G.n) (dT U_X11_gate 80 rfl) (hset_ne (by omega) (w3.c124)) (Nat.le_of_ble_eq_true rfl) (by decide) rfl (mgL_get (by omega)) (Nat.le_of_ble_eq_true rfl) ?_
                    refine x_iconst (dT U_X11_gate 81 rfl) ?_
                    refine x_iload_n (dT U_X11_gate 82 rfl) rfl ?_
                    refine x_iastore (1) (dT U_X11_gate 83 rfl) (hset_eq (w3.gates σ.G.n (by omega))) (by omega) rfl (show 1 < 4 by omega) (show 4 < 2147483648 by decide) ?_
                    rw [List.set_set]
                    refine x_aload_n (dT U_X11_gate 84 rfl) rfl ?_
                    refine x_getfield F_X11_85 (dT U_X11_gate 85 rfl) (hset_ne (by omega) (w3.c70)) (Nat.le_of_ble_eq_true rfl) rfl ?_
                    refine x_aload_n (dT U_X11_gate 86 rfl) rfl ?_
                    refine x_getfield F_X11_140 (dT U_X11_gate 87 rfl) (hset_ne (by omega) (w3.c70)) (Nat.le_of_ble_eq_true rfl) rfl ?_
                    refine x_aaload (σ.G.n) (dT U_X11_gate 88 rfl) (hset_ne (by omega) (w3.c124)) (Nat.le_of_ble_eq_true rfl) (by decide) rfl (mgL_get (by omega)) (Nat.le_of_ble_eq_true rfl) ?_
                    refine x_iconst (dT U_X11_gate 89 rfl) ?_
                    refine x_iload_n (dT U_X11_gate 90 rfl) rfl ?_
                    refine x_iastore (2) (dT U_X11_gate 91 rfl) (hset_eq (w3.gates σ.G.n (by omega))) (by omega) rfl (show 2 < 4 by omega) (show 4 < 2147483648 by decide) ?_
                    rw [List.set_set]
                    refine x_aload_n (dT U_X11_gate 92 rfl) rfl ?_
                    refine x_getfield F_X11_85 (dT U_X11_gate 93 rfl) (hset_ne (by omega) (w3.c70)) (Nat.le_of_ble_eq_true rfl) rfl ?_
                    refine x_aload_n (dT U_X11_gate 94 rfl) rfl ?_
                    refine x_getfield F_X11_140 (dT U_X11_gate 95 rfl) (hset_ne (by omega) (w3.c70)) (Nat.le_of_ble_eq_true rfl) rfl ?_
                    refine x_aaload (σ.G.n) (dT U_X11_gate 96 rfl) (hset_ne (by omega) (w3.c124)) (Nat.le_of_ble_eq_true rfl) (by decide) rfl (mgL_get (by omega)) (Nat.le_of_ble_eq_true rfl) ?_
                    refine x_iconst (dT U_X11_gate 97 rfl) ?_
                    refine x_iload (dT U_X11_gate 98 rfl) rfl ?_
                    refine x_iastore (3) (dT U_X11_gate 99 rfl) (hset_eq (w3.gates σ.G.n (by omega))) (by omega) rfl (show 3 < 4 by omega) (show 4 < 2147483648 by decide) ?_
                    rw [List.set_set]
                    refine x_aload_n (dT U_X11_gate 100 rfl) rfl ?_
                    refine x_dup (dT U_X11_gate 101 rfl) rfl ?_
                    refine x_getfield F_X11_140 (dT U_X11_gate 102 rfl) (hset_ne (by omega) (w3.c70)) (Nat.le_of_ble_eq_true rfl) rfl ?_
                    refine x_iconst (dT U_X11_gate 103 rfl) ?_
                    refine x_iadd (dT U_X11_gate 104 rfl) ?_
                    refine x_putfield F_X11_140 (dT U_X11_gate 105 rfl) (hset_ne (by omega) (w3.c70)) (Nat.le_of_ble_eq_true rfl) (Nat.le_of_ble_eq_true rfl) rfl rfl ?_
                    change X G _ _ _ _ _ _ _ _ (List.set _ 70 (mC 0 σ.p (σ.G.n + 1) σ.g.b rr σ.g.c ss σ.g.z σ.g.o σ.L.n)) _
                    refine x_aload_n (dT U_X11_gate 106 rfl) rfl ?_
                    refine x_getfield F_X11_140 (dT U_X11_gate 107 rfl) (hset_eq (hset_ne (by omega) (w3.c70))) (Nat.le_of_ble_eq_true rfl) rfl ?_
                    refine x_ireturn (dT U_X11_gate 108 rfl) rfl ?_
                    exact k (by omega) (by omega) (by omega) _ _ _ (((Ag.tr (Ag.tr (Ag.tr (Ag.rf 70 142 h) (g1.w (by omega))) (g2.w (by omega))) (g3.w (by omega))).set (by omega)).set (by omega)) (w3.gate (G := (σ.G.n + 1, σ.G.k.set σ.G.n kind, σ.G.a.set σ.G.n a, σ.G.b.set σ.G.n b, σ.G.c.set σ.G.n c)) (fun a9 ha => by rw [hset_fr (by omega), hset_fr (by omega)]) (hset_eq (hset_ne (by omega) (w3.c70))) (fun j hj => by
                        by_cases e : j = σ.G.n
                        · subst e
                          show _ = some (cA 0 [(σ.G.k.set σ.G.n kind).getD σ.G.n 0, (σ.G.a.set σ.G.n a).getD σ.G.n 0, (σ.G.b.set σ.G.n b).getD σ.G.n 0, (σ.G.c.set σ.G.n c).getD σ.G.n 0])
                          rw [gset_e (by omega), gset_e (by omega), gset_e (by omega), gset_e (by omega)]
                          exact hset_ne (by omega) (hset_eq (w3.gates σ.G.n hj))
                        · show _ = some (cA 0 [(σ.G.k.set σ.G.n kind).getD j 0, (σ.G.a.set σ.G.n a).getD j 0, (σ.G.b.set σ.G.n b).getD j 0, (σ.G.c.set σ.G.n c).getD j 0])
                          rw [gset_n e, gset_n e, gset_n e, gset_n e]
                          exact hset_ne (by omega) (hset_ne (by omega) (w3.gates j hj))))
                · refine xRet_some ?_
                  refine x_if_eqj (tgt := 102) (dT U_X11_gate 48 rfl) (by decide) (by decide) ?_
                  refine x_iconst (dT U_X11_gate 51 rfl) ?_
                  refine x_iconst (dT U_X11_gate 52 rfl) ?_
                  refine x_invokevirtual (rc' := rc) (rs' := rs) (rc2 := 0) (rs2 := 0) (As := [_, _]) (st := _) M_X11_lets K_X11_167 (dT U_X11_gate 53 rfl) rfl rfl (by decide) rfl rfl w1.c70 (Nat.le_of_ble_eq_true rfl) (by decide) rfl (Nat.le_of_ble_eq_true rfl) rfl (by decide) (Nat.le_of_ble_eq_true rfl) rfl rfl ?_
                  refine S_X11_lets0 w1 (fun h2 g2 w2 => ?_)
                  refine xRet_some ?_
                  refine x_if_eqj (tgt := 132) (dT U_X11_gate 54 rfl) (by decide) (by decide) ?_
                  refine x_iconst (dT U_X11_gate 66 rfl) ?_
                  refine x_ireturn (dT U_X11_gate 67 rfl) rfl ?_
                  exact e2 (by omega) (by omega) _ _ (Ag.tr (Ag.tr (Ag.rf 70 142 h) (g1.w (by omega))) (g2.w (by omega))) w2 (by unfold xr; omega)
            · refine xRet_some ?_
              refine x_if_eqj (tgt := 102) (dT U_X11_gate 41 rfl) (by decide) (by decide) ?_
              refine x_iconst (dT U_X11_gate 51 rfl) ?_
              refine x_iconst (dT U_X11_gate 52 rfl) ?_
              refine x_invokevirtual (rc' := rc) (rs' := rs) (rc2 := 0) (rs2 := 0) (As := [_, _]) (st := _) M_X11_lets K_X11_167 (dT U_X11_gate 53 rfl) rfl rfl (by decide) rfl rfl w1.c70 (Nat.le_of_ble_eq_true rfl) (by decide) rfl (Nat.le_of_ble_eq_true rfl) rfl (by decide) (Nat.le_of_ble_eq_true rfl) rfl rfl ?_
              refine S_X11_lets0 w1 (fun h2 g2 w2 => ?_)
              refine xRet_some ?_
              refine x_if_eqj (tgt := 132) (dT U_X11_gate 54 rfl) (by decide) (by decide) ?_
              refine x_iconst (dT U_X11_gate 66 rfl) ?_
              refine x_ireturn (dT U_X11_gate 67 rfl) rfl ?_
              exact e2 (by omega) (by omega) _ _ (Ag.tr (Ag.tr (Ag.rf 70 142 h) (g1.w (by omega))) (g2.w (by omega))) w2 (by unfold xr; omega)
          · skip
            refine x_iload (dT U_X11_gate 23 rfl) rfl ?_
            refine x_if_eqn (tgt := 63) (dT U_X11_gate 24 rfl) (by decide) (by decide) ?_
            refine x_iload_n (dT U_X11_gate 25 rfl) rfl ?_
            refine x_invokestatic (rc' := rc) (rs' := rs) (rc2 := 0) (rs2 := 0) (As := [_]) (st := _) M_X11_isRow K_X11_164 (dT U_X11_gate 26 rfl) rfl rfl rfl rfl (Nat.le_of_ble_eq_true rfl) rfl (by decide) (Nat.le_of_ble_eq_true rfl) rfl rfl ?_
            refine S_X11_isRow h_b (fun q4 => ?_) (fun q4 => ?_)
            · refine xRet_some ?_
              refine x_if_eqn (tgt := 63) (dT U_X11_gate 27 rfl) (by decide) (by decide) ?_
              refine x_iconst (dT U_X11_gate 28 rfl) ?_
              refine x_goto (tgt := 64) (dT U_X11_gate 29 rfl) (by decide) ?_
              refine x_istore (ls' := [some (.ref _), some (vi _), some (vi _), some (vi _), some (vi _), some (vi _)]) (dT U_X11_gate 31 rfl) (by decide) rfl ?_
              refine x_aload_n (dT U_X11_gate 32 rfl) rfl ?_
              refine x_iload (dT U_X11_gate 33 rfl) rfl ?_
              refine x_iconst (dT U_X11_gate 34 rfl) ?_
              refine x_invokevirtual (rc' := rc) (rs' := rs) (rc2 := 0) (rs2 := 0) (As := [_, _]) (st := _) M_X11_lets K_X11_167 (dT U_X11_gate 35 rfl) rfl rfl (by decide) rfl rfl w.c70 (Nat.le_of_ble_eq_true rfl) (by decide) rfl (Nat.le_of_ble_eq_true rfl) rfl (by decide) (Nat.le_of_ble_eq_true rfl) rfl rfl ?_
              refine S_X11_lets1 w (fun h1 g1 w1 => ?_)
              refine xRet_some ?_
              refine x_if_eqn (tgt := 132) (dT U_X11_gate 36 rfl) (by decide) (by decide) ?_
              refine x_aload_n (dT U_X11_gate 37 rfl) rfl ?_
              refine x_iload_n (dT U_X11_gate 38 rfl) rfl ?_
              refine x_iconst (dT U_X11_gate 39 rfl) ?_
              refine x_invokestatic (rc' := rc) (rs' := rs) (rc2 := 0) (rs2 := 0) (As := [_, _]) (st := _) M_X11_in K_X11_126 (dT U_X11_gate 40 rfl) rfl rfl rfl rfl (Nat.le_of_ble_eq_true rfl) rfl (by decide) (Nat.le_of_ble_eq_true rfl) rfl rfl ?_
              refine S_X11_in h_kind (by unfold xr; omega) (fun q5 => ?_) (fun q5 => ?_)
              · refine xRet_some ?_
                refine x_if_eqn (tgt := 102) (dT U_X11_gate 41 rfl) (by decide) (by decide) ?_
                refine x_iload_n (dT U_X11_gate 42 rfl) rfl ?_
                refine x_iconst (dT U_X11_gate 43 rfl) ?_
                refine x_icmp_ne (tgt := 98) (dT U_X11_gate 44 rfl) (by decide) h_kind (by unfold xr; omega) (fun c87 => ?_) (fun c87 => ?_)
                · skip
                  refine x_iconst (dT U_X11_gate 49 rfl) ?_
                  refine x_goto (tgt := 103) (dT U_X11_gate 50 rfl) (by decide) ?_
                  refine x_iconst (dT U_X11_gate 52 rfl) ?_
                  refine x_invokevirtual (rc' := rc) (rs' := rs) (rc2 := 0) (rs2 := 0) (As := [_, _]) (st := _) M_X11_lets K_X11_167 (dT U_X11_gate 53 rfl) rfl rfl (by decide) rfl rfl w1.c70 (Nat.le_of_ble_eq_true rfl) (by decide) rfl (Nat.le_of_ble_eq_true rfl) rfl (by decide) (Nat.le_of_ble_eq_true rfl) rfl rfl ?_
                  refine S_X11_lets1 w1 (fun h2 g2 w2 => ?_)
                  refine xRet_some ?_
                  refine x_if_eqn (tgt := 132) (dT U_X11_gate 54 rfl) (by decide) (by decide) ?_
                  refine x_aload_n (dT U_X11_gate 55 rfl) rfl ?_
                  refine x_aload_n (dT U_X11_gate 56 rfl) rfl ?_
                  refine x_getfield F_X11_140 (dT U_X11_gate 57 rfl) w2.c70 (Nat.le_of_ble_eq_true rfl) rfl ?_
                  refine x_bipush (dT U_X11_gate 58 rfl) (by decide) ?_
                  have gn := v.G.1
                  obtain ⟨gl1, gl2, gl3, gl4⟩ := v.G.2.1
                  refine x_icmp_ge (tgt := 124) (dT U_X11_gate 59 rfl) (by decide) (by unfold xr; omega) (by unfold xr; omega) (fun c117 => ?_) (fun c117 => ?_)
                  · skip
                    refine x_iconst (dT U_X11_gate 62 rfl) ?_
                    refine x_iconst (dT U_X11_gate 63 rfl) ?_
                    refine x_invokevirtual (rc' := rc) (rs' := rs) (rc2 := 0) (rs2 := 0) (As := [_, _]) (st := _) M_X11_lets K_X11_167 (dT U_X11_gate 64 rfl) rfl rfl (by decide) rfl rfl w2.c70 (Nat.le_of_ble_eq_true rfl) (by decide) rfl (Nat.le_of_ble_eq_true rfl) rfl (by decide) (Nat.le_of_ble_eq_true rfl) rfl rfl ?_
                    refine S_X11_lets0 w2 (fun h3 g3 w3 => ?_)
                    refine xRet_some ?_
                    refine x_if_nen (tgt := 134) (dT U_X11_gate 65 rfl) (by decide) (by decide) ?_
                    refine x_iconst (dT U_X11_gate 66 rfl) ?_
                    refine x_ireturn (dT U_X11_gate 67 rfl) rfl ?_
                    exact e3 (by omega) (by omega) (by omega) _ _ (Ag.tr (Ag.tr (Ag.tr (Ag.rf 70 142 h) (g1.w (by omega))) (g2.w (by omega))) (g3.w (by omega))) w3 (by unfold xr; omega)
                  · skip
                    refine x_iconst (dT U_X11_gate 60 rfl) ?_
                    refine x_goto (tgt := 125) (dT U_X11_gate 61 rfl) (by decide) ?_
                    refine x_iconst (dT U_X11_gate 63 rfl) ?_
                    refine x_invokevirtual (rc' := rc) (rs' := rs) (rc2 := 0) (rs2 := 0) (As := [_, _]) (st := _) M_X11_lets K_X11_167 (dT U_X11_gate 64 rfl) rfl rfl (by decide) rfl rfl w2.c70 (Nat.le_of_ble_eq_true rfl) (by decide) rfl (Nat.le_of_ble_eq_true rfl) rfl (by decide) (Nat.le_of_ble_eq_true rfl) rfl rfl ?_
                    refine S_X11_lets1 w2 (fun h3 g3 w3 => ?_)
                    refine xRet_some ?_
                    refine x_if_nej (tgt := 134) (dT U_X11_gate 65 rfl) (by decide) (by decide) ?_
                    refine x_aload_n (dT U_X11_gate 68 rfl) rfl ?_
                    refine x_getfield F_X11_85 (dT U_X11_gate 69 rfl) w3.c70 (Nat.le_of_ble_eq_true rfl) rfl ?_
                    refine x_aload_n (dT U_X11_gate 70 rfl) rfl ?_
                    refine x_getfield F_X11_140 (dT U_X11_gate 71 rfl) w3.c70 (Nat.le_of_ble_eq_true rfl) rfl ?_
                    refine x_aaload (σ.G.n) (dT U_X11_gate 72 rfl) w3.c124 (Nat.le_of_ble_eq_true rfl) (by decide) rfl (mgL_get (by omega)) (Nat.le_of_ble_eq_true rfl) ?_
                    refine x_iconst (dT U_X11_gate 73 rfl) ?_
                    refine x_iload_n (dT U_X11_gate 74 rfl) rfl ?_
                    refine x_iastore (0) (dT U_X11_gate 75 rfl) (w3.gates σ.G.n (by omega)) (by omega) rfl (show 0 < 4 by omega) (show 4 < 2147483648 by decide) ?_
                    refine x_aload_n (dT U_X11_gate 76 rfl) rfl ?_
                    refine x_getfield F_X11_85 (dT U_X11_gate 77 rfl) (hset_ne (by omega) (w3.c70)) (Nat.le_of_ble_eq_true rfl) rfl ?_
                    refine x_aload_n (dT U_X11_gate 78 rfl) rfl ?_
                    refine x_getfield F_X11_140 (dT U_X11_gate 79 rfl) (hset_ne (by omega) (w3.c70)) (Nat.le_of_ble_eq_true rfl) rfl ?_
                    refine x_aaload (σ.G.n) (dT U_X11_gate 80 rfl) (hset_ne (by omega) (w3.c124)) (Nat.le_of_ble_eq_true rfl) (by decide) rfl (mgL_get (by omega)) (Nat.le_of_ble_eq_true rfl) ?_
                    refine x_iconst (dT U_X11_gate 81 rfl) ?_
                    refine x_iload_n (dT U_X11_gate 82 rfl) rfl ?_
                    refine x_iastore (1) (dT U_X11_gate 83 rfl) (hset_eq (w3.gates σ.G.n (by omega))) (by omega) rfl (show 1 < 4 by omega) (show 4 < 2147483648 by decide) ?_
                    rw [List.set_set]
                    refine x_aload_n (dT U_X11_gate 84 rfl) rfl ?_
                    refine x_getfield F_X11_85 (dT U_X11_gate 85 rfl) (hset_ne (by omega) (w3.c70)) (Nat.le_of_ble_eq_true rfl) rfl ?_
                    refine x_aload_n (dT U_X11_gate 86 rfl) rfl ?_
                    refine x_getfield F_X11_140 (dT U_X11_gate 87 rfl) (hset_ne (by omega) (w3.c70)) (Nat.le_of_ble_eq_true rfl) rfl ?_
                    refine x_aaload (σ.G.n) (dT U_X11_gate 88 rfl) (hset_ne (by omega) (w3.c124)) (Nat.le_of_ble_eq_true rfl) (by decide) rfl (mgL_get (by omega)) (Nat.le_of_ble_eq_true rfl) ?_
                    refine x_iconst (dT U_X11_gate 89 rfl) ?_
                    refine x_iload_n (dT U_X11_gate 90 rfl) rfl ?_
                    refine x_iastore (2) (dT U_X11_gate 91 rfl) (hset_eq (w3.gates σ.G.n (by omega))) (by omega) rfl (show 2 < 4 by omega) (show 4 < 2147483648 by decide) ?_
                    rw [List.set_set]
                    refine x_aload_n (dT U_X11_gate 92 rfl) rfl ?_
                    refine x_getfield F_X11_85 (dT U_X11_gate 93 rfl) (hset_ne (by omega) (w3.c70)) (Nat.le_of_ble_eq_true rfl) rfl ?_
                    refine x_aload_n (dT U_X11_gate 94 rfl) rfl ?_
                    refine x_getfield F_X11_140 (dT U_X11_gate 95 rfl) (hset_ne (by omega) (w3.c70)) (Nat.le_of_ble_eq_true rfl) rfl ?_
                    refine x_aaload (σ.G.n) (dT U_X11_gate 96 rfl) (hset_ne (by omega) (w3.c124)) (Nat.le_of_ble_eq_true rfl) (by decide) rfl (mgL_get (by omega)) (Nat.le_of_ble_eq_true rfl) ?_
                    refine x_iconst (dT U_X11_gate 97 rfl) ?_
                    refine x_iload (dT U_X11_gate 98 rfl) rfl ?_
                    refine x_iastore (3) (dT U_X11_gate 99 rfl) (hset_eq (w3.gates σ.G.n (by omega))) (by omega) rfl (show 3 < 4 by omega) (show 4 < 2147483648 by decide) ?_
                    rw [List.set_set]
                    refine x_aload_n (dT U_X11_gate 100 rfl) rfl ?_
                    refine x_dup (dT U_X11_gate 101 rfl) rfl ?_
                    refine x_getfield F_X11_140 (dT U_X11_gate 102 rfl) (hset_ne (by omega) (w3.c70)) (Nat.le_of_ble_eq_true rfl) rfl ?_
                    refine x_iconst (dT U_X11_gate 103 rfl) ?_
                    refine x_iadd (dT U_X11_gate 104 rfl) ?_
                    refine x_putfield F_X11_140 (dT U_X11_gate 105 rfl) (hset_ne (by omega) (w3.c70)) (Nat.le_of_ble_eq_true rfl) (Nat.le_of_ble_eq_true rfl) rfl rfl ?_
                    change X G _ _ _ _ _ _ _ _ (List.set _ 70 (mC 0 σ.p (σ.G.n + 1) σ.g.b rr σ.g.c ss σ.g.z σ.g.o σ.L.n)) _
                    refine x_aload_n (dT U_X11_gate 106 rfl) rfl ?_
                    refine x_getfield F_X11_140 (dT U_X11_gate 107 rfl) (hset_eq (hset_ne (by omega) (w3.c70))) (Nat.le_of_ble_eq_true rfl) rfl ?_
                    refine x_ireturn (dT U_X11_gate 108 rfl) rfl ?_
                    exact k (by omega) (by omega) (by omega) _ _ _ (((Ag.tr (Ag.tr (Ag.tr (Ag.rf 70 142 h) (g1.w (by omega))) (g2.w (by omega))) (g3.w (by omega))).set (by omega)).set (by omega)) (w3.gate (G := (σ.G.n + 1, σ.G.k.set σ.G.n kind, σ.G.a.set σ.G.n a, σ.G.b.set σ.G.n b, σ.G.c.set σ.G.n c)) (fun a9 ha => by rw [hset_fr (by omega), hset_fr (by omega)]) (hset_eq (hset_ne (by omega) (w3.c70))) (fun j hj => by
                        by_cases e : j = σ.G.n
                        · subst e
                          show _ = some (cA 0 [(σ.G.k.set σ.G.n kind).getD σ.G.n 0, (σ.G.a.set σ.G.n a).getD σ.G.n 0, (σ.G.b.set σ.G.n b).getD σ.G.n 0, (σ.G.c.set σ.G.n c).getD σ.G.n 0])
                          rw [gset_e (by omega), gset_e (by omega), gset_e (by omega), gset_e (by omega)]
                          exact hset_ne (by omega) (hset_eq (w3.gates σ.G.n hj))
                        · show _ = some (cA 0 [(σ.G.k.set σ.G.n kind).getD j 0, (σ.G.a.set σ.G.n a).getD j 0, (σ.G.b.set σ.G.n b).getD j 0, (σ.G.c.set σ.G.n c).getD j 0])
                          rw [gset_n e, gset_n e, gset_n e, gset_n e]
                          exact hset_ne (by omega) (hset_ne (by omega) (w3.gates j hj))))
                · skip
                  refine x_aload_n (dT U_X11_gate 45 rfl) rfl ?_
                  refine x_iload_n (dT U_X11_gate 46 rfl) rfl ?_
                  refine x_invokevirtual (rc' := rc) (rs' := rs) (rc2 := 0) (rs2 := 0) (As := [_]) (st := _) M_X11_isNumber K_X11_174 (dT U_X11_gate 47 rfl) rfl rfl (by decide) rfl rfl w1.c70 (Nat.le_of_ble_eq_true rfl) (by decide) rfl (Nat.le_of_ble_eq_true rfl) rfl (by decide) (Nat.le_of_ble_eq_true rfl) rfl rfl ?_
                  refine S_X11_isNumber (w1.mp) v.p h_b (fun q6 => ?_) (fun q6 => ?_)
                  · refine xRet_some ?_
                    refine x_if_eqn (tgt := 102) (dT U_X11_gate 48 rfl) (by decide) (by decide) ?_
                    refine x_iconst (dT U_X11_gate 49 rfl) ?_
                    refine x_goto (tgt := 103) (dT U_X11_gate 50 rfl) (by decide) ?_
                    refine x_iconst (dT U_X11_gate 52 rfl) ?_
                    refine x_invokevirtual (rc' := rc) (rs' := rs) (rc2 := 0) (rs2 := 0) (As := [_, _]) (st := _) M_X11_lets K_X11_167 (dT U_X11_gate 53 rfl) rfl rfl (by decide) rfl rfl w1.c70 (Nat.le_of_ble_eq_true rfl) (by decide) rfl (Nat.le_of_ble_eq_true rfl) rfl (by decide) (Nat.le_of_ble_eq_true rfl) rfl rfl ?_
                    refine S_X11_lets1 w1 (fun h2 g2 w2 => ?_)
                    refine xRet_some ?_
                    refine x_if_eqn (tgt := 132) (dT U_X11_gate 54 rfl) (by decide) (by decide) ?_
                    refine x_aload_n (dT U_X11_gate 55 rfl) rfl ?_
                    refine x_aload_n (dT U_X11_gate 56 rfl) rfl ?_
                    refine x_getfield F_X11_140 (dT U_X11_gate 57 rfl) w2.c70 (Nat.le_of_ble_eq_true rfl) rfl ?_
                    refine x_bipush (dT U_X11_gate 58 rfl) (by decide) ?_
                    have gn := v.G.1
                    obtain ⟨gl1, gl2, gl3, gl4⟩ := v.G.2.1
                    refine x_icmp_ge (tgt := 124) (dT U_X11_gate 59 rfl) (by decide) (by unfold xr; omega) (by unfold xr; omega) (fun c117 => ?_) (fun c117 => ?_)
                    · skip
                      refine x_iconst (dT U_X11_gate 62 rfl) ?_
                      refine x_iconst (dT U_X11_gate 63 rfl) ?_
                      refine x_invokevirtual (rc' := rc) (rs' := rs) (rc2 := 0) (rs2 := 0) (As := [_, _]) (st := _) M_X11_lets K_X11_167 (dT U_X11_gate 64 rfl) rfl rfl (by decide) rfl rfl w2.c70 (Nat.le_of_ble_eq_true rfl) (by decide) rfl (Nat.le_of_ble_eq_true rfl) rfl (by decide) (Nat.le_of_ble_eq_true rfl) rfl rfl ?_
                      refine S_X11_lets0 w2 (fun h3 g3 w3 => ?_)
                      refine xRet_some ?_
                      refine x_if_nen (tgt := 134) (dT U_X11_gate 65 rfl) (by decide) (by decide) ?_
                      refine x_iconst (dT U_X11_gate 66 rfl) ?_
                      refine x_ireturn (dT U_X11_gate 67 rfl) rfl ?_
                      exact e3 (by omega) (by omega) (by omega) _ _ (Ag.tr (Ag.tr (Ag.tr (Ag.rf 70 142 h) (g1.w (by omega))) (g2.w (by omega))) (g3.w (by omega))) w3 (by unfold xr; omega)
                    · skip
                      refine x_iconst (dT U_X11_gate 60 rfl) ?_
                      refine x_goto (tgt := 125) (dT U_X11_gate 61 rfl) (by decide) ?_
                      refine x_iconst (dT U_X11_gate 63 rfl) ?_
                      refine x_invokevirtual (rc' := rc) (rs' := rs) (rc2 := 0) (rs2 := 0) (As := [_, _]) (st := _) M_X11_lets K_X11_167 (dT U_X11_gate 64 rfl) rfl rfl (by decide) rfl rfl w2.c70 (Nat.le_of_ble_eq_true rfl) (by decide) rfl (Nat.le_of_ble_eq_true rfl) rfl (by decide) (Nat.le_of_ble_eq_true rfl) rfl rfl ?_
                      refine S_X11_lets1 w2 (fun h3 g3 w3 => ?_)
                      refine xRet_some ?_
                      refine x_if_nej (tgt := 134) (dT U_X11_gate 65 rfl) (by decide) (by decide) ?_
                      refine x_aload_n (dT U_X11_gate 68 rfl) rfl ?_
                      refine x_getfield F_X11_85 (dT U_X11_gate 69 rfl) w3.c70 (Nat.le_of_ble_eq_true rfl) rfl ?_
                      refine x_aload_n (dT U_X11_gate 70 rfl) rfl ?_
                      refine x_getfield F_X11_140 (dT U_X11_gate 71 rfl) w3.c70 (Nat.le_of_ble_eq_true rfl) rfl ?_
                      refine x_aaload (σ.G.n) (dT U_X11_gate 72 rfl) w3.c124 (Nat.le_of_ble_eq_true rfl) (by decide) rfl (mgL_get (by omega)) (Nat.le_of_ble_eq_true rfl) ?_
                      refine x_iconst (dT U_X11_gate 73 rfl) ?_
                      refine x_iload_n (dT U_X11_gate 74 rfl) rfl ?_
                      refine x_iastore (0) (dT U_X11_gate 75 rfl) (w3.gates σ.G.n (by omega)) (by omega) rfl (show 0 < 4 by omega) (show 4 < 2147483648 by decide) ?_
                      refine x_aload_n (dT U_X11_gate 76 rfl) rfl ?_
                      refine x_getfield F_X11_85 (dT U_X11_gate 77 rfl) (hset_ne (by omega) (w3.c70)) (Nat.le_of_ble_eq_true rfl) rfl ?_
                      refine x_aload_n (dT U_X11_gate 78 rfl) rfl ?_
                      refine x_getfield F_X11_140 (dT U_X11_gate 79 rfl) (hset_ne (by omega) (w3.c70)) (Nat.le_of_ble_eq_true rfl) rfl ?_
                      refine x_aaload (σ.G.n) (dT U_X11_gate 80 rfl) (hset_ne (by omega) (w3.c124)) (Nat.le_of_ble_eq_true rfl) (by decide) rfl (mgL_get (by omega)) (Nat.le_of_ble_eq_true rfl) ?_
                      refine x_iconst (dT U_X11_gate 81 rfl) ?_
                      refine x_iload_n (dT U_X11_gate 82 rfl) rfl ?_
                      refine x_iastore (1) (dT U_X11_gate 83 rfl) (hset_eq (w3.gates σ.G.n (by omega))) (by omega) rfl (show 1 < 4 by omega) (show 4 < 2147483648 by decide) ?_
                      rw [List.set_set]
                      refine x_aload_n (dT U_X11_gate 84 rfl) rfl ?_
                      refine x_getfield F_X11_85 (dT U_X11_gate 85 rfl) (hset_ne (by omega) (w3.c70)) (Nat.le_of_ble_eq_true rfl) rfl ?_
                      refine x_aload_n (dT U_X11_gate 86 rfl) rfl ?_
                      refine x_getfield F_X11_140 (dT U_X11_gate 87 rfl) (hset_ne (by omega) (w3.c70)) (Nat.le_of_ble_eq_true rfl) rfl ?_
                      refine x_aaload (σ.G.n) (dT U_X11_gate 88 rfl) (hset_ne (by omega) (w3.c124)) (Nat.le_of_ble_eq_true rfl) (by decide) rfl (mgL_get (by omega)) (Nat.le_of_ble_eq_true rfl) ?_
                      refine x_iconst (dT U_X11_gate 89 rfl) ?_
                      refine x_iload_n (dT U_X11_gate 90 rfl) rfl ?_
                      refine x_iastore (2) (dT U_X11_gate 91 rfl) (hset_eq (w3.gates σ.G.n (by omega))) (by omega) rfl (show 2 < 4 by omega) (show 4 < 2147483648 by decide) ?_
                      rw [List.set_set]
                      refine x_aload_n (dT U_X11_gate 92 rfl) rfl ?_
                      refine x_getfield F_X11_85 (dT U_X11_gate 93 rfl) (hset_ne (by omega) (w3.c70)) (Nat.le_of_ble_eq_true rfl) rfl ?_
                      refine x_aload_n (dT U_X11_gate 94 rfl) rfl ?_
                      refine x_getfield F_X11_140 (dT U_X11_gate 95 rfl) (hset_ne (by omega) (w3.c70)) (Nat.le_of_ble_eq_true rfl) rfl ?_
                      refine x_aaload (σ.G.n) (dT U_X11_gate 96 rfl) (hset_ne (by omega) (w3.c124)) (Nat.le_of_ble_eq_true rfl) (by decide) rfl (mgL_get (by omega)) (Nat.le_of_ble_eq_true rfl) ?_
                      refine x_iconst (dT U_X11_gate 97 rfl) ?_
                      refine x_iload (dT U_X11_gate 98 rfl) rfl ?_
                      refine x_iastore (3) (dT U_X11_gate 99 rfl) (hset_eq (w3.gates σ.G.n (by omega))) (by omega) rfl (show 3 < 4 by omega) (show 4 < 2147483648 by decide) ?_
                      rw [List.set_set]
                      refine x_aload_n (dT U_X11_gate 100 rfl) rfl ?_
                      refine x_dup (dT U_X11_gate 101 rfl) rfl ?_
                      refine x_getfield F_X11_140 (dT U_X11_gate 102 rfl) (hset_ne (by omega) (w3.c70)) (Nat.le_of_ble_eq_true rfl) rfl ?_
                      refine x_iconst (dT U_X11_gate 103 rfl) ?_
                      refine x_iadd (dT U_X11_gate 104 rfl) ?_
                      refine x_putfield F_X11_140 (dT U_X11_gate 105 rfl) (hset_ne (by omega) (w3.c70)) (Nat.le_of_ble_eq_true rfl) (Nat.le_of_ble_eq_true rfl) rfl rfl ?_
                      change X G _ _ _ _ _ _ _ _ (List.set _ 70 (mC 0 σ.p (σ.G.n + 1) σ.g.b rr σ.g.c ss σ.g.z σ.g.o σ.L.n)) _
                      refine x_aload_n (dT U_X11_gate 106 rfl) rfl ?_
                      refine x_getfield F_X11_140 (dT U_X11_gate 107 rfl) (hset_eq (hset_ne (by omega) (w3.c70))) (Nat.le_of_ble_eq_true rfl) rfl ?_
                      refine x_ireturn (dT U_X11_gate 108 rfl) rfl ?_
                      exact k (by omega) (by omega) (by omega) _ _ _ (((Ag.tr (Ag.tr (Ag.tr (Ag.rf 70 142 h) (g1.w (by omega))) (g2.w (by omega))) (g3.w (by omega))).set (by omega)).set (by omega)) (w3.gate (G := (σ.G.n + 1, σ.G.k.set σ.G.n kind, σ.G.a.set σ.G.n a, σ.G.b.set σ.G.n b, σ.G.c.set σ.G.n c)) (fun a9 ha => by rw [hset_fr (by omega), hset_fr (by omega)]) (hset_eq (hset_ne (by omega) (w3.c70))) (fun j hj => by
                          by_cases e : j = σ.G.n
                          · subst e
                            show _ = some (cA 0 [(σ.G.k.set σ.G.n kind).getD σ.G.n 0, (σ.G.a.set σ.G.n a).getD σ.G.n 0, (σ.G.b.set σ.G.n b).getD σ.G.n 0, (σ.G.c.set σ.G.n c).getD σ.G.n 0])
                            rw [gset_e (by omega), gset_e (by omega), gset_e (by omega), gset_e (by omega)]
                            exact hset_ne (by omega) (hset_eq (w3.gates σ.G.n hj))
                          · show _ = some (cA 0 [(σ.G.k.set σ.G.n kind).getD j 0, (σ.G.a.set σ.G.n a).getD j 0, (σ.G.b.set σ.G.n b).getD j 0, (σ.G.c.set σ.G.n c).getD j 0])
                            rw [gset_n e, gset_n e, gset_n e, gset_n e]
                            exact hset_ne (by omega) (hset_ne (by omega) (w3.gates j hj))))
                  · refine xRet_some ?_
                    refine x_if_eqj (tgt := 102) (dT U_X11_gate 48 rfl) (by decide) (by decide) ?_
                    refine x_iconst (dT U_X11_gate 51 rfl) ?_
                    refine x_iconst (dT U_X11_gate 52 rfl) ?_
                    refine x_invokevirtual (rc' := rc) (rs' := rs) (rc2 := 0) (rs2 := 0) (As := [_, _]) (st := _) M_X11_lets K_X11_167 (dT U_X11_gate 53 rfl) rfl rfl (by decide) rfl rfl w1.c70 (Nat.le_of_ble_eq_true rfl) (by decide) rfl (Nat.le_of_ble_eq_true rfl) rfl (by decide) (Nat.le_of_ble_eq_true rfl) rfl rfl ?_
                    refine S_X11_lets0 w1 (fun h2 g2 w2 => ?_)
                    refine xRet_some ?_
                    refine x_if_eqj (tgt := 132) (dT U_X11_gate 54 rfl) (by decide) (by decide) ?_
                    refine x_iconst (dT U_X11_gate 66 rfl) ?_
                    refine x_ireturn (dT U_X11_gate 67 rfl) rfl ?_
                    exact e2 (by omega) (by omega) _ _ (Ag.tr (Ag.tr (Ag.rf 70 142 h) (g1.w (by omega))) (g2.w (by omega))) w2 (by unfold xr; omega)
              · refine xRet_some ?_
                refine x_if_eqj (tgt := 102) (dT U_X11_gate 41 rfl) (by decide) (by decide) ?_
                refine x_iconst (dT U_X11_gate 51 rfl) ?_
                refine x_iconst (dT U_X11_gate 52 rfl) ?_
                refine x_invokevirtual (rc' := rc) (rs' := rs) (rc2 := 0) (rs2 := 0) (As := [_, _]) (st := _) M_X11_lets K_X11_167 (dT U_X11_gate 53 rfl) rfl rfl (by decide) rfl rfl w1.c70 (Nat.le_of_ble_eq_true rfl) (by decide) rfl (Nat.le_of_ble_eq_true rfl) rfl (by decide) (Nat.le_of_ble_eq_true rfl) rfl rfl ?_
                refine S_X11_lets0 w1 (fun h2 g2 w2 => ?_)
                refine xRet_some ?_
                refine x_if_eqj (tgt := 132) (dT U_X11_gate 54 rfl) (by decide) (by decide) ?_
                refine x_iconst (dT U_X11_gate 66 rfl) ?_
                refine x_ireturn (dT U_X11_gate 67 rfl) rfl ?_
                exact e2 (by omega) (by omega) _ _ (Ag.tr (Ag.tr (Ag.rf 70 142 h) (g1.w (by omega))) (g2.w (by omega))) w2 (by unfold xr; omega)
            · refine xRet_some ?_
              refine x_if_eqj (tgt := 63) (dT U_X11_gate 27 rfl) (by decide) (by decide) ?_
              refine x_iconst (dT U_X11_gate 30 rfl) ?_
              refine x_istore (ls' := [some (.ref _), some (vi _), some (vi _), some (vi _), some (vi _), some (vi _)]) (dT U_X11_gate 31 rfl) (by decide) rfl ?_
              refine x_aload_n (dT U_X11_gate 32 rfl) rfl ?_
              refine x_iload (dT U_X11_gate 33 rfl) rfl ?_
              refine x_iconst (dT U_X11_gate 34 rfl) ?_
              refine x_invokevirtual (rc' := rc) (rs' := rs) (rc2 := 0) (rs2 := 0) (As := [_, _]) (st := _) M_X11_lets K_X11_167 (dT U_X11_gate 35 rfl) rfl rfl (by decide) rfl rfl w.c70 (Nat.le_of_ble_eq_true rfl) (by decide) rfl (Nat.le_of_ble_eq_true rfl) rfl (by decide) (Nat.le_of_ble_eq_true rfl) rfl rfl ?_
              refine S_X11_lets0 w (fun h1 g1 w1 => ?_)
              refine xRet_some ?_
              refine x_if_eqj (tgt := 132) (dT U_X11_gate 36 rfl) (by decide) (by decide) ?_
              refine x_iconst (dT U_X11_gate 66 rfl) ?_
              refine x_ireturn (dT U_X11_gate 67 rfl) rfl ?_
              exact e1 (by omega) _ _ (Ag.tr (Ag.rf 70 142 h) (g1.w (by omega))) w1 (by unfold xr; omega)
        · refine xRet_some ?_
          refine x_if_eqj (tgt := 39) (dT U_X11_gate 15 rfl) (by decide) (by decide) ?_
          refine x_iconst (dT U_X11_gate 18 rfl) ?_
          refine x_istore (ls' := [some (.ref _), some (vi _), some (vi _), some (vi _), some (vi _), some (vi _)]) (dT U_X11_gate 19 rfl) (by decide) rfl ?_
          refine x_iload_n (dT U_X11_gate 20 rfl) rfl ?_
          refine x_iconst (dT U_X11_gate 21 rfl) ?_
          refine x_icmp_ne (tgt := 66) (dT U_X11_gate 22 rfl) (by decide) h_kind (by unfold xr; omega) (fun c44 => ?_) (fun c44 => ?_)
          · skip
            refine x_aload_n (dT U_X11_gate 32 rfl) rfl ?_
            refine x_iload (dT U_X11_gate 33 rfl) rfl ?_
            refine x_iconst (dT U_X11_gate 34 rfl) ?_
            refine x_invokevirtual (rc' := rc) (rs' := rs) (rc2 := 0) (rs2 := 0) (As := [_, _]) (st := _) M_X11_lets K_X11_167 (dT U_X11_gate 35 rfl) rfl rfl (by decide) rfl rfl w.c70 (Nat.le_of_ble_eq_true rfl) (by decide) rfl (Nat.le_of_ble_eq_true rfl) rfl (by decide) (Nat.le_of_ble_eq_true rfl) rfl rfl ?_
            refine S_X11_lets0 w (fun h1 g1 w1 => ?_)
            refine xRet_some ?_
            refine x_if_eqj (tgt := 132) (dT U_X11_gate 36 rfl) (by decide) (by decide) ?_
            refine x_iconst (dT U_X11_gate 66 rfl) ?_
            refine x_ireturn (dT U_X11_gate 67 rfl) rfl ?_
            exact e1 (by omega) _ _ (Ag.tr (Ag.rf 70 142 h) (g1.w (by omega))) w1 (by unfold xr; omega)
          · skip
            refine x_iload (dT U_X11_gate 23 rfl) rfl ?_
            refine x_if_eqj (tgt := 63) (dT U_X11_gate 24 rfl) (by decide) (by decide) ?_
            refine x_iconst (dT U_X11_gate 30 rfl) ?_
            refine x_istore (ls' := [some (.ref _), some (vi _), some (vi _), some (vi _), some (vi _), some (vi _)]) (dT U_X11_gate 31 rfl) (by decide) rfl ?_
            refine x_aload_n (dT U_X11_gate 32 rfl) rfl ?_
            refine x_iload (dT U_X11_gate 33 rfl) rfl ?_
            refine x_iconst (dT U_X11_gate 34 rfl) ?_
            refine x_invokevirtual (rc' := rc) (rs' := rs) (rc2 := 0) (rs2 := 0) (As := [_, _]) (st := _) M_X11_lets K_X11_167 (dT U_X11_gate 35 rfl) rfl rfl (by decide) rfl rfl w.c70 (Nat.le_of_ble_eq_true rfl) (by decide) rfl (Nat.le_of_ble_eq_true rfl) rfl (by decide) (Nat.le_of_ble_eq_true rfl) rfl rfl ?_
            refine S_X11_lets0 w (fun h1 g1 w1 => ?_)
            refine xRet_some ?_
            refine x_if_eqj (tgt := 132) (dT U_X11_gate 36 rfl) (by decide) (by decide) ?_
            refine x_iconst (dT U_X11_gate 66 rfl) ?_
            refine x_ireturn (dT U_X11_gate 67 rfl) rfl ?_
            exact e1 (by omega) _ _ (Ag.tr (Ag.rf 70 142 h) (g1.w (by omega))) w1 (by unfold xr; omega)
      · refine xRet_some ?_
        refine x_if_eqj (tgt := 39) (dT U_X11_gate 12 rfl) (by decide) (by decide) ?_
        refine x_iconst (dT U_X11_gate 18 rfl) ?_
        refine x_istore (ls' := [some (.ref _), some (vi _), some (vi _), some (vi _), some (vi _), some (vi _)]) (dT U_X11_gate 19 rfl) (by decide) rfl ?_
        refine x_iload_n (dT U_X11_gate 20 rfl) rfl ?_
        refine x_iconst (dT U_X11_gate 21 rfl) ?_
        refine x_icmp_ne (tgt := 66) (dT U_X11_gate 22 rfl) (by decide) h_kind (by unfold xr; omega) (fun c44 => ?_) (fun c44 => ?_)
        · skip
          refine x_aload_n (dT U_X11_gate 32 rfl) rfl ?_
          refine x_iload (dT U_X11_gate 33 rfl) rfl ?_
          refine x_iconst (dT U_X11_gate 34 rfl) ?_
          refine x_invokevirtual (rc' := rc) (rs' := rs) (rc2 := 0) (rs2 := 0) (As := [_, _]) (st := _) M_X11_lets K_X11_167 (dT U_X11_gate 35 rfl) rfl rfl (by decide) rfl rfl w.c70 (Nat.le_of_ble_eq_true rfl) (by decide) rfl (Nat.le_of_ble_eq_true rfl) rfl (by decide) (Nat.le_of_ble_eq_true rfl) rfl rfl ?_
          refine S_X11_lets0 w (fun h1 g1 w1 => ?_)
          refine xRet_some ?_
          refine x_if_eqj (tgt := 132) (dT U_X11_gate 36 rfl) (by decide) (by decide) ?_
          refine x_iconst (dT U_X11_gate 66 rfl) ?_
          refine x_ireturn (dT U_X11_gate 67 rfl) rfl ?_
          exact e1 (by omega) _ _ (Ag.tr (Ag.rf 70 142 h) (g1.w (by omega))) w1 (by unfold xr; omega)
        · skip
          refine x_iload (dT U_X11_gate 23 rfl) rfl ?_
          refine x_if_eqj (tgt := 63) (dT U_X11_gate 24 rfl) (by decide) (by decide) ?_
          refine x_iconst (dT U_X11_gate 30 rfl) ?_
          refine x_istore (ls' := [some (.ref _), some (vi _), some (vi _), some (vi _), some (vi _), some (vi _)]) (dT U_X11_gate 31 rfl) (by decide) rfl ?_
          refine x_aload_n (dT U_X11_gate 32 rfl) rfl ?_
          refine x_iload (dT U_X11_gate 33 rfl) rfl ?_
          refine x_iconst (dT U_X11_gate 34 rfl) ?_
          refine x_invokevirtual (rc' := rc) (rs' := rs) (rc2 := 0) (rs2 := 0) (As := [_, _]) (st := _) M_X11_lets K_X11_167 (dT U_X11_gate 35 rfl) rfl rfl (by decide) rfl rfl w.c70 (Nat.le_of_ble_eq_true rfl) (by decide) rfl (Nat.le_of_ble_eq_true rfl) rfl (by decide) (Nat.le_of_ble_eq_true rfl) rfl rfl ?_
          refine S_X11_lets0 w (fun h1 g1 w1 => ?_)
          refine xRet_some ?_
          refine x_if_eqj (tgt := 132) (dT U_X11_gate 36 rfl) (by decide) (by decide) ?_
          refine x_iconst (dT U_X11_gate 66 rfl) ?_
          refine x_ireturn (dT U_X11_gate 67 rfl) rfl ?_
          exact e1 (by omega) _ _ (Ag.tr (Ag.rf 70 142 h) (g1.w (by omega))) w1 (by unfold xr; omega)
    · skip
      refine x_iload_n (dT U_X11_gate 5 rfl) rfl ?_
      refine x_iconst (dT U_X11_gate 6 rfl) ?_
      refine x_icmp_ne (tgt := 42) (dT U_X11_gate 7 rfl) (by decide) h_kind (by unfold xr; omega) (fun c12 => ?_) (fun c12 => ?_)
      · skip
        refine x_iload_n (dT U_X11_gate 20 rfl) rfl ?_
        refine x_iconst (dT U_X11_gate 21 rfl) ?_
        refine x_icmp_ne (tgt := 66) (dT U_X11_gate 22 rfl) (by decide) h_kind (by unfold xr; omega) (fun c44 => ?_) (fun c44 => ?_)
        · skip
          refine x_aload_n (dT U_X11_gate 32 rfl) rfl ?_
          refine x_iload (dT U_X11_gate 33 rfl) rfl ?_
          refine x_iconst (dT U_X11_gate 34 rfl) ?_
          refine x_invokevirtual (rc' := rc) (rs' := rs) (rc2 := 0) (rs2 := 0) (As := [_, _]) (st := _) M_X11_lets K_X11_167 (dT U_X11_gate 35 rfl) rfl rfl (by decide) rfl rfl w.c70 (Nat.le_of_ble_eq_true rfl) (by decide) rfl (Nat.le_of_ble_eq_true rfl) rfl (by decide) (Nat.le_of_ble_eq_true rfl) rfl rfl ?_
          refine S_X11_lets1 w (fun h1 g1 w1 => ?_)
          refine xRet_some ?_
          refine x_if_eqn (tgt := 132) (dT U_X11_gate 36 rfl) (by decide) (by decide) ?_
          refine x_aload_n (dT U_X11_gate 37 rfl) rfl ?_
          refine x_iload_n (dT U_X11_gate 38 rfl) rfl ?_
          refine x_iconst (dT U_X11_gate 39 rfl) ?_
          refine x_invokestatic (rc' := rc) (rs' := rs) (rc2 := 0) (rs2 := 0) (As := [_, _]) (st := _) M_X11_in K_X11_126 (dT U_X11_gate 40 rfl) rfl rfl rfl rfl (Nat.le_of_ble_eq_true rfl) rfl (by decide) (Nat.le_of_ble_eq_true rfl) rfl rfl ?_
          refine S_X11_in h_kind (by unfold xr; omega) (fun q2 => ?_) (fun q2 => ?_)
          · refine xRet_some ?_
            refine x_if_eqn (tgt := 102) (dT U_X11_gate 41 rfl) (by decide) (by decide) ?_
            refine x_iload_n (dT U_X11_gate 42 rfl) rfl ?_
            refine x_iconst (dT U_X11_gate 43 rfl) ?_
            refine x_icmp_ne (tgt := 98) (dT U_X11_gate 44 rfl) (by decide) h_kind (by unfold xr; omega) (fun c87 => ?_) (fun c87 => ?_)
            · skip
              refine x_iconst (dT U_X11_gate 49 rfl) ?_
              refine x_goto (tgt := 103) (dT U_X11_gate 50 rfl) (by decide) ?_
              refine x_iconst (dT U_X11_gate 52 rfl) ?_
              refine x_invokevirtual (rc' := rc) (rs' := rs) (rc2 := 0) (rs2 := 0) (As := [_, _]) (st := _) M_X11_lets K_X11_167 (dT U_X11_gate 53 rfl) rfl rfl (by decide) rfl rfl w1.c70 (Nat.le_of_ble_eq_true rfl) (by decide) rfl (Nat.le_of_ble_eq_true rfl) rfl (by decide) (Nat.le_of_ble_eq_true rfl) rfl rfl ?_
              refine S_X11_lets1 w1 (fun h2 g2 w2 => ?_)
              refine xRet_some ?_
              refine x_if_eqn (tgt := 132) (dT U_X11_gate 54 rfl) (by decide) (by decide) ?_
              refine x_aload_n (dT U_X11_gate 55 rfl) rfl ?_
              refine x_aload_n (dT U_X11_gate 56 rfl) rfl ?_
              refine x_getfield F_X11_140 (dT U_X11_gate 57 rfl) w2.c70 (Nat.le_of_ble_eq_true rfl) rfl ?_
              refine x_bipush (dT U_X11_gate 58 rfl) (by decide) ?_
              have gn := v.G.1
              obtain ⟨gl1, gl2, gl3, gl4⟩ := v.G.2.1
              refine x_icmp_ge (tgt := 124) (dT U_X11_gate 59 rfl) (by decide) (by unfold xr; omega) (by unfold xr; omega) (fun c117 => ?_) (fun c117 => ?_)
              · skip
                refine x_iconst (dT U_X11_gate 62 rfl) ?_
                refine x_iconst (dT U_X11_gate 63 rfl) ?_
                refine x_invokevirtual (rc' := rc) (rs' := rs) (rc2 := 0) (rs2 := 0) (As := [_, _]) (st := _) M_X11_lets K_X11_167 (dT U_X11_gate 64 rfl) rfl rfl (by decide) rfl rfl w2.c70 (Nat.le_of_ble_eq_true rfl) (by decide) rfl (Nat.le_of_ble_eq_true rfl) rfl (by decide) (Nat.le_of_ble_eq_true rfl) rfl rfl ?_
                refine S_X11_lets0 w2 (fun h3 g3 w3 => ?_)
                refine xRet_some ?_
                refine x_if_nen (tgt := 134) (dT U_X11_gate 65 rfl) (by decide) (by decide) ?_
                refine x_iconst (dT U_X11_gate 66 rfl) ?_
                refine x_ireturn (dT U_X11_gate 67 rfl) rfl ?_
                exact e3 (by omega) (by omega) (by omega) _ _ (Ag.tr (Ag.tr (Ag.tr (Ag.rf 70 142 h) (g1.w (by omega))) (g2.w (by omega))) (g3.w (by omega))) w3 (by unfold xr; omega)
              · skip
                refine x_iconst (dT U_X11_gate 60 rfl) ?_
                refine x_goto (tgt := 125) (dT U_X11_gate 61 rfl) (by decide) ?_
                refine x_iconst (dT U_X11_gate 63 rfl) ?_
                refine x_invokevirtual (rc' := rc) (rs' := rs) (rc2 := 0) (rs2 := 0) (As := [_, _]) (st := _) M_X11_lets K_X11_167 (dT U_X11_gate 64 rfl) rfl rfl (by decide) rfl rfl w2.c70 (Nat.le_of_ble_eq_true rfl) (by decide) rfl (Nat.le_of_ble_eq_true rfl) rfl (by decide) (Nat.le_of_ble_eq_true rfl) rfl rfl ?_
                refine S_X11_lets1 w2 (fun h3 g3 w3 => ?_)
                refine xRet_some ?_
                refine x_if_nej (tgt := 134) (dT U_X11_gate 65 rfl) (by decide) (by decide) ?_
                refine x_aload_n (dT U_X11_gate 68 rfl) rfl ?_
                refine x_getfield F_X11_85 (dT U_X11_gate 69 rfl) w3.c70 (Nat.le_of_ble_eq_true rfl) rfl ?_
                refine x_aload_n (dT U_X11_gate 70 rfl) rfl ?_
                refine x_getfield F_X11_140 (dT U_X11_gate 71 rfl) w3.c70 (Nat.le_of_ble_eq_true rfl) rfl ?_
                refine x_aaload (σ.G.n) (dT U_X11_gate 72 rfl) w3.c124 (Nat.le_of_ble_eq_true rfl) (by decide) rfl (mgL_get (by omega)) (Nat.le_of_ble_eq_true rfl) ?_
                refine x_iconst (dT U_X11_gate 73 rfl) ?_
                refine x_iload_n (dT U_X11_gate 74 rfl) rfl ?_
                refine x_iastore (0) (dT U_X11_gate 75 rfl) (w3.gates σ.G.n (by omega)) (by omega) rfl (show 0 < 4 by omega) (show 4 < 2147483648 by decide) ?_
                refine x_aload_n (dT U_X11_gate 76 rfl) rfl ?_
                refine x_getfield F_X11_85 (dT U_X11_gate 77 rfl) (hset_ne (by omega) (w3.c70)) (Nat.le_of_ble_eq_true rfl) rfl ?_
                refine x_aload_n (dT U_X11_gate 78 rfl) rfl ?_
                refine x_getfield F_X11_140 (dT U_X11_gate 79 rfl) (hset_ne (by omega) (w3.c70)) (Nat.le_of_ble_eq_true rfl) rfl ?_
                refine x_aaload (σ.G.n) (dT U_X11_gate 80 rfl) (hset_ne (by omega) (w3.c124)) (Nat.le_of_ble_eq_true rfl) (by decide) rfl (mgL_get (by omega)) (Nat.le_of_ble_eq_true rfl) ?_
                refine x_iconst (dT U_X11_gate 81 rfl) ?_
                refine x_iload_n (dT U_X11_gate 82 rfl) rfl ?_
                refine x_iastore (1) (dT U_X11_gate 83 rfl) (hset_eq (w3.gates σ.G.n (by omega))) (by omega) rfl (show 1 < 4 by omega) (show 4 < 2147483648 by decide) ?_
                rw [List.set_set]
                refine x_aload_n (dT U_X11_gate 84 rfl) rfl ?_
                refine x_getfield F_X11_85 (dT U_X11_gate 85 rfl) (hset_ne (by omega) (w3.c70)) (Nat.le_of_ble_eq_true rfl) rfl ?_
                refine x_aload_n (dT U_X11_gate 86 rfl) rfl ?_
                refine x_getfield F_X11_140 (dT U_X11_gate 87 rfl) (hset_ne (by omega) (w3.c70)) (Nat.le_of_ble_eq_true rfl) rfl ?_
                refine x_aaload (σ.G.n) (dT U_X11_gate 88 rfl) (hset_ne (by omega) (w3.c124)) (Nat.le_of_ble_eq_true rfl) (by decide) rfl (mgL_get (by omega)) (Nat.le_of_ble_eq_true rfl) ?_
                refine x_iconst (dT U_X11_gate 89 rfl) ?_
                refine x_iload_n (dT U_X11_gate 90 rfl) rfl ?_
                refine x_iastore (2) (dT U_X11_gate 91 rfl) (hset_eq (w3.gates σ.G.n (by omega))) (by omega) rfl (show 2 < 4 by omega) (show 4 < 2147483648 by decide) ?_
                rw [List.set_set]
                refine x_aload_n (dT U_X11_gate 92 rfl) rfl ?_
                refine x_getfield F_X11_85 (dT U_X11_gate 93 rfl) (hset_ne (by omega) (w3.c70)) (Nat.le_of_ble_eq_true rfl) rfl ?_
                refine x_aload_n (dT U_X11_gate 94 rfl) rfl ?_
                refine x_getfield F_X11_140 (dT U_X11_gate 95 rfl) (hset_ne (by omega) (w3.c70)) (Nat.le_of_ble_eq_true rfl) rfl ?_
                refine x_aaload (σ.G.n) (dT U_X11_gate 96 rfl) (hset_ne (by omega) (w3.c124)) (Nat.le_of_ble_eq_true rfl) (by decide) rfl (mgL_get (by omega)) (Nat.le_of_ble_eq_true rfl) ?_
                refine x_iconst (dT U_X11_gate 97 rfl) ?_
                refine x_iload (dT U_X11_gate 98 rfl) rfl ?_
                refine x_iastore (3) (dT U_X11_gate 99 rfl) (hset_eq (w3.gates σ.G.n (by omega))) (by omega) rfl (show 3 < 4 by omega) (show 4 < 2147483648 by decide) ?_
                rw [List.set_set]
                refine x_aload_n (dT U_X11_gate 100 rfl) rfl ?_
                refine x_dup (dT U_X11_gate 101 rfl) rfl ?_
                refine x_getfield F_X11_140 (dT U_X11_gate 102 rfl) (hset_ne (by omega) (w3.c70)) (Nat.le_of_ble_eq_true rfl) rfl ?_
                refine x_iconst (dT U_X11_gate 103 rfl) ?_
                refine x_iadd (dT U_X11_gate 104 rfl) ?_
                refine x_putfield F_X11_140 (dT U_X11_gate 105 rfl) (hset_ne (by omega) (w3.c70)) (Nat.le_of_ble_eq_true rfl) (Nat.le_of_ble_eq_true rfl) rfl rfl ?_
                change X G _ _ _ _ _ _ _ _ (List.set _ 70 (mC 0 σ.p (σ.G.n + 1) σ.g.b rr σ.g.c ss σ.g.z σ.g.o σ.L.n)) _
                refine x_aload_n (dT U_X11_gate 106 rfl) rfl ?_
                refine x_getfield F_X11_140 (dT U_X11_gate 107 rfl) (hset_eq (hset_ne (by omega) (w3.c70))) (Nat.le_of_ble_eq_true rfl) rfl ?_
                refine x_ireturn (dT U_X11_gate 108 rfl) rfl ?_
                exact k (by omega) (by omega) (by omega) _ _ _ (((Ag.tr (Ag.tr (Ag.tr (Ag.rf 70 142 h) (g1.w (by omega))) (g2.w (by omega))) (g3.w (by omega))).set (by omega)).set (by omega)) (w3.gate (G := (σ.G.n + 1, σ.G.k.set σ.G.n kind, σ.G.a.set σ.G.n a, σ.G.b.set σ.G.n b, σ.G.c.set σ.G.n c)) (fun a9 ha => by rw [hset_fr (by omega), hset_fr (by omega)]) (hset_eq (hset_ne (by omega) (w3.c70))) (fun j hj => by
                    by_cases e : j = σ.G.n
                    · subst e
                      show _ = some (cA 0 [(σ.G.k.set σ.G.n kind).getD σ.G.n 0, (σ.G.a.set σ.G.n a).getD σ.G.n 0, (σ.G.b.set σ.G.n b).getD σ.G.n 0, (σ.G.c.set σ.G.n c).getD σ.G.n 0])
                      rw [gset_e (by omega), gset_e (by omega), gset_e (by omega), gset_e (by omega)]
                      exact hset_ne (by omega) (hset_eq (w3.gates σ.G.n hj))
                    · show _ = some (cA 0 [(σ.G.k.set σ.G.n kind).getD j 0, (σ.G.a.set σ.G.n a).getD j 0, (σ.G.b.set σ.G.n b).getD j 0, (σ.G.c.set σ.G.n c).getD j 0])
                      rw [gset_n e, gset_n e, gset_n e, gset_n e]
                      exact hset_ne (by omega) (hset_ne (by omega) (w3.gates j hj))))
            · skip
              refine x_aload_n (dT U_X11_gate 45 rfl) rfl ?_
              refine x_iload_n (dT U_X11_gate 46 rfl) rfl ?_
              refine x_invokevirtual (rc' := rc) (rs' := rs) (rc2 := 0) (rs2 := 0) (As := [_]) (st := _) M_X11_isNumber K_X11_174 (dT U_X11_gate 47 rfl) rfl rfl (by decide) rfl rfl w1.c70 (Nat.le_of_ble_eq_true rfl) (by decide) rfl (Nat.le_of_ble_eq_true rfl) rfl (by decide) (Nat.le_of_ble_eq_true rfl) rfl rfl ?_
              refine S_X11_isNumber (w1.mp) v.p h_b (fun q3 => ?_) (fun q3 => ?_)
              · refine xRet_some ?_
                refine x_if_eqn (tgt := 102) (dT U_X11_gate 48 rfl) (by decide) (by decide) ?_
                refine x_iconst (dT U_X11_gate 49 rfl) ?_
                refine x_goto (tgt := 103) (dT U_X11_gate 50 rfl) (by decide) ?_
                refine x_iconst (dT U_X11_gate 52 rfl) ?_
                refine x_invokevirtual (rc' := rc) (rs' := rs) (rc2 := 0) (rs2 := 0) (As := [_, _]) (st := _) M_X11_lets K_X11_167 (dT U_X11_gate 53 rfl) rfl rfl (by decide) rfl rfl w1.c70 (Nat.le_of_ble_eq_true rfl) (by decide) rfl (Nat.le_of_ble_eq_true rfl) rfl (by decide) (Nat.le_of_ble_eq_true rfl) rfl rfl ?_
                refine S_X11_lets1 w1 (fun h2 g2 w2 => ?_)
                refine xRet_some ?_
                refine x_if_eqn (tgt := 132) (dT U_X11_gate 54 rfl) (by decide) (by decide) ?_
                refine x_aload_n (dT U_X11_gate 55 rfl) rfl ?_
                refine x_aload_n (dT U_X11_gate 56 rfl) rfl ?_
                refine x_getfield F_X11_140 (dT U_X11_gate 57 rfl) w2.c70 (Nat.le_of_ble_eq_true rfl) rfl ?_
                refine x_bipush (dT U_X11_gate 58 rfl) (by decide) ?_
                have gn := v.G.1
                obtain ⟨gl1, gl2, gl3, gl4⟩ := v.G.2.1
                refine x_icmp_ge (tgt := 124) (dT U_X11_gate 59 rfl) (by decide) (by unfold xr; omega) (by unfold xr; omega) (fun c117 => ?_) (fun c117 => ?_)
                · skip
                  refine x_iconst (dT U_X11_gate 62 rfl) ?_
                  refine x_iconst (dT U_X11_gate 63 rfl) ?_
                  refine x_invokevirtual (rc' := rc) (rs' := rs) (rc2 := 0) (rs2 := 0) (As := [_, _]) (st := _) M_X11_lets K_X11_167 (dT U_X11_gate 64 rfl) rfl rfl (by decide) rfl rfl w2.c70 (Nat.le_of_ble_eq_true rfl) (by decide) rfl (Nat.le_of_ble_eq_true rfl) rfl (by decide) (Nat.le_of_ble_eq_true rfl) rfl rfl ?_
                  refine S_X11_lets0 w2 (fun h3 g3 w3 => ?_)
                  refine xRet_some ?_
                  refine x_if_nen (tgt := 134) (dT U_X11_gate 65 rfl) (by decide) (by decide) ?_
                  refine x_iconst (dT U_X11_gate 66 rfl) ?_
                  refine x_ireturn (dT U_X11_gate 67 rfl) rfl ?_
                  exact e3 (by omega) (by omega) (by omega) _ _ (Ag.tr (Ag.tr (Ag.tr (Ag.rf 70 142 h) (g1.w (by omega))) (g2.w (by omega))) (g3.w (by omega))) w3 (by unfold xr; omega)
                · skip
                  refine x_iconst (dT U_X11_gate 60 rfl) ?_
                  refine x_goto (tgt := 125) (dT U_X11_gate 61 rfl) (by decide) ?_
                  refine x_iconst (dT U_X11_gate 63 rfl) ?_
                  refine x_invokevirtual (rc' := rc) (rs' := rs) (rc2 := 0) (rs2 := 0) (As := [_, _]) (st := _) M_X11_lets K_X11_167 (dT U_X11_gate 64 rfl) rfl rfl (by decide) rfl rfl w2.c70 (Nat.le_of_ble_eq_true rfl) (by decide) rfl (Nat.le_of_ble_eq_true rfl) rfl (by decide) (Nat.le_of_ble_eq_true rfl) rfl rfl ?_
                  refine S_X11_lets1 w2 (fun h3 g3 w3 => ?_)
                  refine xRet_some ?_
                  refine x_if_nej (tgt := 134) (dT U_X11_gate 65 rfl) (by decide) (by decide) ?_
                  refine x_aload_n (dT U_X11_gate 68 rfl) rfl ?_
                  refine x_getfield F_X11_85 (dT U_X11_gate 69 rfl) w3.c70 (Nat.le_of_ble_eq_true rfl) rfl ?_
                  refine x_aload_n (dT U_X11_gate 70 rfl) rfl ?_
                  refine x_getfield F_X11_140 (dT U_X11_gate 71 rfl) w3.c70 (Nat.le_of_ble_eq_true rfl) rfl ?_
                  refine x_aaload (σ.G.n) (dT U_X11_gate 72 rfl) w3.c124 (Nat.le_of_ble_eq_true rfl) (by decide) rfl (mgL_get (by omega)) (Nat.le_of_ble_eq_true rfl) ?_
                  refine x_iconst (dT U_X11_gate 73 rfl) ?_
                  refine x_iload_n (dT U_X11_gate 74 rfl) rfl ?_
                  refine x_iastore (0) (dT U_X11_gate 75 rfl) (w3.gates σ.G.n (by omega)) (by omega) rfl (show 0 < 4 by omega) (show 4 < 2147483648 by decide) ?_
                  refine x_aload_n (dT U_X11_gate 76 rfl) rfl ?_
                  refine x_getfield F_X11_85 (dT U_X11_gate 77 rfl) (hset_ne (by omega) (w3.c70)) (Nat.le_of_ble_eq_true rfl) rfl ?_
                  refine x_aload_n (dT U_X11_gate 78 rfl) rfl ?_
                  refine x_getfield F_X11_140 (dT U_X11_gate 79 rfl) (hset_ne (by omega) (w3.c70)) (Nat.le_of_ble_eq_true rfl) rfl ?_
                  refine x_aaload (σ.G.n) (dT U_X11_gate 80 rfl) (hset_ne (by omega) (w3.c124)) (Nat.le_of_ble_eq_true rfl) (by decide) rfl (mgL_get (by omega)) (Nat.le_of_ble_eq_true rfl) ?_
                  refine x_iconst (dT U_X11_gate 81 rfl) ?_
                  refine x_iload_n (dT U_X11_gate 82 rfl) rfl ?_
                  refine x_iastore (1) (dT U_X11_gate 83 rfl) (hset_eq (w3.gates σ.G.n (by omega))) (by omega) rfl (show 1 < 4 by omega) (show 4 < 2147483648 by decide) ?_
                  rw [List.set_set]
                  refine x_aload_n (dT U_X11_gate 84 rfl) rfl ?_
                  refine x_getfield F_X11_85 (dT U_X11_gate 85 rfl) (hset_ne (by omega) (w3.c70)) (Nat.le_of_ble_eq_true rfl) rfl ?_
                  refine x_aload_n (dT U_X11_gate 86 rfl) rfl ?_
                  refine x_getfield F_X11_140 (dT U_X11_gate 87 rfl) (hset_ne (by omega) (w3.c70)) (Nat.le_of_ble_eq_true rfl) rfl ?_
                  refine x_aaload (σ.G.n) (dT U_X11_gate 88 rfl) (hset_ne (by omega) (w3.c124)) (Nat.le_of_ble_eq_true rfl) (by decide) rfl (mgL_get (by omega)) (Nat.le_of_ble_eq_true rfl) ?_
                  refine x_iconst (dT U_X11_gate 89 rfl) ?_
                  refine x_iload_n (dT U_X11_gate 90 rfl) rfl ?_
                  refine x_iastore (2) (dT U_X11_gate 91 rfl) (hset_eq (w3.gates σ.G.n (by omega))) (by omega) rfl (show 2 < 4 by omega) (show 4 < 2147483648 by decide) ?_
                  rw [List.set_set]
                  refine x_aload_n (dT U_X11_gate 92 rfl) rfl ?_
                  refine x_getfield F_X11_85 (dT U_X11_gate 93 rfl) (hset_ne (by omega) (w3.c70)) (Nat.le_of_ble_eq_true rfl) rfl ?_
                  refine x_aload_n (dT U_X11_gate 94 rfl) rfl ?_
                  refine x_getfield F_X11_140 (dT U_X11_gate 95 rfl) (hset_ne (by omega) (w3.c70)) (Nat.le_of_ble_eq_true rfl) rfl ?_
                  refine x_aaload (σ.G.n) (dT U_X11_gate 96 rfl) (hset_ne (by omega) (w3.c124)) (Nat.le_of_ble_eq_true rfl) (by decide) rfl (mgL_get (by omega)) (Nat.le_of_ble_eq_true rfl) ?_
                  refine x_iconst (dT U_X11_gate 97 rfl) ?_
                  refine x_iload (dT U_X11_gate 98 rfl) rfl ?_
                  refine x_iastore (3) (dT U_X11_gate 99 rfl) (hset_eq (w3.gates σ.G.n (by omega))) (by omega) rfl (show 3 < 4 by omega) (show 4 < 2147483648 by decide) ?_
                  rw [List.set_set]
                  refine x_aload_n (dT U_X11_gate 100 rfl) rfl ?_
                  refine x_dup (dT U_X11_gate 101 rfl) rfl ?_
                  refine x_getfield F_X11_140 (dT U_X11_gate 102 rfl) (hset_ne (by omega) (w3.c70)) (Nat.le_of_ble_eq_true rfl) rfl ?_
                  refine x_iconst (dT U_X11_gate 103 rfl) ?_
                  refine x_iadd (dT U_X11_gate 104 rfl) ?_
                  refine x_putfield F_X11_140 (dT U_X11_gate 105 rfl) (hset_ne (by omega) (w3.c70)) (Nat.le_of_ble_eq_true rfl) (Nat.le_of_ble_eq_true rfl) rfl rfl ?_
                  change X G _ _ _ _ _ _ _ _ (List.set _ 70 (mC 0 σ.p (σ.G.n + 1) σ.g.b rr σ.g.c ss σ.g.z σ.g.o σ.L.n)) _
                  refine x_aload_n (dT U_X11_gate 106 rfl) rfl ?_
                  refine x_getfield F_X11_140 (dT U_X11_gate 107 rfl) (hset_eq (hset_ne (by omega) (w3.c70))) (Nat.le_of_ble_eq_true rfl) rfl ?_
                  refine x_ireturn (dT U_X11_gate 108 rfl) rfl ?_
                  exact k (by omega) (by omega) (by omega) _ _ _ (((Ag.tr (Ag.tr (Ag.tr (Ag.rf 70 142 h) (g1.w (by omega))) (g2.w (by omega))) (g3.w (by omega))).set (by omega)).set (by omega)) (w3.gate (G := (σ.G.n + 1, σ.G.k.set σ.G.n kind, σ.G.a.set σ.G.n a, σ.G.b.set σ.G.n b, σ.G.c.set σ.G.n c)) (fun a9 ha => by rw [hset_fr (by omega), hset_fr (by omega)]) (hset_eq (hset_ne (by omega) (w3.c70))) (fun j hj => by
                      by_cases e : j = σ.G.n
                      · subst e
                        show _ = some (cA 0 [(σ.G.k.set σ.G.n kind).getD σ.G.n 0, (σ.G.a.set σ.G.n a).getD σ.G.n 0, (σ.G.b.set σ.G.n b).getD σ.G.n 0, (σ.G.c.set σ.G.n c).getD σ.G.n 0])
                        rw [gset_e (by omega), gset_e (by omega), gset_e (by omega), gset_e (by omega)]
                        exact hset_ne (by omega) (hset_eq (w3.gates σ.G.n hj))
                      · show _ = some (cA 0 [(σ.G.k.set σ.G.n kind).getD j 0, (σ.G.a.set σ.G.n a).getD j 0, (σ.G.b.set σ.G.n b).getD j 0, (σ.G.c.set σ.G.n c).getD j 0])
                        rw [gset_n e, gset_n e, gset_n e, gset_n e]
                        exact hset_ne (by omega) (hset_ne (by omega) (w3.gates j hj))))
              · refine xRet_some ?_
                refine x_if_eqj (tgt := 102) (dT U_X11_gate 48 rfl) (by decide) (by decide) ?_
                refine x_iconst (dT U_X11_gate 51 rfl) ?_
                refine x_iconst (dT U_X11_gate 52 rfl) ?_
                refine x_invokevirtual (rc' := rc) (rs' := rs) (rc2 := 0) (rs2 := 0) (As := [_, _]) (st := _) M_X11_lets K_X11_167 (dT U_X11_gate 53 rfl) rfl rfl (by decide) rfl rfl w1.c70 (Nat.le_of_ble_eq_true rfl) (by decide) rfl (Nat.le_of_ble_eq_true rfl) rfl (by decide) (Nat.le_of_ble_eq_true rfl) rfl rfl ?_
                refine S_X11_lets0 w1 (fun h2 g2 w2 => ?_)
                refine xRet_some ?_
                refine x_if_eqj (tgt := 132) (dT U_X11_gate 54 rfl) (by decide) (by decide) ?_
                refine x_iconst (dT U_X11_gate 66 rfl) ?_
                refine x_ireturn (dT U_X11_gate 67 rfl) rfl ?_
                exact e2 (by omega) (by omega) _ _ (Ag.tr (Ag.tr (Ag.rf 70 142 h) (g1.w (by omega))) (g2.w (by omega))) w2 (by unfold xr; omega)
          · refine xRet_some ?_
            refine x_if_eqj (tgt := 102) (dT U_X11_gate 41 rfl) (by decide) (by decide) ?_
            refine x_iconst (dT U_X11_gate 51 rfl) ?_
            refine x_iconst (dT U_X11_gate 52 rfl) ?_
            refine x_invokevirtual (rc' := rc) (rs' := rs) (rc2 := 0) (rs2 := 0) (As := [_, _]) (st := _) M_X11_lets K_X11_167 (dT U_X11_gate 53 rfl) rfl rfl (by decide) rfl rfl w1.c70 (Nat.le_of_ble_eq_true rfl) (by decide) rfl (Nat.le_of_ble_eq_true rfl) rfl (by decide) (Nat.le_of_ble_eq_true rfl) rfl rfl ?_
            refine S_X11_lets0 w1 (fun h2 g2 w2 => ?_)
            refine xRet_some ?_
            refine x_if_eqj (tgt := 132) (dT U_X11_gate 54 rfl) (by decide) (by decide) ?_
            refine x_iconst (dT U_X11_gate 66 rfl) ?_
            refine x_ireturn (dT U_X11_gate 67 rfl) rfl ?_
            exact e2 (by omega) (by omega) _ _ (Ag.tr (Ag.tr (Ag.rf 70 142 h) (g1.w (by omega))) (g2.w (by omega))) w2 (by unfold xr; omega)
        · skip
          refine x_iload (dT U_X11_gate 23 rfl) rfl ?_
          refine x_if_eqn (tgt := 63) (dT U_X11_gate 24 rfl) (by decide) (by decide) ?_
          refine x_iload_n (dT U_X11_gate 25 rfl) rfl ?_
          refine x_invokestatic (rc' := rc) (rs' := rs) (rc2 := 0) (rs2 := 0) (As := [_]) (st := _) M_X11_isRow K_X11_164 (dT U_X11_gate 26 rfl) rfl rfl rfl rfl (Nat.le_of_ble_eq_true rfl) rfl (by decide) (Nat.le_of_ble_eq_true rfl) rfl rfl ?_
          refine S_X11_isRow h_b (fun q2 => ?_) (fun q2 => ?_)
          · refine xRet_some ?_
            refine x_if_eqn (tgt := 63) (dT U_X11_gate 27 rfl) (by decide) (by decide) ?_
            refine x_iconst (dT U_X11_gate 28 rfl) ?_
            refine x_goto (tgt := 64) (dT U_X11_gate 29 rfl) (by decide) ?_
            refine x_istore (ls' := [some (.ref _), some (vi _), some (vi _), some (vi _), some (vi _), some (vi _)]) (dT U_X11_gate 31 rfl) (by decide) rfl ?_
            refine x_aload_n (dT U_X11_gate 32 rfl) rfl ?_
            refine x_iload (dT U_X11_gate 33 rfl) rfl ?_
            refine x_iconst (dT U_X11_gate 34 rfl) ?_
            refine x_invokevirtual (rc' := rc) (rs' := rs) (rc2 := 0) (rs2 := 0) (As := [_, _]) (st := _) M_X11_lets K_X11_167 (dT U_X11_gate 35 rfl) rfl rfl (by decide) rfl rfl w.c70 (Nat.le_of_ble_eq_true rfl) (by decide) rfl (Nat.le_of_ble_eq_true rfl) rfl (by decide) (Nat.le_of_ble_eq_true rfl) rfl rfl ?_
            refine S_X11_lets1 w (fun h1 g1 w1 => ?_)
            refine xRet_some ?_
            refine x_if_eqn (tgt := 132) (dT U_X11_gate 36 rfl) (by decide) (by decide) ?_
            refine x_aload_n (dT U_X11_gate 37 rfl) rfl ?_
            refine x_iload_n (dT U_X11_gate 38 rfl) rfl ?_
            refine x_iconst (dT U_X11_gate 39 rfl) ?_
            refine x_invokestatic (rc' := rc) (rs' := rs) (rc2 := 0) (rs2 := 0) (As := [_, _]) (st := _) M_X11_in K_X11_126 (dT U_X11_gate 40 rfl) rfl rfl rfl rfl (Nat.le_of_ble_eq_true rfl) rfl (by decide) (Nat.le_of_ble_eq_true rfl) rfl rfl ?_
            refine S_X11_in h_kind (by unfold xr; omega) (fun q3 => ?_) (fun q3 => ?_)
            · refine xRet_some ?_
              refine x_if_eqn (tgt := 102) (dT U_X11_gate 41 rfl) (by decide) (by decide) ?_
              refine x_iload_n (dT U_X11_gate 42 rfl) rfl ?_
              refine x_iconst (dT U_X11_gate 43 rfl) ?_
              refine x_icmp_ne (tgt := 98) (dT U_X11_gate 44 rfl) (by decide) h_kind (by unfold xr; omega) (fun c87 => ?_) (fun c87 => ?_)
              · skip
                refine x_iconst (dT U_X11_gate 49 rfl) ?_
                refine x_goto (tgt := 103) (dT U_X11_gate 50 rfl) (by decide) ?_
                refine x_iconst (dT U_X11_gate 52 rfl) ?_
                refine x_invokevirtual (rc' := rc) (rs' := rs) (rc2 := 0) (rs2 := 0) (As := [_, _]) (st := _) M_X11_lets K_X11_167 (dT U_X11_gate 53 rfl) rfl rfl (by decide) rfl rfl w1.c70 (Nat.le_of_ble_eq_true rfl) (by decide) rfl (Nat.le_of_ble_eq_true rfl) rfl (by decide) (Nat.le_of_ble_eq_true rfl) rfl rfl ?_
                refine S_X11_lets1 w1 (fun h2 g2 w2 => ?_)
                refine xRet_some ?_
                refine x_if_eqn (tgt := 132) (dT U_X11_gate 54 rfl) (by decide) (by decide) ?_
                refine x_aload_n (dT U_X11_gate 55 rfl) rfl ?_
                refine x_aload_n (dT U_X11_gate 56 rfl) rfl ?_
                refine x_getfield F_X11_140 (dT U_X11_gate 57 rfl) w2.c70 (Nat.le_of_ble_eq_true rfl) rfl ?_
                refine x_bipush (dT U_X11_gate 58 rfl) (by decide) ?_
                have gn := v.G.1
                obtain ⟨gl1, gl2, gl3, gl4⟩ := v.G.2.1
                refine x_icmp_ge (tgt := 124) (dT U_X11_gate 59 rfl) (by decide) (by unfold xr; omega) (by unfold xr; omega) (fun c117 => ?_) (fun c117 => ?_)
                · skip
                  refine x_iconst (dT U_X11_gate 62 rfl) ?_
                  refine x_iconst (dT U_X11_gate 63 rfl) ?_
                  refine x_invokevirtual (rc' := rc) (rs' := rs) (rc2 := 0) (rs2 := 0) (As := [_, _]) (st := _) M_X11_lets K_X11_167 (dT U_X11_gate 64 rfl) rfl rfl (by decide) rfl rfl w2.c70 (Nat.le_of_ble_eq_true rfl) (by decide) rfl (Nat.le_of_ble_eq_true rfl) rfl (by decide) (Nat.le_of_ble_eq_true rfl) rfl rfl ?_
                  refine S_X11_lets0 w2 (fun h3 g3 w3 => ?_)
                  refine xRet_some ?_
                  refine x_if_nen (tgt := 134) (dT U_X11_gate 65 rfl) (by decide) (by decide) ?_
                  refine x_iconst (dT U_X11_gate 66 rfl) ?_
                  refine x_ireturn (dT U_X11_gate 67 rfl) rfl ?_
                  exact e3 (by omega) (by omega) (by omega) _ _ (Ag.tr (Ag.tr (Ag.tr (Ag.rf 70 142 h) (g1.w (by omega))) (g2.w (by omega))) (g3.w (by omega))) w3 (by unfold xr; omega)
                · skip
                  refine x_iconst (dT U_X11_gate 60 rfl) ?_
                  refine x_goto (tgt := 125) (dT U_X11_gate 61 rfl) (by decide) ?_
                  refine x_iconst (dT U_X11_gate 63 rfl) ?_
                  refine x_invokevirtual (rc' := rc) (rs' := rs) (rc2 := 0) (rs2 := 0) (As := [_, _]) (st := _) M_X11_lets K_X11_167 (dT U_X11_gate 64 rfl) rfl rfl (by decide) rfl rfl w2.c70 (Nat.le_of_ble_eq_true rfl) (by decide) rfl (Nat.le_of_ble_eq_true rfl) rfl (by decide) (Nat.le_of_ble_eq_true rfl) rfl rfl ?_
                  refine S_X11_lets1 w2 (fun h3 g3 w3 => ?_)
                  refine xRet_some ?_
                  refine x_if_nej (tgt := 134) (dT U_X11_gate 65 rfl) (by decide) (by decide) ?_
                  refine x_aload_n (dT U_X11_gate 68 rfl) rfl ?_
                  refine x_getfield F_X11_85 (dT U_X11_gate 69 rfl) w3.c70 (Nat.le_of_ble_eq_true rfl) rfl ?_
                  refine x_aload_n (dT U_X11_gate 70 rfl) rfl ?_
                  refine x_getfield F_X11_140 (dT U_X11_gate 71 rfl) w3.c70 (Nat.le_of_ble_eq_true rfl) rfl ?_
                  refine x_aaload (σ.G.n) (dT U_X11_gate 72 rfl) w3.c124 (Nat.le_of_ble_eq_true rfl) (by decide) rfl (mgL_get (by omega)) (Nat.le_of_ble_eq_true rfl) ?_
                  refine x_iconst (dT U_X11_gate 73 rfl) ?_
                  refine x_iload_n (dT U_X11_gate 74 rfl) rfl ?_
                  refine x_iastore (0) (dT U_X11_gate 75 rfl) (w3.gates σ.G.n (by omega)) (by omega) rfl (show 0 < 4 by omega) (show 4 < 2147483648 by decide) ?_
                  refine x_aload_n (dT U_X11_gate 76 rfl) rfl ?_
                  refine x_getfield F_X11_85 (dT U_X11_gate 77 rfl) (hset_ne (by omega) (w3.c70)) (Nat.le_of_ble_eq_true rfl) rfl ?_
                  refine x_aload_n (dT U_X11_gate 78 rfl) rfl ?_
                  refine x_getfield F_X11_140 (dT U_X11_gate 79 rfl) (hset_ne (by omega) (w3.c70)) (Nat.le_of_ble_eq_true rfl) rfl ?_
                  refine x_aaload (σ.G.n) (dT U_X11_gate 80 rfl) (hset_ne (by omega) (w3.c124)) (Nat.le_of_ble_eq_true rfl) (by decide) rfl (mgL_get (by omega)) (Nat.le_of_ble_eq_true rfl) ?_
                  refine x_iconst (dT U_X11_gate 81 rfl) ?_
                  refine x_iload_n (dT U_X11_gate 82 rfl) rfl ?_
                  refine x_iastore (1) (dT U_X11_gate 83 rfl) (hset_eq (w3.gates σ.G.n (by omega))) (by omega) rfl (show 1 < 4 by omega) (show 4 < 2147483648 by decide) ?_
                  rw [List.set_set]
                  refine x_aload_n (dT U_X11_gate 84 rfl) rfl ?_
                  refine x_getfield F_X11_85 (dT U_X11_gate 85 rfl) (hset_ne (by omega) (w3.c70)) (Nat.le_of_ble_eq_true rfl) rfl ?_
                  refine x_aload_n (dT U_X11_gate 86 rfl) rfl ?_
                  refine x_getfield F_X11_140 (dT U_X11_gate 87 rfl) (hset_ne (by omega) (w3.c70)) (Nat.le_of_ble_eq_true rfl) rfl ?_
                  refine x_aaload (σ.G.n) (dT U_X11_gate 88 rfl) (hset_ne (by omega) (w3.c124)) (Nat.le_of_ble_eq_true rfl) (by decide) rfl (mgL_get (by omega)) (Nat.le_of_ble_eq_true rfl) ?_
                  refine x_iconst (dT U_X11_gate 89 rfl) ?_
                  refine x_iload_n (dT U_X11_gate 90 rfl) rfl ?_
                  refine x_iastore (2) (dT U_X11_gate 91 rfl) (hset_eq (w3.gates σ.G.n (by omega))) (by omega) rfl (show 2 < 4 by omega) (show 4 < 2147483648 by decide) ?_
                  rw [List.set_set]
                  refine x_aload_n (dT U_X11_gate 92 rfl) rfl ?_
                  refine x_getfield F_X11_85 (dT U_X11_gate 93 rfl) (hset_ne (by omega) (w3.c70)) (Nat.le_of_ble_eq_true rfl) rfl ?_
                  refine x_aload_n (dT U_X11_gate 94 rfl) rfl ?_
                  refine x_getfield F_X11_140 (dT U_X11_gate 95 rfl) (hset_ne (by omega) (w3.c70)) (Nat.le_of_ble_eq_true rfl) rfl ?_
                  refine x_aaload (σ.G.n) (dT U_X11_gate 96 rfl) (hset_ne (by omega) (w3.c124)) (Nat.le_of_ble_eq_true rfl) (by decide) rfl (mgL_get (by omega)) (Nat.le_of_ble_eq_true rfl) ?_
                  refine x_iconst (dT U_X11_gate 97 rfl) ?_
                  refine x_iload (dT U_X11_gate 98 rfl) rfl ?_
                  refine x_iastore (3) (dT U_X11_gate 99 rfl) (hset_eq (w3.gates σ.G.n (by omega))) (by omega) rfl (show 3 < 4 by omega) (show 4 < 2147483648 by decide) ?_
                  rw [List.set_set]
                  refine x_aload_n (dT U_X11_gate 100 rfl) rfl ?_
                  refine x_dup (dT U_X11_gate 101 rfl) rfl ?_
                  refine x_getfield F_X11_140 (dT U_X11_gate 102 rfl) (hset_ne (by omega) (w3.c70)) (Nat.le_of_ble_eq_true rfl) rfl ?_
                  refine x_iconst (dT U_X11_gate 103 rfl) ?_
                  refine x_iadd (dT U_X11_gate 104 rfl) ?_
                  refine x_putfield F_X11_140 (dT U_X11_gate 105 rfl) (hset_ne (by omega) (w3.c70)) (Nat.le_of_ble_eq_true rfl) (Nat.le_of_ble_eq_true rfl) rfl rfl ?_
                  change X G _ _ _ _ _ _ _ _ (List.set _ 70 (mC 0 σ.p (σ.G.n + 1) σ.g.b rr σ.g.c ss σ.g.z σ.g.o σ.L.n)) _
                  refine x_aload_n (dT U_X11_gate 106 rfl) rfl ?_
                  refine x_getfield F_X11_140 (dT U_X11_gate 107 rfl) (hset_eq (hset_ne (by omega) (w3.c70))) (Nat.le_of_ble_eq_true rfl) rfl ?_
                  refine x_ireturn (dT U_X11_gate 108 rfl) rfl ?_
                  exact k (by omega) (by omega) (by omega) _ _ _ (((Ag.tr (Ag.tr (Ag.tr (Ag.rf 70 142 h) (g1.w (by omega))) (g2.w (by omega))) (g3.w (by omega))).set (by omega)).set (by omega)) (w3.gate (G := (σ.G.n + 1, σ.G.k.set σ.G.n kind, σ.G.a.set σ.G.n a, σ.G.b.set σ.G.n b, σ.G.c.set σ.G.n c)) (fun a9 ha => by rw [hset_fr (by omega), hset_fr (by omega)]) (hset_eq (hset_ne (by omega) (w3.c70))) (fun j hj => by
                      by_cases e : j = σ.G.n
                      · subst e
                        show _ = some (cA 0 [(σ.G.k.set σ.G.n kind).getD σ.G.n 0, (σ.G.a.set σ.G.n a).getD σ.G.n 0, (σ.G.b.set σ.G.n b).getD σ.G.n 0, (σ.G.c.set σ.G.n c).getD σ.G.n 0])
                        rw [gset_e (by omega), gset_e (by omega), gset_e (by omega), gset_e (by omega)]
                        exact hset_ne (by omega) (hset_eq (w3.gates σ.G.n hj))
                      · show _ = some (cA 0 [(σ.G.k.set σ.G.n kind).getD j 0, (σ.G.a.set σ.G.n a).getD j 0, (σ.G.b.set σ.G.n b).getD j 0, (σ.G.c.set σ.G.n c).getD j 0])
                        rw [gset_n e, gset_n e, gset_n e, gset_n e]
                        exact hset_ne (by omega) (hset_ne (by omega) (w3.gates j hj))))
              · skip
                refine x_aload_n (dT U_X11_gate 45 rfl) rfl ?_
                refine x_iload_n (dT U_X11_gate 46 rfl) rfl ?_
                refine x_invokevirtual (rc' := rc) (rs' := rs) (rc2 := 0) (rs2 := 0) (As := [_]) (st := _) M_X11_isNumber K_X11_174 (dT U_X11_gate 47 rfl) rfl rfl (by decide) rfl rfl w1.c70 (Nat.le_of_ble_eq_true rfl) (by decide) rfl (Nat.le_of_ble_eq_true rfl) rfl (by decide) (Nat.le_of_ble_eq_true rfl) rfl rfl ?_
                refine S_X11_isNumber (w1.mp) v.p h_b (fun q4 => ?_) (fun q4 => ?_)
                · refine xRet_some ?_
                  refine x_if_eqn (tgt := 102) (dT U_X11_gate 48 rfl) (by decide) (by decide) ?_
                  refine x_iconst (dT U_X11_gate 49 rfl) ?_
                  refine x_goto (tgt := 103) (dT U_X11_gate 50 rfl) (by decide) ?_
                  refine x_iconst (dT U_X11_gate 52 rfl) ?_
                  refine x_invokevirtual (rc' := rc) (rs' := rs) (rc2 := 0) (rs2 := 0) (As := [_, _]) (st := _) M_X11_lets K_X11_167 (dT U_X11_gate 53 rfl) rfl rfl (by decide) rfl rfl w1.c70 (Nat.le_of_ble_eq_true rfl) (by decide) rfl (Nat.le_of_ble_eq_true rfl) rfl (by decide) (Nat.le_of_ble_eq_true rfl) rfl rfl ?_
                  refine S_X11_lets1 w1 (fun h2 g2 w2 => ?_)
                  refine xRet_some ?_
                  refine x_if_eqn (tgt := 132) (dT U_X11_gate 54 rfl) (by decide) (by decide) ?_
                  refine x_aload_n (dT U_X11_gate 55 rfl) rfl ?_
                  refine x_aload_n (dT U_X11_gate 56 rfl) rfl ?_
                  refine x_getfield F_X11_140 (dT U_X11_gate 57 rfl) w2.c70 (Nat.le_of_ble_eq_true rfl) rfl ?_
                  refine x_bipush (dT U_X11_gate 58 rfl) (by decide) ?_
                  have gn := v.G.1
                  obtain ⟨gl1, gl2, gl3, gl4⟩ := v.G.2.1
                  refine x_icmp_ge (tgt := 124) (dT U_X11_gate 59 rfl) (by decide) (by unfold xr; omega) (by unfold xr; omega) (fun c117 => ?_) (fun c117 => ?_)
                  · skip
                    refine x_iconst (dT U_X11_gate 62 rfl) ?_
                    refine x_iconst (dT U_X11_gate 63 rfl) ?_
                    refine x_invokevirtual (rc' := rc) (rs' := rs) (rc2 := 0) (rs2 := 0) (As := [_, _]) (st := _) M_X11_lets K_X11_167 (dT U_X11_gate 64 rfl) rfl rfl (by decide) rfl rfl w2.c70 (Nat.le_of_ble_eq_true rfl) (by decide) rfl (Nat.le_of_ble_eq_true rfl) rfl (by decide) (Nat.le_of_ble_eq_true rfl) rfl rfl ?_
                    refine S_X11_lets0 w2 (fun h3 g3 w3 => ?_)
                    refine xRet_some ?_
                    refine x_if_nen (tgt := 134) (dT U_X11_gate 65 rfl) (by decide) (by decide) ?_
                    refine x_iconst (dT U_X11_gate 66 rfl) ?_
                    refine x_ireturn (dT U_X11_gate 67 rfl) rfl ?_
                    exact e3 (by omega) (by omega) (by omega) _ _ (Ag.tr (Ag.tr (Ag.tr (Ag.rf 70 142 h) (g1.w (by omega))) (g2.w (by omega))) (g3.w (by omega))) w3 (by unfold xr; omega)
                  · skip
                    refine x_iconst (dT U_X11_gate 60 rfl) ?_
                    refine x_goto (tgt := 125) (dT U_X11_gate 61 rfl) (by decide) ?_
                    refine x_iconst (dT U_X11_gate 63 rfl) ?_
                    refine x_invokevirtual (rc' := rc) (rs' := rs) (rc2 := 0) (rs2 := 0) (As := [_, _]) (st := _) M_X11_lets K_X11_167 (dT U_X11_gate 64 rfl) rfl rfl (by decide) rfl rfl w2.c70 (Nat.le_of_ble_eq_true rfl) (by decide) rfl (Nat.le_of_ble_eq_true rfl) rfl (by decide) (Nat.le_of_ble_eq_true rfl) rfl rfl ?_
                    refine S_X11_lets1 w2 (fun h3 g3 w3 => ?_)
                    refine xRet_some ?_
                    refine x_if_nej (tgt := 134) (dT U_X11_gate 65 rfl) (by decide) (by decide) ?_
                    refine x_aload_n (dT U_X11_gate 68 rfl) rfl ?_
                    refine x_getfield F_X11_85 (dT U_X11_gate 69 rfl) w3.c70 (Nat.le_of_ble_eq_true rfl) rfl ?_
                    refine x_aload_n (dT U_X11_gate 70 rfl) rfl ?_
                    refine x_getfield F_X11_140 (dT U_X11_gate 71 rfl) w3.c70 (Nat.le_of_ble_eq_true rfl) rfl ?_
                    refine x_aaload (σ.G.n) (dT U_X11_gate 72 rfl) w3.c124 (Nat.le_of_ble_eq_true rfl) (by decide) rfl (mgL_get (by omega)) (Nat.le_of_ble_eq_true rfl) ?_
                    refine x_iconst (dT U_X11_gate 73 rfl) ?_
                    refine x_iload_n (dT U_X11_gate 74 rfl) rfl ?_
                    refine x_iastore (0) (dT U_X11_gate 75 rfl) (w3.gates σ.G.n (by omega)) (by omega) rfl (show 0 < 4 by omega) (show 4 < 2147483648 by decide) ?_
                    refine x_aload_n (dT U_X11_gate 76 rfl) rfl ?_
                    refine x_getfield F_X11_85 (dT U_X11_gate 77 rfl) (hset_ne (by omega) (w3.c70)) (Nat.le_of_ble_eq_true rfl) rfl ?_
                    refine x_aload_n (dT U_X11_gate 78 rfl) rfl ?_
                    refine x_getfield F_X11_140 (dT U_X11_gate 79 rfl) (hset_ne (by omega) (w3.c70)) (Nat.le_of_ble_eq_true rfl) rfl ?_
                    refine x_aaload (σ.G.n) (dT U_X11_gate 80 rfl) (hset_ne (by omega) (w3.c124)) (Nat.le_of_ble_eq_true rfl) (by decide) rfl (mgL_get (by omega)) (Nat.le_of_ble_eq_true rfl) ?_
                    refine x_iconst (dT U_X11_gate 81 rfl) ?_
                    refine x_iload_n (dT U_X11_gate 82 rfl) rfl ?_
                    refine x_iastore (1) (dT U_X11_gate 83 rfl) (hset_eq (w3.gates σ.G.n (by omega))) (by omega) rfl (show 1 < 4 by omega) (show 4 < 2147483648 by decide) ?_
                    rw [List.set_set]
                    refine x_aload_n (dT U_X11_gate 84 rfl) rfl ?_
                    refine x_getfield F_X11_85 (dT U_X11_gate 85 rfl) (hset_ne (by omega) (w3.c70)) (Nat.le_of_ble_eq_true rfl) rfl ?_
                    refine x_aload_n (dT U_X11_gate 86 rfl) rfl ?_
                    refine x_getfield F_X11_140 (dT U_X11_gate 87 rfl) (hset_ne (by omega) (w3.c70)) (Nat.le_of_ble_eq_true rfl) rfl ?_
                    refine x_aaload (σ.G.n) (dT U_X11_gate 88 rfl) (hset_ne (by omega) (w3.c124)) (Nat.le_of_ble_eq_true rfl) (by decide) rfl (mgL_get (by omega)) (Nat.le_of_ble_eq_true rfl) ?_
                    refine x_iconst (dT U_X11_gate 89 rfl) ?_
                    refine x_iload_n (dT U_X11_gate 90 rfl) rfl ?_
                    refine x_iastore (2) (dT U_X11_gate 91 rfl) (hset_eq (w3.gates σ.G.n (by omega))) (by omega) rfl (show 2 < 4 by omega) (show 4 < 2147483648 by decide) ?_
                    rw [List.set_set]
                    refine x_aload_n (dT U_X11_gate 92 rfl) rfl ?_
                    refine x_getfield F_X11_85 (dT U_X11_gate 93 rfl) (hset_ne (by omega) (w3.c70)) (Nat.le_of_ble_eq_true rfl) rfl ?_
                    refine x_aload_n (dT U_X11_gate 94 rfl) rfl ?_
                    refine x_getfield F_X11_140 (dT U_X11_gate 95 rfl) (hset_ne (by omega) (w3.c70)) (Nat.le_of_ble_eq_true rfl) rfl ?_
                    refine x_aaload (σ.G.n) (dT U_X11_gate 96 rfl) (hset_ne (by omega) (w3.c124)) (Nat.le_of_ble_eq_true rfl) (by decide) rfl (mgL_get (by omega)) (Nat.le_of_ble_eq_true rfl) ?_
                    refine x_iconst (dT U_X11_gate 97 rfl) ?_
                    refine x_iload (dT U_X11_gate 98 rfl) rfl ?_
                    refine x_iastore (3) (dT U_X11_gate 99 rfl) (hset_eq (w3.gates σ.G.n (by omega))) (by omega) rfl (show 3 < 4 by omega) (show 4 < 2147483648 by decide) ?_
                    rw [List.set_set]
                    refine x_aload_n (dT U_X11_gate 100 rfl) rfl ?_
                    refine x_dup (dT U_X11_gate 101 rfl) rfl ?_
                    refine x_getfield F_X11_140 (dT U_X11_gate 102 rfl) (hset_ne (by omega) (w3.c70)) (Nat.le_of_ble_eq_true rfl) rfl ?_
                    refine x_iconst (dT U_X11_gate 103 rfl) ?_
                    refine x_iadd (dT U_X11_gate 104 rfl) ?_
                    refine x_putfield F_X11_140 (dT U_X11_gate 105 rfl) (hset_ne (by omega) (w3.c70)) (Nat.le_of_ble_eq_true rfl) (Nat.le_of_ble_eq_true rfl) rfl rfl ?_
                    change X G _ _ _ _ _ _ _ _ (List.set _ 70 (mC 0 σ.p (σ.G.n + 1) σ.g.b rr σ.g.c ss σ.g.z σ.g.o σ.L.n)) _
                    refine x_aload_n (dT U_X11_gate 106 rfl) rfl ?_
                    refine x_getfield F_X11_140 (dT U_X11_gate 107 rfl) (hset_eq (hset_ne (by omega) (w3.c70))) (Nat.le_of_ble_eq_true rfl) rfl ?_
                    refine x_ireturn (dT U_X11_gate 108 rfl) rfl ?_
                    exact k (by omega) (by omega) (by omega) _ _ _ (((Ag.tr (Ag.tr (Ag.tr (Ag.rf 70 142 h) (g1.w (by omega))) (g2.w (by omega))) (g3.w (by omega))).set (by omega)).set (by omega)) (w3.gate (G := (σ.G.n + 1, σ.G.k.set σ.G.n kind, σ.G.a.set σ.G.n a, σ.G.b.set σ.G.n b, σ.G.c.set σ.G.n c)) (fun a9 ha => by rw [hset_fr (by omega), hset_fr (by omega)]) (hset_eq (hset_ne (by omega) (w3.c70))) (fun j hj => by
                        by_cases e : j = σ.G.n
                        · subst e
                          show _ = some (cA 0 [(σ.G.k.set σ.G.n kind).getD σ.G.n 0, (σ.G.a.set σ.G.n a).getD σ.G.n 0, (σ.G.b.set σ.G.n b).getD σ.G.n 0, (σ.G.c.set σ.G.n c).getD σ.G.n 0])
                          rw [gset_e (by omega), gset_e (by omega), gset_e (by omega), gset_e (by omega)]
                          exact hset_ne (by omega) (hset_eq (w3.gates σ.G.n hj))
                        · show _ = some (cA 0 [(σ.G.k.set σ.G.n kind).getD j 0, (σ.G.a.set σ.G.n a).getD j 0, (σ.G.b.set σ.G.n b).getD j 0, (σ.G.c.set σ.G.n c).getD j 0])
                          rw [gset_n e, gset_n e, gset_n e, gset_n e]
                          exact hset_ne (by omega) (hset_ne (by omega) (w3.gates j hj))))
                · refine xRet_some ?_
                  refine x_if_eqj (tgt := 102) (dT U_X11_gate 48 rfl) (by decide) (by decide) ?_
                  refine x_iconst (dT U_X11_gate 51 rfl) ?_
                  refine x_iconst (dT U_X11_gate 52 rfl) ?_
                  refine x_invokevirtual (rc' := rc) (rs' := rs) (rc2 := 0) (rs2 := 0) (As := [_, _]) (st := _) M_X11_lets K_X11_167 (dT U_X11_gate 53 rfl) rfl rfl (by decide) rfl rfl w1.c70 (Nat.le_of_ble_eq_true rfl) (by decide) rfl (Nat.le_of_ble_eq_true rfl) rfl (by decide) (Nat.le_of_ble_eq_true rfl) rfl rfl ?_
                  refine S_X11_lets0 w1 (fun h2 g2 w2 => ?_)
                  refine xRet_some ?_
                  refine x_if_eqj (tgt := 132) (dT U_X11_gate 54 rfl) (by decide) (by decide) ?_
                  refine x_iconst (dT U_X11_gate 66 rfl) ?_
                  refine x_ireturn (dT U_X11_gate 67 rfl) rfl ?_
                  exact e2 (by omega) (by omega) _ _ (Ag.tr (Ag.tr (Ag.rf 70 142 h) (g1.w (by omega))) (g2.w (by omega))) w2 (by unfold xr; omega)
            · refine xRet_some ?_
              refine x_if_eqj (tgt := 102) (dT U_X11_gate 41 rfl) (by decide) (by decide) ?_
              refine x_iconst (dT U_X11_gate 51 rfl) ?_
              refine x_iconst (dT U_X11_gate 52 rfl) ?_
              refine x_invokevirtual (rc' := rc) (rs' := rs) (rc2 := 0) (rs2 := 0) (As := [_, _]) (st := _) M_X11_lets K_X11_167 (dT U_X11_gate 53 rfl) rfl rfl (by decide) rfl rfl w1.c70 (Nat.le_of_ble_eq_true rfl) (by decide) rfl (Nat.le_of_ble_eq_true rfl) rfl (by decide) (Nat.le_of_ble_eq_true rfl) rfl rfl ?_
              refine S_X11_lets0 w1 (fun h2 g2 w2 => ?_)
              refine xRet_some ?_
              refine x_if_eqj (tgt := 132) (dT U_X11_gate 54 rfl) (by decide) (by decide) ?_
              refine x_iconst (dT U_X11_gate 66 rfl) ?_
              refine x_ireturn (dT U_X11_gate 67 rfl) rfl ?_
              exact e2 (by omega) (by omega) _ _ (Ag.tr (Ag.tr (Ag.rf 70 142 h) (g1.w (by omega))) (g2.w (by omega))) w2 (by unfold xr; omega)
          · refine xRet_some ?_
            refine x_if_eqj (tgt := 63) (dT U_X11_gate 27 rfl) (by decide) (by decide) ?_
            refine x_iconst (dT U_X11_gate 30 rfl) ?_
            refine x_istore (ls' := [some (.ref _), some (vi _), some (vi _), some (vi _), some (vi _), some (vi _)]) (dT U_X11_gate 31 rfl) (by decide) rfl ?_
            refine x_aload_n (dT U_X11_gate 32 rfl) rfl ?_
            refine x_iload (dT U_X11_gate 33 rfl) rfl ?_
            refine x_iconst (dT U_X11_gate 34 rfl) ?_
            refine x_invokevirtual (rc' := rc) (rs' := rs) (rc2 := 0) (rs2 := 0) (As := [_, _]) (st := _) M_X11_lets K_X11_167 (dT U_X11_gate 35 rfl) rfl rfl (by decide) rfl rfl w.c70 (Nat.le_of_ble_eq_true rfl) (by decide) rfl (Nat.le_of_ble_eq_true rfl) rfl (by decide) (Nat.le_of_ble_eq_true rfl) rfl rfl ?_
            refine S_X11_lets0 w (fun h1 g1 w1 => ?_)
            refine xRet_some ?_
            refine x_if_eqj (tgt := 132) (dT U_X11_gate 36 rfl) (by decide) (by decide) ?_
            refine x_iconst (dT U_X11_gate 66 rfl) ?_
            refine x_ireturn (dT U_X11_gate 67 rfl) rfl ?_
            exact e1 (by omega) _ _ (Ag.tr (Ag.rf 70 142 h) (g1.w (by omega))) w1 (by unfold xr; omega)
      · skip
        refine x_iload (dT U_X11_gate 8 rfl) rfl ?_
        refine x_if_eqn (tgt := 39) (dT U_X11_gate 9 rfl) (by decide) (by decide) ?_
        refine x_iload_n (dT U_X11_gate 10 rfl) rfl ?_
        refine x_invokestatic (rc' := rc) (rs' := rs) (rc2 := 0) (rs2 := 0) (As := [_]) (st := _) M_X11_isRow K_X11_164 (dT U_X11_gate 11 rfl) rfl rfl rfl rfl (Nat.le_of_ble_eq_true rfl) rfl (by decide) (Nat.le_of_ble_eq_true rfl) rfl rfl ?_
        refine S_X11_isRow h_b (fun q2 => ?_) (fun q2 => ?_)
        · refine xRet_some ?_
          refine x_if_eqn (tgt := 39) (dT U_X11_gate 12 rfl) (by decide) (by decide) ?_
          refine x_iload (dT U_X11_gate 13 rfl) rfl ?_
          refine x_invokestatic (rc' := rc) (rs' := rs) (rc2 := 0) (rs2 := 0) (As := [_]) (st := _) M_X11_isRow K_X11_164 (dT U_X11_gate 14 rfl) rfl rfl rfl rfl (Nat.le_of_ble_eq_true rfl) rfl (by decide) (Nat.le_of_ble_eq_true rfl) rfl rfl ?_
          refine S_X11_isRow h_c (fun q3 => ?_) (fun q3 => ?_)
          · refine xRet_some ?_
            refine x_if_eqn (tgt := 39) (dT U_X11_gate 15 rfl) (by decide) (by decide) ?_
            refine x_iconst (dT U_X11_gate 16 rfl) ?_
            refine x_goto (tgt := 40) (dT U_X11_gate 17 rfl) (by decide) ?_
            refine x_istore (ls' := [some (.ref _), some (vi _), some (vi _), some (vi _), some (vi _), some (vi _)]) (dT U_X11_gate 19 rfl) (by decide) rfl ?_
            refine x_iload_n (dT U_X11_gate 20 rfl) rfl ?_
            refine x_iconst (dT U_X11_gate 21 rfl) ?_
            refine x_icmp_ne (tgt := 66) (dT U_X11_gate 22 rfl) (by decide) h_kind (by unfold xr; omega) (fun c44 => ?_) (fun c44 => ?_)
            · skip
              refine x_aload_n (dT U_X11_gate 32 rfl) rfl ?_
              refine x_iload (dT U_X11_gate 33 rfl) rfl ?_
              refine x_iconst (dT U_X11_gate 34 rfl) ?_
              refine x_invokevirtual (rc' := rc) (rs' := rs) (rc2 := 0) (rs2 := 0) (As := [_, _]) (st := _) M_X11_lets K_X11_167 (dT U_X11_gate 35 rfl) rfl rfl (by decide) rfl rfl w.c70 (Nat.le_of_ble_eq_true rfl) (by decide) rfl (Nat.le_of_ble_eq_true rfl) rfl (by decide) (Nat.le_of_ble_eq_true rfl) rfl rfl ?_
              refine S_X11_lets1 w (fun h1 g1 w1 => ?_)
              refine xRet_some ?_
              refine x_if_eqn (tgt := 132) (dT U_X11_gate 36 rfl) (by decide) (by decide) ?_
              refine x_aload_n (dT U_X11_gate 37 rfl) rfl ?_
              refine x_iload_n (dT U_X11_gate 38 rfl) rfl ?_
              refine x_iconst (dT U_X11_gate 39 rfl) ?_
              refine x_invokestatic (rc' := rc) (rs' := rs) (rc2 := 0) (rs2 := 0) (As := [_, _]) (st := _) M_X11_in K_X11_126 (dT U_X11_gate 40 rfl) rfl rfl rfl rfl (Nat.le_of_ble_eq_true rfl) rfl (by decide) (Nat.le_of_ble_eq_true rfl) rfl rfl ?_
              refine S_X11_in h_kind (by unfold xr; omega) (fun q4 => ?_) (fun q4 => ?_)
              · refine xRet_some ?_
                refine x_if_eqn (tgt := 102) (dT U_X11_gate 41 rfl) (by decide) (by decide) ?_
                refine x_iload_n (dT U_X11_gate 42 rfl) rfl ?_
                refine x_iconst (dT U_X11_gate 43 rfl) ?_
                refine x_icmp_ne (tgt := 98) (dT U_X11_gate 44 rfl) (by decide) h_kind (by unfold xr; omega) (fun c87 => ?_) (fun c87 => ?_)
                · skip
                  refine x_iconst (dT U_X11_gate 49 rfl) ?_
                  refine x_goto (tgt := 103) (dT U_X11_gate 50 rfl) (by decide) ?_
                  refine x_iconst (dT U_X11_gate 52 rfl) ?_
                  refine x_invokevirtual (rc' := rc) (rs' := rs) (rc2 := 0) (rs2 := 0) (As := [_, _]) (st := _) M_X11_lets K_X11_167 (dT U_X11_gate 53 rfl) rfl rfl (by decide) rfl rfl w1.c70 (Nat.le_of_ble_eq_true rfl) (by decide) rfl (Nat.le_of_ble_eq_true rfl) rfl (by decide) (Nat.le_of_ble_eq_true rfl) rfl rfl ?_
                  refine S_X11_lets1 w1 (fun h2 g2 w2 => ?_)
                  refine xRet_some ?_
                  refine x_if_eqn (tgt := 132) (dT U_X11_gate 54 rfl) (by decide) (by decide) ?_
                  refine x_aload_n (dT U_X11_gate 55 rfl) rfl ?_
                  refine x_aload_n (dT U_X11_gate 56 rfl) rfl ?_
                  refine x_getfield F_X11_140 (dT U_X11_gate 57 rfl) w2.c70 (Nat.le_of_ble_eq_true rfl) rfl ?_
                  refine x_bipush (dT U_X11_gate 58 rfl) (by decide) ?_
                  have gn := v.G.1
                  obtain ⟨gl1, gl2, gl3, gl4⟩ := v.G.2.1
                  refine x_icmp_ge (tgt := 124) (dT U_X11_gate 59 rfl) (by decide) (by unfold xr; omega) (by unfold xr; omega) (fun c117 => ?_) (fun c117 => ?_)
                  · skip
                    refine x_iconst (dT U_X11_gate 62 rfl) ?_
                    refine x_iconst (dT U_X11_gate 63 rfl) ?_
                    refine x_invokevirtual (rc' := rc) (rs' := rs) (rc2 := 0) (rs2 := 0) (As := [_, _]) (st := _) M_X11_lets K_X11_167 (dT U_X11_gate 64 rfl) rfl rfl (by decide) rfl rfl w2.c70 (Nat.le_of_ble_eq_true rfl) (by decide) rfl (Nat.le_of_ble_eq_true rfl) rfl (by decide) (Nat.le_of_ble_eq_true rfl) rfl rfl ?_
                    refine S_X11_lets0 w2 (fun h3 g3 w3 => ?_)
                    refine xRet_some ?_
                    refine x_if_nen (tgt := 134) (dT U_X11_gate 65 rfl) (by decide) (by decide) ?_
                    refine x_iconst (dT U_X11_gate 66 rfl) ?_
                    refine x_ireturn (dT U_X11_gate 67 rfl) rfl ?_
                    exact e3 (by omega) (by omega) (by omega) _ _ (Ag.tr (Ag.tr (Ag.tr (Ag.rf 70 142 h) (g1.w (by omega))) (g2.w (by omega))) (g3.w (by omega))) w3 (by unfold xr; omega)
                  · skip
                    refine x_iconst (dT U_X11_gate 60 rfl) ?_
                    refine x_goto (tgt := 125) (dT U_X11_gate 61 rfl) (by decide) ?_
                    refine x_iconst (dT U_X11_gate 63 rfl) ?_
                    refine x_invokevirtual (rc' := rc) (rs' := rs) (rc2 := 0) (rs2 := 0) (As := [_, _]) (st := _) M_X11_lets K_X11_167 (dT U_X11_gate 64 rfl) rfl rfl (by decide) rfl rfl w2.c70 (Nat.le_of_ble_eq_true rfl) (by decide) rfl (Nat.le_of_ble_eq_true rfl) rfl (by decide) (Nat.le_of_ble_eq_true rfl) rfl rfl ?_
                    refine S_X11_lets1 w2 (fun h3 g3 w3 => ?_)
                    refine xRet_some ?_
                    refine x_if_nej (tgt := 134) (dT U_X11_gate 65 rfl) (by decide) (by decide) ?_
                    refine x_aload_n (dT U_X11_gate 68 rfl) rfl ?_
                    refine x_getfield F_X11_85 (dT U_X11_gate 69 rfl) w3.c70 (Nat.le_of_ble_eq_true rfl) rfl ?_
                    refine x_aload_n (dT U_X11_gate 70 rfl) rfl ?_
                    refine x_getfield F_X11_140 (dT U_X11_gate 71 rfl) w3.c70 (Nat.le_of_ble_eq_true rfl) rfl ?_
                    refine x_aaload (σ.G.n) (dT U_X11_gate 72 rfl) w3.c124 (Nat.le_of_ble_eq_true rfl) (by decide) rfl (mgL_get (by omega)) (Nat.le_of_ble_eq_true rfl) ?_
                    refine x_iconst (dT U_X11_gate 73 rfl) ?_
                    refine x_iload_n (dT U_X11_gate 74 rfl) rfl ?_
                    refine x_iastore (0) (dT U_X11_gate 75 rfl) (w3.gates σ.G.n (by omega)) (by omega) rfl (show 0 < 4 by omega) (show 4 < 2147483648 by decide) ?_
                    refine x_aload_n (dT U_X11_gate 76 rfl) rfl ?_
                    refine x_getfield F_X11_85 (dT U_X11_gate 77 rfl) (hset_ne (by omega) (w3.c70)) (Nat.le_of_ble_eq_true rfl) rfl ?_
                    refine x_aload_n (dT U_X11_gate 78 rfl) rfl ?_
                    refine x_getfield F_X11_140 (dT U_X11_gate 79 rfl) (hset_ne (by omega) (w3.c70)) (Nat.le_of_ble_eq_true rfl) rfl ?_
                    refine x_aaload (σ.G.n) (dT U_X11_gate 80 rfl) (hset_ne (by omega) (w3.c124)) (Nat.le_of_ble_eq_true rfl) (by decide) rfl (mgL_get (by omega)) (Nat.le_of_ble_eq_true rfl) ?_
                    refine x_iconst (dT U_X11_gate 81 rfl) ?_
                    refine x_iload_n (dT U_X11_gate 82 rfl) rfl ?_
                    refine x_iastore (1) (dT U_X11_gate 83 rfl) (hset_eq (w3.gates σ.G.n (by omega))) (by omega) rfl (show 1 < 4 by omega) (show 4 < 2147483648 by decide) ?_
                    rw [List.set_set]
                    refine x_aload_n (dT U_X11_gate 84 rfl) rfl ?_
                    refine x_getfield F_X11_85 (dT U_X11_gate 85 rfl) (hset_ne (by omega) (w3.c70)) (Nat.le_of_ble_eq_true rfl) rfl ?_
                    refine x_aload_n (dT U_X11_gate 86 rfl) rfl ?_
                    refine x_getfield F_X11_140 (dT U_X11_gate 87 rfl) (hset_ne (by omega) (w3.c70)) (Nat.le_of_ble_eq_true rfl) rfl ?_
                    refine x_aaload (σ.G.n) (dT U_X11_gate 88 rfl) (hset_ne (by omega) (w3.c124)) (Nat.le_of_ble_eq_true rfl) (by decide) rfl (mgL_get (by omega)) (Nat.le_of_ble_eq_true rfl) ?_
                    refine x_iconst (dT U_X11_gate 89 rfl) ?_
                    refine x_iload_n (dT U_X11_gate 90 rfl) rfl ?_
                    refine x_iastore (2) (dT U_X11_gate 91 rfl) (hset_eq (w3.gates σ.G.n (by omega))) (by omega) rfl (show 2 < 4 by omega) (show 4 < 2147483648 by decide) ?_
                    rw [List.set_set]
                    refine x_aload_n (dT U_X11_gate 92 rfl) rfl ?_
                    refine x_getfield F_X11_85 (dT U_X11_gate 93 rfl) (hset_ne (by omega) (w3.c70)) (Nat.le_of_ble_eq_true rfl) rfl ?_
                    refine x_aload_n (dT U_X11_gate 94 rfl) rfl ?_
                    refine x_getfield F_X11_140 (dT U_X11_gate 95 rfl) (hset_ne (by omega) (w3.c70)) (Nat.le_of_ble_eq_true rfl) rfl ?_
                    refine x_aaload (σ.G.n) (dT U_X11_gate 96 rfl) (hset_ne (by omega) (w3.c124)) (Nat.le_of_ble_eq_true rfl) (by decide) rfl (mgL_get (by omega)) (Nat.le_of_ble_eq_true rfl) ?_
                    refine x_iconst (dT U_X11_gate 97 rfl) ?_
                    refine x_iload (dT U_X11_gate 98 rfl) rfl ?_
                    refine x_iastore (3) (dT U_X11_gate 99 rfl) (hset_eq (w3.gates σ.G.n (by omega))) (by omega) rfl (show 3 < 4 by omega) (show 4 < 2147483648 by decide) ?_
                    rw [List.set_set]
                    refine x_aload_n (dT U_X11_gate 100 rfl) rfl ?_
                    refine x_dup (dT U_X11_gate 101 rfl) rfl ?_
                    refine x_getfield F_X11_140 (dT U_X11_gate 102 rfl) (hset_ne (by omega) (w3.c70)) (Nat.le_of_ble_eq_true rfl) rfl ?_
                    refine x_iconst (dT U_X11_gate 103 rfl) ?_
                    refine x_iadd (dT U_X11_gate 104 rfl) ?_
                    refine x_putfield F_X11_140 (dT U_X11_gate 105 rfl) (hset_ne (by omega) (w3.c70)) (Nat.le_of_ble_eq_true rfl) (Nat.le_of_ble_eq_true rfl) rfl rfl ?_
                    change X G _ _ _ _ _ _ _ _ (List.set _ 70 (mC 0 σ.p (σ.G.n + 1) σ.g.b rr σ.g.c ss σ.g.z σ.g.o σ.L.n)) _
                    refine x_aload_n (dT U_X11_gate 106 rfl) rfl ?_
                    refine x_getfield F_X11_140 (dT U_X11_gate 107 rfl) (hset_eq (hset_ne (by omega) (w3.c70))) (Nat.le_of_ble_eq_true rfl) rfl ?_
                    refine x_ireturn (dT U_X11_gate 108 rfl) rfl ?_
                    exact k (by omega) (by omega) (by omega) _ _ _ (((Ag.tr (Ag.tr (Ag.tr (Ag.rf 70 142 h) (g1.w (by omega))) (g2.w (by omega))) (g3.w (by omega))).set (by omega)).set (by omega)) (w3.gate (G := (σ.G.n + 1, σ.G.k.set σ.G.n kind, σ.G.a.set σ.G.n a, σ.G.b.set σ.G.n b, σ.G.c.set σ.G.n c)) (fun a9 ha => by rw [hset_fr (by omega), hset_fr (by omega)]) (hset_eq (hset_ne (by omega) (w3.c70))) (fun j hj => by
                        by_cases e : j = σ.G.n
                        · subst e
                          show _ = some (cA 0 [(σ.G.k.set σ.G.n kind).getD σ.G.n 0, (σ.G.a.set σ.G.n a).getD σ.G.n 0, (σ.G.b.set σ.G.n b).getD σ.G.n 0, (σ.G.c.set σ.G.n c).getD σ.G.n 0])
                          rw [gset_e (by omega), gset_e (by omega), gset_e (by omega), gset_e (by omega)]
                          exact hset_ne (by omega) (hset_eq (w3.gates σ.G.n hj))
                        · show _ = some (cA 0 [(σ.G.k.set σ.G.n kind).getD j 0, (σ.G.a.set σ.G.n a).getD j 0, (σ.G.b.set σ.G.n b).getD j 0, (σ.G.c.set σ.G.n c).getD j 0])
                          rw [gset_n e, gset_n e, gset_n e, gset_n e]
                          exact hset_ne (by omega) (hset_ne (by omega) (w3.gates j hj))))
                · skip
                  refine x_aload_n (dT U_X11_gate 45 rfl) rfl ?_
                  refine x_iload_n (dT U_X11_gate 46 rfl) rfl ?_
                  refine x_invokevirtual (rc' := rc) (rs' := rs) (rc2 := 0) (rs2 := 0) (As := [_]) (st := _) M_X11_isNumber K_X11_174 (dT U_X11_gate 47 rfl) rfl rfl (by decide) rfl rfl w1.c70 (Nat.le_of_ble_eq_true rfl) (by decide) rfl (Nat.le_of_ble_eq_true rfl) rfl (by decide) (Nat.le_of_ble_eq_true rfl) rfl rfl ?_
                  refine S_X11_isNumber (w1.mp) v.p h_b (fun q5 => ?_) (fun q5 => ?_)
                  · refine xRet_some ?_
                    refine x_if_eqn (tgt := 102) (dT U_X11_gate 48 rfl) (by decide) (by decide) ?_
                    refine x_iconst (dT U_X11_gate 49 rfl) ?_
                    refine x_goto (tgt := 103) (dT U_X11_gate 50 rfl) (by decide) ?_
                    refine x_iconst (dT U_X11_gate 52 rfl) ?_
                    refine x_invokevirtual (rc' := rc) (rs' := rs) (rc2 := 0) (rs2 := 0) (As := [_, _]) (st := _) M_X11_lets K_X11_167 (dT U_X11_gate 53 rfl) rfl rfl (by decide) rfl rfl w1.c70 (Nat.le_of_ble_eq_true rfl) (by decide) rfl (Nat.le_of_ble_eq_true rfl) rfl (by decide) (Nat.le_of_ble_eq_true rfl) rfl rfl ?_
                    refine S_X11_lets1 w1 (fun h2 g2 w2 => ?_)
                    refine xRet_some ?_
                    refine x_if_eqn (tgt := 132) (dT U_X11_gate 54 rfl) (by decide) (by decide) ?_
                    refine x_aload_n (dT U_X11_gate 55 rfl) rfl ?_
                    refine x_aload_n (dT U_X11_gate 56 rfl) rfl ?_
                    refine x_getfield F_X11_140 (dT U_X11_gate 57 rfl) w2.c70 (Nat.le_of_ble_eq_true rfl) rfl ?_
                    refine x_bipush (dT U_X11_gate 58 rfl) (by decide) ?_
                    have gn := v.G.1
                    obtain ⟨gl1, gl2, gl3, gl4⟩ := v.G.2.1
                    refine x_icmp_ge (tgt := 124) (dT U_X11_gate 59 rfl) (by decide) (by unfold xr; omega) (by unfold xr; omega) (fun c117 => ?_) (fun c117 => ?_)
                    · skip
                      refine x_iconst (dT U_X11_gate 62 rfl) ?_
                      refine x_iconst (dT U_X11_gate 63 rfl) ?_
                      refine x_invokevirtual (rc' := rc) (rs' := rs) (rc2 := 0) (rs2 := 0) (As := [_, _]) (st := _) M_X11_lets K_X11_167 (dT U_X11_gate 64 rfl) rfl rfl (by decide) rfl rfl w2.c70 (Nat.le_of_ble_eq_true rfl) (by decide) rfl (Nat.le_of_ble_eq_true rfl) rfl (by decide) (Nat.le_of_ble_eq_true rfl) rfl rfl ?_
                      refine S_X11_lets0 w2 (fun h3 g3 w3 => ?_)
                      refine xRet_some ?_
                      refine x_if_nen (tgt := 134) (dT U_X11_gate 65 rfl) (by decide) (by decide) ?_
                      refine x_iconst (dT U_X11_gate 66 rfl) ?_
                      refine x_ireturn (dT U_X11_gate 67 rfl) rfl ?_
                      exact e3 (by omega) (by omega) (by omega) _ _ (Ag.tr (Ag.tr (Ag.tr (Ag.rf 70 142 h) (g1.w (by omega))) (g2.w (by omega))) (g3.w (by omega))) w3 (by unfold xr; omega)
                    · skip
                      refine x_iconst (dT U_X11_gate 60 rfl) ?_
                      refine x_goto (tgt := 125) (dT U_X11_gate 61 rfl) (by decide) ?_
                      refine x_iconst (dT U_X11_gate 63 rfl) ?_
                      refine x_invokevirtual (rc' := rc) (rs' := rs) (rc2 := 0) (rs2 := 0) (As := [_, _]) (st := _) M_X11_lets K_X11_167 (dT U_X11_gate 64 rfl) rfl rfl (by decide) rfl rfl w2.c70 (Nat.le_of_ble_eq_true rfl) (by decide) rfl (Nat.le_of_ble_eq_true rfl) rfl (by decide) (Nat.le_of_ble_eq_true rfl) rfl rfl ?_
                      refine S_X11_lets1 w2 (fun h3 g3 w3 => ?_)
                      refine xRet_some ?_
                      refine x_if_nej (tgt := 134) (dT U_X11_gate 65 rfl) (by decide) (by decide) ?_
                      refine x_aload_n (dT U_X11_gate 68 rfl) rfl ?_
                      refine x_getfield F_X11_85 (dT U_X11_gate 69 rfl) w3.c70 (Nat.le_of_ble_eq_true rfl) rfl ?_
                      refine x_aload_n (dT U_X11_gate 70 rfl) rfl ?_
                      refine x_getfield F_X11_140 (dT U_X11_gate 71 rfl) w3.c70 (Nat.le_of_ble_eq_true rfl) rfl ?_
                      refine x_aaload (σ.G.n) (dT U_X11_gate 72 rfl) w3.c124 (Nat.le_of_ble_eq_true rfl) (by decide) rfl (mgL_get (by omega)) (Nat.le_of_ble_eq_true rfl) ?_
                      refine x_iconst (dT U_X11_gate 73 rfl) ?_
                      refine x_iload_n (dT U_X11_gate 74 rfl) rfl ?_
                      refine x_iastore (0) (dT U_X11_gate 75 rfl) (w3.gates σ.G.n (by omega)) (by omega) rfl (show 0 < 4 by omega) (show 4 < 2147483648 by decide) ?_
                      refine x_aload_n (dT U_X11_gate 76 rfl) rfl ?_
                      refine x_getfield F_X11_85 (dT U_X11_gate 77 rfl) (hset_ne (by omega) (w3.c70)) (Nat.le_of_ble_eq_true rfl) rfl ?_
                      refine x_aload_n (dT U_X11_gate 78 rfl) rfl ?_
                      refine x_getfield F_X11_140 (dT U_X11_gate 79 rfl) (hset_ne (by omega) (w3.c70)) (Nat.le_of_ble_eq_true rfl) rfl ?_
                      refine x_aaload (σ.G.n) (dT U_X11_gate 80 rfl) (hset_ne (by omega) (w3.c124)) (Nat.le_of_ble_eq_true rfl) (by decide) rfl (mgL_get (by omega)) (Nat.le_of_ble_eq_true rfl) ?_
                      refine x_iconst (dT U_X11_gate 81 rfl) ?_
                      refine x_iload_n (dT U_X11_gate 82 rfl) rfl ?_
                      refine x_iastore (1) (dT U_X11_gate 83 rfl) (hset_eq (w3.gates σ.G.n (by omega))) (by omega) rfl (show 1 < 4 by omega) (show 4 < 2147483648 by decide) ?_
                      rw [List.set_set]
                      refine x_aload_n (dT U_X11_gate 84 rfl) rfl ?_
                      refine x_getfield F_X11_85 (dT U_X11_gate 85 rfl) (hset_ne (by omega) (w3.c70)) (Nat.le_of_ble_eq_true rfl) rfl ?_
                      refine x_aload_n (dT U_X11_gate 86 rfl) rfl ?_
                      refine x_getfield F_X11_140 (dT U_X11_gate 87 rfl) (hset_ne (by omega) (w3.c70)) (Nat.le_of_ble_eq_true rfl) rfl ?_
                      refine x_aaload (σ.G.n) (dT U_X11_gate 88 rfl) (hset_ne (by omega) (w3.c124)) (Nat.le_of_ble_eq_true rfl) (by decide) rfl (mgL_get (by omega)) (Nat.le_of_ble_eq_true rfl) ?_
                      refine x_iconst (dT U_X11_gate 89 rfl) ?_
                      refine x_iload_n (dT U_X11_gate 90 rfl) rfl ?_
                      refine x_iastore (2) (dT U_X11_gate 91 rfl) (hset_eq (w3.gates σ.G.n (by omega))) (by omega) rfl (show 2 < 4 by omega) (show 4 < 2147483648 by decide) ?_
                      rw [List.set_set]
                      refine x_aload_n (dT U_X11_gate 92 rfl) rfl ?_
                      refine x_getfield F_X11_85 (dT U_X11_gate 93 rfl) (hset_ne (by omega) (w3.c70)) (Nat.le_of_ble_eq_true rfl) rfl ?_
                      refine x_aload_n (dT U_X11_gate 94 rfl) rfl ?_
                      refine x_getfield F_X11_140 (dT U_X11_gate 95 rfl) (hset_ne (by omega) (w3.c70)) (Nat.le_of_ble_eq_true rfl) rfl ?_
                      refine x_aaload (σ.G.n) (dT U_X11_gate 96 rfl) (hset_ne (by omega) (w3.c124)) (Nat.le_of_ble_eq_true rfl) (by decide) rfl (mgL_get (by omega)) (Nat.le_of_ble_eq_true rfl) ?_
                      refine x_iconst (dT U_X11_gate 97 rfl) ?_
                      refine x_iload (dT U_X11_gate 98 rfl) rfl ?_
                      refine x_iastore (3) (dT U_X11_gate 99 rfl) (hset_eq (w3.gates σ.G.n (by omega))) (by omega) rfl (show 3 < 4 by omega) (show 4 < 2147483648 by decide) ?_
                      rw [List.set_set]
                      refine x_aload_n (dT U_X11_gate 100 rfl) rfl ?_
                      refine x_dup (dT U_X11_gate 101 rfl) rfl ?_
                      refine x_getfield F_X11_140 (dT U_X11_gate 102 rfl) (hset_ne (by omega) (w3.c70)) (Nat.le_of_ble_eq_true rfl) rfl ?_
                      refine x_iconst (dT U_X11_gate 103 rfl) ?_
                      refine x_iadd (dT U_X11_gate 104 rfl) ?_
                      refine x_putfield F_X11_140 (dT U_X11_gate 105 rfl) (hset_ne (by omega) (w3.c70)) (Nat.le_of_ble_eq_true rfl) (Nat.le_of_ble_eq_true rfl) rfl rfl ?_
                      change X G _ _ _ _ _ _ _ _ (List.set _ 70 (mC 0 σ.p (σ.G.n + 1) σ.g.b rr σ.g.c ss σ.g.z σ.g.o σ.L.n)) _
                      refine x_aload_n (dT U_X11_gate 106 rfl) rfl ?_
                      refine x_getfield F_X11_140 (dT U_X11_gate 107 rfl) (hset_eq (hset_ne (by omega) (w3.c70))) (Nat.le_of_ble_eq_true rfl) rfl ?_
                      refine x_ireturn (dT U_X11_gate 108 rfl) rfl ?_
                      exact k (by omega) (by omega) (by omega) _ _ _ (((Ag.tr (Ag.tr (Ag.tr (Ag.rf 70 142 h) (g1.w (by omega))) (g2.w (by omega))) (g3.w (by omega))).set (by omega)).set (by omega)) (w3.gate (G := (σ.G.n + 1, σ.G.k.set σ.G.n kind, σ.G.a.set σ.G.n a, σ.G.b.set σ.G.n b, σ.G.c.set σ.G.n c)) (fun a9 ha => by rw [hset_fr (by omega), hset_fr (by omega)]) (hset_eq (hset_ne (by omega) (w3.c70))) (fun j hj => by
                          by_cases e : j = σ.G.n
                          · subst e
                            show _ = some (cA 0 [(σ.G.k.set σ.G.n kind).getD σ.G.n 0, (σ.G.a.set σ.G.n a).getD σ.G.n 0, (σ.G.b.set σ.G.n b).getD σ.G.n 0, (σ.G.c.set σ.G.n c).getD σ.G.n 0])
                            rw [gset_e (by omega), gset_e (by omega), gset_e (by omega), gset_e (by omega)]
                            exact hset_ne (by omega) (hset_eq (w3.gates σ.G.n hj))
                          · show _ = some (cA 0 [(σ.G.k.set σ.G.n kind).getD j 0, (σ.G.a.set σ.G.n a).getD j 0, (σ.G.b.set σ.G.n b).getD j 0, (σ.G.c.set σ.G.n c).getD j 0])
                            rw [gset_n e, gset_n e, gset_n e, gset_n e]
                            exact hset_ne (by omega) (hset_ne (by omega) (w3.gates j hj))))
                  · refine xRet_some ?_
                    refine x_if_eqj (tgt := 102) (dT U_X11_gate 48 rfl) (by decide) (by decide) ?_
                    refine x_iconst (dT U_X11_gate 51 rfl) ?_
                    refine x_iconst (dT U_X11_gate 52 rfl) ?_
                    refine x_invokevirtual (rc' := rc) (rs' := rs) (rc2 := 0) (rs2 := 0) (As := [_, _]) (st := _) M_X11_lets K_X11_167 (dT U_X11_gate 53 rfl) rfl rfl (by decide) rfl rfl w1.c70 (Nat.le_of_ble_eq_true rfl) (by decide) rfl (Nat.le_of_ble_eq_true rfl) rfl (by decide) (Nat.le_of_ble_eq_true rfl) rfl rfl ?_
                    refine S_X11_lets0 w1 (fun h2 g2 w2 => ?_)
                    refine xRet_some ?_
                    refine x_if_eqj (tgt := 132) (dT U_X11_gate 54 rfl) (by decide) (by decide) ?_
                    refine x_iconst (dT U_X11_gate 66 rfl) ?_
                    refine x_ireturn (dT U_X11_gate 67 rfl) rfl ?_
                    exact e2 (by omega) (by omega) _ _ (Ag.tr (Ag.tr (Ag.rf 70 142 h) (g1.w (by omega))) (g2.w (by omega))) w2 (by unfold xr; omega)
              · refine xRet_some ?_
                refine x_if_eqj (tgt := 102) (dT U_X11_gate 41 rfl) (by decide) (by decide) ?_
                refine x_iconst (dT U_X11_gate 51 rfl) ?_
                refine x_iconst (dT U_X11_gate 52 rfl) ?_
                refine x_invokevirtual (rc' := rc) (rs' := rs) (rc2 := 0) (rs2 := 0) (As := [_, _]) (st := _) M_X11_lets K_X11_167 (dT U_X11_gate 53 rfl) rfl rfl (by decide) rfl rfl w1.c70 (Nat.le_of_ble_eq_true rfl) (by decide) rfl (Nat.le_of_ble_eq_true rfl) rfl (by decide) (Nat.le_of_ble_eq_true rfl) rfl rfl ?_
                refine S_X11_lets0 w1 (fun h2 g2 w2 => ?_)
                refine xRet_some ?_
                refine x_if_eqj (tgt := 132) (dT U_X11_gate 54 rfl) (by decide) (by decide) ?_
                refine x_iconst (dT U_X11_gate 66 rfl) ?_
                refine x_ireturn (dT U_X11_gate 67 rfl) rfl ?_
                exact e2 (by omega) (by omega) _ _ (Ag.tr (Ag.tr (Ag.rf 70 142 h) (g1.w (by omega))) (g2.w (by omega))) w2 (by unfold xr; omega)
            · skip
              refine x_iload (dT U_X11_gate 23 rfl) rfl ?_
              refine x_if_eqn (tgt := 63) (dT U_X11_gate 24 rfl) (by decide) (by decide) ?_
              refine x_iload_n (dT U_X11_gate 25 rfl) rfl ?_
              refine x_invokestatic (rc' := rc) (rs' := rs) (rc2 := 0) (rs2 := 0) (As := [_]) (st := _) M_X11_isRow K_X11_164 (dT U_X11_gate 26 rfl) rfl rfl rfl rfl (Nat.le_of_ble_eq_true rfl) rfl (by decide) (Nat.le_of_ble_eq_true rfl) rfl rfl ?_
              refine S_X11_isRow h_b (fun q4 => ?_) (fun q4 => ?_)
              · refine xRet_some ?_
                refine x_if_eqn (tgt := 63) (dT U_X11_gate 27 rfl) (by decide) (by decide) ?_
                refine x_iconst (dT U_X11_gate 28 rfl) ?_
                refine x_goto (tgt := 64) (dT U_X11_gate 29 rfl) (by decide) ?_
                refine x_istore (ls' := [some (.ref _), some (vi _), some (vi _), some (vi _), some (vi _), some (vi _)]) (dT U_X11_gate 31 rfl) (by decide) rfl ?_
                refine x_aload_n (dT U_X11_gate 32 rfl) rfl ?_
                refine x_iload (dT U_X11_gate 33 rfl) rfl ?_
                refine x_iconst (dT U_X11_gate 34 rfl) ?_
                refine x_invokevirtual (rc' := rc) (rs' := rs) (rc2 := 0) (rs2 := 0) (As := [_, _]) (st := _) M_X11_lets K_X11_167 (dT U_X11_gate 35 rfl) rfl rfl (by decide) rfl rfl w.c70 (Nat.le_of_ble_eq_true rfl) (by decide) rfl (Nat.le_of_ble_eq_true rfl) rfl (by decide) (Nat.le_of_ble_eq_true rfl) rfl rfl ?_
                refine S_X11_lets1 w (fun h1 g1 w1 => ?_)
                refine xRet_some ?_
                refine x_if_eqn (tgt := 132) (dT U_X11_gate 36 rfl) (by decide) (by decide) ?_
                refine x_aload_n (dT U_X11_gate 37 rfl) rfl ?_
                refine x_iload_n (dT U_X11_gate 38 rfl) rfl ?_
                refine x_iconst (dT U_X11_gate 39 rfl) ?_
                refine x_invokestatic (rc' := rc) (rs' := rs) (rc2 := 0) (rs2 := 0) (As := [_, _]) (st := _) M_X11_in K_X11_126 (dT U_X11_gate 40 rfl) rfl rfl rfl rfl (Nat.le_of_ble_eq_true rfl) rfl (by decide) (Nat.le_of_ble_eq_true rfl) rfl rfl ?_
                refine S_X11_in h_kind (by unfold xr; omega) (fun q5 => ?_) (fun q5 => ?_)
                · refine xRet_some ?_
                  refine x_if_eqn (tgt := 102) (dT U_X11_gate 41 rfl) (by decide) (by decide) ?_
                  refine x_iload_n (dT U_X11_gate 42 rfl) rfl ?_
                  refine x_iconst (dT U_X11_gate 43 rfl) ?_
                  refine x_icmp_ne (tgt := 98) (dT U_X11_gate 44 rfl) (by decide) h_kind (by unfold xr; omega) (fun c87 => ?_) (fun c87 => ?_)
                  · skip
                    refine x_iconst (dT U_X11_gate 49 rfl) ?_
                    refine x_goto (tgt := 103) (dT U_X11_gate 50 rfl) (by decide) ?_
                    refine x_iconst (dT U_X11_gate 52 rfl) ?_
                    refine x_invokevirtual (rc' := rc) (rs' := rs) (rc2 := 0) (rs2 := 0) (As := [_, _]) (st := _) M_X11_lets K_X11_167 (dT U_X11_gate 53 rfl) rfl rfl (by decide) rfl rfl w1.c70 (Nat.le_of_ble_eq_true rfl) (by decide) rfl (Nat.le_of_ble_eq_true rfl) rfl (by decide) (Nat.le_of_ble_eq_true rfl) rfl rfl ?_
                    refine S_X11_lets1 w1 (fun h2 g2 w2 => ?_)
                    refine xRet_some ?_
                    refine x_if_eqn (tgt := 132) (dT U_X11_gate 54 rfl) (by decide) (by decide) ?_
                    refine x_aload_n (dT U_X11_gate 55 rfl) rfl ?_
                    refine x_aload_n (dT U_X11_gate 56 rfl) rfl ?_
                    refine x_getfield F_X11_140 (dT U_X11_gate 57 rfl) w2.c70 (Nat.le_of_ble_eq_true rfl) rfl ?_
                    refine x_bipush (dT U_X11_gate 58 rfl) (by decide) ?_
                    have gn := v.G.1
                    obtain ⟨gl1, gl2, gl3, gl4⟩ := v.G.2.1
                    refine x_icmp_ge (tgt := 124) (dT U_X11_gate 59 rfl) (by decide) (by unfold xr; omega) (by unfold xr; omega) (fun c117 => ?_) (fun c117 => ?_)
                    · skip
                      refine x_iconst (dT U_X11_gate 62 rfl) ?_
                      refine x_iconst (dT U_X11_gate 63 rfl) ?_
                      refine x_invokevirtual (rc' := rc) (rs' := rs) (rc2 := 0) (rs2 := 0) (As := [_, _]) (st := _) M_X11_lets K_X11_167 (dT U_X11_gate 64 rfl) rfl rfl (by decide) rfl rfl w2.c70 (Nat.le_of_ble_eq_true rfl) (by decide) rfl (Nat.le_of_ble_eq_true rfl) rfl (by decide) (Nat.le_of_ble_eq_true rfl) rfl rfl ?_
                      refine S_X11_lets0 w2 (fun h3 g3 w3 => ?_)
                      refine xRet_some ?_
                      refine x_if_nen (tgt := 134) (dT U_X11_gate 65 rfl) (by decide) (by decide) ?_
                      refine x_iconst (dT U_X11_gate 66 rfl) ?_
                      refine x_ireturn (dT U_X11_gate 67 rfl) rfl ?_
                      exact e3 (by omega) (by omega) (by omega) _ _ (Ag.tr (Ag.tr (Ag.tr (Ag.rf 70 142 h) (g1.w (by omega))) (g2.w (by omega))) (g3.w (by omega))) w3 (by unfold xr; omega)
                    · skip
                      refine x_iconst (dT U_X11_gate 60 rfl) ?_
                      refine x_goto (tgt := 125) (dT U_X11_gate 61 rfl) (by decide) ?_
                      refine x_iconst (dT U_X11_gate 63 rfl) ?_
                      refine x_invokevirtual (rc' := rc) (rs' := rs) (rc2 := 0) (rs2 := 0) (As := [_, _]) (st := _) M_X11_lets K_X11_167 (dT U_X11_gate 64 rfl) rfl rfl (by decide) rfl rfl w2.c70 (Nat.le_of_ble_eq_true rfl) (by decide) rfl (Nat.le_of_ble_eq_true rfl) rfl (by decide) (Nat.le_of_ble_eq_true rfl) rfl rfl ?_
                      refine S_X11_lets1 w2 (fun h3 g3 w3 => ?_)
                      refine xRet_some ?_
                      refine x_if_nej (tgt := 134) (dT U_X11_gate 65 rfl) (by decide) (by decide) ?_
                      refine x_aload_n (dT U_X11_gate 68 rfl) rfl ?_
                      refine x_getfield F_X11_85 (dT U_X11_gate 69 rfl) w3.c70 (Nat.le_of_ble_eq_true rfl) rfl ?_
                      refine x_aload_n (dT U_X11_gate 70 rfl) rfl ?_
                      refine x_getfield F_X11_140 (dT U_X11_gate 71 rfl) w3.c70 (Nat.le_of_ble_eq_true rfl) rfl ?_
                      refine x_aaload (σ.G.n) (dT U_X11_gate 72 rfl) w3.c124 (Nat.le_of_ble_eq_true rfl) (by decide) rfl (mgL_get (by omega)) (Nat.le_of_ble_eq_true rfl) ?_
                      refine x_iconst (dT U_X11_gate 73 rfl) ?_
                      refine x_iload_n (dT U_X11_gate 74 rfl) rfl ?_
                      refine x_iastore (0) (dT U_X11_gate 75 rfl) (w3.gates σ.G.n (by omega)) (by omega) rfl (show 0 < 4 by omega) (show 4 < 2147483648 by decide) ?_
                      refine x_aload_n (dT U_X11_gate 76 rfl) rfl ?_
                      refine x_getfield F_X11_85 (dT U_X11_gate 77 rfl) (hset_ne (by omega) (w3.c70)) (Nat.le_of_ble_eq_true rfl) rfl ?_
                      refine x_aload_n (dT U_X11_gate 78 rfl) rfl ?_
                      refine x_getfield F_X11_140 (dT U_X11_gate 79 rfl) (hset_ne (by omega) (w3.c70)) (Nat.le_of_ble_eq_true rfl) rfl ?_
                      refine x_aaload (σ.G.n) (dT U_X11_gate 80 rfl) (hset_ne (by omega) (w3.c124)) (Nat.le_of_ble_eq_true rfl) (by decide) rfl (mgL_get (by omega)) (Nat.le_of_ble_eq_true rfl) ?_
                      refine x_iconst (dT U_X11_gate 81 rfl) ?_
                      refine x_iload_n (dT U_X11_gate 82 rfl) rfl ?_
                      refine x_iastore (1) (dT U_X11_gate 83 rfl) (hset_eq (w3.gates σ.G.n (by omega))) (by omega) rfl (show 1 < 4 by omega) (show 4 < 2147483648 by decide) ?_
                      rw [List.set_set]
                      refine x_aload_n (dT U_X11_gate 84 rfl) rfl ?_
                      refine x_getfield F_X11_85 (dT U_X11_gate 85 rfl) (hset_ne (by omega) (w3.c70)) (Nat.le_of_ble_eq_true rfl) rfl ?_
                      refine x_aload_n (dT U_X11_gate 86 rfl) rfl ?_
                      refine x_getfield F_X11_140 (dT U_X11_gate 87 rfl) (hset_ne (by omega) (w3.c70)) (Nat.le_of_ble_eq_true rfl) rfl ?_
                      refine x_aaload (σ.G.n) (dT U_X11_gate 88 rfl) (hset_ne (by omega) (w3.c124)) (Nat.le_of_ble_eq_true rfl) (by decide) rfl (mgL_get (by omega)) (Nat.le_of_ble_eq_true rfl) ?_
                      refine x_iconst (dT U_X11_gate 89 rfl) ?_
                      refine x_iload_n (dT U_X11_gate 90 rfl) rfl ?_
                      refine x_iastore (2) (dT U_X11_gate 91 rfl) (hset_eq (w3.gates σ.G.n (by omega))) (by omega) rfl (show 2 < 4 by omega) (show 4 < 2147483648 by decide) ?_
                      rw [List.set_set]
                      refine x_aload_n (dT U_X11_gate 92 rfl) rfl ?_
                      refine x_getfield F_X11_85 (dT U_X11_gate 93 rfl) (hset_ne (by omega) (w3.c70)) (Nat.le_of_ble_eq_true rfl) rfl ?_
                      refine x_aload_n (dT U_X11_gate 94 rfl) rfl ?_
                      refine x_getfield F_X11_140 (dT U_X11_gate 95 rfl) (hset_ne (by omega) (w3.c70)) (Nat.le_of_ble_eq_true rfl) rfl ?_
                      refine x_aaload (σ.G.n) (dT U_X11_gate 96 rfl) (hset_ne (by omega) (w3.c124)) (Nat.le_of_ble_eq_true rfl) (by decide) rfl (mgL_get (by omega)) (Nat.le_of_ble_eq_true rfl) ?_
                      refine x_iconst (dT U_X11_gate 97 rfl) ?_
                      refine x_iload (dT U_X11_gate 98 rfl) rfl ?_
                      refine x_iastore (3) (dT U_X11_gate 99 rfl) (hset_eq (w3.gates σ.G.n (by omega))) (by omega) rfl (show 3 < 4 by omega) (show 4 < 2147483648 by decide) ?_
                      rw [List.set_set]
                      refine x_aload_n (dT U_X11_gate 100 rfl) rfl ?_
                      refine x_dup (dT U_X11_gate 101 rfl) rfl ?_
                      refine x_getfield F_X11_140 (dT U_X11_gate 102 rfl) (hset_ne (by omega) (w3.c70)) (Nat.le_of_ble_eq_true rfl) rfl ?_
                      refine x_iconst (dT U_X11_gate 103 rfl) ?_
                      refine x_iadd (dT U_X11_gate 104 rfl) ?_
                      refine x_putfield F_X11_140 (dT U_X11_gate 105 rfl) (hset_ne (by omega) (w3.c70)) (Nat.le_of_ble_eq_true rfl) (Nat.le_of_ble_eq_true rfl) rfl rfl ?_
                      change X G _ _ _ _ _ _ _ _ (List.set _ 70 (mC 0 σ.p (σ.G.n + 1) σ.g.b rr σ.g.c ss σ.g.z σ.g.o σ.L.n)) _
                      refine x_aload_n (dT U_X11_gate 106 rfl) rfl ?_
                      refine x_getfield F_X11_140 (dT U_X11_gate 107 rfl) (hset_eq (hset_ne (by omega) (w3.c70))) (Nat.le_of_ble_eq_true rfl) rfl ?_
                      refine x_ireturn (dT U_X11_gate 108 rfl) rfl ?_
                      exact k (by omega) (by omega) (by omega) _ _ _ (((Ag.tr (Ag.tr (Ag.tr (Ag.rf 70 142 h) (g1.w (by omega))) (g2.w (by omega))) (g3.w (by omega))).set (by omega)).set (by omega)) (w3.gate (G := (σ.G.n + 1, σ.G.k.set σ.G.n kind, σ.G.a.set σ.G.n a, σ.G.b.set σ.G.n b, σ.G.c.set σ.G.n c)) (fun a9 ha => by rw [hset_fr (by omega), hset_fr (by omega)]) (hset_eq (hset_ne (by omega) (w3.c70))) (fun j hj => by
                          by_cases e : j = σ.G.n
                          · subst e
                            show _ = some (cA 0 [(σ.G.k.set σ.G.n kind).getD σ.G.n 0, (σ.G.a.set σ.G.n a).getD σ.G.n 0, (σ.G.b.set σ.G.n b).getD σ.G.n 0, (σ.G.c.set σ.G.n c).getD σ.G.n 0])
                            rw [gset_e (by omega), gset_e (by omega), gset_e (by omega), gset_e (by omega)]
                            exact hset_ne (by omega) (hset_eq (w3.gates σ.G.n hj))
                          · show _ = some (cA 0 [(σ.G.k.set σ.G.n kind).getD j 0, (σ.G.a.set σ.G.n a).getD j 0, (σ.G.b.set σ.G.n b).getD j 0, (σ.G.c.set σ.G.n c).getD j 0])
                            rw [gset_n e, gset_n e, gset_n e, gset_n e]
                            exact hset_ne (by omega) (hset_ne (by omega) (w3.gates j hj))))
                  · skip
                    refine x_aload_n (dT U_X11_gate 45 rfl) rfl ?_
                    refine x_iload_n (dT U_X11_gate 46 rfl) rfl ?_
                    refine x_invokevirtual (rc' := rc) (rs' := rs) (rc2 := 0) (rs2 := 0) (As := [_]) (st := _) M_X11_isNumber K_X11_174 (dT U_X11_gate 47 rfl) rfl rfl (by decide) rfl rfl w1.c70 (Nat.le_of_ble_eq_true rfl) (by decide) rfl (Nat.le_of_ble_eq_true rfl) rfl (by decide) (Nat.le_of_ble_eq_true rfl) rfl rfl ?_
                    refine S_X11_isNumber (w1.mp) v.p h_b (fun q6 => ?_) (fun q6 => ?_)
                    · refine xRet_some ?_
                      refine x_if_eqn (tgt := 102) (dT U_X11_gate 48 rfl) (by decide) (by decide) ?_
                      refine x_iconst (dT U_X11_gate 49 rfl) ?_
                      refine x_goto (tgt := 103) (dT U_X11_gate 50 rfl) (by decide) ?_
                      refine x_iconst (dT U_X11_gate 52 rfl) ?_
                      refine x_invokevirtual (rc' := rc) (rs' := rs) (rc2 := 0) (rs2 := 0) (As := [_, _]) (st := _) M_X11_lets K_X11_167 (dT U_X11_gate 53 rfl) rfl rfl (by decide) rfl rfl w1.c70 (Nat.le_of_ble_eq_true rfl) (by decide) rfl (Nat.le_of_ble_eq_true rfl) rfl (by decide) (Nat.le_of_ble_eq_true rfl) rfl rfl ?_
                      refine S_X11_lets1 w1 (fun h2 g2 w2 => ?_)
                      refine xRet_some ?_
                      refine x_if_eqn (tgt := 132) (dT U_X11_gate 54 rfl) (by decide) (by decide) ?_
                      refine x_aload_n (dT U_X11_gate 55 rfl) rfl ?_
                      refine x_aload_n (dT U_X11_gate 56 rfl) rfl ?_
                      refine x_getfield F_X11_140 (dT U_X11_gate 57 rfl) w2.c70 (Nat.le_of_ble_eq_true rfl) rfl ?_
                      refine x_bipush (dT U_X11_gate 58 rfl) (by decide) ?_
                      have gn := v.G.1
                      obtain ⟨gl1, gl2, gl3, gl4⟩ := v.G.2.1
                      refine x_icmp_ge (tgt := 124) (dT U_X11_gate 59 rfl) (by decide) (by unfold xr; omega) (by unfold xr; omega) (fun c117 => ?_) (fun c117 => ?_)
                      · skip
                        refine x_iconst (dT U_X11_gate 62 rfl) ?_
                        refine x_iconst (dT U_X11_gate 63 rfl) ?_
                        refine x_invokevirtual (rc' := rc) (rs' := rs) (rc2 := 0) (rs2 := 0) (As := [_, _]) (st := _) M_X11_lets K_X11_167 (dT U_X11_gate 64 rfl) rfl rfl (by decide) rfl rfl w2.c70 (Nat.le_of_ble_eq_true rfl) (by decide) rfl (Nat.le_of_ble_eq_true rfl) rfl (by decide) (Nat.le_of_ble_eq_true rfl) rfl rfl ?_
                        refine S_X11_lets0 w2 (fun h3 g3 w3 => ?_)
                        refine xRet_some ?_
                        refine x_if_nen (tgt := 134) (dT U_X11_gate 65 rfl) (by decide) (by decide) ?_
                        refine x_iconst (dT U_X11_gate 66 rfl) ?_
                        refine x_ireturn (dT U_X11_gate 67 rfl) rfl ?_
                        exact e3 (by omega) (by omega) (by omega) _ _ (Ag.tr (Ag.tr (Ag.tr (Ag.rf 70 142 h) (g1.w (by omega))) (g2.w (by omega))) (g3.w (by omega))) w3 (by unfold xr; omega)
                      · skip
                        refine x_iconst (dT U_X11_gate 60 rfl) ?_
                        refine x_goto (tgt := 125) (dT U_X11_gate 61 rfl) (by decide) ?_
                        refine x_iconst (dT U_X11_gate 63 rfl) ?_
                        refine x_invokevirtual (rc' := rc) (rs' := rs) (rc2 := 0) (rs2 := 0) (As := [_, _]) (st := _) M_X11_lets K_X11_167 (dT U_X11_gate 64 rfl) rfl rfl (by decide) rfl rfl w2.c70 (Nat.le_of_ble_eq_true rfl) (by decide) rfl (Nat.le_of_ble_eq_true rfl) rfl (by decide) (Nat.le_of_ble_eq_true rfl) rfl rfl ?_
                        refine S_X11_lets1 w2 (fun h3 g3 w3 => ?_)
                        refine xRet_some ?_
                        refine x_if_nej (tgt := 134) (dT U_X11_gate 65 rfl) (by decide) (by decide) ?_
                        refine x_aload_n (dT U_X11_gate 68 rfl) rfl ?_
                        refine x_getfield F_X11_85 (dT U_X11_gate 69 rfl) w3.c70 (Nat.le_of_ble_eq_true rfl) rfl ?_
                        refine x_aload_n (dT U_X11_gate 70 rfl) rfl ?_
                        refine x_getfield F_X11_140 (dT U_X11_gate 71 rfl) w3.c70 (Nat.le_of_ble_eq_true rfl) rfl ?_
                        refine x_aaload (σ.G.n) (dT U_X11_gate 72 rfl) w3.c124 (Nat.le_of_ble_eq_true rfl) (by decide) rfl (mgL_get (by omega)) (Nat.le_of_ble_eq_true rfl) ?_
                        refine x_iconst (dT U_X11_gate 73 rfl) ?_
                        refine x_iload_n (dT U_X11_gate 74 rfl) rfl ?_
                        refine x_iastore (0) (dT U_X11_gate 75 rfl) (w3.gates σ.G.n (by omega)) (by omega) rfl (show 0 < 4 by omega) (show 4 < 2147483648 by decide) ?_
                        refine x_aload_n (dT U_X11_gate 76 rfl) rfl ?_
                        refine x_getfield F_X11_85 (dT U_X11_gate 77 rfl) (hset_ne (by omega) (w3.c70)) (Nat.le_of_ble_eq_true rfl) rfl ?_
                        refine x_aload_n (dT U_X11_gate 78 rfl) rfl ?_
                        refine x_getfield F_X11_140 (dT U_X11_gate 79 rfl) (hset_ne (by omega) (w3.c70)) (Nat.le_of_ble_eq_true rfl) rfl ?_
                        refine x_aaload (σ.G.n) (dT U_X11_gate 80 rfl) (hset_ne (by omega) (w3.c124)) (Nat.le_of_ble_eq_true rfl) (by decide) rfl (mgL_get (by omega)) (Nat.le_of_ble_eq_true rfl) ?_
                        refine x_iconst (dT U_X11_gate 81 rfl) ?_
                        refine x_iload_n (dT U_X11_gate 82 rfl) rfl ?_
                        refine x_iastore (1) (dT U_X11_gate 83 rfl) (hset_eq (w3.gates σ.G.n (by omega))) (by omega) rfl (show 1 < 4 by omega) (show 4 < 2147483648 by decide) ?_
                        rw [List.set_set]
                        refine x_aload_n (dT U_X11_gate 84 rfl) rfl ?_
                        refine x_getfield F_X11_85 (dT U_X11_gate 85 rfl) (hset_ne (by omega) (w3.c70)) (Nat.le_of_ble_eq_true rfl) rfl ?_
                        refine x_aload_n (dT U_X11_gate 86 rfl) rfl ?_
                        refine x_getfield F_X11_140 (dT U_X11_gate 87 rfl) (hset_ne (by omega) (w3.c70)) (Nat.le_of_ble_eq_true rfl) rfl ?_
                        refine x_aaload (σ.G.n) (dT U_X11_gate 88 rfl) (hset_ne (by omega) (w3.c124)) (Nat.le_of_ble_eq_true rfl) (by decide) rfl (mgL_get (by omega)) (Nat.le_of_ble_eq_true rfl) ?_
                        refine x_iconst (dT U_X11_gate 89 rfl) ?_
                        refine x_iload_n (dT U_X11_gate 90 rfl) rfl ?_
                        refine x_iastore (2) (dT U_X11_gate 91 rfl) (hset_eq (w3.gates σ.G.n (by omega))) (by omega) rfl (show 2 < 4 by omega) (show 4 < 2147483648 by decide) ?_
                        rw [List.set_set]
                        refine x_aload_n (dT U_X11_gate 92 rfl) rfl ?_
                        refine x_getfield F_X11_85 (dT U_X11_gate 93 rfl) (hset_ne (by omega) (w3.c70)) (Nat.le_of_ble_eq_true rfl) rfl ?_
                        refine x_aload_n (dT U_X11_gate 94 rfl) rfl ?_
                        refine x_getfield F_X11_140 (dT U_X11_gate 95 rfl) (hset_ne (by omega) (w3.c70)) (Nat.le_of_ble_eq_true rfl) rfl ?_
                        refine x_aaload (σ.G.n) (dT U_X11_gate 96 rfl) (hset_ne (by omega) (w3.c124)) (Nat.le_of_ble_eq_true rfl) (by decide) rfl (mgL_get (by omega)) (Nat.le_of_ble_eq_true rfl) ?_
                        refine x_iconst (dT U_X11_gate 97 rfl) ?_
                        refine x_iload (dT U_X11_gate 98 rfl) rfl ?_
                        refine x_iastore (3) (dT U_X11_gate 99 rfl) (hset_eq (w3.gates σ.G.n (by omega))) (by omega) rfl (show 3 < 4 by omega) (show 4 < 2147483648 by decide) ?_
                        rw [List.set_set]
                        refine x_aload_n (dT U_X11_gate 100 rfl) rfl ?_
                        refine x_dup (dT U_X11_gate 101 rfl) rfl ?_
                        refine x_getfield F_X11_140 (dT U_X11_gate 102 rfl) (hset_ne (by omega) (w3.c70)) (Nat.le_of_ble_eq_true rfl) rfl ?_
                        refine x_iconst (dT U_X11_gate 103 rfl) ?_
                        refine x_iadd (dT U_X11_gate 104 rfl) ?_
                        refine x_putfield F_X11_140 (dT U_X11_gate 105 rfl) (hset_ne (by omega) (w3.c70)) (Nat.le_of_ble_eq_true rfl) (Nat.le_of_ble_eq_true rfl) rfl rfl ?_
                        change X G _ _ _ _ _ _ _ _ (List.set _ 70 (mC 0 σ.p (σ.G.n + 1) σ.g.b rr σ.g.c ss σ.g.z σ.g.o σ.L.n)) _
                        refine x_aload_n (dT U_X11_gate 106 rfl) rfl ?_
                        refine x_getfield F_X11_140 (dT U_X11_gate 107 rfl) (hset_eq (hset_ne (by omega) (w3.c70))) (Nat.le_of_ble_eq_true rfl) rfl ?_
                        refine x_ireturn (dT U_X11_gate 108 rfl) rfl ?_
                        exact k (by omega) (by omega) (by omega) _ _ _ (((Ag.tr (Ag.tr (Ag.tr (Ag.rf 70 142 h) (g1.w (by omega))) (g2.w (by omega))) (g3.w (by omega))).set (by omega)).set (by omega)) (w3.gate (G := (σ.G.n + 1, σ.G.k.set σ.G.n kind, σ.G.a.set σ.G.n a, σ.G.b.set σ.G.n b, σ.G.c.set σ.G.n c)) (fun a9 ha => by rw [hset_fr (by omega), hset_fr (by omega)]) (hset_eq (hset_ne (by omega) (w3.c70))) (fun j hj => by
                            by_cases e : j = σ.G.n
                            · subst e
                              show _ = some (cA 0 [(σ.G.k.set σ.G.n kind).getD σ.G.n 0, (σ.G.a.set σ.G.n a).getD σ.G.n 0, (σ.G.b.set σ.G.n b).getD σ.G.n 0, (σ.G.c.set σ.G.n c).getD σ.G.n 0])
                              rw [gset_e (by omega), gset_e (by omega), gset_e (by omega), gset_e (by omega)]
                              exact hset_ne (by omega) (hset_eq (w3.gates σ.G.n hj))
                            · show _ = some (cA 0 [(σ.G.k.set σ.G.n kind).getD j 0, (σ.G.a.set σ.G.n a).getD j 0, (σ.G.b.set σ.G.n b).getD j 0, (σ.G.c.set σ.G.n c).getD j 0])
                              rw [gset_n e, gset_n e, gset_n e, gset_n e]
                              exact hset_ne (by omega) (hset_ne (by omega) (w3.gates j hj))))
                    · refine xRet_some ?_
                      refine x_if_eqj (tgt := 102) (dT U_X11_gate 48 rfl) (by decide) (by decide) ?_
                      refine x_iconst (dT U_X11_gate 51 rfl) ?_
                      refine x_iconst (dT U_X11_gate 52 rfl) ?_
                      refine x_invokevirtual (rc' := rc) (rs' := rs) (rc2 := 0) (rs2 := 0) (As := [_, _]) (st := _) M_X11_lets K_X11_167 (dT U_X11_gate 53 rfl) rfl rfl (by decide) rfl rfl w1.c70 (Nat.le_of_ble_eq_true rfl) (by decide) rfl (Nat.le_of_ble_eq_true rfl) rfl (by decide) (Nat.le_of_ble_eq_true rfl) rfl rfl ?_
                      refine S_X11_lets0 w1 (fun h2 g2 w2 => ?_)
                      refine xRet_some ?_
                      refine x_if_eqj (tgt := 132) (dT U_X11_gate 54 rfl) (by decide) (by decide) ?_
                      refine x_iconst (dT U_X11_gate 66 rfl) ?_
                      refine x_ireturn (dT U_X11_gate 67 rfl) rfl ?_
                      exact e2 (by omega) (by omega) _ _ (Ag.tr (Ag.tr (Ag.rf 70 142 h) (g1.w (by omega))) (g2.w (by omega))) w2 (by unfold xr; omega)
                · refine xRet_some ?_
                  refine x_if_eqj (tgt := 102) (dT U_X11_gate 41 rfl) (by decide) (by decide) ?_
                  refine x_iconst (dT U_X11_gate 51 rfl) ?_
                  refine x_iconst (dT U_X11_gate 52 rfl) ?_
                  refine x_invokevirtual (rc' := rc) (rs' := rs) (rc2 := 0) (rs2 := 0) (As := [_, _]) (st := _) M_X11_lets K_X11_167 (dT U_X11_gate 53 rfl) rfl rfl (by decide) rfl rfl w1.c70 (Nat.le_of_ble_eq_true rfl) (by decide) rfl (Nat.le_of_ble_eq_true rfl) rfl (by decide) (Nat.le_of_ble_eq_true rfl) rfl rfl ?_
                  refine S_X11_lets0 w1 (fun h2 g2 w2 => ?_)
                  refine xRet_some ?_
                  refine x_if_eqj (tgt := 132) (dT U_X11_gate 54 rfl) (by decide) (by decide) ?_
                  refine x_iconst (dT U_X11_gate 66 rfl) ?_
                  refine x_ireturn (dT U_X11_gate 67 rfl) rfl ?_
                  exact e2 (by omega) (by omega) _ _ (Ag.tr (Ag.tr (Ag.rf 70 142 h) (g1.w (by omega))) (g2.w (by omega))) w2 (by unfold xr; omega)
              · refine xRet_some ?_
                refine x_if_eqj (tgt := 63) (dT U_X11_gate 27 rfl) (by decide) (by decide) ?_
                refine x_iconst (dT U_X11_gate 30 rfl) ?_
                refine x_istore (ls' := [some (.ref _), some (vi _), some (vi _), some (vi _), some (vi _), some (vi _)]) (dT U_X11_gate 31 rfl) (by decide) rfl ?_
                refine x_aload_n (dT U_X11_gate 32 rfl) rfl ?_
                refine x_iload (dT U_X11_gate 33 rfl) rfl ?_
                refine x_iconst (dT U_X11_gate 34 rfl) ?_
                refine x_invokevirtual (rc' := rc) (rs' := rs) (rc2 := 0) (rs2 := 0) (As := [_, _]) (st := _) M_X11_lets K_X11_167 (dT U_X11_gate 35 rfl) rfl rfl (by decide) rfl rfl w.c70 (Nat.le_of_ble_eq_true rfl) (by decide) rfl (Nat.le_of_ble_eq_true rfl) rfl (by decide) (Nat.le_of_ble_eq_true rfl) rfl rfl ?_
                refine S_X11_lets0 w (fun h1 g1 w1 => ?_)
                refine xRet_some ?_
                refine x_if_eqj (tgt := 132) (dT U_X11_gate 36 rfl) (by decide) (by decide) ?_
                refine x_iconst (dT U_X11_gate 66 rfl) ?_
                refine x_ireturn (dT U_X11_gate 67 rfl) rfl ?_
                exact e1 (by omega) _ _ (Ag.tr (Ag.rf 70 142 h) (g1.w (by omega))) w1 (by unfold xr; omega)
          · refine xRet_some ?_
            refine x_if_eqj (tgt := 39) (dT U_X11_gate 15 rfl) (by decide) (by decide) ?_
            refine x_iconst (dT U_X11_gate 18 rfl) ?_
            refine x_istore (ls' := [some (.ref _), some (vi _), some (vi _), some (vi _), some (vi _), some (vi _)]) (dT U_X11_gate 19 rfl) (by decide) rfl ?_
            refine x_iload_n (dT U_X11_gate 20 rfl) rfl ?_
            refine x_iconst (dT U_X11_gate 21 rfl) ?_
            refine x_icmp_ne (tgt := 66) (dT U_X11_gate 22 rfl) (by decide) h_kind (by unfold xr; omega) (fun c44 => ?_) (fun c44 => ?_)
            · skip
              refine x_aload_n (dT U_X11_gate 32 rfl) rfl ?_
              refine x_iload (dT U_X11_gate 33 rfl) rfl ?_
              refine x_iconst (dT U_X11_gate 34 rfl) ?_
              refine x_invokevirtual (rc' := rc) (rs' := rs) (rc2 := 0) (rs2 := 0) (As := [_, _]) (st := _) M_X11_lets K_X11_167 (dT U_X11_gate 35 rfl) rfl rfl (by decide) rfl rfl w.c70 (Nat.le_of_ble_eq_true rfl) (by decide) rfl (Nat.le_of_ble_eq_true rfl) rfl (by decide) (Nat.le_of_ble_eq_true rfl) rfl rfl ?_
              refine S_X11_lets0 w (fun h1 g1 w1 => ?_)
              refine xRet_some ?_
              refine x_if_eqj (tgt := 132) (dT U_X11_gate 36 rfl) (by decide) (by decide) ?_
              refine x_iconst (dT U_X11_gate 66 rfl) ?_
              refine x_ireturn (dT U_X11_gate 67 rfl) rfl ?_
              exact e1 (by omega) _ _ (Ag.tr (Ag.rf 70 142 h) (g1.w (by omega))) w1 (by unfold xr; omega)
            · skip
              refine x_iload (dT U_X11_gate 23 rfl) rfl ?_
              refine x_if_eqj (tgt := 63) (dT U_X11_gate 24 rfl) (by decide) (by decide) ?_
              refine x_iconst (dT U_X11_gate 30 rfl) ?_
              refine x_istore (ls' := [some (.ref _), some (vi _), some (vi _), some (vi _), some (vi _), some (vi _)]) (dT U_X11_gate 31 rfl) (by decide) rfl ?_
              refine x_aload_n (dT U_X11_gate 32 rfl) rfl ?_
              refine x_iload (dT U_X11_gate 33 rfl) rfl ?_
              refine x_iconst (dT U_X11_gate 34 rfl) ?_
              refine x_invokevirtual (rc' := rc) (rs' := rs) (rc2 := 0) (rs2 := 0) (As := [_, _]) (st := _) M_X11_lets K_X11_167 (dT U_X11_gate 35 rfl) rfl rfl (by decide) rfl rfl w.c70 (Nat.le_of_ble_eq_true rfl) (by decide) rfl (Nat.le_of_ble_eq_true rfl) rfl (by decide) (Nat.le_of_ble_eq_true rfl) rfl rfl ?_
              refine S_X11_lets0 w (fun h1 g1 w1 => ?_)
              refine xRet_some ?_
              refine x_if_eqj (tgt := 132) (dT U_X11_gate 36 rfl) (by decide) (by decide) ?_
              refine x_iconst (dT U_X11_gate 66 rfl) ?_
              refine x_ireturn (dT U_X11_gate 67 rfl) rfl ?_
              exact e1 (by omega) _ _ (Ag.tr (Ag.rf 70 142 h) (g1.w (by omega))) w1 (by unfold xr; omega)
        · refine xRet_some ?_
          refine x_if_eqj (tgt := 39) (dT U_X11_gate 12 rfl) (by decide) (by decide) ?_
          refine x_iconst (dT U_X11_gate 18 rfl) ?_
          refine x_istore (ls' := [some (.ref _), some (vi _), some (vi _), some (vi _), some (vi _), some (vi _)]) (dT U_X11_gate 19 rfl) (by decide) rfl ?_
          refine x_iload_n (dT U_X11_gate 20 rfl) rfl ?_
          refine x_iconst (dT U_X11_gate 21 rfl) ?_
          refine x_icmp_ne (tgt := 66) (dT U_X11_gate 22 rfl) (by decide) h_kind (by unfold xr; omega) (fun c44 => ?_) (fun c44 => ?_)
          · skip
            refine x_aload_n (dT U_X11_gate 32 rfl) rfl ?_
            refine x_iload (dT U_X11_gate 33 rfl) rfl ?_
            refine x_iconst (dT U_X11_gate 34 rfl) ?_
            refine x_invokevirtual (rc' := rc) (rs' := rs) (rc2 := 0) (rs2 := 0) (As := [_, _]) (st := _) M_X11_lets K_X11_167 (dT U_X11_gate 35 rfl) rfl rfl (by decide) rfl rfl w.c70 (Nat.le_of_ble_eq_true rfl) (by decide) rfl (Nat.le_of_ble_eq_true rfl) rfl (by decide) (Nat.le_of_ble_eq_true rfl) rfl rfl ?_
            refine S_X11_lets0 w (fun h1 g1 w1 => ?_)
            refine xRet_some ?_
            refine x_if_eqj (tgt := 132) (dT U_X11_gate 36 rfl) (by decide) (by decide) ?_
            refine x_iconst (dT U_X11_gate 66 rfl) ?_
            refine x_ireturn (dT U_X11_gate 67 rfl) rfl ?_
            exact e1 (by omega) _ _ (Ag.tr (Ag.rf 70 142 h) (g1.w (by omega))) w1 (by unfold xr; omega)
          · skip
            refine x_iload (dT U_X11_gate 23 rfl) rfl ?_
            refine x_if_eqj (tgt := 63) (dT U_X11_gate 24 rfl) (by decide) (by decide) ?_
            refine x_iconst (dT U_X11_gate 30 rfl) ?_
            refine x_istore (ls' := [some (.ref _), some (vi _), some (vi _), some (vi _), some (vi _), some (vi _)]) (dT U_X11_gate 31 rfl) (by decide) rfl ?_
            refine x_aload_n (dT U_X11_gate 32 rfl) rfl ?_
            refine x_iload (dT U_X11_gate 33 rfl) rfl ?_
            refine x_iconst (dT U_X11_gate 34 rfl) ?_
            refine x_invokevirtual (rc' := rc) (rs' := rs) (rc2 := 0) (rs2 := 0) (As := [_, _]) (st := _) M_X11_lets K_X11_167 (dT U_X11_gate 35 rfl) rfl rfl (by decide) rfl rfl w.c70 (Nat.le_of_ble_eq_true rfl) (by decide) rfl (Nat.le_of_ble_eq_true rfl) rfl (by decide) (Nat.le_of_ble_eq_true rfl) rfl rfl ?_
            refine S_X11_lets0 w (fun h1 g1 w1 => ?_)
            refine xRet_some ?_
            refine x_if_eqj (tgt := 132) (dT U_X11_gate 36 rfl) (by decide) (by decide) ?_
            refine x_iconst (dT U_X11_gate 66 rfl) ?_
            refine x_ireturn (dT U_X11_gate 67 rfl) rfl ?_
            exact e1 (by omega) _ _ (Ag.tr (Ag.rf 70 142 h) (g1.w (by omega))) w1 (by unfold xr; omega)
  · refine xRet_some ?_
    refine x_istore (ls' := [some (.ref _), some (vi _), some (vi _), some (vi _), some (vi _), some (vi _)]) (dT U_X11_gate 2 rfl) (by decide) rfl ?_
    refine x_iload_n (dT U_X11_gate 3 rfl) rfl ?_
    refine x_if_eq (tgt := 15) (dT U_X11_gate 4 rfl) (by decide) h_kind (fun c7 => ?_) (fun c7 => ?_)
    · skip
      refine x_iload (dT U_X11_gate 8 rfl) rfl ?_
      refine x_if_eqj (tgt := 39) (dT U_X11_gate 9 rfl) (by decide) (by decide) ?_
      refine x_iconst (dT U_X11_gate 18 rfl) ?_
      refine x_istore (ls' := [some (.ref _), some (vi _), some (vi _), some (vi _), some (vi _), some (vi _)]) (dT U_X11_gate 19 rfl) (by decide) rfl ?_
      refine x_iload_n (dT U_X11_gate 20 rfl) rfl ?_
      refine x_iconst (dT U_X11_gate 21 rfl) ?_
      refine x_icmp_ne (tgt := 66) (dT U_X11_gate 22 rfl) (by decide) h_kind (by unfold xr; omega) (fun c44 => ?_) (fun c44 => ?_)
      · skip
        refine x_aload_n (dT U_X11_gate 32 rfl) rfl ?_
        refine x_iload (dT U_X11_gate 33 rfl) rfl ?_
        refine x_iconst (dT U_X11_gate 34 rfl) ?_
        refine x_invokevirtual (rc' := rc) (rs' := rs) (rc2 := 0) (rs2 := 0) (As := [_, _]) (st := _) M_X11_lets K_X11_167 (dT U_X11_gate 35 rfl) rfl rfl (by decide) rfl rfl w.c70 (Nat.le_of_ble_eq_true rfl) (by decide) rfl (Nat.le_of_ble_eq_true rfl) rfl (by decide) (Nat.le_of_ble_eq_true rfl) rfl rfl ?_
        refine S_X11_lets0 w (fun h1 g1 w1 => ?_)
        refine xRet_some ?_
        refine x_if_eqj (tgt := 132) (dT U_X11_gate 36 rfl) (by decide) (by decide) ?_
        refine x_iconst (dT U_X11_gate 66 rfl) ?_
        refine x_ireturn (dT U_X11_gate 67 rfl) rfl ?_
        exact e1 (by omega) _ _ (Ag.tr (Ag.rf 70 142 h) (g1.w (by omega))) w1 (by unfold xr; omega)
      · skip
        refine x_iload (dT U_X11_gate 23 rfl) rfl ?_
        refine x_if_eqj (tgt := 63) (dT U_X11_gate 24 rfl) (by decide) (by decide) ?_
        refine x_iconst (dT U_X11_gate 30 rfl) ?_
        refine x_istore (ls' := [some (.ref _), some (vi _), some (vi _), some (vi _), some (vi _), some (vi _)]) (dT U_X11_gate 31 rfl) (by decide) rfl ?_
        refine x_aload_n (dT U_X11_gate 32 rfl) rfl ?_
        refine x_iload (dT U_X11_gate 33 rfl) rfl ?_
        refine x_iconst (dT U_X11_gate 34 rfl) ?_
        refine x_invokevirtual (rc' := rc) (rs' := rs) (rc2 := 0) (rs2 := 0) (As := [_, _]) (st := _) M_X11_lets K_X11_167 (dT U_X11_gate 35 rfl) rfl rfl (by decide) rfl rfl w.c70 (Nat.le_of_ble_eq_true rfl) (by decide) rfl (Nat.le_of_ble_eq_true rfl) rfl (by decide) (Nat.le_of_ble_eq_true rfl) rfl rfl ?_
        refine S_X11_lets0 w (fun h1 g1 w1 => ?_)
        refine xRet_some ?_
        refine x_if_eqj (tgt := 132) (dT U_X11_gate 36 rfl) (by decide) (by decide) ?_
        refine x_iconst (dT U_X11_gate 66 rfl) ?_
        refine x_ireturn (dT U_X11_gate 67 rfl) rfl ?_
        exact e1 (by omega) _ _ (Ag.tr (Ag.rf 70 142 h) (g1.w (by omega))) w1 (by unfold xr; omega)
    · skip
      refine x_iload_n (dT U_X11_gate 5 rfl) rfl ?_
      refine x_iconst (dT U_X11_gate 6 rfl) ?_
      refine x_icmp_ne (tgt := 42) (dT U_X11_gate 7 rfl) (by decide) h_kind (by unfold xr; omega) (fun c12 => ?_) (fun c12 => ?_)
      · skip
        refine x_iload_n (dT U_X11_gate 20 rfl) rfl ?_
        refine x_iconst (dT U_X11_gate 21 rfl) ?_
        refine x_icmp_ne (tgt := 66) (dT U_X11_gate 22 rfl) (by decide) h_kind (by unfold xr; omega) (fun c44 => ?_) (fun c44 => ?_)
        · skip
          refine x_aload_n (dT U_X11_gate 32 rfl) rfl ?_
          refine x_iload (dT U_X11_gate 33 rfl) rfl ?_
          refine x_iconst (dT U_X11_gate 34 rfl) ?_
          refine x_invokevirtual (rc' := rc) (rs' := rs) (rc2 := 0) (rs2 := 0) (As := [_, _]) (st := _) M_X11_lets K_X11_167 (dT U_X11_gate 35 rfl) rfl rfl (by decide) rfl rfl w.c70 (Nat.le_of_ble_eq_true rfl) (by decide) rfl (Nat.le_of_ble_eq_true rfl) rfl (by decide) (Nat.le_of_ble_eq_true rfl) rfl rfl ?_
          refine S_X11_lets0 w (fun h1 g1 w1 => ?_)
          refine xRet_some ?_
          refine x_if_eqj (tgt := 132) (dT U_X11_gate 36 rfl) (by decide) (by decide) ?_
          refine x_iconst (dT U_X11_gate 66 rfl) ?_
          refine x_ireturn (dT U_X11_gate 67 rfl) rfl ?_
          exact e1 (by omega) _ _ (Ag.tr (Ag.rf 70 142 h) (g1.w (by omega))) w1 (by unfold xr; omega)
        · skip
          refine x_iload (dT U_X11_gate 23 rfl) rfl ?_
          refine x_if_eqj (tgt := 63) (dT U_X11_gate 24 rfl) (by decide) (by decide) ?_
          refine x_iconst (dT U_X11_gate 30 rfl) ?_
          refine x_istore (ls' := [some (.ref _), some (vi _), some (vi _), some (vi _), some (vi _), some (vi _)]) (dT U_X11_gate 31 rfl) (by decide) rfl ?_
          refine x_aload_n (dT U_X11_gate 32 rfl) rfl ?_
          refine x_iload (dT U_X11_gate 33 rfl) rfl ?_
          refine x_iconst (dT U_X11_gate 34 rfl) ?_
          refine x_invokevirtual (rc' := rc) (rs' := rs) (rc2 := 0) (rs2 := 0) (As := [_, _]) (st := _) M_X11_lets K_X11_167 (dT U_X11_gate 35 rfl) rfl rfl (by decide) rfl rfl w.c70 (Nat.le_of_ble_eq_true rfl) (by decide) rfl (Nat.le_of_ble_eq_true rfl) rfl (by decide) (Nat.le_of_ble_eq_true rfl) rfl rfl ?_
          refine S_X11_lets0 w (fun h1 g1 w1 => ?_)
          refine xRet_some ?_
          refine x_if_eqj (tgt := 132) (dT U_X11_gate 36 rfl) (by decide) (by decide) ?_
          refine x_iconst (dT U_X11_gate 66 rfl) ?_
          refine x_ireturn (dT U_X11_gate 67 rfl) rfl ?_
          exact e1 (by omega) _ _ (Ag.tr (Ag.rf 70 142 h) (g1.w (by omega))) w1 (by unfold xr; omega)
      · skip
        refine x_iload (dT U_X11_gate 8 rfl) rfl ?_
        refine x_if_eqj (tgt := 39) (dT U_X11_gate 9 rfl) (by decide) (by decide) ?_
        refine x_iconst (dT U_X11_gate 18 rfl) ?_
        refine x_istore (ls' := [some (.ref _), some (vi _), some (vi _), some (vi _), some (vi _), some (vi _)]) (dT U_X11_gate 19 rfl) (by decide) rfl ?_
        refine x_iload_n (dT U_X11_gate 20 rfl) rfl ?_
        refine x_iconst (dT U_X11_gate 21 rfl) ?_
        refine x_icmp_ne (tgt := 66) (dT U_X11_gate 22 rfl) (by decide) h_kind (by unfold xr; omega) (fun c44 => ?_) (fun c44 => ?_)
        · skip
          refine x_aload_n (dT U_X11_gate 32 rfl) rfl ?_
          refine x_iload (dT U_X11_gate 33 rfl) rfl ?_
          refine x_iconst (dT U_X11_gate 34 rfl) ?_
          refine x_invokevirtual (rc' := rc) (rs' := rs) (rc2 := 0) (rs2 := 0) (As := [_, _]) (st := _) M_X11_lets K_X11_167 (dT U_X11_gate 35 rfl) rfl rfl (by decide) rfl rfl w.c70 (Nat.le_of_ble_eq_true rfl) (by decide) rfl (Nat.le_of_ble_eq_true rfl) rfl (by decide) (Nat.le_of_ble_eq_true rfl) rfl rfl ?_
          refine S_X11_lets0 w (fun h1 g1 w1 => ?_)
          refine xRet_some ?_
          refine x_if_eqj (tgt := 132) (dT U_X11_gate 36 rfl) (by decide) (by decide) ?_
          refine x_iconst (dT U_X11_gate 66 rfl) ?_
          refine x_ireturn (dT U_X11_gate 67 rfl) rfl ?_
          exact e1 (by omega) _ _ (Ag.tr (Ag.rf 70 142 h) (g1.w (by omega))) w1 (by unfold xr; omega)
        · skip
          refine x_iload (dT U_X11_gate 23 rfl) rfl ?_
          refine x_if_eqj (tgt := 63) (dT U_X11_gate 24 rfl) (by decide) (by decide) ?_
          refine x_iconst (dT U_X11_gate 30 rfl) ?_
          refine x_istore (ls' := [some (.ref _), some (vi _), some (vi _), some (vi _), some (vi _), some (vi _)]) (dT U_X11_gate 31 rfl) (by decide) rfl ?_
          refine x_aload_n (dT U_X11_gate 32 rfl) rfl ?_
          refine x_iload (dT U_X11_gate 33 rfl) rfl ?_
          refine x_iconst (dT U_X11_gate 34 rfl) ?_
          refine x_invokevirtual (rc' := rc) (rs' := rs) (rc2 := 0) (rs2 := 0) (As := [_, _]) (st := _) M_X11_lets K_X11_167 (dT U_X11_gate 35 rfl) rfl rfl (by decide) rfl rfl w.c70 (Nat.le_of_ble_eq_true rfl) (by decide) rfl (Nat.le_of_ble_eq_true rfl) rfl (by decide) (Nat.le_of_ble_eq_true rfl) rfl rfl ?_
          refine S_X11_lets0 w (fun h1 g1 w1 => ?_)
          refine xRet_some ?_
          refine x_if_eqj (tgt := 132) (dT U_X11_gate 36 rfl) (by decide) (by decide) ?_
          refine x_iconst (dT U_X11_gate 66 rfl) ?_
          refine x_ireturn (dT U_X11_gate 67 rfl) rfl ?_
          exact e1 (by omega) _ _ (Ag.tr (Ag.rf 70 142 h) (g1.w (by omega))) w1 (by unfold xr; omega)

set_option maxRecDepth 20000 in
set_option maxHeartbeats 1000000 in
theorem S_X11_ungate {G : xG} {d rc rs : Nat} {ex : Bool} {h : xH} {Q : xQ} {σ : St} {cc0 : Int} {rr : Nat} {ss : Int} (w : MX σ cc0 rr ss h) (v : INV σ) (k : ∀ h2 r2 s2, Ag 70 142 h h2 → MX (σ.sG (0, σ.G.k, σ.G.a, σ.G.b, σ.G.c)) 0 r2 s2 h2 → Q (.inl (some (vi ((σ.G.n : Int))))) ex h2) : X G m_X11_ungate d rc rs ex 0 (xe m_X11_ungate.2.2.1 [.ref 70]) [] h Q := by
  show X G m_X11_ungate _ _ _ _ 0 [some (.ref 70), none] [] h Q
  have hp := PRb v.p
  have hq := gq_b v.p
  refine x_aload_n (dT U_X11_ungate 0 rfl) rfl ?_
  refine x_iconst (dT U_X11_ungate 1 rfl) ?_
  refine x_putfield F_X11_122 (dT U_X11_ungate 2 rfl) w.c70 (Nat.le_of_ble_eq_true rfl) (Nat.le_of_ble_eq_true rfl) rfl rfl ?_
  change X G _ _ _ _ _ _ _ _ (h.set 70 (mC 0 σ.p σ.G.n σ.g.b rr σ.g.c ss σ.g.z σ.g.o σ.L.n)) _
  have w1 := w.code (e := 0) (h2 := h.set 70 (mC 0 σ.p σ.G.n σ.g.b rr σ.g.c ss σ.g.z σ.g.o σ.L.n)) (fun a ha => hset_fr ha) (hset_eq w.c70)
  refine x_aload_n (dT U_X11_ungate 3 rfl) rfl ?_
  refine x_getfield F_X11_140 (dT U_X11_ungate 4 rfl) w1.c70 (Nat.le_of_ble_eq_true rfl) rfl ?_
  refine x_istore_n (ls' := [some (.ref _), some (vi _)]) (dT U_X11_ungate 5 rfl) (by decide) rfl ?_
  refine x_aload_n (dT U_X11_ungate 6 rfl) rfl ?_
  refine x_iconst (dT U_X11_ungate 7 rfl) ?_
  refine x_putfield F_X11_140 (dT U_X11_ungate 8 rfl) w1.c70 (Nat.le_of_ble_eq_true rfl) (Nat.le_of_ble_eq_true rfl) rfl rfl ?_
  change X G _ _ _ _ _ _ _ _ (List.set _ 70 (mC 0 σ.p 0 σ.g.b rr σ.g.c ss σ.g.z σ.g.o σ.L.n)) _
  refine x_iload_n (dT U_X11_ungate 9 rfl) rfl ?_
  refine x_ireturn (dT U_X11_ungate 10 rfl) rfl ?_
  exact k _ _ _ (((Ag.rf 70 142 h).set (by omega)).set (by omega)) (w1.gate (G := (0, σ.G.k, σ.G.a, σ.G.b, σ.G.c)) (fun a ha => by rw [hset_fr (by omega)]) (hset_eq w1.c70) (fun j hj => hset_ne (by omega) (w1.gates j hj)))
