def mh (p : Int) (n : Nat) (pt : List Int) (l : List Int) : Nat → List Int
  | 0 => l
  | t + 1 => fillL (fun j => (if t < n then (mh p n pt l t).getD j 0 + pt.getD t 0 * ((mh p n pt l t).getD (j + 8 / 2 ^ (t + 1)) 0 - (mh p n pt l t).getD j 0) else (mh p n pt l t).getD j 0 + (mh p n pt l t).getD (j + 8 / 2 ^ (t + 1)) 0) % p) (mh p n pt l t) (8 / 2 ^ (t + 1))
theorem mh_F {p : Int} {n : Nat} {pt l : List Int} (hp : 0 < p) (hl : Fl p l) : ∀ t, Fl p (mh p n pt l t)
  | 0 => hl
  | t + 1 => fill_F (mh_F hp hl t) (fun _ => modb hp) _
theorem mh_half0 : ∀ t ∈ List.range 3, (xI ((8 / 2 ^ t : Nat) : Int)).toInt = ((8 / 2 ^ t : Nat) : Int) ∧ ((8 / 2 ^ t : Nat) : Int).tdiv 2 = ((8 / 2 ^ (t + 1) : Nat) : Int) ∧ 8 / 2 ^ (t + 1) ≤ 4 ∧ 2 * (8 / 2 ^ (t + 1)) = 8 / 2 ^ t ∧ 1 ≤ 8 / 2 ^ (t + 1) := by decide +kernel
theorem mh_half {t : Nat} (h : t < 3) : ((8 / 2 ^ t : Nat) : Int).tdiv 2 = ((8 / 2 ^ (t + 1) : Nat) : Int) ∧ 8 / 2 ^ (t + 1) ≤ 4 ∧ 2 * (8 / 2 ^ (t + 1)) = 8 / 2 ^ t ∧ 1 ≤ 8 / 2 ^ (t + 1) := (mh_half0 t (List.mem_range.mpr h)).2

set_option maxRecDepth 20000 in
set_option maxHeartbeats 1000000 in
theorem S_sum1 {G : xG} {d rc rs : Nat} {ex : Bool} {h : xH} {Q : xQ} {σ : St} {cc0 : Int} {rr : Nat} {ss : Int} {m9 t xa : Nat} {pt l l37 : List Int} (w : MX σ cc0 rr ss h) (v : INV σ) (ht : t < 3) (hn : m9 ≤ 3) (h37 : h[137]? = some (cA 0 l37)) (hpt : h[142]? = some (cA 0 pt)) (lpt : pt.length = 3) (ptb : ∀ j, j < m9 → 0 ≤ pt.getD j 0 ∧ pt.getD j 0 < σ.p) (mF : Fl (σ.p : Int) (mh (σ.p : Int) m9 pt l t))
    (M : X G m_X11_sumOf (d + 1) rc rs ex 103 [some (.ref 70), some (.ref xa), some (vi (m9 : Int)), some (vi (((8 / 2 ^ (t + 1)) : Nat) : Int)), some (vi (t : Int)), some (vi (((8 / 2 ^ (t + 1)) : Nat) : Int)), none, none, none, none] [] (h.set 137 (cA 0 (mh (σ.p : Int) m9 pt l (t + 1)))) Q) : X G m_X11_sumOf (d + 1) rc rs ex 27 [some (.ref 70), some (.ref xa), some (vi (m9 : Int)), some (vi (((8 / 2 ^ (t + 1)) : Nat) : Int)), some (vi (t : Int)), some (vi 0), none, none, none, none] [] (h.set 137 (cA 0 (mh (σ.p : Int) m9 pt l t))) Q := by
  have hp := PRb v.p
  have hs9 := (mh_half ht).2
  have L : ∀ (n u : Nat), u + n = (8 / 2 ^ (t + 1)) → X G m_X11_sumOf (d + 1) rc rs ex 27 [some (.ref 70), some (.ref xa), some (vi (m9 : Int)), some (vi (((8 / 2 ^ (t + 1)) : Nat) : Int)), some (vi (t : Int)), some (vi (u : Int)), none, none, none, none] [] (h.set 137 (cA 0 (fillL (fun j => (if t < m9 then (mh (σ.p : Int) m9 pt l t).getD j 0 + pt.getD t 0 * ((mh (σ.p : Int) m9 pt l t).getD (j + (8 / 2 ^ (t + 1))) 0 - (mh (σ.p : Int) m9 pt l t).getD j 0) else (mh (σ.p : Int) m9 pt l t).getD j 0 + (mh (σ.p : Int) m9 pt l t).getD (j + (8 / 2 ^ (t + 1))) 0) % (σ.p : Int)) (mh (σ.p : Int) m9 pt l t) u))) Q := by
    intro n
    induction n with
    | zero =>
      intro u hi_ 
      refine x_iload (dT U_X11_sumOf 17 rfl) rfl ?_
      refine x_iload_n (dT U_X11_sumOf 18 rfl) rfl ?_
      refine x_icmp_ge (tgt := 103) (dT U_X11_sumOf 19 rfl) (by decide) (by unfold xr; omega) (by unfold xr; omega) (fun c30 => ?_) (fun c30 => ?_)
      · skip
        have e : u = (8 / 2 ^ (t + 1)) := by omega
        subst e
        exact M
      · exfalso; omega
    | succ n ih =>
      intro u hi_ 
      have L0 := fillL_len (fun j => (if t < m9 then (mh (σ.p : Int) m9 pt l t).getD j 0 + pt.getD t 0 * ((mh (σ.p : Int) m9 pt l t).getD (j + (8 / 2 ^ (t + 1))) 0 - (mh (σ.p : Int) m9 pt l t).getD j 0) else (mh (σ.p : Int) m9 pt l t).getD j 0 + (mh (σ.p : Int) m9 pt l t).getD (j + (8 / 2 ^ (t + 1))) 0) % (σ.p : Int)) (mh (σ.p : Int) m9 pt l t) u
      have a1 := fillL_ge (fun j => (if t < m9 then (mh (σ.p : Int) m9 pt l t).getD j 0 + pt.getD t 0 * ((mh (σ.p : Int) m9 pt l t).getD (j + (8 / 2 ^ (t + 1))) 0 - (mh (σ.p : Int) m9 pt l t).getD j 0) else (mh (σ.p : Int) m9 pt l t).getD j 0 + (mh (σ.p : Int) m9 pt l t).getD (j + (8 / 2 ^ (t + 1))) 0) % (σ.p : Int)) (mh (σ.p : Int) m9 pt l t) u u (Nat.le_refl u)
      have a2 := fillL_ge (fun j => (if t < m9 then (mh (σ.p : Int) m9 pt l t).getD j 0 + pt.getD t 0 * ((mh (σ.p : Int) m9 pt l t).getD (j + (8 / 2 ^ (t + 1))) 0 - (mh (σ.p : Int) m9 pt l t).getD j 0) else (mh (σ.p : Int) m9 pt l t).getD j 0 + (mh (σ.p : Int) m9 pt l t).getD (j + (8 / 2 ^ (t + 1))) 0) % (σ.p : Int)) (mh (σ.p : Int) m9 pt l t) u (u + (8 / 2 ^ (t + 1))) (by omega)
      have b1 := mF.2 u
      have b2 := mF.2 (u + (8 / 2 ^ (t + 1)))
      refine x_iload (dT U_X11_sumOf 17 rfl) rfl ?_
      refine x_iload_n (dT U_X11_sumOf 18 rfl) rfl ?_
      refine x_icmp_ge (tgt := 103) (dT U_X11_sumOf 19 rfl) (by decide) (by unfold xr; omega) (by unfold xr; omega) (fun c30 => ?_) (fun c30 => ?_)
      · exfalso; omega
      · skip
        refine x_aload_n (dT U_X11_sumOf 20 rfl) rfl ?_
        refine x_getfield F_X11_100 (dT U_X11_sumOf 21 rfl) (hset_ne (by omega) (w.c70)) (Nat.le_of_ble_eq_true rfl) rfl ?_
        refine x_iload (dT U_X11_sumOf 22 rfl) rfl ?_
        refine x_ialoadv (u) (dT U_X11_sumOf 23 rfl) (hset_eq h37) (Nat.le_of_ble_eq_true rfl) rfl (by rw [L0, mF.1]; omega) (by rw [L0, mF.1]; omega) a1 ?_
        refine x_i2l (dT U_X11_sumOf 24 rfl) (by unfold xr; omega) ?_
        refine x_lstore (ls' := [some (.ref _), some (.ref _), some (vi _), some (vi _), some (vi _), some (vi _), some (vl _), none, none, none]) (dT U_X11_sumOf 25 rfl) (by decide) rfl ?_
        refine x_aload_n (dT U_X11_sumOf 26 rfl) rfl ?_
        refine x_getfield F_X11_100 (dT U_X11_sumOf 27 rfl) (hset_ne (by omega) (w.c70)) (Nat.le_of_ble_eq_true rfl) rfl ?_
        refine x_iload_n (dT U_X11_sumOf 28 rfl) rfl ?_
        refine x_iload (dT U_X11_sumOf 29 rfl) rfl ?_
        refine x_iadd (dT U_X11_sumOf 30 rfl) ?_
        refine x_ialoadv (u + (8 / 2 ^ (t + 1))) (dT U_X11_sumOf 31 rfl) (hset_eq h37) (Nat.le_of_ble_eq_true rfl) (by omega) (by rw [L0, mF.1]; omega) (by rw [L0, mF.1]; omega) a2 ?_
        refine x_i2l (dT U_X11_sumOf 32 rfl) (by unfold xr; omega) ?_
        refine x_lstore (ls' := [some (.ref _), some (.ref _), some (vi _), some (vi _), some (vi _), some (vi _), some (vl _), none, some (vl _), none]) (dT U_X11_sumOf 33 rfl) (by decide) rfl ?_
        refine x_aload_n (dT U_X11_sumOf 34 rfl) rfl ?_
        refine x_getfield F_X11_100 (dT U_X11_sumOf 35 rfl) (hset_ne (by omega) (w.c70)) (Nat.le_of_ble_eq_true rfl) rfl ?_
        refine x_iload (dT U_X11_sumOf 36 rfl) rfl ?_
        refine x_aload_n (dT U_X11_sumOf 37 rfl) rfl ?_
        refine x_iload (dT U_X11_sumOf 38 rfl) rfl ?_
        refine x_iload_n (dT U_X11_sumOf 39 rfl) rfl ?_
        refine x_icmp_ge (tgt := 88) (dT U_X11_sumOf 40 rfl) (by decide) (by unfold xr; omega) (by unfold xr; omega) (fun c65 => ?_) (fun c65 => ?_)
        · skip
          have ev : (fun j => (if t < m9 then (mh (σ.p : Int) m9 pt l t).getD j 0 + pt.getD t 0 * ((mh (σ.p : Int) m9 pt l t).getD (j + (8 / 2 ^ (t + 1))) 0 - (mh (σ.p : Int) m9 pt l t).getD j 0) else (mh (σ.p : Int) m9 pt l t).getD j 0 + (mh (σ.p : Int) m9 pt l t).getD (j + (8 / 2 ^ (t + 1))) 0) % (σ.p : Int)) u = ((mh (σ.p : Int) m9 pt l t).getD u 0 + (mh (σ.p : Int) m9 pt l t).getD (u + (8 / 2 ^ (t + 1))) 0) % (σ.p : Int) := by show (if _ then _ else _) % _ = _; rw [if_neg (by omega)]
          refine x_lload (dT U_X11_sumOf 53 rfl) rfl ?_
          refine x_lload (dT U_X11_sumOf 54 rfl) rfl ?_
          refine x_ladd (dT U_X11_sumOf 55 rfl) ?_
          refine x_invokevirtual (rc' := rc) (rs' := rs) (rc2 := 0) (rs2 := 0) (As := [_]) (st := _) M_X11_f K_X11_156 (dT U_X11_sumOf 56 rfl) rfl rfl (by decide) rfl rfl (hset_ne (by omega) (w.c70)) (Nat.le_of_ble_eq_true rfl) (by decide) rfl (Nat.le_of_ble_eq_true rfl) rfl (by decide) (Nat.le_of_ble_eq_true rfl) rfl rfl ?_
          refine S_X11_f (MP.set (by omega) (w.mp)) v.p (by unfold xrl; omega) ?_
          refine xRet_some ?_
          refine x_iastore (u) (dT U_X11_sumOf 57 rfl) (hset_eq h37) (Nat.le_of_ble_eq_true rfl) rfl (by rw [L0, mF.1]; omega) (by rw [L0, mF.1]; omega) ?_
          rw [List.set_set]
          refine x_iinc (ls' := [some (.ref _), some (.ref _), some (vi _), some (vi _), some (vi _), some (vi _), some (vl _), none, some (vl _), none]) (dT U_X11_sumOf 58 rfl) (by decide) rfl rfl ?_
          refine x_goto (tgt := 27) (dT U_X11_sumOf 59 rfl) (by decide) ?_
          have q := ih (u + 1) (by omega)
          rw [show fillL (fun j => (if t < m9 then (mh (σ.p : Int) m9 pt l t).getD j 0 + pt.getD t 0 * ((mh (σ.p : Int) m9 pt l t).getD (j + (8 / 2 ^ (t + 1))) 0 - (mh (σ.p : Int) m9 pt l t).getD j 0) else (mh (σ.p : Int) m9 pt l t).getD j 0 + (mh (σ.p : Int) m9 pt l t).getD (j + (8 / 2 ^ (t + 1))) 0) % (σ.p : Int)) (mh (σ.p : Int) m9 pt l t) (u + 1) = (fillL (fun j => (if t < m9 then (mh (σ.p : Int) m9 pt l t).getD j 0 + pt.getD t 0 * ((mh (σ.p : Int) m9 pt l t).getD (j + (8 / 2 ^ (t + 1))) 0 - (mh (σ.p : Int) m9 pt l t).getD j 0) else (mh (σ.p : Int) m9 pt l t).getD j 0 + (mh (σ.p : Int) m9 pt l t).getD (j + (8 / 2 ^ (t + 1))) 0) % (σ.p : Int)) (mh (σ.p : Int) m9 pt l t) u).set u ((fun j => (if t < m9 then (mh (σ.p : Int) m9 pt l t).getD j 0 + pt.getD t 0 * ((mh (σ.p : Int) m9 pt l t).getD (j + (8 / 2 ^ (t + 1))) 0 - (mh (σ.p : Int) m9 pt l t).getD j 0) else (mh (σ.p : Int) m9 pt l t).getD j 0 + (mh (σ.p : Int) m9 pt l t).getD (j + (8 / 2 ^ (t + 1))) 0) % (σ.p : Int)) u) from rfl, ev] at q
          refine x_drop ?_ q
          repeat (first | exact trivial | refine ⟨rfl, ?_⟩ | refine ⟨trivial, ?_⟩)
        · skip
          have ev : (fun j => (if t < m9 then (mh (σ.p : Int) m9 pt l t).getD j 0 + pt.getD t 0 * ((mh (σ.p : Int) m9 pt l t).getD (j + (8 / 2 ^ (t + 1))) 0 - (mh (σ.p : Int) m9 pt l t).getD j 0) else (mh (σ.p : Int) m9 pt l t).getD j 0 + (mh (σ.p : Int) m9 pt l t).getD (j + (8 / 2 ^ (t + 1))) 0) % (σ.p : Int)) u = ((mh (σ.p : Int) m9 pt l t).getD u 0 + pt.getD t 0 * ((mh (σ.p : Int) m9 pt l t).getD (u + (8 / 2 ^ (t + 1))) 0 - (mh (σ.p : Int) m9 pt l t).getD u 0)) % (σ.p : Int) := by show (if _ then _ else _) % _ = _; rw [if_pos (by omega)]
          refine x_lload (dT U_X11_sumOf 41 rfl) rfl ?_
          refine x_aload_n (dT U_X11_sumOf 42 rfl) rfl ?_
          refine x_getfield F_X11_115 (dT U_X11_sumOf 43 rfl) (hset_ne (by omega) (w.c70)) (Nat.le_of_ble_eq_true rfl) rfl ?_
          refine x_iload (dT U_X11_sumOf 44 rfl) rfl ?_
          refine x_iaload (t) (dT U_X11_sumOf 45 rfl) (hset_ne (by omega) (hpt)) (Nat.le_of_ble_eq_true rfl) rfl (by omega) (by omega) ?_
          have b3 := ptb t (by omega)
          have m3 := mulb2 (a := (mh (σ.p : Int) m9 pt l t).getD (u + (8 / 2 ^ (t + 1))) 0 - (mh (σ.p : Int) m9 pt l t).getD u 0) (b := pt.getD t 0) (p := (σ.p : Int)) (by omega) b3 (by omega)
          rw [Int.mul_comm] at m3
          refine x_i2l (dT U_X11_sumOf 46 rfl) (by unfold xr; omega) ?_
          refine x_lload (dT U_X11_sumOf 47 rfl) rfl ?_
          refine x_lload (dT U_X11_sumOf 48 rfl) rfl ?_
          refine x_lsub (dT U_X11_sumOf 49 rfl) ?_
          refine x_lmul (dT U_X11_sumOf 50 rfl) ?_
          refine x_ladd (dT U_X11_sumOf 51 rfl) ?_
          refine x_goto (tgt := 93) (dT U_X11_sumOf 52 rfl) (by decide) ?_
          refine x_invokevirtual (rc' := rc) (rs' := rs) (rc2 := 0) (rs2 := 0) (As := [_]) (st := _) M_X11_f K_X11_156 (dT U_X11_sumOf 56 rfl) rfl rfl (by decide) rfl rfl (hset_ne (by omega) (w.c70)) (Nat.le_of_ble_eq_true rfl) (by decide) rfl (Nat.le_of_ble_eq_true rfl) rfl (by decide) (Nat.le_of_ble_eq_true rfl) rfl rfl ?_
          refine S_X11_f (MP.set (by omega) (w.mp)) v.p (by unfold xrl; omega) ?_
          refine xRet_some ?_
          refine x_iastore (u) (dT U_X11_sumOf 57 rfl) (hset_eq h37) (Nat.le_of_ble_eq_true rfl) rfl (by rw [L0, mF.1]; omega) (by rw [L0, mF.1]; omega) ?_
          rw [List.set_set]
          refine x_iinc (ls' := [some (.ref _), some (.ref _), some (vi _), some (vi _), some (vi _), some (vi _), some (vl _), none, some (vl _), none]) (dT U_X11_sumOf 58 rfl) (by decide) rfl rfl ?_
          refine x_goto (tgt := 27) (dT U_X11_sumOf 59 rfl) (by decide) ?_
          have q := ih (u + 1) (by omega)
          rw [show fillL (fun j => (if t < m9 then (mh (σ.p : Int) m9 pt l t).getD j 0 + pt.getD t 0 * ((mh (σ.p : Int) m9 pt l t).getD (j + (8 / 2 ^ (t + 1))) 0 - (mh (σ.p : Int) m9 pt l t).getD j 0) else (mh (σ.p : Int) m9 pt l t).getD j 0 + (mh (σ.p : Int) m9 pt l t).getD (j + (8 / 2 ^ (t + 1))) 0) % (σ.p : Int)) (mh (σ.p : Int) m9 pt l t) (u + 1) = (fillL (fun j => (if t < m9 then (mh (σ.p : Int) m9 pt l t).getD j 0 + pt.getD t 0 * ((mh (σ.p : Int) m9 pt l t).getD (j + (8 / 2 ^ (t + 1))) 0 - (mh (σ.p : Int) m9 pt l t).getD j 0) else (mh (σ.p : Int) m9 pt l t).getD j 0 + (mh (σ.p : Int) m9 pt l t).getD (j + (8 / 2 ^ (t + 1))) 0) % (σ.p : Int)) (mh (σ.p : Int) m9 pt l t) u).set u ((fun j => (if t < m9 then (mh (σ.p : Int) m9 pt l t).getD j 0 + pt.getD t 0 * ((mh (σ.p : Int) m9 pt l t).getD (j + (8 / 2 ^ (t + 1))) 0 - (mh (σ.p : Int) m9 pt l t).getD j 0) else (mh (σ.p : Int) m9 pt l t).getD j 0 + (mh (σ.p : Int) m9 pt l t).getD (j + (8 / 2 ^ (t + 1))) 0) % (σ.p : Int)) u) from rfl, ev] at q
          refine x_drop ?_ q
          repeat (first | exact trivial | refine ⟨rfl, ?_⟩ | refine ⟨trivial, ?_⟩)
  exact L (8 / 2 ^ (t + 1)) 0 (by omega)

set_option maxRecDepth 20000 in
set_option maxHeartbeats 1000000 in
theorem S_X11_sumOf {G : xG} {d rc rs : Nat} {ex : Bool} {h : xH} {Q : xQ} {σ : St} {cc0 : Int} {rr : Nat} {ss : Int} {m9 xa : Nat} {pt l : List Int} (w : MX σ cc0 rr ss h) (v : INV σ) (hx : h[xa]? = some (cA 0 l)) (x3 : 3 ≤ xa) (ll : Fl (σ.p : Int) l) (hpt : h[142]? = some (cA 0 pt)) (lpt : pt.length = 3) (ptb : ∀ j, j < m9 → 0 ≤ pt.getD j 0 ∧ pt.getD j 0 < σ.p) (hn : m9 ≤ 3) (k : ∀ {l37 : List Int}, h[137]? = some (cA 0 l37) → (mh (σ.p : Int) m9 pt l 3).length = 8 → Fl (σ.p : Int) (mh (σ.p : Int) m9 pt l 3) → Q (.inl (some (vi ((mh (σ.p : Int) m9 pt l 3).getD 0 0)))) ex (h.set 137 (cA 0 (mh (σ.p : Int) m9 pt l 3)))) : X G m_X11_sumOf (d + 1) rc rs ex 0 (xe m_X11_sumOf.2.2.1 [.ref 70, .ref xa, vi (m9 : Int)]) [] h Q := by
  show X G m_X11_sumOf _ _ _ _ 0 [some (.ref 70), some (.ref xa), some (vi (m9 : Int)), none, none, none, none, none, none, none] [] h Q
  have hp := PRb v.p
  have hq := gq_b v.p
  obtain ⟨l37, h37, l37l⟩ := w.s137
  refine x_aload_n (dT U_X11_sumOf 0 rfl) rfl ?_
  refine x_getfield F_X11_100 (dT U_X11_sumOf 1 rfl) w.c70 (Nat.le_of_ble_eq_true rfl) rfl ?_
  refine x_aload_n (dT U_X11_sumOf 2 rfl) rfl ?_
  refine x_invokestatic (rc' := rc) (rs' := rs) (rc2 := 0) (rs2 := 0) (As := [_, _]) (st := _) M_X11_becomes K_X11_189 (dT U_X11_sumOf 3 rfl) rfl rfl rfl rfl (Nat.le_of_ble_eq_true rfl) rfl (by decide) (Nat.le_of_ble_eq_true rfl) rfl rfl ?_
  refine S_becomes8 h37 (by omega) l37l hx x3 ll.1 ?_
  refine xRet_none ?_
  refine x_bipush (dT U_X11_sumOf 4 rfl) (by decide) ?_
  refine x_istore_n (ls' := [some (.ref _), some (.ref _), some (vi _), some (vi _), none, none, none, none, none, none]) (dT U_X11_sumOf 5 rfl) (by decide) rfl ?_
  refine x_iconst (dT U_X11_sumOf 6 rfl) ?_
  refine x_istore (ls' := [some (.ref _), some (.ref _), some (vi _), some (vi _), some (vi _), none, none, none, none, none]) (dT U_X11_sumOf 7 rfl) (by decide) rfl ?_
  have L : ∀ (n t : Nat), t + n = 3 → X G m_X11_sumOf (d + 1) rc rs ex 14 [some (.ref 70), some (.ref xa), some (vi (m9 : Int)), some (vi ((8 / 2 ^ t : Nat) : Int)), some (vi (t : Int)), none, none, none, none, none] [] (h.set 137 (cA 0 (mh (σ.p : Int) m9 pt l t))) Q := by
    intro n
    induction n with
    | zero =>
      intro t hi_ 
      refine x_iload (dT U_X11_sumOf 8 rfl) rfl ?_
      refine x_iconst (dT U_X11_sumOf 9 rfl) ?_
      refine x_icmp_ge (tgt := 109) (dT U_X11_sumOf 10 rfl) (by decide) (by unfold xr; omega) (by unfold xr at *; omega) (fun c17 => ?_) (fun c17 => ?_)
      · skip
        have e : t = 3 := by omega
        subst e
        have mF3 := mh_F (p := (σ.p : Int)) (n := m9) (pt := pt) (by omega) ll 3
        refine x_aload_n (dT U_X11_sumOf 62 rfl) rfl ?_
        refine x_getfield F_X11_100 (dT U_X11_sumOf 63 rfl) (hset_ne (by omega) (w.c70)) (Nat.le_of_ble_eq_true rfl) rfl ?_
        refine x_iconst (dT U_X11_sumOf 64 rfl) ?_
        refine x_iaload (0) (dT U_X11_sumOf 65 rfl) (hset_eq h37) (Nat.le_of_ble_eq_true rfl) rfl (by rw [mF3.1]; omega) (by rw [mF3.1]; omega) ?_
        refine x_ireturn (dT U_X11_sumOf 66 rfl) rfl ?_
        exact k h37 (mF3.1) mF3
      · exfalso; omega
    | succ n ih =>
      intro t hi_ 
      refine x_iload (dT U_X11_sumOf 8 rfl) rfl ?_
      refine x_iconst (dT U_X11_sumOf 9 rfl) ?_
      refine x_icmp_ge (tgt := 109) (dT U_X11_sumOf 10 rfl) (by decide) (by unfold xr; omega) (by unfold xr at *; omega) (fun c17 => ?_) (fun c17 => ?_)
      · exfalso; omega
      · skip
        refine x_iload_n (dT U_X11_sumOf 11 rfl) rfl ?_
        refine x_iconst (dT U_X11_sumOf 12 rfl) ?_
        obtain ⟨t1, t2, t3, t4⟩ := mh_half (t := t) (by omega)
        refine x_idiv (dT U_X11_sumOf 13 rfl) (by unfold xr; omega) (by omega) ?_
        rw [t1]
        refine x_istore_n (ls' := [some (.ref _), some (.ref _), some (vi _), some (vi _), some (vi _), none, none, none, none, none]) (dT U_X11_sumOf 14 rfl) (by decide) rfl ?_
        refine x_iconst (dT U_X11_sumOf 15 rfl) ?_
        refine x_istore (ls' := [some (.ref _), some (.ref _), some (vi _), some (vi _), some (vi _), some (vi _), none, none, none, none]) (dT U_X11_sumOf 16 rfl) (by decide) rfl ?_
        refine x_drop (ls' := [some (.ref 70), some (.ref xa), some (vi (m9 : Int)), some (vi (((8 / 2 ^ (t + 1)) : Nat) : Int)), some (vi (t : Int)), some (vi 0), none, none, none, none]) ?_ (S_sum1 w v (by omega) hn h37 hpt lpt ptb (mh_F (by omega) ll t) ?_)
        · repeat (first | exact trivial | refine ⟨rfl, ?_⟩ | refine ⟨trivial, ?_⟩)
        · skip
          refine x_iinc (ls' := [some (.ref _), some (.ref _), some (vi _), some (vi _), some (vi _), some (vi _), none, none, none, none]) (dT U_X11_sumOf 60 rfl) (by decide) rfl rfl ?_
          refine x_goto (tgt := 14) (dT U_X11_sumOf 61 rfl) (by decide) ?_
          refine x_drop ?_ (ih (t + 1) (by omega))
          repeat (first | exact trivial | refine ⟨rfl, ?_⟩ | refine ⟨trivial, ?_⟩)
  exact L 3 0 (by omega)
