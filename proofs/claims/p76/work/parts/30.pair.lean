def PS : Type := Nat × Int × Int × Int × Int × Int × Int × Int × Int × Int × Int × Int × Int × Int
def PS.st (P : PS) : Nat := P.1
def PS.b (P : PS) : Int := P.2.1
def PS.bl (P : PS) : Int := P.2.2.1
def PS.e (P : PS) : Int := P.2.2.2.1
def PS.m (P : PS) : Int := P.2.2.2.2.1
def PS.c (P : PS) : Int := P.2.2.2.2.2.1
def PS.f0 (P : PS) : Int := P.2.2.2.2.2.2.1
def PS.f1 (P : PS) : Int := P.2.2.2.2.2.2.2.1
def PS.c0 (P : PS) : Int := P.2.2.2.2.2.2.2.2.1
def PS.c1 (P : PS) : Int := P.2.2.2.2.2.2.2.2.2.1
def PS.t0 (P : PS) : Int := P.2.2.2.2.2.2.2.2.2.2.1
def PS.t1 (P : PS) : Int := P.2.2.2.2.2.2.2.2.2.2.2.1
def PS.g0 (P : PS) : Int := P.2.2.2.2.2.2.2.2.2.2.2.2.1
def PS.g1 (P : PS) : Int := P.2.2.2.2.2.2.2.2.2.2.2.2.2
def cP (pa : Nat) (y b bl m c : Int) : xC := cO 5 [.ref 5, .ref 4, .ref (pa + 1), .ref (pa + 2), .ref (pa + 3), vi y, vi b, vi bl, vi m, vi c]
/-- the exponent of the first message that fits a challenge and an answer at a side -/
def fo (p : Nat) (e s c t : Int) : Int := ((bs p 8 : Int) * t - (e - s * (bs p 0 : Int)) * c) % (p : Int)
abbrev PA2 (p : Nat) (e m s fw fx cx tx : Int) : Prop := (0 ≤ m ∧ m < p) ∧ fw = (bs p 8 : Int) * m % (p : Int) ∧ (0 ≤ cx ∧ cx < p) ∧ (0 ≤ tx ∧ tx < p) ∧ fx = fo p e s cx tx
abbrev PA3 (p : Nat) (m bl c cw cx tw : Int) : Prop := (0 ≤ c ∧ c < p) ∧ cw = (c - cx) % (p : Int) ∧ tw = (m + cw * bl) % (p : Int)
def PS.ok (p : Nat) (P : PS) : Prop := P.st ≤ 3 ∧ (1 ≤ P.st → (P.b = 0 ∨ P.b = 1) ∧ (0 ≤ P.bl ∧ P.bl < p) ∧ P.e = cm1 p P.b P.bl) ∧
  (2 ≤ P.st → (P.b = 0 → PA2 p P.e P.m 1 P.f0 P.f1 P.c1 P.t1) ∧ (P.b = 1 → PA2 p P.e P.m 0 P.f1 P.f0 P.c0 P.t0)) ∧
  (3 ≤ P.st → (P.b = 0 → PA3 p P.m P.bl P.c P.c0 P.c1 P.t0) ∧ (P.b = 1 → PA3 p P.m P.bl P.c P.c1 P.c0 P.t1)) ∧
  (0 ≤ P.c0 ∧ P.c0 < 24) ∧ (0 ≤ P.c1 ∧ P.c1 < 24) ∧ (0 ≤ P.t0 ∧ P.t0 < 24) ∧ (0 ≤ P.t1 ∧ P.t1 < 24) ∧ (0 ≤ P.f0 ∧ P.f0 < 24) ∧ (0 ≤ P.f1 ∧ P.f1 < 24) ∧ (0 ≤ P.g0 ∧ P.g0 < 192) ∧ (0 ≤ P.g1 ∧ P.g1 < 192)
def PS.y (p : Nat) (P : PS) : Int := if 1 ≤ P.st then MM p P.e else -1
def PS.bb (P : PS) : Int := if 1 ≤ P.st then P.b else 0
def PS.ll (P : PS) : Int := if 1 ≤ P.st then P.bl else 0
def PS.mm (P : PS) : Int := if 2 ≤ P.st then P.m else -1
def PS.cc (P : PS) : Int := if 3 ≤ P.st then P.c else -1
def PS.F0 (p : Nat) (P : PS) : Int := if 2 ≤ P.st then MM p P.f0 else P.g0
def PS.F1 (p : Nat) (P : PS) : Int := if 2 ≤ P.st then MM p P.f1 else P.g1
def PAt (p pa : Nat) (P : PS) (h : xH) : Prop := 9 ≤ pa ∧ h[pa]? = some (cP pa (P.y p) P.bb P.ll P.mm P.cc) ∧ h[pa + 1]? = some (cA 0 [P.F0 p, P.F1 p]) ∧ h[pa + 2]? = some (cA 0 [P.c0, P.c1]) ∧ h[pa + 3]? = some (cA 0 [P.t0, P.t1])
theorem cm1_b {p : Nat} {n b : Int} (hp : 2 < p) : 0 ≤ cm1 p n b ∧ cm1 p n b < p := modb (by omega)
theorem fo_b {p : Nat} {e s c t : Int} (hp : 2 < p) : 0 ≤ fo p e s c t ∧ fo p e s c t < p := modb (by omega)
theorem PS.ok.eb {p : Nat} {P : PS} (k : P.ok p) (hp : 2 < p) (h : 1 ≤ P.st) : 0 ≤ P.e ∧ P.e < p := by rw [(k.2.1 h).2.2]; exact cm1_b hp
theorem PS.ok.yi {p : Nat} {P : PS} (k : P.ok p) (hp : p ∈ PR) : (P.y p = -1 ↔ ¬ 1 ≤ P.st) ∧ -1 ≤ P.y p ∧ P.y p < 192 := by
  have hb := PRb hp
  have hq := gq_b hp
  unfold PS.y
  split
  · rename_i h
    have := MM_b hp (k.eb hb.1 h)
    exact ⟨⟨fun _ => by omega, fun q => absurd h q⟩, by omega, by omega⟩
  · rename_i h
    exact ⟨⟨fun _ => h, fun _ => rfl⟩, by omega, by omega⟩
theorem PS.ok.bC {p : Nat} {P : PS} (k : P.ok p) (h : 1 ≤ P.st) : P.b = 0 ∨ P.b = 1 := (k.2.1 h).1
theorem PS.ok.mr {p : Nat} {P : PS} (k : P.ok p) (h : 2 ≤ P.st) : 0 ≤ P.m ∧ P.m < p := by
  rcases k.bC (by omega) with c | c
  · exact ((k.2.2.1 h).1 c).1
  · exact ((k.2.2.1 h).2 c).1
theorem PS.ok.cr {p : Nat} {P : PS} (k : P.ok p) (h : 3 ≤ P.st) : 0 ≤ P.c ∧ P.c < p := by
  rcases k.bC (by omega) with c | c
  · exact ((k.2.2.2.1 h).1 c).1
  · exact ((k.2.2.2.1 h).2 c).1
theorem PS.ok.mi {p : Nat} {P : PS} (k : P.ok p) : (P.mm = -1 ↔ ¬ 2 ≤ P.st) ∧ -1 ≤ P.mm ∧ P.mm < p := by
  unfold PS.mm
  split
  · rename_i h
    have := k.mr h
    exact ⟨⟨fun _ => by omega, fun q => absurd h q⟩, by omega, by omega⟩
  · rename_i h
    exact ⟨⟨fun _ => h, fun _ => rfl⟩, by omega, by omega⟩
theorem PS.ok.ci {p : Nat} {P : PS} (k : P.ok p) : (P.cc = -1 ↔ ¬ 3 ≤ P.st) ∧ -1 ≤ P.cc ∧ P.cc < p := by
  unfold PS.cc
  split
  · rename_i h
    have := k.cr h
    exact ⟨⟨fun _ => by omega, fun q => absurd h q⟩, by omega, by omega⟩
  · rename_i h
    exact ⟨⟨fun _ => h, fun _ => rfl⟩, by omega, by omega⟩
/-- equal but for multiples of p -/
theorem emq {a b p : Int} (k : Int) (h : a - b = p * k) : a % p = b % p := by
  rw [show a = b + p * k by omega, Int.add_mul_emod_self_left]
theorem emx {a p : Int} : ∃ k, a % p = a - p * k := ⟨a / p, Int.emod_def a p⟩

set_option maxRecDepth 20000 in
set_option maxHeartbeats 1000000 in
theorem S_X5_hasMember {G : xG} {d rc rs : Nat} {ex : Bool} {h : xH} {Q : xQ} {p pa : Nat} {P : PS} (hp5 : p ∈ PR) (hr : PAt p pa P h) (ok : P.ok p) (hw : GW p h) (k1 : 1 ≤ P.st → Q (.inl (some (vi 1))) ex h) (k0 : ¬ 1 ≤ P.st → Q (.inl (some (vi 0))) ex h) : X G m_X5_hasMember d rc rs ex 0 (xe m_X5_hasMember.2.2.1 [.ref pa]) [] h Q := by
  show X G m_X5_hasMember _ _ _ _ 0 [some (.ref pa)] [] h Q
  have hp := PRb hp5
  have hq := gq_b hp5
  obtain ⟨hf, hg, hml, hex, hbs⟩ := id hw
  obtain ⟨r9, hP, hF, hC, hT⟩ := id hr
  have hP : h[pa]? = some (cO 5 [.ref 5, .ref 4, .ref (pa + 1), .ref (pa + 2), .ref (pa + 3), vi (P.y p), vi (P.bb), vi (P.ll), vi (P.mm), vi (P.cc)]) := hP
  have ii := (ok.yi hp5)
  refine x_aload_n (dT U_X5_hasMember 0 rfl) rfl ?_
  refine x_getfield F_X5_35 (dT U_X5_hasMember 1 rfl) hP (by omega) rfl ?_
  refine x_iconst (dT U_X5_hasMember 2 rfl) ?_
  refine x_icmp_eq (tgt := 12) (dT U_X5_hasMember 3 rfl) (by decide) (by unfold xr; omega) (by unfold xr at *; omega) (fun c5 => ?_) (fun c5 => ?_)
  · skip
    refine x_iconst (dT U_X5_hasMember 6 rfl) ?_
    refine x_zreturn (dT U_X5_hasMember 7 rfl) rfl (by omega) ?_
    first | exact k0 (ii.1.mp (by assumption)) | exact k1 (Decidable.byContradiction fun z => absurd (ii.1.mpr z) (by assumption))
  · skip
    refine x_iconst (dT U_X5_hasMember 4 rfl) ?_
    refine x_goto (tgt := 13) (dT U_X5_hasMember 5 rfl) (by decide) ?_
    refine x_zreturn (dT U_X5_hasMember 7 rfl) rfl (by omega) ?_
    first | exact k0 (ii.1.mp (by assumption)) | exact k1 (Decidable.byContradiction fun z => absurd (ii.1.mpr z) (by assumption))

set_option maxRecDepth 20000 in
set_option maxHeartbeats 1000000 in
theorem S_X5_hasFirst {G : xG} {d rc rs : Nat} {ex : Bool} {h : xH} {Q : xQ} {p pa : Nat} {P : PS} (hp5 : p ∈ PR) (hr : PAt p pa P h) (ok : P.ok p) (hw : GW p h) (k1 : 2 ≤ P.st → Q (.inl (some (vi 1))) ex h) (k0 : ¬ 2 ≤ P.st → Q (.inl (some (vi 0))) ex h) : X G m_X5_hasFirst d rc rs ex 0 (xe m_X5_hasFirst.2.2.1 [.ref pa]) [] h Q := by
  show X G m_X5_hasFirst _ _ _ _ 0 [some (.ref pa)] [] h Q
  have hp := PRb hp5
  have hq := gq_b hp5
  obtain ⟨hf, hg, hml, hex, hbs⟩ := id hw
  obtain ⟨r9, hP, hF, hC, hT⟩ := id hr
  have hP : h[pa]? = some (cO 5 [.ref 5, .ref 4, .ref (pa + 1), .ref (pa + 2), .ref (pa + 3), vi (P.y p), vi (P.bb), vi (P.ll), vi (P.mm), vi (P.cc)]) := hP
  have ii := ok.mi
  refine x_aload_n (dT U_X5_hasFirst 0 rfl) rfl ?_
  refine x_getfield F_X5_45 (dT U_X5_hasFirst 1 rfl) hP (by omega) rfl ?_
  refine x_iconst (dT U_X5_hasFirst 2 rfl) ?_
  refine x_icmp_eq (tgt := 12) (dT U_X5_hasFirst 3 rfl) (by decide) (by unfold xr; omega) (by unfold xr at *; omega) (fun c5 => ?_) (fun c5 => ?_)
  · skip
    refine x_iconst (dT U_X5_hasFirst 6 rfl) ?_
    refine x_zreturn (dT U_X5_hasFirst 7 rfl) rfl (by omega) ?_
    first | exact k0 (ii.1.mp (by assumption)) | exact k1 (Decidable.byContradiction fun z => absurd (ii.1.mpr z) (by assumption))
  · skip
    refine x_iconst (dT U_X5_hasFirst 4 rfl) ?_
    refine x_goto (tgt := 13) (dT U_X5_hasFirst 5 rfl) (by decide) ?_
    refine x_zreturn (dT U_X5_hasFirst 7 rfl) rfl (by omega) ?_
    first | exact k0 (ii.1.mp (by assumption)) | exact k1 (Decidable.byContradiction fun z => absurd (ii.1.mpr z) (by assumption))

set_option maxRecDepth 20000 in
set_option maxHeartbeats 1000000 in
theorem S_X5_hasChallenge {G : xG} {d rc rs : Nat} {ex : Bool} {h : xH} {Q : xQ} {p pa : Nat} {P : PS} (hp5 : p ∈ PR) (hr : PAt p pa P h) (ok : P.ok p) (hw : GW p h) (k1 : 3 ≤ P.st → Q (.inl (some (vi 1))) ex h) (k0 : ¬ 3 ≤ P.st → Q (.inl (some (vi 0))) ex h) : X G m_X5_hasChallenge d rc rs ex 0 (xe m_X5_hasChallenge.2.2.1 [.ref pa]) [] h Q := by
  show X G m_X5_hasChallenge _ _ _ _ 0 [some (.ref pa)] [] h Q
  have hp := PRb hp5
  have hq := gq_b hp5
  obtain ⟨hf, hg, hml, hex, hbs⟩ := id hw
  obtain ⟨r9, hP, hF, hC, hT⟩ := id hr
  have hP : h[pa]? = some (cO 5 [.ref 5, .ref 4, .ref (pa + 1), .ref (pa + 2), .ref (pa + 3), vi (P.y p), vi (P.bb), vi (P.ll), vi (P.mm), vi (P.cc)]) := hP
  have ii := ok.ci
  refine x_aload_n (dT U_X5_hasChallenge 0 rfl) rfl ?_
  refine x_getfield F_X5_48 (dT U_X5_hasChallenge 1 rfl) hP (by omega) rfl ?_
  refine x_iconst (dT U_X5_hasChallenge 2 rfl) ?_
  refine x_icmp_eq (tgt := 12) (dT U_X5_hasChallenge 3 rfl) (by decide) (by unfold xr; omega) (by unfold xr at *; omega) (fun c5 => ?_) (fun c5 => ?_)
  · skip
    refine x_iconst (dT U_X5_hasChallenge 6 rfl) ?_
    refine x_zreturn (dT U_X5_hasChallenge 7 rfl) rfl (by omega) ?_
    first | exact k0 (ii.1.mp (by assumption)) | exact k1 (Decidable.byContradiction fun z => absurd (ii.1.mpr z) (by assumption))
  · skip
    refine x_iconst (dT U_X5_hasChallenge 4 rfl) ?_
    refine x_goto (tgt := 13) (dT U_X5_hasChallenge 5 rfl) (by decide) ?_
    refine x_zreturn (dT U_X5_hasChallenge 7 rfl) rfl (by omega) ?_
    first | exact k0 (ii.1.mp (by assumption)) | exact k1 (Decidable.byContradiction fun z => absurd (ii.1.mpr z) (by assumption))

set_option maxRecDepth 20000 in
set_option maxHeartbeats 1000000 in
theorem S_X5_forget {G : xG} {d rc rs : Nat} {ex : Bool} {h : xH} {Q : xQ} {pa : Nat} {y b bl m c : Int} (r9 : 3 ≤ pa) (hr : h[pa]? = some (cP pa y b bl m c)) (k : Q (.inl none) ex (h.set pa (cP pa (-1) 0 0 (-1) (-1)))) : X G m_X5_forget d rc rs ex 0 (xe m_X5_forget.2.2.1 [.ref pa]) [] h Q := by
  show X G m_X5_forget _ _ _ _ 0 [some (.ref pa)] [] h Q
  have hP : h[pa]? = some (cO 5 [.ref 5, .ref 4, .ref (pa + 1), .ref (pa + 2), .ref (pa + 3), vi (y), vi (b), vi (bl), vi (m), vi (c)]) := hr
  refine x_aload_n (dT U_X5_forget 0 rfl) rfl ?_
  refine x_iconst (dT U_X5_forget 1 rfl) ?_
  refine x_putfield F_X5_35 (dT U_X5_forget 2 rfl) hP (by omega) (Nat.le_of_ble_eq_true rfl) rfl rfl ?_
  try rw [List.set_set]
  refine x_aload_n (dT U_X5_forget 3 rfl) rfl ?_
  refine x_iconst (dT U_X5_forget 4 rfl) ?_
  refine x_putfield F_X5_39 (dT U_X5_forget 5 rfl) (hset_eq hP) (by omega) (Nat.le_of_ble_eq_true rfl) rfl rfl ?_
  try rw [List.set_set]
  refine x_aload_n (dT U_X5_forget 6 rfl) rfl ?_
  refine x_iconst (dT U_X5_forget 7 rfl) ?_
  refine x_putfield F_X5_42 (dT U_X5_forget 8 rfl) (hset_eq hP) (by omega) (Nat.le_of_ble_eq_true rfl) rfl rfl ?_
  try rw [List.set_set]
  refine x_aload_n (dT U_X5_forget 9 rfl) rfl ?_
  refine x_iconst (dT U_X5_forget 10 rfl) ?_
  refine x_putfield F_X5_45 (dT U_X5_forget 11 rfl) (hset_eq hP) (by omega) (Nat.le_of_ble_eq_true rfl) rfl rfl ?_
  try rw [List.set_set]
  refine x_aload_n (dT U_X5_forget 12 rfl) rfl ?_
  refine x_iconst (dT U_X5_forget 13 rfl) ?_
  refine x_putfield F_X5_48 (dT U_X5_forget 14 rfl) (hset_eq hP) (by omega) (Nat.le_of_ble_eq_true rfl) rfl rfl ?_
  try rw [List.set_set]
  refine x_return (dT U_X5_forget 15 rfl) rfl ?_
  exact k

set_option maxRecDepth 20000 in
set_option maxHeartbeats 1000000 in
theorem S_X5_beginWith {G : xG} {d rc rs : Nat} {ex : Bool} {h : xH} {Q : xQ} {p : Nat} {n z : Int}{pa : Nat} {y b bl m c : Int} (hp5 : p ∈ PR) (hw : GW p h) (r9 : 9 ≤ pa) (hr : h[pa]? = some (cP pa y b bl m c)) (hn : n = 0 ∨ n = 1) (hz : 0 ≤ z ∧ z < p) (k : Q (.inl none) ex (h.set pa (cP pa (MM p (cm1 p n z)) n z (-1) (-1)))) : X G m_X5_beginWith (d + 3) rc rs ex 0 (xe m_X5_beginWith.2.2.1 [.ref pa, vi n, vi z]) [] h Q := by
  show X G m_X5_beginWith _ _ _ _ 0 [some (.ref pa), some (vi n), some (vi z)] [] h Q
  have hp := PRb hp5
  obtain ⟨hf, hg, hml, hex, hbs⟩ := id hw
  have hP : h[pa]? = some (cO 5 [.ref 5, .ref 4, .ref (pa + 1), .ref (pa + 2), .ref (pa + 3), vi (y), vi (b), vi (bl), vi (m), vi (c)]) := hr
  rcases hn with rfl | rfl
  · skip
    refine x_aload_n (dT U_X5_beginWith 0 rfl) rfl ?_
    refine x_invokevirtual (rc' := rc) (rs' := rs) (rc2 := 0) (rs2 := 0) (As := []) (st := _) M_X5_forget K_X5_32 (dT U_X5_beginWith 1 rfl) rfl rfl (by decide) rfl rfl hP (by omega) (by decide) rfl (Nat.le_of_ble_eq_true rfl) rfl (by decide) (Nat.le_of_ble_eq_true rfl) rfl rfl ?_
    refine S_X5_forget (by omega) hr ?_
    refine xRet_none ?_
    refine x_aload_n (dT U_X5_beginWith 2 rfl) rfl ?_
    refine x_iload_n (dT U_X5_beginWith 3 rfl) rfl ?_
    refine x_iconst (dT U_X5_beginWith 4 rfl) ?_
    refine x_icmp_ne (tgt := 14) (dT U_X5_beginWith 5 rfl) (by decide) (by unfold xr at *; omega) (by unfold xr at *; omega) (fun c7 => ?_) (fun c7 => ?_)
    · skip
      refine x_iconst (dT U_X5_beginWith 8 rfl) ?_
      refine x_putfield F_X5_39 (dT U_X5_beginWith 9 rfl) (hset_eq hP) (by omega) (Nat.le_of_ble_eq_true rfl) rfl rfl ?_
      rw [List.set_set]
      refine x_aload_n (dT U_X5_beginWith 10 rfl) rfl ?_
      refine x_iload_n (dT U_X5_beginWith 11 rfl) rfl ?_
      refine x_putfield F_X5_42 (dT U_X5_beginWith 12 rfl) (hset_eq hP) (by omega) (Nat.le_of_ble_eq_true rfl) rfl rfl ?_
      rw [List.set_set]
      refine x_aload_n (dT U_X5_beginWith 13 rfl) rfl ?_
      refine x_aload_n (dT U_X5_beginWith 14 rfl) rfl ?_
      refine x_getfield F_X5_9 (dT U_X5_beginWith 15 rfl) (hset_eq hP) (by omega) rfl ?_
      refine x_aload_n (dT U_X5_beginWith 16 rfl) rfl ?_
      refine x_getfield F_X5_39 (dT U_X5_beginWith 17 rfl) (hset_eq hP) (by omega) rfl ?_
      refine x_iload_n (dT U_X5_beginWith 18 rfl) rfl ?_
      refine x_invokevirtual (rc' := rc) (rs' := rs) (rc2 := 0) (rs2 := 0) (As := [_, _]) (st := _) M_X3_commitmentOfOne K_X5_51 (dT U_X5_beginWith 19 rfl) rfl rfl (by decide) rfl rfl (hset_ne (by omega) hg) (by omega) (by decide) rfl (Nat.le_of_ble_eq_true rfl) rfl (by decide) (Nat.le_of_ble_eq_true rfl) rfl rfl ?_
      refine S_X3_commitmentOfOne (hw.s1 r9) hp5 (by omega) hz ?_
      refine xRet_some ?_
      refine x_putfield F_X5_35 (dT U_X5_beginWith 20 rfl) (hset_eq hP) (by omega) (Nat.le_of_ble_eq_true rfl) rfl rfl ?_
      rw [List.set_set]
      refine x_return (dT U_X5_beginWith 21 rfl) rfl ?_
      exact k
    · exfalso; omega
  · skip
    refine x_aload_n (dT U_X5_beginWith 0 rfl) rfl ?_
    refine x_invokevirtual (rc' := rc) (rs' := rs) (rc2 := 0) (rs2 := 0) (As := []) (st := _) M_X5_forget K_X5_32 (dT U_X5_beginWith 1 rfl) rfl rfl (by decide) rfl rfl hP (by omega) (by decide) rfl (Nat.le_of_ble_eq_true rfl) rfl (by decide) (Nat.le_of_ble_eq_true rfl) rfl rfl ?_
    refine S_X5_forget (by omega) hr ?_
    refine xRet_none ?_
    refine x_aload_n (dT U_X5_beginWith 2 rfl) rfl ?_
    refine x_iload_n (dT U_X5_beginWith 3 rfl) rfl ?_
    refine x_iconst (dT U_X5_beginWith 4 rfl) ?_
    refine x_icmp_ne (tgt := 14) (dT U_X5_beginWith 5 rfl) (by decide) (by unfold xr at *; omega) (by unfold xr at *; omega) (fun c7 => ?_) (fun c7 => ?_)
    · exfalso; omega
    · skip
      refine x_iconst (dT U_X5_beginWith 6 rfl) ?_
      refine x_goto (tgt := 15) (dT U_X5_beginWith 7 rfl) (by decide) ?_
      refine x_putfield F_X5_39 (dT U_X5_beginWith 9 rfl) (hset_eq hP) (by omega) (Nat.le_of_ble_eq_true rfl) rfl rfl ?_
      rw [List.set_set]
      refine x_aload_n (dT U_X5_beginWith 10 rfl) rfl ?_
      refine x_iload_n (dT U_X5_beginWith 11 rfl) rfl ?_
      refine x_putfield F_X5_42 (dT U_X5_beginWith 12 rfl) (hset_eq hP) (by omega) (Nat.le_of_ble_eq_true rfl) rfl rfl ?_
      rw [List.set_set]
      refine x_aload_n (dT U_X5_beginWith 13 rfl) rfl ?_
      refine x_aload_n (dT U_X5_beginWith 14 rfl) rfl ?_
      refine x_getfield F_X5_9 (dT U_X5_beginWith 15 rfl) (hset_eq hP) (by omega) rfl ?_
      refine x_aload_n (dT U_X5_beginWith 16 rfl) rfl ?_
      refine x_getfield F_X5_39 (dT U_X5_beginWith 17 rfl) (hset_eq hP) (by omega) rfl ?_
      refine x_iload_n (dT U_X5_beginWith 18 rfl) rfl ?_
      refine x_invokevirtual (rc' := rc) (rs' := rs) (rc2 := 0) (rs2 := 0) (As := [_, _]) (st := _) M_X3_commitmentOfOne K_X5_51 (dT U_X5_beginWith 19 rfl) rfl rfl (by decide) rfl rfl (hset_ne (by omega) hg) (by omega) (by decide) rfl (Nat.le_of_ble_eq_true rfl) rfl (by decide) (Nat.le_of_ble_eq_true rfl) rfl rfl ?_
      refine S_X3_commitmentOfOne (hw.s1 r9) hp5 (by omega) hz ?_
      refine xRet_some ?_
      refine x_putfield F_X5_35 (dT U_X5_beginWith 20 rfl) (hset_eq hP) (by omega) (Nat.le_of_ble_eq_true rfl) rfl rfl ?_
      rw [List.set_set]
      refine x_return (dT U_X5_beginWith 21 rfl) rfl ?_
      exact k

set_option maxRecDepth 20000 in
set_option maxHeartbeats 1000000 in
theorem S_X5_fittingFirst {G : xG} {d rc rs : Nat} {ex : Bool} {h : xH} {Q : xQ} {p pa : Nat} {e s cc tt : Int} {b bl m c : Int} (hp5 : p ∈ PR) (hw : GW p h) (r9 : 9 ≤ pa) (hr : h[pa]? = some (cP pa (MM p e) b bl m c)) (he : 0 ≤ e ∧ e < p) (hs : s = 0 ∨ s = 1) (hc : 0 ≤ cc ∧ cc < p) (ht : 0 ≤ tt ∧ tt < p) (k : Q (.inl (some (vi (MM p (fo p e s cc tt))))) ex h) : X G m_X5_fittingFirst (d + 2) rc rs ex 0 (xe m_X5_fittingFirst.2.2.1 [.ref pa, vi s, vi cc, vi tt]) [] h Q := by
  show X G m_X5_fittingFirst _ _ _ _ 0 [some (.ref pa), some (vi s), some (vi cc), some (vi tt), none] [] h Q
  have hp := PRb hp5
  have hq := gq_b hp5
  obtain ⟨hf, hg, hml, hex, hbs⟩ := id hw
  have hP : h[pa]? = some (cO 5 [.ref 5, .ref 4, .ref (pa + 1), .ref (pa + 2), .ref (pa + 3), vi (MM p e), vi (b), vi (bl), vi (m), vi (c)]) := hr
  refine x_aload_n (dT U_X5_fittingFirst 0 rfl) rfl ?_
  refine x_getfield F_X5_9 (dT U_X5_fittingFirst 1 rfl) hP (by omega) rfl ?_
  refine x_aload_n (dT U_X5_fittingFirst 2 rfl) rfl ?_
  refine x_getfield F_X5_35 (dT U_X5_fittingFirst 3 rfl) hP (by omega) rfl ?_
  refine x_invokevirtual (rc' := rc) (rs' := rs) (rc2 := 0) (rs2 := 0) (As := [_]) (st := _) M_X3_exponentOf K_X5_70 (dT U_X5_fittingFirst 4 rfl) rfl rfl (by decide) rfl rfl hg (by omega) (by decide) rfl (Nat.le_of_ble_eq_true rfl) rfl (by decide) (Nat.le_of_ble_eq_true rfl) rfl rfl ?_
  have hM := MM_b hp5 he
  refine S_X3_exponentOf hw hp5 (by unfold xr; omega) ?_
  rw [exI_MM hp5 he]
  refine xRet_some ?_
  refine x_iload_n (dT U_X5_fittingFirst 5 rfl) rfl ?_
  refine x_aload_n (dT U_X5_fittingFirst 6 rfl) rfl ?_
  refine x_getfield F_X5_9 (dT U_X5_fittingFirst 7 rfl) hP (by omega) rfl ?_
  refine x_getfield F_X5_74 (dT U_X5_fittingFirst 8 rfl) hg (by omega) rfl ?_
  refine x_iconst (dT U_X5_fittingFirst 9 rfl) ?_
  refine x_iaload (0) (dT U_X5_fittingFirst 10 rfl) hbs (by omega) rfl (by unfold bsl; rw [tab_len]; omega) (by unfold bsl; rw [tab_len]; omega) ?_
  rw [bsl_get (by omega)]
  refine x_imul (dT U_X5_fittingFirst 11 rfl) ?_
  refine x_isub (dT U_X5_fittingFirst 12 rfl) ?_
  refine x_istore (ls' := [some (.ref _), some (vi _), some (vi _), some (vi _), some (vi _)]) (dT U_X5_fittingFirst 13 rfl) (by decide) rfl ?_
  refine x_aload_n (dT U_X5_fittingFirst 14 rfl) rfl ?_
  refine x_getfield F_X5_9 (dT U_X5_fittingFirst 15 rfl) hP (by omega) rfl ?_
  refine x_aload_n (dT U_X5_fittingFirst 16 rfl) rfl ?_
  refine x_getfield F_X5_9 (dT U_X5_fittingFirst 17 rfl) hP (by omega) rfl ?_
  refine x_getfield F_X5_74 (dT U_X5_fittingFirst 18 rfl) hg (by omega) rfl ?_
  refine x_bipush (dT U_X5_fittingFirst 19 rfl) (by decide) ?_
  refine x_iaload (8) (dT U_X5_fittingFirst 20 rfl) hbs (by omega) rfl (by unfold bsl; rw [tab_len]; omega) (by unfold bsl; rw [tab_len]; omega) ?_
  rw [bsl_get (by omega)]
  refine x_iload_n (dT U_X5_fittingFirst 21 rfl) rfl ?_
  refine x_imul (dT U_X5_fittingFirst 22 rfl) ?_
  refine x_iload (dT U_X5_fittingFirst 23 rfl) rfl ?_
  refine x_iload_n (dT U_X5_fittingFirst 24 rfl) rfl ?_
  refine x_imul (dT U_X5_fittingFirst 25 rfl) ?_
  refine x_isub (dT U_X5_fittingFirst 26 rfl) ?_
  refine x_invokevirtual (rc' := rc) (rs' := rs) (rc2 := 0) (rs2 := 0) (As := [_]) (st := _) M_X3_memberAt K_X5_77 (dT U_X5_fittingFirst 27 rfl) rfl rfl (by decide) rfl rfl hg (by omega) (by decide) rfl (Nat.le_of_ble_eq_true rfl) rfl (by decide) (Nat.le_of_ble_eq_true rfl) rfl rfl ?_
  have b0 := bs_b hp5 (i := 0) (by omega)
  have b8 := bs_b hp5 (i := 8) (by omega)
  have m1 := mulb (a := (bs p 8 : Int)) (b := tt) (p := (p : Int)) (by omega) ht (by omega)
  have sb : -(p : Int) < e - s * (bs p 0 : Int) ∧ e - s * (bs p 0 : Int) < p := by rcases hs with rfl | rfl <;> omega
  have m2 := mulb2 sb hc (by omega)
  refine S_X3_memberAt hw hp5 (by unfold xr; omega) ?_
  refine xRet_some ?_
  refine x_ireturn (dT U_X5_fittingFirst 28 rfl) rfl ?_
  exact k

set_option maxRecDepth 20000 in
set_option maxHeartbeats 1000000 in
theorem S_X5_hide0 {G : xG} {d rc rs : Nat} {ex : Bool} {h : xH} {Q : xQ} {p pa : Nat} {e z cc tt bl f0 f1 c0 c1 t0 t1 : Int} (hp5 : p ∈ PR) (hw : GW p h) (r9 : 9 ≤ pa) (hr : h[pa]? = some (cP pa (MM p e) 0 bl (-1) (-1))) (hF : h[pa + 1]? = some (cA 0 [f0, f1])) (hC : h[pa + 2]? = some (cA 0 [c0, c1])) (hT : h[pa + 3]? = some (cA 0 [t0, t1])) (he : 0 ≤ e ∧ e < p) (hz : 0 ≤ z ∧ z < p) (hc : 0 ≤ cc ∧ cc < p) (ht : 0 ≤ tt ∧ tt < p) (k : Q (.inl none) ex ((((h.set pa (cP pa (MM p e) 0 bl z (-1))).set (pa + 1) (cA 0 [MM p (cm1 p 0 z), MM p (fo p e 1 cc tt)])).set (pa + 2) (cA 0 [c0, cc])).set (pa + 3) (cA 0 [t0, tt]))) : X G m_X5_hide (d + 3) rc rs ex 0 (xe m_X5_hide.2.2.1 [.ref pa, vi z, vi cc, vi tt]) [] h Q := by
  show X G m_X5_hide _ _ _ _ 0 [some (.ref pa), some (vi z), some (vi cc), some (vi tt), none] [] h Q
  have hp := PRb hp5
  obtain ⟨hf, hg, hml, hex, hbs⟩ := id hw
  have hP : h[pa]? = some (cO 5 [.ref 5, .ref 4, .ref (pa + 1), .ref (pa + 2), .ref (pa + 3), vi (MM p e), vi (0), vi (bl), vi (-1), vi (-1)]) := hr
  refine x_iconst (dT U_X5_hide 0 rfl) ?_
  refine x_aload_n (dT U_X5_hide 1 rfl) rfl ?_
  refine x_getfield F_X5_39 (dT U_X5_hide 2 rfl) hP (by omega) rfl ?_
  refine x_isub (dT U_X5_hide 3 rfl) ?_
  refine x_istore (ls' := [some (.ref _), some (vi _), some (vi _), some (vi _), some (vi _)]) (dT U_X5_hide 4 rfl) (by decide) rfl ?_
  refine x_aload_n (dT U_X5_hide 5 rfl) rfl ?_
  refine x_iload_n (dT U_X5_hide 6 rfl) rfl ?_
  refine x_putfield F_X5_45 (dT U_X5_hide 7 rfl) hP (by omega) (Nat.le_of_ble_eq_true rfl) rfl rfl ?_
  refine x_aload_n (dT U_X5_hide 8 rfl) rfl ?_
  refine x_getfield F_X5_22 (dT U_X5_hide 9 rfl) (hset_eq hP) (by omega) rfl ?_
  refine x_aload_n (dT U_X5_hide 10 rfl) rfl ?_
  refine x_getfield F_X5_39 (dT U_X5_hide 11 rfl) (hset_eq hP) (by omega) rfl ?_
  refine x_aload_n (dT U_X5_hide 12 rfl) rfl ?_
  refine x_getfield F_X5_9 (dT U_X5_hide 13 rfl) (hset_eq hP) (by omega) rfl ?_
  refine x_iconst (dT U_X5_hide 14 rfl) ?_
  refine x_iload_n (dT U_X5_hide 15 rfl) rfl ?_
  refine x_invokevirtual (rc' := rc) (rs' := rs) (rc2 := 0) (rs2 := 0) (As := [_, _]) (st := _) M_X3_commitmentOfOne K_X5_51 (dT U_X5_hide 16 rfl) rfl rfl (by decide) rfl rfl (hset_ne (by omega) hg) (by omega) (by decide) rfl (Nat.le_of_ble_eq_true rfl) rfl (by decide) (Nat.le_of_ble_eq_true rfl) rfl rfl ?_
  refine S_X3_commitmentOfOne (hw.s1 r9) hp5 (by omega) hz ?_
  refine xRet_some ?_
  refine x_iastore (0) (dT U_X5_hide 17 rfl) (hset_ne (by omega) hF) (by omega) rfl (Nat.le_of_ble_eq_true rfl) (Nat.le_of_ble_eq_true rfl) ?_
  refine x_aload_n (dT U_X5_hide 18 rfl) rfl ?_
  refine x_getfield F_X5_22 (dT U_X5_hide 19 rfl) (hset_ne (by omega) (hset_eq hP)) (by omega) rfl ?_
  refine x_iload (dT U_X5_hide 20 rfl) rfl ?_
  refine x_aload_n (dT U_X5_hide 21 rfl) rfl ?_
  refine x_iload (dT U_X5_hide 22 rfl) rfl ?_
  refine x_iload_n (dT U_X5_hide 23 rfl) rfl ?_
  refine x_iload_n (dT U_X5_hide 24 rfl) rfl ?_
  refine x_invokevirtual (rc' := rc) (rs' := rs) (rc2 := 0) (rs2 := 0) (As := [_, _, _]) (st := _) M_X5_fittingFirst K_X5_55 (dT U_X5_hide 25 rfl) rfl rfl (by decide) rfl rfl (hset_ne (by omega) (hset_eq hP)) (by omega) (by decide) rfl (Nat.le_of_ble_eq_true rfl) rfl (by decide) (Nat.le_of_ble_eq_true rfl) rfl rfl ?_
  refine S_X5_fittingFirst hp5 (hw.s2 r9 (by omega)) r9 (hset_ne (by omega) (hset_eq hP)) he (by omega) hc ht ?_
  refine xRet_some ?_
  refine x_iastore (1) (dT U_X5_hide 26 rfl) (hset_eq (hset_ne (by omega) hF)) (by omega) rfl (Nat.le_of_ble_eq_true rfl) (Nat.le_of_ble_eq_true rfl) ?_
  rw [List.set_set]
  refine x_aload_n (dT U_X5_hide 27 rfl) rfl ?_
  refine x_getfield F_X5_26 (dT U_X5_hide 28 rfl) (hset_ne (by omega) (hset_eq hP)) (by omega) rfl ?_
  refine x_iload (dT U_X5_hide 29 rfl) rfl ?_
  refine x_iload_n (dT U_X5_hide 30 rfl) rfl ?_
  refine x_iastore (1) (dT U_X5_hide 31 rfl) (hset_ne (by omega) (hset_ne (by omega) hC)) (by omega) rfl (Nat.le_of_ble_eq_true rfl) (Nat.le_of_ble_eq_true rfl) ?_
  refine x_aload_n (dT U_X5_hide 32 rfl) rfl ?_
  refine x_getfield F_X5_29 (dT U_X5_hide 33 rfl) (hset_ne (by omega) (hset_ne (by omega) (hset_eq hP))) (by omega) rfl ?_
  refine x_iload (dT U_X5_hide 34 rfl) rfl ?_
  refine x_iload_n (dT U_X5_hide 35 rfl) rfl ?_
  refine x_iastore (1) (dT U_X5_hide 36 rfl) (hset_ne (by omega) (hset_ne (by omega) (hset_ne (by omega) hT))) (by omega) rfl (Nat.le_of_ble_eq_true rfl) (Nat.le_of_ble_eq_true rfl) ?_
  refine x_return (dT U_X5_hide 37 rfl) rfl ?_
  exact k

set_option maxRecDepth 20000 in
set_option maxHeartbeats 1000000 in
theorem S_X5_hide1 {G : xG} {d rc rs : Nat} {ex : Bool} {h : xH} {Q : xQ} {p pa : Nat} {e z cc tt bl f0 f1 c0 c1 t0 t1 : Int} (hp5 : p ∈ PR) (hw : GW p h) (r9 : 9 ≤ pa) (hr : h[pa]? = some (cP pa (MM p e) 1 bl (-1) (-1))) (hF : h[pa + 1]? = some (cA 0 [f0, f1])) (hC : h[pa + 2]? = some (cA 0 [c0, c1])) (hT : h[pa + 3]? = some (cA 0 [t0, t1])) (he : 0 ≤ e ∧ e < p) (hz : 0 ≤ z ∧ z < p) (hc : 0 ≤ cc ∧ cc < p) (ht : 0 ≤ tt ∧ tt < p) (k : Q (.inl none) ex ((((h.set pa (cP pa (MM p e) 1 bl z (-1))).set (pa + 1) (cA 0 [MM p (fo p e 0 cc tt), MM p (cm1 p 0 z)])).set (pa + 2) (cA 0 [cc, c1])).set (pa + 3) (cA 0 [tt, t1]))) : X G m_X5_hide (d + 3) rc rs ex 0 (xe m_X5_hide.2.2.1 [.ref pa, vi z, vi cc, vi tt]) [] h Q := by
  show X G m_X5_hide _ _ _ _ 0 [some (.ref pa), some (vi z), some (vi cc), some (vi tt), none] [] h Q
  have hp := PRb hp5
  obtain ⟨hf, hg, hml, hex, hbs⟩ := id hw
  have hP : h[pa]? = some (cO 5 [.ref 5, .ref 4, .ref (pa + 1), .ref (pa + 2), .ref (pa + 3), vi (MM p e), vi (1), vi (bl), vi (-1), vi (-1)]) := hr
  refine x_iconst (dT U_X5_hide 0 rfl) ?_
  refine x_aload_n (dT U_X5_hide 1 rfl) rfl ?_
  refine x_getfield F_X5_39 (dT U_X5_hide 2 rfl) hP (by omega) rfl ?_
  refine x_isub (dT U_X5_hide 3 rfl) ?_
  refine x_istore (ls' := [some (.ref _), some (vi _), some (vi _), some (vi _), some (vi _)]) (dT U_X5_hide 4 rfl) (by decide) rfl ?_
  refine x_aload_n (dT U_X5_hide 5 rfl) rfl ?_
  refine x_iload_n (dT U_X5_hide 6 rfl) rfl ?_
  refine x_putfield F_X5_45 (dT U_X5_hide 7 rfl) hP (by omega) (Nat.le_of_ble_eq_true rfl) rfl rfl ?_
  refine x_aload_n (dT U_X5_hide 8 rfl) rfl ?_
  refine x_getfield F_X5_22 (dT U_X5_hide 9 rfl) (hset_eq hP) (by omega) rfl ?_
  refine x_aload_n (dT U_X5_hide 10 rfl) rfl ?_
  refine x_getfield F_X5_39 (dT U_X5_hide 11 rfl) (hset_eq hP) (by omega) rfl ?_
  refine x_aload_n (dT U_X5_hide 12 rfl) rfl ?_
  refine x_getfield F_X5_9 (dT U_X5_hide 13 rfl) (hset_eq hP) (by omega) rfl ?_
  refine x_iconst (dT U_X5_hide 14 rfl) ?_
  refine x_iload_n (dT U_X5_hide 15 rfl) rfl ?_
  refine x_invokevirtual (rc' := rc) (rs' := rs) (rc2 := 0) (rs2 := 0) (As := [_, _]) (st := _) M_X3_commitmentOfOne K_X5_51 (dT U_X5_hide 16 rfl) rfl rfl (by decide) rfl rfl (hset_ne (by omega) hg) (by omega) (by decide) rfl (Nat.le_of_ble_eq_true rfl) rfl (by decide) (Nat.le_of_ble_eq_true rfl) rfl rfl ?_
  refine S_X3_commitmentOfOne (hw.s1 r9) hp5 (by omega) hz ?_
  refine xRet_some ?_
  refine x_iastore (1) (dT U_X5_hide 17 rfl) (hset_ne (by omega) hF) (by omega) rfl (Nat.le_of_ble_eq_true rfl) (Nat.le_of_ble_eq_true rfl) ?_
  refine x_aload_n (dT U_X5_hide 18 rfl) rfl ?_
  refine x_getfield F_X5_22 (dT U_X5_hide 19 rfl) (hset_ne (by omega) (hset_eq hP)) (by omega) rfl ?_
  refine x_iload (dT U_X5_hide 20 rfl) rfl ?_
  refine x_aload_n (dT U_X5_hide 21 rfl) rfl ?_
  refine x_iload (dT U_X5_hide 22 rfl) rfl ?_
  refine x_iload_n (dT U_X5_hide 23 rfl) rfl ?_
  refine x_iload_n (dT U_X5_hide 24 rfl) rfl ?_
  refine x_invokevirtual (rc' := rc) (rs' := rs) (rc2 := 0) (rs2 := 0) (As := [_, _, _]) (st := _) M_X5_fittingFirst K_X5_55 (dT U_X5_hide 25 rfl) rfl rfl (by decide) rfl rfl (hset_ne (by omega) (hset_eq hP)) (by omega) (by decide) rfl (Nat.le_of_ble_eq_true rfl) rfl (by decide) (Nat.le_of_ble_eq_true rfl) rfl rfl ?_
  refine S_X5_fittingFirst hp5 (hw.s2 r9 (by omega)) r9 (hset_ne (by omega) (hset_eq hP)) he (by omega) hc ht ?_
  refine xRet_some ?_
  refine x_iastore (0) (dT U_X5_hide 26 rfl) (hset_eq (hset_ne (by omega) hF)) (by omega) rfl (Nat.le_of_ble_eq_true rfl) (Nat.le_of_ble_eq_true rfl) ?_
  rw [List.set_set]
  refine x_aload_n (dT U_X5_hide 27 rfl) rfl ?_
  refine x_getfield F_X5_26 (dT U_X5_hide 28 rfl) (hset_ne (by omega) (hset_eq hP)) (by omega) rfl ?_
  refine x_iload (dT U_X5_hide 29 rfl) rfl ?_
  refine x_iload_n (dT U_X5_hide 30 rfl) rfl ?_
  refine x_iastore (0) (dT U_X5_hide 31 rfl) (hset_ne (by omega) (hset_ne (by omega) hC)) (by omega) rfl (Nat.le_of_ble_eq_true rfl) (Nat.le_of_ble_eq_true rfl) ?_
  refine x_aload_n (dT U_X5_hide 32 rfl) rfl ?_
  refine x_getfield F_X5_29 (dT U_X5_hide 33 rfl) (hset_ne (by omega) (hset_ne (by omega) (hset_eq hP))) (by omega) rfl ?_
  refine x_iload (dT U_X5_hide 34 rfl) rfl ?_
  refine x_iload_n (dT U_X5_hide 35 rfl) rfl ?_
  refine x_iastore (0) (dT U_X5_hide 36 rfl) (hset_ne (by omega) (hset_ne (by omega) (hset_ne (by omega) hT))) (by omega) rfl (Nat.le_of_ble_eq_true rfl) (Nat.le_of_ble_eq_true rfl) ?_
  refine x_return (dT U_X5_hide 37 rfl) rfl ?_
  exact k

set_option maxRecDepth 20000 in
set_option maxHeartbeats 1000000 in
theorem S_X5_answerTo0 {G : xG} {d rc rs : Nat} {ex : Bool} {h : xH} {Q : xQ} {p pa : Nat} {y m cc bl c0 c1 t0 t1 : Int} (hp5 : p ∈ PR) (hw : GW p h) (r9 : 9 ≤ pa) (hr : h[pa]? = some (cP pa y 0 bl m (-1))) (hC : h[pa + 2]? = some (cA 0 [c0, c1])) (hT : h[pa + 3]? = some (cA 0 [t0, t1])) (hm : 0 ≤ m ∧ m < p) (hbl : 0 ≤ bl ∧ bl < p) (hc : 0 ≤ cc ∧ cc < p) (ho : 0 ≤ c1 ∧ c1 < p) (k : Q (.inl (some (vi ((m + ((cc - c1) % (p : Int)) * bl) % (p : Int))))) ex (((h.set pa (cP pa y 0 bl m cc)).set (pa + 2) (cA 0 [((cc - c1) % (p : Int)), c1])).set (pa + 3) (cA 0 [((m + ((cc - c1) % (p : Int)) * bl) % (p : Int)), t1]))) : X G m_X5_answerTo (d + 2) rc rs ex 0 (xe m_X5_answerTo.2.2.1 [.ref pa, vi cc]) [] h Q := by
  show X G m_X5_answerTo _ _ _ _ 0 [some (.ref pa), some (vi cc)] [] h Q
  have hp := PRb hp5
  obtain ⟨hf, hg, hml, hex, hbs⟩ := id hw
  have hP : h[pa]? = some (cO 5 [.ref 5, .ref 4, .ref (pa + 1), .ref (pa + 2), .ref (pa + 3), vi (y), vi (0), vi (bl), vi (m), vi (-1)]) := hr
  refine x_aload_n (dT U_X5_answerTo 0 rfl) rfl ?_
  refine x_iload_n (dT U_X5_answerTo 1 rfl) rfl ?_
  refine x_putfield F_X5_48 (dT U_X5_answerTo 2 rfl) hP (by omega) (Nat.le_of_ble_eq_true rfl) rfl rfl ?_
  refine x_aload_n (dT U_X5_answerTo 3 rfl) rfl ?_
  refine x_getfield F_X5_26 (dT U_X5_answerTo 4 rfl) (hset_eq hP) (by omega) rfl ?_
  refine x_aload_n (dT U_X5_answerTo 5 rfl) rfl ?_
  refine x_getfield F_X5_39 (dT U_X5_answerTo 6 rfl) (hset_eq hP) (by omega) rfl ?_
  refine x_aload_n (dT U_X5_answerTo 7 rfl) rfl ?_
  refine x_getfield F_X5_21 (dT U_X5_answerTo 8 rfl) (hset_eq hP) (by omega) rfl ?_
  refine x_iload_n (dT U_X5_answerTo 9 rfl) rfl ?_
  refine x_aload_n (dT U_X5_answerTo 10 rfl) rfl ?_
  refine x_getfield F_X5_26 (dT U_X5_answerTo 11 rfl) (hset_eq hP) (by omega) rfl ?_
  refine x_iconst (dT U_X5_answerTo 12 rfl) ?_
  refine x_aload_n (dT U_X5_answerTo 13 rfl) rfl ?_
  refine x_getfield F_X5_39 (dT U_X5_answerTo 14 rfl) (hset_eq hP) (by omega) rfl ?_
  refine x_isub (dT U_X5_answerTo 15 rfl) ?_
  refine x_iaload (1) (dT U_X5_answerTo 16 rfl) (hset_ne (by omega) hC) (by omega) rfl (Nat.le_of_ble_eq_true rfl) (Nat.le_of_ble_eq_true rfl) ?_
  refine x_invokevirtual (rc' := rc) (rs' := rs) (rc2 := 0) (rs2 := 0) (As := [_, _]) (st := _) M_X1_less K_X5_59 (dT U_X5_answerTo 17 rfl) rfl rfl (by decide) rfl rfl (hset_ne (by omega) hf) (by omega) (by decide) rfl (Nat.le_of_ble_eq_true rfl) rfl (by decide) (Nat.le_of_ble_eq_true rfl) rfl rfl ?_
  refine S_X1_less (hset_ne (by omega) hf) hp (by change xr (cc - c1); unfold xr; omega) ?_
  change xRet _ _ _ _ _ _ _ _ _ _ (.inl (some (vi ((cc - c1) % (p : Int))))) _ _
  refine xRet_some ?_
  refine x_iastore (0) (dT U_X5_answerTo 18 rfl) (hset_ne (by omega) hC) (by omega) rfl (Nat.le_of_ble_eq_true rfl) (Nat.le_of_ble_eq_true rfl) ?_
  refine x_aload_n (dT U_X5_answerTo 19 rfl) rfl ?_
  refine x_getfield F_X5_29 (dT U_X5_answerTo 20 rfl) (hset_ne (by omega) (hset_eq hP)) (by omega) rfl ?_
  refine x_aload_n (dT U_X5_answerTo 21 rfl) rfl ?_
  refine x_getfield F_X5_39 (dT U_X5_answerTo 22 rfl) (hset_ne (by omega) (hset_eq hP)) (by omega) rfl ?_
  refine x_aload_n (dT U_X5_answerTo 23 rfl) rfl ?_
  refine x_getfield F_X5_21 (dT U_X5_answerTo 24 rfl) (hset_ne (by omega) (hset_eq hP)) (by omega) rfl ?_
  refine x_aload_n (dT U_X5_answerTo 25 rfl) rfl ?_
  refine x_getfield F_X5_45 (dT U_X5_answerTo 26 rfl) (hset_ne (by omega) (hset_eq hP)) (by omega) rfl ?_
  refine x_aload_n (dT U_X5_answerTo 27 rfl) rfl ?_
  refine x_getfield F_X5_21 (dT U_X5_answerTo 28 rfl) (hset_ne (by omega) (hset_eq hP)) (by omega) rfl ?_
  refine x_aload_n (dT U_X5_answerTo 29 rfl) rfl ?_
  refine x_getfield F_X5_26 (dT U_X5_answerTo 30 rfl) (hset_ne (by omega) (hset_eq hP)) (by omega) rfl ?_
  refine x_aload_n (dT U_X5_answerTo 31 rfl) rfl ?_
  refine x_getfield F_X5_39 (dT U_X5_answerTo 32 rfl) (hset_ne (by omega) (hset_eq hP)) (by omega) rfl ?_
  refine x_iaload (0) (dT U_X5_answerTo 33 rfl) (hset_eq (hset_ne (by omega) hC)) (by omega) rfl (Nat.le_of_ble_eq_true rfl) (Nat.le_of_ble_eq_true rfl) ?_
  refine x_aload_n (dT U_X5_answerTo 34 rfl) rfl ?_
  refine x_getfield F_X5_42 (dT U_X5_answerTo 35 rfl) (hset_ne (by omega) (hset_eq hP)) (by omega) rfl ?_
  refine x_invokevirtual (rc' := rc) (rs' := rs) (rc2 := 0) (rs2 := 0) (As := [_, _]) (st := _) M_X1_product K_X5_64 (dT U_X5_answerTo 36 rfl) rfl rfl (by decide) rfl rfl (hset_ne (by omega) (hset_ne (by omega) hf)) (by omega) (by decide) rfl (Nat.le_of_ble_eq_true rfl) rfl (by decide) (Nat.le_of_ble_eq_true rfl) rfl rfl ?_
  have b1 := modb (z := cc - c1) (p := (p : Int)) (by omega)
  have m1 := mulb b1 hbl (by omega)
  refine S_X1_product (hset_ne (by omega) (hset_ne (by omega) hf)) hp (by change xr (((cc - c1) % (p : Int)) * bl); unfold xr; omega) ?_
  change xRet _ _ _ _ _ _ _ _ _ _ (.inl (some (vi (((cc - c1) % (p : Int)) * bl % (p : Int))))) _ _
  refine xRet_some ?_
  refine x_invokevirtual (rc' := rc) (rs' := rs) (rc2 := 0) (rs2 := 0) (As := [_, _]) (st := _) M_X1_sum K_X5_67 (dT U_X5_answerTo 37 rfl) rfl rfl (by decide) rfl rfl (hset_ne (by omega) (hset_ne (by omega) hf)) (by omega) (by decide) rfl (Nat.le_of_ble_eq_true rfl) rfl (by decide) (Nat.le_of_ble_eq_true rfl) rfl rfl ?_
  have b2 := modb (z := ((cc - c1) % (p : Int)) * bl) (p := (p : Int)) (by omega)
  refine S_X1_sum (hset_ne (by omega) (hset_ne (by omega) hf)) hp (by unfold xr; omega) ?_
  rw [am_r]
  refine xRet_some ?_
  refine x_iastore (0) (dT U_X5_answerTo 38 rfl) (hset_ne (by omega) (hset_ne (by omega) hT)) (by omega) rfl (Nat.le_of_ble_eq_true rfl) (Nat.le_of_ble_eq_true rfl) ?_
  refine x_aload_n (dT U_X5_answerTo 39 rfl) rfl ?_
  refine x_getfield F_X5_29 (dT U_X5_answerTo 40 rfl) (hset_ne (by omega) (hset_ne (by omega) (hset_eq hP))) (by omega) rfl ?_
  refine x_aload_n (dT U_X5_answerTo 41 rfl) rfl ?_
  refine x_getfield F_X5_39 (dT U_X5_answerTo 42 rfl) (hset_ne (by omega) (hset_ne (by omega) (hset_eq hP))) (by omega) rfl ?_
  refine x_iaload (0) (dT U_X5_answerTo 43 rfl) (hset_eq (hset_ne (by omega) (hset_ne (by omega) hT))) (by omega) rfl (Nat.le_of_ble_eq_true rfl) (Nat.le_of_ble_eq_true rfl) ?_
  refine x_ireturn (dT U_X5_answerTo 44 rfl) rfl ?_
  exact k

set_option maxRecDepth 20000 in
set_option maxHeartbeats 1000000 in
theorem S_X5_answerTo1 {G : xG} {d rc rs : Nat} {ex : Bool} {h : xH} {Q : xQ} {p pa : Nat} {y m cc bl c0 c1 t0 t1 : Int} (hp5 : p ∈ PR) (hw : GW p h) (r9 : 9 ≤ pa) (hr : h[pa]? = some (cP pa y 1 bl m (-1))) (hC : h[pa + 2]? = some (cA 0 [c0, c1])) (hT : h[pa + 3]? = some (cA 0 [t0, t1])) (hm : 0 ≤ m ∧ m < p) (hbl : 0 ≤ bl ∧ bl < p) (hc : 0 ≤ cc ∧ cc < p) (ho : 0 ≤ c0 ∧ c0 < p) (k : Q (.inl (some (vi ((m + ((cc - c0) % (p : Int)) * bl) % (p : Int))))) ex (((h.set pa (cP pa y 1 bl m cc)).set (pa + 2) (cA 0 [c0, ((cc - c0) % (p : Int))])).set (pa + 3) (cA 0 [t0, ((m + ((cc - c0) % (p : Int)) * bl) % (p : Int))]))) : X G m_X5_answerTo (d + 2) rc rs ex 0 (xe m_X5_answerTo.2.2.1 [.ref pa, vi cc]) [] h Q := by
  show X G m_X5_answerTo _ _ _ _ 0 [some (.ref pa), some (vi cc)] [] h Q
  have hp := PRb hp5
  obtain ⟨hf, hg, hml, hex, hbs⟩ := id hw
  have hP : h[pa]? = some (cO 5 [.ref 5, .ref 4, .ref (pa + 1), .ref (pa + 2), .ref (pa + 3), vi (y), vi (1), vi (bl), vi (m), vi (-1)]) := hr
  refine x_aload_n (dT U_X5_answerTo 0 rfl) rfl ?_
  refine x_iload_n (dT U_X5_answerTo 1 rfl) rfl ?_
  refine x_putfield F_X5_48 (dT U_X5_answerTo 2 rfl) hP (by omega) (Nat.le_of_ble_eq_true rfl) rfl rfl ?_
  refine x_aload_n (dT U_X5_answerTo 3 rfl) rfl ?_
  refine x_getfield F_X5_26 (dT U_X5_answerTo 4 rfl) (hset_eq hP) (by omega) rfl ?_
  refine x_aload_n (dT U_X5_answerTo 5 rfl) rfl ?_
  refine x_getfield F_X5_39 (dT U_X5_answerTo 6 rfl) (hset_eq hP) (by omega) rfl ?_
  refine x_aload_n (dT U_X5_answerTo 7 rfl) rfl ?_
  refine x_getfield F_X5_21 (dT U_X5_answerTo 8 rfl) (hset_eq hP) (by omega) rfl ?_
  refine x_iload_n (dT U_X5_answerTo 9 rfl) rfl ?_
  refine x_aload_n (dT U_X5_answerTo 10 rfl) rfl ?_
  refine x_getfield F_X5_26 (dT U_X5_answerTo 11 rfl) (hset_eq hP) (by omega) rfl ?_
  refine x_iconst (dT U_X5_answerTo 12 rfl) ?_
  refine x_aload_n (dT U_X5_answerTo 13 rfl) rfl ?_
  refine x_getfield F_X5_39 (dT U_X5_answerTo 14 rfl) (hset_eq hP) (by omega) rfl ?_
  refine x_isub (dT U_X5_answerTo 15 rfl) ?_
  refine x_iaload (0) (dT U_X5_answerTo 16 rfl) (hset_ne (by omega) hC) (by omega) rfl (Nat.le_of_ble_eq_true rfl) (Nat.le_of_ble_eq_true rfl) ?_
  refine x_invokevirtual (rc' := rc) (rs' := rs) (rc2 := 0) (rs2 := 0) (As := [_, _]) (st := _) M_X1_less K_X5_59 (dT U_X5_answerTo 17 rfl) rfl rfl (by decide) rfl rfl (hset_ne (by omega) hf) (by omega) (by decide) rfl (Nat.le_of_ble_eq_true rfl) rfl (by decide) (Nat.le_of_ble_eq_true rfl) rfl rfl ?_
  refine S_X1_less (hset_ne (by omega) hf) hp (by change xr (cc - c0); unfold xr; omega) ?_
  change xRet _ _ _ _ _ _ _ _ _ _ (.inl (some (vi ((cc - c0) % (p : Int))))) _ _
  refine xRet_some ?_
  refine x_iastore (1) (dT U_X5_answerTo 18 rfl) (hset_ne (by omega) hC) (by omega) rfl (Nat.le_of_ble_eq_true rfl) (Nat.le_of_ble_eq_true rfl) ?_
  refine x_aload_n (dT U_X5_answerTo 19 rfl) rfl ?_
  refine x_getfield F_X5_29 (dT U_X5_answerTo 20 rfl) (hset_ne (by omega) (hset_eq hP)) (by omega) rfl ?_
  refine x_aload_n (dT U_X5_answerTo 21 rfl) rfl ?_
  refine x_getfield F_X5_39 (dT U_X5_answerTo 22 rfl) (hset_ne (by omega) (hset_eq hP)) (by omega) rfl ?_
  refine x_aload_n (dT U_X5_answerTo 23 rfl) rfl ?_
  refine x_getfield F_X5_21 (dT U_X5_answerTo 24 rfl) (hset_ne (by omega) (hset_eq hP)) (by omega) rfl ?_
  refine x_aload_n (dT U_X5_answerTo 25 rfl) rfl ?_
  refine x_getfield F_X5_45 (dT U_X5_answerTo 26 rfl) (hset_ne (by omega) (hset_eq hP)) (by omega) rfl ?_
  refine x_aload_n (dT U_X5_answerTo 27 rfl) rfl ?_
  refine x_getfield F_X5_21 (dT U_X5_answerTo 28 rfl) (hset_ne (by omega) (hset_eq hP)) (by omega) rfl ?_
  refine x_aload_n (dT U_X5_answerTo 29 rfl) rfl ?_
  refine x_getfield F_X5_26 (dT U_X5_answerTo 30 rfl) (hset_ne (by omega) (hset_eq hP)) (by omega) rfl ?_
  refine x_aload_n (dT U_X5_answerTo 31 rfl) rfl ?_
  refine x_getfield F_X5_39 (dT U_X5_answerTo 32 rfl) (hset_ne (by omega) (hset_eq hP)) (by omega) rfl ?_
  refine x_iaload (1) (dT U_X5_answerTo 33 rfl) (hset_eq (hset_ne (by omega) hC)) (by omega) rfl (Nat.le_of_ble_eq_true rfl) (Nat.le_of_ble_eq_true rfl) ?_
  refine x_aload_n (dT U_X5_answerTo 34 rfl) rfl ?_
  refine x_getfield F_X5_42 (dT U_X5_answerTo 35 rfl) (hset_ne (by omega) (hset_eq hP)) (by omega) rfl ?_
  refine x_invokevirtual (rc' := rc) (rs' := rs) (rc2 := 0) (rs2 := 0) (As := [_, _]) (st := _) M_X1_product K_X5_64 (dT U_X5_answerTo 36 rfl) rfl rfl (by decide) rfl rfl (hset_ne (by omega) (hset_ne (by omega) hf)) (by omega) (by decide) rfl (Nat.le_of_ble_eq_true rfl) rfl (by decide) (Nat.le_of_ble_eq_true rfl) rfl rfl ?_
  have b1 := modb (z := cc - c0) (p := (p : Int)) (by omega)
  have m1 := mulb b1 hbl (by omega)
  refine S_X1_product (hset_ne (by omega) (hset_ne (by omega) hf)) hp (by change xr (((cc - c0) % (p : Int)) * bl); unfold xr; omega) ?_
  change xRet _ _ _ _ _ _ _ _ _ _ (.inl (some (vi (((cc - c0) % (p : Int)) * bl % (p : Int))))) _ _
  refine xRet_some ?_
  refine x_invokevirtual (rc' := rc) (rs' := rs) (rc2 := 0) (rs2 := 0) (As := [_, _]) (st := _) M_X1_sum K_X5_67 (dT U_X5_answerTo 37 rfl) rfl rfl (by decide) rfl rfl (hset_ne (by omega) (hset_ne (by omega) hf)) (by omega) (by decide) rfl (Nat.le_of_ble_eq_true rfl) rfl (by decide) (Nat.le_of_ble_eq_true rfl) rfl rfl ?_
  have b2 := modb (z := ((cc - c0) % (p : Int)) * bl) (p := (p : Int)) (by omega)
  refine S_X1_sum (hset_ne (by omega) (hset_ne (by omega) hf)) hp (by unfold xr; omega) ?_
  rw [am_r]
  refine xRet_some ?_
  refine x_iastore (1) (dT U_X5_answerTo 38 rfl) (hset_ne (by omega) (hset_ne (by omega) hT)) (by omega) rfl (Nat.le_of_ble_eq_true rfl) (Nat.le_of_ble_eq_true rfl) ?_
  refine x_aload_n (dT U_X5_answerTo 39 rfl) rfl ?_
  refine x_getfield F_X5_29 (dT U_X5_answerTo 40 rfl) (hset_ne (by omega) (hset_ne (by omega) (hset_eq hP))) (by omega) rfl ?_
  refine x_aload_n (dT U_X5_answerTo 41 rfl) rfl ?_
  refine x_getfield F_X5_39 (dT U_X5_answerTo 42 rfl) (hset_ne (by omega) (hset_ne (by omega) (hset_eq hP))) (by omega) rfl ?_
  refine x_iaload (1) (dT U_X5_answerTo 43 rfl) (hset_eq (hset_ne (by omega) (hset_ne (by omega) hT))) (by omega) rfl (Nat.le_of_ble_eq_true rfl) (Nat.le_of_ble_eq_true rfl) ?_
  refine x_ireturn (dT U_X5_answerTo 44 rfl) rfl ?_
  exact k
