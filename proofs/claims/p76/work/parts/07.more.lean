section XR7
variable {G : xG} {mt : xM} {d rc rs : Nat} {ex : Bool} {pc : Nat} {ls ls' : List (Option Value)} {st : List Value} {h : xH} {Q : xQ}
theorem x_if_lt {a off : Int} {tgt : Nat} (hd : decode mt.2.1 pc = .ok (.ifCond .lt off, 3)) (ht : (pc : Int) + off = (tgt : Int)) (ha : xr a) (k1 : a < 0 → X G mt d rc rs ex tgt ls st h Q) (k2 : ¬ a < 0 → X G mt d rc rs ex (pc + 3) ls st h Q) : X G mt d rc rs ex pc ls (vi a :: st) h Q := by
  intro p e s m args below meth c K H locs cells slots mc ms lsA hP hS hZ h1 h2 hl
  refine lv_if_lt K.1 K.2.1 hd ht (fun q => ?_) (fun q => ?_)
  · refine k1 ?_ p e s m args below meth c K H locs cells slots mc ms lsA hP hS hZ h1 h2 hl
    first | exact (xI_lt ha xr_0).mp q | exact (xI_lt ha xr_0).mp (by simpa using q)
  · refine k2 (fun z => ?_) p e s m args below meth c K H locs cells slots mc ms lsA hP hS hZ h1 h2 hl
    first | exact q ((xI_lt ha xr_0).mpr z) | exact absurd ((xI_lt ha xr_0).mpr z) (by simpa using q)
theorem x_if_ge {a off : Int} {tgt : Nat} (hd : decode mt.2.1 pc = .ok (.ifCond .ge off, 3)) (ht : (pc : Int) + off = (tgt : Int)) (ha : xr a) (k1 : 0 ≤ a → X G mt d rc rs ex tgt ls st h Q) (k2 : ¬ 0 ≤ a → X G mt d rc rs ex (pc + 3) ls st h Q) : X G mt d rc rs ex pc ls (vi a :: st) h Q := by
  intro p e s m args below meth c K H locs cells slots mc ms lsA hP hS hZ h1 h2 hl
  refine lv_if_ge K.1 K.2.1 hd ht (fun q => ?_) (fun q => ?_)
  · refine k1 ?_ p e s m args below meth c K H locs cells slots mc ms lsA hP hS hZ h1 h2 hl
    first | exact (xI_le xr_0 ha).mp q | exact (xI_le xr_0 ha).mp (by simpa using q)
  · refine k2 (fun z => ?_) p e s m args below meth c K H locs cells slots mc ms lsA hP hS hZ h1 h2 hl
    first | exact q ((xI_le xr_0 ha).mpr z) | exact absurd ((xI_le xr_0 ha).mpr z) (by simpa using q)
theorem x_if_gt {a off : Int} {tgt : Nat} (hd : decode mt.2.1 pc = .ok (.ifCond .gt off, 3)) (ht : (pc : Int) + off = (tgt : Int)) (ha : xr a) (k1 : 0 < a → X G mt d rc rs ex tgt ls st h Q) (k2 : ¬ 0 < a → X G mt d rc rs ex (pc + 3) ls st h Q) : X G mt d rc rs ex pc ls (vi a :: st) h Q := by
  intro p e s m args below meth c K H locs cells slots mc ms lsA hP hS hZ h1 h2 hl
  refine lv_if_gt K.1 K.2.1 hd ht (fun q => ?_) (fun q => ?_)
  · refine k1 ?_ p e s m args below meth c K H locs cells slots mc ms lsA hP hS hZ h1 h2 hl
    first | exact (xI_lt xr_0 ha).mp q | exact (xI_lt xr_0 ha).mp (by simpa using q)
  · refine k2 (fun z => ?_) p e s m args below meth c K H locs cells slots mc ms lsA hP hS hZ h1 h2 hl
    first | exact q ((xI_lt xr_0 ha).mpr z) | exact absurd ((xI_lt xr_0 ha).mpr z) (by simpa using q)
theorem x_if_le {a off : Int} {tgt : Nat} (hd : decode mt.2.1 pc = .ok (.ifCond .le off, 3)) (ht : (pc : Int) + off = (tgt : Int)) (ha : xr a) (k1 : a ≤ 0 → X G mt d rc rs ex tgt ls st h Q) (k2 : ¬ a ≤ 0 → X G mt d rc rs ex (pc + 3) ls st h Q) : X G mt d rc rs ex pc ls (vi a :: st) h Q := by
  intro p e s m args below meth c K H locs cells slots mc ms lsA hP hS hZ h1 h2 hl
  refine lv_if_le K.1 K.2.1 hd ht (fun q => ?_) (fun q => ?_)
  · refine k1 ?_ p e s m args below meth c K H locs cells slots mc ms lsA hP hS hZ h1 h2 hl
    first | exact (xI_le ha xr_0).mp q | exact (xI_le ha xr_0).mp (by simpa using q)
  · refine k2 (fun z => ?_) p e s m args below meth c K H locs cells slots mc ms lsA hP hS hZ h1 h2 hl
    first | exact q ((xI_le ha xr_0).mpr z) | exact absurd ((xI_le ha xr_0).mpr z) (by simpa using q)
theorem x_icmp_eq {a b off : Int} {tgt : Nat} (hd : decode mt.2.1 pc = .ok (.if_icmp .eq off, 3)) (ht : (pc : Int) + off = (tgt : Int)) (ha : xr a) (hb : xr b) (k1 : a = b → X G mt d rc rs ex tgt ls st h Q) (k2 : ¬ a = b → X G mt d rc rs ex (pc + 3) ls st h Q) : X G mt d rc rs ex pc ls (vi b :: vi a :: st) h Q := by
  intro p e s m args below meth c K H locs cells slots mc ms lsA hP hS hZ h1 h2 hl
  refine lv_icmp_eq K.1 K.2.1 hd ht (fun q => ?_) (fun q => ?_)
  · refine k1 ?_ p e s m args below meth c K H locs cells slots mc ms lsA hP hS hZ h1 h2 hl
    first | exact (xI_eq ha hb).mp q | exact (xI_eq ha hb).mp (by simpa using q)
  · refine k2 (fun z => ?_) p e s m args below meth c K H locs cells slots mc ms lsA hP hS hZ h1 h2 hl
    first | exact q ((xI_eq ha hb).mpr z) | exact absurd ((xI_eq ha hb).mpr z) (by simpa using q)
theorem x_icmp_ne {a b off : Int} {tgt : Nat} (hd : decode mt.2.1 pc = .ok (.if_icmp .ne off, 3)) (ht : (pc : Int) + off = (tgt : Int)) (ha : xr a) (hb : xr b) (k1 : ¬ a = b → X G mt d rc rs ex tgt ls st h Q) (k2 : a = b → X G mt d rc rs ex (pc + 3) ls st h Q) : X G mt d rc rs ex pc ls (vi b :: vi a :: st) h Q := by
  intro p e s m args below meth c K H locs cells slots mc ms lsA hP hS hZ h1 h2 hl
  refine lv_icmp_ne K.1 K.2.1 hd ht (fun q => ?_) (fun q => ?_)
  · exact k1 (fun z => q ((xI_eq ha hb).mpr z)) p e s m args below meth c K H locs cells slots mc ms lsA hP hS hZ h1 h2 hl
  · exact k2 ((xI_eq ha hb).mp q) p e s m args below meth c K H locs cells slots mc ms lsA hP hS hZ h1 h2 hl
theorem x_icmp_lt {a b off : Int} {tgt : Nat} (hd : decode mt.2.1 pc = .ok (.if_icmp .lt off, 3)) (ht : (pc : Int) + off = (tgt : Int)) (ha : xr a) (hb : xr b) (k1 : a < b → X G mt d rc rs ex tgt ls st h Q) (k2 : ¬ a < b → X G mt d rc rs ex (pc + 3) ls st h Q) : X G mt d rc rs ex pc ls (vi b :: vi a :: st) h Q := by
  intro p e s m args below meth c K H locs cells slots mc ms lsA hP hS hZ h1 h2 hl
  refine lv_icmp_lt K.1 K.2.1 hd ht (fun q => ?_) (fun q => ?_)
  · refine k1 ?_ p e s m args below meth c K H locs cells slots mc ms lsA hP hS hZ h1 h2 hl
    first | exact (xI_lt ha hb).mp q | exact (xI_lt ha hb).mp (by simpa using q)
  · refine k2 (fun z => ?_) p e s m args below meth c K H locs cells slots mc ms lsA hP hS hZ h1 h2 hl
    first | exact q ((xI_lt ha hb).mpr z) | exact absurd ((xI_lt ha hb).mpr z) (by simpa using q)
theorem x_icmp_ge {a b off : Int} {tgt : Nat} (hd : decode mt.2.1 pc = .ok (.if_icmp .ge off, 3)) (ht : (pc : Int) + off = (tgt : Int)) (ha : xr a) (hb : xr b) (k1 : b ≤ a → X G mt d rc rs ex tgt ls st h Q) (k2 : ¬ b ≤ a → X G mt d rc rs ex (pc + 3) ls st h Q) : X G mt d rc rs ex pc ls (vi b :: vi a :: st) h Q := by
  intro p e s m args below meth c K H locs cells slots mc ms lsA hP hS hZ h1 h2 hl
  refine lv_icmp_ge K.1 K.2.1 hd ht (fun q => ?_) (fun q => ?_)
  · refine k1 ?_ p e s m args below meth c K H locs cells slots mc ms lsA hP hS hZ h1 h2 hl
    first | exact (xI_le hb ha).mp q | exact (xI_le hb ha).mp (by simpa using q)
  · refine k2 (fun z => ?_) p e s m args below meth c K H locs cells slots mc ms lsA hP hS hZ h1 h2 hl
    first | exact q ((xI_le hb ha).mpr z) | exact absurd ((xI_le hb ha).mpr z) (by simpa using q)
theorem x_icmp_gt {a b off : Int} {tgt : Nat} (hd : decode mt.2.1 pc = .ok (.if_icmp .gt off, 3)) (ht : (pc : Int) + off = (tgt : Int)) (ha : xr a) (hb : xr b) (k1 : b < a → X G mt d rc rs ex tgt ls st h Q) (k2 : ¬ b < a → X G mt d rc rs ex (pc + 3) ls st h Q) : X G mt d rc rs ex pc ls (vi b :: vi a :: st) h Q := by
  intro p e s m args below meth c K H locs cells slots mc ms lsA hP hS hZ h1 h2 hl
  refine lv_icmp_gt K.1 K.2.1 hd ht (fun q => ?_) (fun q => ?_)
  · refine k1 ?_ p e s m args below meth c K H locs cells slots mc ms lsA hP hS hZ h1 h2 hl
    first | exact (xI_lt hb ha).mp q | exact (xI_lt hb ha).mp (by simpa using q)
  · refine k2 (fun z => ?_) p e s m args below meth c K H locs cells slots mc ms lsA hP hS hZ h1 h2 hl
    first | exact q ((xI_lt hb ha).mpr z) | exact absurd ((xI_lt hb ha).mpr z) (by simpa using q)
theorem x_icmp_le {a b off : Int} {tgt : Nat} (hd : decode mt.2.1 pc = .ok (.if_icmp .le off, 3)) (ht : (pc : Int) + off = (tgt : Int)) (ha : xr a) (hb : xr b) (k1 : a ≤ b → X G mt d rc rs ex tgt ls st h Q) (k2 : ¬ a ≤ b → X G mt d rc rs ex (pc + 3) ls st h Q) : X G mt d rc rs ex pc ls (vi b :: vi a :: st) h Q := by
  intro p e s m args below meth c K H locs cells slots mc ms lsA hP hS hZ h1 h2 hl
  refine lv_icmp_le K.1 K.2.1 hd ht (fun q => ?_) (fun q => ?_)
  · refine k1 ?_ p e s m args below meth c K H locs cells slots mc ms lsA hP hS hZ h1 h2 hl
    first | exact (xI_le ha hb).mp q | exact (xI_le ha hb).mp (by simpa using q)
  · refine k2 (fun z => ?_) p e s m args below meth c K H locs cells slots mc ms lsA hP hS hZ h1 h2 hl
    first | exact q ((xI_le ha hb).mpr z) | exact absurd ((xI_le ha hb).mpr z) (by simpa using q)
theorem x_ladd {a b : Int} (hd : decode mt.2.1 pc = .ok (.ladd, 1)) (k : X G mt d rc rs ex (pc + 1) ls (vl (a + b) :: st) h Q) : X G mt d rc rs ex pc ls (vl b :: vl a :: st) h Q :=
  fun p e s m args below meth c K H locs cells slots mc ms lsA hP hS hZ h1 h2 hl => lv_ladd K.1 K.2.1 hd (by rw [xJ_add]; exact k p e s m args below meth c K H locs cells slots mc ms lsA hP hS hZ h1 h2 hl)
theorem x_lsub {a b : Int} (hd : decode mt.2.1 pc = .ok (.lsub, 1)) (k : X G mt d rc rs ex (pc + 1) ls (vl (a - b) :: st) h Q) : X G mt d rc rs ex pc ls (vl b :: vl a :: st) h Q :=
  fun p e s m args below meth c K H locs cells slots mc ms lsA hP hS hZ h1 h2 hl => lv_lsub K.1 K.2.1 hd (by rw [xJ_sub]; exact k p e s m args below meth c K H locs cells slots mc ms lsA hP hS hZ h1 h2 hl)
theorem x_lmul {a b : Int} (hd : decode mt.2.1 pc = .ok (.lmul, 1)) (k : X G mt d rc rs ex (pc + 1) ls (vl (a * b) :: st) h Q) : X G mt d rc rs ex pc ls (vl b :: vl a :: st) h Q :=
  fun p e s m args below meth c K H locs cells slots mc ms lsA hP hS hZ h1 h2 hl => lv_lmul K.1 K.2.1 hd (by rw [xJ_mul]; exact k p e s m args below meth c K H locs cells slots mc ms lsA hP hS hZ h1 h2 hl)
theorem xJ_tmod {a b : Int} (ha : xrl a) (hb : xrl b) : (xJ a - xJ a / xJ b * xJ b) = xJ (a.tmod b) := by
  rw [← Int64.toInt_inj]
  have e : (xJ a - xJ a / xJ b * xJ b) = xJ a % xJ b := by
    apply Int64.toInt_inj.mp
    have h1 := Int64.le_toInt (xJ a % xJ b)
    have h2 := Int64.toInt_lt (xJ a % xJ b)
    rw [Int64.toInt_sub, Int64.toInt_mul, Int64.toInt_div, Int.bmod_mul_bmod, Int.sub_bmod_bmod, Int.mul_comm ((xJ a).toInt.tdiv (xJ b).toInt), ← Int.tmod_def, ← Int64.toInt_mod]
    exact Int.bmod_eq_of_le_mul_two (by omega) (by omega)
  rw [e, Int64.toInt_mod, xJ_toInt ha, xJ_toInt hb, xJ_toInt]
  unfold xrl at *
  have h1 : (a.tmod b).natAbs ≤ a.natAbs := by rw [Int.natAbs_tmod]; exact Nat.mod_le _ _
  have h2 : 0 ≤ a → 0 ≤ a.tmod b := fun h => Int.tmod_nonneg b h
  have h3 : a ≤ 0 → 0 ≤ -(a.tmod b) := fun h => by rw [← Int.neg_tmod]; exact Int.tmod_nonneg b (by omega)
  omega
theorem x_lrem {a b : Int} (hd : decode mt.2.1 pc = .ok (.lrem, 1)) (ha : xrl a) (hb : xrl b) (h0 : b ≠ 0) (k : X G mt d rc rs ex (pc + 1) ls (vl (a.tmod b) :: st) h Q) : X G mt d rc rs ex pc ls (vl b :: vl a :: st) h Q :=
  fun p e s m args below meth c K H locs cells slots mc ms lsA hP hS hZ h1 h2 hl => lv_lrem K.1 K.2.1 hd (fun q => h0 ((xJ_eq hb (by unfold xrl; omega)).mp q)) (by rw [xJ_tmod ha hb]; exact k p e s m args below meth c K H locs cells slots mc ms lsA hP hS hZ h1 h2 hl)
theorem x_i2l {a : Int} (hd : decode mt.2.1 pc = .ok (.i2l, 1)) (ha : xr a) (k : X G mt d rc rs ex (pc + 1) ls (vl a :: st) h Q) : X G mt d rc rs ex pc ls (vi a :: st) h Q :=
  fun p e s m args below meth c K H locs cells slots mc ms lsA hP hS hZ h1 h2 hl => lv_i2l K.1 K.2.1 hd (xI_long ha) (k p e s m args below meth c K H locs cells slots mc ms lsA hP hS hZ h1 h2 hl)
theorem x_l2i {a : Int} (hd : decode mt.2.1 pc = .ok (.l2i, 1)) (k : X G mt d rc rs ex (pc + 1) ls (vi a :: st) h Q) : X G mt d rc rs ex pc ls (vl a :: st) h Q :=
  fun p e s m args below meth c K H locs cells slots mc ms lsA hP hS hZ h1 h2 hl => lv_l2i K.1 K.2.1 hd (xJ_int a) (k p e s m args below meth c K H locs cells slots mc ms lsA hP hS hZ h1 h2 hl)
def xcmp (a b : Int) : Int := if b < a then 1 else if a = b then 0 else -1
theorem xcmp_0 {a b : Int} : xcmp a b = 0 ↔ a = b := by unfold xcmp; split <;> (try split) <;> omega
theorem xcmp_r (a b : Int) : xr (xcmp a b) := by unfold xcmp xr; split <;> (try split) <;> omega
theorem x_lcmp {a b : Int} (hd : decode mt.2.1 pc = .ok (.lcmp, 1)) (ha : xrl a) (hb : xrl b) (k : X G mt d rc rs ex (pc + 1) ls (vi (xcmp a b) :: st) h Q) : X G mt d rc rs ex pc ls (vl b :: vl a :: st) h Q := by
  intro p e s m args below meth c K H locs cells slots mc ms lsA hP hS hZ h1 h2 hl
  refine W.lcmp K.1 K.2.1 hd ?_
  have e9 : lg_cmp (xJ a) (xJ b) = xI (xcmp a b) := by
    unfold lg_cmp xcmp
    simp only [gt_iff_lt, xJ_lt hb ha, xJ_eq ha hb]
    split
    · rfl
    · split <;> rfl
  rw [e9]
  exact k p e s m args below meth c K H locs cells slots mc ms lsA hP hS hZ h1 h2 hl
theorem x_ishr {a b r : Int} (hd : decode mt.2.1 pc = .ok (.ishr, 1)) (hv : xI a >>> (xI b &&& 31) = xI r) (k : X G mt d rc rs ex (pc + 1) ls (vi r :: st) h Q) : X G mt d rc rs ex pc ls (vi b :: vi a :: st) h Q :=
  fun p e s m args below meth c K H locs cells slots mc ms lsA hP hS hZ h1 h2 hl => lv_ishr K.1 K.2.1 hd (by rw [hv]; exact k p e s m args below meth c K H locs cells slots mc ms lsA hP hS hZ h1 h2 hl)
theorem x_ixor {a b r : Int} (hd : decode mt.2.1 pc = .ok (.ixor, 1)) (hv : xI a ^^^ xI b = xI r) (k : X G mt d rc rs ex (pc + 1) ls (vi r :: st) h Q) : X G mt d rc rs ex pc ls (vi b :: vi a :: st) h Q :=
  fun p e s m args below meth c K H locs cells slots mc ms lsA hP hS hZ h1 h2 hl => lv_ixor K.1 K.2.1 hd (by rw [hv]; exact k p e s m args below meth c K H locs cells slots mc ms lsA hP hS hZ h1 h2 hl)
theorem x_iand {a b r : Int} (hd : decode mt.2.1 pc = .ok (.iand, 1)) (hv : xI a &&& xI b = xI r) (k : X G mt d rc rs ex (pc + 1) ls (vi r :: st) h Q) : X G mt d rc rs ex pc ls (vi b :: vi a :: st) h Q :=
  fun p e s m args below meth c K H locs cells slots mc ms lsA hP hS hZ h1 h2 hl => lv_iand K.1 K.2.1 hd (by rw [hv]; exact k p e s m args below meth c K H locs cells slots mc ms lsA hP hS hZ h1 h2 hl)
theorem xI_tdiv {a b : Int} (ha : xr a) (hb : 0 < b ∧ b < 2147483648) : xI a / xI b = xI (a.tdiv b) := by
  have h9 : (a.tdiv b).natAbs ≤ a.natAbs := by rw [Int.natAbs_tdiv]; exact Nat.div_le_self _ _
  have h8 : xr b := ⟨by omega, hb.2⟩
  rw [← Int32.toInt_inj, Int32.toInt_div, xI_toInt ha, xI_toInt h8]
  show (Int.tdiv a b).bmod (2 ^ 32) = _
  unfold xI
  rw [Int32.toInt_ofInt]
theorem x_idiv {a b : Int} (hd : decode mt.2.1 pc = .ok (.idiv, 1)) (ha : xr a) (hb : 0 < b ∧ b < 2147483648) (k : X G mt d rc rs ex (pc + 1) ls (vi (a.tdiv b) :: st) h Q) : X G mt d rc rs ex pc ls (vi b :: vi a :: st) h Q :=
  fun p e s m args below meth c K H locs cells slots mc ms lsA hP hS hZ h1 h2 hl => lv_idiv K.1 K.2.1 hd (fun q => (by have := (xI_eq (a := b) (b := 0) ⟨by omega, hb.2⟩ xr_0).mp q; omega)) (by rw [xI_tdiv ha hb]; exact k p e s m args below meth c K H locs cells slots mc ms lsA hP hS hZ h1 h2 hl)
theorem x_dup {v : Value} (hd : decode mt.2.1 pc = .ok (.dup, 1)) (hv : v.category = 1) (k : X G mt d rc rs ex (pc + 1) ls (v :: v :: st) h Q) : X G mt d rc rs ex pc ls (v :: st) h Q :=
  fun p e s m args below meth c K H locs cells slots mc ms lsA hP hS hZ h1 h2 hl => lv_dup K.1 K.2.1 hd (by rw [xv_cat]; exact hv) (k p e s m args below meth c K H locs cells slots mc ms lsA hP hS hZ h1 h2 hl)
theorem x_pop {v : Value} (hd : decode mt.2.1 pc = .ok (.pop, 1)) (hv : v.category = 1) (k : X G mt d rc rs ex (pc + 1) ls st h Q) : X G mt d rc rs ex pc ls (v :: st) h Q :=
  fun p e s m args below meth c K H locs cells slots mc ms lsA hP hS hZ h1 h2 hl => lv_pop K.1 K.2.1 hd (by rw [xv_cat]; exact hv) (k p e s m args below meth c K H locs cells slots mc ms lsA hP hS hZ h1 h2 hl)
theorem x_ldc {idx : Nat} {z : Int} (hc : Cond.constant mt.1.cls idx (xI z) ∈ lw_big) (hd : decode mt.2.1 pc = .ok (.ldc idx, 2)) (k : X G mt d rc rs ex (pc + 2) ls (vi z :: st) h Q) : X G mt d rc rs ex pc ls st h Q :=
  fun p e s m args below meth c K H locs cells slots mc ms lsA hP hS hZ h1 h2 hl => lv_ldc K.1 K.2.1 K.2.2.2.2.1 (K.2.2.2.2.2.1 _ hc) hd (k p e s m args below meth c K H locs cells slots mc ms lsA hP hS hZ h1 h2 hl)
theorem x_ldc2 {idx : Nat} {z : Int} (hc : Cond.constantLong mt.1.cls idx (xJ z) ∈ lw_big) (hd : decode mt.2.1 pc = .ok (.ldc2_w idx, 3)) (k : X G mt d rc rs ex (pc + 3) ls (vl z :: st) h Q) : X G mt d rc rs ex pc ls st h Q :=
  fun p e s m args below meth c K H locs cells slots mc ms lsA hP hS hZ h1 h2 hl => lv_ldc2 K.1 K.2.1 K.2.2.2.2.1 (K.2.2.2.2.2.1 _ hc) hd (k p e s m args below meth c K H locs cells slots mc ms lsA hP hS hZ h1 h2 hl)
theorem x_dconst0 (hd : decode mt.2.1 pc = .ok (.dconst 0, 1)) (k : X G mt d rc rs ex (pc + 1) ls (.double 0 :: st) h Q) : X G mt d rc rs ex pc ls st h Q :=
  fun p e s m args below meth c K H locs cells slots mc ms lsA hP hS hZ h1 h2 hl => lv_dconst0 K.1 K.2.1 hd (k p e s m args below meth c K H locs cells slots mc ms lsA hP hS hZ h1 h2 hl)
theorem x_dconst1 (hd : decode mt.2.1 pc = .ok (.dconst 1, 1)) (k : X G mt d rc rs ex (pc + 1) ls (.double 4607182418800017408 :: st) h Q) : X G mt d rc rs ex pc ls st h Q :=
  fun p e s m args below meth c K H locs cells slots mc ms lsA hP hS hZ h1 h2 hl => lv_dconst1 K.1 K.2.1 hd (k p e s m args below meth c K H locs cells slots mc ms lsA hP hS hZ h1 h2 hl)
theorem x_i2d {a : Int} (hd : decode mt.2.1 pc = .ok (.i2d, 1)) (k : X G mt d rc rs ex (pc + 1) ls (.double (FP.i2d (xI a)) :: st) h Q) : X G mt d rc rs ex pc ls (vi a :: st) h Q :=
  fun p e s m args below meth c K H locs cells slots mc ms lsA hP hS hZ h1 h2 hl => lv_i2d K.1 K.2.1 hd (k p e s m args below meth c K H locs cells slots mc ms lsA hP hS hZ h1 h2 hl)
theorem x_dmul {a b : UInt64} (hd : decode mt.2.1 pc = .ok (.dmul, 1)) (hn : vf_n64 (FP.dmul a b)) (k : X G mt d rc rs ex (pc + 1) ls (.double (FP.dmul a b) :: st) h Q) : X G mt d rc rs ex pc ls (.double b :: .double a :: st) h Q :=
  fun p e s m args below meth c K H locs cells slots mc ms lsA hP hS hZ h1 h2 hl => lv_dmul K.1 K.2.1 hd hn (k p e s m args below meth c K H locs cells slots mc ms lsA hP hS hZ h1 h2 hl)
theorem x_ddiv {a b : UInt64} (hd : decode mt.2.1 pc = .ok (.ddiv, 1)) (hn : vf_n64 (FP.ddiv a b)) (k : X G mt d rc rs ex (pc + 1) ls (.double (FP.ddiv a b) :: st) h Q) : X G mt d rc rs ex pc ls (.double b :: .double a :: st) h Q :=
  fun p e s m args below meth c K H locs cells slots mc ms lsA hP hS hZ h1 h2 hl => lv_ddiv K.1 K.2.1 hd hn (k p e s m args below meth c K H locs cells slots mc ms lsA hP hS hZ h1 h2 hl)
theorem x_dcmp {a b : UInt64} {op : CmpOp} {z : Int} (hd : decode mt.2.1 pc = .ok (.dcmp op, 1)) (hv : Op.cmpValue (FP.dcmp a b) op = xI z) (k : X G mt d rc rs ex (pc + 1) ls (vi z :: st) h Q) : X G mt d rc rs ex pc ls (.double b :: .double a :: st) h Q :=
  fun p e s m args below meth c K H locs cells slots mc ms lsA hP hS hZ h1 h2 hl => lv_dcmp K.1 K.2.1 hd (by rw [hv]; exact k p e s m args below meth c K H locs cells slots mc ms lsA hP hS hZ h1 h2 hl)
theorem x_areturn {a : Nat} {rt : FieldType} (hd : decode mt.2.1 pc = .ok (.areturn, 1)) (hr : mt.2.2.2.1 = some rt) (hrt : (∃ n, rt = .object n) ∨ ∃ t, rt = .array t) (k : Q (.inl (some (.ref a))) ex h) : X G mt d rc rs ex pc ls [.ref a] h Q := by
  intro p e s m args below meth c K H locs cells slots mc ms lsA hP hS hZ h1 h2 hl
  refine W.widen (k := mc) (n := ms) (by omega) (by omega) (vx_ret ?_)
  exact W.aret K.1 K.2.1 (K.2.2.1.trans hr) hrt (Or.inr ⟨_, rfl⟩) (fun t ht _ => ⟨some (.ref a), ex, h, rfl, k, by rw [ht]; exact hP, by rw [ht]; exact hZ, hS.F ht⟩) hS.2.2 hd K.2.2.2.2.2.2.1
theorem x_lreturn {z : Int} (hd : decode mt.2.1 pc = .ok (.lreturn, 1)) (hr : mt.2.2.2.1 = some .long) (k : Q (.inl (some (vl z))) ex h) : X G mt d rc rs ex pc ls [vl z] h Q := by
  intro p e s m args below meth c K H locs cells slots mc ms lsA hP hS hZ h1 h2 hl
  refine W.widen (k := mc) (n := ms) (by omega) (by omega) (vx_ret ?_)
  exact W.lret K.1 K.2.1 (K.2.2.1.trans hr) (fun t ht _ => ⟨some (vl z), ex, h, rfl, k, by rw [ht]; exact hP, by rw [ht]; exact hZ, hS.F ht⟩) hS.2.2 hd K.2.2.2.2.2.2.1
theorem x_dreturn {z : UInt64} (hd : decode mt.2.1 pc = .ok (.dreturn, 1)) (hr : mt.2.2.2.1 = some .double) (k : Q (.inl (some (.double z))) ex h) : X G mt d rc rs ex pc ls [.double z] h Q := by
  intro p e s m args below meth c K H locs cells slots mc ms lsA hP hS hZ h1 h2 hl
  refine W.widen (k := mc) (n := ms) (by omega) (by omega) (vx_ret ?_)
  exact W.dret K.1 K.2.1 (K.2.2.1.trans hr) (fun t ht _ => ⟨some (.double z), ex, h, rfl, k, by rw [ht]; exact hP, by rw [ht]; exact hZ, hS.F ht⟩) hS.2.2 hd K.2.2.2.2.2.2.1
theorem x_tableIn {dflt lo hi off : Int} {offs : Array Int} {len tgt : Nat} {z : Int} (hd : decode mt.2.1 pc = .ok (.tableswitch dflt lo hi offs, len)) (hz : xr z) (h1 : ¬ z < lo) (h2 : ¬ hi < z) (ho : offs[(z - lo).toNat]? = some off) (ht : (pc : Int) + off = (tgt : Int)) (k : X G mt d rc rs ex tgt ls st h Q) : X G mt d rc rs ex pc ls (vi z :: st) h Q := by
  intro p e s m args below meth c K H locs cells slots mc ms lsA hP hS hZ g1 g2 hl
  exact lv_tableIn K.1 K.2.1 hd (by rw [xI_toInt hz]; exact h1) (by rw [xI_toInt hz]; exact h2) (by rw [xI_toInt hz]; exact ho) ht (k p e s m args below meth c K H locs cells slots mc ms lsA hP hS hZ g1 g2 hl)
theorem x_tableOut {dflt lo hi : Int} {offs : Array Int} {len tgt : Nat} {z : Int} (hd : decode mt.2.1 pc = .ok (.tableswitch dflt lo hi offs, len)) (hz : xr z) (h9 : z < lo ∨ hi < z) (ht : (pc : Int) + dflt = (tgt : Int)) (k : X G mt d rc rs ex tgt ls st h Q) : X G mt d rc rs ex pc ls (vi z :: st) h Q := by
  intro p e s m args below meth c K H locs cells slots mc ms lsA hP hS hZ h1 h2 hl
  exact lv_tableOut K.1 K.2.1 hd (by rw [xI_toInt hz]; exact h9) ht (k p e s m args below meth c K H locs cells slots mc ms lsA hP hS hZ h1 h2 hl)
theorem x_weak {Q' : xQ} (k : X G mt d rc rs ex pc ls st h Q') (hq : ∀ r e9 h9, Q' r e9 h9 → Q r e9 h9) : X G mt d rc rs ex pc ls st h Q := by
  intro p e s m args below meth c K H locs cells slots mc ms lsA hP hS hZ h1 h2 hl
  intro T hT Xs
  obtain ⟨t, a1, o, b1, b2, b3⟩ := k p e s m args below meth c K H locs cells slots mc ms lsA hP hS hZ h1 h2 hl T hT Xs
  refine ⟨t, a1, o, b1, b2, ?_⟩
  rcases b3 with ⟨⟨v, e9, h9, c1, c2, c3⟩, c4⟩ | ⟨q, c1, E, ce, L, ⟨h9, c2, c3⟩, c4⟩
  · exact Or.inl ⟨⟨v, e9, h9, c1, hq _ _ _ c2, c3⟩, c4⟩
  · exact Or.inr ⟨q, c1, E, ce, L, ⟨h9, hq _ _ _ c2, c3⟩, c4⟩
theorem x_locals (hs : ∀ (i : Nat) (v : Value), ls'[i]? = some (some v) → ls[i]? = some (some v)) (k : X G mt d rc rs ex pc ls' st h Q) : X G mt d rc rs ex pc ls st h Q :=
  fun p e s m args below meth c K H locs cells slots mc ms lsA hP hS hZ h1 h2 hl => k p e s m args below meth c K H locs cells slots mc ms lsA hP hS hZ h1 h2 (hl.sub hs)
end XR7
