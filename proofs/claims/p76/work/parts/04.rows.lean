/-! locals -/
def x2c : Option Value → Option Value
  | some (.long _) => none
  | some (.double _) => none
  | o => o
def xs1 : List (Option Value) → Nat → Value → List (Option Value)
  | [], _, _ => []
  | _ :: r, 0, v => some v :: r
  | o :: r, 1, v => x2c o :: xs1 r 0 v
  | o :: r, n + 2, v => o :: xs1 r (n + 1) v
def xs2 : List (Option Value) → Nat → Value → List (Option Value)
  | [], _, _ => []
  | _ :: [], 0, v => [some v]
  | _ :: _ :: r, 0, v => some v :: none :: r
  | o :: r, 1, v => x2c o :: xs2 r 0 v
  | o :: r, n + 2, v => o :: xs2 r (n + 1) v
theorem x2c_some {o : Option Value} {w : Value} (h : x2c o = some w) : o = some w ∧ ¬ w.category = 2 := by
  cases o with
  | none => cases h
  | some v => cases v <;> simp_all [x2c, Value.category] <;> (subst h; simp [Value.category])
theorem xs1_get : ∀ (ls : List (Option Value)) (i : Nat) (v w : Value) (j : Nat), (xs1 ls i v)[j]? = some (some w) → (j = i ∧ w = v) ∨ (j ≠ i ∧ ls[j]? = some (some w) ∧ ¬ (j + 1 = i ∧ w.category = 2))
  | [], _, _, _, _, h => by simp [xs1] at h
  | o :: r, 0, v, w, j, h => by
    cases j with
    | zero => simp [xs1] at h; exact Or.inl ⟨rfl, h.symm⟩
    | succ j => simp [xs1] at h; exact Or.inr ⟨by omega, by simpa using h, by omega⟩
  | o :: r, 1, v, w, j, h => by
    cases j with
    | zero =>
      simp [xs1] at h
      obtain ⟨h1, h2⟩ := x2c_some h
      exact Or.inr ⟨by omega, by simpa using h1, fun q => h2 q.2⟩
    | succ j =>
      simp only [xs1, List.getElem?_cons_succ] at h
      rcases xs1_get r 0 v w j h with ⟨a, b⟩ | ⟨a, b, -⟩
      · exact Or.inl ⟨by omega, b⟩
      · exact Or.inr ⟨by omega, by simpa using b, by omega⟩
  | o :: r, n + 2, v, w, j, h => by
    cases j with
    | zero => simp [xs1] at h; exact Or.inr ⟨by omega, by simpa using h, by omega⟩
    | succ j =>
      simp only [xs1, List.getElem?_cons_succ] at h
      rcases xs1_get r (n + 1) v w j h with ⟨a, b⟩ | ⟨a, b, c⟩
      · exact Or.inl ⟨by omega, b⟩
      · exact Or.inr ⟨by omega, by simpa using b, fun q => c ⟨by omega, q.2⟩⟩
theorem xs2_get : ∀ (ls : List (Option Value)) (i : Nat) (v w : Value) (j : Nat), (xs2 ls i v)[j]? = some (some w) → (j = i ∧ w = v) ∨ (j ≠ i ∧ j ≠ i + 1 ∧ ls[j]? = some (some w) ∧ ¬ (j + 1 = i ∧ w.category = 2))
  | [], _, _, _, _, h => by simp [xs2] at h
  | o :: [], 0, v, w, j, h => by
    cases j with
    | zero => simp [xs2] at h; exact Or.inl ⟨rfl, h.symm⟩
    | succ j => simp [xs2] at h
  | o :: o2 :: r, 0, v, w, j, h => by
    match j with
    | 0 => simp [xs2] at h; exact Or.inl ⟨rfl, h.symm⟩
    | 1 => simp [xs2] at h
    | j + 2 => simp [xs2] at h; exact Or.inr ⟨by omega, by omega, by simpa using h, by omega⟩
  | o :: r, 1, v, w, j, h => by
    cases j with
    | zero =>
      simp [xs2] at h
      obtain ⟨h1, h2⟩ := x2c_some h
      exact Or.inr ⟨by omega, by omega, by simpa using h1, fun q => h2 q.2⟩
    | succ j =>
      simp only [xs2, List.getElem?_cons_succ] at h
      rcases xs2_get r 0 v w j h with ⟨a, b⟩ | ⟨a, a2, b, -⟩
      · exact Or.inl ⟨by omega, b⟩
      · exact Or.inr ⟨by omega, by omega, by simpa using b, by omega⟩
  | o :: r, n + 2, v, w, j, h => by
    cases j with
    | zero => simp [xs2] at h; exact Or.inr ⟨by omega, by omega, by simpa using h, by omega⟩
    | succ j =>
      simp only [xs2, List.getElem?_cons_succ] at h
      rcases xs2_get r (n + 1) v w j h with ⟨a, b⟩ | ⟨a, a2, b, c⟩
      · exact Or.inl ⟨by omega, b⟩
      · exact Or.inr ⟨by omega, by omega, by simpa using b, fun q => c ⟨by omega, q.2⟩⟩
def xlp (G : xG) (ls : List (Option Value)) : List (Nat × Value) := ls.zipIdx.filterMap (fun q => q.1.map (fun v => (q.2, xv G v)))
theorem xlp_mem {G : xG} {ls : List (Option Value)} {i : Nat} {v : Value} (h : ls[i]? = some (some v)) : (i, xv G v) ∈ xlp G ls := by
  refine List.mem_filterMap.mpr ⟨(some v, i), ?_, rfl⟩
  rw [List.mem_zipIdx_iff_getElem?]
  simpa using h
theorem xLo.has {G : xG} {n : Nat} {lsA : Array Slot} {ls : List (Option Value)} (h : xLo G n lsA ls) : lv_has lsA n (xlp G ls) := by
  refine ⟨h.1, h.2.1, fun q hq => ?_⟩
  obtain ⟨⟨o, i⟩, h1, h2⟩ := List.mem_filterMap.mp hq
  rw [List.mem_zipIdx_iff_getElem?] at h1
  cases o with
  | none => cases h2
  | some v =>
    cases h2
    exact h.2.2 i v (by simpa using h1)
theorem xv_cat (G : xG) (v : Value) : (xv G v).category = v.category := by cases v <;> rfl
theorem xLo.st1 {G : xG} {n : Nat} {lsA : Array Slot} {ls : List (Option Value)} {i : Nat} {v : Value} (h : lv_has lsA n ((i, xv G v) :: (xlp G ls).filter (fun q => !(q.1 == i) && !(q.1 + 1 == i && q.2.category == 2)))) : xLo G n lsA (xs1 ls i v) := by
  refine ⟨h.1, h.2.1, fun j w hw => ?_⟩
  rcases xs1_get ls i v w j hw with ⟨rfl, rfl⟩ | ⟨a, b, c⟩
  · exact h.2.2 _ List.mem_cons_self
  · refine h.2.2 (j, xv G w) (List.mem_cons_of_mem _ (List.mem_filter.mpr ⟨xlp_mem b, ?_⟩))
    simp only [xv_cat]
    simp
    refine ⟨a, ?_⟩
    by_cases q : j + 1 = i
    · exact Or.inr (fun z => c ⟨q, z⟩)
    · exact Or.inl q
theorem xLo.st2 {G : xG} {n : Nat} {lsA : Array Slot} {ls : List (Option Value)} {i : Nat} {v : Value} (h : lv_has lsA n ((i, xv G v) :: (xlp G ls).filter (fun q => !(q.1 == i) && (!(q.1 == i + 1) && !(q.1 + 1 == i && q.2.category == 2))))) : xLo G n lsA (xs2 ls i v) := by
  refine ⟨h.1, h.2.1, fun j w hw => ?_⟩
  rcases xs2_get ls i v w j hw with ⟨rfl, rfl⟩ | ⟨a, a2, b, c⟩
  · exact h.2.2 _ List.mem_cons_self
  · refine h.2.2 (j, xv G w) (List.mem_cons_of_mem _ (List.mem_filter.mpr ⟨xlp_mem b, ?_⟩))
    simp only [xv_cat]
    simp
    refine ⟨a, a2, ?_⟩
    by_cases q : j + 1 = i
    · exact Or.inr (fun z => c ⟨q, z⟩)
    · exact Or.inl q
theorem xLo.sub {G : xG} {n : Nat} {lsA : Array Slot} {ls ls' : List (Option Value)} (h : xLo G n lsA ls) (hs : ∀ (i : Nat) (v : Value), ls'[i]? = some (some v) → ls[i]? = some (some v)) : xLo G n lsA ls' := ⟨h.1, h.2.1, fun i v q => h.2.2 i v (hs i v q)⟩
section XR
variable {G : xG} {mt : xM} {d rc rs : Nat} {ex : Bool} {pc : Nat} {ls ls' : List (Option Value)} {st : List Value} {h : xH} {Q : xQ}
/-! constants, locals -/
theorem x_iconst {n : Int} (hd : decode mt.2.1 pc = .ok (.iconst n, 1)) (k : X G mt d rc rs ex (pc + 1) ls (vi n :: st) h Q) : X G mt d rc rs ex pc ls st h Q :=
  fun p e s m args below meth c K H locs cells slots mc ms lsA hP hS hZ h1 h2 hl => lv_iconst K.1 K.2.1 hd rfl (k p e s m args below meth c K H locs cells slots mc ms lsA hP hS hZ h1 h2 hl)
theorem x_bipush {n : Int} (hd : decode mt.2.1 pc = .ok (.bipush n, 2)) (hv : (Int8.ofInt n).toInt32 = xI n) (k : X G mt d rc rs ex (pc + 2) ls (vi n :: st) h Q) : X G mt d rc rs ex pc ls st h Q :=
  fun p e s m args below meth c K H locs cells slots mc ms lsA hP hS hZ h1 h2 hl => lv_bipush K.1 K.2.1 hd hv (k p e s m args below meth c K H locs cells slots mc ms lsA hP hS hZ h1 h2 hl)
theorem x_sipush {n : Int} (hd : decode mt.2.1 pc = .ok (.sipush n, 3)) (hv : (Int16.ofInt n).toInt32 = xI n) (k : X G mt d rc rs ex (pc + 3) ls (vi n :: st) h Q) : X G mt d rc rs ex pc ls st h Q :=
  fun p e s m args below meth c K H locs cells slots mc ms lsA hP hS hZ h1 h2 hl => lv_sipush K.1 K.2.1 hd hv (k p e s m args below meth c K H locs cells slots mc ms lsA hP hS hZ h1 h2 hl)
theorem x_lconst {n : Fin 2} {z : Int} (hd : decode mt.2.1 pc = .ok (.lconst n, 1)) (hv : Int64.ofNat (n : Nat) = xJ z) (k : X G mt d rc rs ex (pc + 1) ls (vl z :: st) h Q) : X G mt d rc rs ex pc ls st h Q :=
  fun p e s m args below meth c K H locs cells slots mc ms lsA hP hS hZ h1 h2 hl => lv_lconst K.1 K.2.1 hd hv (k p e s m args below meth c K H locs cells slots mc ms lsA hP hS hZ h1 h2 hl)
theorem x_iload_n {n : Fin 4} {z : Int} (hd : decode mt.2.1 pc = .ok (.iload_n n, 1)) (hv : ls[(n : Nat)]? = some (some (vi z))) (k : X G mt d rc rs ex (pc + 1) ls (vi z :: st) h Q) : X G mt d rc rs ex pc ls st h Q :=
  fun p e s m args below meth c K H locs cells slots mc ms lsA hP hS hZ h1 h2 hl => lv_iload_n K.1 K.2.1 hd rfl (hl.2.2 _ _ hv) (k p e s m args below meth c K H locs cells slots mc ms lsA hP hS hZ h1 h2 hl)
theorem x_iload {n : Nat} {z : Int} (hd : decode mt.2.1 pc = .ok (.iload n, 2)) (hv : ls[n]? = some (some (vi z))) (k : X G mt d rc rs ex (pc + 2) ls (vi z :: st) h Q) : X G mt d rc rs ex pc ls st h Q :=
  fun p e s m args below meth c K H locs cells slots mc ms lsA hP hS hZ h1 h2 hl => lv_iload K.1 K.2.1 hd (hl.2.2 _ _ hv) (k p e s m args below meth c K H locs cells slots mc ms lsA hP hS hZ h1 h2 hl)
theorem x_lload_n {n : Fin 4} {z : Int} (hd : decode mt.2.1 pc = .ok (.lload_n n, 1)) (hv : ls[(n : Nat)]? = some (some (vl z))) (k : X G mt d rc rs ex (pc + 1) ls (vl z :: st) h Q) : X G mt d rc rs ex pc ls st h Q :=
  fun p e s m args below meth c K H locs cells slots mc ms lsA hP hS hZ h1 h2 hl => lv_lload_n K.1 K.2.1 hd rfl (hl.2.2 _ _ hv) (k p e s m args below meth c K H locs cells slots mc ms lsA hP hS hZ h1 h2 hl)
theorem x_lload {n : Nat} {z : Int} (hd : decode mt.2.1 pc = .ok (.lload n, 2)) (hv : ls[n]? = some (some (vl z))) (k : X G mt d rc rs ex (pc + 2) ls (vl z :: st) h Q) : X G mt d rc rs ex pc ls st h Q :=
  fun p e s m args below meth c K H locs cells slots mc ms lsA hP hS hZ h1 h2 hl => lv_lload K.1 K.2.1 hd (hl.2.2 _ _ hv) (k p e s m args below meth c K H locs cells slots mc ms lsA hP hS hZ h1 h2 hl)
theorem x_dload_n {n : Fin 4} {z : UInt64} (hd : decode mt.2.1 pc = .ok (.dload_n n, 1)) (hv : ls[(n : Nat)]? = some (some (.double z))) (k : X G mt d rc rs ex (pc + 1) ls (.double z :: st) h Q) : X G mt d rc rs ex pc ls st h Q :=
  fun p e s m args below meth c K H locs cells slots mc ms lsA hP hS hZ h1 h2 hl => lv_dload_n K.1 K.2.1 hd rfl (hl.2.2 _ _ hv) (k p e s m args below meth c K H locs cells slots mc ms lsA hP hS hZ h1 h2 hl)
theorem x_dload {n : Nat} {z : UInt64} (hd : decode mt.2.1 pc = .ok (.dload n, 2)) (hv : ls[n]? = some (some (.double z))) (k : X G mt d rc rs ex (pc + 2) ls (.double z :: st) h Q) : X G mt d rc rs ex pc ls st h Q :=
  fun p e s m args below meth c K H locs cells slots mc ms lsA hP hS hZ h1 h2 hl => lv_dload K.1 K.2.1 hd (hl.2.2 _ _ hv) (k p e s m args below meth c K H locs cells slots mc ms lsA hP hS hZ h1 h2 hl)
theorem x_aload_n {n : Fin 4} {a : Nat} (hd : decode mt.2.1 pc = .ok (.aload_n n, 1)) (hv : ls[(n : Nat)]? = some (some (.ref a))) (k : X G mt d rc rs ex (pc + 1) ls (.ref a :: st) h Q) : X G mt d rc rs ex pc ls st h Q :=
  fun p e s m args below meth c K H locs cells slots mc ms lsA hP hS hZ h1 h2 hl => lv_aload_n K.1 K.2.1 hd rfl (hl.2.2 _ _ hv) (k p e s m args below meth c K H locs cells slots mc ms lsA hP hS hZ h1 h2 hl)
theorem x_aload {n a : Nat} (hd : decode mt.2.1 pc = .ok (.aload n, 2)) (hv : ls[n]? = some (some (.ref a))) (k : X G mt d rc rs ex (pc + 2) ls (.ref a :: st) h Q) : X G mt d rc rs ex pc ls st h Q :=
  fun p e s m args below meth c K H locs cells slots mc ms lsA hP hS hZ h1 h2 hl => lv_aload K.1 K.2.1 hd (hl.2.2 _ _ hv) (k p e s m args below meth c K H locs cells slots mc ms lsA hP hS hZ h1 h2 hl)
theorem x_istore_n {n : Fin 4} {z : Int} (hd : decode mt.2.1 pc = .ok (.istore_n n, 1)) (hn : (n : Nat) < mt.2.2.1) (hs : xs1 ls (n : Nat) (vi z) = ls') (k : X G mt d rc rs ex (pc + 1) ls' st h Q) : X G mt d rc rs ex pc ls (vi z :: st) h Q := by
  subst hs
  exact fun p e s m args below meth c K H locs cells slots mc ms lsA hP hS hZ h1 h2 hl => lv_istore_n K.1 K.2.1 hd rfl hl.has hn rfl (fun lsB hB => k p e s m args below meth c K H locs cells slots mc ms lsB hP hS hZ h1 h2 (xLo.st1 hB))
theorem x_istore {n : Nat} {z : Int} (hd : decode mt.2.1 pc = .ok (.istore n, 2)) (hn : n < mt.2.2.1) (hs : xs1 ls n (vi z) = ls') (k : X G mt d rc rs ex (pc + 2) ls' st h Q) : X G mt d rc rs ex pc ls (vi z :: st) h Q := by
  subst hs
  exact fun p e s m args below meth c K H locs cells slots mc ms lsA hP hS hZ h1 h2 hl => lv_istore K.1 K.2.1 hd hl.has hn rfl (fun lsB hB => k p e s m args below meth c K H locs cells slots mc ms lsB hP hS hZ h1 h2 (xLo.st1 hB))
theorem x_lstore_n {n : Fin 4} {z : Int} (hd : decode mt.2.1 pc = .ok (.lstore_n n, 1)) (hn : (n : Nat) + 1 < mt.2.2.1) (hs : xs2 ls (n : Nat) (vl z) = ls') (k : X G mt d rc rs ex (pc + 1) ls' st h Q) : X G mt d rc rs ex pc ls (vl z :: st) h Q := by
  subst hs
  exact fun p e s m args below meth c K H locs cells slots mc ms lsA hP hS hZ h1 h2 hl => lv_lstore_n K.1 K.2.1 hd rfl hl.has hn rfl (fun lsB hB => k p e s m args below meth c K H locs cells slots mc ms lsB hP hS hZ h1 h2 (xLo.st2 hB))
theorem x_lstore {n : Nat} {z : Int} (hd : decode mt.2.1 pc = .ok (.lstore n, 2)) (hn : n + 1 < mt.2.2.1) (hs : xs2 ls n (vl z) = ls') (k : X G mt d rc rs ex (pc + 2) ls' st h Q) : X G mt d rc rs ex pc ls (vl z :: st) h Q := by
  subst hs
  exact fun p e s m args below meth c K H locs cells slots mc ms lsA hP hS hZ h1 h2 hl => lv_lstore K.1 K.2.1 hd hl.has hn rfl (fun lsB hB => k p e s m args below meth c K H locs cells slots mc ms lsB hP hS hZ h1 h2 (xLo.st2 hB))
theorem x_dstore_n {n : Fin 4} {z : UInt64} (hd : decode mt.2.1 pc = .ok (.dstore_n n, 1)) (hn : (n : Nat) + 1 < mt.2.2.1) (hs : xs2 ls (n : Nat) (.double z) = ls') (k : X G mt d rc rs ex (pc + 1) ls' st h Q) : X G mt d rc rs ex pc ls (.double z :: st) h Q := by
  subst hs
  exact fun p e s m args below meth c K H locs cells slots mc ms lsA hP hS hZ h1 h2 hl => lv_dstore_n K.1 K.2.1 hd rfl hl.has hn rfl (fun lsB hB => k p e s m args below meth c K H locs cells slots mc ms lsB hP hS hZ h1 h2 (xLo.st2 hB))
theorem x_dstore {n : Nat} {z : UInt64} (hd : decode mt.2.1 pc = .ok (.dstore n, 2)) (hn : n + 1 < mt.2.2.1) (hs : xs2 ls n (.double z) = ls') (k : X G mt d rc rs ex (pc + 2) ls' st h Q) : X G mt d rc rs ex pc ls (.double z :: st) h Q := by
  subst hs
  exact fun p e s m args below meth c K H locs cells slots mc ms lsA hP hS hZ h1 h2 hl => lv_dstore K.1 K.2.1 hd hl.has hn rfl (fun lsB hB => k p e s m args below meth c K H locs cells slots mc ms lsB hP hS hZ h1 h2 (xLo.st2 hB))
theorem x_astore_n {n : Fin 4} {a : Nat} (hd : decode mt.2.1 pc = .ok (.astore_n n, 1)) (hn : (n : Nat) < mt.2.2.1) (hs : xs1 ls (n : Nat) (.ref a) = ls') (k : X G mt d rc rs ex (pc + 1) ls' st h Q) : X G mt d rc rs ex pc ls (.ref a :: st) h Q := by
  subst hs
  exact fun p e s m args below meth c K H locs cells slots mc ms lsA hP hS hZ h1 h2 hl => lv_astore_n K.1 K.2.1 hd rfl hl.has hn rfl (fun lsB hB => k p e s m args below meth c K H locs cells slots mc ms lsB hP hS hZ h1 h2 (xLo.st1 (v := .ref a) hB))
theorem x_astore {n a : Nat} (hd : decode mt.2.1 pc = .ok (.astore n, 2)) (hn : n < mt.2.2.1) (hs : xs1 ls n (.ref a) = ls') (k : X G mt d rc rs ex (pc + 2) ls' st h Q) : X G mt d rc rs ex pc ls (.ref a :: st) h Q := by
  subst hs
  exact fun p e s m args below meth c K H locs cells slots mc ms lsA hP hS hZ h1 h2 hl => lv_astore K.1 K.2.1 hd hl.has hn rfl (fun lsB hB => k p e s m args below meth c K H locs cells slots mc ms lsB hP hS hZ h1 h2 (xLo.st1 (v := .ref a) hB))
theorem x_iinc {n : Nat} {c z : Int} (hd : decode mt.2.1 pc = .ok (.iinc n c, 3)) (hn : n < mt.2.2.1) (hv : ls[n]? = some (some (vi z))) (hs : xs1 ls n (vi (z + c)) = ls') (k : X G mt d rc rs ex (pc + 3) ls' st h Q) : X G mt d rc rs ex pc ls st h Q := by
  subst hs
  intro p e s m args below meth c K H locs cells slots mc ms lsA hP hS hZ h1 h2 hl
  obtain ⟨kk, hk⟩ := List.getElem?_of_mem (xlp_mem (G := G) hv)
  exact lv_iinc K.1 K.2.1 hd hl.has hk (xI_add z _) hn rfl (fun lsB hB => k p e s m args below meth c K H locs cells slots mc ms lsB hP hS hZ h1 h2 (xLo.st1 hB))
/-! arithmetic -/
theorem x_iadd {a b : Int} (hd : decode mt.2.1 pc = .ok (.iadd, 1)) (k : X G mt d rc rs ex (pc + 1) ls (vi (a + b) :: st) h Q) : X G mt d rc rs ex pc ls (vi b :: vi a :: st) h Q :=
  fun p e s m args below meth c K H locs cells slots mc ms lsA hP hS hZ h1 h2 hl => lv_iadd K.1 K.2.1 hd (by rw [xI_add]; exact k p e s m args below meth c K H locs cells slots mc ms lsA hP hS hZ h1 h2 hl)
theorem x_isub {a b : Int} (hd : decode mt.2.1 pc = .ok (.isub, 1)) (k : X G mt d rc rs ex (pc + 1) ls (vi (a - b) :: st) h Q) : X G mt d rc rs ex pc ls (vi b :: vi a :: st) h Q :=
  fun p e s m args below meth c K H locs cells slots mc ms lsA hP hS hZ h1 h2 hl => lv_isub K.1 K.2.1 hd (by rw [xI_sub]; exact k p e s m args below meth c K H locs cells slots mc ms lsA hP hS hZ h1 h2 hl)
theorem x_imul {a b : Int} (hd : decode mt.2.1 pc = .ok (.imul, 1)) (k : X G mt d rc rs ex (pc + 1) ls (vi (a * b) :: st) h Q) : X G mt d rc rs ex pc ls (vi b :: vi a :: st) h Q :=
  fun p e s m args below meth c K H locs cells slots mc ms lsA hP hS hZ h1 h2 hl => lv_imul K.1 K.2.1 hd (by rw [xI_mul]; exact k p e s m args below meth c K H locs cells slots mc ms lsA hP hS hZ h1 h2 hl)
theorem x_ineg {a : Int} (hd : decode mt.2.1 pc = .ok (.ineg, 1)) (k : X G mt d rc rs ex (pc + 1) ls (vi (-a) :: st) h Q) : X G mt d rc rs ex pc ls (vi a :: st) h Q :=
  fun p e s m args below meth c K H locs cells slots mc ms lsA hP hS hZ h1 h2 hl => lv_ineg K.1 K.2.1 hd (by rw [xI_neg]; exact k p e s m args below meth c K H locs cells slots mc ms lsA hP hS hZ h1 h2 hl)
theorem x_irem {a b : Int} (hd : decode mt.2.1 pc = .ok (.irem, 1)) (ha : xr a) (hb : xr b) (h0 : b ≠ 0) (k : X G mt d rc rs ex (pc + 1) ls (vi (a.tmod b) :: st) h Q) : X G mt d rc rs ex pc ls (vi b :: vi a :: st) h Q :=
  fun p e s m args below meth c K H locs cells slots mc ms lsA hP hS hZ h1 h2 hl => lv_irem K.1 K.2.1 hd (fun q => h0 ((xI_eq hb xr_0).mp q)) (by rw [xI_tmod ha hb]; exact k p e s m args below meth c K H locs cells slots mc ms lsA hP hS hZ h1 h2 hl)
theorem x_goto {off : Int} {tgt : Nat} (hd : decode mt.2.1 pc = .ok (.goto off, 3)) (ht : (pc : Int) + off = (tgt : Int)) (k : X G mt d rc rs ex tgt ls st h Q) : X G mt d rc rs ex pc ls st h Q :=
  fun p e s m args below meth c K H locs cells slots mc ms lsA hP hS hZ h1 h2 hl => lv_goto K.1 K.2.1 hd ht (k p e s m args below meth c K H locs cells slots mc ms lsA hP hS hZ h1 h2 hl)
theorem x_if_eq {a off : Int} {tgt : Nat} (hd : decode mt.2.1 pc = .ok (.ifCond .eq off, 3)) (ht : (pc : Int) + off = (tgt : Int)) (ha : xr a) (k1 : a = 0 → X G mt d rc rs ex tgt ls st h Q) (k2 : ¬ a = 0 → X G mt d rc rs ex (pc + 3) ls st h Q) : X G mt d rc rs ex pc ls (vi a :: st) h Q :=
  fun p e s m args below meth c K H locs cells slots mc ms lsA hP hS hZ h1 h2 hl => lv_if_eq K.1 K.2.1 hd ht (fun q => k1 ((xI_eq ha xr_0).mp q) p e s m args below meth c K H locs cells slots mc ms lsA hP hS hZ h1 h2 hl) (fun q => k2 (fun z => q ((xI_eq ha xr_0).mpr z)) p e s m args below meth c K H locs cells slots mc ms lsA hP hS hZ h1 h2 hl)
theorem x_if_ne {a off : Int} {tgt : Nat} (hd : decode mt.2.1 pc = .ok (.ifCond .ne off, 3)) (ht : (pc : Int) + off = (tgt : Int)) (ha : xr a) (k1 : ¬ a = 0 → X G mt d rc rs ex tgt ls st h Q) (k2 : a = 0 → X G mt d rc rs ex (pc + 3) ls st h Q) : X G mt d rc rs ex pc ls (vi a :: st) h Q :=
  fun p e s m args below meth c K H locs cells slots mc ms lsA hP hS hZ h1 h2 hl => lv_if_ne K.1 K.2.1 hd ht (fun q => k1 (fun z => q ((xI_eq ha xr_0).mpr z)) p e s m args below meth c K H locs cells slots mc ms lsA hP hS hZ h1 h2 hl) (fun q => k2 ((xI_eq ha xr_0).mp q) p e s m args below meth c K H locs cells slots mc ms lsA hP hS hZ h1 h2 hl)
end XR
