/-- what the Statement says of the start, one by one -/
def nwf : List Cond := flatC (Jvm.Cond.and given_1 narrow_1)
theorem tb_at (k : Nat) {w : Cond} (h : lw_tbl[k]? = some w) : w ∈ lw_tbl := List.mem_of_getElem? h
theorem nw_at (k : Nat) {w : Cond} (h : nwf[k]? = some w) : w ∈ nwf := List.mem_of_getElem? h
theorem nw_map {α : Type} {l : List α} {f : α → Cond} (ps : List Nat) (h : l.map f = ps.filterMap (fun i => nwf[i]?)) : ∀ a ∈ l, f a ∈ nwf := by
  intro a ha
  have h1 : f a ∈ l.map f := List.mem_map.mpr ⟨a, ha, rfl⟩
  rw [h] at h1
  obtain ⟨i, -, hi⟩ := List.mem_filterMap.mp h1
  exact List.mem_of_getElem? hi
theorem tb_map {α : Type} {l : List α} {f : α → Cond} (ps : List Nat) (h : l.map f = ps.filterMap (fun i => lw_tbl[i]?)) : ∀ a ∈ l, f a ∈ lw_tbl := by
  intro a ha
  have h1 : f a ∈ l.map f := List.mem_map.mpr ⟨a, ha, rfl⟩
  rw [h] at h1
  obtain ⟨i, -, hi⟩ := List.mem_filterMap.mp h1
  exact List.mem_of_getElem? hi
theorem s_lsC : Cond.laysStatic RX10 "PRIMES" "[I" ∈ lw_tbl := tb_at 435 (by decide +kernel)
theorem s_lsU : Cond.laysStatic Bundle.tN "UNASSIGNED_STACK" Bundle.steD ∈ lw_tbl := tb_at 463 (by decide +kernel)
theorem s_lsS : Cond.laysStatic Bundle.tN "SUPPRESSED_SENTINEL" Bundle.listD ∈ lw_tbl := tb_at 465 (by decide +kernel)
theorem s_inT : Cond.initialized Bundle.tN ∈ lw_tbl := tb_at 48 (by decide +kernel)
theorem s_aoA : Cond.arrayOver (.array .int) ∈ lw_tbl := tb_at 129 (by decide +kernel)
theorem s_aoR : Cond.arrayOver (.object "Veilbourse$Run") ∈ lw_tbl := tb_at 147 (by decide +kernel)
theorem s_aoP : Cond.arrayOver (.object "Veilbourse$Pair") ∈ lw_tbl := tb_at 206 (by decide +kernel)
theorem s_str : ∀ q ∈ xStr, Cond.stringRef RX10 q.1 q.2 ∈ lw_tbl := tb_map [479, 920, 988, 960, 1623, 1594, 1595, 932, 977, 1455, 1443, 1017, 1045, 1088, 1100, 1105, 1155, 1144, 1128, 1198, 1064, 1129, 1213, 1246, 1250, 1270, 1282, 1304, 1351, 1376, 1389, 1417, 1509, 1530, 1542, 1555, 1579] (by decide +kernel)
theorem s_cast : ∀ a ∈ xEx, Cond.castable a a ∈ lw_tbl := tb_map (f := fun a : String => Cond.castable a a) [438, 1038, 913, 1369] (by decide +kernel)
theorem s_decl : ∀ a ∈ xDc, Cond.declares a ∈ lw_tbl := tb_map [440, 442, 444] (by decide +kernel)
theorem n_exact : ∀ q ∈ xStr, Cond.exactly (.string RX10 q.1) "java/lang/String" ∈ nwf := nw_map (f := fun q : Nat × String => Cond.exactly (.string RX10 q.1) "java/lang/String") [76, 102, 215, 151, 1249, 1172, 1210, 126, 183, 993, 968, 241, 265, 341, 393, 416, 570, 515, 462, 600, 317, 490, 632, 675, 700, 725, 769, 823, 852, 884, 919, 948, 1010, 1052, 1077, 1098, 1124] (by decide +kernel)
def xNcs : List (String × String) := [("java/lang/IllegalArgumentException", "java/lang/IllegalStateException"), ("java/lang/IllegalArgumentException", "java/lang/IndexOutOfBoundsException"), ("java/lang/IllegalArgumentException", "java/lang/ArithmeticException"), ("java/lang/IllegalStateException", "java/lang/IllegalArgumentException"), ("java/lang/IllegalStateException", "java/lang/IndexOutOfBoundsException"), ("java/lang/IllegalStateException", "java/lang/ArithmeticException"), ("java/lang/IndexOutOfBoundsException", "java/lang/IllegalArgumentException"), ("java/lang/IndexOutOfBoundsException", "java/lang/IllegalStateException"), ("java/lang/IndexOutOfBoundsException", "java/lang/ArithmeticException"), ("java/lang/ArithmeticException", "java/lang/IllegalArgumentException"), ("java/lang/ArithmeticException", "java/lang/IllegalStateException"), ("java/lang/ArithmeticException", "java/lang/IndexOutOfBoundsException")]
theorem n_nc0 : ∀ q ∈ xNcs, Cond.not (.castable q.1 q.2) ∈ nwf := nw_map (f := fun q : String × String => Cond.not (.castable q.1 q.2)) [57, 43, 72, 30, 44, 75, 29, 59, 74, 31, 60, 45] (by decide +kernel)
theorem n_nc1 : ∀ a ∈ xEx, ∀ b ∈ xEx, a ≠ b → (a, b) ∈ xNcs := by decide +kernel
theorem n_prC : ∀ j ∈ List.range 8, Cond.eq (.elem (.static RX10 "PRIMES" "[I") (.int (Int32.ofNat j))) (.int (xI (xPr j))) ∈ nwf := nw_map (f := fun j => Cond.eq (.elem (.static RX10 "PRIMES" "[I") (.int (Int32.ofNat j))) (.int (xI (xPr j)))) [7, 8, 9, 10, 11, 12, 13, 14] (by decide +kernel)
theorem n_lnC : Cond.eq (.length (.static RX10 "PRIMES" "[I")) (.int (Int32.ofNat 8)) ∈ nwf := nw_at 6 (by decide +kernel)
theorem n_arC : Cond.arrayOf (.static RX10 "PRIMES" "[I") .int ∈ nwf := nw_at 5 (by decide +kernel)
theorem n_rfU : Cond.isRef (.static Bundle.tN "UNASSIGNED_STACK" Bundle.steD) ∈ nwf := nw_at 15 (by decide +kernel)
theorem n_rfS : Cond.isRef (.static Bundle.tN "SUPPRESSED_SENTINEL" Bundle.listD) ∈ nwf := nw_at 16 (by decide +kernel)
theorem n_X : ∀ ci : Nat, ci < 11 → Cond.instantiable (xCt ci).1 (xCt ci).2.2 ∈ lw_big := by
  intro ci h
  rcases (show ci = 0 ∨ ci = 1 ∨ ci = 2 ∨ ci = 3 ∨ ci = 4 ∨ ci = 5 ∨ ci = 6 ∨ ci = 7 ∨ ci = 8 ∨ ci = 9 ∨ ci = 10 by omega) with rfl | rfl | rfl | rfl | rfl | rfl | rfl | rfl | rfl | rfl | rfl
  · exact N_X0
  · exact N_X1
  · exact N_X2
  · exact N_X3
  · exact N_X4
  · exact N_X5
  · exact N_X6
  · exact N_X7
  · exact N_X8
  · exact N_X9
  · exact N_X10
theorem e_arr {s : State} {args : Array Value} {ty : FieldType} (h : (Cond.arrayClass ty).before args s = true) (hn : ∀ C, ty ≠ .object C) : ∃ c : ClassId, ArrOfT s c ty ∧ va_RA s c ty := by
  obtain ⟨c, k, comp, h1, h2, h3⟩ := Cond.arrayClass_spec h
  refine ⟨c, fun n z => ⟨fun k h => (by cases h), k, h2, comp, h3⟩, ?_⟩
  cases ty <;> first | exact h1 | exact absurd rfl (hn _)
theorem e_arrA {s : State} {args : Array Value} {t : FieldType} (h : (Cond.arrayOver (.array t)).before args s = true) : ∃ c : ClassId, ArrOfT s c (.array t) ∧ va_RA s c (.array t) := by
  obtain ⟨comp, c, k, h1, -, h2, h3, h4⟩ := arrayOverA_spec h
  exact ⟨c, fun n z => ⟨fun k h => (by cases h), k, h2, comp, h3⟩, h4⟩
theorem e_arrO {s : State} {args : Array Value} {C : String} (h : (Cond.arrayOver (.object C)).before args s = true) : ∃ c : ClassId, ArrOfT s c (.object C) ∧ va_RA s c (.object C) := by
  obtain ⟨comp, c, k, h1, -, h2, h3, h4⟩ := Cond.arrayOver_spec h
  exact ⟨c, fun n z => ⟨fun k h => (by cases h), k, h2, comp, h3⟩, k, comp, h2, h3, h1, h4⟩
theorem e_arrs {s : State} {args : Array Value} (hts : ∀ w ∈ lw_tbl, w.before args s = true) : ∃ ar : Nat → ClassId, ∀ k, k < 7 → ArrOfT s (ar k) (xT k) ∧ va_RA s (ar k) (xT k) := by
  have hb : ∀ w ∈ lw_big, w.before args s = true := fun w hw => hts w (List.mem_filter.mp hw).1
  obtain ⟨a0, h0⟩ := e_arr (hb _ w_ac_int) (fun C z => by cases z)
  obtain ⟨a4, h4⟩ := e_arrA (hts _ s_aoA)
  obtain ⟨a5, h5⟩ := e_arrO (hts _ s_aoR)
  obtain ⟨a6, h6⟩ := e_arrO (hts _ s_aoP)
  refine ⟨fun k => match k with | 0 => a0 | 1 => a0 | 2 => a0 | 3 => a0 | 4 => a4 | 5 => a5 | _ => a6, fun k hk => ?_⟩
  rcases (show k = 0 ∨ k = 1 ∨ k = 2 ∨ k = 3 ∨ k = 4 ∨ k = 5 ∨ k = 6 by omega) with rfl | rfl | rfl | rfl | rfl | rfl | rfl
  · exact h0
  · exact h0
  · exact h0
  · exact h0
  · exact h4
  · exact h5
  · exact h6
theorem e_cls {s : State} {args : Array Value} (hts : ∀ w ∈ lw_tbl, w.before args s = true) : ∃ D : va_G, ∀ (c : Nat) (q : vw_C), xCl[c]? = some q → u_Kn s q.1 q.2.1 q.2.2 (D.1 c) (D.2 c) := by
  have hb : ∀ w ∈ lw_big, w.before args s = true := fun w hw => hts w (List.mem_filter.mp hw).1
  have h1 : ∀ ci : Nat, ∃ p : ClassId × (Nat → Nat), ci < 11 → u_Kn s (xCt ci).1 (xCt ci).2.1 (xCt ci).2.2 p.1 p.2 := by
    intro ci
    by_cases h : ci < 11
    · obtain ⟨cC, iS, hk⟩ := u_known (args := args) hb (xCok ci h).1 (hb _ (n_X ci h))
      exact ⟨(cC, iS), fun _ => hk⟩
    · obtain ⟨cC, iS, hk⟩ := u_known (args := args) hb (xCok 0 (by decide)).1 (hb _ (n_X 0 (by decide)))
      exact ⟨(cC, iS), fun z => absurd z h⟩
  obtain ⟨f, hf⟩ := Classical.axiomOfChoice h1
  refine ⟨(fun c => (f c).1, fun c => (f c).2), fun c q hq => ?_⟩
  have hc : c < 11 := (List.getElem?_eq_some_iff.mp hq).1
  have e : xCt c = q := Option.some.inj ((xCt_get hc).symm.trans hq)
  rw [← e]
  exact hf c hc
theorem xSt_entry {s : State} {b L : Nat} {xs : Nat → Int32} {args : Array Value} (l : Launch) (hts : ∀ w ∈ lw_tbl, w.before args s = true) (hX : va_X b L xs s s.heap) (hbl : b < s.heap.size) (hgv : (Jvm.Cond.and given_1 narrow_1).before args s = true) :
    ∃ (D : va_G) (ar : Nat → ClassId) (ad : Nat → Nat), ad 0 = b ∧ xSt (l, D, ar, s.heap.size, ad, L, xs) s s.heap := by
  have hnw : ∀ w ∈ nwf, w.before args s = true := flat_of_before _ hgv
  have hb : ∀ w ∈ lw_big, w.before args s = true := fun w hw => hts w (List.mem_filter.mp hw).1
  have hA : ∀ a : Nat, a < s.heap.size → ¬ (fun q : Nat => s.heap.size ≤ q) a := fun a h => Nat.not_le.mpr h
  obtain ⟨D, hK⟩ := e_cls hts
  obtain ⟨ar, hAr⟩ := e_arrs hts
  obtain ⟨t1, e1, T1⟩ := va_Tof (f := fun j => vi (xPr j)) (N := 8) (A := fun q : Nat => s.heap.size ≤ q) (by decide) (hnw _ n_arC) (va_eqt (hnw _ n_lnC)) (fun j hj => va_eqt (hnw _ (n_prC j (List.mem_range.mpr hj)))) hA
  refine ⟨D, ar, fun k => if k = 0 then b else t1, rfl, ⟨hK, fun k q hq => ?_⟩, Nat.le_refl _, hbl, hX, ⟨va_Zof (hts _ s_lsC) (hb _ I_X10) e1 hA, T1⟩, ⟨trivial, trivial⟩, vx_Zqof (hts _ s_lsU) (hts _ s_inT) (hnw _ n_rfU) hA, vx_Zqof (hts _ s_lsS) (hts _ s_inT) (hnw _ n_rfS) hA, fun q hq => ?_, fun a ha c hc hne => va_Nc.of (hnw _ (n_nc0 (a, c) (n_nc1 a ha c hc hne))), fun w hw => ?_, hts _ s_aoA, va_AO.of (hts _ s_aoR), va_AO.of (hts _ s_aoP)⟩
  · have hk : k < 7 := by
      have h1 := (List.getElem?_eq_some_iff.mp hq).1
      unfold xTy at h1
      rw [List.length_map, List.length_range] at h1
      exact h1
    rw [xTy_get _ hk] at hq
    cases hq
    exact hAr k hk
  · obtain ⟨a, c, cell, k, h1, -⟩ := Cond.exactly_spec (hnw _ (n_exact q hq))
    exact ⟨a, vk_R.of (hts _ (s_str q hq)) h1⟩
  · rcases List.mem_append.mp hw with hw | hw
    · obtain ⟨a, ha, rfl⟩ := List.mem_map.mp hw
      exact va_Nw.of rfl (hts _ (s_cast a ha))
    · obtain ⟨a, ha, rfl⟩ := List.mem_map.mp hw
      exact va_Nw.of rfl (hts _ (s_decl a ha))
/-- new cells alone were written: nothing old -/
theorem sbn_forget {s t : State} {L : List Loc} {k n : Nat} (h : s.sameButNew t L k n) (hf : ∀ q ∈ L, s.heap.size ≤ q.base) : s.sameButNew t [] k n := by
  obtain ⟨h1, h2, h3, h4, h5, h6⟩ := h
  refine ⟨h1, h2, h3, h4, h5, fun a c hc => ?_⟩
  obtain ⟨c', e1, e2, e3, e4⟩ := h6 a c hc
  refine ⟨c', e1, e2, e3, fun i _ => e4 i (fun hm => ?_)⟩
  have h7 : a < s.heap.size := (Array.getElem?_eq_some_iff.mp hc).1
  have h8 : s.heap.size ≤ a := hf _ hm
  exact absurd h7 (Nat.not_lt.mpr h8)
