def okS (s : Nat) (B : ByteArray) (l : List (Nat × Instr × Nat)) : Bool := l.all (fun q => decide ((Jvm.ClassFile.Decoder.instr (s + q.1)).runAt B q.1 = .ok (q.2.1, q.1 + q.2.2)) && !isSw q.2.1)
theorem sameFrom_of {A B : ByteArray} {s : Nat} (h : (A.data.toList.drop s).take B.data.toList.length = B.data.toList) : sameFrom A B s := fun j hj => by
  have h1 : j < B.data.toList.length := by rw [Array.length_toList]; exact hj
  have h2 : ((A.data.toList.drop s).take B.data.toList.length)[j]? = (B.data.toList)[j]? := by rw [h]
  rw [List.getElem?_take, if_pos h1, List.getElem?_drop] at h2
  rw [List.getElem?_eq_getElem h1] at h2
  obtain ⟨h3, h4⟩ := List.getElem?_eq_some_iff.mp h2
  refine ⟨by rw [Array.length_toList] at h3; exact h3, ?_⟩
  exact h4
theorem dS {A B : ByteArray} {s : Nat} {l : List (Nat × Instr × Nat)} (hs : sameFrom A B s) (h : okS s B l = true) : okT A (l.map (fun q => (s + q.1, q.2))) = true := by
  unfold okT
  rw [List.all_map]
  refine List.all_eq_true.mpr (fun q hq => ?_)
  have h1 := List.all_eq_true.mp h q hq
  rw [Bool.and_eq_true] at h1
  have h2 := of_decide_eq_true h1.1
  have h3 : isSw q.2.1 = false := by have := h1.2; cases e : isSw q.2.1 <;> rw [e] at this <;> first | rfl | cases this
  have h4 := ShI_instr hs (s + q.1) q.1 q.2.1 (q.1 + q.2.2) h2 h3
  refine decide_eq_true ?_
  show decode A (s + q.1) = .ok (q.2.1, q.2.2)
  have h5 : (Jvm.ClassFile.Decoder.instr (s + q.1)).runAt A (s + q.1) = .ok (q.2.1, s + (q.1 + q.2.2)) := h4
  unfold decode
  rw [h5]
  show Except.ok (q.2.1, s + (q.1 + q.2.2) - (s + q.1)) = _
  rw [show s + (q.1 + q.2.2) - (s + q.1) = q.2.2 by omega]
theorem dSt {A B : ByteArray} {s : Nat} {t : List (Nat × Instr × Nat)} (l : List (Nat × Instr × Nat)) (hs : sameFrom A B s) (h : okS s B l = true) (ht : t = l.map (fun q => (s + q.1, q.2))) : okT A t = true := by rw [ht]; exact dS hs h
