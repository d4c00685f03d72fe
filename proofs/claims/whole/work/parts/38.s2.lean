theorem inJ0 : ∀ w ∈ u_ws "java/lang/String" TJ0 4, w ∈ TW := List.forall_mem_cons.mpr ⟨q4_108, List.forall_mem_cons.mpr ⟨q4_110, List.forall_mem_cons.mpr ⟨q4_112, List.forall_mem_cons.mpr ⟨q4_114, fun _ h => nomatch h⟩⟩⟩⟩
theorem inJx00060 : ∀ w ∈ u_ws "java/lang/ArrayIndexOutOfBoundsException" TJx00060 6, w ∈ TW := List.forall_mem_cons.mpr ⟨q4_143, List.forall_mem_cons.mpr ⟨q4_144, List.forall_mem_cons.mpr ⟨q4_145, List.forall_mem_cons.mpr ⟨q4_146, List.forall_mem_cons.mpr ⟨q4_147, List.forall_mem_cons.mpr ⟨q4_158, fun _ h => nomatch h⟩⟩⟩⟩⟩⟩
theorem inJx7c733 : ∀ w ∈ u_ws "java/lang/StringIndexOutOfBoundsException" TJx7c733 6, w ∈ TW := List.forall_mem_cons.mpr ⟨q4_118, List.forall_mem_cons.mpr ⟨q4_119, List.forall_mem_cons.mpr ⟨q4_120, List.forall_mem_cons.mpr ⟨q4_121, List.forall_mem_cons.mpr ⟨q4_122, List.forall_mem_cons.mpr ⟨q4_123, fun _ h => nomatch h⟩⟩⟩⟩⟩⟩
theorem k_start {s : State} (hT : TWs s) (hover : va_AO "java/lang/Object" s) (N0 : Nat) (ea : Nat → Nat) : ∃ (D : va_G) (tc : Nat → ClassId), va_K D vwCl (TY (D, tc, N0, ea)) s := by
  obtain ⟨c0, i0, h0⟩ := u_known (T := TJ0) (N := 4) (hT.at #[]) inJ0 (hT.at #[] _ q4_54)
  obtain ⟨c1, i1, h1⟩ := u_known (T := TJ4) (N := 4) (hT.at #[]) inJ4 (hT.at #[] _ q1_64)
  obtain ⟨c2, i2, h2⟩ := u_known (T := TJx00060) (N := 6) (hT.at #[]) inJx00060 (hT.at #[] _ q4_138)
  obtain ⟨c3, i3, h3⟩ := u_known (T := TJx7c733) (N := 6) (hT.at #[]) inJx7c733 (hT.at #[] _ q3_152)
  obtain ⟨c4, i4, h4⟩ := u_known (T := TJx4a65c) (N := 3) (hT.at #[]) inJx4a65c (hT.at #[] _ q1_38)
  obtain ⟨c5, i5, h5⟩ := u_known (T := TX0) (N := 7) (hT.at #[]) inX0 (hT.at #[] _ q1_97)
  obtain ⟨c6, i6, h6⟩ := u_known (T := TX3) (N := 12) (hT.at #[]) inX3 (hT.at #[] _ q2_212)
  obtain ⟨c7, i7, h7⟩ := u_known (T := TX4) (N := 5) (hT.at #[]) inX4 (hT.at #[] _ q1_30)
  obtain ⟨c8, i8, h8⟩ := u_known (T := TX5) (N := 25) (hT.at #[]) inM (hT.at #[] _ q4_204)
  obtain ⟨cI, kI, pI, a1, a2, a3⟩ := Cond.arrayClass_spec (hT.at #[] _ q5_45)
  obtain ⟨cB, kB, pB, b1, b2, b3⟩ := Cond.arrayClass_spec (hT.at #[] _ q1_95)
  obtain ⟨cL, kL, pL, l1, l2, l3⟩ := Cond.arrayClass_spec (hT.at #[] _ q5_214)
  obtain ⟨pO, cO, kO, o1, o2, o3, o4, o5⟩ := Cond.arrayOver_spec hover
  refine ⟨(fun i => match i with | 0 => c0 | 1 => c1 | 2 => c2 | 3 => c3 | 4 => c4 | 5 => c5 | 6 => c6 | 7 => c7 | _ => c8, fun i => match i with | 0 => i0 | 1 => i1 | 2 => i2 | 3 => i3 | 4 => i4 | 5 => i5 | 6 => i6 | 7 => i7 | _ => i8), fun i => match i with | 0 => cI | 1 => cB | 2 => cO | _ => cL, fun c q hq => ?_, fun k q hq => ?_⟩
  · have hc : c < 9 := (List.getElem?_eq_some_iff.mp hq).1
    have h : c = 0 ∨ c = 1 ∨ c = 2 ∨ c = 3 ∨ c = 4 ∨ c = 5 ∨ c = 6 ∨ c = 7 ∨ c = 8 := by omega
    rcases h with rfl | rfl | rfl | rfl | rfl | rfl | rfl | rfl | rfl
    · cases hq; exact h0
    · cases hq; exact h1
    · cases hq; exact h2
    · cases hq; exact h3
    · cases hq; exact h4
    · cases hq; exact h5
    · cases hq; exact h6
    · cases hq; exact h7
    · cases hq; exact h8
  · have hc : k < 4 := (List.getElem?_eq_some_iff.mp hq).1
    have h : k = 0 ∨ k = 1 ∨ k = 2 ∨ k = 3 := by omega
    rcases h with rfl | rfl | rfl | rfl
    · cases hq; exact ⟨fun n z => ⟨fun k h => (by cases h), kI, a2, pI, a3⟩, a1⟩
    · cases hq; exact ⟨fun n z => ⟨fun k h => (by cases h), kB, b2, pB, b3⟩, b1⟩
    · cases hq; exact ⟨fun n z => ⟨fun k h => (by cases h), kO, o3, pO, o4⟩, kO, pO, o3, o4, o1, o5⟩
    · cases hq; exact ⟨fun n z => ⟨fun k h => (by cases h), kL, l2, pL, l3⟩, l1⟩
