/-! the start: what the Statement gives there -/
theorem strR : ∀ q ∈ strT, Cond.stringRef q.1 q.2.1 q.2.2.1 ∈ tables_1 := (List.forall_mem_cons.mpr ⟨tb3 166 rfl, (List.forall_mem_cons.mpr ⟨tb4 1 rfl, (List.forall_mem_cons.mpr ⟨tb4 2 rfl, (List.forall_mem_cons.mpr ⟨tb4 3 rfl, (List.forall_mem_cons.mpr ⟨tb4 9 rfl, (List.forall_mem_cons.mpr ⟨tb4 15 rfl, (List.forall_mem_cons.mpr ⟨tb4 16 rfl, (List.forall_mem_cons.mpr ⟨tb4 17 rfl, (List.forall_mem_cons.mpr ⟨tb4 18 rfl, (List.forall_mem_cons.mpr ⟨tb4 19 rfl, (List.forall_mem_cons.mpr ⟨tb4 24 rfl, (List.forall_mem_cons.mpr ⟨tb4 67 rfl, (List.forall_mem_cons.mpr ⟨tb4 103 rfl, (List.forall_mem_cons.mpr ⟨tb4 132 rfl, (List.forall_mem_cons.mpr ⟨tb4 134 rfl, (List.forall_mem_cons.mpr ⟨tb4 135 rfl, (List.forall_mem_cons.mpr ⟨tb4 142 rfl, (List.forall_mem_cons.mpr ⟨tb4 152 rfl, (List.forall_mem_cons.mpr ⟨tb4 153 rfl, (List.forall_mem_cons.mpr ⟨tb4 159 rfl, (List.forall_mem_cons.mpr ⟨tb4 164 rfl, (List.forall_mem_cons.mpr ⟨tb4 174 rfl, (List.forall_mem_cons.mpr ⟨tb4 175 rfl, (List.forall_mem_cons.mpr ⟨tb4 176 rfl, (List.forall_mem_cons.mpr ⟨tb4 177 rfl, (List.forall_mem_cons.mpr ⟨tb4 178 rfl, (List.forall_mem_cons.mpr ⟨tb4 179 rfl, (List.forall_mem_cons.mpr ⟨tb4 180 rfl, (List.forall_mem_cons.mpr ⟨tb4 181 rfl, (List.forall_mem_cons.mpr ⟨tb4 182 rfl, (List.forall_mem_cons.mpr ⟨tb4 183 rfl, (List.forall_mem_cons.mpr ⟨tb4 194 rfl, (List.forall_mem_cons.mpr ⟨tb4 199 rfl, (List.forall_mem_cons.mpr ⟨tb4 200 rfl, (List.forall_mem_cons.mpr ⟨tb4 205 rfl, (List.forall_mem_cons.mpr ⟨tb4 228 rfl, (List.forall_mem_cons.mpr ⟨tb5 7 rfl, (List.forall_mem_cons.mpr ⟨tb5 26 rfl, (List.forall_mem_cons.mpr ⟨tb5 37 rfl, (List.forall_mem_cons.mpr ⟨tb5 96 rfl, (List.forall_mem_cons.mpr ⟨tb5 170 rfl, (List.forall_mem_cons.mpr ⟨tb5 207 rfl, (List.forall_mem_cons.mpr ⟨tb6 145 rfl, (List.forall_mem_cons.mpr ⟨tb6 152 rfl, (List.forall_mem_cons.mpr ⟨tb6 153 rfl, (List.forall_mem_cons.mpr ⟨tb6 162 rfl, (List.forall_mem_cons.mpr ⟨tb6 175 rfl, (List.forall_mem_cons.mpr ⟨tb6 184 rfl, (List.forall_mem_cons.mpr ⟨tb6 185 rfl, (List.forall_mem_cons.mpr ⟨tb6 194 rfl, (List.forall_mem_cons.mpr ⟨tb6 195 rfl, (List.forall_mem_cons.mpr ⟨tb6 196 rfl, (List.forall_mem_cons.mpr ⟨tb6 197 rfl, (List.forall_mem_cons.mpr ⟨tb6 198 rfl, (List.forall_mem_cons.mpr ⟨tb6 199 rfl, (List.forall_mem_cons.mpr ⟨tb6 200 rfl, (List.forall_mem_cons.mpr ⟨tb6 201 rfl, (List.forall_mem_cons.mpr ⟨tb6 202 rfl, (List.forall_mem_cons.mpr ⟨tb6 215 rfl, (List.forall_mem_cons.mpr ⟨tb6 220 rfl, (List.forall_mem_cons.mpr ⟨tb6 225 rfl, (List.forall_mem_cons.mpr ⟨tb6 226 rfl, (fun _ h => absurd h List.not_mem_nil)⟩)⟩)⟩)⟩)⟩)⟩)⟩)⟩)⟩)⟩)⟩)⟩)⟩)⟩)⟩)⟩)⟩)⟩)⟩)⟩)⟩)⟩)⟩)⟩)⟩)⟩)⟩)⟩)⟩)⟩)⟩)⟩)⟩)⟩)⟩)⟩)⟩)⟩)⟩)⟩)⟩)⟩)⟩)⟩)⟩)⟩)⟩)⟩)⟩)⟩)⟩)⟩)⟩)⟩)⟩)⟩)⟩)⟩)⟩)⟩)⟩)⟩)
theorem lsCS : (Cond.laysStatic "java/lang/String" "COMPACT_STRINGS" "Z") ∈ tables_1 := tb3 180 rfl
theorem lsSS : (Cond.laysStatic "java/lang/Throwable" "SUPPRESSED_SENTINEL" "Ljava/util/List;") ∈ tables_1 := tb4 54 rfl
theorem lsUS : (Cond.laysStatic "java/lang/Throwable" "UNASSIGNED_STACK" "[Ljava/lang/StackTraceElement;") ∈ tables_1 := tb4 52 rfl
theorem lsPF : (Cond.laysStatic "jdk/internal/util/Preconditions" "SIOOBE_FORMATTER" "Ljava/util/function/BiFunction;") ∈ tables_1 := tb3 196 rfl
theorem aoI : (Cond.arrayOver (FieldType.object "HalfIsle$Island")) ∈ tables_1 := tb1 229 rfl
theorem cl_inst : ∀ (c : Nat) (q : vw_C), vwCl[c]? = some q → Cond.instantiable q.1 q.2.2 ∈ LW := by
  intro c q h
  match c, h with
  | 0, h => cases h; exact u_33
  | 1, h => cases h; exact u_89
  | 2, h => cases h; exact u_199
  | 3, h => cases h; exact u_68
  | 4, h => cases h; exact u_95
  | 5, h => cases h; exact u_39
  | 6, h => cases h; exact u_231
  | 7, h => cases h; exact u_25
  | 8, h => cases h; exact u_1225
  | n + 9, h => exact absurd (List.getElem?_eq_some_iff.mp h).1 (by simp)
theorem st_flags {l : Launch} (hf : l.flags = flags0) : l.stackTraces = false := by
  unfold Launch.stackTraces
  rw [hf]
  decide
abbrev sv (q : String × Nat × String × List Int32) : Term := .field (.string q.1 q.2.1) "java/lang/String" "value" "[B"
def expA (q : String × Nat × String × List Int32) : List Cond := [.exactly (.string q.1 q.2.1) "java/lang/String", .eq (.field (.string q.1 q.2.1) "java/lang/String" "coder" "B") (.int 0), .arrayOf (sv q) .byte, .eq (.length (sv q)) (.int (Int32.ofNat q.2.2.2.length))] ++ (List.range q.2.2.2.length).map (fun j => .eq (.elem (sv q) (.int (Int32.ofNat j))) (.int (q.2.2.2.getD j 0)))
def notNot : Cond → Bool | .not _ => false | .eq (.string _ _) (.string _ _) => false | _ => true
theorem strA : ((flatC (Cond.and given_1 narrow_1)).drop 59).filter notNot = strT.flatMap expA := by decide +kernel
theorem strN : ∀ q ∈ strT, q.2.2.2.length < 2 ^ 31 := by decide +kernel
theorem st_str {s : State} {args : Array Value} {A : Nat → Prop} (hts : ∀ w ∈ tables_1, w.before args s = true) (hgv : (Cond.and given_1 narrow_1).before args s = true) (hA : ∀ a : Nat, a < s.heap.size → ¬ A a) : ∃ K9 V9 : Nat → Nat, ∀ (i : Nat) (q : String × Nat × String × List Int32), strT[i]? = some q → vk_R q.1 q.2.1 q.2.2.1 (K9 i) s ∧ va_O "java/lang/String" (K9 i) A s s.heap ∧ va_OF "java/lang/String" "coder" "B" (.int 0) (K9 i) A s s.heap ∧ va_OF "java/lang/String" "value" "[B" (.ref (V9 i)) (K9 i) A s s.heap ∧ va_T .byte (V9 i) q.2.2.2.length (fun j => .int (q.2.2.2.getD j 0)) A s s.heap := by
  have hs := flat_of_before _ hgv
  have hx : ∀ q ∈ strT, ∀ w ∈ expA q, w.before args s = true := by
    intro q hq w hw
    have h1 : w ∈ ((flatC (Cond.and given_1 narrow_1)).drop 59).filter notNot := by
      rw [strA]
      exact List.mem_flatMap.mpr ⟨q, hq, hw⟩
    exact hs w (List.mem_of_mem_drop (List.mem_filter.mp h1).1)
  have h0 : ∀ i : Nat, ∃ z : Nat × Nat, ∀ q : String × Nat × String × List Int32, strT[i]? = some q → vk_R q.1 q.2.1 q.2.2.1 z.1 s ∧ va_O "java/lang/String" z.1 A s s.heap ∧ va_OF "java/lang/String" "coder" "B" (.int 0) z.1 A s s.heap ∧ va_OF "java/lang/String" "value" "[B" (.ref z.2) z.1 A s s.heap ∧ va_T .byte z.2 q.2.2.2.length (fun j => .int (q.2.2.2.getD j 0)) A s s.heap := by
    intro i
    cases hq : strT[i]? with
    | none => exact ⟨(0, 0), fun q h => by cases h⟩
    | some q =>
      have hm : q ∈ strT := List.mem_of_getElem? hq
      have hx1 := hx q hm
      obtain ⟨a, c, cA, kA, q1, q2, q3, q4, q5, q6, -⟩ := Cond.exactly_spec (args := args) (first := s) (o := none) (s := s) (idx := []) (t := .string q.1 q.2.1) (cls := "java/lang/String") (hx1 _ (by simp [expA]))
      obtain ⟨t, ht, hT⟩ := va_Tof (tm := sv q) (ty := .byte) (N := q.2.2.2.length) (f := fun j => .int (q.2.2.2.getD j 0)) (A := A) (strN q hm) (hx1 _ (by simp [expA])) (va_eqt (hx1 _ (by simp [expA]))) (fun j hj => va_eqt (hx1 _ (List.mem_append_right _ (List.mem_map.mpr ⟨j, List.mem_range.mpr hj, rfl⟩)))) hA
      refine ⟨(a, t), fun q9 h9 => ?_⟩
      cases h9
      exact ⟨vk_R.of (hts _ (strR q hm)) q1, ⟨cA, q3, q5, by rw [q6]; exact q2, hA a (Array.getElem?_eq_some_iff.mp q3).1⟩, vk_OFof q1 (va_eqt (hx1 _ (by simp [expA]))) hA, vk_OFof q1 ht hA, hT⟩
  obtain ⟨ad, had⟩ := Classical.axiomOfChoice h0
  exact ⟨fun i => (ad i).1, fun i => (ad i).2, fun i q h => had i q h⟩
theorem st_cls {s : State} {args : Array Value} (hts : ∀ w ∈ LW, w.before args s = true) : ∃ D : va_G, ∀ (c : Nat) (q : vw_C), vwCl[c]? = some q → u_Kn s q.1 q.2.1 q.2.2 (D.1 c) (D.2 c) := by
  have h0 : ∀ c : Nat, ∃ z : ClassId × (Nat → Nat), ∀ q : vw_C, vwCl[c]? = some q → u_Kn s q.1 q.2.1 q.2.2 z.1 z.2 := by
    intro c
    cases hq : vwCl[c]? with
    | none => exact ⟨(0, fun _ => 0), fun q h => by cases h⟩
    | some q =>
      obtain ⟨cC, iS, h⟩ := u_known hts (cl_in c q hq).1 (hts _ (cl_inst c q hq))
      refine ⟨(cC, iS), fun q9 h9 => ?_⟩
      cases h9
      exact h
  obtain ⟨ad, had⟩ := Classical.axiomOfChoice h0
  exact ⟨(fun c => (ad c).1, fun c => (ad c).2), had⟩
theorem st_arr {s : State} {args : Array Value} {ty : FieldType} (hty : ∀ C, ty ≠ .object C) (h : (Cond.arrayClass ty).before args s = true) : ∃ cA : ClassId, ArrOfT s cA ty ∧ va_RA s cA ty := by
  obtain ⟨cA, kA, comp, h1, h2, h3⟩ := Cond.arrayClass_spec (args := args) (first := s) (o := none) (s := s) (idx := []) h
  refine ⟨cA, fun n z => ⟨fun k h => (by cases h), kA, h2, comp, h3⟩, ?_⟩
  cases ty <;> first | exact h1 | exact absurd rfl (hty _)
theorem st_arrO {s : State} {args : Array Value} {C : String} (h : (Cond.arrayOver (.object C)).before args s = true) : ∃ cA : ClassId, ArrOfT s cA (.object C) ∧ va_RA s cA (.object C) := by
  obtain ⟨comp, cA, kA, h1, h2, h3, h4, h5⟩ := Cond.arrayOver_spec (args := args) (first := s) (o := none) (s := s) (idx := []) h
  exact ⟨cA, fun n z => ⟨fun k h => (by cases h), kA, h3, comp, h4⟩, kA, comp, h3, h4, h1, h5⟩
