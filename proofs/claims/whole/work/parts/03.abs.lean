/-! a thin layer of my own over the kit: the heap as a function of addresses, a point of a method, a contract -/
abbrev HC : Type := (Nat × vp_A) ⊕ (Nat × List Value)
abbrev AH : Type := (Nat → Option HC) × Nat
abbrev EV : Type := Launch × va_G × (Nat → ClassId) × Nat × (Nat × Nat × (Nat → Int32)) × (Nat → Nat) × (Nat → Nat)
abbrev eL (E : EV) : Launch := E.1
abbrev eD (E : EV) : va_G := E.2.1
abbrev eY (E : EV) : Nat → ClassId := E.2.2.1
abbrev eB (E : EV) : Nat := E.2.2.2.1
abbrev eX (E : EV) : Nat × Nat × (Nat → Int32) := E.2.2.2.2.1
abbrev eK (E : EV) : Nat → Nat := E.2.2.2.2.2.1
abbrev eV (E : EV) : Nat → Nat := E.2.2.2.2.2.2
def eA (E : EV) : Nat → Prop := fun q => eB E ≤ q
abbrev OC : Type := Option Value ⊕ String
def gs (G : AH) (a : Nat) (x : HC) : AH := (fun q => if q = a then some x else G.1 q, G.2)
def gn (G : AH) (x : HC) : AH := (fun q => if q = G.2 then some x else G.1 q, G.2 + 1)
theorem gs_at {G : AH} {a : Nat} {x : HC} : (gs G a x).1 a = some x := by simp [gs]
theorem gs_ne {G : AH} {a b : Nat} {x : HC} (h : b ≠ a) : (gs G a x).1 b = G.1 b := by simp [gs, h]
theorem gs_sz {G : AH} {a : Nat} {x : HC} : (gs G a x).2 = G.2 := rfl
theorem gs_gs {G : AH} {a : Nat} {x y : HC} : gs (gs G a x) a y = gs G a y := by
  refine Prod.ext (funext fun q => ?_) rfl
  by_cases h : q = a <;> simp [gs, h]
theorem gs_id {G : AH} {a : Nat} {x : HC} (h : G.1 a = some x) : gs G a x = G := by
  refine Prod.ext (funext fun q => ?_) rfl
  by_cases hq : q = a
  · subst hq; simp [gs, h]
  · simp [gs, hq]
theorem gs_comm {G : AH} {a b : Nat} {x y : HC} (h : a ≠ b) : gs (gs G a x) b y = gs (gs G b y) a x := by
  refine Prod.ext (funext fun q => ?_) rfl
  by_cases h1 : q = a
  · subst h1; simp [gs, h]
  · simp [gs, h1]
theorem gn_at {G : AH} {x : HC} : (gn G x).1 G.2 = some x := by simp [gn]
theorem gn_ne {G : AH} {b : Nat} {x : HC} (h : b ≠ G.2) : (gn G x).1 b = G.1 b := by simp [gn, h]
theorem gn_sz {G : AH} {x : HC} : (gn G x).2 = G.2 + 1 := rfl
abbrev aI (n : Nat) (f : Nat → Int32) : HC := .inl (0, n, .inl f)
abbrev aZ (n : Nat) (f : Nat → Int32) : HC := .inl (1, n, .inl f)
abbrev aJ (n : Nat) (f : Nat → Int64) : HC := .inl (2, n, .inr (.inl f))
abbrev aO (n : Nat) (g : Nat → Option Nat) : HC := .inl (3, n, .inr (.inr (.inr (.inr g))))
abbrev oB (c : Nat) (vs : List Value) : HC := .inr (c, vs)
def toE (E : EV) (x : HC) : va_E := match x with | .inl q => .inl (eY E q.1, q.2) | .inr o => .inr o
def tysE (E : EV) : List (ClassId × FieldType) := [(eY E 0, .int), (eY E 1, .boolean), (eY E 2, .long), (eY E 3, .object "HalfIsle$Island")]
def Rep (E : EV) (G : AH) (H : Heap) : Prop := H.size = G.2 ∧ ∀ (a : Nat) (x : HC), G.1 a = some x → eB E ≤ a ∧ va_at (eD E) vwCl (a, toE E x) H
/-- the text constants: class, place, text, bytes -/
def strT : List (String × Nat × String × List Int32) := [("HalfIsle$DeedReader", 46, "item", [105, 116, 101, 109]), ("HalfIsle$DeedReader", 99, "home", [104, 111, 109, 101]), ("HalfIsle$DeedReader", 101, "side", [115, 105, 100, 101]), ("HalfIsle$DeedReader", 103, "in", [105, 110]), ("HalfIsle$DeedReader", 54, "hands", [104, 97, 110, 100, 115]), ("HalfIsle$DeedReader", 65, "soil", [115, 111, 105, 108]), ("HalfIsle$DeedReader", 69, "places", [112, 108, 97, 99, 101, 115]), ("HalfIsle$DeedReader", 73, "worn", [119, 111, 114, 110]), ("HalfIsle$DeedReader", 80, "storm", [115, 116, 111, 114, 109]), ("HalfIsle$DeedReader", 88, "day", [100, 97, 121]), ("HalfIsle$DeedReader", 36, ";", [59]), ("HalfIsle", 108, "the text is wrong", [116, 104, 101, 32, 116, 101, 120, 116, 32, 105, 115, 32, 119, 114, 111, 110, 103]), ("HalfIsle", 118, "there are as many texts as may be", [116, 104, 101, 114, 101, 32, 97, 114, 101, 32, 97, 115, 32, 109, 97, 110, 121, 32, 116, 101, 120, 116, 115, 32, 97, 115, 32, 109, 97, 121, 32, 98, 101]), ("HalfIsle$LawReader", 61, "wear", [119, 101, 97, 114]), ("HalfIsle$LawReader", 66, "shift", [115, 104, 105, 102, 116]), ("HalfIsle$LawReader", 68, "soil", [115, 111, 105, 108]), ("HalfIsle$LawReader", 81, "if", [105, 102]), ("HalfIsle$LawReader", 103, "not", [110, 111, 116]), ("HalfIsle$LawReader", 105, "(", [40]), ("HalfIsle$LawReader", 111, "own", [111, 119, 110]), ("HalfIsle$LawReader", 116, "home", [104, 111, 109, 101]), ("HalfIsle$LawReader", 135, "item", [105, 116, 101, 109]), ("HalfIsle$LawReader", 137, "room", [114, 111, 111, 109]), ("HalfIsle$LawReader", 139, "worn", [119, 111, 114, 110]), ("HalfIsle$LawReader", 141, "value", [118, 97, 108, 117, 101]), ("HalfIsle$LawReader", 143, "side", [115, 105, 100, 101]), ("HalfIsle$LawReader", 145, "day", [100, 97, 121]), ("HalfIsle$LawReader", 147, "soiled", [115, 111, 105, 108, 101, 100]), ("HalfIsle$LawReader", 133, "+", [43]), ("HalfIsle$LawReader", 121, "<", [60]), ("HalfIsle$LawReader", 123, ">", [62]), ("HalfIsle$LawReader", 149, ")", [41]), ("HalfIsle$LawReader", 151, "and", [97, 110, 100]), ("HalfIsle$LawReader", 153, "or", [111, 114]), ("HalfIsle$LawReader", 52, ";", [59]), ("HalfIsle", 367, "no such ITEM", [110, 111, 32, 115, 117, 99, 104, 32, 73, 84, 69, 77]), ("HalfIsle", 378, "another what", [97, 110, 111, 116, 104, 101, 114, 32, 119, 104, 97, 116]), ("HalfIsle", 370, "no such ROOM", [110, 111, 32, 115, 117, 99, 104, 32, 82, 79, 79, 77]), ("HalfIsle", 372, "no such SIDE", [110, 111, 32, 115, 117, 99, 104, 32, 83, 73, 68, 69]), ("HalfIsle", 374, "the number is none", [116, 104, 101, 32, 110, 117, 109, 98, 101, 114, 32, 105, 115, 32, 110, 111, 110, 101]), ("HalfIsle", 299, "both are one", [98, 111, 116, 104, 32, 97, 114, 101, 32, 111, 110, 101]), ("HalfIsle", 384, "the TAPE is no traces", [116, 104, 101, 32, 84, 65, 80, 69, 32, 105, 115, 32, 110, 111, 32, 116, 114, 97, 99, 101, 115]), ("HalfIsleModel", 201, "wear", [119, 101, 97, 114]), ("HalfIsleModel", 203, "shift", [115, 104, 105, 102, 116]), ("HalfIsleModel", 118, "soil", [115, 111, 105, 108]), ("HalfIsleModel", 205, "if", [105, 102]), ("HalfIsleModel", 182, "not", [110, 111, 116]), ("HalfIsleModel", 170, "own", [111, 119, 110]), ("HalfIsleModel", 93, "home", [104, 111, 109, 101]), ("HalfIsleModel", 107, "item", [105, 116, 101, 109]), ("HalfIsleModel", 161, "room", [114, 111, 111, 109]), ("HalfIsleModel", 128, "worn", [119, 111, 114, 110]), ("HalfIsleModel", 163, "value", [118, 97, 108, 117, 101]), ("HalfIsleModel", 99, "side", [115, 105, 100, 101]), ("HalfIsleModel", 130, "day", [100, 97, 121]), ("HalfIsleModel", 165, "soiled", [115, 111, 105, 108, 101, 100]), ("HalfIsleModel", 194, "and", [97, 110, 100]), ("HalfIsleModel", 199, "or", [111, 114]), ("HalfIsleModel", 101, "in", [105, 110]), ("HalfIsleModel", 112, "hands", [104, 97, 110, 100, 115]), ("HalfIsleModel", 120, "places", [112, 108, 97, 99, 101, 115]), ("HalfIsleModel", 122, "storm", [115, 116, 111, 114, 109])]
def ncT : List (String × String) := [("java/lang/UnsupportedOperationException", "java/lang/IllegalArgumentException"), ("java/util/NoSuchElementException", "java/lang/IndexOutOfBoundsException"), ("java/lang/IllegalArgumentException", "java/lang/IndexOutOfBoundsException"), ("java/util/NoSuchElementException", "java/lang/IllegalArgumentException")]
def SOK (E : EV) (U : State) : Prop := ∀ (i : Nat) (q : String × Nat × String × List Int32), strT[i]? = some q → vk_R q.1 q.2.1 q.2.2.1 (eK E i) U ∧ va_O "java/lang/String" (eK E i) (eA E) U U.heap ∧ va_OF "java/lang/String" "coder" "B" (.int 0) (eK E i) (eA E) U U.heap ∧ va_OF "java/lang/String" "value" "[B" (.ref (eV E i)) (eK E i) (eA E) U U.heap ∧ va_T .byte (eV E i) q.2.2.2.length (fun j => .int (q.2.2.2.getD j 0)) (eA E) U U.heap
/-- what holds at every method's entry -/
def EOK (E : EV) (U : State) : Prop := (eL E).stackTraces = false ∧ va_K (eD E) vwCl (tysE E) U ∧ (∀ w ∈ NW, va_Nw w U) ∧ vx_Zq Bundle.tN "UNASSIGNED_STACK" Bundle.steD (eA E) U U.heap ∧ vx_Zq Bundle.tN "SUPPRESSED_SENTINEL" Bundle.listD (eA E) U U.heap ∧ SOK E U ∧ va_Z "java/lang/String" "COMPACT_STRINGS" "Z" (.int 1) (eA E) U U.heap ∧ va_Zq "jdk/internal/util/Preconditions" "SIOOBE_FORMATTER" "Ljava/util/function/BiFunction;" (eA E) U U.heap ∧ va_AO "HalfIsle$Island" U ∧ va_X (eX E).1 (eX E).2.1 (eX E).2.2 U U.heap ∧ (eX E).1 < eB E ∧ eB E ≤ U.heap.size ∧ ∀ q ∈ ncT, va_Nc q.1 q.2 U
theorem nw_tabs {w : Cond} (h : w ∈ NW) : w.onTables = true := by
  have hb : nwB w = true := (List.mem_filter.mp h).2
  cases w <;> first | rfl | (simp [nwB] at hb; done)
theorem nw_move {s U : State} (hW : s.WarmedH U.vm) (h : ∀ w ∈ NW, va_Nw w s) : ∀ w ∈ NW, va_Nw w U := by
  intro w hw
  have hb : nwB w = true := (List.mem_filter.mp hw).2
  cases w <;> first | exact va_Nw.warmF hW (h _ hw) | exact va_Nw.warmM hW (h _ hw) | exact va_Nw.warmC hW (h _ hw) | exact va_Nw.warmD hW (h _ hw) | (simp [nwB] at hb; done)
theorem EOK.moved {E : EV} {s U : State} (hW : s.WarmedH U.vm) (hq : ∀ a : Nat, a < s.heap.size → ¬ eA E a → U.heap[a]? = s.heap[a]?) (hz : s.heap.size ≤ U.heap.size) (h : EOK E s) : EOK E U := by
  obtain ⟨h1, h2, h3, h4, h5, h6, h7, h8, h9, h10, h11, h12, h13⟩ := h
  have hA := hW.alike
  refine ⟨h1, va_K.moved hA h2, nw_move hW h3, vx_Zq.moved hA (h4.kept hq), vx_Zq.moved hA (h5.kept hq), fun i q hi => ?_, va_Z.moved hA (h7.kept hq), va_Zq.moved hA (h8.kept hq), va_AO.moved hA h9, va_X.moved hA (h10.kept ?_), h11, Nat.le_trans h12 hz, fun q hq => va_Nc.moved hA (h13 q hq)⟩
  · obtain ⟨a1, a2, a3, a4, a5⟩ := h6 i q hi
    exact ⟨vk_R.warm hW a1, va_O.moved hA (a2.kept hq), va_OF.moved hA (a3.kept hq), va_OF.moved hA (a4.kept hq), va_T.moved hA (a5.kept hq)⟩
  · exact hq _ (Nat.lt_of_lt_of_le h11 h12) (Nat.not_le.mpr h11)
def rmC (d mc ms : Nat) : Room := { frames := d, cells := mc, slots := ms, locals := 64 * d }
def QcO (E : EV) (Q : OC → AH → Prop) : Array Value → State → Outcome → State → Prop := fun _ st o t => (∃ (v : Option Value) (G : AH), o = .returned v ∧ Q (.inl v) G ∧ Rep E G t.heap) ∧ va_F (eA E) st t
def XcO (E : EV) (Q : OC → AH → Prop) : String → State → State → Prop := fun X st t => (∃ G : AH, Q (.inr X) G ∧ Rep E G t.heap) ∧ va_F (eA E) st t
/-- a method's contract: from the heap G with these arguments it ends with Q -/
def Ct (E : EV) (d mc ms : Nat) (K : MR) (args : List Value) (G : AH) (Q : OC → AH → Prop) : Prop :=
  vx_Met (eL E) K.1 (cwK K :: LW) (rmC d mc ms) (va_Pc args (fun U => EOK E U ∧ Rep E G U.heap)) (QcO E Q) (XcO E Q) mc ms (eA E)
def CxO (E : EV) (K : MR) (p : Program) (s : State) (m : MethodId) (args : Array Value) (meth : Method) (c : Code) : Prop :=
  p.tables.exec = Jvm.exec ∧ c.code = K.2.1 ∧ meth.sig.returnType = K.2.2.2.1 ∧ c.maxLocals = K.2.2.1 ∧ (∀ w ∈ LW, w.before args s = true) ∧ s.vm.findClass K.1.cls = some m.cls ∧ meth.locks = false ∧ c.exceptionTable.toList = tableOf K.2.2.2.2 ∧ meth.name = K.1.name ∧ EOK E s
def isM : Value → Bool | .float _ => true | _ => false
/-- the locals: '.float 0' says nothing of its place -/
def LHas (ls : Array Slot) (n : Nat) (L : List Value) : Prop := ls.size = n ∧ lv_wf ls ∧ L.length = n ∧ ∀ (i : Nat) (v : Value), L[i]? = some v → isM v = true ∨ ls[i]? = some (.val v)
def entL (L : List Value) : List (Nat × Value) := (List.range L.length).filterMap fun i => match L[i]? with | some v => if isM v then none else some (i, v) | none => none
theorem mem_entL {L : List Value} {i : Nat} {v : Value} : (i, v) ∈ entL L ↔ L[i]? = some v ∧ isM v = false := by
  unfold entL
  rw [List.mem_filterMap]
  constructor
  · rintro ⟨j, hj, h⟩
    cases hv : L[j]? with
    | none => rw [hv] at h; cases h
    | some w =>
      rw [hv] at h
      dsimp only at h
      by_cases hm : isM w = true
      · rw [if_pos hm] at h; cases h
      · rw [if_neg hm] at h; cases h
        exact ⟨hv, by simpa using hm⟩
  · rintro ⟨h, hm⟩
    refine ⟨i, List.mem_range.mpr (List.getElem?_eq_some_iff.mp h).1, ?_⟩
    rw [h]
    dsimp only
    rw [hm]
    rfl
theorem LHas.has {ls : Array Slot} {n : Nat} {L : List Value} (h : LHas ls n L) : lv_has ls n (entL L) := by
  refine ⟨h.1, h.2.1, fun q hq => ?_⟩
  obtain ⟨h1, h2⟩ := mem_entL.mp (show (q.1, q.2) ∈ entL L from hq)
  rcases h.2.2.2 _ _ h1 with h3 | h3
  · rw [h2] at h3; cases h3
  · exact h3
theorem LHas.of1 {ls : Array Slot} {n i : Nat} {v : Value} {L : List Value} (hn : L.length = n) (hp : ∀ w, i ≠ 0 → L[i - 1]? = some w → w.category = 1) (h : lv_has ls n ((i, v) :: (entL L).filter (fun q => !(q.1 == i) && !(q.1 + 1 == i && q.2.category == 2)))) : LHas ls n (L.set i v) := by
  refine ⟨h.1, h.2.1, by rw [List.length_set]; exact hn, fun j w hj => ?_⟩
  by_cases hji : i = j
  · subst hji
    have hl : i < L.length := by
      have := (List.getElem?_eq_some_iff.mp hj).1
      rwa [List.length_set] at this
    rw [List.getElem?_set_self hl] at hj
    cases hj
    exact Or.inr (h.2.2 (i, v) List.mem_cons_self)
  · rw [List.getElem?_set_ne hji] at hj
    by_cases hm : isM w = true
    · exact Or.inl hm
    · refine Or.inr (h.2.2 (j, w) (List.mem_cons_of_mem _ (List.mem_filter.mpr ⟨mem_entL.mpr ⟨hj, by simpa using hm⟩, ?_⟩)))
      simp only [Bool.and_eq_true, Bool.not_eq_true', beq_eq_false_iff_ne, ne_eq, Bool.and_eq_false_iff]
      refine ⟨fun e => hji e.symm, ?_⟩
      by_cases h1 : j + 1 = i
      · right
        subst h1
        rw [hp w (by omega) (by simpa using hj)]
        decide
      · left; exact h1
theorem LHas.of2 {ls : Array Slot} {n i : Nat} {v : Value} {L : List Value} (hn : L.length = n) (hp : ∀ w, i ≠ 0 → L[i - 1]? = some w → w.category = 1) (h : lv_has ls n ((i, v) :: (entL L).filter (fun q => !(q.1 == i) && (!(q.1 == i + 1) && !(q.1 + 1 == i && q.2.category == 2))))) : LHas ls n ((L.set i v).set (i + 1) (.float 0)) := by
  refine ⟨h.1, h.2.1, by rw [List.length_set, List.length_set]; exact hn, fun j w hj => ?_⟩
  have hlen : j < L.length := by
    have := (List.getElem?_eq_some_iff.mp hj).1
    rwa [List.length_set, List.length_set] at this
  by_cases h2 : i + 1 = j
  · subst h2
    rw [List.getElem?_set_self (by rw [List.length_set]; exact hlen)] at hj
    cases hj
    exact Or.inl rfl
  · rw [List.getElem?_set_ne h2] at hj
    by_cases hji : i = j
    · subst hji
      rw [List.getElem?_set_self hlen] at hj
      cases hj
      exact Or.inr (h.2.2 (i, v) List.mem_cons_self)
    · rw [List.getElem?_set_ne hji] at hj
      by_cases hm : isM w = true
      · exact Or.inl hm
      · refine Or.inr (h.2.2 (j, w) (List.mem_cons_of_mem _ (List.mem_filter.mpr ⟨mem_entL.mpr ⟨hj, by simpa using hm⟩, ?_⟩)))
        simp only [Bool.and_eq_true, Bool.not_eq_true', beq_eq_false_iff_ne, ne_eq, Bool.and_eq_false_iff]
        refine ⟨fun e => hji e.symm, fun e => h2 e.symm, ?_⟩
        by_cases h1 : j + 1 = i
        · right
          subst h1
          rw [hp w (by omega) (by simpa using hj)]
          decide
        · left; exact h1
theorem lv_args_mem : ∀ (vs : List Value) (k j : Nat) (v : Value), (∀ w ∈ vs, w.category = 1) → vs[j]? = some v → (k + j, v) ∈ lv_args k vs
  | [], _, _, _, _, h => by simp at h
  | w :: vs, k, j, v, hc, h => by
    have hw : w.category = 1 := hc w List.mem_cons_self
    have h2 : ¬ w.category = 2 := by omega
    cases j with
    | zero =>
      rw [List.getElem?_cons_zero] at h
      cases h
      simp [lv_args]
    | succ j =>
      rw [List.getElem?_cons_succ] at h
      have ih := lv_args_mem vs (k + 1) j v (fun x hx => hc x (List.mem_cons_of_mem _ hx)) h
      simp only [lv_args, h2, if_false]
      rw [show k + (j + 1) = k + 1 + j by omega]
      exact List.mem_cons_of_mem _ ih
theorem lg_sl_len : ∀ (vs : List Value), (∀ w ∈ vs, w.category = 1) → (lg_sl vs).length = vs.length
  | [], _ => rfl
  | w :: vs, hc => by
    have hw : ¬ w.category = 2 := by rw [hc w List.mem_cons_self]; decide
    have ih := lg_sl_len vs (fun x hx => hc x (List.mem_cons_of_mem _ hx))
    simp only [lg_sl, List.flatMap_cons, if_neg hw, List.length_append] at ih ⊢
    rw [ih]
    simp; omega
theorem LHas.entry {args L : List Value} {n : Nat} (hc : ∀ w ∈ args, w.category = 1) (hl : args.length ≤ n) (hL : args ++ List.replicate (n - args.length) (.float 0) = L) : LHas ((lg_sl args ++ List.replicate (n - (lg_sl args).length) Slot.unset).toArray) n L := by
  obtain ⟨h1, h2, h3⟩ := lv_entry args (n := n) (by rw [lg_sl_len args hc]; exact hl)
  refine ⟨h1, h2, by rw [← hL]; simp; omega, fun i v hv => ?_⟩
  rw [← hL] at hv
  by_cases hi : i < args.length
  · rw [List.getElem?_append_left hi] at hv
    have := lv_args_mem args 0 i v hc hv
    rw [Nat.zero_add] at this
    exact Or.inr (h3 _ this)
  · rw [List.getElem?_append_right (by omega), List.getElem?_replicate] at hv
    split at hv
    · cases hv; exact Or.inl rfl
    · cases hv
/-- a point of a method: at pc with locals L and stack st, over the heap G, it comes to its end with Q -/
def Wp (E : EV) (d mc ms : Nat) (K : MR) (Q : OC → AH → Prop) (G : AH) (cs : Nat × Nat) (pc : Nat) (L st : List Value) : Prop :=
  ∀ (p : Program) (e : Env) (s : State) (m : MethodId) (args : Array Value) (below : List Frame) (meth : Method) (c : Code) (H : Heap) (locs : List Loc) (ls : Array Slot),
    CxO E K p s m args meth c → Rep E G H → va_S (eA E) s.heap H locs → LHas ls K.2.2.1 L →
    W p (eL E) e (rmC d mc ms) s m args below meth c H locs cs.1 cs.2 (vx_MQ below (QcO E Q) (XcO E Q) args s mc ms (eA E)) (F0 m pc ls st)
/-- .. with the exception X thrown there -/
def Wx (E : EV) (d mc ms : Nat) (K : MR) (Q : OC → AH → Prop) (G : AH) (cs : Nat × Nat) (pc : Nat) (L : List Value) (X : String) : Prop :=
  ∀ (p : Program) (e : Env) (s : State) (m : MethodId) (args : Array Value) (below : List Frame) (meth : Method) (c : Code) (H : Heap) (locs : List Loc) (ls : Array Slot) (q : Addr) (ce : Cell) (rest : List Value),
    CxO E K p s m args meth c → Rep E G H → va_S (eA E) s.heap H locs → LHas ls K.2.2.1 L → H[q]? = some ce → ce.vm = .none → s.vm.findClass X = some ce.cls →
    vx_W p (eL E) e (rmC d mc ms) s m args below meth c H locs cs.1 cs.2 (vx_MQ below (QcO E Q) (XcO E Q) args s mc ms (eA E)) (F0 m pc ls rest) q
theorem vl_in_code (ws : List Cond) (c : Cond) : c ∈ c :: ws := List.mem_cons_self
theorem Ct.intro {E : EV} {d mc ms : Nat} {K : MR} {args : List Value} {G : AH} {Q : OC → AH → Prop} (hh : K.2.2.2.2 = []) (hy : plainName K.1.cls = true) (L : List Value) (hc : ∀ w ∈ args, w.category = 1) (hl : args.length ≤ K.2.2.1) (hL : args ++ List.replicate (K.2.2.1 - args.length) (.float 0) = L)
    (k : Wp E d mc ms K Q G (0, 0) 0 L []) : Ct E d mc ms K args G Q := by
  have hcw : cwK K = .code K.1 K.2.1 K.2.2.1 K.2.2.2.1 := by unfold cwK; rw [hh]
  refine vx_ofW (cc := K.2.1) (maxL := K.2.2.1) (ret := K.2.2.2.1) (ws' := LW) hy (by rw [hcw]) ?_
  intro p e s m args' below meth c s₁ B hml ht hv
  obtain ⟨rfl, hE, hR⟩ := hv
  have hts := atoms_spec (ws := cwK K :: LW) B.pre
  have htab : c.exceptionTable.toList = tableOf K.2.2.2.2 := by
    rw [hh]
    exact List.eq_nil_iff_forall_not_mem.mpr ht
  rw [lg_entry_eq]
  exact k p e s m _ below meth c s.heap [] _ ⟨B.exec, B.bytes, B.returns, hml, fun w h => hts w (List.mem_cons_of_mem _ h), findClass_of_methodNamed B.named, B.notSynchronized, htab, (name_of_methodNamed B.named B.method).1, hE⟩ hR va_S.rf (LHas.entry hc hl hL)
theorem Ct.introH {E : EV} {d mc ms : Nat} {K : MR} {args : List Value} {G : AH} {Q : OC → AH → Prop} {h0 : Nat × Nat × Nat × Nat} {hs : List (Nat × Nat × Nat × Nat)} (hh : K.2.2.2.2 = h0 :: hs) (hy : plainName K.1.cls = true) (L : List Value) (hc : ∀ w ∈ args, w.category = 1) (hl : args.length ≤ K.2.2.1) (hL : args ++ List.replicate (K.2.2.1 - args.length) (.float 0) = L)
    (k : Wp E d mc ms K Q G (0, 0) 0 L []) : Ct E d mc ms K args G Q := by
  have hcw : cwK K = .codeWith K.1 K.2.1 K.2.2.1 K.2.2.2.1 K.2.2.2.2 := by unfold cwK; rw [hh]
  refine vx_ofWH (cc := K.2.1) (maxL := K.2.2.1) (ret := K.2.2.2.1) (hh := K.2.2.2.2) (ws' := LW) hy (by rw [hcw]) ?_
  intro p e s m args' below meth c s₁ B hml hv
  obtain ⟨rfl, hE, hR⟩ := hv
  have hts := atoms_spec (ws := cwK K :: LW) B.pre
  have htab : c.exceptionTable.toList = tableOf K.2.2.2.2 := vx_table (x := K.1) B (by rw [← hcw]; exact hts _ List.mem_cons_self)
  rw [lg_entry_eq]
  exact k p e s m _ below meth c s.heap [] _ ⟨B.exec, B.bytes, B.returns, hml, fun w h => hts w (List.mem_cons_of_mem _ h), findClass_of_methodNamed B.named, B.notSynchronized, htab, (name_of_methodNamed B.named B.method).1, hE⟩ hR va_S.rf (LHas.entry hc hl hL)
section WPR
variable {E : EV} {d mc ms : Nat} {K : MR} {Q : OC → AH → Prop} {G : AH} {cs : Nat × Nat} {pc : Nat} {L st : List Value}
theorem w_iconst {n : Int} {v : Int32} (hd : decode K.2.1 pc = .ok (.iconst n, 1)) (hv : Int32.ofInt n = v) (k : Wp E d mc ms K Q G cs (pc + 1) L (.int v :: st)) : Wp E d mc ms K Q G cs pc L st := fun p e s m args below meth c H locs ls C Rp S hl => lv_iconst C.1 C.2.1 hd hv (k p e s m args below meth c H locs ls C Rp S hl)
theorem w_bipush {n : Int} {v : Int32} (hd : decode K.2.1 pc = .ok (.bipush n, 2)) (hv : (Int8.ofInt n).toInt32 = v) (k : Wp E d mc ms K Q G cs (pc + 2) L (.int v :: st)) : Wp E d mc ms K Q G cs pc L st := fun p e s m args below meth c H locs ls C Rp S hl => lv_bipush C.1 C.2.1 hd hv (k p e s m args below meth c H locs ls C Rp S hl)
theorem w_sipush {n : Int} {v : Int32} (hd : decode K.2.1 pc = .ok (.sipush n, 3)) (hv : (Int16.ofInt n).toInt32 = v) (k : Wp E d mc ms K Q G cs (pc + 3) L (.int v :: st)) : Wp E d mc ms K Q G cs pc L st := fun p e s m args below meth c H locs ls C Rp S hl => lv_sipush C.1 C.2.1 hd hv (k p e s m args below meth c H locs ls C Rp S hl)
theorem w_lconst {n : Fin 2} {v : Int64} (hd : decode K.2.1 pc = .ok (.lconst n, 1)) (hv : Int64.ofNat (n : Nat) = v) (k : Wp E d mc ms K Q G cs (pc + 1) L (.long v :: st)) : Wp E d mc ms K Q G cs pc L st := fun p e s m args below meth c H locs ls C Rp S hl => lv_lconst C.1 C.2.1 hd hv (k p e s m args below meth c H locs ls C Rp S hl)
theorem w_ldc {i : Nat} {v : Int32} (hd : decode K.2.1 pc = .ok (.ldc i, 2)) (hw : Cond.constant K.1.cls i v ∈ LW) (k : Wp E d mc ms K Q G cs (pc + 2) L (.int v :: st)) : Wp E d mc ms K Q G cs pc L st := fun p e s m args below meth c H locs ls C Rp S hl => lv_ldc C.1 C.2.1 C.2.2.2.2.2.1 (C.2.2.2.2.1 _ hw) hd (k p e s m args below meth c H locs ls C Rp S hl)
theorem w_ldcw {i : Nat} {v : Int32} (hd : decode K.2.1 pc = .ok (.ldc_w i, 3)) (hw : Cond.constant K.1.cls i v ∈ LW) (k : Wp E d mc ms K Q G cs (pc + 3) L (.int v :: st)) : Wp E d mc ms K Q G cs pc L st := fun p e s m args below meth c H locs ls C Rp S hl => lv_ldcw C.1 C.2.1 C.2.2.2.2.2.1 (C.2.2.2.2.1 _ hw) hd (k p e s m args below meth c H locs ls C Rp S hl)
theorem w_ldc2 {i : Nat} {v : Int64} (hd : decode K.2.1 pc = .ok (.ldc2_w i, 3)) (hw : Cond.constantLong K.1.cls i v ∈ LW) (k : Wp E d mc ms K Q G cs (pc + 3) L (.long v :: st)) : Wp E d mc ms K Q G cs pc L st := fun p e s m args below meth c H locs ls C Rp S hl => lv_ldc2 C.1 C.2.1 C.2.2.2.2.2.1 (C.2.2.2.2.1 _ hw) hd (k p e s m args below meth c H locs ls C Rp S hl)
theorem LHas.ld {ls : Array Slot} {n i : Nat} {v : Value} {L : List Value} (h : LHas ls n L) (hi : L[i]? = some v) (hm : isM v = false) : ls[i]? = some (.val v) := by
  rcases h.2.2.2 _ _ hi with h1 | h1
  · rw [hm] at h1; cases h1
  · exact h1
theorem w_iload_n {k : Fin 4} {x : Int32} (hd : decode K.2.1 pc = .ok (.iload_n k, 1)) (hi : L[(k : Nat)]? = some (.int x)) (k1 : Wp E d mc ms K Q G cs (pc + 1) L (.int x :: st)) : Wp E d mc ms K Q G cs pc L st := fun p e s m args below meth c H locs ls C Rp S hl => lv_iload_n C.1 C.2.1 hd rfl (hl.ld hi rfl) (k1 p e s m args below meth c H locs ls C Rp S hl)
theorem w_iload {i : Nat} {x : Int32} (hd : decode K.2.1 pc = .ok (.iload i, 2)) (hi : L[i]? = some (.int x)) (k : Wp E d mc ms K Q G cs (pc + 2) L (.int x :: st)) : Wp E d mc ms K Q G cs pc L st := fun p e s m args below meth c H locs ls C Rp S hl => lv_iload C.1 C.2.1 hd (hl.ld hi rfl) (k p e s m args below meth c H locs ls C Rp S hl)
theorem w_lload_n {k : Fin 4} {x : Int64} (hd : decode K.2.1 pc = .ok (.lload_n k, 1)) (hi : L[(k : Nat)]? = some (.long x)) (k1 : Wp E d mc ms K Q G cs (pc + 1) L (.long x :: st)) : Wp E d mc ms K Q G cs pc L st := fun p e s m args below meth c H locs ls C Rp S hl => lv_lload_n C.1 C.2.1 hd rfl (hl.ld hi rfl) (k1 p e s m args below meth c H locs ls C Rp S hl)
theorem w_lload {i : Nat} {x : Int64} (hd : decode K.2.1 pc = .ok (.lload i, 2)) (hi : L[i]? = some (.long x)) (k : Wp E d mc ms K Q G cs (pc + 2) L (.long x :: st)) : Wp E d mc ms K Q G cs pc L st := fun p e s m args below meth c H locs ls C Rp S hl => lv_lload C.1 C.2.1 hd (hl.ld hi rfl) (k p e s m args below meth c H locs ls C Rp S hl)
theorem w_aload_n {k : Fin 4} {x : Nat} (hd : decode K.2.1 pc = .ok (.aload_n k, 1)) (hi : L[(k : Nat)]? = some (.ref x)) (k1 : Wp E d mc ms K Q G cs (pc + 1) L (.ref x :: st)) : Wp E d mc ms K Q G cs pc L st := fun p e s m args below meth c H locs ls C Rp S hl => lv_aload_n C.1 C.2.1 hd rfl (hl.ld hi rfl) (k1 p e s m args below meth c H locs ls C Rp S hl)
theorem w_aload {i : Nat} {x : Nat} (hd : decode K.2.1 pc = .ok (.aload i, 2)) (hi : L[i]? = some (.ref x)) (k : Wp E d mc ms K Q G cs (pc + 2) L (.ref x :: st)) : Wp E d mc ms K Q G cs pc L st := fun p e s m args below meth c H locs ls C Rp S hl => lv_aload C.1 C.2.1 hd (hl.ld hi rfl) (k p e s m args below meth c H locs ls C Rp S hl)
theorem wg_istore_n {k : Fin 4} {i : Nat} {x : Int32} (hd : decode K.2.1 pc = .ok (.istore_n k, 1)) (hki : (k : Nat) = i) (hi : i < L.length) (hp : ∀ w, i ≠ 0 → L[i - 1]? = some w → w.category = 1) (k1 : Wp E d mc ms K Q G cs (pc + 1) (L.set i (.int x)) st) : Wp E d mc ms K Q G cs pc L (.int x :: st) := fun p e s m args below meth c H locs ls C Rp S hl => lv_istore_n C.1 C.2.1 hd hki hl.has (by rw [← hl.2.2.1]; exact hi) rfl (fun ls' h => k1 p e s m args below meth c H locs ls' C Rp S (LHas.of1 hl.2.2.1 hp h))
theorem wg_istore {i : Nat} {x : Int32} (hd : decode K.2.1 pc = .ok (.istore i, 2)) (hi : i < L.length) (hp : ∀ w, i ≠ 0 → L[i - 1]? = some w → w.category = 1) (k1 : Wp E d mc ms K Q G cs (pc + 2) (L.set i (.int x)) st) : Wp E d mc ms K Q G cs pc L (.int x :: st) := fun p e s m args below meth c H locs ls C Rp S hl => lv_istore C.1 C.2.1 hd hl.has (by rw [← hl.2.2.1]; exact hi) rfl (fun ls' h => k1 p e s m args below meth c H locs ls' C Rp S (LHas.of1 hl.2.2.1 hp h))
theorem wg_astore_n {k : Fin 4} {i : Nat} {x : Nat} (hd : decode K.2.1 pc = .ok (.astore_n k, 1)) (hki : (k : Nat) = i) (hi : i < L.length) (hp : ∀ w, i ≠ 0 → L[i - 1]? = some w → w.category = 1) (k1 : Wp E d mc ms K Q G cs (pc + 1) (L.set i (.ref x)) st) : Wp E d mc ms K Q G cs pc L (.ref x :: st) := fun p e s m args below meth c H locs ls C Rp S hl => lv_astore_n C.1 C.2.1 hd hki hl.has (by rw [← hl.2.2.1]; exact hi) rfl (fun ls' h => k1 p e s m args below meth c H locs ls' C Rp S (LHas.of1 hl.2.2.1 hp h))
theorem wg_astore {i : Nat} {x : Nat} (hd : decode K.2.1 pc = .ok (.astore i, 2)) (hi : i < L.length) (hp : ∀ w, i ≠ 0 → L[i - 1]? = some w → w.category = 1) (k1 : Wp E d mc ms K Q G cs (pc + 2) (L.set i (.ref x)) st) : Wp E d mc ms K Q G cs pc L (.ref x :: st) := fun p e s m args below meth c H locs ls C Rp S hl => lv_astore C.1 C.2.1 hd hl.has (by rw [← hl.2.2.1]; exact hi) rfl (fun ls' h => k1 p e s m args below meth c H locs ls' C Rp S (LHas.of1 hl.2.2.1 hp h))
theorem wg_lstore_n {k : Fin 4} {i : Nat} {x : Int64} (hd : decode K.2.1 pc = .ok (.lstore_n k, 1)) (hki : (k : Nat) = i) (hi : i + 1 < L.length) (hp : ∀ w, i ≠ 0 → L[i - 1]? = some w → w.category = 1) (k1 : Wp E d mc ms K Q G cs (pc + 1) ((L.set i (.long x)).set (i + 1) (.float 0)) st) : Wp E d mc ms K Q G cs pc L (.long x :: st) := fun p e s m args below meth c H locs ls C Rp S hl => lv_lstore_n C.1 C.2.1 hd hki hl.has (by rw [← hl.2.2.1]; exact hi) rfl (fun ls' h => k1 p e s m args below meth c H locs ls' C Rp S (LHas.of2 hl.2.2.1 hp h))
theorem wg_lstore {i : Nat} {x : Int64} (hd : decode K.2.1 pc = .ok (.lstore i, 2)) (hi : i + 1 < L.length) (hp : ∀ w, i ≠ 0 → L[i - 1]? = some w → w.category = 1) (k1 : Wp E d mc ms K Q G cs (pc + 2) ((L.set i (.long x)).set (i + 1) (.float 0)) st) : Wp E d mc ms K Q G cs pc L (.long x :: st) := fun p e s m args below meth c H locs ls C Rp S hl => lv_lstore C.1 C.2.1 hd hl.has (by rw [← hl.2.2.1]; exact hi) rfl (fun ls' h => k1 p e s m args below meth c H locs ls' C Rp S (LHas.of2 hl.2.2.1 hp h))
theorem wg_iinc {i : Nat} {n : Int} {x v : Int32} (hd : decode K.2.1 pc = .ok (.iinc i n, 3)) (hx : L[i]? = some (.int x)) (hv : x + Int32.ofInt n = v) (hp : ∀ w, i ≠ 0 → L[i - 1]? = some w → w.category = 1) (k1 : Wp E d mc ms K Q G cs (pc + 3) (L.set i (.int v)) st) : Wp E d mc ms K Q G cs pc L st := by
  intro p e s m args below meth c H locs ls C Rp S hl
  obtain ⟨k, hk⟩ := List.getElem?_of_mem (mem_entL.mpr ⟨hx, rfl⟩)
  exact lv_iinc C.1 C.2.1 hd hl.has hk hv (by rw [← hl.2.2.1]; exact (List.getElem?_eq_some_iff.mp hx).1) rfl (fun ls' h => k1 p e s m args below meth c H locs ls' C Rp S (LHas.of1 hl.2.2.1 hp h))
theorem w_istore_0 {a0 : Value} {t : List Value} {x : Int32} (hd : decode K.2.1 pc = .ok (.istore_n 0, 1)) (k1 : Wp E d mc ms K Q G cs (pc + 1) (.int x :: t) st) : Wp E d mc ms K Q G cs pc (a0 :: t) (.int x :: st) := wg_istore_n hd rfl (by simp only [List.length_cons]; omega) (fun w h0 _ => absurd rfl h0) k1
theorem w_astore_0 {a0 : Value} {t : List Value} {x : Nat} (hd : decode K.2.1 pc = .ok (.astore_n 0, 1)) (k1 : Wp E d mc ms K Q G cs (pc + 1) (.ref x :: t) st) : Wp E d mc ms K Q G cs pc (a0 :: t) (.ref x :: st) := wg_astore_n hd rfl (by simp only [List.length_cons]; omega) (fun w h0 _ => absurd rfl h0) k1
theorem w_iinc_0 {t : List Value} {n : Int} {x v : Int32} (hd : decode K.2.1 pc = .ok (.iinc 0 n, 3)) (hv : x + Int32.ofInt n = v) (k1 : Wp E d mc ms K Q G cs (pc + 3) (.int v :: t) st) : Wp E d mc ms K Q G cs pc (.int x :: t) st := wg_iinc hd rfl hv (fun w h0 _ => absurd rfl h0) k1
theorem w_lstore_0 {a0 a1 : Value} {t : List Value} {x : Int64} (hd : decode K.2.1 pc = .ok (.lstore_n 0, 1)) (k1 : Wp E d mc ms K Q G cs (pc + 1) (.long x :: .float 0 :: t) st) : Wp E d mc ms K Q G cs pc (a0 :: a1 :: t) (.long x :: st) := wg_lstore_n hd rfl (by simp only [List.length_cons]; omega) (fun w h0 _ => absurd rfl h0) k1
theorem w_istore_1 {a0 a1 : Value} {t : List Value} {x : Int32} (hd : decode K.2.1 pc = .ok (.istore_n 1, 1)) (hc : a0.category = 1) (k1 : Wp E d mc ms K Q G cs (pc + 1) (a0 :: .int x :: t) st) : Wp E d mc ms K Q G cs pc (a0 :: a1 :: t) (.int x :: st) := wg_istore_n hd rfl (by simp only [List.length_cons]; omega) (fun w h0 hw => (by cases hw; exact hc)) k1
theorem w_astore_1 {a0 a1 : Value} {t : List Value} {x : Nat} (hd : decode K.2.1 pc = .ok (.astore_n 1, 1)) (hc : a0.category = 1) (k1 : Wp E d mc ms K Q G cs (pc + 1) (a0 :: .ref x :: t) st) : Wp E d mc ms K Q G cs pc (a0 :: a1 :: t) (.ref x :: st) := wg_astore_n hd rfl (by simp only [List.length_cons]; omega) (fun w h0 hw => (by cases hw; exact hc)) k1
theorem w_iinc_1 {a0 : Value} {t : List Value} {n : Int} {x v : Int32} (hd : decode K.2.1 pc = .ok (.iinc 1 n, 3)) (hv : x + Int32.ofInt n = v) (hc : a0.category = 1) (k1 : Wp E d mc ms K Q G cs (pc + 3) (a0 :: .int v :: t) st) : Wp E d mc ms K Q G cs pc (a0 :: .int x :: t) st := wg_iinc hd rfl hv (fun w h0 hw => (by cases hw; exact hc)) k1
theorem w_lstore_1 {a0 a1 a2 : Value} {t : List Value} {x : Int64} (hd : decode K.2.1 pc = .ok (.lstore_n 1, 1)) (hc : a0.category = 1) (k1 : Wp E d mc ms K Q G cs (pc + 1) (a0 :: .long x :: .float 0 :: t) st) : Wp E d mc ms K Q G cs pc (a0 :: a1 :: a2 :: t) (.long x :: st) := wg_lstore_n hd rfl (by simp only [List.length_cons]; omega) (fun w h0 hw => (by cases hw; exact hc)) k1
theorem w_istore_2 {a0 a1 a2 : Value} {t : List Value} {x : Int32} (hd : decode K.2.1 pc = .ok (.istore_n 2, 1)) (hc : a1.category = 1) (k1 : Wp E d mc ms K Q G cs (pc + 1) (a0 :: a1 :: .int x :: t) st) : Wp E d mc ms K Q G cs pc (a0 :: a1 :: a2 :: t) (.int x :: st) := wg_istore_n hd rfl (by simp only [List.length_cons]; omega) (fun w h0 hw => (by cases hw; exact hc)) k1
theorem w_astore_2 {a0 a1 a2 : Value} {t : List Value} {x : Nat} (hd : decode K.2.1 pc = .ok (.astore_n 2, 1)) (hc : a1.category = 1) (k1 : Wp E d mc ms K Q G cs (pc + 1) (a0 :: a1 :: .ref x :: t) st) : Wp E d mc ms K Q G cs pc (a0 :: a1 :: a2 :: t) (.ref x :: st) := wg_astore_n hd rfl (by simp only [List.length_cons]; omega) (fun w h0 hw => (by cases hw; exact hc)) k1
theorem w_iinc_2 {a0 a1 : Value} {t : List Value} {n : Int} {x v : Int32} (hd : decode K.2.1 pc = .ok (.iinc 2 n, 3)) (hv : x + Int32.ofInt n = v) (hc : a1.category = 1) (k1 : Wp E d mc ms K Q G cs (pc + 3) (a0 :: a1 :: .int v :: t) st) : Wp E d mc ms K Q G cs pc (a0 :: a1 :: .int x :: t) st := wg_iinc hd rfl hv (fun w h0 hw => (by cases hw; exact hc)) k1
theorem w_lstore_2 {a0 a1 a2 a3 : Value} {t : List Value} {x : Int64} (hd : decode K.2.1 pc = .ok (.lstore_n 2, 1)) (hc : a1.category = 1) (k1 : Wp E d mc ms K Q G cs (pc + 1) (a0 :: a1 :: .long x :: .float 0 :: t) st) : Wp E d mc ms K Q G cs pc (a0 :: a1 :: a2 :: a3 :: t) (.long x :: st) := wg_lstore_n hd rfl (by simp only [List.length_cons]; omega) (fun w h0 hw => (by cases hw; exact hc)) k1
theorem w_istore_3 {a0 a1 a2 a3 : Value} {t : List Value} {x : Int32} (hd : decode K.2.1 pc = .ok (.istore_n 3, 1)) (hc : a2.category = 1) (k1 : Wp E d mc ms K Q G cs (pc + 1) (a0 :: a1 :: a2 :: .int x :: t) st) : Wp E d mc ms K Q G cs pc (a0 :: a1 :: a2 :: a3 :: t) (.int x :: st) := wg_istore_n hd rfl (by simp only [List.length_cons]; omega) (fun w h0 hw => (by cases hw; exact hc)) k1
theorem w_astore_3 {a0 a1 a2 a3 : Value} {t : List Value} {x : Nat} (hd : decode K.2.1 pc = .ok (.astore_n 3, 1)) (hc : a2.category = 1) (k1 : Wp E d mc ms K Q G cs (pc + 1) (a0 :: a1 :: a2 :: .ref x :: t) st) : Wp E d mc ms K Q G cs pc (a0 :: a1 :: a2 :: a3 :: t) (.ref x :: st) := wg_astore_n hd rfl (by simp only [List.length_cons]; omega) (fun w h0 hw => (by cases hw; exact hc)) k1
theorem w_iinc_3 {a0 a1 a2 : Value} {t : List Value} {n : Int} {x v : Int32} (hd : decode K.2.1 pc = .ok (.iinc 3 n, 3)) (hv : x + Int32.ofInt n = v) (hc : a2.category = 1) (k1 : Wp E d mc ms K Q G cs (pc + 3) (a0 :: a1 :: a2 :: .int v :: t) st) : Wp E d mc ms K Q G cs pc (a0 :: a1 :: a2 :: .int x :: t) st := wg_iinc hd rfl hv (fun w h0 hw => (by cases hw; exact hc)) k1
theorem w_lstore_3 {a0 a1 a2 a3 a4 : Value} {t : List Value} {x : Int64} (hd : decode K.2.1 pc = .ok (.lstore_n 3, 1)) (hc : a2.category = 1) (k1 : Wp E d mc ms K Q G cs (pc + 1) (a0 :: a1 :: a2 :: .long x :: .float 0 :: t) st) : Wp E d mc ms K Q G cs pc (a0 :: a1 :: a2 :: a3 :: a4 :: t) (.long x :: st) := wg_lstore_n hd rfl (by simp only [List.length_cons]; omega) (fun w h0 hw => (by cases hw; exact hc)) k1
theorem w_istore_4 {a0 a1 a2 a3 a4 : Value} {t : List Value} {x : Int32} (hd : decode K.2.1 pc = .ok (.istore 4, 2)) (hc : a3.category = 1) (k1 : Wp E d mc ms K Q G cs (pc + 2) (a0 :: a1 :: a2 :: a3 :: .int x :: t) st) : Wp E d mc ms K Q G cs pc (a0 :: a1 :: a2 :: a3 :: a4 :: t) (.int x :: st) := wg_istore hd (by simp only [List.length_cons]; omega) (fun w h0 hw => (by cases hw; exact hc)) k1
theorem w_astore_4 {a0 a1 a2 a3 a4 : Value} {t : List Value} {x : Nat} (hd : decode K.2.1 pc = .ok (.astore 4, 2)) (hc : a3.category = 1) (k1 : Wp E d mc ms K Q G cs (pc + 2) (a0 :: a1 :: a2 :: a3 :: .ref x :: t) st) : Wp E d mc ms K Q G cs pc (a0 :: a1 :: a2 :: a3 :: a4 :: t) (.ref x :: st) := wg_astore hd (by simp only [List.length_cons]; omega) (fun w h0 hw => (by cases hw; exact hc)) k1
theorem w_iinc_4 {a0 a1 a2 a3 : Value} {t : List Value} {n : Int} {x v : Int32} (hd : decode K.2.1 pc = .ok (.iinc 4 n, 3)) (hv : x + Int32.ofInt n = v) (hc : a3.category = 1) (k1 : Wp E d mc ms K Q G cs (pc + 3) (a0 :: a1 :: a2 :: a3 :: .int v :: t) st) : Wp E d mc ms K Q G cs pc (a0 :: a1 :: a2 :: a3 :: .int x :: t) st := wg_iinc hd rfl hv (fun w h0 hw => (by cases hw; exact hc)) k1
theorem w_lstore_4 {a0 a1 a2 a3 a4 a5 : Value} {t : List Value} {x : Int64} (hd : decode K.2.1 pc = .ok (.lstore 4, 2)) (hc : a3.category = 1) (k1 : Wp E d mc ms K Q G cs (pc + 2) (a0 :: a1 :: a2 :: a3 :: .long x :: .float 0 :: t) st) : Wp E d mc ms K Q G cs pc (a0 :: a1 :: a2 :: a3 :: a4 :: a5 :: t) (.long x :: st) := wg_lstore hd (by simp only [List.length_cons]; omega) (fun w h0 hw => (by cases hw; exact hc)) k1
theorem w_istore_5 {a0 a1 a2 a3 a4 a5 : Value} {t : List Value} {x : Int32} (hd : decode K.2.1 pc = .ok (.istore 5, 2)) (hc : a4.category = 1) (k1 : Wp E d mc ms K Q G cs (pc + 2) (a0 :: a1 :: a2 :: a3 :: a4 :: .int x :: t) st) : Wp E d mc ms K Q G cs pc (a0 :: a1 :: a2 :: a3 :: a4 :: a5 :: t) (.int x :: st) := wg_istore hd (by simp only [List.length_cons]; omega) (fun w h0 hw => (by cases hw; exact hc)) k1
theorem w_astore_5 {a0 a1 a2 a3 a4 a5 : Value} {t : List Value} {x : Nat} (hd : decode K.2.1 pc = .ok (.astore 5, 2)) (hc : a4.category = 1) (k1 : Wp E d mc ms K Q G cs (pc + 2) (a0 :: a1 :: a2 :: a3 :: a4 :: .ref x :: t) st) : Wp E d mc ms K Q G cs pc (a0 :: a1 :: a2 :: a3 :: a4 :: a5 :: t) (.ref x :: st) := wg_astore hd (by simp only [List.length_cons]; omega) (fun w h0 hw => (by cases hw; exact hc)) k1
theorem w_iinc_5 {a0 a1 a2 a3 a4 : Value} {t : List Value} {n : Int} {x v : Int32} (hd : decode K.2.1 pc = .ok (.iinc 5 n, 3)) (hv : x + Int32.ofInt n = v) (hc : a4.category = 1) (k1 : Wp E d mc ms K Q G cs (pc + 3) (a0 :: a1 :: a2 :: a3 :: a4 :: .int v :: t) st) : Wp E d mc ms K Q G cs pc (a0 :: a1 :: a2 :: a3 :: a4 :: .int x :: t) st := wg_iinc hd rfl hv (fun w h0 hw => (by cases hw; exact hc)) k1
theorem w_lstore_5 {a0 a1 a2 a3 a4 a5 a6 : Value} {t : List Value} {x : Int64} (hd : decode K.2.1 pc = .ok (.lstore 5, 2)) (hc : a4.category = 1) (k1 : Wp E d mc ms K Q G cs (pc + 2) (a0 :: a1 :: a2 :: a3 :: a4 :: .long x :: .float 0 :: t) st) : Wp E d mc ms K Q G cs pc (a0 :: a1 :: a2 :: a3 :: a4 :: a5 :: a6 :: t) (.long x :: st) := wg_lstore hd (by simp only [List.length_cons]; omega) (fun w h0 hw => (by cases hw; exact hc)) k1
theorem w_istore_6 {a0 a1 a2 a3 a4 a5 a6 : Value} {t : List Value} {x : Int32} (hd : decode K.2.1 pc = .ok (.istore 6, 2)) (hc : a5.category = 1) (k1 : Wp E d mc ms K Q G cs (pc + 2) (a0 :: a1 :: a2 :: a3 :: a4 :: a5 :: .int x :: t) st) : Wp E d mc ms K Q G cs pc (a0 :: a1 :: a2 :: a3 :: a4 :: a5 :: a6 :: t) (.int x :: st) := wg_istore hd (by simp only [List.length_cons]; omega) (fun w h0 hw => (by cases hw; exact hc)) k1
theorem w_astore_6 {a0 a1 a2 a3 a4 a5 a6 : Value} {t : List Value} {x : Nat} (hd : decode K.2.1 pc = .ok (.astore 6, 2)) (hc : a5.category = 1) (k1 : Wp E d mc ms K Q G cs (pc + 2) (a0 :: a1 :: a2 :: a3 :: a4 :: a5 :: .ref x :: t) st) : Wp E d mc ms K Q G cs pc (a0 :: a1 :: a2 :: a3 :: a4 :: a5 :: a6 :: t) (.ref x :: st) := wg_astore hd (by simp only [List.length_cons]; omega) (fun w h0 hw => (by cases hw; exact hc)) k1
theorem w_iinc_6 {a0 a1 a2 a3 a4 a5 : Value} {t : List Value} {n : Int} {x v : Int32} (hd : decode K.2.1 pc = .ok (.iinc 6 n, 3)) (hv : x + Int32.ofInt n = v) (hc : a5.category = 1) (k1 : Wp E d mc ms K Q G cs (pc + 3) (a0 :: a1 :: a2 :: a3 :: a4 :: a5 :: .int v :: t) st) : Wp E d mc ms K Q G cs pc (a0 :: a1 :: a2 :: a3 :: a4 :: a5 :: .int x :: t) st := wg_iinc hd rfl hv (fun w h0 hw => (by cases hw; exact hc)) k1
theorem w_lstore_6 {a0 a1 a2 a3 a4 a5 a6 a7 : Value} {t : List Value} {x : Int64} (hd : decode K.2.1 pc = .ok (.lstore 6, 2)) (hc : a5.category = 1) (k1 : Wp E d mc ms K Q G cs (pc + 2) (a0 :: a1 :: a2 :: a3 :: a4 :: a5 :: .long x :: .float 0 :: t) st) : Wp E d mc ms K Q G cs pc (a0 :: a1 :: a2 :: a3 :: a4 :: a5 :: a6 :: a7 :: t) (.long x :: st) := wg_lstore hd (by simp only [List.length_cons]; omega) (fun w h0 hw => (by cases hw; exact hc)) k1
theorem w_istore_7 {a0 a1 a2 a3 a4 a5 a6 a7 : Value} {t : List Value} {x : Int32} (hd : decode K.2.1 pc = .ok (.istore 7, 2)) (hc : a6.category = 1) (k1 : Wp E d mc ms K Q G cs (pc + 2) (a0 :: a1 :: a2 :: a3 :: a4 :: a5 :: a6 :: .int x :: t) st) : Wp E d mc ms K Q G cs pc (a0 :: a1 :: a2 :: a3 :: a4 :: a5 :: a6 :: a7 :: t) (.int x :: st) := wg_istore hd (by simp only [List.length_cons]; omega) (fun w h0 hw => (by cases hw; exact hc)) k1
theorem w_astore_7 {a0 a1 a2 a3 a4 a5 a6 a7 : Value} {t : List Value} {x : Nat} (hd : decode K.2.1 pc = .ok (.astore 7, 2)) (hc : a6.category = 1) (k1 : Wp E d mc ms K Q G cs (pc + 2) (a0 :: a1 :: a2 :: a3 :: a4 :: a5 :: a6 :: .ref x :: t) st) : Wp E d mc ms K Q G cs pc (a0 :: a1 :: a2 :: a3 :: a4 :: a5 :: a6 :: a7 :: t) (.ref x :: st) := wg_astore hd (by simp only [List.length_cons]; omega) (fun w h0 hw => (by cases hw; exact hc)) k1
theorem w_iinc_7 {a0 a1 a2 a3 a4 a5 a6 : Value} {t : List Value} {n : Int} {x v : Int32} (hd : decode K.2.1 pc = .ok (.iinc 7 n, 3)) (hv : x + Int32.ofInt n = v) (hc : a6.category = 1) (k1 : Wp E d mc ms K Q G cs (pc + 3) (a0 :: a1 :: a2 :: a3 :: a4 :: a5 :: a6 :: .int v :: t) st) : Wp E d mc ms K Q G cs pc (a0 :: a1 :: a2 :: a3 :: a4 :: a5 :: a6 :: .int x :: t) st := wg_iinc hd rfl hv (fun w h0 hw => (by cases hw; exact hc)) k1
theorem w_lstore_7 {a0 a1 a2 a3 a4 a5 a6 a7 a8 : Value} {t : List Value} {x : Int64} (hd : decode K.2.1 pc = .ok (.lstore 7, 2)) (hc : a6.category = 1) (k1 : Wp E d mc ms K Q G cs (pc + 2) (a0 :: a1 :: a2 :: a3 :: a4 :: a5 :: a6 :: .long x :: .float 0 :: t) st) : Wp E d mc ms K Q G cs pc (a0 :: a1 :: a2 :: a3 :: a4 :: a5 :: a6 :: a7 :: a8 :: t) (.long x :: st) := wg_lstore hd (by simp only [List.length_cons]; omega) (fun w h0 hw => (by cases hw; exact hc)) k1
theorem w_istore_8 {a0 a1 a2 a3 a4 a5 a6 a7 a8 : Value} {t : List Value} {x : Int32} (hd : decode K.2.1 pc = .ok (.istore 8, 2)) (hc : a7.category = 1) (k1 : Wp E d mc ms K Q G cs (pc + 2) (a0 :: a1 :: a2 :: a3 :: a4 :: a5 :: a6 :: a7 :: .int x :: t) st) : Wp E d mc ms K Q G cs pc (a0 :: a1 :: a2 :: a3 :: a4 :: a5 :: a6 :: a7 :: a8 :: t) (.int x :: st) := wg_istore hd (by simp only [List.length_cons]; omega) (fun w h0 hw => (by cases hw; exact hc)) k1
theorem w_astore_8 {a0 a1 a2 a3 a4 a5 a6 a7 a8 : Value} {t : List Value} {x : Nat} (hd : decode K.2.1 pc = .ok (.astore 8, 2)) (hc : a7.category = 1) (k1 : Wp E d mc ms K Q G cs (pc + 2) (a0 :: a1 :: a2 :: a3 :: a4 :: a5 :: a6 :: a7 :: .ref x :: t) st) : Wp E d mc ms K Q G cs pc (a0 :: a1 :: a2 :: a3 :: a4 :: a5 :: a6 :: a7 :: a8 :: t) (.ref x :: st) := wg_astore hd (by simp only [List.length_cons]; omega) (fun w h0 hw => (by cases hw; exact hc)) k1
theorem w_iinc_8 {a0 a1 a2 a3 a4 a5 a6 a7 : Value} {t : List Value} {n : Int} {x v : Int32} (hd : decode K.2.1 pc = .ok (.iinc 8 n, 3)) (hv : x + Int32.ofInt n = v) (hc : a7.category = 1) (k1 : Wp E d mc ms K Q G cs (pc + 3) (a0 :: a1 :: a2 :: a3 :: a4 :: a5 :: a6 :: a7 :: .int v :: t) st) : Wp E d mc ms K Q G cs pc (a0 :: a1 :: a2 :: a3 :: a4 :: a5 :: a6 :: a7 :: .int x :: t) st := wg_iinc hd rfl hv (fun w h0 hw => (by cases hw; exact hc)) k1
theorem w_lstore_8 {a0 a1 a2 a3 a4 a5 a6 a7 a8 a9 : Value} {t : List Value} {x : Int64} (hd : decode K.2.1 pc = .ok (.lstore 8, 2)) (hc : a7.category = 1) (k1 : Wp E d mc ms K Q G cs (pc + 2) (a0 :: a1 :: a2 :: a3 :: a4 :: a5 :: a6 :: a7 :: .long x :: .float 0 :: t) st) : Wp E d mc ms K Q G cs pc (a0 :: a1 :: a2 :: a3 :: a4 :: a5 :: a6 :: a7 :: a8 :: a9 :: t) (.long x :: st) := wg_lstore hd (by simp only [List.length_cons]; omega) (fun w h0 hw => (by cases hw; exact hc)) k1
theorem w_istore_9 {a0 a1 a2 a3 a4 a5 a6 a7 a8 a9 : Value} {t : List Value} {x : Int32} (hd : decode K.2.1 pc = .ok (.istore 9, 2)) (hc : a8.category = 1) (k1 : Wp E d mc ms K Q G cs (pc + 2) (a0 :: a1 :: a2 :: a3 :: a4 :: a5 :: a6 :: a7 :: a8 :: .int x :: t) st) : Wp E d mc ms K Q G cs pc (a0 :: a1 :: a2 :: a3 :: a4 :: a5 :: a6 :: a7 :: a8 :: a9 :: t) (.int x :: st) := wg_istore hd (by simp only [List.length_cons]; omega) (fun w h0 hw => (by cases hw; exact hc)) k1
theorem w_astore_9 {a0 a1 a2 a3 a4 a5 a6 a7 a8 a9 : Value} {t : List Value} {x : Nat} (hd : decode K.2.1 pc = .ok (.astore 9, 2)) (hc : a8.category = 1) (k1 : Wp E d mc ms K Q G cs (pc + 2) (a0 :: a1 :: a2 :: a3 :: a4 :: a5 :: a6 :: a7 :: a8 :: .ref x :: t) st) : Wp E d mc ms K Q G cs pc (a0 :: a1 :: a2 :: a3 :: a4 :: a5 :: a6 :: a7 :: a8 :: a9 :: t) (.ref x :: st) := wg_astore hd (by simp only [List.length_cons]; omega) (fun w h0 hw => (by cases hw; exact hc)) k1
theorem w_iinc_9 {a0 a1 a2 a3 a4 a5 a6 a7 a8 : Value} {t : List Value} {n : Int} {x v : Int32} (hd : decode K.2.1 pc = .ok (.iinc 9 n, 3)) (hv : x + Int32.ofInt n = v) (hc : a8.category = 1) (k1 : Wp E d mc ms K Q G cs (pc + 3) (a0 :: a1 :: a2 :: a3 :: a4 :: a5 :: a6 :: a7 :: a8 :: .int v :: t) st) : Wp E d mc ms K Q G cs pc (a0 :: a1 :: a2 :: a3 :: a4 :: a5 :: a6 :: a7 :: a8 :: .int x :: t) st := wg_iinc hd rfl hv (fun w h0 hw => (by cases hw; exact hc)) k1
theorem w_lstore_9 {a0 a1 a2 a3 a4 a5 a6 a7 a8 a9 a10 : Value} {t : List Value} {x : Int64} (hd : decode K.2.1 pc = .ok (.lstore 9, 2)) (hc : a8.category = 1) (k1 : Wp E d mc ms K Q G cs (pc + 2) (a0 :: a1 :: a2 :: a3 :: a4 :: a5 :: a6 :: a7 :: a8 :: .long x :: .float 0 :: t) st) : Wp E d mc ms K Q G cs pc (a0 :: a1 :: a2 :: a3 :: a4 :: a5 :: a6 :: a7 :: a8 :: a9 :: a10 :: t) (.long x :: st) := wg_lstore hd (by simp only [List.length_cons]; omega) (fun w h0 hw => (by cases hw; exact hc)) k1
theorem w_istore_10 {a0 a1 a2 a3 a4 a5 a6 a7 a8 a9 a10 : Value} {t : List Value} {x : Int32} (hd : decode K.2.1 pc = .ok (.istore 10, 2)) (hc : a9.category = 1) (k1 : Wp E d mc ms K Q G cs (pc + 2) (a0 :: a1 :: a2 :: a3 :: a4 :: a5 :: a6 :: a7 :: a8 :: a9 :: .int x :: t) st) : Wp E d mc ms K Q G cs pc (a0 :: a1 :: a2 :: a3 :: a4 :: a5 :: a6 :: a7 :: a8 :: a9 :: a10 :: t) (.int x :: st) := wg_istore hd (by simp only [List.length_cons]; omega) (fun w h0 hw => (by cases hw; exact hc)) k1
theorem w_astore_10 {a0 a1 a2 a3 a4 a5 a6 a7 a8 a9 a10 : Value} {t : List Value} {x : Nat} (hd : decode K.2.1 pc = .ok (.astore 10, 2)) (hc : a9.category = 1) (k1 : Wp E d mc ms K Q G cs (pc + 2) (a0 :: a1 :: a2 :: a3 :: a4 :: a5 :: a6 :: a7 :: a8 :: a9 :: .ref x :: t) st) : Wp E d mc ms K Q G cs pc (a0 :: a1 :: a2 :: a3 :: a4 :: a5 :: a6 :: a7 :: a8 :: a9 :: a10 :: t) (.ref x :: st) := wg_astore hd (by simp only [List.length_cons]; omega) (fun w h0 hw => (by cases hw; exact hc)) k1
theorem w_iinc_10 {a0 a1 a2 a3 a4 a5 a6 a7 a8 a9 : Value} {t : List Value} {n : Int} {x v : Int32} (hd : decode K.2.1 pc = .ok (.iinc 10 n, 3)) (hv : x + Int32.ofInt n = v) (hc : a9.category = 1) (k1 : Wp E d mc ms K Q G cs (pc + 3) (a0 :: a1 :: a2 :: a3 :: a4 :: a5 :: a6 :: a7 :: a8 :: a9 :: .int v :: t) st) : Wp E d mc ms K Q G cs pc (a0 :: a1 :: a2 :: a3 :: a4 :: a5 :: a6 :: a7 :: a8 :: a9 :: .int x :: t) st := wg_iinc hd rfl hv (fun w h0 hw => (by cases hw; exact hc)) k1
theorem w_lstore_10 {a0 a1 a2 a3 a4 a5 a6 a7 a8 a9 a10 a11 : Value} {t : List Value} {x : Int64} (hd : decode K.2.1 pc = .ok (.lstore 10, 2)) (hc : a9.category = 1) (k1 : Wp E d mc ms K Q G cs (pc + 2) (a0 :: a1 :: a2 :: a3 :: a4 :: a5 :: a6 :: a7 :: a8 :: a9 :: .long x :: .float 0 :: t) st) : Wp E d mc ms K Q G cs pc (a0 :: a1 :: a2 :: a3 :: a4 :: a5 :: a6 :: a7 :: a8 :: a9 :: a10 :: a11 :: t) (.long x :: st) := wg_lstore hd (by simp only [List.length_cons]; omega) (fun w h0 hw => (by cases hw; exact hc)) k1
theorem w_istore_11 {a0 a1 a2 a3 a4 a5 a6 a7 a8 a9 a10 a11 : Value} {t : List Value} {x : Int32} (hd : decode K.2.1 pc = .ok (.istore 11, 2)) (hc : a10.category = 1) (k1 : Wp E d mc ms K Q G cs (pc + 2) (a0 :: a1 :: a2 :: a3 :: a4 :: a5 :: a6 :: a7 :: a8 :: a9 :: a10 :: .int x :: t) st) : Wp E d mc ms K Q G cs pc (a0 :: a1 :: a2 :: a3 :: a4 :: a5 :: a6 :: a7 :: a8 :: a9 :: a10 :: a11 :: t) (.int x :: st) := wg_istore hd (by simp only [List.length_cons]; omega) (fun w h0 hw => (by cases hw; exact hc)) k1
theorem w_astore_11 {a0 a1 a2 a3 a4 a5 a6 a7 a8 a9 a10 a11 : Value} {t : List Value} {x : Nat} (hd : decode K.2.1 pc = .ok (.astore 11, 2)) (hc : a10.category = 1) (k1 : Wp E d mc ms K Q G cs (pc + 2) (a0 :: a1 :: a2 :: a3 :: a4 :: a5 :: a6 :: a7 :: a8 :: a9 :: a10 :: .ref x :: t) st) : Wp E d mc ms K Q G cs pc (a0 :: a1 :: a2 :: a3 :: a4 :: a5 :: a6 :: a7 :: a8 :: a9 :: a10 :: a11 :: t) (.ref x :: st) := wg_astore hd (by simp only [List.length_cons]; omega) (fun w h0 hw => (by cases hw; exact hc)) k1
theorem w_iinc_11 {a0 a1 a2 a3 a4 a5 a6 a7 a8 a9 a10 : Value} {t : List Value} {n : Int} {x v : Int32} (hd : decode K.2.1 pc = .ok (.iinc 11 n, 3)) (hv : x + Int32.ofInt n = v) (hc : a10.category = 1) (k1 : Wp E d mc ms K Q G cs (pc + 3) (a0 :: a1 :: a2 :: a3 :: a4 :: a5 :: a6 :: a7 :: a8 :: a9 :: a10 :: .int v :: t) st) : Wp E d mc ms K Q G cs pc (a0 :: a1 :: a2 :: a3 :: a4 :: a5 :: a6 :: a7 :: a8 :: a9 :: a10 :: .int x :: t) st := wg_iinc hd rfl hv (fun w h0 hw => (by cases hw; exact hc)) k1
theorem w_lstore_11 {a0 a1 a2 a3 a4 a5 a6 a7 a8 a9 a10 a11 a12 : Value} {t : List Value} {x : Int64} (hd : decode K.2.1 pc = .ok (.lstore 11, 2)) (hc : a10.category = 1) (k1 : Wp E d mc ms K Q G cs (pc + 2) (a0 :: a1 :: a2 :: a3 :: a4 :: a5 :: a6 :: a7 :: a8 :: a9 :: a10 :: .long x :: .float 0 :: t) st) : Wp E d mc ms K Q G cs pc (a0 :: a1 :: a2 :: a3 :: a4 :: a5 :: a6 :: a7 :: a8 :: a9 :: a10 :: a11 :: a12 :: t) (.long x :: st) := wg_lstore hd (by simp only [List.length_cons]; omega) (fun w h0 hw => (by cases hw; exact hc)) k1
theorem w_istore_12 {a0 a1 a2 a3 a4 a5 a6 a7 a8 a9 a10 a11 a12 : Value} {t : List Value} {x : Int32} (hd : decode K.2.1 pc = .ok (.istore 12, 2)) (hc : a11.category = 1) (k1 : Wp E d mc ms K Q G cs (pc + 2) (a0 :: a1 :: a2 :: a3 :: a4 :: a5 :: a6 :: a7 :: a8 :: a9 :: a10 :: a11 :: .int x :: t) st) : Wp E d mc ms K Q G cs pc (a0 :: a1 :: a2 :: a3 :: a4 :: a5 :: a6 :: a7 :: a8 :: a9 :: a10 :: a11 :: a12 :: t) (.int x :: st) := wg_istore hd (by simp only [List.length_cons]; omega) (fun w h0 hw => (by cases hw; exact hc)) k1
theorem w_astore_12 {a0 a1 a2 a3 a4 a5 a6 a7 a8 a9 a10 a11 a12 : Value} {t : List Value} {x : Nat} (hd : decode K.2.1 pc = .ok (.astore 12, 2)) (hc : a11.category = 1) (k1 : Wp E d mc ms K Q G cs (pc + 2) (a0 :: a1 :: a2 :: a3 :: a4 :: a5 :: a6 :: a7 :: a8 :: a9 :: a10 :: a11 :: .ref x :: t) st) : Wp E d mc ms K Q G cs pc (a0 :: a1 :: a2 :: a3 :: a4 :: a5 :: a6 :: a7 :: a8 :: a9 :: a10 :: a11 :: a12 :: t) (.ref x :: st) := wg_astore hd (by simp only [List.length_cons]; omega) (fun w h0 hw => (by cases hw; exact hc)) k1
theorem w_iinc_12 {a0 a1 a2 a3 a4 a5 a6 a7 a8 a9 a10 a11 : Value} {t : List Value} {n : Int} {x v : Int32} (hd : decode K.2.1 pc = .ok (.iinc 12 n, 3)) (hv : x + Int32.ofInt n = v) (hc : a11.category = 1) (k1 : Wp E d mc ms K Q G cs (pc + 3) (a0 :: a1 :: a2 :: a3 :: a4 :: a5 :: a6 :: a7 :: a8 :: a9 :: a10 :: a11 :: .int v :: t) st) : Wp E d mc ms K Q G cs pc (a0 :: a1 :: a2 :: a3 :: a4 :: a5 :: a6 :: a7 :: a8 :: a9 :: a10 :: a11 :: .int x :: t) st := wg_iinc hd rfl hv (fun w h0 hw => (by cases hw; exact hc)) k1
theorem w_lstore_12 {a0 a1 a2 a3 a4 a5 a6 a7 a8 a9 a10 a11 a12 a13 : Value} {t : List Value} {x : Int64} (hd : decode K.2.1 pc = .ok (.lstore 12, 2)) (hc : a11.category = 1) (k1 : Wp E d mc ms K Q G cs (pc + 2) (a0 :: a1 :: a2 :: a3 :: a4 :: a5 :: a6 :: a7 :: a8 :: a9 :: a10 :: a11 :: .long x :: .float 0 :: t) st) : Wp E d mc ms K Q G cs pc (a0 :: a1 :: a2 :: a3 :: a4 :: a5 :: a6 :: a7 :: a8 :: a9 :: a10 :: a11 :: a12 :: a13 :: t) (.long x :: st) := wg_lstore hd (by simp only [List.length_cons]; omega) (fun w h0 hw => (by cases hw; exact hc)) k1
theorem w_istore_13 {a0 a1 a2 a3 a4 a5 a6 a7 a8 a9 a10 a11 a12 a13 : Value} {t : List Value} {x : Int32} (hd : decode K.2.1 pc = .ok (.istore 13, 2)) (hc : a12.category = 1) (k1 : Wp E d mc ms K Q G cs (pc + 2) (a0 :: a1 :: a2 :: a3 :: a4 :: a5 :: a6 :: a7 :: a8 :: a9 :: a10 :: a11 :: a12 :: .int x :: t) st) : Wp E d mc ms K Q G cs pc (a0 :: a1 :: a2 :: a3 :: a4 :: a5 :: a6 :: a7 :: a8 :: a9 :: a10 :: a11 :: a12 :: a13 :: t) (.int x :: st) := wg_istore hd (by simp only [List.length_cons]; omega) (fun w h0 hw => (by cases hw; exact hc)) k1
theorem w_astore_13 {a0 a1 a2 a3 a4 a5 a6 a7 a8 a9 a10 a11 a12 a13 : Value} {t : List Value} {x : Nat} (hd : decode K.2.1 pc = .ok (.astore 13, 2)) (hc : a12.category = 1) (k1 : Wp E d mc ms K Q G cs (pc + 2) (a0 :: a1 :: a2 :: a3 :: a4 :: a5 :: a6 :: a7 :: a8 :: a9 :: a10 :: a11 :: a12 :: .ref x :: t) st) : Wp E d mc ms K Q G cs pc (a0 :: a1 :: a2 :: a3 :: a4 :: a5 :: a6 :: a7 :: a8 :: a9 :: a10 :: a11 :: a12 :: a13 :: t) (.ref x :: st) := wg_astore hd (by simp only [List.length_cons]; omega) (fun w h0 hw => (by cases hw; exact hc)) k1
theorem w_iinc_13 {a0 a1 a2 a3 a4 a5 a6 a7 a8 a9 a10 a11 a12 : Value} {t : List Value} {n : Int} {x v : Int32} (hd : decode K.2.1 pc = .ok (.iinc 13 n, 3)) (hv : x + Int32.ofInt n = v) (hc : a12.category = 1) (k1 : Wp E d mc ms K Q G cs (pc + 3) (a0 :: a1 :: a2 :: a3 :: a4 :: a5 :: a6 :: a7 :: a8 :: a9 :: a10 :: a11 :: a12 :: .int v :: t) st) : Wp E d mc ms K Q G cs pc (a0 :: a1 :: a2 :: a3 :: a4 :: a5 :: a6 :: a7 :: a8 :: a9 :: a10 :: a11 :: a12 :: .int x :: t) st := wg_iinc hd rfl hv (fun w h0 hw => (by cases hw; exact hc)) k1
theorem w_lstore_13 {a0 a1 a2 a3 a4 a5 a6 a7 a8 a9 a10 a11 a12 a13 a14 : Value} {t : List Value} {x : Int64} (hd : decode K.2.1 pc = .ok (.lstore 13, 2)) (hc : a12.category = 1) (k1 : Wp E d mc ms K Q G cs (pc + 2) (a0 :: a1 :: a2 :: a3 :: a4 :: a5 :: a6 :: a7 :: a8 :: a9 :: a10 :: a11 :: a12 :: .long x :: .float 0 :: t) st) : Wp E d mc ms K Q G cs pc (a0 :: a1 :: a2 :: a3 :: a4 :: a5 :: a6 :: a7 :: a8 :: a9 :: a10 :: a11 :: a12 :: a13 :: a14 :: t) (.long x :: st) := wg_lstore hd (by simp only [List.length_cons]; omega) (fun w h0 hw => (by cases hw; exact hc)) k1
theorem w_istore_14 {a0 a1 a2 a3 a4 a5 a6 a7 a8 a9 a10 a11 a12 a13 a14 : Value} {t : List Value} {x : Int32} (hd : decode K.2.1 pc = .ok (.istore 14, 2)) (hc : a13.category = 1) (k1 : Wp E d mc ms K Q G cs (pc + 2) (a0 :: a1 :: a2 :: a3 :: a4 :: a5 :: a6 :: a7 :: a8 :: a9 :: a10 :: a11 :: a12 :: a13 :: .int x :: t) st) : Wp E d mc ms K Q G cs pc (a0 :: a1 :: a2 :: a3 :: a4 :: a5 :: a6 :: a7 :: a8 :: a9 :: a10 :: a11 :: a12 :: a13 :: a14 :: t) (.int x :: st) := wg_istore hd (by simp only [List.length_cons]; omega) (fun w h0 hw => (by cases hw; exact hc)) k1
theorem w_astore_14 {a0 a1 a2 a3 a4 a5 a6 a7 a8 a9 a10 a11 a12 a13 a14 : Value} {t : List Value} {x : Nat} (hd : decode K.2.1 pc = .ok (.astore 14, 2)) (hc : a13.category = 1) (k1 : Wp E d mc ms K Q G cs (pc + 2) (a0 :: a1 :: a2 :: a3 :: a4 :: a5 :: a6 :: a7 :: a8 :: a9 :: a10 :: a11 :: a12 :: a13 :: .ref x :: t) st) : Wp E d mc ms K Q G cs pc (a0 :: a1 :: a2 :: a3 :: a4 :: a5 :: a6 :: a7 :: a8 :: a9 :: a10 :: a11 :: a12 :: a13 :: a14 :: t) (.ref x :: st) := wg_astore hd (by simp only [List.length_cons]; omega) (fun w h0 hw => (by cases hw; exact hc)) k1
theorem w_iinc_14 {a0 a1 a2 a3 a4 a5 a6 a7 a8 a9 a10 a11 a12 a13 : Value} {t : List Value} {n : Int} {x v : Int32} (hd : decode K.2.1 pc = .ok (.iinc 14 n, 3)) (hv : x + Int32.ofInt n = v) (hc : a13.category = 1) (k1 : Wp E d mc ms K Q G cs (pc + 3) (a0 :: a1 :: a2 :: a3 :: a4 :: a5 :: a6 :: a7 :: a8 :: a9 :: a10 :: a11 :: a12 :: a13 :: .int v :: t) st) : Wp E d mc ms K Q G cs pc (a0 :: a1 :: a2 :: a3 :: a4 :: a5 :: a6 :: a7 :: a8 :: a9 :: a10 :: a11 :: a12 :: a13 :: .int x :: t) st := wg_iinc hd rfl hv (fun w h0 hw => (by cases hw; exact hc)) k1
theorem w_lstore_14 {a0 a1 a2 a3 a4 a5 a6 a7 a8 a9 a10 a11 a12 a13 a14 a15 : Value} {t : List Value} {x : Int64} (hd : decode K.2.1 pc = .ok (.lstore 14, 2)) (hc : a13.category = 1) (k1 : Wp E d mc ms K Q G cs (pc + 2) (a0 :: a1 :: a2 :: a3 :: a4 :: a5 :: a6 :: a7 :: a8 :: a9 :: a10 :: a11 :: a12 :: a13 :: .long x :: .float 0 :: t) st) : Wp E d mc ms K Q G cs pc (a0 :: a1 :: a2 :: a3 :: a4 :: a5 :: a6 :: a7 :: a8 :: a9 :: a10 :: a11 :: a12 :: a13 :: a14 :: a15 :: t) (.long x :: st) := wg_lstore hd (by simp only [List.length_cons]; omega) (fun w h0 hw => (by cases hw; exact hc)) k1
theorem w_istore_15 {a0 a1 a2 a3 a4 a5 a6 a7 a8 a9 a10 a11 a12 a13 a14 a15 : Value} {t : List Value} {x : Int32} (hd : decode K.2.1 pc = .ok (.istore 15, 2)) (hc : a14.category = 1) (k1 : Wp E d mc ms K Q G cs (pc + 2) (a0 :: a1 :: a2 :: a3 :: a4 :: a5 :: a6 :: a7 :: a8 :: a9 :: a10 :: a11 :: a12 :: a13 :: a14 :: .int x :: t) st) : Wp E d mc ms K Q G cs pc (a0 :: a1 :: a2 :: a3 :: a4 :: a5 :: a6 :: a7 :: a8 :: a9 :: a10 :: a11 :: a12 :: a13 :: a14 :: a15 :: t) (.int x :: st) := wg_istore hd (by simp only [List.length_cons]; omega) (fun w h0 hw => (by cases hw; exact hc)) k1
theorem w_astore_15 {a0 a1 a2 a3 a4 a5 a6 a7 a8 a9 a10 a11 a12 a13 a14 a15 : Value} {t : List Value} {x : Nat} (hd : decode K.2.1 pc = .ok (.astore 15, 2)) (hc : a14.category = 1) (k1 : Wp E d mc ms K Q G cs (pc + 2) (a0 :: a1 :: a2 :: a3 :: a4 :: a5 :: a6 :: a7 :: a8 :: a9 :: a10 :: a11 :: a12 :: a13 :: a14 :: .ref x :: t) st) : Wp E d mc ms K Q G cs pc (a0 :: a1 :: a2 :: a3 :: a4 :: a5 :: a6 :: a7 :: a8 :: a9 :: a10 :: a11 :: a12 :: a13 :: a14 :: a15 :: t) (.ref x :: st) := wg_astore hd (by simp only [List.length_cons]; omega) (fun w h0 hw => (by cases hw; exact hc)) k1
theorem w_iinc_15 {a0 a1 a2 a3 a4 a5 a6 a7 a8 a9 a10 a11 a12 a13 a14 : Value} {t : List Value} {n : Int} {x v : Int32} (hd : decode K.2.1 pc = .ok (.iinc 15 n, 3)) (hv : x + Int32.ofInt n = v) (hc : a14.category = 1) (k1 : Wp E d mc ms K Q G cs (pc + 3) (a0 :: a1 :: a2 :: a3 :: a4 :: a5 :: a6 :: a7 :: a8 :: a9 :: a10 :: a11 :: a12 :: a13 :: a14 :: .int v :: t) st) : Wp E d mc ms K Q G cs pc (a0 :: a1 :: a2 :: a3 :: a4 :: a5 :: a6 :: a7 :: a8 :: a9 :: a10 :: a11 :: a12 :: a13 :: a14 :: .int x :: t) st := wg_iinc hd rfl hv (fun w h0 hw => (by cases hw; exact hc)) k1
theorem w_lstore_15 {a0 a1 a2 a3 a4 a5 a6 a7 a8 a9 a10 a11 a12 a13 a14 a15 a16 : Value} {t : List Value} {x : Int64} (hd : decode K.2.1 pc = .ok (.lstore 15, 2)) (hc : a14.category = 1) (k1 : Wp E d mc ms K Q G cs (pc + 2) (a0 :: a1 :: a2 :: a3 :: a4 :: a5 :: a6 :: a7 :: a8 :: a9 :: a10 :: a11 :: a12 :: a13 :: a14 :: .long x :: .float 0 :: t) st) : Wp E d mc ms K Q G cs pc (a0 :: a1 :: a2 :: a3 :: a4 :: a5 :: a6 :: a7 :: a8 :: a9 :: a10 :: a11 :: a12 :: a13 :: a14 :: a15 :: a16 :: t) (.long x :: st) := wg_lstore hd (by simp only [List.length_cons]; omega) (fun w h0 hw => (by cases hw; exact hc)) k1
theorem w_istore_16 {a0 a1 a2 a3 a4 a5 a6 a7 a8 a9 a10 a11 a12 a13 a14 a15 a16 : Value} {t : List Value} {x : Int32} (hd : decode K.2.1 pc = .ok (.istore 16, 2)) (hc : a15.category = 1) (k1 : Wp E d mc ms K Q G cs (pc + 2) (a0 :: a1 :: a2 :: a3 :: a4 :: a5 :: a6 :: a7 :: a8 :: a9 :: a10 :: a11 :: a12 :: a13 :: a14 :: a15 :: .int x :: t) st) : Wp E d mc ms K Q G cs pc (a0 :: a1 :: a2 :: a3 :: a4 :: a5 :: a6 :: a7 :: a8 :: a9 :: a10 :: a11 :: a12 :: a13 :: a14 :: a15 :: a16 :: t) (.int x :: st) := wg_istore hd (by simp only [List.length_cons]; omega) (fun w h0 hw => (by cases hw; exact hc)) k1
theorem w_astore_16 {a0 a1 a2 a3 a4 a5 a6 a7 a8 a9 a10 a11 a12 a13 a14 a15 a16 : Value} {t : List Value} {x : Nat} (hd : decode K.2.1 pc = .ok (.astore 16, 2)) (hc : a15.category = 1) (k1 : Wp E d mc ms K Q G cs (pc + 2) (a0 :: a1 :: a2 :: a3 :: a4 :: a5 :: a6 :: a7 :: a8 :: a9 :: a10 :: a11 :: a12 :: a13 :: a14 :: a15 :: .ref x :: t) st) : Wp E d mc ms K Q G cs pc (a0 :: a1 :: a2 :: a3 :: a4 :: a5 :: a6 :: a7 :: a8 :: a9 :: a10 :: a11 :: a12 :: a13 :: a14 :: a15 :: a16 :: t) (.ref x :: st) := wg_astore hd (by simp only [List.length_cons]; omega) (fun w h0 hw => (by cases hw; exact hc)) k1
theorem w_iinc_16 {a0 a1 a2 a3 a4 a5 a6 a7 a8 a9 a10 a11 a12 a13 a14 a15 : Value} {t : List Value} {n : Int} {x v : Int32} (hd : decode K.2.1 pc = .ok (.iinc 16 n, 3)) (hv : x + Int32.ofInt n = v) (hc : a15.category = 1) (k1 : Wp E d mc ms K Q G cs (pc + 3) (a0 :: a1 :: a2 :: a3 :: a4 :: a5 :: a6 :: a7 :: a8 :: a9 :: a10 :: a11 :: a12 :: a13 :: a14 :: a15 :: .int v :: t) st) : Wp E d mc ms K Q G cs pc (a0 :: a1 :: a2 :: a3 :: a4 :: a5 :: a6 :: a7 :: a8 :: a9 :: a10 :: a11 :: a12 :: a13 :: a14 :: a15 :: .int x :: t) st := wg_iinc hd rfl hv (fun w h0 hw => (by cases hw; exact hc)) k1
theorem w_lstore_16 {a0 a1 a2 a3 a4 a5 a6 a7 a8 a9 a10 a11 a12 a13 a14 a15 a16 a17 : Value} {t : List Value} {x : Int64} (hd : decode K.2.1 pc = .ok (.lstore 16, 2)) (hc : a15.category = 1) (k1 : Wp E d mc ms K Q G cs (pc + 2) (a0 :: a1 :: a2 :: a3 :: a4 :: a5 :: a6 :: a7 :: a8 :: a9 :: a10 :: a11 :: a12 :: a13 :: a14 :: a15 :: .long x :: .float 0 :: t) st) : Wp E d mc ms K Q G cs pc (a0 :: a1 :: a2 :: a3 :: a4 :: a5 :: a6 :: a7 :: a8 :: a9 :: a10 :: a11 :: a12 :: a13 :: a14 :: a15 :: a16 :: a17 :: t) (.long x :: st) := wg_lstore hd (by simp only [List.length_cons]; omega) (fun w h0 hw => (by cases hw; exact hc)) k1
theorem w_iadd {x y : Int32} (hd : decode K.2.1 pc = .ok (.iadd, 1)) (k : Wp E d mc ms K Q G cs (pc + 1) L (.int (x + y) :: st)) : Wp E d mc ms K Q G cs pc L (.int y :: .int x :: st) := fun p e s m args below meth c H locs ls C Rp S hl => lv_iadd C.1 C.2.1 hd (k p e s m args below meth c H locs ls C Rp S hl)
theorem w_isub {x y : Int32} (hd : decode K.2.1 pc = .ok (.isub, 1)) (k : Wp E d mc ms K Q G cs (pc + 1) L (.int (x - y) :: st)) : Wp E d mc ms K Q G cs pc L (.int y :: .int x :: st) := fun p e s m args below meth c H locs ls C Rp S hl => lv_isub C.1 C.2.1 hd (k p e s m args below meth c H locs ls C Rp S hl)
theorem w_imul {x y : Int32} (hd : decode K.2.1 pc = .ok (.imul, 1)) (k : Wp E d mc ms K Q G cs (pc + 1) L (.int (x * y) :: st)) : Wp E d mc ms K Q G cs pc L (.int y :: .int x :: st) := fun p e s m args below meth c H locs ls C Rp S hl => lv_imul C.1 C.2.1 hd (k p e s m args below meth c H locs ls C Rp S hl)
theorem w_iand {x y : Int32} (hd : decode K.2.1 pc = .ok (.iand, 1)) (k : Wp E d mc ms K Q G cs (pc + 1) L (.int (x &&& y) :: st)) : Wp E d mc ms K Q G cs pc L (.int y :: .int x :: st) := fun p e s m args below meth c H locs ls C Rp S hl => lv_iand C.1 C.2.1 hd (k p e s m args below meth c H locs ls C Rp S hl)
theorem w_ior {x y : Int32} (hd : decode K.2.1 pc = .ok (.ior, 1)) (k : Wp E d mc ms K Q G cs (pc + 1) L (.int (x ||| y) :: st)) : Wp E d mc ms K Q G cs pc L (.int y :: .int x :: st) := fun p e s m args below meth c H locs ls C Rp S hl => lv_ior C.1 C.2.1 hd (k p e s m args below meth c H locs ls C Rp S hl)
theorem w_ixor {x y : Int32} (hd : decode K.2.1 pc = .ok (.ixor, 1)) (k : Wp E d mc ms K Q G cs (pc + 1) L (.int (x ^^^ y) :: st)) : Wp E d mc ms K Q G cs pc L (.int y :: .int x :: st) := fun p e s m args below meth c H locs ls C Rp S hl => lv_ixor C.1 C.2.1 hd (k p e s m args below meth c H locs ls C Rp S hl)
theorem w_ladd {x y : Int64} (hd : decode K.2.1 pc = .ok (.ladd, 1)) (k : Wp E d mc ms K Q G cs (pc + 1) L (.long (x + y) :: st)) : Wp E d mc ms K Q G cs pc L (.long y :: .long x :: st) := fun p e s m args below meth c H locs ls C Rp S hl => lv_ladd C.1 C.2.1 hd (k p e s m args below meth c H locs ls C Rp S hl)
theorem w_lmul {x y : Int64} (hd : decode K.2.1 pc = .ok (.lmul, 1)) (k : Wp E d mc ms K Q G cs (pc + 1) L (.long (x * y) :: st)) : Wp E d mc ms K Q G cs pc L (.long y :: .long x :: st) := fun p e s m args below meth c H locs ls C Rp S hl => lv_lmul C.1 C.2.1 hd (k p e s m args below meth c H locs ls C Rp S hl)
theorem w_land {x y : Int64} (hd : decode K.2.1 pc = .ok (.land, 1)) (k : Wp E d mc ms K Q G cs (pc + 1) L (.long (x &&& y) :: st)) : Wp E d mc ms K Q G cs pc L (.long y :: .long x :: st) := fun p e s m args below meth c H locs ls C Rp S hl => lv_land C.1 C.2.1 hd (k p e s m args below meth c H locs ls C Rp S hl)
theorem w_lor {x y : Int64} (hd : decode K.2.1 pc = .ok (.lor, 1)) (k : Wp E d mc ms K Q G cs (pc + 1) L (.long (x ||| y) :: st)) : Wp E d mc ms K Q G cs pc L (.long y :: .long x :: st) := fun p e s m args below meth c H locs ls C Rp S hl => lv_lor C.1 C.2.1 hd (k p e s m args below meth c H locs ls C Rp S hl)
theorem w_lxor {x y : Int64} (hd : decode K.2.1 pc = .ok (.lxor, 1)) (k : Wp E d mc ms K Q G cs (pc + 1) L (.long (x ^^^ y) :: st)) : Wp E d mc ms K Q G cs pc L (.long y :: .long x :: st) := fun p e s m args below meth c H locs ls C Rp S hl => lv_lxor C.1 C.2.1 hd (k p e s m args below meth c H locs ls C Rp S hl)
theorem w_idiv {x y : Int32} (hd : decode K.2.1 pc = .ok (.idiv, 1)) (hy : ¬ y = 0) (k : Wp E d mc ms K Q G cs (pc + 1) L (.int (x / y) :: st)) : Wp E d mc ms K Q G cs pc L (.int y :: .int x :: st) := fun p e s m args below meth c H locs ls C Rp S hl => lv_idiv C.1 C.2.1 hd hy (k p e s m args below meth c H locs ls C Rp S hl)
theorem w_irem {x y : Int32} (hd : decode K.2.1 pc = .ok (.irem, 1)) (hy : ¬ y = 0) (k : Wp E d mc ms K Q G cs (pc + 1) L (.int (x - x / y * y) :: st)) : Wp E d mc ms K Q G cs pc L (.int y :: .int x :: st) := fun p e s m args below meth c H locs ls C Rp S hl => lv_irem C.1 C.2.1 hd hy (k p e s m args below meth c H locs ls C Rp S hl)
theorem w_ldiv {x y : Int64} (hd : decode K.2.1 pc = .ok (.ldiv, 1)) (hy : ¬ y = 0) (k : Wp E d mc ms K Q G cs (pc + 1) L (.long (x / y) :: st)) : Wp E d mc ms K Q G cs pc L (.long y :: .long x :: st) := fun p e s m args below meth c H locs ls C Rp S hl => lv_ldiv C.1 C.2.1 hd hy (k p e s m args below meth c H locs ls C Rp S hl)
theorem w_ineg {x : Int32} (hd : decode K.2.1 pc = .ok (.ineg, 1)) (k : Wp E d mc ms K Q G cs (pc + 1) L (.int (-x) :: st)) : Wp E d mc ms K Q G cs pc L (.int x :: st) := fun p e s m args below meth c H locs ls C Rp S hl => lv_ineg C.1 C.2.1 hd (k p e s m args below meth c H locs ls C Rp S hl)
theorem w_ishl {x y : Int32} (hd : decode K.2.1 pc = .ok (.ishl, 1)) (k : Wp E d mc ms K Q G cs (pc + 1) L (.int (x <<< (y &&& 31)) :: st)) : Wp E d mc ms K Q G cs pc L (.int y :: .int x :: st) := fun p e s m args below meth c H locs ls C Rp S hl => lv_ishl C.1 C.2.1 hd (k p e s m args below meth c H locs ls C Rp S hl)
theorem w_ishr {x y : Int32} (hd : decode K.2.1 pc = .ok (.ishr, 1)) (k : Wp E d mc ms K Q G cs (pc + 1) L (.int (x >>> (y &&& 31)) :: st)) : Wp E d mc ms K Q G cs pc L (.int y :: .int x :: st) := fun p e s m args below meth c H locs ls C Rp S hl => lv_ishr C.1 C.2.1 hd (k p e s m args below meth c H locs ls C Rp S hl)
theorem w_iushr {x y : Int32} (hd : decode K.2.1 pc = .ok (.iushr, 1)) (k : Wp E d mc ms K Q G cs (pc + 1) L (.int ((x.toUInt32 >>> (y.toUInt32 &&& Int32.toUInt32 31)).toInt32) :: st)) : Wp E d mc ms K Q G cs pc L (.int y :: .int x :: st) := fun p e s m args below meth c H locs ls C Rp S hl => lv_iushr C.1 C.2.1 hd rfl (k p e s m args below meth c H locs ls C Rp S hl)
theorem w_lushr {x : Int64} {y : Int32} (hd : decode K.2.1 pc = .ok (.lushr, 1)) (k : Wp E d mc ms K Q G cs (pc + 1) L (.long ((x.toUInt64 >>> (y.toInt64.toUInt64 &&& Int64.toUInt64 63)).toInt64) :: st)) : Wp E d mc ms K Q G cs pc L (.int y :: .long x :: st) := fun p e s m args below meth c H locs ls C Rp S hl => lv_lushr C.1 C.2.1 hd rfl (k p e s m args below meth c H locs ls C Rp S hl)
theorem w_lshl {x : Int64} {y : Int32} (hd : decode K.2.1 pc = .ok (.lshl, 1)) (k : Wp E d mc ms K Q G cs (pc + 1) L (.long (x <<< (y.toInt64 &&& 63)) :: st)) : Wp E d mc ms K Q G cs pc L (.int y :: .long x :: st) := fun p e s m args below meth c H locs ls C Rp S hl => lv_lshl C.1 C.2.1 hd rfl (k p e s m args below meth c H locs ls C Rp S hl)
theorem w_i2l {x : Int32} (hd : decode K.2.1 pc = .ok (.i2l, 1)) (k : Wp E d mc ms K Q G cs (pc + 1) L (.long x.toInt64 :: st)) : Wp E d mc ms K Q G cs pc L (.int x :: st) := fun p e s m args below meth c H locs ls C Rp S hl => lv_i2l C.1 C.2.1 hd rfl (k p e s m args below meth c H locs ls C Rp S hl)
theorem w_l2i {x : Int64} (hd : decode K.2.1 pc = .ok (.l2i, 1)) (k : Wp E d mc ms K Q G cs (pc + 1) L (.int x.toInt32 :: st)) : Wp E d mc ms K Q G cs pc L (.long x :: st) := fun p e s m args below meth c H locs ls C Rp S hl => lv_l2i C.1 C.2.1 hd rfl (k p e s m args below meth c H locs ls C Rp S hl)
theorem w_i2c {x : Int32} (hd : decode K.2.1 pc = .ok (.i2c, 1)) (k : Wp E d mc ms K Q G cs (pc + 1) L (.int (x.toUInt32 % 65536).toInt32 :: st)) : Wp E d mc ms K Q G cs pc L (.int x :: st) := fun p e s m args below meth c H locs ls C Rp S hl => lv_i2c C.1 C.2.1 hd rfl (k p e s m args below meth c H locs ls C Rp S hl)
theorem w_lcmp {x y : Int64} (hd : decode K.2.1 pc = .ok (.lcmp, 1)) (k : Wp E d mc ms K Q G cs (pc + 1) L (.int (lg_cmp x y) :: st)) : Wp E d mc ms K Q G cs pc L (.long y :: .long x :: st) := fun p e s m args below meth c H locs ls C Rp S hl => W.lcmp C.1 C.2.1 hd (k p e s m args below meth c H locs ls C Rp S hl)
theorem w_dup {v : Value} (hd : decode K.2.1 pc = .ok (.dup, 1)) (hv : v.category = 1) (k : Wp E d mc ms K Q G cs (pc + 1) L (v :: v :: st)) : Wp E d mc ms K Q G cs pc L (v :: st) := fun p e s m args below meth c H locs ls C Rp S hl => lv_dup C.1 C.2.1 hd hv (k p e s m args below meth c H locs ls C Rp S hl)
theorem w_pop {v : Value} (hd : decode K.2.1 pc = .ok (.pop, 1)) (hv : v.category = 1) (k : Wp E d mc ms K Q G cs (pc + 1) L st) : Wp E d mc ms K Q G cs pc L (v :: st) := fun p e s m args below meth c H locs ls C Rp S hl => lv_pop C.1 C.2.1 hd hv (k p e s m args below meth c H locs ls C Rp S hl)
theorem w_dup2 {v u : Value} (hd : decode K.2.1 pc = .ok (.dup2, 1)) (hv : v.category = 1) (hu : u.category = 1) (k : Wp E d mc ms K Q G cs (pc + 1) L (v :: u :: v :: u :: st)) : Wp E d mc ms K Q G cs pc L (v :: u :: st) := fun p e s m args below meth c H locs ls C Rp S hl => lv_dup2_11 C.1 C.2.1 hd hv hu (k p e s m args below meth c H locs ls C Rp S hl)
theorem w_if_eq {x : Int32} {off : Int} {tgt : Nat} (hd : decode K.2.1 pc = .ok (.ifCond .eq off, 3)) (ht : (pc : Int) + off = (tgt : Int)) (kt : x = 0 → Wp E d mc ms K Q G cs tgt L st) (kf : ¬ x = 0 → Wp E d mc ms K Q G cs (pc + 3) L st) : Wp E d mc ms K Q G cs pc L (.int x :: st) := fun p e s m args below meth c H locs ls C Rp S hl => lv_if_eq C.1 C.2.1 hd ht (fun h => kt h p e s m args below meth c H locs ls C Rp S hl) (fun h => kf h p e s m args below meth c H locs ls C Rp S hl)
theorem w_icmp_eq {x y : Int32} {off : Int} {tgt : Nat} (hd : decode K.2.1 pc = .ok (.if_icmp .eq off, 3)) (ht : (pc : Int) + off = (tgt : Int)) (kt : x = y → Wp E d mc ms K Q G cs tgt L st) (kf : ¬ x = y → Wp E d mc ms K Q G cs (pc + 3) L st) : Wp E d mc ms K Q G cs pc L (.int y :: .int x :: st) := fun p e s m args below meth c H locs ls C Rp S hl => lv_icmp_eq C.1 C.2.1 hd ht (fun h => kt h p e s m args below meth c H locs ls C Rp S hl) (fun h => kf h p e s m args below meth c H locs ls C Rp S hl)
theorem w_if_ne {x : Int32} {off : Int} {tgt : Nat} (hd : decode K.2.1 pc = .ok (.ifCond .ne off, 3)) (ht : (pc : Int) + off = (tgt : Int)) (kt : ¬ x = 0 → Wp E d mc ms K Q G cs tgt L st) (kf : x = 0 → Wp E d mc ms K Q G cs (pc + 3) L st) : Wp E d mc ms K Q G cs pc L (.int x :: st) := fun p e s m args below meth c H locs ls C Rp S hl => lv_if_ne C.1 C.2.1 hd ht (fun h => kt h p e s m args below meth c H locs ls C Rp S hl) (fun h => kf h p e s m args below meth c H locs ls C Rp S hl)
theorem w_icmp_ne {x y : Int32} {off : Int} {tgt : Nat} (hd : decode K.2.1 pc = .ok (.if_icmp .ne off, 3)) (ht : (pc : Int) + off = (tgt : Int)) (kt : ¬ x = y → Wp E d mc ms K Q G cs tgt L st) (kf : x = y → Wp E d mc ms K Q G cs (pc + 3) L st) : Wp E d mc ms K Q G cs pc L (.int y :: .int x :: st) := fun p e s m args below meth c H locs ls C Rp S hl => lv_icmp_ne C.1 C.2.1 hd ht (fun h => kt h p e s m args below meth c H locs ls C Rp S hl) (fun h => kf h p e s m args below meth c H locs ls C Rp S hl)
theorem w_if_lt {x : Int32} {off : Int} {tgt : Nat} (hd : decode K.2.1 pc = .ok (.ifCond .lt off, 3)) (ht : (pc : Int) + off = (tgt : Int)) (kt : x < 0 → Wp E d mc ms K Q G cs tgt L st) (kf : ¬ x < 0 → Wp E d mc ms K Q G cs (pc + 3) L st) : Wp E d mc ms K Q G cs pc L (.int x :: st) := fun p e s m args below meth c H locs ls C Rp S hl => lv_if_lt C.1 C.2.1 hd ht (fun h => kt h p e s m args below meth c H locs ls C Rp S hl) (fun h => kf h p e s m args below meth c H locs ls C Rp S hl)
theorem w_icmp_lt {x y : Int32} {off : Int} {tgt : Nat} (hd : decode K.2.1 pc = .ok (.if_icmp .lt off, 3)) (ht : (pc : Int) + off = (tgt : Int)) (kt : x < y → Wp E d mc ms K Q G cs tgt L st) (kf : ¬ x < y → Wp E d mc ms K Q G cs (pc + 3) L st) : Wp E d mc ms K Q G cs pc L (.int y :: .int x :: st) := fun p e s m args below meth c H locs ls C Rp S hl => lv_icmp_lt C.1 C.2.1 hd ht (fun h => kt h p e s m args below meth c H locs ls C Rp S hl) (fun h => kf h p e s m args below meth c H locs ls C Rp S hl)
theorem w_if_ge {x : Int32} {off : Int} {tgt : Nat} (hd : decode K.2.1 pc = .ok (.ifCond .ge off, 3)) (ht : (pc : Int) + off = (tgt : Int)) (kt : 0 ≤ x → Wp E d mc ms K Q G cs tgt L st) (kf : ¬ 0 ≤ x → Wp E d mc ms K Q G cs (pc + 3) L st) : Wp E d mc ms K Q G cs pc L (.int x :: st) := fun p e s m args below meth c H locs ls C Rp S hl => lv_if_ge C.1 C.2.1 hd ht (fun h => kt h p e s m args below meth c H locs ls C Rp S hl) (fun h => kf h p e s m args below meth c H locs ls C Rp S hl)
theorem w_icmp_ge {x y : Int32} {off : Int} {tgt : Nat} (hd : decode K.2.1 pc = .ok (.if_icmp .ge off, 3)) (ht : (pc : Int) + off = (tgt : Int)) (kt : y ≤ x → Wp E d mc ms K Q G cs tgt L st) (kf : ¬ y ≤ x → Wp E d mc ms K Q G cs (pc + 3) L st) : Wp E d mc ms K Q G cs pc L (.int y :: .int x :: st) := fun p e s m args below meth c H locs ls C Rp S hl => lv_icmp_ge C.1 C.2.1 hd ht (fun h => kt h p e s m args below meth c H locs ls C Rp S hl) (fun h => kf h p e s m args below meth c H locs ls C Rp S hl)
theorem w_if_gt {x : Int32} {off : Int} {tgt : Nat} (hd : decode K.2.1 pc = .ok (.ifCond .gt off, 3)) (ht : (pc : Int) + off = (tgt : Int)) (kt : 0 < x → Wp E d mc ms K Q G cs tgt L st) (kf : ¬ 0 < x → Wp E d mc ms K Q G cs (pc + 3) L st) : Wp E d mc ms K Q G cs pc L (.int x :: st) := fun p e s m args below meth c H locs ls C Rp S hl => lv_if_gt C.1 C.2.1 hd ht (fun h => kt h p e s m args below meth c H locs ls C Rp S hl) (fun h => kf h p e s m args below meth c H locs ls C Rp S hl)
theorem w_icmp_gt {x y : Int32} {off : Int} {tgt : Nat} (hd : decode K.2.1 pc = .ok (.if_icmp .gt off, 3)) (ht : (pc : Int) + off = (tgt : Int)) (kt : y < x → Wp E d mc ms K Q G cs tgt L st) (kf : ¬ y < x → Wp E d mc ms K Q G cs (pc + 3) L st) : Wp E d mc ms K Q G cs pc L (.int y :: .int x :: st) := fun p e s m args below meth c H locs ls C Rp S hl => lv_icmp_gt C.1 C.2.1 hd ht (fun h => kt h p e s m args below meth c H locs ls C Rp S hl) (fun h => kf h p e s m args below meth c H locs ls C Rp S hl)
theorem w_if_le {x : Int32} {off : Int} {tgt : Nat} (hd : decode K.2.1 pc = .ok (.ifCond .le off, 3)) (ht : (pc : Int) + off = (tgt : Int)) (kt : x ≤ 0 → Wp E d mc ms K Q G cs tgt L st) (kf : ¬ x ≤ 0 → Wp E d mc ms K Q G cs (pc + 3) L st) : Wp E d mc ms K Q G cs pc L (.int x :: st) := fun p e s m args below meth c H locs ls C Rp S hl => lv_if_le C.1 C.2.1 hd ht (fun h => kt h p e s m args below meth c H locs ls C Rp S hl) (fun h => kf h p e s m args below meth c H locs ls C Rp S hl)
theorem w_icmp_le {x y : Int32} {off : Int} {tgt : Nat} (hd : decode K.2.1 pc = .ok (.if_icmp .le off, 3)) (ht : (pc : Int) + off = (tgt : Int)) (kt : x ≤ y → Wp E d mc ms K Q G cs tgt L st) (kf : ¬ x ≤ y → Wp E d mc ms K Q G cs (pc + 3) L st) : Wp E d mc ms K Q G cs pc L (.int y :: .int x :: st) := fun p e s m args below meth c H locs ls C Rp S hl => lv_icmp_le C.1 C.2.1 hd ht (fun h => kt h p e s m args below meth c H locs ls C Rp S hl) (fun h => kf h p e s m args below meth c H locs ls C Rp S hl)
theorem w_goto {off : Int} {tgt : Nat} (hd : decode K.2.1 pc = .ok (.goto off, 3)) (ht : (pc : Int) + off = (tgt : Int)) (k : Wp E d mc ms K Q G cs tgt L st) : Wp E d mc ms K Q G cs pc L st := fun p e s m args below meth c H locs ls C Rp S hl => lv_goto C.1 C.2.1 hd ht (k p e s m args below meth c H locs ls C Rp S hl)
theorem w_ifnonnull {x : Nat} {off : Int} {tgt : Nat} (hd : decode K.2.1 pc = .ok (.ifnonnull off, 3)) (ht : (pc : Int) + off = (tgt : Int)) (k : Wp E d mc ms K Q G cs tgt L st) : Wp E d mc ms K Q G cs pc L (.ref x :: st) := fun p e s m args below meth c H locs ls C Rp S hl => lv_ifnonnull C.1 C.2.1 hd ht (k p e s m args below meth c H locs ls C Rp S hl)
theorem w_ifnull {x : Nat} {off : Int} (hd : decode K.2.1 pc = .ok (.ifnull off, 3)) (k : Wp E d mc ms K Q G cs (pc + 3) L st) : Wp E d mc ms K Q G cs pc L (.ref x :: st) := fun p e s m args below meth c H locs ls C Rp S hl => lv_ifnull C.1 C.2.1 hd (k p e s m args below meth c H locs ls C Rp S hl)
theorem w_tabOut {dflt lo hi : Int} {offs : Array Int} {len : Nat} {x : Int32} {tgt : Nat} (hd : decode K.2.1 pc = .ok (.tableswitch dflt lo hi offs, len)) (h : x.toInt < lo ∨ hi < x.toInt) (ht : (pc : Int) + dflt = (tgt : Int)) (k : Wp E d mc ms K Q G cs tgt L st) : Wp E d mc ms K Q G cs pc L (.int x :: st) := fun p e s m args below meth c H locs ls C Rp S hl => lv_tableOut C.1 C.2.1 hd h ht (k p e s m args below meth c H locs ls C Rp S hl)
theorem w_tabIn {dflt lo hi : Int} {offs : Array Int} {len : Nat} {x : Int32} {off : Int} {tgt : Nat} (hd : decode K.2.1 pc = .ok (.tableswitch dflt lo hi offs, len)) (h1 : ¬ x.toInt < lo) (h2 : ¬ hi < x.toInt) (ho : offs[(x.toInt - lo).toNat]? = some off) (ht : (pc : Int) + off = (tgt : Int)) (k : Wp E d mc ms K Q G cs tgt L st) : Wp E d mc ms K Q G cs pc L (.int x :: st) := fun p e s m args below meth c H locs ls C Rp S hl => lv_tableIn C.1 C.2.1 hd h1 h2 ho ht (k p e s m args below meth c H locs ls C Rp S hl)
theorem w_lookup {dflt : Int} {ps : Array (Int × Int)} {len : Nat} {x : Int32} {off : Int} {tgt : Nat} (hd : decode K.2.1 pc = .ok (.lookupswitch dflt ps, len)) (hp : (ps.toList.zip (ps.toList.drop 1)).all (fun (a, next) => a.1 < next.1) = true) (ho : Op.lookupswitch.offset ps.toList dflt x.toInt = off) (ht : (pc : Int) + off = (tgt : Int)) (k : Wp E d mc ms K Q G cs tgt L st) : Wp E d mc ms K Q G cs pc L (.int x :: st) := fun p e s m args below meth c H locs ls C Rp S hl => lv_lookup C.1 C.2.1 hd hp ho ht (k p e s m args below meth c H locs ls C Rp S hl)
theorem in_X0 : ∀ w ∈ u_ws RX0 TX0 1, w ∈ LW := by
  intro w hw
  obtain ⟨k, hk, rfl⟩ := List.mem_map.mp hw
  have hk := List.mem_range.mp hk
  match k, hk with
  | 0, _ => exact u_64
  | k + 1, h => exact absurd h (by omega)
theorem in_X1 : ∀ w ∈ u_ws RX1 TX1 18, w ∈ LW := by
  intro w hw
  obtain ⟨k, hk, rfl⟩ := List.mem_map.mp hw
  have hk := List.mem_range.mp hk
  match k, hk with
  | 0, _ => exact u_161
  | 1, _ => exact u_163
  | 2, _ => exact u_165
  | 3, _ => exact u_167
  | 4, _ => exact u_169
  | 5, _ => exact u_171
  | 6, _ => exact u_173
  | 7, _ => exact u_175
  | 8, _ => exact u_177
  | 9, _ => exact u_179
  | 10, _ => exact u_181
  | 11, _ => exact u_183
  | 12, _ => exact u_185
  | 13, _ => exact u_187
  | 14, _ => exact u_189
  | 15, _ => exact u_191
  | 16, _ => exact u_193
  | 17, _ => exact u_195
  | k + 18, h => exact absurd h (by omega)
theorem in_X2 : ∀ w ∈ u_ws RX2 TX2 7, w ∈ LW := by
  intro w hw
  obtain ⟨k, hk, rfl⟩ := List.mem_map.mp hw
  have hk := List.mem_range.mp hk
  match k, hk with
  | 0, _ => exact u_214
  | 1, _ => exact u_216
  | 2, _ => exact u_218
  | 3, _ => exact u_220
  | 4, _ => exact u_222
  | 5, _ => exact u_224
  | 6, _ => exact u_226
  | k + 7, h => exact absurd h (by omega)
theorem in_X3 : ∀ w ∈ u_ws RX3 TX3 4, w ∈ LW := by
  intro w hw
  obtain ⟨k, hk, rfl⟩ := List.mem_map.mp hw
  have hk := List.mem_range.mp hk
  match k, hk with
  | 0, _ => exact u_79
  | 1, _ => exact u_81
  | 2, _ => exact u_83
  | 3, _ => exact u_85
  | k + 4, h => exact absurd h (by omega)
theorem in_X4 : ∀ w ∈ u_ws RX4 TX4 3, w ∈ LW := by
  intro w hw
  obtain ⟨k, hk, rfl⟩ := List.mem_map.mp hw
  have hk := List.mem_range.mp hk
  match k, hk with
  | 0, _ => exact u_104
  | 1, _ => exact u_106
  | 2, _ => exact u_108
  | k + 3, h => exact absurd h (by omega)
theorem in_X5 : ∀ w ∈ u_ws RX5 TX5 5, w ∈ LW := by
  intro w hw
  obtain ⟨k, hk, rfl⟩ := List.mem_map.mp hw
  have hk := List.mem_range.mp hk
  match k, hk with
  | 0, _ => exact u_51
  | 1, _ => exact u_53
  | 2, _ => exact u_55
  | 3, _ => exact u_57
  | 4, _ => exact u_59
  | k + 5, h => exact absurd h (by omega)
theorem in_X6 : ∀ w ∈ u_ws RX6 TX6 2, w ∈ LW := by
  intro w hw
  obtain ⟨k, hk, rfl⟩ := List.mem_map.mp hw
  have hk := List.mem_range.mp hk
  match k, hk with
  | 0, _ => exact u_238
  | 1, _ => exact u_240
  | k + 2, h => exact absurd h (by omega)
theorem in_X7 : ∀ w ∈ u_ws RX7 TX7 19, w ∈ LW := by
  intro w hw
  obtain ⟨k, hk, rfl⟩ := List.mem_map.mp hw
  have hk := List.mem_range.mp hk
  match k, hk with
  | 0, _ => exact u_262
  | 1, _ => exact u_264
  | 2, _ => exact u_266
  | 3, _ => exact u_268
  | 4, _ => exact u_270
  | 5, _ => exact u_272
  | 6, _ => exact u_274
  | 7, _ => exact u_276
  | 8, _ => exact u_278
  | 9, _ => exact u_280
  | 10, _ => exact u_282
  | 11, _ => exact u_284
  | 12, _ => exact u_286
  | 13, _ => exact u_288
  | 14, _ => exact u_290
  | 15, _ => exact u_292
  | 16, _ => exact u_294
  | 17, _ => exact u_296
  | 18, _ => exact u_298
  | k + 19, h => exact absurd h (by omega)
theorem in_X8 : ∀ w ∈ u_ws RX8 TX8 22, w ∈ LW := by
  intro w hw
  obtain ⟨k, hk, rfl⟩ := List.mem_map.mp hw
  have hk := List.mem_range.mp hk
  match k, hk with
  | 0, _ => exact u_1252
  | 1, _ => exact u_1254
  | 2, _ => exact u_1256
  | 3, _ => exact u_1258
  | 4, _ => exact u_1260
  | 5, _ => exact u_1262
  | 6, _ => exact u_1264
  | 7, _ => exact u_1266
  | 8, _ => exact u_1268
  | 9, _ => exact u_1270
  | 10, _ => exact u_1272
  | 11, _ => exact u_1274
  | 12, _ => exact u_1276
  | 13, _ => exact u_1278
  | 14, _ => exact u_1280
  | 15, _ => exact u_1282
  | 16, _ => exact u_1284
  | 17, _ => exact u_1286
  | 18, _ => exact u_1288
  | 19, _ => exact u_1290
  | 20, _ => exact u_1292
  | 21, _ => exact u_1294
  | k + 22, h => exact absurd h (by omega)
theorem cl_in : ∀ (ci : Nat) (q : vw_C), vwCl[ci]? = some q → (∀ w ∈ u_ws q.1 q.2.1 q.2.2, w ∈ LW) ∧ ∃ ty0 : Nat → FieldType, (∀ k, k < q.2.2 → parseFieldDescriptor (q.2.1 k).2.2.1 = some (ty0 k)) ∧ (∀ a, a < q.2.2 → ∀ b, b < q.2.2 → a ≠ b → (q.2.1 a).2.1 ≠ (q.2.1 b).2.1) := by
  intro ci q h
  match ci, h with

  | 0, h => cases h; exact ⟨in_X0, tyX0, tyX0_ok, nmX0⟩
  | 1, h => cases h; exact ⟨in_X1, tyX1, tyX1_ok, nmX1⟩
  | 2, h => cases h; exact ⟨in_X2, tyX2, tyX2_ok, nmX2⟩
  | 3, h => cases h; exact ⟨in_X3, tyX3, tyX3_ok, nmX3⟩
  | 4, h => cases h; exact ⟨in_X4, tyX4, tyX4_ok, nmX4⟩
  | 5, h => cases h; exact ⟨in_X5, tyX5, tyX5_ok, nmX5⟩
  | 6, h => cases h; exact ⟨in_X6, tyX6, tyX6_ok, nmX6⟩
  | 7, h => cases h; exact ⟨in_X7, tyX7, tyX7_ok, nmX7⟩
  | 8, h => cases h; exact ⟨in_X8, tyX8, tyX8_ok, nmX8⟩
  | n + 9, h => simp [vwCl] at h
/-- a field's link: own class, place in its pool, the kind of the object, the slot, final or not, type -/
def FL (own : String) (idx ci k : Nat) (fin : Bool) (ty : FieldType) : Prop := ∃ q : vw_C, vwCl[ci]? = some q ∧ k < q.2.2 ∧ (Cond.fieldLink own idx (q.2.1 k).1 (q.2.1 k).2.1 (q.2.1 k).2.2.1 ∈ LW ∨ ∃ host, Cond.fieldLinkNest own idx (q.2.1 k).1 (q.2.1 k).2.1 (q.2.1 k).2.2.1 host ∈ NW) ∧ (q.2.1 k).2.2.2 = fin ∧ parseFieldDescriptor (q.2.1 k).2.2.1 = some ty
def FF (own : String) (idx ci k : Nat) (ty : FieldType) : Prop := ∃ q : vw_C, vwCl[ci]? = some q ∧ k < q.2.2 ∧ Cond.fieldLink own idx (q.2.1 k).1 (q.2.1 k).2.1 (q.2.1 k).2.2.1 ∈ LW ∧ (q.2.1 k).2.2.2 = true ∧ parseFieldDescriptor (q.2.1 k).2.2.1 = some ty ∧ (q.2.1 k).1 = own
theorem w_getf {idx ci k a : Nat} {fin : Bool} {ty : FieldType} {vs : List Value} {v : Value} (hd : decode K.2.1 pc = .ok (.getfield idx, 3)) (hf : FL K.1.cls idx ci k fin ty) (hG : G.1 a = some (oB ci vs)) (hv : vs[k]? = some v) (k1 : Wp E d mc ms K Q G cs (pc + 3) L (v :: st)) : Wp E d mc ms K Q G cs pc L (.ref a :: st) := by
  intro p e s m args below meth c H locs ls C Rp S hl
  obtain ⟨q, hq, hk, hlk, -, -⟩ := hf
  have hP : va_P (eD E) vwCl [(a, .inr (ci, vs))] H := by
    intro j x hj
    cases j with
    | zero => cases hj; exact (Rp.2 a _ hG).2
    | succ j => simp at hj
  obtain ⟨h1, h2, h3, h4, h5, h6, h7, h8, h9, hE⟩ := id C
  rcases hlk with hlk | ⟨host, hlk⟩
  · exact va_get h1 h2 h5 (cl_in ci q hq).1 h6 hE.2.1 hP 0 rfl hq k hk (h5 _ hlk) (fun _ h => h) hv hd (k1 p e s m args below meth c H locs ls C Rp S hl)
  · exact va_getN h1 h2 h5 (cl_in ci q hq).1 h6 hE.2.1 hP 0 rfl hq k hk (va_Nw.use rfl (hE.2.2.1 _ hlk)) (fun _ h => h) hv hd (k1 p e s m args below meth c H locs ls C Rp S hl)
theorem Rep.gs {a : Nat} {x y : HC} {H H' : Heap} (h : Rep E G H) (hG : G.1 a = some x) (z : H'.size = H.size) (hy : va_at (eD E) vwCl (a, toE E y) H') (oq : ∀ q : Nat, q ≠ a → H'[q]? = H[q]?) : Rep E (gs G a y) H' := by
  refine ⟨z.trans h.1, fun b w hb => ?_⟩
  by_cases hab : b = a
  · subst hab
    rw [gs_at] at hb
    cases hb
    exact ⟨(h.2 _ _ hG).1, hy⟩
  · rw [gs_ne hab] at hb
    exact ⟨(h.2 _ _ hb).1, (h.2 _ _ hb).2.kept (oq b hab)⟩
theorem va_at_lt {H : Heap} {a : Nat} {x : HC} (h : Rep E G H) (hG : G.1 a = some x) : a < G.2 := by rw [← h.1]; exact (h.2 _ _ hG).2.lt
theorem Rep.gn {x : HC} {H H' : Heap} (h : Rep E G H) (hb : eB E ≤ G.2) (z : H'.size = G.2 + 1) (hy : va_at (eD E) vwCl (G.2, toE E x) H') (oq : ∀ q : Nat, q < G.2 → H'[q]? = H[q]?) : Rep E (gn G x) H' := by
  refine ⟨z, fun b w hbw => ?_⟩
  by_cases hab : b = G.2
  · subst hab
    rw [gn_at] at hbw
    cases hbw
    exact ⟨hb, hy⟩
  · rw [gn_ne hab] at hbw
    have hlt := va_at_lt h hbw
    exact ⟨(h.2 _ _ hbw).1, (h.2 _ _ hbw).2.kept (oq b hlt)⟩
theorem w_putf {idx ci k a : Nat} {ty : FieldType} {vs : List Value} {v : Value} (hd : decode K.2.1 pc = .ok (.putfield idx, 3)) (hf : FL K.1.cls idx ci k false ty) (hG : G.1 a = some (oB ci vs)) (hkl : k < vs.length) (hn : narrow ty v = v) (hfit : fits ty v = true) (k1 : Wp E d mc ms K Q (gs G a (oB ci (vs.set k v))) cs (pc + 3) L st) : Wp E d mc ms K Q G cs pc L (v :: .ref a :: st) := by
  intro p e s m args below meth c H locs ls C Rp S hl
  obtain ⟨r, hc, hk, hlk, hfin, hd2⟩ := hf
  obtain ⟨h1, h2, h3, h4, hts, hown, h7, h8, h9, hE⟩ := id C
  have hK := hE.2.1
  obtain ⟨hin, ty0, hty, hnm⟩ := cl_in ci r hc
  have hap := va_apart (own := K.1.cls) hts hin ty0 hty hnm hK hc
  obtain ⟨hbase, r', hr', cell, q1, q2, q3, q4⟩ := Rp.2 a _ hG
  have hr : r' = r := Option.some.inj (hr'.symm.trans hc)
  subst hr
  obtain ⟨hSl, hfc, kC, hkC, hkind⟩ := hK.1 ci _ hc
  obtain ⟨cf, kf, fi, f, hi, hsl⟩ := hSl k hk
  have hlay := hts _ (hin _ (u_in_lay hk))
  unfold u_lay at hlay
  rw [if_neg (by rw [hfin]; decide)] at hlay
  have hst := (u_facts hfc hkC (u_lays hts hin hk) hi).1
  have h6 := u_store hfc hkC hkind hlay hi hd2 hn hfit
  have fin : ∀ (H' : Heap), H'[a]? = some (cell.setSlot f.slot v) → H'.size = H.size → (∀ q, q ≠ a → H'[q]? = H[q]?) → W p (eL E) e (rmC d mc ms) s m args below meth c H' (locs ++ [⟨a, f.slot⟩]) cs.1 cs.2 (vx_MQ below (QcO E Q) (XcO E Q) args s mc ms (eA E)) (F0 m (pc + 3) ls st) := by
    intro H' e1 e2 e3
    rw [hsl] at e1 ⊢
    exact k1 p e s m args below meth c H' _ ls C (Rp.gs hG e2 ⟨_, hc, t_OB.to (V := updV (vp_V vs) k v) ⟨_, e1, q2, q3, t_set q4 hap hk v⟩ (fun j _ => vp_updV_set hkl v j)⟩ e3) (S.put e2 e3 hbase) hl
  rcases hlk with hlk | ⟨host, hlk⟩
  · exact W.putK h1 h2 (f := f) ⟨hown, hts _ hlk, ⟨_, _, _, hi⟩, hst⟩ (by rw [q2]; exact h6) q1 q3 (by rw [hsl]; exact k2_hasslot (q4 k hk)) rfl rfl hd fin
  · exact va_WputK h1 h2 (f := f) hown (va_Nw.use rfl (hE.2.2.1 _ hlk)) hi hst (by rw [q2]; exact h6) q1 q3 (by rw [hsl]; exact k2_hasslot (q4 k hk)) rfl rfl hd fin
theorem w_putfF {idx ci k a : Nat} {ty : FieldType} {vs : List Value} {v : Value} (hd : decode K.2.1 pc = .ok (.putfield idx, 3)) (hf : FF K.1.cls idx ci k ty) (hin2 : K.1.name = "<init>") (hG : G.1 a = some (oB ci vs)) (hkl : k < vs.length) (hn : narrow ty v = v) (hfit : fits ty v = true) (k1 : Wp E d mc ms K Q (gs G a (oB ci (vs.set k v))) cs (pc + 3) L st) : Wp E d mc ms K Q G cs pc L (v :: .ref a :: st) := by
  intro p e s m args below meth c H locs ls C Rp S hl
  obtain ⟨r, hc, hk, hlk, hfin, hd2, hdecl⟩ := hf
  obtain ⟨h1, h2, h3, h4, hts, hown, h7, h8, h9, hE⟩ := id C
  have hK := hE.2.1
  obtain ⟨hin, ty0, hty, hnm⟩ := cl_in ci r hc
  have hap := va_apart (own := K.1.cls) hts hin ty0 hty hnm hK hc
  obtain ⟨hbase, r', hr', cell, q1, q2, q3, q4⟩ := Rp.2 a _ hG
  have hr : r' = r := Option.some.inj (hr'.symm.trans hc)
  subst hr
  obtain ⟨hSl, hfc, kC, hkC, hkind⟩ := hK.1 ci _ hc
  obtain ⟨cf, kf, fi, f, hi, hsl⟩ := hSl k hk
  have hlay := hts _ (hin _ (u_in_lay hk))
  unfold u_lay at hlay
  rw [if_pos hfin] at hlay
  have hst := (u_facts hfc hkC (u_lays hts hin hk) hi).1
  have hcf : m.cls = cf := by
    obtain ⟨_, _, c', _, _, _, -, -, hf', -, -, -, hown2, -⟩ := Cond.laysFinal_spec hlay
    have e1 : c' = cf := by have := hi.symm.trans hf'; simp at this; exact this.1.symm
    rw [hdecl] at hown2
    rw [← e1]; exact Option.some.inj (hown.symm.trans hown2)
  have h6 := u_fits hfc hkC hkind (Or.inr hlay) hi hd2 hn hfit
  refine W.putFinK h1 h2 hown (hts _ hlk) hi hst hcf (by rw [h9, hin2]) (by rw [q2]; exact h6) q1 q3 (by rw [hsl]; exact k2_hasslot (q4 k hk)) rfl rfl hd fun H' e1 e2 e3 => ?_
  rw [hsl] at e1 ⊢
  exact k1 p e s m args below meth c H' _ ls C (Rp.gs hG e2 ⟨_, hc, t_OB.to (V := updV (vp_V vs) k v) ⟨_, e1, q2, q3, t_set q4 hap hk v⟩ (fun j _ => vp_updV_set hkl v j)⟩ e3) (S.put e2 e3 hbase) hl
theorem Rep.one {a : Nat} {x : HC} {H : Heap} (h : Rep E G H) (hG : G.1 a = some x) : va_P (eD E) vwCl [(a, toE E x)] H := by
  intro j y hj
  cases j with
  | zero => cases hj; exact (h.2 a _ hG).2
  | succ j => simp at hj
theorem w_iaload {a n : Nat} {f : Nat → Int32} {i : Int32} (hd : decode K.2.1 pc = .ok (.iaload, 1)) (hG : G.1 a = some (aI n f)) (hin : vp_in i n) (k : Wp E d mc ms K Q G cs (pc + 1) L (.int (f i.toNatClampNeg) :: st)) : Wp E d mc ms K Q G cs pc L (.int i :: .ref a :: st) := fun p e s m args below meth c H locs ls C Rp S hl => va_iald C.1 C.2.1 C.2.2.2.2.2.2.2.2.2.2.1 (Rp.one hG) 0 0 rfl rfl hin hd (k p e s m args below meth c H locs ls C Rp S hl)
theorem w_zaload {a n : Nat} {f : Nat → Int32} {i : Int32} (hd : decode K.2.1 pc = .ok (.baload, 1)) (hG : G.1 a = some (aZ n f)) (hin : vp_in i n) (k : Wp E d mc ms K Q G cs (pc + 1) L (.int (f i.toNatClampNeg) :: st)) : Wp E d mc ms K Q G cs pc L (.int i :: .ref a :: st) := fun p e s m args below meth c H locs ls C Rp S hl => va_zald C.1 C.2.1 C.2.2.2.2.2.2.2.2.2.2.1 (Rp.one hG) 0 1 rfl rfl hin hd (k p e s m args below meth c H locs ls C Rp S hl)
theorem w_laload {a n : Nat} {f : Nat → Int64} {i : Int32} (hd : decode K.2.1 pc = .ok (.laload, 1)) (hG : G.1 a = some (aJ n f)) (hin : vp_in i n) (k : Wp E d mc ms K Q G cs (pc + 1) L (.long (f i.toNatClampNeg) :: st)) : Wp E d mc ms K Q G cs pc L (.int i :: .ref a :: st) := fun p e s m args below meth c H locs ls C Rp S hl => va_lald C.1 C.2.1 C.2.2.2.2.2.2.2.2.2.2.1 (Rp.one hG) 0 2 rfl rfl hin hd (k p e s m args below meth c H locs ls C Rp S hl)
theorem w_aaload {a n : Nat} {f : Nat → Option Nat} {i : Int32} (hd : decode K.2.1 pc = .ok (.aaload, 1)) (hG : G.1 a = some (aO n f)) (hin : vp_in i n) (k : Wp E d mc ms K Q G cs (pc + 1) L (va_rf (f i.toNatClampNeg) :: st)) : Wp E d mc ms K Q G cs pc L (.int i :: .ref a :: st) := fun p e s m args below meth c H locs ls C Rp S hl => va_aldq C.1 C.2.1 C.2.2.2.2.2.2.2.2.2.2.1 (Rp.one hG) 0 3 rfl rfl hin hd (k p e s m args below meth c H locs ls C Rp S hl)
theorem w_alenI {a n : Nat} {f : Nat → Int32} (hd : decode K.2.1 pc = .ok (.arraylength, 1)) (hG : G.1 a = some (aI n f)) (k : Wp E d mc ms K Q G cs (pc + 1) L (.int (nI n) :: st)) : Wp E d mc ms K Q G cs pc L (.ref a :: st) := fun p e s m args below meth c H locs ls C Rp S hl => va_alen C.1 C.2.1 C.2.2.2.2.2.2.2.2.2.2.1 (Rp.one hG) 0 0 rfl rfl rfl hd (k p e s m args below meth c H locs ls C Rp S hl)
theorem w_alenO {a n : Nat} {f : Nat → Option Nat} (hd : decode K.2.1 pc = .ok (.arraylength, 1)) (hG : G.1 a = some (aO n f)) (k : Wp E d mc ms K Q G cs (pc + 1) L (.int (nI n) :: st)) : Wp E d mc ms K Q G cs pc L (.ref a :: st) := fun p e s m args below meth c H locs ls C Rp S hl => va_alen C.1 C.2.1 C.2.2.2.2.2.2.2.2.2.2.1 (Rp.one hG) 0 3 rfl rfl rfl hd (k p e s m args below meth c H locs ls C Rp S hl)
theorem w_scrlen (hd : decode K.2.1 pc = .ok (.arraylength, 1)) (k : Wp E d mc ms K Q G cs (pc + 1) L (.int (nI (eX E).2.1) :: st)) : Wp E d mc ms K Q G cs pc L (.ref (eX E).1 :: st) := fun p e s m args below meth c H locs ls C Rp S hl => va_slen C.1 C.2.1 C.2.2.2.2.2.2.2.2.2.2.2.2.2.2.2.2.2.2.1 (Nat.lt_of_lt_of_le C.2.2.2.2.2.2.2.2.2.2.2.2.2.2.2.2.2.2.2.1 C.2.2.2.2.2.2.2.2.2.2.2.2.2.2.2.2.2.2.2.2.1) (Nat.not_le.mpr C.2.2.2.2.2.2.2.2.2.2.2.2.2.2.2.2.2.2.2.1) S hd (k p e s m args below meth c H locs ls C Rp S hl)
theorem w_scr {i : Int32} (hd : decode K.2.1 pc = .ok (.iaload, 1)) (hin : vp_in i (eX E).2.1) (k : Wp E d mc ms K Q G cs (pc + 1) L (.int ((eX E).2.2 i.toNatClampNeg) :: st)) : Wp E d mc ms K Q G cs pc L (.int i :: .ref (eX E).1 :: st) := fun p e s m args below meth c H locs ls C Rp S hl => va_sld C.1 C.2.1 C.2.2.2.2.2.2.2.2.2.2.2.2.2.2.2.2.2.2.1 (Nat.lt_of_lt_of_le C.2.2.2.2.2.2.2.2.2.2.2.2.2.2.2.2.2.2.2.1 C.2.2.2.2.2.2.2.2.2.2.2.2.2.2.2.2.2.2.2.2.1) (Nat.not_le.mpr C.2.2.2.2.2.2.2.2.2.2.2.2.2.2.2.2.2.2.2.1) S hin hd (k p e s m args below meth c H locs ls C Rp S hl)
theorem w_iastore {a n : Nat} {f : Nat → Int32} {i x : Int32} (hd : decode K.2.1 pc = .ok (.iastore, 1)) (hG : G.1 a = some (aI n f)) (hin : vp_in i n) (k : Wp E d mc ms K Q (gs G a (aI n (upd f i.toNatClampNeg x))) cs (pc + 1) L st) : Wp E d mc ms K Q G cs pc L (.int x :: .int i :: .ref a :: st) := by
  intro p e s m args below meth c H locs ls C Rp S hl
  have hK := C.2.2.2.2.2.2.2.2.2.2.1
  have hc := (Rp.2 a _ hG).2
  refine W.iast C.1 C.2.1 hc ((hK.2 0 _ rfl).1 n (fun j => .int (f j))) (fun q => by cases q) (by show ¬ (i < 0 ∨ (arrV _ _ _).slots.size ≤ _); rw [arrV_size]; exact hin) rfl rfl hd fun H1 e z oq => ?_
  refine k p _ s m args below meth c H1 _ ls C (Rp.gs hG z ?_ oq) (S.put z oq (Rp.2 a _ hG).1) hl
  show H1[a]? = some (vp_cell _ _)
  rw [e]
  rw [vp_cell_i, vp_cell_i, arrV_store]
  congr 2
  funext q
  by_cases hq : q = i.toNatClampNeg
  · subst hq
    simp [updV, upd]
  · simp [updV, upd, hq]
theorem w_zastore {a n : Nat} {f : Nat → Int32} {i x : Int32} (hd : decode K.2.1 pc = .ok (.bastore, 1)) (hG : G.1 a = some (aZ n f)) (hin : vp_in i n) (k : Wp E d mc ms K Q (gs G a (aZ n (upd f i.toNatClampNeg (vp_nar .boolean x)))) cs (pc + 1) L st) : Wp E d mc ms K Q G cs pc L (.int x :: .int i :: .ref a :: st) := by
  intro p e s m args below meth c H locs ls C Rp S hl
  have hK := C.2.2.2.2.2.2.2.2.2.2.1
  have hc := (Rp.2 a _ hG).2
  refine W.zast C.1 C.2.1 hc ((hK.2 1 _ rfl).1 n (fun j => .int (f j))) (fun q => by cases q) (by show ¬ (i < 0 ∨ (arrV _ _ _).slots.size ≤ _); rw [arrV_size]; exact hin) rfl rfl hd fun H1 e z oq => ?_
  refine k p _ s m args below meth c H1 _ ls C (Rp.gs hG z ?_ oq) (S.put z oq (Rp.2 a _ hG).1) hl
  show H1[a]? = some (vp_cell _ _)
  rw [e]
  rw [vp_cell_i, vp_cell_i, arrV_store]
  congr 2
  funext q
  by_cases hq : q = i.toNatClampNeg
  · subst hq
    simp [updV, upd, vp_nar]
    try rfl
  · simp [updV, upd, hq]
theorem w_lastore {a n : Nat} {f : Nat → Int64} {i : Int32} {x : Int64} (hd : decode K.2.1 pc = .ok (.lastore, 1)) (hG : G.1 a = some (aJ n f)) (hin : vp_in i n) (k : Wp E d mc ms K Q (gs G a (aJ n (vp_updL f i.toNatClampNeg x))) cs (pc + 1) L st) : Wp E d mc ms K Q G cs pc L (.long x :: .int i :: .ref a :: st) := by
  intro p e s m args below meth c H locs ls C Rp S hl
  have hK := C.2.2.2.2.2.2.2.2.2.2.1
  have hc := (Rp.2 a _ hG).2
  refine W.last C.1 C.2.1 hc ((hK.2 2 _ rfl).1 n (fun j => .long (f j))) (fun q => by cases q) (by show ¬ (i < 0 ∨ (arrV _ _ _).slots.size ≤ _); rw [arrV_size]; exact hin) rfl rfl hd fun H1 e z oq => ?_
  refine k p _ s m args below meth c H1 _ ls C (Rp.gs hG z ?_ oq) (S.put z oq (Rp.2 a _ hG).1) hl
  show H1[a]? = some (vp_cell _ _)
  rw [e]
  rw [vp_cell_l, vp_cell_l, arrV_store]
  congr 2
  funext q
  by_cases hq : q = i.toNatClampNeg
  · subst hq
    simp [updV, vp_updL]
  · simp [updV, vp_updL, hq]
theorem w_aastore {a n v : Nat} {f : Nat → Option Nat} {vs : List Value} {i : Int32} (hd : decode K.2.1 pc = .ok (.aastore, 1)) (hG : G.1 a = some (aO n f)) (hV : G.1 v = some (oB 1 vs)) (hin : vp_in i n) (k : Wp E d mc ms K Q (gs G a (aO n (va_up f i.toNatClampNeg (some v)))) cs (pc + 1) L st) : Wp E d mc ms K Q G cs pc L (.ref v :: .int i :: .ref a :: st) := by
  intro p e s m args below meth c H locs ls C Rp S hl
  have hK := C.2.2.2.2.2.2.2.2.2.2.1
  have hc := (Rp.2 a _ hG).2
  have hlt : i.toNatClampNeg < n := Nat.not_le.mp fun q => hin (Or.inr q)
  have h0 : ¬ i < 0 := fun q => hin (Or.inl q)
  obtain ⟨r', hr', cellV, g1, g2, g3, -⟩ := (Rp.2 v _ hV).2
  have hcls := (hK.1 1 (RX1, TX1, 18) rfl).2
  obtain ⟨kA, comp, k1, k2, k3, -⟩ := (hK.2 3 _ rfl).2
  have hcomp : comp = (eD E).1 1 := Option.some.inj (k3.symm.trans hcls.1)
  subst hcomp
  obtain ⟨kC, hkC, -⟩ := hcls.2
  refine W.aast C.1 C.2.1 hc (fun q h => by cases h) (fun h => by cases h) k1 k2 rfl hkC ⟨h0, by show _ < (arrV _ _ _).slots.size; rw [arrV_size]; exact hlt⟩ g1 (fun q h => by rw [g3] at h; cases h) (by rw [g2]; exact hkC) (by rw [g2]; exact va_assign hcls) rfl rfl hd fun H1 e z oq => ?_
  refine k p _ s m args below meth c H1 _ ls C (Rp.gs hG z ?_ oq) (S.put z oq (Rp.2 a _ hG).1) hl
  show H1[a]? = some (vp_cell _ _)
  rw [e]
  rw [vp_cell_q, vp_cell_q, arrV_store]
  congr 2
  funext q
  by_cases hq : q = i.toNatClampNeg
  · subst hq
    simp [updV, va_up, va_rf]
  · simp [updV, va_up, hq]
theorem w_new {idx ci : Nat} {q : vw_C} {fs : List Value} (hd : decode K.2.1 pc = .ok (.new idx, 3)) (hq : vwCl[ci]? = some q) (hl1 : Cond.classLink K.1.cls idx q.1 ∈ LW) (hl2 : Cond.instantiable q.1 q.2.2 ∈ LW) (hl3 : Cond.initialized q.1 ∈ LW) (hf : ∀ (j : Nat) (ty : FieldType), j < q.2.2 → parseFieldDescriptor (q.2.1 j).2.2.1 = some ty → defaultValue ty = vp_V fs j) (hb : eB E ≤ G.2) (h1 : cs.1 + 1 ≤ mc) (h2 : cs.2 + q.2.2 ≤ ms) (k : Wp E d mc ms K Q (gn G (oB ci fs)) (cs.1 + 1, cs.2 + q.2.2) (pc + 3) L (.ref G.2 :: st)) : Wp E d mc ms K Q G cs pc L st := by
  intro p e s m args below meth c H locs ls C Rp S hl
  obtain ⟨x1, x2, x3, x4, hts, hown, x7, x8, x9, hE⟩ := id C
  have hKn := hE.2.1.1 ci _ hq
  obtain ⟨hin, ty0, hty, hnm⟩ := cl_in ci q hq
  refine W.newcK x1 x2 hown (hts _ hl1) (hts _ hl2) (hts _ hl3) rfl hd h1 h2 hKn.2.1 Rp.1 fun H1 kC hkC e1 z1 o1 => ?_
  refine k p _ s m args below meth c H1 _ ls C (Rp.gn hb z1 ⟨_, hq, (u_born ty0 hts hin hKn hkC e1 hty).to fun j hj => hf j _ hj (hty j hj)⟩ o1) ⟨Nat.le_trans S.1 (by rw [Rp.1, z1]; omega), fun x g1 g2 => (o1 x (Nat.lt_of_lt_of_le g1 (by rw [← Rp.1]; exact S.1))).trans (S.2.1 x g1 g2), S.2.2⟩ hl
theorem arr_cls {i : Nat} {ty : FieldType} {s : State} {cA : ClassId} (hK : va_K (eD E) vwCl (tysE E) s) (h : (tysE E)[i]? = some (eY E i, ty)) (hp : ∀ C, ty ≠ .object C) (hf : s.vm.findClass ("[" ++ ty.toString) = some cA) : cA = eY E i := by
  have h2 := (hK.2 i _ h).2
  unfold va_RA at h2
  cases ty with
  | object C => exact absurd rfl (hp C)
  | _ => exact Option.some.inj (hf.symm.trans h2)
theorem w_newI {n : Int32} {N : Nat} (hd : decode K.2.1 pc = .ok (.newarray .int, 2)) (hw : Cond.arrayClass .int ∈ LW) (hn : ¬ n < 0) (hN : n.toNatClampNeg = N) (hbig : N * componentBytes .int ≤ 536870912) (hb : eB E ≤ G.2) (h1 : cs.1 + 1 ≤ mc) (h2 : cs.2 + N ≤ ms) (k : Wp E d mc ms K Q (gn G (aI N (fun _ => 0))) (cs.1 + 1, cs.2 + N) (pc + 2) L (.ref G.2 :: st)) : Wp E d mc ms K Q G cs pc L (.int n :: st) := by
  intro p e s m args below meth c H locs ls C Rp S hl
  obtain ⟨x1, x2, x3, x4, hts, hown, x7, x8, x9, hE⟩ := id C
  refine va_newaK x1 x2 (atype := .int) (hts _ hw) rfl hd rfl hn hN hbig h1 h2 Rp.1 fun H1 cA e1 z1 o1 hAr hNm => ?_
  have hc : cA = eY E 0 := arr_cls hE.2.1 (i := 0) rfl (fun _ h => by cases h) hNm
  subst hc
  refine k p _ s m args below meth c H1 _ ls C (Rp.gn hb z1 (by show H1[G.2]? = some (vp_cell _ _); rw [e1]; rfl) o1) ⟨Nat.le_trans S.1 (by rw [Rp.1, z1]; omega), fun x g1 g2 => (o1 x (Nat.lt_of_lt_of_le g1 (by rw [← Rp.1]; exact S.1))).trans (S.2.1 x g1 g2), S.2.2⟩ hl
theorem w_newZ {n : Int32} {N : Nat} (hd : decode K.2.1 pc = .ok (.newarray .boolean, 2)) (hw : Cond.arrayClass .boolean ∈ LW) (hn : ¬ n < 0) (hN : n.toNatClampNeg = N) (hbig : N * componentBytes .boolean ≤ 536870912) (hb : eB E ≤ G.2) (h1 : cs.1 + 1 ≤ mc) (h2 : cs.2 + N ≤ ms) (k : Wp E d mc ms K Q (gn G (aZ N (fun _ => 0))) (cs.1 + 1, cs.2 + N) (pc + 2) L (.ref G.2 :: st)) : Wp E d mc ms K Q G cs pc L (.int n :: st) := by
  intro p e s m args below meth c H locs ls C Rp S hl
  obtain ⟨x1, x2, x3, x4, hts, hown, x7, x8, x9, hE⟩ := id C
  refine va_newaK x1 x2 (atype := .boolean) (hts _ hw) rfl hd rfl hn hN hbig h1 h2 Rp.1 fun H1 cA e1 z1 o1 hAr hNm => ?_
  have hc : cA = eY E 1 := arr_cls hE.2.1 (i := 1) rfl (fun _ h => by cases h) hNm
  subst hc
  refine k p _ s m args below meth c H1 _ ls C (Rp.gn hb z1 (by show H1[G.2]? = some (vp_cell _ _); rw [e1]; rfl) o1) ⟨Nat.le_trans S.1 (by rw [Rp.1, z1]; omega), fun x g1 g2 => (o1 x (Nat.lt_of_lt_of_le g1 (by rw [← Rp.1]; exact S.1))).trans (S.2.1 x g1 g2), S.2.2⟩ hl
theorem w_newJ {n : Int32} {N : Nat} (hd : decode K.2.1 pc = .ok (.newarray .long, 2)) (hw : Cond.arrayClass .long ∈ LW) (hn : ¬ n < 0) (hN : n.toNatClampNeg = N) (hbig : N * componentBytes .long ≤ 536870912) (hb : eB E ≤ G.2) (h1 : cs.1 + 1 ≤ mc) (h2 : cs.2 + N ≤ ms) (k : Wp E d mc ms K Q (gn G (aJ N (fun _ => 0))) (cs.1 + 1, cs.2 + N) (pc + 2) L (.ref G.2 :: st)) : Wp E d mc ms K Q G cs pc L (.int n :: st) := by
  intro p e s m args below meth c H locs ls C Rp S hl
  obtain ⟨x1, x2, x3, x4, hts, hown, x7, x8, x9, hE⟩ := id C
  refine va_newaK x1 x2 (atype := .long) (hts _ hw) rfl hd rfl hn hN hbig h1 h2 Rp.1 fun H1 cA e1 z1 o1 hAr hNm => ?_
  have hc : cA = eY E 2 := arr_cls hE.2.1 (i := 2) rfl (fun _ h => by cases h) hNm
  subst hc
  refine k p _ s m args below meth c H1 _ ls C (Rp.gn hb z1 (by show H1[G.2]? = some (vp_cell _ _); rw [e1]; rfl) o1) ⟨Nat.le_trans S.1 (by rw [Rp.1, z1]; omega), fun x g1 g2 => (o1 x (Nat.lt_of_lt_of_le g1 (by rw [← Rp.1]; exact S.1))).trans (S.2.1 x g1 g2), S.2.2⟩ hl
/-- the answers -/
theorem w_iret {v : Int32} (hd : decode K.2.1 pc = .ok (.ireturn, 1)) (hr : K.2.2.2.1 = some .int) (h1 : cs.1 ≤ mc) (h2 : cs.2 ≤ ms) (h : Q (.inl (some (.int v))) G) : Wp E d mc ms K Q G cs pc L [.int v] := fun p e s m args below meth c H locs ls C Rp S hl =>
  W.widen h1 h2 (vx_ret (W.iret C.1 C.2.1 (C.2.2.1.trans hr) (fun t ht _ => ⟨⟨_, G, rfl, h, by rw [ht]; exact Rp⟩, S.F ht⟩) S.2.2 hd C.2.2.2.2.2.2.1))
theorem w_zret {v : Int32} (hd : decode K.2.1 pc = .ok (.ireturn, 1)) (hr : K.2.2.2.1 = some .boolean) (hn : narrow .boolean (.int v) = .int v) (h1 : cs.1 ≤ mc) (h2 : cs.2 ≤ ms) (h : Q (.inl (some (.int v))) G) : Wp E d mc ms K Q G cs pc L [.int v] := fun p e s m args below meth c H locs ls C Rp S hl =>
  W.widen h1 h2 (vx_ret (W.zret C.1 C.2.1 (C.2.2.1.trans hr) hn (fun t ht _ => ⟨⟨_, G, rfl, h, by rw [ht]; exact Rp⟩, S.F ht⟩) S.2.2 hd C.2.2.2.2.2.2.1))
theorem w_lret {v : Int64} (hd : decode K.2.1 pc = .ok (.lreturn, 1)) (hr : K.2.2.2.1 = some .long) (h1 : cs.1 ≤ mc) (h2 : cs.2 ≤ ms) (h : Q (.inl (some (.long v))) G) : Wp E d mc ms K Q G cs pc L [.long v] := fun p e s m args below meth c H locs ls C Rp S hl =>
  W.widen h1 h2 (vx_ret (W.lret C.1 C.2.1 (C.2.2.1.trans hr) (fun t ht _ => ⟨⟨_, G, rfl, h, by rw [ht]; exact Rp⟩, S.F ht⟩) S.2.2 hd C.2.2.2.2.2.2.1))
theorem w_vret (hd : decode K.2.1 pc = .ok (.return_, 1)) (hr : K.2.2.2.1 = none) (h1 : cs.1 ≤ mc) (h2 : cs.2 ≤ ms) (h : Q (.inl none) G) : Wp E d mc ms K Q G cs pc L [] := fun p e s m args below meth c H locs ls C Rp S hl =>
  W.widen h1 h2 (vx_ret (W.vret C.1 C.2.1 (C.2.2.1.trans hr) (fun t ht _ => ⟨⟨_, G, rfl, h, by rw [ht]; exact Rp⟩, S.F ht⟩) S.2.2 hd C.2.2.2.2.2.2.1))
theorem w_objInit {idx a : Nat} (hd : decode K.2.1 pc = .ok (.invokespecial idx, 3)) (hl1 : Cond.methodLink K.1.cls idx Lib.objectInit ∈ LW) (hl2 : Cond.instanceMethod Lib.objectInit ∈ LW) (hl3 : Cond.code Lib.objectInit ⟨#[0xb1]⟩ 1 none ∈ LW) (hd1 : 1 ≤ d) (hst : (st.map fun v => v.category).sum ≤ 8) (k : Wp E d mc ms K Q G cs (pc + 3) L st) : Wp E d mc ms K Q G cs pc L (.ref a :: st) := by
  intro p e s m args below meth c H locs ls C Rp S hl
  refine W.objInit C.1 C.2.1 C.2.2.2.2.2.1 (C.2.2.2.2.1 _ hl1) (C.2.2.2.2.1 _ hl2) (C.2.2.2.2.1 _ hl3) rfl (by rw [C.2.2.2.1]; exact hl.1) rfl hd hd1 ?_ ?_
  · have := lv_room (m := m) (pc := pc) (ls := ls) (rest := .ref a :: st) (st := st) hst
    show _ ≤ 64 * d
    omega
  · exact W.eq (g2 := F0 m (pc + 3) ls st) rfl (k p e s m args below meth c H locs ls C Rp S hl)
/-- a constant text -/
theorem w_ldcS {i : Nat} {q : String × Nat × String × List Int32} (hi : strT[i]? = some q) (ho : q.1 = K.1.cls) (hd : decode K.2.1 pc = .ok (.ldc q.2.1, 2)) (k : Wp E d mc ms K Q G cs (pc + 2) L (.ref (eK E i) :: st)) : Wp E d mc ms K Q G cs pc L st := fun p e s m args below meth c H locs ls C Rp S hl =>
  va_ldcS C.1 C.2.1 (own := q.1) (by rw [ho]; exact C.2.2.2.2.2.1) (C.2.2.2.2.2.2.2.2.2.2.2.2.2.2.1 i q hi).1 hd (k p e s m args below meth c H locs ls C Rp S hl)
/-- 'throw new X("text")' -/
theorem w_throw {ik is_ ic i : Nat} {q : String × Nat × String × List Int32} {X : String} {names : List String} (hi : strT[i]? = some q) (ho : q.1 = K.1.cls) (hX : Bundle.fit X = true) (hnames : ∀ n ∈ names, Bundle.fit n = true) (hk : Cond.classLink K.1.cls ik X ∈ LW) (hini : Cond.initialized X ∈ LW) (hat : ∀ w ∈ vx_atS K.1.cls ic X names, w ∈ LW ∨ w ∈ NW) (his : q.2.1 = is_)
    (d0 : decode K.2.1 pc = .ok (.new ik, 3)) (d3 : decode K.2.1 (pc + 3) = .ok (.dup, 1)) (d4 : decode K.2.1 (pc + 4) = .ok (.ldc is_, 2)) (d6 : decode K.2.1 (pc + 6) = .ok (.invokespecial ic, 3)) (d9 : decode K.2.1 (pc + 9) = .ok (.athrow, 1))
    (hh : K.2.2.2.2 = []) (hd1 : names.length + 3 < d) (hd2 : (st.map fun v => v.category).sum + (13 * (names.length + 1) + 43) ≤ 64 * d) (h1 : cs.1 + 1 ≤ mc) (h2 : cs.2 + 6 ≤ ms) (h : ∀ n, G.2 ≤ n → Q (.inr X) (G.1, n)) : Wp E d mc ms K Q G cs pc L st := by
  intro p e s m args below meth c H locs ls C Rp S hl
  obtain ⟨x1, x2, x3, x4, hts, hown, x7, x8, x9, hE⟩ := id C
  subst his
  have hlw : ∀ w ∈ LW, goodWord w = true := fun w hw => (List.mem_filter.mp hw).2
  have hvx : ∀ w ∈ LW, vx_ot w = true := fun w hw => by unfold vx_ot; rw [hlw w hw, Bool.or_true]
  refine vx_throwS x1 x2 hE.1 (own := K.1.cls) (names := names) (A := eA E) hown hX hnames (hts _ hk) (hts _ hini) (by rw [← ho]; exact (hE.2.2.2.2.2.1 i q hi).1) (fun w hw => (hat w hw).elim (hts w) (fun h9 => va_Nw.use (nw_tabs h9) (hE.2.2.1 _ h9))) (fun w hw => ?_) hE.2.2.2.1 hE.2.2.2.2.1 S (by rw [x4]; exact hl.1) d0 d3 d4 d6 d9 (by rw [x8, hh]; intro x hx; cases hx) hd1 hd2 h1 h2 x7 ?_ S.2.2 h1 h2
  · rcases List.mem_cons.mp hw with rfl | hw
    · exact hvx _ hk
    · rcases List.mem_cons.mp hw with rfl | hw
      · exact hvx _ hini
      · exact (hat w hw).elim (hvx _) (fun h9 => by unfold vx_ot; rw [nw_tabs h9, Bool.true_or])
  · intro t _ hz hq
    refine ⟨⟨(G.1, t.heap.size), h _ (by rw [← Rp.1]; exact hz), rfl, fun a x hx => ?_⟩, Nat.le_trans S.1 hz, fun a g1 g2 => (hq a (Nat.lt_of_lt_of_le g1 S.1)).trans (S.2.1 a g1 g2)⟩
    have hlt : a < H.size := by rw [Rp.1]; exact va_at_lt Rp hx
    exact ⟨(Rp.2 a x hx).1, (Rp.2 a x hx).2.kept (hq a hlt)⟩
theorem w_throwW {ik is_ ic i : Nat} {q : String × Nat × String × List Int32} {X : String} {names : List String} (hi : strT[i]? = some q) (ho : q.1 = K.1.cls) (hX : Bundle.fit X = true) (hnames : ∀ n ∈ names, Bundle.fit n = true) (hk : Cond.classLink K.1.cls ik X ∈ LW) (hini : Cond.initialized X ∈ LW) (hat : ∀ w ∈ vx_atS K.1.cls ic X names, w ∈ LW ∨ w ∈ NW) (his : q.2.1 = is_)
    (d0 : decode K.2.1 pc = .ok (.new ik, 3)) (d3 : decode K.2.1 (pc + 3) = .ok (.dup, 1)) (d4 : decode K.2.1 (pc + 4) = .ok (.ldc_w is_, 3)) (d7 : decode K.2.1 (pc + 7) = .ok (.invokespecial ic, 3)) (d10 : decode K.2.1 (pc + 10) = .ok (.athrow, 1))
    (hh : K.2.2.2.2 = []) (hd1 : names.length + 3 < d) (hd2 : (st.map fun v => v.category).sum + (13 * (names.length + 1) + 43) ≤ 64 * d) (h1 : cs.1 + 1 ≤ mc) (h2 : cs.2 + 6 ≤ ms) (h : ∀ n, G.2 ≤ n → Q (.inr X) (G.1, n)) : Wp E d mc ms K Q G cs pc L st := by
  intro p e s m args below meth c H locs ls C Rp S hl
  obtain ⟨x1, x2, x3, x4, hts, hown, x7, x8, x9, hE⟩ := id C
  subst his
  have hlw : ∀ w ∈ LW, goodWord w = true := fun w hw => (List.mem_filter.mp hw).2
  have hvx : ∀ w ∈ LW, vx_ot w = true := fun w hw => by unfold vx_ot; rw [hlw w hw, Bool.or_true]
  refine vx_throwSW x1 x2 hE.1 (own := K.1.cls) (names := names) (A := eA E) hown hX hnames (hts _ hk) (hts _ hini) (by rw [← ho]; exact (hE.2.2.2.2.2.1 i q hi).1) (fun w hw => (hat w hw).elim (hts w) (fun h9 => va_Nw.use (nw_tabs h9) (hE.2.2.1 _ h9))) (fun w hw => ?_) hE.2.2.2.1 hE.2.2.2.2.1 S (by rw [x4]; exact hl.1) d0 d3 d4 d7 d10 (by rw [x8, hh]; intro x hx; cases hx) hd1 hd2 h1 h2 x7 ?_ S.2.2 h1 h2
  · rcases List.mem_cons.mp hw with rfl | hw
    · exact hvx _ hk
    · rcases List.mem_cons.mp hw with rfl | hw
      · exact hvx _ hini
      · exact (hat w hw).elim (hvx _) (fun h9 => by unfold vx_ot; rw [nw_tabs h9, Bool.true_or])
  · intro t _ hz hq
    refine ⟨⟨(G.1, t.heap.size), h _ (by rw [← Rp.1]; exact hz), rfl, fun a x hx => ?_⟩, Nat.le_trans S.1 hz, fun a g1 g2 => (hq a (Nat.lt_of_lt_of_le g1 S.1)).trans (S.2.1 a g1 g2)⟩
    have hlt : a < H.size := by rw [Rp.1]; exact va_at_lt Rp hx
    exact ⟨(Rp.2 a x hx).1, (Rp.2 a x hx).2.kept (hq a hlt)⟩
/-- System.arraycopy between int rows -/
theorem w_copy {idx a0 a1 n0 n1 : Nat} {f g : Nat → Int32} {sp dp n : Int32} (hd : decode K.2.1 pc = .ok (.invokestatic idx, 3)) (hl1 : Cond.methodLink K.1.cls idx arraycopyName ∈ LW) (hl2 : Cond.native arraycopyName ∈ LW) (hl3 : Cond.static arraycopyName ∈ LW) (hl4 : Cond.initialized "java/lang/System" ∈ LW) (h0 : G.1 a0 = some (aI n0 f)) (h1 : G.1 a1 = some (aI n1 g)) (g1 : ¬ sp < 0) (g2 : ¬ dp < 0) (g3 : ¬ n < 0) (g4 : sp.toNatClampNeg + n.toNatClampNeg ≤ n0) (g5 : dp.toNatClampNeg + n.toNatClampNeg ≤ n1) (hd1 : 1 ≤ d) (hd2 : (st.map fun v => v.category).sum + (nativeFrameWords "java/lang/System" "arraycopy" 5 + 11) ≤ 64 * d) (k : Wp E d mc ms K Q (gs G a1 (aI n1 (va_cpy f g sp.toNatClampNeg dp.toNatClampNeg n.toNatClampNeg))) cs (pc + 3) L st) : Wp E d mc ms K Q G cs pc L (.int n :: .int dp :: .ref a1 :: .int sp :: .ref a0 :: st) := by
  intro p e s m args below meth c H locs ls C Rp S hl
  obtain ⟨x1, x2, x3, x4, hts, hown, x7, x8, x9, hE⟩ := id C
  have hK := hE.2.1
  have nn : ∀ z : Int32, ¬ z < 0 → z.toInt = (z.toNatClampNeg : Int) := by
    intro z hz
    have hz0 : (0 : Int) ≤ z.toInt := by
      have := Int32.not_lt.mp hz
      simpa using Int32.le_iff_toInt_le.mp this
    show z.toInt = ((z.toInt.toNat : Nat) : Int)
    omega
  have hc0 : H[a0]? = some (vp_cell (eY E 0) (n0, .inl f)) := (Rp.2 _ _ h0).2
  have hc1 : H[a1]? = some (vp_cell (eY E 0) (n1, .inl g)) := (Rp.2 _ _ h1).2
  have hb1 : eB E ≤ a1 := (Rp.2 _ _ h1).1
  obtain ⟨-, k0, hk0, cm0, hkk0⟩ := (hK.2 0 _ rfl).1 n0 (fun j => .int (f j))
  obtain ⟨-, k1, hk1, cm1, hkk1⟩ := (hK.2 0 _ rfl).1 n1 (fun j => .int (g j))
  intro T hT X
  obtain ⟨vm', X', step⟩ := X.arraycopy x1 hown (hts _ hl1) (hts _ hl2) (hts _ hl3) (hts _ hl4) (src := a0) (dst := a1) (cs := vp_cell (eY E 0) (n0, .inl f)) (cd := vp_cell (eY E 0) (n1, .inl g)) (srcPos := sp) (destPos := dp) (n := n) (by rw [hT]; exact hc0) (by rw [hT]; exact hc1)
    (fun _ h => by cases h) (fun _ h => by cases h) (fun h => by cases h) (fun h => by cases h) hk0 hk1 hkk0 hkk1 (by simp [refKind]) g1 g2 g3
    (by rw [nn sp g1, nn n g3]; show ¬ _ > ((arrV (eY E 0) n0 (fun j => .int (f j))).slots.size : Int); rw [arrV_size]; omega)
    (by rw [nn dp g2, nn n g3]; show ¬ _ > ((arrV (eY E 0) n1 (fun j => .int (g j))).slots.size : Int); rw [arrV_size]; omega)
    (fun vm₁ _ i hi => by
      have e9 : (vp_cell (eY E 0) (n0, .inl f)).slots.getD (sp.toNatClampNeg + i) .null = .int (f (sp.toNatClampNeg + i)) := by
        show (arrV (eY E 0) n0 (fun j => .int (f j))).slots.getD _ _ = _
        rw [Array.getD_eq_getD_getElem?, arrV_read _ _ (by omega)]
        rfl
      rw [e9]
      exact ⟨rfl, trivial⟩)
    (g := F0 m pc ls (.int n :: .int dp :: .ref a1 :: .int sp :: .ref a0 :: st)) rfl (by rw [x4]; exact hl.1) (rest := st) rfl (by rw [x2]; exact hd) hd1 (by show 2 * 0 + (st.map fun v => v.category).sum + (nativeFrameWords "java/lang/System" "arraycopy" 5 + 11) ≤ 64 * d; omega)
  have e1 : copied (vp_cell (eY E 0) (n0, .inl f)) (vp_cell (eY E 0) (n1, .inl g)) sp dp n = vp_cell (eY E 0) (n1, .inl (va_cpy f g sp.toNatClampNeg dp.toNatClampNeg n.toNatClampNeg)) := va_copied (fun z => .int z) (eY E 0) (eY E 0) f g g4
  rw [e1] at X' step
  have hlt : a1 < H.size := (Array.getElem?_eq_some_iff.mp hc1).1
  have hheap : ((T.setVm vm').setCell a1 (vp_cell (eY E 0) (n1, .inl (va_cpy f g sp.toNatClampNeg dp.toNatClampNeg n.toNatClampNeg)))).heap = H.setIfInBounds a1 (vp_cell (eY E 0) (n1, .inl (va_cpy f g sp.toNatClampNeg dp.toNatClampNeg n.toNatClampNeg))) := by rw [← hT]; rfl
  have oq : ∀ q : Nat, q ≠ a1 → (H.setIfInBounds a1 (vp_cell (eY E 0) (n1, .inl (va_cpy f g sp.toNatClampNeg dp.toNatClampNeg n.toNatClampNeg))))[q]? = H[q]? := fun q hq => by simp [Array.getElem?_setIfInBounds, Ne.symm hq]
  obtain ⟨t, r1, r2⟩ := k p e s m args below meth c _ _ ls C (Rp.gs h1 (by simp) (show (H.setIfInBounds a1 _)[a1]? = some _ by simp [Array.getElem?_setIfInBounds, hlt]) oq) ⟨by simp; exact S.1, fun q y1 y2 => by
      rw [oq q (fun e => y2 (by rw [e]; exact hb1))]
      exact S.2.1 q y1 y2, fun q hq => by
      rcases List.mem_append.mp hq with h | h
      · exact S.2.2 q h
      · obtain ⟨z, -, hz⟩ := List.mem_map.mp h
        rw [← hz]
        exact hb1⟩ hl _ hheap X'
  exact ⟨t, step t r1, r2⟩
/-- what the tables say of a method that is called: its words, its number of arguments -/
def MK (K : MR) (n : Nat) : Prop := cwK K ∈ LW ∧ (K.1.cls ≠ "java/lang/invoke/MethodHandle" ∧ K.1.cls ≠ "java/lang/invoke/VarHandle" ∧ (parseMethodDescriptor K.1.desc).map (fun d => d.parameters.length) = some n) ∧ K.2.2.1 ≤ 45 ∧ Cond.initialized K.1.cls ∈ LW
def LkS (own : String) (idx : Nat) (K : MR) (n : Nat) : Prop := K.1.cls = own ∧ Cond.methodLink own idx K.1 ∈ LW ∧ Cond.static K.1 ∈ LW ∧ MK K n
def LkN (own : String) (idx : Nat) (K : MR) (n : Nat) : Prop := (∃ host, Cond.methodLinkNest own idx K.1 host ∈ NW) ∧ Cond.static K.1 ∈ LW ∧ MK K n
def LkV (own : String) (idx : Nat) (K : MR) (n : Nat) : Prop := Cond.methodLink own idx K.1 ∈ LW ∧ Cond.instanceMethod K.1 ∈ LW ∧ Cond.selects K.1.cls K.1 K.1 ∈ LW ∧ MK K n
def LkI (own : String) (idx : Nat) (K : MR) (n : Nat) : Prop := (Cond.methodLink own idx K.1 ∈ LW ∨ ∃ host, Cond.methodLinkNest own idx K.1 host ∈ NW) ∧ Cond.instanceMethod K.1 ∈ LW ∧ K.1.name = "<init>" ∧ K.2.2.2.1 = none ∧ MK K n
/-- a static method of another class (Math, Integer) by an ordinary link -/
def LkJ (own : String) (idx : Nat) (K : MR) (n : Nat) : Prop := Cond.methodLink own idx K.1 ∈ LW ∧ Cond.static K.1 ∈ LW ∧ MK K n
theorem goodIn_LW {ws : List Cond} (h : ∀ w ∈ ws, w ∈ LW) : GoodIn LW ws := fun w hw => ⟨h w hw, good_of_word (List.mem_filter.mp (h w hw)).2⟩
theorem pc_blind {args : List Value} : FrameBlind (va_Pc args (fun U => EOK E U ∧ Rep E G U.heap)) := fun a U g mk q => ⟨q.1, EOK.moved (s := U) (U := U.calling g mk a) (State.WarmedH.refl U) (fun _ _ _ => rfl) (Nat.le_refl _) q.2.1, q.2.2⟩
theorem pc_at {s : State} {H : Heap} {locs : List Loc} {args : List Value} (hE : EOK E s) (Rp : Rep E G H) (S : va_S (eA E) s.heap H locs) : ∀ U : State, U.heap = H → s.WarmedH U.vm → va_Pc args (fun U => EOK E U ∧ Rep E G U.heap) args.toArray U := fun U hU hW =>
  ⟨rfl, EOK.moved hW (fun a h1 h2 => by rw [hU]; exact S.2.1 a h1 h2) (by rw [hU]; exact S.1) hE, by rw [hU]; exact Rp⟩
theorem wp_call {p : Program} {e : Env} {s : State} {m : MethodId} {args : Array Value} {below : List Frame} {meth : Method} {c : Code} {H : Heap} {locs : List Loc} {ls : Array Slot} {Q' : OC → AH → Prop} {mc' ms' : Nat} {rest : List Value} {a : Array Value}
    (hr : vx_Run p (eL E) e (rmC d mc ms) s m args below meth c H locs cs.1 cs.2 mc' ms' (F0 m pc ls st) rest (QcO E Q' a) (XcO E Q') (eA E)) (C : CxO E K p s m args meth c) (S : va_S (eA E) s.heap H locs) (hl : LHas ls K.2.2.1 L)
    (kk : ∀ (v : Option Value) (G' : AH), Q' (.inl v) G' → Wp E d mc ms K Q G' (cs.1 + mc', cs.2 + ms') (pc + 3) L (v.toList ++ rest))
    (kx : ∀ (X : String) (G' : AH), Q' (.inr X) G' → Wx E d mc ms K Q G' (cs.1 + mc', cs.2 + ms') pc L X) : W p (eL E) e (rmC d mc ms) s m args below meth c H locs cs.1 cs.2 (vx_MQ below (QcO E Q) (XcO E Q) args s mc ms (eA E)) (F0 m pc ls st) := by
  intro T hT X
  rcases hr T hT X with ⟨v, st₀, t, T', L1, h0, X', hL, e1, e2, ⟨⟨v', G', hv, hq, hR⟩, hF⟩, st9⟩ | ⟨q, st₀, t, T', L1, X0, ce, h0, X', hL, e1, e2, ⟨⟨G', hq, hR⟩, hF⟩, hce, hcv, hcl, st9⟩
  · cases hv
    obtain ⟨k1, k2, k3⟩ := vx_keep h0 e1 S (fun _ _ h => h) (fun _ h => h) hL hF
    obtain ⟨t2, a1, b1⟩ := kk v G' hq p e s m args below meth c T'.heap _ ls C (by rw [e1]; exact hR) k3 hl T' rfl X'
    exact ⟨t2, st9 t2 a1, b1⟩
  · obtain ⟨k1, k2, k3⟩ := vx_keep h0 e1 S (fun _ _ h => h) (fun _ h => h) hL hF
    obtain ⟨t2, a1, b1⟩ := kx X0 G' hq p e s m args below meth c T'.heap _ ls q ce rest C (by rw [e1]; exact hR) k3 hl (by rw [e1]; exact hce) hcv hcl T' rfl X'
    exact ⟨t2, st9.trans a1, b1⟩
theorem Ct.met {K' : MR} {d' mc' ms' : Nat} {As : List Value} {Q' : OC → AH → Prop} (h : Ct E d' mc' ms' K' As G Q') (hn : ∀ X G', ¬ Q' (.inr X) G') : Met (eL E) K'.1 (cwK K' :: LW) (rmC d' mc' ms') (va_Pc As (fun U => EOK E U ∧ Rep E G U.heap)) (QcO E Q') mc' ms' (eA E) :=
  MetFree.mono h (fun _ _ h => h) (fun _ _ _ _ _ h => h) (fun a s o t _ hq => by
    rcases hq with hq | ⟨q, -, X, ce, L1, ⟨⟨G', hq, -⟩, -⟩, -⟩
    · exact hq
    · exact absurd hq (hn X G'))
theorem run_of {p : Program} {l : Launch} {e : Env} {R : Room} {s : State} {m : MethodId} {args : Array Value} {below : List Frame} {meth : Method} {c : Code} {H : Heap} {locs : List Loc} {cells slots mc' ms' : Nat} {g : JFrame} {rest : List Value} {Qa : State → Outcome → State → Prop} {XC : String → State → State → Prop} {free : Addr → Prop}
    (h : va_Run p l e R s m args below meth c H locs cells slots mc' ms' g rest Qa free) : vx_Run p l e R s m args below meth c H locs cells slots mc' ms' g rest Qa XC free := fun T hT X => Or.inl (h T hT X)
theorem MK.room {K' : MR} {n d' : Nat} (h : MK K' n) (hd : d' + 1 ≤ d) : (rmC d' 0 0).frames + 1 ≤ (rmC d mc ms).frames ∧ 8 + (K'.2.2.1 + 11) + (rmC d' 0 0).locals ≤ (rmC d mc ms).locals := by
  refine ⟨hd, ?_⟩
  show 8 + (K'.2.2.1 + 11) + 64 * d' ≤ 64 * d
  have := h.2.2.1
  omega
theorem gs_sum {rest : List Value} {m : MethodId} {ls : Array Slot} (h : (rest.map fun v => v.category).sum ≤ 8) : 2 * (F0 m pc ls st).monitorRoom + (rest.map fun v => v.category).sum ≤ 8 := lv_room h
theorem wc_S {idx n d' mc' ms' : Nat} {K' : MR} {As rest : List Value} {Q' : OC → AH → Prop} (hd : decode K.2.1 pc = .ok (.invokestatic idx, 3)) (lk : LkS K.1.cls idx K' n) (hh : K'.2.2.2.2 = []) (hn : As.length = n) (hd1 : d' + 1 ≤ d) (hc : Ct E d' mc' ms' K' As G Q') (hst : st = As.reverse ++ rest) (hw : (rest.map fun v => v.category).sum ≤ 8) (h1 : cs.1 + mc' ≤ mc) (h2 : cs.2 + ms' ≤ ms)
    (kk : ∀ (v : Option Value) (G' : AH), Q' (.inl v) G' → Wp E d mc ms K Q G' (cs.1 + mc', cs.2 + ms') (pc + 3) L (v.toList ++ rest))
    (kx : ∀ (X : String) (G' : AH), Q' (.inr X) G' → Wx E d mc ms K Q G' (cs.1 + mc', cs.2 + ms') pc L X) : Wp E d mc ms K Q G cs pc L st := by
  intro p e s m args below meth c H locs ls C Rp S hl
  obtain ⟨x1, x2, x3, x4, hts, hown, x7, x8, x9, hE⟩ := id C
  obtain ⟨l1, l2, l3, l4⟩ := lk
  have hcw : cwK K' = .code K'.1 K'.2.1 K'.2.2.1 K'.2.2.2.1 := by unfold cwK; rw [hh]
  have hG : GoodIn LW (wsS K.1.cls idx K'.1 (cwK K' :: LW)) := goodIn_LW (by
    intro w hw
    unfold wsS at hw
    simp only [List.cons_append, List.nil_append, List.mem_cons] at hw
    rcases hw with rfl | rfl | rfl | rfl | hw
    · exact l2
    · exact l3
    · rw [← l1]; exact l4.2.2.2
    · exact l4.1
    · exact hw)
  exact wp_call (vx_runS (cc := K.2.1) (nL := K.2.2.1) (Ts := LW) (own := K.1.cls) ⟨x1, x2, x4, hown, hts⟩ hc (cwS n hts hG (by rw [hcw]) rfl rfl ⟨l1, l4.2.1⟩ (l4.room (mc := mc) (ms := ms) hd1)) ⟨pc_blind, pc_at hE Rp S⟩ rfl hn hl.1 hst (gs_sum hw) hd ⟨h1, h2⟩) C S hl kk kx
theorem wc_J {idx n d' mc' ms' : Nat} {K' : MR} {As rest : List Value} {Q' : OC → AH → Prop} (hd : decode K.2.1 pc = .ok (.invokestatic idx, 3)) (lk : LkJ K.1.cls idx K' n) (hh : K'.2.2.2.2 = []) (hn : As.length = n) (hd1 : d' + 1 ≤ d) (hc : Ct E d' mc' ms' K' As G Q') (hst : st = As.reverse ++ rest) (hw : (rest.map fun v => v.category).sum ≤ 8) (h1 : cs.1 + mc' ≤ mc) (h2 : cs.2 + ms' ≤ ms)
    (kk : ∀ (v : Option Value) (G' : AH), Q' (.inl v) G' → Wp E d mc ms K Q G' (cs.1 + mc', cs.2 + ms') (pc + 3) L (v.toList ++ rest))
    (kx : ∀ (X : String) (G' : AH), Q' (.inr X) G' → Wx E d mc ms K Q G' (cs.1 + mc', cs.2 + ms') pc L X) : Wp E d mc ms K Q G cs pc L st := by
  intro p e s m args below meth c H locs ls C Rp S hl
  obtain ⟨x1, x2, x3, x4, hts, hown, x7, x8, x9, hE⟩ := id C
  obtain ⟨l2, l3, l4⟩ := lk
  have hcw : cwK K' = .code K'.1 K'.2.1 K'.2.2.1 K'.2.2.2.1 := by unfold cwK; rw [hh]
  have hG : GoodIn LW (cwK K' :: LW) := goodIn_LW (by
    intro w hw
    rcases List.mem_cons.mp hw with rfl | hw
    · exact l4.1
    · exact hw)
  exact wp_call (vx_runS (cc := K.2.1) (nL := K.2.2.1) (Ts := LW) (own := K.1.cls) ⟨x1, x2, x4, hown, hts⟩ hc ⟨callB_of n hts hG (by rw [hcw]) rfl rfl (hts _ l4.2.2.2) (hts _ l2) l4.2.1 (l4.room (mc := mc) (ms := ms) hd1), hts _ l3⟩ ⟨pc_blind, pc_at hE Rp S⟩ rfl hn hl.1 hst (gs_sum hw) hd ⟨h1, h2⟩) C S hl kk kx
theorem wc_X {idx n d' mc' ms' : Nat} {K' : MR} {As rest : List Value} {Q' : OC → AH → Prop} {h0 : Nat × Nat × Nat × Nat} {hs : List (Nat × Nat × Nat × Nat)} (hd : decode K.2.1 pc = .ok (.invokestatic idx, 3)) (lk : LkS K.1.cls idx K' n) (hh : K'.2.2.2.2 = h0 :: hs) (hn : As.length = n) (hd1 : d' + 1 ≤ d) (hc : Ct E d' mc' ms' K' As G Q') (hst : st = As.reverse ++ rest) (hw : (rest.map fun v => v.category).sum ≤ 8) (h1 : cs.1 + mc' ≤ mc) (h2 : cs.2 + ms' ≤ ms)
    (kk : ∀ (v : Option Value) (G' : AH), Q' (.inl v) G' → Wp E d mc ms K Q G' (cs.1 + mc', cs.2 + ms') (pc + 3) L (v.toList ++ rest))
    (kx : ∀ (X : String) (G' : AH), Q' (.inr X) G' → Wx E d mc ms K Q G' (cs.1 + mc', cs.2 + ms') pc L X) : Wp E d mc ms K Q G cs pc L st := by
  intro p e s m args below meth c H locs ls C Rp S hl
  obtain ⟨x1, x2, x3, x4, hts, hown, x7, x8, x9, hE⟩ := id C
  obtain ⟨l1, l2, l3, l4⟩ := lk
  have hcw : cwK K' = .codeWith K'.1 K'.2.1 K'.2.2.1 K'.2.2.2.1 K'.2.2.2.2 := by unfold cwK; rw [hh]
  have hG : GoodIn LW (va_wsS K.1.cls idx K'.1 (cwK K' :: LW)) := goodIn_LW (by
    intro w hw
    unfold va_wsS at hw
    simp only [List.cons_append, List.nil_append, List.mem_cons] at hw
    rcases hw with rfl | rfl | rfl | rfl | hw
    · exact l2
    · exact l3
    · exact l4.2.2.2
    · exact l4.1
    · exact hw)
  exact wp_call (vx_runSX (cc := K.2.1) (nL := K.2.2.1) (Ts := LW) (own := K.1.cls) (hh := K'.2.2.2.2) ⟨x1, x2, x4, hown, hts⟩ hc (vx_cwSW n hts hG (by rw [hcw]) rfl rfl l4.2.1 (l4.room (mc := mc) (ms := ms) hd1)) ⟨pc_blind, pc_at hE Rp S⟩ rfl hn hl.1 hst (gs_sum hw) hd ⟨h1, h2⟩) C S hl kk kx
theorem wc_N {idx n d' mc' ms' : Nat} {K' : MR} {As rest : List Value} {Q' : OC → AH → Prop} (hd : decode K.2.1 pc = .ok (.invokestatic idx, 3)) (lk : LkN K.1.cls idx K' n) (hh : K'.2.2.2.2 = []) (hn : As.length = n) (hd1 : d' + 1 ≤ d) (hc : Ct E d' mc' ms' K' As G Q') (hst : st = As.reverse ++ rest) (hw : (rest.map fun v => v.category).sum ≤ 8) (h1 : cs.1 + mc' ≤ mc) (h2 : cs.2 + ms' ≤ ms)
    (kk : ∀ (v : Option Value) (G' : AH), Q' (.inl v) G' → Wp E d mc ms K Q G' (cs.1 + mc', cs.2 + ms') (pc + 3) L (v.toList ++ rest))
    (kx : ∀ (X : String) (G' : AH), ¬ Q' (.inr X) G') : Wp E d mc ms K Q G cs pc L st := by
  intro p e s m args below meth c H locs ls C Rp S hl
  obtain ⟨x1, x2, x3, x4, hts, hown, x7, x8, x9, hE⟩ := id C
  obtain ⟨⟨host, l2⟩, l3, l4⟩ := lk
  have hcw : cwK K' = .code K'.1 K'.2.1 K'.2.2.1 K'.2.2.2.1 := by unfold cwK; rw [hh]
  have hG : GoodIn LW (cwK K' :: LW) := goodIn_LW (by
    intro w hw
    rcases List.mem_cons.mp hw with rfl | hw
    · exact l4.1
    · exact hw)
  exact wp_call (run_of (va_runSN (cc := K.2.1) (nL := K.2.2.1) (Ts := LW) (own := K.1.cls) (host := host) ⟨x1, x2, x4, hown, hts⟩ (hc.met kx) ⟨va_cnB n hts hG (by rw [hcw]) rfl rfl (hE.2.2.1 _ l2) (hts _ l4.2.2.2) l4.2.1 (l4.room (mc := mc) (ms := ms) hd1), hts _ l3, trivial⟩ ⟨pc_blind, pc_at hE Rp S⟩ rfl hn hl.1 hst (gs_sum hw) hd ⟨h1, h2⟩)) C S hl kk (fun X G' h => absurd h (kx X G'))
theorem wc_V {idx n d' mc' ms' a ci : Nat} {vs : List Value} {q : vw_C} {K' : MR} {As rest : List Value} {Q' : OC → AH → Prop} (hd : decode K.2.1 pc = .ok (.invokevirtual idx, 3)) (lk : LkV K.1.cls idx K' n) (hh : K'.2.2.2.2 = []) (hn : As.length = n) (hGa : G.1 a = some (oB ci vs)) (hq : vwCl[ci]? = some q) (hqc : q.1 = K'.1.cls) (hd1 : d' + 1 ≤ d) (hc : Ct E d' mc' ms' K' (.ref a :: As) G Q') (hst : st = As.reverse ++ .ref a :: rest) (hw : (rest.map fun v => v.category).sum ≤ 8) (h1 : cs.1 + mc' ≤ mc) (h2 : cs.2 + ms' ≤ ms)
    (kk : ∀ (v : Option Value) (G' : AH), Q' (.inl v) G' → Wp E d mc ms K Q G' (cs.1 + mc', cs.2 + ms') (pc + 3) L (v.toList ++ rest))
    (kx : ∀ (X : String) (G' : AH), Q' (.inr X) G' → Wx E d mc ms K Q G' (cs.1 + mc', cs.2 + ms') pc L X) : Wp E d mc ms K Q G cs pc L st := by
  intro p e s m args below meth c H locs ls C Rp S hl
  obtain ⟨x1, x2, x3, x4, hts, hown, x7, x8, x9, hE⟩ := id C
  obtain ⟨l2, l3, l5, l4⟩ := lk
  have hcw : cwK K' = .code K'.1 K'.2.1 K'.2.2.1 K'.2.2.2.1 := by unfold cwK; rw [hh]
  have hG : GoodIn LW (wsV K.1.cls idx K'.1.cls K'.1 (cwK K' :: LW)) := goodIn_LW (by
    intro w hw
    unfold wsV at hw
    simp only [List.cons_append, List.nil_append, List.mem_cons] at hw
    rcases hw with rfl | rfl | rfl | rfl | rfl | hw
    · exact l2
    · exact l3
    · exact l5
    · exact l4.2.2.2
    · exact l4.1
    · exact hw)
  exact wp_call (vx_runV (cc := K.2.1) (nL := K.2.2.1) (Ts := LW) (own := K.1.cls) (C := K'.1.cls) (b := a) ⟨x1, x2, x4, hown, hts⟩ hc (cwV n hts hG (by rw [hcw]) rfl rfl ⟨rfl, l4.2.1⟩ (l4.room (mc := mc) (ms := ms) hd1)) ⟨pc_blind, by rw [← hqc]; exact va_recv hE.2.1 (Rp.one hGa) hq (q0 := 0) rfl, pc_at hE Rp S⟩ rfl hn hl.1 hst (gs_sum hw) hd ⟨h1, h2⟩) C S hl kk kx
theorem wc_I {idx n d' mc' ms' a : Nat} {K' : MR} {As rest : List Value} {Q' : OC → AH → Prop} (hd : decode K.2.1 pc = .ok (.invokespecial idx, 3)) (lk : LkI K.1.cls idx K' n) (hh : K'.2.2.2.2 = []) (hn : As.length = n) (hd1 : d' + 1 ≤ d) (hc : Ct E d' mc' ms' K' (.ref a :: As) G Q') (hst : st = As.reverse ++ .ref a :: rest) (hw : (rest.map fun v => v.category).sum ≤ 8) (h1 : cs.1 + mc' ≤ mc) (h2 : cs.2 + ms' ≤ ms)
    (kk : ∀ (v : Option Value) (G' : AH), Q' (.inl v) G' → Wp E d mc ms K Q G' (cs.1 + mc', cs.2 + ms') (pc + 3) L (v.toList ++ rest))
    (kx : ∀ (X : String) (G' : AH), ¬ Q' (.inr X) G') : Wp E d mc ms K Q G cs pc L st := by
  intro p e s m args below meth c H locs ls C Rp S hl
  obtain ⟨x1, x2, x3, x4, hts, hown, x7, x8, x9, hE⟩ := id C
  obtain ⟨l1, l2, l3, l5, l4⟩ := lk
  have hcw : cwK K' = .code K'.1 K'.2.1 K'.2.2.1 none := by unfold cwK; rw [hh, l5]
  have hG : GoodIn LW (cwK K' :: LW) := goodIn_LW (by
    intro w hw
    rcases List.mem_cons.mp hw with rfl | hw
    · exact l4.1
    · exact hw)
  rcases l1 with l1 | ⟨host, l1⟩
  · exact wp_call (run_of (va_runI (cc := K.2.1) (nL := K.2.2.1) (Ts := LW) (own := K.1.cls) ⟨x1, x2, x4, hown, hts⟩ (hc.met kx) (cwI n hts hG (by rw [hcw]) rfl rfl (hts _ l4.2.2.2) (hts _ l1) (hts _ l2) l3 l4.2.1 (l4.room (mc := mc) (ms := ms) hd1)) ⟨pc_blind, pc_at hE Rp S⟩ rfl hn hl.1 hst (gs_sum hw) hd ⟨h1, h2⟩)) C S hl kk (fun X G' h => absurd h (kx X G'))
  · exact wp_call (run_of (va_runIN (cc := K.2.1) (nL := K.2.2.1) (Ts := LW) (own := K.1.cls) (host := host) ⟨x1, x2, x4, hown, hts⟩ (hc.met kx) ⟨va_cnB n hts hG (by rw [hcw]) rfl rfl (hE.2.2.1 _ l1) (hts _ l4.2.2.2) l4.2.1 (l4.room (mc := mc) (ms := ms) hd1), l3, hts _ l2⟩ ⟨pc_blind, pc_at hE Rp S⟩ rfl hn hl.1 hst (gs_sum hw) hd ⟨h1, h2⟩)) C S hl kk (fun X G' h => absurd h (kx X G'))
/-- an exception leaves the method -/
theorem wx_out {X : String} (hh : K.2.2.2.2 = []) (h1 : cs.1 ≤ mc) (h2 : cs.2 ≤ ms) (h : Q (.inr X) G) : Wx E d mc ms K Q G cs pc L X := by
  intro p e s m args below meth c H locs ls q ce rest C Rp S hl g1 g2 g3
  refine vx_out (by rw [C.2.2.2.2.2.2.2.1, hh]; intro x hx; cases hx) C.2.2.2.2.2.2.1 g1 g2 g3 (fun t ht _ => ⟨⟨G, h, by rw [ht]; exact Rp⟩, S.F ht⟩) S.2.2 h1 h2
theorem LHas.blur {ls : Array Slot} {n k : Nat} {v : Value} (h : LHas ls n (L.set k v)) : LHas ls n (L.set k (.float 0)) := by
  refine ⟨h.1, h.2.1, by have := h.2.2.1; rwa [List.length_set] at this ⊢, fun i w hi => ?_⟩
  by_cases hk : k = i
  · subst hk
    have hl : k < L.length := by
      have := (List.getElem?_eq_some_iff.mp hi).1
      rwa [List.length_set] at this
    rw [List.getElem?_set_self hl] at hi
    cases hi
    exact Or.inl rfl
  · rw [List.getElem?_set_ne hk] at hi
    exact h.2.2.2 i w (by rw [List.getElem?_set_ne hk]; exact hi)
/-- an exception is caught by a row of the method's table, and stored in a local that is never read again -/
theorem wx_catch {X nm : String} {pre suf : List (Nat × Nat × Nat × Nat)} {sp ep hp ct : Nat} (hh : K.2.2.2.2 = pre ++ (sp, ep, hp, ct) :: suf) (hpass : ∀ z ∈ pre, z.2.2.2 ≠ 0 ∧ ∃ n2, Cond.classLink K.1.cls z.2.2.2 n2 ∈ LW ∧ (X, n2) ∈ ncT)
    (hcov : covers ⟨sp, ep, hp, ct⟩ pc = true) (h0 : ct ≠ 0) (hlink : Cond.classLink K.1.cls ct nm ∈ LW) (hcast : Cond.castable X nm ∈ NW)
    {k : Nat} {len : Nat} (hd : (∃ k4 : Fin 4, (k4 : Nat) = k ∧ len = 1 ∧ decode K.2.1 hp = .ok (.astore_n k4, 1)) ∨ (len = 2 ∧ decode K.2.1 hp = .ok (.astore k, 2))) (hk : k < L.length) (hp0 : ∀ w, k ≠ 0 → L[k - 1]? = some w → w.category = 1)
    (k1 : Wp E d mc ms K Q G cs (hp + len) (L.set k (.float 0)) []) : Wx E d mc ms K Q G cs pc L X := by
  intro p e s m args below meth c H locs ls q ce rest C Rp S hl g1 g2 g3
  obtain ⟨x1, x2, x3, x4, hts, hown, x7, x8, x9, hE⟩ := id C
  have hsplit : c.exceptionTable.toList = tableOf pre ++ (⟨sp, ep, hp, ct⟩ : ExceptionTableEntry) :: tableOf suf := by
    rw [x8, hh]; simp [tableOf]
  refine vx_catch hown (tableOf pre) ⟨sp, ep, hp, ct⟩ (tableOf suf) hsplit (fun z hz => ?_) hcov h0 (hts _ hlink) (va_Nw.use rfl (hE.2.2.1 _ hcast)) g1 g2 g3 ?_
  · unfold tableOf at hz
    obtain ⟨z0, hz0, rfl⟩ := List.mem_map.mp hz
    obtain ⟨n0, n2, l1, l2⟩ := hpass z0 hz0
    exact Or.inr ⟨n0, n2, hts _ l1, hE.2.2.2.2.2.2.2.2.2.2.2.2 _ l2⟩
  · rcases hd with ⟨k4, rfl, rfl, hd⟩ | ⟨rfl, hd⟩
    · exact lv_astore_n x1 x2 hd rfl hl.has (by rw [← hl.2.2.1]; exact hk) rfl (fun ls' h => k1 p e s m args below meth c H locs ls' C Rp S (LHas.of1 hl.2.2.1 hp0 h).blur)
    · exact lv_astore x1 x2 hd hl.has (by rw [← hl.2.2.1]; exact hk) rfl (fun ls' h => k1 p e s m args below meth c H locs ls' C Rp S (LHas.of1 hl.2.2.1 hp0 h).blur)
end WPR
def Cu (E : EV) (d : Nat) (K : MR) (args : List Value) (G : AH) (v : Value) (G' : AH) : Prop := Ct E d 0 0 K args G (fun o G1 => o = .inl (some v) ∧ G1 = G')
def Cn (E : EV) (d : Nat) (K : MR) (args : List Value) (G G' : AH) : Prop := Ct E d 0 0 K args G (fun o G1 => o = .inl none ∧ G1 = G')
def Ci (E : EV) (d : Nat) (K : MR) (args : List Value) (G : AH) (P : Int32 → AH → Prop) : Prop := Ct E d 0 0 K args G (fun o G1 => ∃ r : Int32, o = .inl (some (.int r)) ∧ P r G1)
def Cd (E : EV) (d : Nat) (K : MR) (args : List Value) (G : AH) (P : AH → Prop) : Prop := Ct E d 0 0 K args G (fun o G1 => o = .inl none ∧ P G1)
def Ck (E : EV) (d : Nat) (K : MR) (args : List Value) (G : AH) (ok : Prop) (X : String) : Prop := Ct E d 1 6 K args G (fun o G1 => (ok ∧ o = .inl none ∧ G1 = G) ∨ (¬ ok ∧ o = .inr X ∧ G1.1 = G.1 ∧ G.2 ≤ G1.2))
section WPC
variable {E : EV} {d mc ms : Nat} {K : MR} {Q : OC → AH → Prop} {G : AH} {cs : Nat × Nat} {pc : Nat} {L st : List Value}
theorem wS0u {idx d' : Nat} {K' : MR} {rest : List Value} {v : Value} {G' : AH} (hd : decode K.2.1 pc = .ok (.invokestatic idx, 3)) (lk : LkS K.1.cls idx K' 0) (hh : K'.2.2.2.2 = []) (hc : Cu E d' K' [] G v G') (hd1 : d' + 1 ≤ d) (h1 : cs.1 ≤ mc) (h2 : cs.2 ≤ ms) (hw : (rest.map fun v => v.category).sum ≤ 8) (k : Wp E d mc ms K Q G' cs (pc + 3) L (v :: rest)) : Wp E d mc ms K Q G cs pc L rest := wc_S hd lk hh (As := []) rfl hd1 hc rfl hw h1 h2 (fun v9 G9 h => by obtain ⟨h, rfl⟩ := h; cases h; exact k) (fun X G9 h => by cases h.1)
theorem wS0n {idx d' : Nat} {K' : MR} {rest : List Value} {G' : AH} (hd : decode K.2.1 pc = .ok (.invokestatic idx, 3)) (lk : LkS K.1.cls idx K' 0) (hh : K'.2.2.2.2 = []) (hc : Cn E d' K' [] G G') (hd1 : d' + 1 ≤ d) (h1 : cs.1 ≤ mc) (h2 : cs.2 ≤ ms) (hw : (rest.map fun v => v.category).sum ≤ 8) (k : Wp E d mc ms K Q G' cs (pc + 3) L rest) : Wp E d mc ms K Q G cs pc L rest := wc_S hd lk hh (As := []) rfl hd1 hc rfl hw h1 h2 (fun v9 G9 h => by obtain ⟨h, rfl⟩ := h; cases h; exact k) (fun X G9 h => by cases h.1)
theorem wS0i {idx d' : Nat} {K' : MR} {rest : List Value} {P : Int32 → AH → Prop} (hd : decode K.2.1 pc = .ok (.invokestatic idx, 3)) (lk : LkS K.1.cls idx K' 0) (hh : K'.2.2.2.2 = []) (hc : Ci E d' K' [] G P) (hd1 : d' + 1 ≤ d) (h1 : cs.1 ≤ mc) (h2 : cs.2 ≤ ms) (hw : (rest.map fun v => v.category).sum ≤ 8) (k : ∀ (r : Int32) (G' : AH), P r G' → Wp E d mc ms K Q G' cs (pc + 3) L (.int r :: rest)) : Wp E d mc ms K Q G cs pc L rest := wc_S hd lk hh (As := []) rfl hd1 hc rfl hw h1 h2 (fun v9 G9 h => by obtain ⟨r, h, hp⟩ := h; cases h; exact k _ _ hp) (fun X G9 h => by obtain ⟨r, h, -⟩ := h; cases h)
theorem wS0d {idx d' : Nat} {K' : MR} {rest : List Value} {P : AH → Prop} (hd : decode K.2.1 pc = .ok (.invokestatic idx, 3)) (lk : LkS K.1.cls idx K' 0) (hh : K'.2.2.2.2 = []) (hc : Cd E d' K' [] G P) (hd1 : d' + 1 ≤ d) (h1 : cs.1 ≤ mc) (h2 : cs.2 ≤ ms) (hw : (rest.map fun v => v.category).sum ≤ 8) (k : ∀ G' : AH, P G' → Wp E d mc ms K Q G' cs (pc + 3) L rest) : Wp E d mc ms K Q G cs pc L rest := wc_S hd lk hh (As := []) rfl hd1 hc rfl hw h1 h2 (fun v9 G9 h => by obtain ⟨h, hp⟩ := h; cases h; exact k _ hp) (fun X G9 h => by cases h.1)
theorem wS0k {idx d' : Nat} {K' : MR} {rest : List Value} {ok : Prop} {X : String} (hd : decode K.2.1 pc = .ok (.invokestatic idx, 3)) (lk : LkS K.1.cls idx K' 0) (hh : K'.2.2.2.2 = []) (hK : K.2.2.2.2 = []) (hc : Ck E d' K' [] G ok X) (hd1 : d' + 1 ≤ d) (h1 : cs.1 + 1 ≤ mc) (h2 : cs.2 + 6 ≤ ms) (hw : (rest.map fun v => v.category).sum ≤ 8) (kx : ¬ ok → ∀ n9, G.2 ≤ n9 → Q (.inr X) (G.1, n9)) (k : ok → Wp E d mc ms K Q G (cs.1 + 1, cs.2 + 6) (pc + 3) L rest) : Wp E d mc ms K Q G cs pc L rest := wc_S hd lk hh (As := []) rfl hd1 hc rfl hw h1 h2 (fun v9 G9 h => by rcases h with ⟨ok, h, rfl⟩ | ⟨-, h, -⟩ <;> cases h; exact k ok) (fun X9 G9 h => by rcases h with ⟨-, h, -⟩ | ⟨nok, h, e1, e2⟩ <;> cases h; exact wx_out hK h1 h2 (by have := kx nok G9.2 e2; rw [← e1] at this; exact this))
theorem wS1u {idx d' : Nat} {K' : MR} {b0 : Value} {rest : List Value} {v : Value} {G' : AH} (hd : decode K.2.1 pc = .ok (.invokestatic idx, 3)) (lk : LkS K.1.cls idx K' 1) (hh : K'.2.2.2.2 = []) (hc : Cu E d' K' [b0] G v G') (hd1 : d' + 1 ≤ d) (h1 : cs.1 ≤ mc) (h2 : cs.2 ≤ ms) (hw : (rest.map fun v => v.category).sum ≤ 8) (k : Wp E d mc ms K Q G' cs (pc + 3) L (v :: rest)) : Wp E d mc ms K Q G cs pc L (b0 :: rest) := wc_S hd lk hh (As := [b0]) rfl hd1 hc rfl hw h1 h2 (fun v9 G9 h => by obtain ⟨h, rfl⟩ := h; cases h; exact k) (fun X G9 h => by cases h.1)
theorem wS1n {idx d' : Nat} {K' : MR} {b0 : Value} {rest : List Value} {G' : AH} (hd : decode K.2.1 pc = .ok (.invokestatic idx, 3)) (lk : LkS K.1.cls idx K' 1) (hh : K'.2.2.2.2 = []) (hc : Cn E d' K' [b0] G G') (hd1 : d' + 1 ≤ d) (h1 : cs.1 ≤ mc) (h2 : cs.2 ≤ ms) (hw : (rest.map fun v => v.category).sum ≤ 8) (k : Wp E d mc ms K Q G' cs (pc + 3) L rest) : Wp E d mc ms K Q G cs pc L (b0 :: rest) := wc_S hd lk hh (As := [b0]) rfl hd1 hc rfl hw h1 h2 (fun v9 G9 h => by obtain ⟨h, rfl⟩ := h; cases h; exact k) (fun X G9 h => by cases h.1)
theorem wS1i {idx d' : Nat} {K' : MR} {b0 : Value} {rest : List Value} {P : Int32 → AH → Prop} (hd : decode K.2.1 pc = .ok (.invokestatic idx, 3)) (lk : LkS K.1.cls idx K' 1) (hh : K'.2.2.2.2 = []) (hc : Ci E d' K' [b0] G P) (hd1 : d' + 1 ≤ d) (h1 : cs.1 ≤ mc) (h2 : cs.2 ≤ ms) (hw : (rest.map fun v => v.category).sum ≤ 8) (k : ∀ (r : Int32) (G' : AH), P r G' → Wp E d mc ms K Q G' cs (pc + 3) L (.int r :: rest)) : Wp E d mc ms K Q G cs pc L (b0 :: rest) := wc_S hd lk hh (As := [b0]) rfl hd1 hc rfl hw h1 h2 (fun v9 G9 h => by obtain ⟨r, h, hp⟩ := h; cases h; exact k _ _ hp) (fun X G9 h => by obtain ⟨r, h, -⟩ := h; cases h)
theorem wS1d {idx d' : Nat} {K' : MR} {b0 : Value} {rest : List Value} {P : AH → Prop} (hd : decode K.2.1 pc = .ok (.invokestatic idx, 3)) (lk : LkS K.1.cls idx K' 1) (hh : K'.2.2.2.2 = []) (hc : Cd E d' K' [b0] G P) (hd1 : d' + 1 ≤ d) (h1 : cs.1 ≤ mc) (h2 : cs.2 ≤ ms) (hw : (rest.map fun v => v.category).sum ≤ 8) (k : ∀ G' : AH, P G' → Wp E d mc ms K Q G' cs (pc + 3) L rest) : Wp E d mc ms K Q G cs pc L (b0 :: rest) := wc_S hd lk hh (As := [b0]) rfl hd1 hc rfl hw h1 h2 (fun v9 G9 h => by obtain ⟨h, hp⟩ := h; cases h; exact k _ hp) (fun X G9 h => by cases h.1)
theorem wS1k {idx d' : Nat} {K' : MR} {b0 : Value} {rest : List Value} {ok : Prop} {X : String} (hd : decode K.2.1 pc = .ok (.invokestatic idx, 3)) (lk : LkS K.1.cls idx K' 1) (hh : K'.2.2.2.2 = []) (hK : K.2.2.2.2 = []) (hc : Ck E d' K' [b0] G ok X) (hd1 : d' + 1 ≤ d) (h1 : cs.1 + 1 ≤ mc) (h2 : cs.2 + 6 ≤ ms) (hw : (rest.map fun v => v.category).sum ≤ 8) (kx : ¬ ok → ∀ n9, G.2 ≤ n9 → Q (.inr X) (G.1, n9)) (k : ok → Wp E d mc ms K Q G (cs.1 + 1, cs.2 + 6) (pc + 3) L rest) : Wp E d mc ms K Q G cs pc L (b0 :: rest) := wc_S hd lk hh (As := [b0]) rfl hd1 hc rfl hw h1 h2 (fun v9 G9 h => by rcases h with ⟨ok, h, rfl⟩ | ⟨-, h, -⟩ <;> cases h; exact k ok) (fun X9 G9 h => by rcases h with ⟨-, h, -⟩ | ⟨nok, h, e1, e2⟩ <;> cases h; exact wx_out hK h1 h2 (by have := kx nok G9.2 e2; rw [← e1] at this; exact this))
theorem wS2u {idx d' : Nat} {K' : MR} {b0 b1 : Value} {rest : List Value} {v : Value} {G' : AH} (hd : decode K.2.1 pc = .ok (.invokestatic idx, 3)) (lk : LkS K.1.cls idx K' 2) (hh : K'.2.2.2.2 = []) (hc : Cu E d' K' [b0, b1] G v G') (hd1 : d' + 1 ≤ d) (h1 : cs.1 ≤ mc) (h2 : cs.2 ≤ ms) (hw : (rest.map fun v => v.category).sum ≤ 8) (k : Wp E d mc ms K Q G' cs (pc + 3) L (v :: rest)) : Wp E d mc ms K Q G cs pc L (b1 :: b0 :: rest) := wc_S hd lk hh (As := [b0, b1]) rfl hd1 hc rfl hw h1 h2 (fun v9 G9 h => by obtain ⟨h, rfl⟩ := h; cases h; exact k) (fun X G9 h => by cases h.1)
theorem wS2n {idx d' : Nat} {K' : MR} {b0 b1 : Value} {rest : List Value} {G' : AH} (hd : decode K.2.1 pc = .ok (.invokestatic idx, 3)) (lk : LkS K.1.cls idx K' 2) (hh : K'.2.2.2.2 = []) (hc : Cn E d' K' [b0, b1] G G') (hd1 : d' + 1 ≤ d) (h1 : cs.1 ≤ mc) (h2 : cs.2 ≤ ms) (hw : (rest.map fun v => v.category).sum ≤ 8) (k : Wp E d mc ms K Q G' cs (pc + 3) L rest) : Wp E d mc ms K Q G cs pc L (b1 :: b0 :: rest) := wc_S hd lk hh (As := [b0, b1]) rfl hd1 hc rfl hw h1 h2 (fun v9 G9 h => by obtain ⟨h, rfl⟩ := h; cases h; exact k) (fun X G9 h => by cases h.1)
theorem wS2i {idx d' : Nat} {K' : MR} {b0 b1 : Value} {rest : List Value} {P : Int32 → AH → Prop} (hd : decode K.2.1 pc = .ok (.invokestatic idx, 3)) (lk : LkS K.1.cls idx K' 2) (hh : K'.2.2.2.2 = []) (hc : Ci E d' K' [b0, b1] G P) (hd1 : d' + 1 ≤ d) (h1 : cs.1 ≤ mc) (h2 : cs.2 ≤ ms) (hw : (rest.map fun v => v.category).sum ≤ 8) (k : ∀ (r : Int32) (G' : AH), P r G' → Wp E d mc ms K Q G' cs (pc + 3) L (.int r :: rest)) : Wp E d mc ms K Q G cs pc L (b1 :: b0 :: rest) := wc_S hd lk hh (As := [b0, b1]) rfl hd1 hc rfl hw h1 h2 (fun v9 G9 h => by obtain ⟨r, h, hp⟩ := h; cases h; exact k _ _ hp) (fun X G9 h => by obtain ⟨r, h, -⟩ := h; cases h)
theorem wS2d {idx d' : Nat} {K' : MR} {b0 b1 : Value} {rest : List Value} {P : AH → Prop} (hd : decode K.2.1 pc = .ok (.invokestatic idx, 3)) (lk : LkS K.1.cls idx K' 2) (hh : K'.2.2.2.2 = []) (hc : Cd E d' K' [b0, b1] G P) (hd1 : d' + 1 ≤ d) (h1 : cs.1 ≤ mc) (h2 : cs.2 ≤ ms) (hw : (rest.map fun v => v.category).sum ≤ 8) (k : ∀ G' : AH, P G' → Wp E d mc ms K Q G' cs (pc + 3) L rest) : Wp E d mc ms K Q G cs pc L (b1 :: b0 :: rest) := wc_S hd lk hh (As := [b0, b1]) rfl hd1 hc rfl hw h1 h2 (fun v9 G9 h => by obtain ⟨h, hp⟩ := h; cases h; exact k _ hp) (fun X G9 h => by cases h.1)
theorem wS2k {idx d' : Nat} {K' : MR} {b0 b1 : Value} {rest : List Value} {ok : Prop} {X : String} (hd : decode K.2.1 pc = .ok (.invokestatic idx, 3)) (lk : LkS K.1.cls idx K' 2) (hh : K'.2.2.2.2 = []) (hK : K.2.2.2.2 = []) (hc : Ck E d' K' [b0, b1] G ok X) (hd1 : d' + 1 ≤ d) (h1 : cs.1 + 1 ≤ mc) (h2 : cs.2 + 6 ≤ ms) (hw : (rest.map fun v => v.category).sum ≤ 8) (kx : ¬ ok → ∀ n9, G.2 ≤ n9 → Q (.inr X) (G.1, n9)) (k : ok → Wp E d mc ms K Q G (cs.1 + 1, cs.2 + 6) (pc + 3) L rest) : Wp E d mc ms K Q G cs pc L (b1 :: b0 :: rest) := wc_S hd lk hh (As := [b0, b1]) rfl hd1 hc rfl hw h1 h2 (fun v9 G9 h => by rcases h with ⟨ok, h, rfl⟩ | ⟨-, h, -⟩ <;> cases h; exact k ok) (fun X9 G9 h => by rcases h with ⟨-, h, -⟩ | ⟨nok, h, e1, e2⟩ <;> cases h; exact wx_out hK h1 h2 (by have := kx nok G9.2 e2; rw [← e1] at this; exact this))
theorem wS3u {idx d' : Nat} {K' : MR} {b0 b1 b2 : Value} {rest : List Value} {v : Value} {G' : AH} (hd : decode K.2.1 pc = .ok (.invokestatic idx, 3)) (lk : LkS K.1.cls idx K' 3) (hh : K'.2.2.2.2 = []) (hc : Cu E d' K' [b0, b1, b2] G v G') (hd1 : d' + 1 ≤ d) (h1 : cs.1 ≤ mc) (h2 : cs.2 ≤ ms) (hw : (rest.map fun v => v.category).sum ≤ 8) (k : Wp E d mc ms K Q G' cs (pc + 3) L (v :: rest)) : Wp E d mc ms K Q G cs pc L (b2 :: b1 :: b0 :: rest) := wc_S hd lk hh (As := [b0, b1, b2]) rfl hd1 hc rfl hw h1 h2 (fun v9 G9 h => by obtain ⟨h, rfl⟩ := h; cases h; exact k) (fun X G9 h => by cases h.1)
theorem wS3n {idx d' : Nat} {K' : MR} {b0 b1 b2 : Value} {rest : List Value} {G' : AH} (hd : decode K.2.1 pc = .ok (.invokestatic idx, 3)) (lk : LkS K.1.cls idx K' 3) (hh : K'.2.2.2.2 = []) (hc : Cn E d' K' [b0, b1, b2] G G') (hd1 : d' + 1 ≤ d) (h1 : cs.1 ≤ mc) (h2 : cs.2 ≤ ms) (hw : (rest.map fun v => v.category).sum ≤ 8) (k : Wp E d mc ms K Q G' cs (pc + 3) L rest) : Wp E d mc ms K Q G cs pc L (b2 :: b1 :: b0 :: rest) := wc_S hd lk hh (As := [b0, b1, b2]) rfl hd1 hc rfl hw h1 h2 (fun v9 G9 h => by obtain ⟨h, rfl⟩ := h; cases h; exact k) (fun X G9 h => by cases h.1)
theorem wS3i {idx d' : Nat} {K' : MR} {b0 b1 b2 : Value} {rest : List Value} {P : Int32 → AH → Prop} (hd : decode K.2.1 pc = .ok (.invokestatic idx, 3)) (lk : LkS K.1.cls idx K' 3) (hh : K'.2.2.2.2 = []) (hc : Ci E d' K' [b0, b1, b2] G P) (hd1 : d' + 1 ≤ d) (h1 : cs.1 ≤ mc) (h2 : cs.2 ≤ ms) (hw : (rest.map fun v => v.category).sum ≤ 8) (k : ∀ (r : Int32) (G' : AH), P r G' → Wp E d mc ms K Q G' cs (pc + 3) L (.int r :: rest)) : Wp E d mc ms K Q G cs pc L (b2 :: b1 :: b0 :: rest) := wc_S hd lk hh (As := [b0, b1, b2]) rfl hd1 hc rfl hw h1 h2 (fun v9 G9 h => by obtain ⟨r, h, hp⟩ := h; cases h; exact k _ _ hp) (fun X G9 h => by obtain ⟨r, h, -⟩ := h; cases h)
theorem wS3d {idx d' : Nat} {K' : MR} {b0 b1 b2 : Value} {rest : List Value} {P : AH → Prop} (hd : decode K.2.1 pc = .ok (.invokestatic idx, 3)) (lk : LkS K.1.cls idx K' 3) (hh : K'.2.2.2.2 = []) (hc : Cd E d' K' [b0, b1, b2] G P) (hd1 : d' + 1 ≤ d) (h1 : cs.1 ≤ mc) (h2 : cs.2 ≤ ms) (hw : (rest.map fun v => v.category).sum ≤ 8) (k : ∀ G' : AH, P G' → Wp E d mc ms K Q G' cs (pc + 3) L rest) : Wp E d mc ms K Q G cs pc L (b2 :: b1 :: b0 :: rest) := wc_S hd lk hh (As := [b0, b1, b2]) rfl hd1 hc rfl hw h1 h2 (fun v9 G9 h => by obtain ⟨h, hp⟩ := h; cases h; exact k _ hp) (fun X G9 h => by cases h.1)
theorem wS3k {idx d' : Nat} {K' : MR} {b0 b1 b2 : Value} {rest : List Value} {ok : Prop} {X : String} (hd : decode K.2.1 pc = .ok (.invokestatic idx, 3)) (lk : LkS K.1.cls idx K' 3) (hh : K'.2.2.2.2 = []) (hK : K.2.2.2.2 = []) (hc : Ck E d' K' [b0, b1, b2] G ok X) (hd1 : d' + 1 ≤ d) (h1 : cs.1 + 1 ≤ mc) (h2 : cs.2 + 6 ≤ ms) (hw : (rest.map fun v => v.category).sum ≤ 8) (kx : ¬ ok → ∀ n9, G.2 ≤ n9 → Q (.inr X) (G.1, n9)) (k : ok → Wp E d mc ms K Q G (cs.1 + 1, cs.2 + 6) (pc + 3) L rest) : Wp E d mc ms K Q G cs pc L (b2 :: b1 :: b0 :: rest) := wc_S hd lk hh (As := [b0, b1, b2]) rfl hd1 hc rfl hw h1 h2 (fun v9 G9 h => by rcases h with ⟨ok, h, rfl⟩ | ⟨-, h, -⟩ <;> cases h; exact k ok) (fun X9 G9 h => by rcases h with ⟨-, h, -⟩ | ⟨nok, h, e1, e2⟩ <;> cases h; exact wx_out hK h1 h2 (by have := kx nok G9.2 e2; rw [← e1] at this; exact this))
theorem wS4u {idx d' : Nat} {K' : MR} {b0 b1 b2 b3 : Value} {rest : List Value} {v : Value} {G' : AH} (hd : decode K.2.1 pc = .ok (.invokestatic idx, 3)) (lk : LkS K.1.cls idx K' 4) (hh : K'.2.2.2.2 = []) (hc : Cu E d' K' [b0, b1, b2, b3] G v G') (hd1 : d' + 1 ≤ d) (h1 : cs.1 ≤ mc) (h2 : cs.2 ≤ ms) (hw : (rest.map fun v => v.category).sum ≤ 8) (k : Wp E d mc ms K Q G' cs (pc + 3) L (v :: rest)) : Wp E d mc ms K Q G cs pc L (b3 :: b2 :: b1 :: b0 :: rest) := wc_S hd lk hh (As := [b0, b1, b2, b3]) rfl hd1 hc rfl hw h1 h2 (fun v9 G9 h => by obtain ⟨h, rfl⟩ := h; cases h; exact k) (fun X G9 h => by cases h.1)
theorem wS4n {idx d' : Nat} {K' : MR} {b0 b1 b2 b3 : Value} {rest : List Value} {G' : AH} (hd : decode K.2.1 pc = .ok (.invokestatic idx, 3)) (lk : LkS K.1.cls idx K' 4) (hh : K'.2.2.2.2 = []) (hc : Cn E d' K' [b0, b1, b2, b3] G G') (hd1 : d' + 1 ≤ d) (h1 : cs.1 ≤ mc) (h2 : cs.2 ≤ ms) (hw : (rest.map fun v => v.category).sum ≤ 8) (k : Wp E d mc ms K Q G' cs (pc + 3) L rest) : Wp E d mc ms K Q G cs pc L (b3 :: b2 :: b1 :: b0 :: rest) := wc_S hd lk hh (As := [b0, b1, b2, b3]) rfl hd1 hc rfl hw h1 h2 (fun v9 G9 h => by obtain ⟨h, rfl⟩ := h; cases h; exact k) (fun X G9 h => by cases h.1)
theorem wS4i {idx d' : Nat} {K' : MR} {b0 b1 b2 b3 : Value} {rest : List Value} {P : Int32 → AH → Prop} (hd : decode K.2.1 pc = .ok (.invokestatic idx, 3)) (lk : LkS K.1.cls idx K' 4) (hh : K'.2.2.2.2 = []) (hc : Ci E d' K' [b0, b1, b2, b3] G P) (hd1 : d' + 1 ≤ d) (h1 : cs.1 ≤ mc) (h2 : cs.2 ≤ ms) (hw : (rest.map fun v => v.category).sum ≤ 8) (k : ∀ (r : Int32) (G' : AH), P r G' → Wp E d mc ms K Q G' cs (pc + 3) L (.int r :: rest)) : Wp E d mc ms K Q G cs pc L (b3 :: b2 :: b1 :: b0 :: rest) := wc_S hd lk hh (As := [b0, b1, b2, b3]) rfl hd1 hc rfl hw h1 h2 (fun v9 G9 h => by obtain ⟨r, h, hp⟩ := h; cases h; exact k _ _ hp) (fun X G9 h => by obtain ⟨r, h, -⟩ := h; cases h)
theorem wS4d {idx d' : Nat} {K' : MR} {b0 b1 b2 b3 : Value} {rest : List Value} {P : AH → Prop} (hd : decode K.2.1 pc = .ok (.invokestatic idx, 3)) (lk : LkS K.1.cls idx K' 4) (hh : K'.2.2.2.2 = []) (hc : Cd E d' K' [b0, b1, b2, b3] G P) (hd1 : d' + 1 ≤ d) (h1 : cs.1 ≤ mc) (h2 : cs.2 ≤ ms) (hw : (rest.map fun v => v.category).sum ≤ 8) (k : ∀ G' : AH, P G' → Wp E d mc ms K Q G' cs (pc + 3) L rest) : Wp E d mc ms K Q G cs pc L (b3 :: b2 :: b1 :: b0 :: rest) := wc_S hd lk hh (As := [b0, b1, b2, b3]) rfl hd1 hc rfl hw h1 h2 (fun v9 G9 h => by obtain ⟨h, hp⟩ := h; cases h; exact k _ hp) (fun X G9 h => by cases h.1)
theorem wS4k {idx d' : Nat} {K' : MR} {b0 b1 b2 b3 : Value} {rest : List Value} {ok : Prop} {X : String} (hd : decode K.2.1 pc = .ok (.invokestatic idx, 3)) (lk : LkS K.1.cls idx K' 4) (hh : K'.2.2.2.2 = []) (hK : K.2.2.2.2 = []) (hc : Ck E d' K' [b0, b1, b2, b3] G ok X) (hd1 : d' + 1 ≤ d) (h1 : cs.1 + 1 ≤ mc) (h2 : cs.2 + 6 ≤ ms) (hw : (rest.map fun v => v.category).sum ≤ 8) (kx : ¬ ok → ∀ n9, G.2 ≤ n9 → Q (.inr X) (G.1, n9)) (k : ok → Wp E d mc ms K Q G (cs.1 + 1, cs.2 + 6) (pc + 3) L rest) : Wp E d mc ms K Q G cs pc L (b3 :: b2 :: b1 :: b0 :: rest) := wc_S hd lk hh (As := [b0, b1, b2, b3]) rfl hd1 hc rfl hw h1 h2 (fun v9 G9 h => by rcases h with ⟨ok, h, rfl⟩ | ⟨-, h, -⟩ <;> cases h; exact k ok) (fun X9 G9 h => by rcases h with ⟨-, h, -⟩ | ⟨nok, h, e1, e2⟩ <;> cases h; exact wx_out hK h1 h2 (by have := kx nok G9.2 e2; rw [← e1] at this; exact this))
theorem wS5u {idx d' : Nat} {K' : MR} {b0 b1 b2 b3 b4 : Value} {rest : List Value} {v : Value} {G' : AH} (hd : decode K.2.1 pc = .ok (.invokestatic idx, 3)) (lk : LkS K.1.cls idx K' 5) (hh : K'.2.2.2.2 = []) (hc : Cu E d' K' [b0, b1, b2, b3, b4] G v G') (hd1 : d' + 1 ≤ d) (h1 : cs.1 ≤ mc) (h2 : cs.2 ≤ ms) (hw : (rest.map fun v => v.category).sum ≤ 8) (k : Wp E d mc ms K Q G' cs (pc + 3) L (v :: rest)) : Wp E d mc ms K Q G cs pc L (b4 :: b3 :: b2 :: b1 :: b0 :: rest) := wc_S hd lk hh (As := [b0, b1, b2, b3, b4]) rfl hd1 hc rfl hw h1 h2 (fun v9 G9 h => by obtain ⟨h, rfl⟩ := h; cases h; exact k) (fun X G9 h => by cases h.1)
theorem wS5n {idx d' : Nat} {K' : MR} {b0 b1 b2 b3 b4 : Value} {rest : List Value} {G' : AH} (hd : decode K.2.1 pc = .ok (.invokestatic idx, 3)) (lk : LkS K.1.cls idx K' 5) (hh : K'.2.2.2.2 = []) (hc : Cn E d' K' [b0, b1, b2, b3, b4] G G') (hd1 : d' + 1 ≤ d) (h1 : cs.1 ≤ mc) (h2 : cs.2 ≤ ms) (hw : (rest.map fun v => v.category).sum ≤ 8) (k : Wp E d mc ms K Q G' cs (pc + 3) L rest) : Wp E d mc ms K Q G cs pc L (b4 :: b3 :: b2 :: b1 :: b0 :: rest) := wc_S hd lk hh (As := [b0, b1, b2, b3, b4]) rfl hd1 hc rfl hw h1 h2 (fun v9 G9 h => by obtain ⟨h, rfl⟩ := h; cases h; exact k) (fun X G9 h => by cases h.1)
theorem wS5i {idx d' : Nat} {K' : MR} {b0 b1 b2 b3 b4 : Value} {rest : List Value} {P : Int32 → AH → Prop} (hd : decode K.2.1 pc = .ok (.invokestatic idx, 3)) (lk : LkS K.1.cls idx K' 5) (hh : K'.2.2.2.2 = []) (hc : Ci E d' K' [b0, b1, b2, b3, b4] G P) (hd1 : d' + 1 ≤ d) (h1 : cs.1 ≤ mc) (h2 : cs.2 ≤ ms) (hw : (rest.map fun v => v.category).sum ≤ 8) (k : ∀ (r : Int32) (G' : AH), P r G' → Wp E d mc ms K Q G' cs (pc + 3) L (.int r :: rest)) : Wp E d mc ms K Q G cs pc L (b4 :: b3 :: b2 :: b1 :: b0 :: rest) := wc_S hd lk hh (As := [b0, b1, b2, b3, b4]) rfl hd1 hc rfl hw h1 h2 (fun v9 G9 h => by obtain ⟨r, h, hp⟩ := h; cases h; exact k _ _ hp) (fun X G9 h => by obtain ⟨r, h, -⟩ := h; cases h)
theorem wS5d {idx d' : Nat} {K' : MR} {b0 b1 b2 b3 b4 : Value} {rest : List Value} {P : AH → Prop} (hd : decode K.2.1 pc = .ok (.invokestatic idx, 3)) (lk : LkS K.1.cls idx K' 5) (hh : K'.2.2.2.2 = []) (hc : Cd E d' K' [b0, b1, b2, b3, b4] G P) (hd1 : d' + 1 ≤ d) (h1 : cs.1 ≤ mc) (h2 : cs.2 ≤ ms) (hw : (rest.map fun v => v.category).sum ≤ 8) (k : ∀ G' : AH, P G' → Wp E d mc ms K Q G' cs (pc + 3) L rest) : Wp E d mc ms K Q G cs pc L (b4 :: b3 :: b2 :: b1 :: b0 :: rest) := wc_S hd lk hh (As := [b0, b1, b2, b3, b4]) rfl hd1 hc rfl hw h1 h2 (fun v9 G9 h => by obtain ⟨h, hp⟩ := h; cases h; exact k _ hp) (fun X G9 h => by cases h.1)
theorem wS6u {idx d' : Nat} {K' : MR} {b0 b1 b2 b3 b4 b5 : Value} {rest : List Value} {v : Value} {G' : AH} (hd : decode K.2.1 pc = .ok (.invokestatic idx, 3)) (lk : LkS K.1.cls idx K' 6) (hh : K'.2.2.2.2 = []) (hc : Cu E d' K' [b0, b1, b2, b3, b4, b5] G v G') (hd1 : d' + 1 ≤ d) (h1 : cs.1 ≤ mc) (h2 : cs.2 ≤ ms) (hw : (rest.map fun v => v.category).sum ≤ 8) (k : Wp E d mc ms K Q G' cs (pc + 3) L (v :: rest)) : Wp E d mc ms K Q G cs pc L (b5 :: b4 :: b3 :: b2 :: b1 :: b0 :: rest) := wc_S hd lk hh (As := [b0, b1, b2, b3, b4, b5]) rfl hd1 hc rfl hw h1 h2 (fun v9 G9 h => by obtain ⟨h, rfl⟩ := h; cases h; exact k) (fun X G9 h => by cases h.1)
theorem wS6n {idx d' : Nat} {K' : MR} {b0 b1 b2 b3 b4 b5 : Value} {rest : List Value} {G' : AH} (hd : decode K.2.1 pc = .ok (.invokestatic idx, 3)) (lk : LkS K.1.cls idx K' 6) (hh : K'.2.2.2.2 = []) (hc : Cn E d' K' [b0, b1, b2, b3, b4, b5] G G') (hd1 : d' + 1 ≤ d) (h1 : cs.1 ≤ mc) (h2 : cs.2 ≤ ms) (hw : (rest.map fun v => v.category).sum ≤ 8) (k : Wp E d mc ms K Q G' cs (pc + 3) L rest) : Wp E d mc ms K Q G cs pc L (b5 :: b4 :: b3 :: b2 :: b1 :: b0 :: rest) := wc_S hd lk hh (As := [b0, b1, b2, b3, b4, b5]) rfl hd1 hc rfl hw h1 h2 (fun v9 G9 h => by obtain ⟨h, rfl⟩ := h; cases h; exact k) (fun X G9 h => by cases h.1)
theorem wS6i {idx d' : Nat} {K' : MR} {b0 b1 b2 b3 b4 b5 : Value} {rest : List Value} {P : Int32 → AH → Prop} (hd : decode K.2.1 pc = .ok (.invokestatic idx, 3)) (lk : LkS K.1.cls idx K' 6) (hh : K'.2.2.2.2 = []) (hc : Ci E d' K' [b0, b1, b2, b3, b4, b5] G P) (hd1 : d' + 1 ≤ d) (h1 : cs.1 ≤ mc) (h2 : cs.2 ≤ ms) (hw : (rest.map fun v => v.category).sum ≤ 8) (k : ∀ (r : Int32) (G' : AH), P r G' → Wp E d mc ms K Q G' cs (pc + 3) L (.int r :: rest)) : Wp E d mc ms K Q G cs pc L (b5 :: b4 :: b3 :: b2 :: b1 :: b0 :: rest) := wc_S hd lk hh (As := [b0, b1, b2, b3, b4, b5]) rfl hd1 hc rfl hw h1 h2 (fun v9 G9 h => by obtain ⟨r, h, hp⟩ := h; cases h; exact k _ _ hp) (fun X G9 h => by obtain ⟨r, h, -⟩ := h; cases h)
theorem wS6d {idx d' : Nat} {K' : MR} {b0 b1 b2 b3 b4 b5 : Value} {rest : List Value} {P : AH → Prop} (hd : decode K.2.1 pc = .ok (.invokestatic idx, 3)) (lk : LkS K.1.cls idx K' 6) (hh : K'.2.2.2.2 = []) (hc : Cd E d' K' [b0, b1, b2, b3, b4, b5] G P) (hd1 : d' + 1 ≤ d) (h1 : cs.1 ≤ mc) (h2 : cs.2 ≤ ms) (hw : (rest.map fun v => v.category).sum ≤ 8) (k : ∀ G' : AH, P G' → Wp E d mc ms K Q G' cs (pc + 3) L rest) : Wp E d mc ms K Q G cs pc L (b5 :: b4 :: b3 :: b2 :: b1 :: b0 :: rest) := wc_S hd lk hh (As := [b0, b1, b2, b3, b4, b5]) rfl hd1 hc rfl hw h1 h2 (fun v9 G9 h => by obtain ⟨h, hp⟩ := h; cases h; exact k _ hp) (fun X G9 h => by cases h.1)
theorem wJ0u {idx d' : Nat} {K' : MR} {rest : List Value} {v : Value} {G' : AH} (hd : decode K.2.1 pc = .ok (.invokestatic idx, 3)) (lk : LkJ K.1.cls idx K' 0) (hh : K'.2.2.2.2 = []) (hc : Cu E d' K' [] G v G') (hd1 : d' + 1 ≤ d) (h1 : cs.1 ≤ mc) (h2 : cs.2 ≤ ms) (hw : (rest.map fun v => v.category).sum ≤ 8) (k : Wp E d mc ms K Q G' cs (pc + 3) L (v :: rest)) : Wp E d mc ms K Q G cs pc L rest := wc_J hd lk hh (As := []) rfl hd1 hc rfl hw h1 h2 (fun v9 G9 h => by obtain ⟨h, rfl⟩ := h; cases h; exact k) (fun X G9 h => by cases h.1)
theorem wJ0n {idx d' : Nat} {K' : MR} {rest : List Value} {G' : AH} (hd : decode K.2.1 pc = .ok (.invokestatic idx, 3)) (lk : LkJ K.1.cls idx K' 0) (hh : K'.2.2.2.2 = []) (hc : Cn E d' K' [] G G') (hd1 : d' + 1 ≤ d) (h1 : cs.1 ≤ mc) (h2 : cs.2 ≤ ms) (hw : (rest.map fun v => v.category).sum ≤ 8) (k : Wp E d mc ms K Q G' cs (pc + 3) L rest) : Wp E d mc ms K Q G cs pc L rest := wc_J hd lk hh (As := []) rfl hd1 hc rfl hw h1 h2 (fun v9 G9 h => by obtain ⟨h, rfl⟩ := h; cases h; exact k) (fun X G9 h => by cases h.1)
theorem wJ0i {idx d' : Nat} {K' : MR} {rest : List Value} {P : Int32 → AH → Prop} (hd : decode K.2.1 pc = .ok (.invokestatic idx, 3)) (lk : LkJ K.1.cls idx K' 0) (hh : K'.2.2.2.2 = []) (hc : Ci E d' K' [] G P) (hd1 : d' + 1 ≤ d) (h1 : cs.1 ≤ mc) (h2 : cs.2 ≤ ms) (hw : (rest.map fun v => v.category).sum ≤ 8) (k : ∀ (r : Int32) (G' : AH), P r G' → Wp E d mc ms K Q G' cs (pc + 3) L (.int r :: rest)) : Wp E d mc ms K Q G cs pc L rest := wc_J hd lk hh (As := []) rfl hd1 hc rfl hw h1 h2 (fun v9 G9 h => by obtain ⟨r, h, hp⟩ := h; cases h; exact k _ _ hp) (fun X G9 h => by obtain ⟨r, h, -⟩ := h; cases h)
theorem wJ0d {idx d' : Nat} {K' : MR} {rest : List Value} {P : AH → Prop} (hd : decode K.2.1 pc = .ok (.invokestatic idx, 3)) (lk : LkJ K.1.cls idx K' 0) (hh : K'.2.2.2.2 = []) (hc : Cd E d' K' [] G P) (hd1 : d' + 1 ≤ d) (h1 : cs.1 ≤ mc) (h2 : cs.2 ≤ ms) (hw : (rest.map fun v => v.category).sum ≤ 8) (k : ∀ G' : AH, P G' → Wp E d mc ms K Q G' cs (pc + 3) L rest) : Wp E d mc ms K Q G cs pc L rest := wc_J hd lk hh (As := []) rfl hd1 hc rfl hw h1 h2 (fun v9 G9 h => by obtain ⟨h, hp⟩ := h; cases h; exact k _ hp) (fun X G9 h => by cases h.1)
theorem wJ1u {idx d' : Nat} {K' : MR} {b0 : Value} {rest : List Value} {v : Value} {G' : AH} (hd : decode K.2.1 pc = .ok (.invokestatic idx, 3)) (lk : LkJ K.1.cls idx K' 1) (hh : K'.2.2.2.2 = []) (hc : Cu E d' K' [b0] G v G') (hd1 : d' + 1 ≤ d) (h1 : cs.1 ≤ mc) (h2 : cs.2 ≤ ms) (hw : (rest.map fun v => v.category).sum ≤ 8) (k : Wp E d mc ms K Q G' cs (pc + 3) L (v :: rest)) : Wp E d mc ms K Q G cs pc L (b0 :: rest) := wc_J hd lk hh (As := [b0]) rfl hd1 hc rfl hw h1 h2 (fun v9 G9 h => by obtain ⟨h, rfl⟩ := h; cases h; exact k) (fun X G9 h => by cases h.1)
theorem wJ1n {idx d' : Nat} {K' : MR} {b0 : Value} {rest : List Value} {G' : AH} (hd : decode K.2.1 pc = .ok (.invokestatic idx, 3)) (lk : LkJ K.1.cls idx K' 1) (hh : K'.2.2.2.2 = []) (hc : Cn E d' K' [b0] G G') (hd1 : d' + 1 ≤ d) (h1 : cs.1 ≤ mc) (h2 : cs.2 ≤ ms) (hw : (rest.map fun v => v.category).sum ≤ 8) (k : Wp E d mc ms K Q G' cs (pc + 3) L rest) : Wp E d mc ms K Q G cs pc L (b0 :: rest) := wc_J hd lk hh (As := [b0]) rfl hd1 hc rfl hw h1 h2 (fun v9 G9 h => by obtain ⟨h, rfl⟩ := h; cases h; exact k) (fun X G9 h => by cases h.1)
theorem wJ1i {idx d' : Nat} {K' : MR} {b0 : Value} {rest : List Value} {P : Int32 → AH → Prop} (hd : decode K.2.1 pc = .ok (.invokestatic idx, 3)) (lk : LkJ K.1.cls idx K' 1) (hh : K'.2.2.2.2 = []) (hc : Ci E d' K' [b0] G P) (hd1 : d' + 1 ≤ d) (h1 : cs.1 ≤ mc) (h2 : cs.2 ≤ ms) (hw : (rest.map fun v => v.category).sum ≤ 8) (k : ∀ (r : Int32) (G' : AH), P r G' → Wp E d mc ms K Q G' cs (pc + 3) L (.int r :: rest)) : Wp E d mc ms K Q G cs pc L (b0 :: rest) := wc_J hd lk hh (As := [b0]) rfl hd1 hc rfl hw h1 h2 (fun v9 G9 h => by obtain ⟨r, h, hp⟩ := h; cases h; exact k _ _ hp) (fun X G9 h => by obtain ⟨r, h, -⟩ := h; cases h)
theorem wJ1d {idx d' : Nat} {K' : MR} {b0 : Value} {rest : List Value} {P : AH → Prop} (hd : decode K.2.1 pc = .ok (.invokestatic idx, 3)) (lk : LkJ K.1.cls idx K' 1) (hh : K'.2.2.2.2 = []) (hc : Cd E d' K' [b0] G P) (hd1 : d' + 1 ≤ d) (h1 : cs.1 ≤ mc) (h2 : cs.2 ≤ ms) (hw : (rest.map fun v => v.category).sum ≤ 8) (k : ∀ G' : AH, P G' → Wp E d mc ms K Q G' cs (pc + 3) L rest) : Wp E d mc ms K Q G cs pc L (b0 :: rest) := wc_J hd lk hh (As := [b0]) rfl hd1 hc rfl hw h1 h2 (fun v9 G9 h => by obtain ⟨h, hp⟩ := h; cases h; exact k _ hp) (fun X G9 h => by cases h.1)
theorem wJ2u {idx d' : Nat} {K' : MR} {b0 b1 : Value} {rest : List Value} {v : Value} {G' : AH} (hd : decode K.2.1 pc = .ok (.invokestatic idx, 3)) (lk : LkJ K.1.cls idx K' 2) (hh : K'.2.2.2.2 = []) (hc : Cu E d' K' [b0, b1] G v G') (hd1 : d' + 1 ≤ d) (h1 : cs.1 ≤ mc) (h2 : cs.2 ≤ ms) (hw : (rest.map fun v => v.category).sum ≤ 8) (k : Wp E d mc ms K Q G' cs (pc + 3) L (v :: rest)) : Wp E d mc ms K Q G cs pc L (b1 :: b0 :: rest) := wc_J hd lk hh (As := [b0, b1]) rfl hd1 hc rfl hw h1 h2 (fun v9 G9 h => by obtain ⟨h, rfl⟩ := h; cases h; exact k) (fun X G9 h => by cases h.1)
theorem wJ2n {idx d' : Nat} {K' : MR} {b0 b1 : Value} {rest : List Value} {G' : AH} (hd : decode K.2.1 pc = .ok (.invokestatic idx, 3)) (lk : LkJ K.1.cls idx K' 2) (hh : K'.2.2.2.2 = []) (hc : Cn E d' K' [b0, b1] G G') (hd1 : d' + 1 ≤ d) (h1 : cs.1 ≤ mc) (h2 : cs.2 ≤ ms) (hw : (rest.map fun v => v.category).sum ≤ 8) (k : Wp E d mc ms K Q G' cs (pc + 3) L rest) : Wp E d mc ms K Q G cs pc L (b1 :: b0 :: rest) := wc_J hd lk hh (As := [b0, b1]) rfl hd1 hc rfl hw h1 h2 (fun v9 G9 h => by obtain ⟨h, rfl⟩ := h; cases h; exact k) (fun X G9 h => by cases h.1)
theorem wJ2i {idx d' : Nat} {K' : MR} {b0 b1 : Value} {rest : List Value} {P : Int32 → AH → Prop} (hd : decode K.2.1 pc = .ok (.invokestatic idx, 3)) (lk : LkJ K.1.cls idx K' 2) (hh : K'.2.2.2.2 = []) (hc : Ci E d' K' [b0, b1] G P) (hd1 : d' + 1 ≤ d) (h1 : cs.1 ≤ mc) (h2 : cs.2 ≤ ms) (hw : (rest.map fun v => v.category).sum ≤ 8) (k : ∀ (r : Int32) (G' : AH), P r G' → Wp E d mc ms K Q G' cs (pc + 3) L (.int r :: rest)) : Wp E d mc ms K Q G cs pc L (b1 :: b0 :: rest) := wc_J hd lk hh (As := [b0, b1]) rfl hd1 hc rfl hw h1 h2 (fun v9 G9 h => by obtain ⟨r, h, hp⟩ := h; cases h; exact k _ _ hp) (fun X G9 h => by obtain ⟨r, h, -⟩ := h; cases h)
theorem wJ2d {idx d' : Nat} {K' : MR} {b0 b1 : Value} {rest : List Value} {P : AH → Prop} (hd : decode K.2.1 pc = .ok (.invokestatic idx, 3)) (lk : LkJ K.1.cls idx K' 2) (hh : K'.2.2.2.2 = []) (hc : Cd E d' K' [b0, b1] G P) (hd1 : d' + 1 ≤ d) (h1 : cs.1 ≤ mc) (h2 : cs.2 ≤ ms) (hw : (rest.map fun v => v.category).sum ≤ 8) (k : ∀ G' : AH, P G' → Wp E d mc ms K Q G' cs (pc + 3) L rest) : Wp E d mc ms K Q G cs pc L (b1 :: b0 :: rest) := wc_J hd lk hh (As := [b0, b1]) rfl hd1 hc rfl hw h1 h2 (fun v9 G9 h => by obtain ⟨h, hp⟩ := h; cases h; exact k _ hp) (fun X G9 h => by cases h.1)
theorem wJ3u {idx d' : Nat} {K' : MR} {b0 b1 b2 : Value} {rest : List Value} {v : Value} {G' : AH} (hd : decode K.2.1 pc = .ok (.invokestatic idx, 3)) (lk : LkJ K.1.cls idx K' 3) (hh : K'.2.2.2.2 = []) (hc : Cu E d' K' [b0, b1, b2] G v G') (hd1 : d' + 1 ≤ d) (h1 : cs.1 ≤ mc) (h2 : cs.2 ≤ ms) (hw : (rest.map fun v => v.category).sum ≤ 8) (k : Wp E d mc ms K Q G' cs (pc + 3) L (v :: rest)) : Wp E d mc ms K Q G cs pc L (b2 :: b1 :: b0 :: rest) := wc_J hd lk hh (As := [b0, b1, b2]) rfl hd1 hc rfl hw h1 h2 (fun v9 G9 h => by obtain ⟨h, rfl⟩ := h; cases h; exact k) (fun X G9 h => by cases h.1)
theorem wJ3n {idx d' : Nat} {K' : MR} {b0 b1 b2 : Value} {rest : List Value} {G' : AH} (hd : decode K.2.1 pc = .ok (.invokestatic idx, 3)) (lk : LkJ K.1.cls idx K' 3) (hh : K'.2.2.2.2 = []) (hc : Cn E d' K' [b0, b1, b2] G G') (hd1 : d' + 1 ≤ d) (h1 : cs.1 ≤ mc) (h2 : cs.2 ≤ ms) (hw : (rest.map fun v => v.category).sum ≤ 8) (k : Wp E d mc ms K Q G' cs (pc + 3) L rest) : Wp E d mc ms K Q G cs pc L (b2 :: b1 :: b0 :: rest) := wc_J hd lk hh (As := [b0, b1, b2]) rfl hd1 hc rfl hw h1 h2 (fun v9 G9 h => by obtain ⟨h, rfl⟩ := h; cases h; exact k) (fun X G9 h => by cases h.1)
theorem wJ3i {idx d' : Nat} {K' : MR} {b0 b1 b2 : Value} {rest : List Value} {P : Int32 → AH → Prop} (hd : decode K.2.1 pc = .ok (.invokestatic idx, 3)) (lk : LkJ K.1.cls idx K' 3) (hh : K'.2.2.2.2 = []) (hc : Ci E d' K' [b0, b1, b2] G P) (hd1 : d' + 1 ≤ d) (h1 : cs.1 ≤ mc) (h2 : cs.2 ≤ ms) (hw : (rest.map fun v => v.category).sum ≤ 8) (k : ∀ (r : Int32) (G' : AH), P r G' → Wp E d mc ms K Q G' cs (pc + 3) L (.int r :: rest)) : Wp E d mc ms K Q G cs pc L (b2 :: b1 :: b0 :: rest) := wc_J hd lk hh (As := [b0, b1, b2]) rfl hd1 hc rfl hw h1 h2 (fun v9 G9 h => by obtain ⟨r, h, hp⟩ := h; cases h; exact k _ _ hp) (fun X G9 h => by obtain ⟨r, h, -⟩ := h; cases h)
theorem wJ3d {idx d' : Nat} {K' : MR} {b0 b1 b2 : Value} {rest : List Value} {P : AH → Prop} (hd : decode K.2.1 pc = .ok (.invokestatic idx, 3)) (lk : LkJ K.1.cls idx K' 3) (hh : K'.2.2.2.2 = []) (hc : Cd E d' K' [b0, b1, b2] G P) (hd1 : d' + 1 ≤ d) (h1 : cs.1 ≤ mc) (h2 : cs.2 ≤ ms) (hw : (rest.map fun v => v.category).sum ≤ 8) (k : ∀ G' : AH, P G' → Wp E d mc ms K Q G' cs (pc + 3) L rest) : Wp E d mc ms K Q G cs pc L (b2 :: b1 :: b0 :: rest) := wc_J hd lk hh (As := [b0, b1, b2]) rfl hd1 hc rfl hw h1 h2 (fun v9 G9 h => by obtain ⟨h, hp⟩ := h; cases h; exact k _ hp) (fun X G9 h => by cases h.1)
theorem wJ4u {idx d' : Nat} {K' : MR} {b0 b1 b2 b3 : Value} {rest : List Value} {v : Value} {G' : AH} (hd : decode K.2.1 pc = .ok (.invokestatic idx, 3)) (lk : LkJ K.1.cls idx K' 4) (hh : K'.2.2.2.2 = []) (hc : Cu E d' K' [b0, b1, b2, b3] G v G') (hd1 : d' + 1 ≤ d) (h1 : cs.1 ≤ mc) (h2 : cs.2 ≤ ms) (hw : (rest.map fun v => v.category).sum ≤ 8) (k : Wp E d mc ms K Q G' cs (pc + 3) L (v :: rest)) : Wp E d mc ms K Q G cs pc L (b3 :: b2 :: b1 :: b0 :: rest) := wc_J hd lk hh (As := [b0, b1, b2, b3]) rfl hd1 hc rfl hw h1 h2 (fun v9 G9 h => by obtain ⟨h, rfl⟩ := h; cases h; exact k) (fun X G9 h => by cases h.1)
theorem wJ4n {idx d' : Nat} {K' : MR} {b0 b1 b2 b3 : Value} {rest : List Value} {G' : AH} (hd : decode K.2.1 pc = .ok (.invokestatic idx, 3)) (lk : LkJ K.1.cls idx K' 4) (hh : K'.2.2.2.2 = []) (hc : Cn E d' K' [b0, b1, b2, b3] G G') (hd1 : d' + 1 ≤ d) (h1 : cs.1 ≤ mc) (h2 : cs.2 ≤ ms) (hw : (rest.map fun v => v.category).sum ≤ 8) (k : Wp E d mc ms K Q G' cs (pc + 3) L rest) : Wp E d mc ms K Q G cs pc L (b3 :: b2 :: b1 :: b0 :: rest) := wc_J hd lk hh (As := [b0, b1, b2, b3]) rfl hd1 hc rfl hw h1 h2 (fun v9 G9 h => by obtain ⟨h, rfl⟩ := h; cases h; exact k) (fun X G9 h => by cases h.1)
theorem wJ4i {idx d' : Nat} {K' : MR} {b0 b1 b2 b3 : Value} {rest : List Value} {P : Int32 → AH → Prop} (hd : decode K.2.1 pc = .ok (.invokestatic idx, 3)) (lk : LkJ K.1.cls idx K' 4) (hh : K'.2.2.2.2 = []) (hc : Ci E d' K' [b0, b1, b2, b3] G P) (hd1 : d' + 1 ≤ d) (h1 : cs.1 ≤ mc) (h2 : cs.2 ≤ ms) (hw : (rest.map fun v => v.category).sum ≤ 8) (k : ∀ (r : Int32) (G' : AH), P r G' → Wp E d mc ms K Q G' cs (pc + 3) L (.int r :: rest)) : Wp E d mc ms K Q G cs pc L (b3 :: b2 :: b1 :: b0 :: rest) := wc_J hd lk hh (As := [b0, b1, b2, b3]) rfl hd1 hc rfl hw h1 h2 (fun v9 G9 h => by obtain ⟨r, h, hp⟩ := h; cases h; exact k _ _ hp) (fun X G9 h => by obtain ⟨r, h, -⟩ := h; cases h)
theorem wJ4d {idx d' : Nat} {K' : MR} {b0 b1 b2 b3 : Value} {rest : List Value} {P : AH → Prop} (hd : decode K.2.1 pc = .ok (.invokestatic idx, 3)) (lk : LkJ K.1.cls idx K' 4) (hh : K'.2.2.2.2 = []) (hc : Cd E d' K' [b0, b1, b2, b3] G P) (hd1 : d' + 1 ≤ d) (h1 : cs.1 ≤ mc) (h2 : cs.2 ≤ ms) (hw : (rest.map fun v => v.category).sum ≤ 8) (k : ∀ G' : AH, P G' → Wp E d mc ms K Q G' cs (pc + 3) L rest) : Wp E d mc ms K Q G cs pc L (b3 :: b2 :: b1 :: b0 :: rest) := wc_J hd lk hh (As := [b0, b1, b2, b3]) rfl hd1 hc rfl hw h1 h2 (fun v9 G9 h => by obtain ⟨h, hp⟩ := h; cases h; exact k _ hp) (fun X G9 h => by cases h.1)
theorem wJ5u {idx d' : Nat} {K' : MR} {b0 b1 b2 b3 b4 : Value} {rest : List Value} {v : Value} {G' : AH} (hd : decode K.2.1 pc = .ok (.invokestatic idx, 3)) (lk : LkJ K.1.cls idx K' 5) (hh : K'.2.2.2.2 = []) (hc : Cu E d' K' [b0, b1, b2, b3, b4] G v G') (hd1 : d' + 1 ≤ d) (h1 : cs.1 ≤ mc) (h2 : cs.2 ≤ ms) (hw : (rest.map fun v => v.category).sum ≤ 8) (k : Wp E d mc ms K Q G' cs (pc + 3) L (v :: rest)) : Wp E d mc ms K Q G cs pc L (b4 :: b3 :: b2 :: b1 :: b0 :: rest) := wc_J hd lk hh (As := [b0, b1, b2, b3, b4]) rfl hd1 hc rfl hw h1 h2 (fun v9 G9 h => by obtain ⟨h, rfl⟩ := h; cases h; exact k) (fun X G9 h => by cases h.1)
theorem wJ5n {idx d' : Nat} {K' : MR} {b0 b1 b2 b3 b4 : Value} {rest : List Value} {G' : AH} (hd : decode K.2.1 pc = .ok (.invokestatic idx, 3)) (lk : LkJ K.1.cls idx K' 5) (hh : K'.2.2.2.2 = []) (hc : Cn E d' K' [b0, b1, b2, b3, b4] G G') (hd1 : d' + 1 ≤ d) (h1 : cs.1 ≤ mc) (h2 : cs.2 ≤ ms) (hw : (rest.map fun v => v.category).sum ≤ 8) (k : Wp E d mc ms K Q G' cs (pc + 3) L rest) : Wp E d mc ms K Q G cs pc L (b4 :: b3 :: b2 :: b1 :: b0 :: rest) := wc_J hd lk hh (As := [b0, b1, b2, b3, b4]) rfl hd1 hc rfl hw h1 h2 (fun v9 G9 h => by obtain ⟨h, rfl⟩ := h; cases h; exact k) (fun X G9 h => by cases h.1)
theorem wJ5i {idx d' : Nat} {K' : MR} {b0 b1 b2 b3 b4 : Value} {rest : List Value} {P : Int32 → AH → Prop} (hd : decode K.2.1 pc = .ok (.invokestatic idx, 3)) (lk : LkJ K.1.cls idx K' 5) (hh : K'.2.2.2.2 = []) (hc : Ci E d' K' [b0, b1, b2, b3, b4] G P) (hd1 : d' + 1 ≤ d) (h1 : cs.1 ≤ mc) (h2 : cs.2 ≤ ms) (hw : (rest.map fun v => v.category).sum ≤ 8) (k : ∀ (r : Int32) (G' : AH), P r G' → Wp E d mc ms K Q G' cs (pc + 3) L (.int r :: rest)) : Wp E d mc ms K Q G cs pc L (b4 :: b3 :: b2 :: b1 :: b0 :: rest) := wc_J hd lk hh (As := [b0, b1, b2, b3, b4]) rfl hd1 hc rfl hw h1 h2 (fun v9 G9 h => by obtain ⟨r, h, hp⟩ := h; cases h; exact k _ _ hp) (fun X G9 h => by obtain ⟨r, h, -⟩ := h; cases h)
theorem wJ5d {idx d' : Nat} {K' : MR} {b0 b1 b2 b3 b4 : Value} {rest : List Value} {P : AH → Prop} (hd : decode K.2.1 pc = .ok (.invokestatic idx, 3)) (lk : LkJ K.1.cls idx K' 5) (hh : K'.2.2.2.2 = []) (hc : Cd E d' K' [b0, b1, b2, b3, b4] G P) (hd1 : d' + 1 ≤ d) (h1 : cs.1 ≤ mc) (h2 : cs.2 ≤ ms) (hw : (rest.map fun v => v.category).sum ≤ 8) (k : ∀ G' : AH, P G' → Wp E d mc ms K Q G' cs (pc + 3) L rest) : Wp E d mc ms K Q G cs pc L (b4 :: b3 :: b2 :: b1 :: b0 :: rest) := wc_J hd lk hh (As := [b0, b1, b2, b3, b4]) rfl hd1 hc rfl hw h1 h2 (fun v9 G9 h => by obtain ⟨h, hp⟩ := h; cases h; exact k _ hp) (fun X G9 h => by cases h.1)
theorem wJ6u {idx d' : Nat} {K' : MR} {b0 b1 b2 b3 b4 b5 : Value} {rest : List Value} {v : Value} {G' : AH} (hd : decode K.2.1 pc = .ok (.invokestatic idx, 3)) (lk : LkJ K.1.cls idx K' 6) (hh : K'.2.2.2.2 = []) (hc : Cu E d' K' [b0, b1, b2, b3, b4, b5] G v G') (hd1 : d' + 1 ≤ d) (h1 : cs.1 ≤ mc) (h2 : cs.2 ≤ ms) (hw : (rest.map fun v => v.category).sum ≤ 8) (k : Wp E d mc ms K Q G' cs (pc + 3) L (v :: rest)) : Wp E d mc ms K Q G cs pc L (b5 :: b4 :: b3 :: b2 :: b1 :: b0 :: rest) := wc_J hd lk hh (As := [b0, b1, b2, b3, b4, b5]) rfl hd1 hc rfl hw h1 h2 (fun v9 G9 h => by obtain ⟨h, rfl⟩ := h; cases h; exact k) (fun X G9 h => by cases h.1)
theorem wJ6n {idx d' : Nat} {K' : MR} {b0 b1 b2 b3 b4 b5 : Value} {rest : List Value} {G' : AH} (hd : decode K.2.1 pc = .ok (.invokestatic idx, 3)) (lk : LkJ K.1.cls idx K' 6) (hh : K'.2.2.2.2 = []) (hc : Cn E d' K' [b0, b1, b2, b3, b4, b5] G G') (hd1 : d' + 1 ≤ d) (h1 : cs.1 ≤ mc) (h2 : cs.2 ≤ ms) (hw : (rest.map fun v => v.category).sum ≤ 8) (k : Wp E d mc ms K Q G' cs (pc + 3) L rest) : Wp E d mc ms K Q G cs pc L (b5 :: b4 :: b3 :: b2 :: b1 :: b0 :: rest) := wc_J hd lk hh (As := [b0, b1, b2, b3, b4, b5]) rfl hd1 hc rfl hw h1 h2 (fun v9 G9 h => by obtain ⟨h, rfl⟩ := h; cases h; exact k) (fun X G9 h => by cases h.1)
theorem wJ6i {idx d' : Nat} {K' : MR} {b0 b1 b2 b3 b4 b5 : Value} {rest : List Value} {P : Int32 → AH → Prop} (hd : decode K.2.1 pc = .ok (.invokestatic idx, 3)) (lk : LkJ K.1.cls idx K' 6) (hh : K'.2.2.2.2 = []) (hc : Ci E d' K' [b0, b1, b2, b3, b4, b5] G P) (hd1 : d' + 1 ≤ d) (h1 : cs.1 ≤ mc) (h2 : cs.2 ≤ ms) (hw : (rest.map fun v => v.category).sum ≤ 8) (k : ∀ (r : Int32) (G' : AH), P r G' → Wp E d mc ms K Q G' cs (pc + 3) L (.int r :: rest)) : Wp E d mc ms K Q G cs pc L (b5 :: b4 :: b3 :: b2 :: b1 :: b0 :: rest) := wc_J hd lk hh (As := [b0, b1, b2, b3, b4, b5]) rfl hd1 hc rfl hw h1 h2 (fun v9 G9 h => by obtain ⟨r, h, hp⟩ := h; cases h; exact k _ _ hp) (fun X G9 h => by obtain ⟨r, h, -⟩ := h; cases h)
theorem wJ6d {idx d' : Nat} {K' : MR} {b0 b1 b2 b3 b4 b5 : Value} {rest : List Value} {P : AH → Prop} (hd : decode K.2.1 pc = .ok (.invokestatic idx, 3)) (lk : LkJ K.1.cls idx K' 6) (hh : K'.2.2.2.2 = []) (hc : Cd E d' K' [b0, b1, b2, b3, b4, b5] G P) (hd1 : d' + 1 ≤ d) (h1 : cs.1 ≤ mc) (h2 : cs.2 ≤ ms) (hw : (rest.map fun v => v.category).sum ≤ 8) (k : ∀ G' : AH, P G' → Wp E d mc ms K Q G' cs (pc + 3) L rest) : Wp E d mc ms K Q G cs pc L (b5 :: b4 :: b3 :: b2 :: b1 :: b0 :: rest) := wc_J hd lk hh (As := [b0, b1, b2, b3, b4, b5]) rfl hd1 hc rfl hw h1 h2 (fun v9 G9 h => by obtain ⟨h, hp⟩ := h; cases h; exact k _ hp) (fun X G9 h => by cases h.1)
theorem wN0u {idx d' : Nat} {K' : MR} {rest : List Value} {v : Value} {G' : AH} (hd : decode K.2.1 pc = .ok (.invokestatic idx, 3)) (lk : LkN K.1.cls idx K' 0) (hh : K'.2.2.2.2 = []) (hc : Cu E d' K' [] G v G') (hd1 : d' + 1 ≤ d) (h1 : cs.1 ≤ mc) (h2 : cs.2 ≤ ms) (hw : (rest.map fun v => v.category).sum ≤ 8) (k : Wp E d mc ms K Q G' cs (pc + 3) L (v :: rest)) : Wp E d mc ms K Q G cs pc L rest := wc_N hd lk hh (As := []) rfl hd1 hc rfl hw h1 h2 (fun v9 G9 h => by obtain ⟨h, rfl⟩ := h; cases h; exact k) (fun X G9 h => by cases h.1)
theorem wN0n {idx d' : Nat} {K' : MR} {rest : List Value} {G' : AH} (hd : decode K.2.1 pc = .ok (.invokestatic idx, 3)) (lk : LkN K.1.cls idx K' 0) (hh : K'.2.2.2.2 = []) (hc : Cn E d' K' [] G G') (hd1 : d' + 1 ≤ d) (h1 : cs.1 ≤ mc) (h2 : cs.2 ≤ ms) (hw : (rest.map fun v => v.category).sum ≤ 8) (k : Wp E d mc ms K Q G' cs (pc + 3) L rest) : Wp E d mc ms K Q G cs pc L rest := wc_N hd lk hh (As := []) rfl hd1 hc rfl hw h1 h2 (fun v9 G9 h => by obtain ⟨h, rfl⟩ := h; cases h; exact k) (fun X G9 h => by cases h.1)
theorem wN0i {idx d' : Nat} {K' : MR} {rest : List Value} {P : Int32 → AH → Prop} (hd : decode K.2.1 pc = .ok (.invokestatic idx, 3)) (lk : LkN K.1.cls idx K' 0) (hh : K'.2.2.2.2 = []) (hc : Ci E d' K' [] G P) (hd1 : d' + 1 ≤ d) (h1 : cs.1 ≤ mc) (h2 : cs.2 ≤ ms) (hw : (rest.map fun v => v.category).sum ≤ 8) (k : ∀ (r : Int32) (G' : AH), P r G' → Wp E d mc ms K Q G' cs (pc + 3) L (.int r :: rest)) : Wp E d mc ms K Q G cs pc L rest := wc_N hd lk hh (As := []) rfl hd1 hc rfl hw h1 h2 (fun v9 G9 h => by obtain ⟨r, h, hp⟩ := h; cases h; exact k _ _ hp) (fun X G9 h => by obtain ⟨r, h, -⟩ := h; cases h)
theorem wN0d {idx d' : Nat} {K' : MR} {rest : List Value} {P : AH → Prop} (hd : decode K.2.1 pc = .ok (.invokestatic idx, 3)) (lk : LkN K.1.cls idx K' 0) (hh : K'.2.2.2.2 = []) (hc : Cd E d' K' [] G P) (hd1 : d' + 1 ≤ d) (h1 : cs.1 ≤ mc) (h2 : cs.2 ≤ ms) (hw : (rest.map fun v => v.category).sum ≤ 8) (k : ∀ G' : AH, P G' → Wp E d mc ms K Q G' cs (pc + 3) L rest) : Wp E d mc ms K Q G cs pc L rest := wc_N hd lk hh (As := []) rfl hd1 hc rfl hw h1 h2 (fun v9 G9 h => by obtain ⟨h, hp⟩ := h; cases h; exact k _ hp) (fun X G9 h => by cases h.1)
theorem wN1u {idx d' : Nat} {K' : MR} {b0 : Value} {rest : List Value} {v : Value} {G' : AH} (hd : decode K.2.1 pc = .ok (.invokestatic idx, 3)) (lk : LkN K.1.cls idx K' 1) (hh : K'.2.2.2.2 = []) (hc : Cu E d' K' [b0] G v G') (hd1 : d' + 1 ≤ d) (h1 : cs.1 ≤ mc) (h2 : cs.2 ≤ ms) (hw : (rest.map fun v => v.category).sum ≤ 8) (k : Wp E d mc ms K Q G' cs (pc + 3) L (v :: rest)) : Wp E d mc ms K Q G cs pc L (b0 :: rest) := wc_N hd lk hh (As := [b0]) rfl hd1 hc rfl hw h1 h2 (fun v9 G9 h => by obtain ⟨h, rfl⟩ := h; cases h; exact k) (fun X G9 h => by cases h.1)
theorem wN1n {idx d' : Nat} {K' : MR} {b0 : Value} {rest : List Value} {G' : AH} (hd : decode K.2.1 pc = .ok (.invokestatic idx, 3)) (lk : LkN K.1.cls idx K' 1) (hh : K'.2.2.2.2 = []) (hc : Cn E d' K' [b0] G G') (hd1 : d' + 1 ≤ d) (h1 : cs.1 ≤ mc) (h2 : cs.2 ≤ ms) (hw : (rest.map fun v => v.category).sum ≤ 8) (k : Wp E d mc ms K Q G' cs (pc + 3) L rest) : Wp E d mc ms K Q G cs pc L (b0 :: rest) := wc_N hd lk hh (As := [b0]) rfl hd1 hc rfl hw h1 h2 (fun v9 G9 h => by obtain ⟨h, rfl⟩ := h; cases h; exact k) (fun X G9 h => by cases h.1)
theorem wN1i {idx d' : Nat} {K' : MR} {b0 : Value} {rest : List Value} {P : Int32 → AH → Prop} (hd : decode K.2.1 pc = .ok (.invokestatic idx, 3)) (lk : LkN K.1.cls idx K' 1) (hh : K'.2.2.2.2 = []) (hc : Ci E d' K' [b0] G P) (hd1 : d' + 1 ≤ d) (h1 : cs.1 ≤ mc) (h2 : cs.2 ≤ ms) (hw : (rest.map fun v => v.category).sum ≤ 8) (k : ∀ (r : Int32) (G' : AH), P r G' → Wp E d mc ms K Q G' cs (pc + 3) L (.int r :: rest)) : Wp E d mc ms K Q G cs pc L (b0 :: rest) := wc_N hd lk hh (As := [b0]) rfl hd1 hc rfl hw h1 h2 (fun v9 G9 h => by obtain ⟨r, h, hp⟩ := h; cases h; exact k _ _ hp) (fun X G9 h => by obtain ⟨r, h, -⟩ := h; cases h)
theorem wN1d {idx d' : Nat} {K' : MR} {b0 : Value} {rest : List Value} {P : AH → Prop} (hd : decode K.2.1 pc = .ok (.invokestatic idx, 3)) (lk : LkN K.1.cls idx K' 1) (hh : K'.2.2.2.2 = []) (hc : Cd E d' K' [b0] G P) (hd1 : d' + 1 ≤ d) (h1 : cs.1 ≤ mc) (h2 : cs.2 ≤ ms) (hw : (rest.map fun v => v.category).sum ≤ 8) (k : ∀ G' : AH, P G' → Wp E d mc ms K Q G' cs (pc + 3) L rest) : Wp E d mc ms K Q G cs pc L (b0 :: rest) := wc_N hd lk hh (As := [b0]) rfl hd1 hc rfl hw h1 h2 (fun v9 G9 h => by obtain ⟨h, hp⟩ := h; cases h; exact k _ hp) (fun X G9 h => by cases h.1)
theorem wN2u {idx d' : Nat} {K' : MR} {b0 b1 : Value} {rest : List Value} {v : Value} {G' : AH} (hd : decode K.2.1 pc = .ok (.invokestatic idx, 3)) (lk : LkN K.1.cls idx K' 2) (hh : K'.2.2.2.2 = []) (hc : Cu E d' K' [b0, b1] G v G') (hd1 : d' + 1 ≤ d) (h1 : cs.1 ≤ mc) (h2 : cs.2 ≤ ms) (hw : (rest.map fun v => v.category).sum ≤ 8) (k : Wp E d mc ms K Q G' cs (pc + 3) L (v :: rest)) : Wp E d mc ms K Q G cs pc L (b1 :: b0 :: rest) := wc_N hd lk hh (As := [b0, b1]) rfl hd1 hc rfl hw h1 h2 (fun v9 G9 h => by obtain ⟨h, rfl⟩ := h; cases h; exact k) (fun X G9 h => by cases h.1)
theorem wN2n {idx d' : Nat} {K' : MR} {b0 b1 : Value} {rest : List Value} {G' : AH} (hd : decode K.2.1 pc = .ok (.invokestatic idx, 3)) (lk : LkN K.1.cls idx K' 2) (hh : K'.2.2.2.2 = []) (hc : Cn E d' K' [b0, b1] G G') (hd1 : d' + 1 ≤ d) (h1 : cs.1 ≤ mc) (h2 : cs.2 ≤ ms) (hw : (rest.map fun v => v.category).sum ≤ 8) (k : Wp E d mc ms K Q G' cs (pc + 3) L rest) : Wp E d mc ms K Q G cs pc L (b1 :: b0 :: rest) := wc_N hd lk hh (As := [b0, b1]) rfl hd1 hc rfl hw h1 h2 (fun v9 G9 h => by obtain ⟨h, rfl⟩ := h; cases h; exact k) (fun X G9 h => by cases h.1)
theorem wN2i {idx d' : Nat} {K' : MR} {b0 b1 : Value} {rest : List Value} {P : Int32 → AH → Prop} (hd : decode K.2.1 pc = .ok (.invokestatic idx, 3)) (lk : LkN K.1.cls idx K' 2) (hh : K'.2.2.2.2 = []) (hc : Ci E d' K' [b0, b1] G P) (hd1 : d' + 1 ≤ d) (h1 : cs.1 ≤ mc) (h2 : cs.2 ≤ ms) (hw : (rest.map fun v => v.category).sum ≤ 8) (k : ∀ (r : Int32) (G' : AH), P r G' → Wp E d mc ms K Q G' cs (pc + 3) L (.int r :: rest)) : Wp E d mc ms K Q G cs pc L (b1 :: b0 :: rest) := wc_N hd lk hh (As := [b0, b1]) rfl hd1 hc rfl hw h1 h2 (fun v9 G9 h => by obtain ⟨r, h, hp⟩ := h; cases h; exact k _ _ hp) (fun X G9 h => by obtain ⟨r, h, -⟩ := h; cases h)
theorem wN2d {idx d' : Nat} {K' : MR} {b0 b1 : Value} {rest : List Value} {P : AH → Prop} (hd : decode K.2.1 pc = .ok (.invokestatic idx, 3)) (lk : LkN K.1.cls idx K' 2) (hh : K'.2.2.2.2 = []) (hc : Cd E d' K' [b0, b1] G P) (hd1 : d' + 1 ≤ d) (h1 : cs.1 ≤ mc) (h2 : cs.2 ≤ ms) (hw : (rest.map fun v => v.category).sum ≤ 8) (k : ∀ G' : AH, P G' → Wp E d mc ms K Q G' cs (pc + 3) L rest) : Wp E d mc ms K Q G cs pc L (b1 :: b0 :: rest) := wc_N hd lk hh (As := [b0, b1]) rfl hd1 hc rfl hw h1 h2 (fun v9 G9 h => by obtain ⟨h, hp⟩ := h; cases h; exact k _ hp) (fun X G9 h => by cases h.1)
theorem wN3u {idx d' : Nat} {K' : MR} {b0 b1 b2 : Value} {rest : List Value} {v : Value} {G' : AH} (hd : decode K.2.1 pc = .ok (.invokestatic idx, 3)) (lk : LkN K.1.cls idx K' 3) (hh : K'.2.2.2.2 = []) (hc : Cu E d' K' [b0, b1, b2] G v G') (hd1 : d' + 1 ≤ d) (h1 : cs.1 ≤ mc) (h2 : cs.2 ≤ ms) (hw : (rest.map fun v => v.category).sum ≤ 8) (k : Wp E d mc ms K Q G' cs (pc + 3) L (v :: rest)) : Wp E d mc ms K Q G cs pc L (b2 :: b1 :: b0 :: rest) := wc_N hd lk hh (As := [b0, b1, b2]) rfl hd1 hc rfl hw h1 h2 (fun v9 G9 h => by obtain ⟨h, rfl⟩ := h; cases h; exact k) (fun X G9 h => by cases h.1)
theorem wN3n {idx d' : Nat} {K' : MR} {b0 b1 b2 : Value} {rest : List Value} {G' : AH} (hd : decode K.2.1 pc = .ok (.invokestatic idx, 3)) (lk : LkN K.1.cls idx K' 3) (hh : K'.2.2.2.2 = []) (hc : Cn E d' K' [b0, b1, b2] G G') (hd1 : d' + 1 ≤ d) (h1 : cs.1 ≤ mc) (h2 : cs.2 ≤ ms) (hw : (rest.map fun v => v.category).sum ≤ 8) (k : Wp E d mc ms K Q G' cs (pc + 3) L rest) : Wp E d mc ms K Q G cs pc L (b2 :: b1 :: b0 :: rest) := wc_N hd lk hh (As := [b0, b1, b2]) rfl hd1 hc rfl hw h1 h2 (fun v9 G9 h => by obtain ⟨h, rfl⟩ := h; cases h; exact k) (fun X G9 h => by cases h.1)
theorem wN3i {idx d' : Nat} {K' : MR} {b0 b1 b2 : Value} {rest : List Value} {P : Int32 → AH → Prop} (hd : decode K.2.1 pc = .ok (.invokestatic idx, 3)) (lk : LkN K.1.cls idx K' 3) (hh : K'.2.2.2.2 = []) (hc : Ci E d' K' [b0, b1, b2] G P) (hd1 : d' + 1 ≤ d) (h1 : cs.1 ≤ mc) (h2 : cs.2 ≤ ms) (hw : (rest.map fun v => v.category).sum ≤ 8) (k : ∀ (r : Int32) (G' : AH), P r G' → Wp E d mc ms K Q G' cs (pc + 3) L (.int r :: rest)) : Wp E d mc ms K Q G cs pc L (b2 :: b1 :: b0 :: rest) := wc_N hd lk hh (As := [b0, b1, b2]) rfl hd1 hc rfl hw h1 h2 (fun v9 G9 h => by obtain ⟨r, h, hp⟩ := h; cases h; exact k _ _ hp) (fun X G9 h => by obtain ⟨r, h, -⟩ := h; cases h)
theorem wN3d {idx d' : Nat} {K' : MR} {b0 b1 b2 : Value} {rest : List Value} {P : AH → Prop} (hd : decode K.2.1 pc = .ok (.invokestatic idx, 3)) (lk : LkN K.1.cls idx K' 3) (hh : K'.2.2.2.2 = []) (hc : Cd E d' K' [b0, b1, b2] G P) (hd1 : d' + 1 ≤ d) (h1 : cs.1 ≤ mc) (h2 : cs.2 ≤ ms) (hw : (rest.map fun v => v.category).sum ≤ 8) (k : ∀ G' : AH, P G' → Wp E d mc ms K Q G' cs (pc + 3) L rest) : Wp E d mc ms K Q G cs pc L (b2 :: b1 :: b0 :: rest) := wc_N hd lk hh (As := [b0, b1, b2]) rfl hd1 hc rfl hw h1 h2 (fun v9 G9 h => by obtain ⟨h, hp⟩ := h; cases h; exact k _ hp) (fun X G9 h => by cases h.1)
theorem wN4u {idx d' : Nat} {K' : MR} {b0 b1 b2 b3 : Value} {rest : List Value} {v : Value} {G' : AH} (hd : decode K.2.1 pc = .ok (.invokestatic idx, 3)) (lk : LkN K.1.cls idx K' 4) (hh : K'.2.2.2.2 = []) (hc : Cu E d' K' [b0, b1, b2, b3] G v G') (hd1 : d' + 1 ≤ d) (h1 : cs.1 ≤ mc) (h2 : cs.2 ≤ ms) (hw : (rest.map fun v => v.category).sum ≤ 8) (k : Wp E d mc ms K Q G' cs (pc + 3) L (v :: rest)) : Wp E d mc ms K Q G cs pc L (b3 :: b2 :: b1 :: b0 :: rest) := wc_N hd lk hh (As := [b0, b1, b2, b3]) rfl hd1 hc rfl hw h1 h2 (fun v9 G9 h => by obtain ⟨h, rfl⟩ := h; cases h; exact k) (fun X G9 h => by cases h.1)
theorem wN4n {idx d' : Nat} {K' : MR} {b0 b1 b2 b3 : Value} {rest : List Value} {G' : AH} (hd : decode K.2.1 pc = .ok (.invokestatic idx, 3)) (lk : LkN K.1.cls idx K' 4) (hh : K'.2.2.2.2 = []) (hc : Cn E d' K' [b0, b1, b2, b3] G G') (hd1 : d' + 1 ≤ d) (h1 : cs.1 ≤ mc) (h2 : cs.2 ≤ ms) (hw : (rest.map fun v => v.category).sum ≤ 8) (k : Wp E d mc ms K Q G' cs (pc + 3) L rest) : Wp E d mc ms K Q G cs pc L (b3 :: b2 :: b1 :: b0 :: rest) := wc_N hd lk hh (As := [b0, b1, b2, b3]) rfl hd1 hc rfl hw h1 h2 (fun v9 G9 h => by obtain ⟨h, rfl⟩ := h; cases h; exact k) (fun X G9 h => by cases h.1)
theorem wN4i {idx d' : Nat} {K' : MR} {b0 b1 b2 b3 : Value} {rest : List Value} {P : Int32 → AH → Prop} (hd : decode K.2.1 pc = .ok (.invokestatic idx, 3)) (lk : LkN K.1.cls idx K' 4) (hh : K'.2.2.2.2 = []) (hc : Ci E d' K' [b0, b1, b2, b3] G P) (hd1 : d' + 1 ≤ d) (h1 : cs.1 ≤ mc) (h2 : cs.2 ≤ ms) (hw : (rest.map fun v => v.category).sum ≤ 8) (k : ∀ (r : Int32) (G' : AH), P r G' → Wp E d mc ms K Q G' cs (pc + 3) L (.int r :: rest)) : Wp E d mc ms K Q G cs pc L (b3 :: b2 :: b1 :: b0 :: rest) := wc_N hd lk hh (As := [b0, b1, b2, b3]) rfl hd1 hc rfl hw h1 h2 (fun v9 G9 h => by obtain ⟨r, h, hp⟩ := h; cases h; exact k _ _ hp) (fun X G9 h => by obtain ⟨r, h, -⟩ := h; cases h)
theorem wN4d {idx d' : Nat} {K' : MR} {b0 b1 b2 b3 : Value} {rest : List Value} {P : AH → Prop} (hd : decode K.2.1 pc = .ok (.invokestatic idx, 3)) (lk : LkN K.1.cls idx K' 4) (hh : K'.2.2.2.2 = []) (hc : Cd E d' K' [b0, b1, b2, b3] G P) (hd1 : d' + 1 ≤ d) (h1 : cs.1 ≤ mc) (h2 : cs.2 ≤ ms) (hw : (rest.map fun v => v.category).sum ≤ 8) (k : ∀ G' : AH, P G' → Wp E d mc ms K Q G' cs (pc + 3) L rest) : Wp E d mc ms K Q G cs pc L (b3 :: b2 :: b1 :: b0 :: rest) := wc_N hd lk hh (As := [b0, b1, b2, b3]) rfl hd1 hc rfl hw h1 h2 (fun v9 G9 h => by obtain ⟨h, hp⟩ := h; cases h; exact k _ hp) (fun X G9 h => by cases h.1)
theorem wN5u {idx d' : Nat} {K' : MR} {b0 b1 b2 b3 b4 : Value} {rest : List Value} {v : Value} {G' : AH} (hd : decode K.2.1 pc = .ok (.invokestatic idx, 3)) (lk : LkN K.1.cls idx K' 5) (hh : K'.2.2.2.2 = []) (hc : Cu E d' K' [b0, b1, b2, b3, b4] G v G') (hd1 : d' + 1 ≤ d) (h1 : cs.1 ≤ mc) (h2 : cs.2 ≤ ms) (hw : (rest.map fun v => v.category).sum ≤ 8) (k : Wp E d mc ms K Q G' cs (pc + 3) L (v :: rest)) : Wp E d mc ms K Q G cs pc L (b4 :: b3 :: b2 :: b1 :: b0 :: rest) := wc_N hd lk hh (As := [b0, b1, b2, b3, b4]) rfl hd1 hc rfl hw h1 h2 (fun v9 G9 h => by obtain ⟨h, rfl⟩ := h; cases h; exact k) (fun X G9 h => by cases h.1)
theorem wN5n {idx d' : Nat} {K' : MR} {b0 b1 b2 b3 b4 : Value} {rest : List Value} {G' : AH} (hd : decode K.2.1 pc = .ok (.invokestatic idx, 3)) (lk : LkN K.1.cls idx K' 5) (hh : K'.2.2.2.2 = []) (hc : Cn E d' K' [b0, b1, b2, b3, b4] G G') (hd1 : d' + 1 ≤ d) (h1 : cs.1 ≤ mc) (h2 : cs.2 ≤ ms) (hw : (rest.map fun v => v.category).sum ≤ 8) (k : Wp E d mc ms K Q G' cs (pc + 3) L rest) : Wp E d mc ms K Q G cs pc L (b4 :: b3 :: b2 :: b1 :: b0 :: rest) := wc_N hd lk hh (As := [b0, b1, b2, b3, b4]) rfl hd1 hc rfl hw h1 h2 (fun v9 G9 h => by obtain ⟨h, rfl⟩ := h; cases h; exact k) (fun X G9 h => by cases h.1)
theorem wN5i {idx d' : Nat} {K' : MR} {b0 b1 b2 b3 b4 : Value} {rest : List Value} {P : Int32 → AH → Prop} (hd : decode K.2.1 pc = .ok (.invokestatic idx, 3)) (lk : LkN K.1.cls idx K' 5) (hh : K'.2.2.2.2 = []) (hc : Ci E d' K' [b0, b1, b2, b3, b4] G P) (hd1 : d' + 1 ≤ d) (h1 : cs.1 ≤ mc) (h2 : cs.2 ≤ ms) (hw : (rest.map fun v => v.category).sum ≤ 8) (k : ∀ (r : Int32) (G' : AH), P r G' → Wp E d mc ms K Q G' cs (pc + 3) L (.int r :: rest)) : Wp E d mc ms K Q G cs pc L (b4 :: b3 :: b2 :: b1 :: b0 :: rest) := wc_N hd lk hh (As := [b0, b1, b2, b3, b4]) rfl hd1 hc rfl hw h1 h2 (fun v9 G9 h => by obtain ⟨r, h, hp⟩ := h; cases h; exact k _ _ hp) (fun X G9 h => by obtain ⟨r, h, -⟩ := h; cases h)
theorem wN5d {idx d' : Nat} {K' : MR} {b0 b1 b2 b3 b4 : Value} {rest : List Value} {P : AH → Prop} (hd : decode K.2.1 pc = .ok (.invokestatic idx, 3)) (lk : LkN K.1.cls idx K' 5) (hh : K'.2.2.2.2 = []) (hc : Cd E d' K' [b0, b1, b2, b3, b4] G P) (hd1 : d' + 1 ≤ d) (h1 : cs.1 ≤ mc) (h2 : cs.2 ≤ ms) (hw : (rest.map fun v => v.category).sum ≤ 8) (k : ∀ G' : AH, P G' → Wp E d mc ms K Q G' cs (pc + 3) L rest) : Wp E d mc ms K Q G cs pc L (b4 :: b3 :: b2 :: b1 :: b0 :: rest) := wc_N hd lk hh (As := [b0, b1, b2, b3, b4]) rfl hd1 hc rfl hw h1 h2 (fun v9 G9 h => by obtain ⟨h, hp⟩ := h; cases h; exact k _ hp) (fun X G9 h => by cases h.1)
theorem wN6u {idx d' : Nat} {K' : MR} {b0 b1 b2 b3 b4 b5 : Value} {rest : List Value} {v : Value} {G' : AH} (hd : decode K.2.1 pc = .ok (.invokestatic idx, 3)) (lk : LkN K.1.cls idx K' 6) (hh : K'.2.2.2.2 = []) (hc : Cu E d' K' [b0, b1, b2, b3, b4, b5] G v G') (hd1 : d' + 1 ≤ d) (h1 : cs.1 ≤ mc) (h2 : cs.2 ≤ ms) (hw : (rest.map fun v => v.category).sum ≤ 8) (k : Wp E d mc ms K Q G' cs (pc + 3) L (v :: rest)) : Wp E d mc ms K Q G cs pc L (b5 :: b4 :: b3 :: b2 :: b1 :: b0 :: rest) := wc_N hd lk hh (As := [b0, b1, b2, b3, b4, b5]) rfl hd1 hc rfl hw h1 h2 (fun v9 G9 h => by obtain ⟨h, rfl⟩ := h; cases h; exact k) (fun X G9 h => by cases h.1)
theorem wN6n {idx d' : Nat} {K' : MR} {b0 b1 b2 b3 b4 b5 : Value} {rest : List Value} {G' : AH} (hd : decode K.2.1 pc = .ok (.invokestatic idx, 3)) (lk : LkN K.1.cls idx K' 6) (hh : K'.2.2.2.2 = []) (hc : Cn E d' K' [b0, b1, b2, b3, b4, b5] G G') (hd1 : d' + 1 ≤ d) (h1 : cs.1 ≤ mc) (h2 : cs.2 ≤ ms) (hw : (rest.map fun v => v.category).sum ≤ 8) (k : Wp E d mc ms K Q G' cs (pc + 3) L rest) : Wp E d mc ms K Q G cs pc L (b5 :: b4 :: b3 :: b2 :: b1 :: b0 :: rest) := wc_N hd lk hh (As := [b0, b1, b2, b3, b4, b5]) rfl hd1 hc rfl hw h1 h2 (fun v9 G9 h => by obtain ⟨h, rfl⟩ := h; cases h; exact k) (fun X G9 h => by cases h.1)
theorem wN6i {idx d' : Nat} {K' : MR} {b0 b1 b2 b3 b4 b5 : Value} {rest : List Value} {P : Int32 → AH → Prop} (hd : decode K.2.1 pc = .ok (.invokestatic idx, 3)) (lk : LkN K.1.cls idx K' 6) (hh : K'.2.2.2.2 = []) (hc : Ci E d' K' [b0, b1, b2, b3, b4, b5] G P) (hd1 : d' + 1 ≤ d) (h1 : cs.1 ≤ mc) (h2 : cs.2 ≤ ms) (hw : (rest.map fun v => v.category).sum ≤ 8) (k : ∀ (r : Int32) (G' : AH), P r G' → Wp E d mc ms K Q G' cs (pc + 3) L (.int r :: rest)) : Wp E d mc ms K Q G cs pc L (b5 :: b4 :: b3 :: b2 :: b1 :: b0 :: rest) := wc_N hd lk hh (As := [b0, b1, b2, b3, b4, b5]) rfl hd1 hc rfl hw h1 h2 (fun v9 G9 h => by obtain ⟨r, h, hp⟩ := h; cases h; exact k _ _ hp) (fun X G9 h => by obtain ⟨r, h, -⟩ := h; cases h)
theorem wN6d {idx d' : Nat} {K' : MR} {b0 b1 b2 b3 b4 b5 : Value} {rest : List Value} {P : AH → Prop} (hd : decode K.2.1 pc = .ok (.invokestatic idx, 3)) (lk : LkN K.1.cls idx K' 6) (hh : K'.2.2.2.2 = []) (hc : Cd E d' K' [b0, b1, b2, b3, b4, b5] G P) (hd1 : d' + 1 ≤ d) (h1 : cs.1 ≤ mc) (h2 : cs.2 ≤ ms) (hw : (rest.map fun v => v.category).sum ≤ 8) (k : ∀ G' : AH, P G' → Wp E d mc ms K Q G' cs (pc + 3) L rest) : Wp E d mc ms K Q G cs pc L (b5 :: b4 :: b3 :: b2 :: b1 :: b0 :: rest) := wc_N hd lk hh (As := [b0, b1, b2, b3, b4, b5]) rfl hd1 hc rfl hw h1 h2 (fun v9 G9 h => by obtain ⟨h, hp⟩ := h; cases h; exact k _ hp) (fun X G9 h => by cases h.1)
theorem wV0u {idx d' : Nat} {a ci : Nat} {vs : List Value} {q : vw_C} {K' : MR} {rest : List Value} {v : Value} {G' : AH} (hd : decode K.2.1 pc = .ok (.invokevirtual idx, 3)) (lk : LkV K.1.cls idx K' 0) (hh : K'.2.2.2.2 = []) (hGa : G.1 a = some (oB ci vs)) (hq : vwCl[ci]? = some q) (hqc : q.1 = K'.1.cls) (hc : Cu E d' K' [.ref a] G v G') (hd1 : d' + 1 ≤ d) (h1 : cs.1 ≤ mc) (h2 : cs.2 ≤ ms) (hw : (rest.map fun v => v.category).sum ≤ 8) (k : Wp E d mc ms K Q G' cs (pc + 3) L (v :: rest)) : Wp E d mc ms K Q G cs pc L (.ref a :: rest) := wc_V hd lk hh (As := []) rfl hGa hq hqc hd1 hc rfl hw h1 h2 (fun v9 G9 h => by obtain ⟨h, rfl⟩ := h; cases h; exact k) (fun X G9 h => by cases h.1)
theorem wV0n {idx d' : Nat} {a ci : Nat} {vs : List Value} {q : vw_C} {K' : MR} {rest : List Value} {G' : AH} (hd : decode K.2.1 pc = .ok (.invokevirtual idx, 3)) (lk : LkV K.1.cls idx K' 0) (hh : K'.2.2.2.2 = []) (hGa : G.1 a = some (oB ci vs)) (hq : vwCl[ci]? = some q) (hqc : q.1 = K'.1.cls) (hc : Cn E d' K' [.ref a] G G') (hd1 : d' + 1 ≤ d) (h1 : cs.1 ≤ mc) (h2 : cs.2 ≤ ms) (hw : (rest.map fun v => v.category).sum ≤ 8) (k : Wp E d mc ms K Q G' cs (pc + 3) L rest) : Wp E d mc ms K Q G cs pc L (.ref a :: rest) := wc_V hd lk hh (As := []) rfl hGa hq hqc hd1 hc rfl hw h1 h2 (fun v9 G9 h => by obtain ⟨h, rfl⟩ := h; cases h; exact k) (fun X G9 h => by cases h.1)
theorem wV0i {idx d' : Nat} {a ci : Nat} {vs : List Value} {q : vw_C} {K' : MR} {rest : List Value} {P : Int32 → AH → Prop} (hd : decode K.2.1 pc = .ok (.invokevirtual idx, 3)) (lk : LkV K.1.cls idx K' 0) (hh : K'.2.2.2.2 = []) (hGa : G.1 a = some (oB ci vs)) (hq : vwCl[ci]? = some q) (hqc : q.1 = K'.1.cls) (hc : Ci E d' K' [.ref a] G P) (hd1 : d' + 1 ≤ d) (h1 : cs.1 ≤ mc) (h2 : cs.2 ≤ ms) (hw : (rest.map fun v => v.category).sum ≤ 8) (k : ∀ (r : Int32) (G' : AH), P r G' → Wp E d mc ms K Q G' cs (pc + 3) L (.int r :: rest)) : Wp E d mc ms K Q G cs pc L (.ref a :: rest) := wc_V hd lk hh (As := []) rfl hGa hq hqc hd1 hc rfl hw h1 h2 (fun v9 G9 h => by obtain ⟨r, h, hp⟩ := h; cases h; exact k _ _ hp) (fun X G9 h => by obtain ⟨r, h, -⟩ := h; cases h)
theorem wV0d {idx d' : Nat} {a ci : Nat} {vs : List Value} {q : vw_C} {K' : MR} {rest : List Value} {P : AH → Prop} (hd : decode K.2.1 pc = .ok (.invokevirtual idx, 3)) (lk : LkV K.1.cls idx K' 0) (hh : K'.2.2.2.2 = []) (hGa : G.1 a = some (oB ci vs)) (hq : vwCl[ci]? = some q) (hqc : q.1 = K'.1.cls) (hc : Cd E d' K' [.ref a] G P) (hd1 : d' + 1 ≤ d) (h1 : cs.1 ≤ mc) (h2 : cs.2 ≤ ms) (hw : (rest.map fun v => v.category).sum ≤ 8) (k : ∀ G' : AH, P G' → Wp E d mc ms K Q G' cs (pc + 3) L rest) : Wp E d mc ms K Q G cs pc L (.ref a :: rest) := wc_V hd lk hh (As := []) rfl hGa hq hqc hd1 hc rfl hw h1 h2 (fun v9 G9 h => by obtain ⟨h, hp⟩ := h; cases h; exact k _ hp) (fun X G9 h => by cases h.1)
theorem wV0k {idx d' : Nat} {a ci : Nat} {vs : List Value} {q : vw_C} {K' : MR} {rest : List Value} {ok : Prop} {X : String} (hd : decode K.2.1 pc = .ok (.invokevirtual idx, 3)) (lk : LkV K.1.cls idx K' 0) (hh : K'.2.2.2.2 = []) (hGa : G.1 a = some (oB ci vs)) (hq : vwCl[ci]? = some q) (hqc : q.1 = K'.1.cls) (hK : K.2.2.2.2 = []) (hc : Ck E d' K' [.ref a] G ok X) (hd1 : d' + 1 ≤ d) (h1 : cs.1 + 1 ≤ mc) (h2 : cs.2 + 6 ≤ ms) (hw : (rest.map fun v => v.category).sum ≤ 8) (kx : ¬ ok → ∀ n9, G.2 ≤ n9 → Q (.inr X) (G.1, n9)) (k : ok → Wp E d mc ms K Q G (cs.1 + 1, cs.2 + 6) (pc + 3) L rest) : Wp E d mc ms K Q G cs pc L (.ref a :: rest) := wc_V hd lk hh (As := []) rfl hGa hq hqc hd1 hc rfl hw h1 h2 (fun v9 G9 h => by rcases h with ⟨ok, h, rfl⟩ | ⟨-, h, -⟩ <;> cases h; exact k ok) (fun X9 G9 h => by rcases h with ⟨-, h, -⟩ | ⟨nok, h, e1, e2⟩ <;> cases h; exact wx_out hK h1 h2 (by have := kx nok G9.2 e2; rw [← e1] at this; exact this))
theorem wV1u {idx d' : Nat} {a ci : Nat} {vs : List Value} {q : vw_C} {K' : MR} {b0 : Value} {rest : List Value} {v : Value} {G' : AH} (hd : decode K.2.1 pc = .ok (.invokevirtual idx, 3)) (lk : LkV K.1.cls idx K' 1) (hh : K'.2.2.2.2 = []) (hGa : G.1 a = some (oB ci vs)) (hq : vwCl[ci]? = some q) (hqc : q.1 = K'.1.cls) (hc : Cu E d' K' [.ref a, b0] G v G') (hd1 : d' + 1 ≤ d) (h1 : cs.1 ≤ mc) (h2 : cs.2 ≤ ms) (hw : (rest.map fun v => v.category).sum ≤ 8) (k : Wp E d mc ms K Q G' cs (pc + 3) L (v :: rest)) : Wp E d mc ms K Q G cs pc L (b0 :: .ref a :: rest) := wc_V hd lk hh (As := [b0]) rfl hGa hq hqc hd1 hc rfl hw h1 h2 (fun v9 G9 h => by obtain ⟨h, rfl⟩ := h; cases h; exact k) (fun X G9 h => by cases h.1)
theorem wV1n {idx d' : Nat} {a ci : Nat} {vs : List Value} {q : vw_C} {K' : MR} {b0 : Value} {rest : List Value} {G' : AH} (hd : decode K.2.1 pc = .ok (.invokevirtual idx, 3)) (lk : LkV K.1.cls idx K' 1) (hh : K'.2.2.2.2 = []) (hGa : G.1 a = some (oB ci vs)) (hq : vwCl[ci]? = some q) (hqc : q.1 = K'.1.cls) (hc : Cn E d' K' [.ref a, b0] G G') (hd1 : d' + 1 ≤ d) (h1 : cs.1 ≤ mc) (h2 : cs.2 ≤ ms) (hw : (rest.map fun v => v.category).sum ≤ 8) (k : Wp E d mc ms K Q G' cs (pc + 3) L rest) : Wp E d mc ms K Q G cs pc L (b0 :: .ref a :: rest) := wc_V hd lk hh (As := [b0]) rfl hGa hq hqc hd1 hc rfl hw h1 h2 (fun v9 G9 h => by obtain ⟨h, rfl⟩ := h; cases h; exact k) (fun X G9 h => by cases h.1)
theorem wV1i {idx d' : Nat} {a ci : Nat} {vs : List Value} {q : vw_C} {K' : MR} {b0 : Value} {rest : List Value} {P : Int32 → AH → Prop} (hd : decode K.2.1 pc = .ok (.invokevirtual idx, 3)) (lk : LkV K.1.cls idx K' 1) (hh : K'.2.2.2.2 = []) (hGa : G.1 a = some (oB ci vs)) (hq : vwCl[ci]? = some q) (hqc : q.1 = K'.1.cls) (hc : Ci E d' K' [.ref a, b0] G P) (hd1 : d' + 1 ≤ d) (h1 : cs.1 ≤ mc) (h2 : cs.2 ≤ ms) (hw : (rest.map fun v => v.category).sum ≤ 8) (k : ∀ (r : Int32) (G' : AH), P r G' → Wp E d mc ms K Q G' cs (pc + 3) L (.int r :: rest)) : Wp E d mc ms K Q G cs pc L (b0 :: .ref a :: rest) := wc_V hd lk hh (As := [b0]) rfl hGa hq hqc hd1 hc rfl hw h1 h2 (fun v9 G9 h => by obtain ⟨r, h, hp⟩ := h; cases h; exact k _ _ hp) (fun X G9 h => by obtain ⟨r, h, -⟩ := h; cases h)
theorem wV1d {idx d' : Nat} {a ci : Nat} {vs : List Value} {q : vw_C} {K' : MR} {b0 : Value} {rest : List Value} {P : AH → Prop} (hd : decode K.2.1 pc = .ok (.invokevirtual idx, 3)) (lk : LkV K.1.cls idx K' 1) (hh : K'.2.2.2.2 = []) (hGa : G.1 a = some (oB ci vs)) (hq : vwCl[ci]? = some q) (hqc : q.1 = K'.1.cls) (hc : Cd E d' K' [.ref a, b0] G P) (hd1 : d' + 1 ≤ d) (h1 : cs.1 ≤ mc) (h2 : cs.2 ≤ ms) (hw : (rest.map fun v => v.category).sum ≤ 8) (k : ∀ G' : AH, P G' → Wp E d mc ms K Q G' cs (pc + 3) L rest) : Wp E d mc ms K Q G cs pc L (b0 :: .ref a :: rest) := wc_V hd lk hh (As := [b0]) rfl hGa hq hqc hd1 hc rfl hw h1 h2 (fun v9 G9 h => by obtain ⟨h, hp⟩ := h; cases h; exact k _ hp) (fun X G9 h => by cases h.1)
theorem wV1k {idx d' : Nat} {a ci : Nat} {vs : List Value} {q : vw_C} {K' : MR} {b0 : Value} {rest : List Value} {ok : Prop} {X : String} (hd : decode K.2.1 pc = .ok (.invokevirtual idx, 3)) (lk : LkV K.1.cls idx K' 1) (hh : K'.2.2.2.2 = []) (hGa : G.1 a = some (oB ci vs)) (hq : vwCl[ci]? = some q) (hqc : q.1 = K'.1.cls) (hK : K.2.2.2.2 = []) (hc : Ck E d' K' [.ref a, b0] G ok X) (hd1 : d' + 1 ≤ d) (h1 : cs.1 + 1 ≤ mc) (h2 : cs.2 + 6 ≤ ms) (hw : (rest.map fun v => v.category).sum ≤ 8) (kx : ¬ ok → ∀ n9, G.2 ≤ n9 → Q (.inr X) (G.1, n9)) (k : ok → Wp E d mc ms K Q G (cs.1 + 1, cs.2 + 6) (pc + 3) L rest) : Wp E d mc ms K Q G cs pc L (b0 :: .ref a :: rest) := wc_V hd lk hh (As := [b0]) rfl hGa hq hqc hd1 hc rfl hw h1 h2 (fun v9 G9 h => by rcases h with ⟨ok, h, rfl⟩ | ⟨-, h, -⟩ <;> cases h; exact k ok) (fun X9 G9 h => by rcases h with ⟨-, h, -⟩ | ⟨nok, h, e1, e2⟩ <;> cases h; exact wx_out hK h1 h2 (by have := kx nok G9.2 e2; rw [← e1] at this; exact this))
theorem wV2u {idx d' : Nat} {a ci : Nat} {vs : List Value} {q : vw_C} {K' : MR} {b0 b1 : Value} {rest : List Value} {v : Value} {G' : AH} (hd : decode K.2.1 pc = .ok (.invokevirtual idx, 3)) (lk : LkV K.1.cls idx K' 2) (hh : K'.2.2.2.2 = []) (hGa : G.1 a = some (oB ci vs)) (hq : vwCl[ci]? = some q) (hqc : q.1 = K'.1.cls) (hc : Cu E d' K' [.ref a, b0, b1] G v G') (hd1 : d' + 1 ≤ d) (h1 : cs.1 ≤ mc) (h2 : cs.2 ≤ ms) (hw : (rest.map fun v => v.category).sum ≤ 8) (k : Wp E d mc ms K Q G' cs (pc + 3) L (v :: rest)) : Wp E d mc ms K Q G cs pc L (b1 :: b0 :: .ref a :: rest) := wc_V hd lk hh (As := [b0, b1]) rfl hGa hq hqc hd1 hc rfl hw h1 h2 (fun v9 G9 h => by obtain ⟨h, rfl⟩ := h; cases h; exact k) (fun X G9 h => by cases h.1)
theorem wV2n {idx d' : Nat} {a ci : Nat} {vs : List Value} {q : vw_C} {K' : MR} {b0 b1 : Value} {rest : List Value} {G' : AH} (hd : decode K.2.1 pc = .ok (.invokevirtual idx, 3)) (lk : LkV K.1.cls idx K' 2) (hh : K'.2.2.2.2 = []) (hGa : G.1 a = some (oB ci vs)) (hq : vwCl[ci]? = some q) (hqc : q.1 = K'.1.cls) (hc : Cn E d' K' [.ref a, b0, b1] G G') (hd1 : d' + 1 ≤ d) (h1 : cs.1 ≤ mc) (h2 : cs.2 ≤ ms) (hw : (rest.map fun v => v.category).sum ≤ 8) (k : Wp E d mc ms K Q G' cs (pc + 3) L rest) : Wp E d mc ms K Q G cs pc L (b1 :: b0 :: .ref a :: rest) := wc_V hd lk hh (As := [b0, b1]) rfl hGa hq hqc hd1 hc rfl hw h1 h2 (fun v9 G9 h => by obtain ⟨h, rfl⟩ := h; cases h; exact k) (fun X G9 h => by cases h.1)
theorem wV2i {idx d' : Nat} {a ci : Nat} {vs : List Value} {q : vw_C} {K' : MR} {b0 b1 : Value} {rest : List Value} {P : Int32 → AH → Prop} (hd : decode K.2.1 pc = .ok (.invokevirtual idx, 3)) (lk : LkV K.1.cls idx K' 2) (hh : K'.2.2.2.2 = []) (hGa : G.1 a = some (oB ci vs)) (hq : vwCl[ci]? = some q) (hqc : q.1 = K'.1.cls) (hc : Ci E d' K' [.ref a, b0, b1] G P) (hd1 : d' + 1 ≤ d) (h1 : cs.1 ≤ mc) (h2 : cs.2 ≤ ms) (hw : (rest.map fun v => v.category).sum ≤ 8) (k : ∀ (r : Int32) (G' : AH), P r G' → Wp E d mc ms K Q G' cs (pc + 3) L (.int r :: rest)) : Wp E d mc ms K Q G cs pc L (b1 :: b0 :: .ref a :: rest) := wc_V hd lk hh (As := [b0, b1]) rfl hGa hq hqc hd1 hc rfl hw h1 h2 (fun v9 G9 h => by obtain ⟨r, h, hp⟩ := h; cases h; exact k _ _ hp) (fun X G9 h => by obtain ⟨r, h, -⟩ := h; cases h)
theorem wV2d {idx d' : Nat} {a ci : Nat} {vs : List Value} {q : vw_C} {K' : MR} {b0 b1 : Value} {rest : List Value} {P : AH → Prop} (hd : decode K.2.1 pc = .ok (.invokevirtual idx, 3)) (lk : LkV K.1.cls idx K' 2) (hh : K'.2.2.2.2 = []) (hGa : G.1 a = some (oB ci vs)) (hq : vwCl[ci]? = some q) (hqc : q.1 = K'.1.cls) (hc : Cd E d' K' [.ref a, b0, b1] G P) (hd1 : d' + 1 ≤ d) (h1 : cs.1 ≤ mc) (h2 : cs.2 ≤ ms) (hw : (rest.map fun v => v.category).sum ≤ 8) (k : ∀ G' : AH, P G' → Wp E d mc ms K Q G' cs (pc + 3) L rest) : Wp E d mc ms K Q G cs pc L (b1 :: b0 :: .ref a :: rest) := wc_V hd lk hh (As := [b0, b1]) rfl hGa hq hqc hd1 hc rfl hw h1 h2 (fun v9 G9 h => by obtain ⟨h, hp⟩ := h; cases h; exact k _ hp) (fun X G9 h => by cases h.1)
theorem wV2k {idx d' : Nat} {a ci : Nat} {vs : List Value} {q : vw_C} {K' : MR} {b0 b1 : Value} {rest : List Value} {ok : Prop} {X : String} (hd : decode K.2.1 pc = .ok (.invokevirtual idx, 3)) (lk : LkV K.1.cls idx K' 2) (hh : K'.2.2.2.2 = []) (hGa : G.1 a = some (oB ci vs)) (hq : vwCl[ci]? = some q) (hqc : q.1 = K'.1.cls) (hK : K.2.2.2.2 = []) (hc : Ck E d' K' [.ref a, b0, b1] G ok X) (hd1 : d' + 1 ≤ d) (h1 : cs.1 + 1 ≤ mc) (h2 : cs.2 + 6 ≤ ms) (hw : (rest.map fun v => v.category).sum ≤ 8) (kx : ¬ ok → ∀ n9, G.2 ≤ n9 → Q (.inr X) (G.1, n9)) (k : ok → Wp E d mc ms K Q G (cs.1 + 1, cs.2 + 6) (pc + 3) L rest) : Wp E d mc ms K Q G cs pc L (b1 :: b0 :: .ref a :: rest) := wc_V hd lk hh (As := [b0, b1]) rfl hGa hq hqc hd1 hc rfl hw h1 h2 (fun v9 G9 h => by rcases h with ⟨ok, h, rfl⟩ | ⟨-, h, -⟩ <;> cases h; exact k ok) (fun X9 G9 h => by rcases h with ⟨-, h, -⟩ | ⟨nok, h, e1, e2⟩ <;> cases h; exact wx_out hK h1 h2 (by have := kx nok G9.2 e2; rw [← e1] at this; exact this))
theorem wV3u {idx d' : Nat} {a ci : Nat} {vs : List Value} {q : vw_C} {K' : MR} {b0 b1 b2 : Value} {rest : List Value} {v : Value} {G' : AH} (hd : decode K.2.1 pc = .ok (.invokevirtual idx, 3)) (lk : LkV K.1.cls idx K' 3) (hh : K'.2.2.2.2 = []) (hGa : G.1 a = some (oB ci vs)) (hq : vwCl[ci]? = some q) (hqc : q.1 = K'.1.cls) (hc : Cu E d' K' [.ref a, b0, b1, b2] G v G') (hd1 : d' + 1 ≤ d) (h1 : cs.1 ≤ mc) (h2 : cs.2 ≤ ms) (hw : (rest.map fun v => v.category).sum ≤ 8) (k : Wp E d mc ms K Q G' cs (pc + 3) L (v :: rest)) : Wp E d mc ms K Q G cs pc L (b2 :: b1 :: b0 :: .ref a :: rest) := wc_V hd lk hh (As := [b0, b1, b2]) rfl hGa hq hqc hd1 hc rfl hw h1 h2 (fun v9 G9 h => by obtain ⟨h, rfl⟩ := h; cases h; exact k) (fun X G9 h => by cases h.1)
theorem wV3n {idx d' : Nat} {a ci : Nat} {vs : List Value} {q : vw_C} {K' : MR} {b0 b1 b2 : Value} {rest : List Value} {G' : AH} (hd : decode K.2.1 pc = .ok (.invokevirtual idx, 3)) (lk : LkV K.1.cls idx K' 3) (hh : K'.2.2.2.2 = []) (hGa : G.1 a = some (oB ci vs)) (hq : vwCl[ci]? = some q) (hqc : q.1 = K'.1.cls) (hc : Cn E d' K' [.ref a, b0, b1, b2] G G') (hd1 : d' + 1 ≤ d) (h1 : cs.1 ≤ mc) (h2 : cs.2 ≤ ms) (hw : (rest.map fun v => v.category).sum ≤ 8) (k : Wp E d mc ms K Q G' cs (pc + 3) L rest) : Wp E d mc ms K Q G cs pc L (b2 :: b1 :: b0 :: .ref a :: rest) := wc_V hd lk hh (As := [b0, b1, b2]) rfl hGa hq hqc hd1 hc rfl hw h1 h2 (fun v9 G9 h => by obtain ⟨h, rfl⟩ := h; cases h; exact k) (fun X G9 h => by cases h.1)
theorem wV3i {idx d' : Nat} {a ci : Nat} {vs : List Value} {q : vw_C} {K' : MR} {b0 b1 b2 : Value} {rest : List Value} {P : Int32 → AH → Prop} (hd : decode K.2.1 pc = .ok (.invokevirtual idx, 3)) (lk : LkV K.1.cls idx K' 3) (hh : K'.2.2.2.2 = []) (hGa : G.1 a = some (oB ci vs)) (hq : vwCl[ci]? = some q) (hqc : q.1 = K'.1.cls) (hc : Ci E d' K' [.ref a, b0, b1, b2] G P) (hd1 : d' + 1 ≤ d) (h1 : cs.1 ≤ mc) (h2 : cs.2 ≤ ms) (hw : (rest.map fun v => v.category).sum ≤ 8) (k : ∀ (r : Int32) (G' : AH), P r G' → Wp E d mc ms K Q G' cs (pc + 3) L (.int r :: rest)) : Wp E d mc ms K Q G cs pc L (b2 :: b1 :: b0 :: .ref a :: rest) := wc_V hd lk hh (As := [b0, b1, b2]) rfl hGa hq hqc hd1 hc rfl hw h1 h2 (fun v9 G9 h => by obtain ⟨r, h, hp⟩ := h; cases h; exact k _ _ hp) (fun X G9 h => by obtain ⟨r, h, -⟩ := h; cases h)
theorem wV3d {idx d' : Nat} {a ci : Nat} {vs : List Value} {q : vw_C} {K' : MR} {b0 b1 b2 : Value} {rest : List Value} {P : AH → Prop} (hd : decode K.2.1 pc = .ok (.invokevirtual idx, 3)) (lk : LkV K.1.cls idx K' 3) (hh : K'.2.2.2.2 = []) (hGa : G.1 a = some (oB ci vs)) (hq : vwCl[ci]? = some q) (hqc : q.1 = K'.1.cls) (hc : Cd E d' K' [.ref a, b0, b1, b2] G P) (hd1 : d' + 1 ≤ d) (h1 : cs.1 ≤ mc) (h2 : cs.2 ≤ ms) (hw : (rest.map fun v => v.category).sum ≤ 8) (k : ∀ G' : AH, P G' → Wp E d mc ms K Q G' cs (pc + 3) L rest) : Wp E d mc ms K Q G cs pc L (b2 :: b1 :: b0 :: .ref a :: rest) := wc_V hd lk hh (As := [b0, b1, b2]) rfl hGa hq hqc hd1 hc rfl hw h1 h2 (fun v9 G9 h => by obtain ⟨h, hp⟩ := h; cases h; exact k _ hp) (fun X G9 h => by cases h.1)
theorem wV3k {idx d' : Nat} {a ci : Nat} {vs : List Value} {q : vw_C} {K' : MR} {b0 b1 b2 : Value} {rest : List Value} {ok : Prop} {X : String} (hd : decode K.2.1 pc = .ok (.invokevirtual idx, 3)) (lk : LkV K.1.cls idx K' 3) (hh : K'.2.2.2.2 = []) (hGa : G.1 a = some (oB ci vs)) (hq : vwCl[ci]? = some q) (hqc : q.1 = K'.1.cls) (hK : K.2.2.2.2 = []) (hc : Ck E d' K' [.ref a, b0, b1, b2] G ok X) (hd1 : d' + 1 ≤ d) (h1 : cs.1 + 1 ≤ mc) (h2 : cs.2 + 6 ≤ ms) (hw : (rest.map fun v => v.category).sum ≤ 8) (kx : ¬ ok → ∀ n9, G.2 ≤ n9 → Q (.inr X) (G.1, n9)) (k : ok → Wp E d mc ms K Q G (cs.1 + 1, cs.2 + 6) (pc + 3) L rest) : Wp E d mc ms K Q G cs pc L (b2 :: b1 :: b0 :: .ref a :: rest) := wc_V hd lk hh (As := [b0, b1, b2]) rfl hGa hq hqc hd1 hc rfl hw h1 h2 (fun v9 G9 h => by rcases h with ⟨ok, h, rfl⟩ | ⟨-, h, -⟩ <;> cases h; exact k ok) (fun X9 G9 h => by rcases h with ⟨-, h, -⟩ | ⟨nok, h, e1, e2⟩ <;> cases h; exact wx_out hK h1 h2 (by have := kx nok G9.2 e2; rw [← e1] at this; exact this))
theorem wV4u {idx d' : Nat} {a ci : Nat} {vs : List Value} {q : vw_C} {K' : MR} {b0 b1 b2 b3 : Value} {rest : List Value} {v : Value} {G' : AH} (hd : decode K.2.1 pc = .ok (.invokevirtual idx, 3)) (lk : LkV K.1.cls idx K' 4) (hh : K'.2.2.2.2 = []) (hGa : G.1 a = some (oB ci vs)) (hq : vwCl[ci]? = some q) (hqc : q.1 = K'.1.cls) (hc : Cu E d' K' [.ref a, b0, b1, b2, b3] G v G') (hd1 : d' + 1 ≤ d) (h1 : cs.1 ≤ mc) (h2 : cs.2 ≤ ms) (hw : (rest.map fun v => v.category).sum ≤ 8) (k : Wp E d mc ms K Q G' cs (pc + 3) L (v :: rest)) : Wp E d mc ms K Q G cs pc L (b3 :: b2 :: b1 :: b0 :: .ref a :: rest) := wc_V hd lk hh (As := [b0, b1, b2, b3]) rfl hGa hq hqc hd1 hc rfl hw h1 h2 (fun v9 G9 h => by obtain ⟨h, rfl⟩ := h; cases h; exact k) (fun X G9 h => by cases h.1)
theorem wV4n {idx d' : Nat} {a ci : Nat} {vs : List Value} {q : vw_C} {K' : MR} {b0 b1 b2 b3 : Value} {rest : List Value} {G' : AH} (hd : decode K.2.1 pc = .ok (.invokevirtual idx, 3)) (lk : LkV K.1.cls idx K' 4) (hh : K'.2.2.2.2 = []) (hGa : G.1 a = some (oB ci vs)) (hq : vwCl[ci]? = some q) (hqc : q.1 = K'.1.cls) (hc : Cn E d' K' [.ref a, b0, b1, b2, b3] G G') (hd1 : d' + 1 ≤ d) (h1 : cs.1 ≤ mc) (h2 : cs.2 ≤ ms) (hw : (rest.map fun v => v.category).sum ≤ 8) (k : Wp E d mc ms K Q G' cs (pc + 3) L rest) : Wp E d mc ms K Q G cs pc L (b3 :: b2 :: b1 :: b0 :: .ref a :: rest) := wc_V hd lk hh (As := [b0, b1, b2, b3]) rfl hGa hq hqc hd1 hc rfl hw h1 h2 (fun v9 G9 h => by obtain ⟨h, rfl⟩ := h; cases h; exact k) (fun X G9 h => by cases h.1)
theorem wV4i {idx d' : Nat} {a ci : Nat} {vs : List Value} {q : vw_C} {K' : MR} {b0 b1 b2 b3 : Value} {rest : List Value} {P : Int32 → AH → Prop} (hd : decode K.2.1 pc = .ok (.invokevirtual idx, 3)) (lk : LkV K.1.cls idx K' 4) (hh : K'.2.2.2.2 = []) (hGa : G.1 a = some (oB ci vs)) (hq : vwCl[ci]? = some q) (hqc : q.1 = K'.1.cls) (hc : Ci E d' K' [.ref a, b0, b1, b2, b3] G P) (hd1 : d' + 1 ≤ d) (h1 : cs.1 ≤ mc) (h2 : cs.2 ≤ ms) (hw : (rest.map fun v => v.category).sum ≤ 8) (k : ∀ (r : Int32) (G' : AH), P r G' → Wp E d mc ms K Q G' cs (pc + 3) L (.int r :: rest)) : Wp E d mc ms K Q G cs pc L (b3 :: b2 :: b1 :: b0 :: .ref a :: rest) := wc_V hd lk hh (As := [b0, b1, b2, b3]) rfl hGa hq hqc hd1 hc rfl hw h1 h2 (fun v9 G9 h => by obtain ⟨r, h, hp⟩ := h; cases h; exact k _ _ hp) (fun X G9 h => by obtain ⟨r, h, -⟩ := h; cases h)
theorem wV4d {idx d' : Nat} {a ci : Nat} {vs : List Value} {q : vw_C} {K' : MR} {b0 b1 b2 b3 : Value} {rest : List Value} {P : AH → Prop} (hd : decode K.2.1 pc = .ok (.invokevirtual idx, 3)) (lk : LkV K.1.cls idx K' 4) (hh : K'.2.2.2.2 = []) (hGa : G.1 a = some (oB ci vs)) (hq : vwCl[ci]? = some q) (hqc : q.1 = K'.1.cls) (hc : Cd E d' K' [.ref a, b0, b1, b2, b3] G P) (hd1 : d' + 1 ≤ d) (h1 : cs.1 ≤ mc) (h2 : cs.2 ≤ ms) (hw : (rest.map fun v => v.category).sum ≤ 8) (k : ∀ G' : AH, P G' → Wp E d mc ms K Q G' cs (pc + 3) L rest) : Wp E d mc ms K Q G cs pc L (b3 :: b2 :: b1 :: b0 :: .ref a :: rest) := wc_V hd lk hh (As := [b0, b1, b2, b3]) rfl hGa hq hqc hd1 hc rfl hw h1 h2 (fun v9 G9 h => by obtain ⟨h, hp⟩ := h; cases h; exact k _ hp) (fun X G9 h => by cases h.1)
theorem wV4k {idx d' : Nat} {a ci : Nat} {vs : List Value} {q : vw_C} {K' : MR} {b0 b1 b2 b3 : Value} {rest : List Value} {ok : Prop} {X : String} (hd : decode K.2.1 pc = .ok (.invokevirtual idx, 3)) (lk : LkV K.1.cls idx K' 4) (hh : K'.2.2.2.2 = []) (hGa : G.1 a = some (oB ci vs)) (hq : vwCl[ci]? = some q) (hqc : q.1 = K'.1.cls) (hK : K.2.2.2.2 = []) (hc : Ck E d' K' [.ref a, b0, b1, b2, b3] G ok X) (hd1 : d' + 1 ≤ d) (h1 : cs.1 + 1 ≤ mc) (h2 : cs.2 + 6 ≤ ms) (hw : (rest.map fun v => v.category).sum ≤ 8) (kx : ¬ ok → ∀ n9, G.2 ≤ n9 → Q (.inr X) (G.1, n9)) (k : ok → Wp E d mc ms K Q G (cs.1 + 1, cs.2 + 6) (pc + 3) L rest) : Wp E d mc ms K Q G cs pc L (b3 :: b2 :: b1 :: b0 :: .ref a :: rest) := wc_V hd lk hh (As := [b0, b1, b2, b3]) rfl hGa hq hqc hd1 hc rfl hw h1 h2 (fun v9 G9 h => by rcases h with ⟨ok, h, rfl⟩ | ⟨-, h, -⟩ <;> cases h; exact k ok) (fun X9 G9 h => by rcases h with ⟨-, h, -⟩ | ⟨nok, h, e1, e2⟩ <;> cases h; exact wx_out hK h1 h2 (by have := kx nok G9.2 e2; rw [← e1] at this; exact this))
theorem wV5u {idx d' : Nat} {a ci : Nat} {vs : List Value} {q : vw_C} {K' : MR} {b0 b1 b2 b3 b4 : Value} {rest : List Value} {v : Value} {G' : AH} (hd : decode K.2.1 pc = .ok (.invokevirtual idx, 3)) (lk : LkV K.1.cls idx K' 5) (hh : K'.2.2.2.2 = []) (hGa : G.1 a = some (oB ci vs)) (hq : vwCl[ci]? = some q) (hqc : q.1 = K'.1.cls) (hc : Cu E d' K' [.ref a, b0, b1, b2, b3, b4] G v G') (hd1 : d' + 1 ≤ d) (h1 : cs.1 ≤ mc) (h2 : cs.2 ≤ ms) (hw : (rest.map fun v => v.category).sum ≤ 8) (k : Wp E d mc ms K Q G' cs (pc + 3) L (v :: rest)) : Wp E d mc ms K Q G cs pc L (b4 :: b3 :: b2 :: b1 :: b0 :: .ref a :: rest) := wc_V hd lk hh (As := [b0, b1, b2, b3, b4]) rfl hGa hq hqc hd1 hc rfl hw h1 h2 (fun v9 G9 h => by obtain ⟨h, rfl⟩ := h; cases h; exact k) (fun X G9 h => by cases h.1)
theorem wV5n {idx d' : Nat} {a ci : Nat} {vs : List Value} {q : vw_C} {K' : MR} {b0 b1 b2 b3 b4 : Value} {rest : List Value} {G' : AH} (hd : decode K.2.1 pc = .ok (.invokevirtual idx, 3)) (lk : LkV K.1.cls idx K' 5) (hh : K'.2.2.2.2 = []) (hGa : G.1 a = some (oB ci vs)) (hq : vwCl[ci]? = some q) (hqc : q.1 = K'.1.cls) (hc : Cn E d' K' [.ref a, b0, b1, b2, b3, b4] G G') (hd1 : d' + 1 ≤ d) (h1 : cs.1 ≤ mc) (h2 : cs.2 ≤ ms) (hw : (rest.map fun v => v.category).sum ≤ 8) (k : Wp E d mc ms K Q G' cs (pc + 3) L rest) : Wp E d mc ms K Q G cs pc L (b4 :: b3 :: b2 :: b1 :: b0 :: .ref a :: rest) := wc_V hd lk hh (As := [b0, b1, b2, b3, b4]) rfl hGa hq hqc hd1 hc rfl hw h1 h2 (fun v9 G9 h => by obtain ⟨h, rfl⟩ := h; cases h; exact k) (fun X G9 h => by cases h.1)
theorem wV5i {idx d' : Nat} {a ci : Nat} {vs : List Value} {q : vw_C} {K' : MR} {b0 b1 b2 b3 b4 : Value} {rest : List Value} {P : Int32 → AH → Prop} (hd : decode K.2.1 pc = .ok (.invokevirtual idx, 3)) (lk : LkV K.1.cls idx K' 5) (hh : K'.2.2.2.2 = []) (hGa : G.1 a = some (oB ci vs)) (hq : vwCl[ci]? = some q) (hqc : q.1 = K'.1.cls) (hc : Ci E d' K' [.ref a, b0, b1, b2, b3, b4] G P) (hd1 : d' + 1 ≤ d) (h1 : cs.1 ≤ mc) (h2 : cs.2 ≤ ms) (hw : (rest.map fun v => v.category).sum ≤ 8) (k : ∀ (r : Int32) (G' : AH), P r G' → Wp E d mc ms K Q G' cs (pc + 3) L (.int r :: rest)) : Wp E d mc ms K Q G cs pc L (b4 :: b3 :: b2 :: b1 :: b0 :: .ref a :: rest) := wc_V hd lk hh (As := [b0, b1, b2, b3, b4]) rfl hGa hq hqc hd1 hc rfl hw h1 h2 (fun v9 G9 h => by obtain ⟨r, h, hp⟩ := h; cases h; exact k _ _ hp) (fun X G9 h => by obtain ⟨r, h, -⟩ := h; cases h)
theorem wV5d {idx d' : Nat} {a ci : Nat} {vs : List Value} {q : vw_C} {K' : MR} {b0 b1 b2 b3 b4 : Value} {rest : List Value} {P : AH → Prop} (hd : decode K.2.1 pc = .ok (.invokevirtual idx, 3)) (lk : LkV K.1.cls idx K' 5) (hh : K'.2.2.2.2 = []) (hGa : G.1 a = some (oB ci vs)) (hq : vwCl[ci]? = some q) (hqc : q.1 = K'.1.cls) (hc : Cd E d' K' [.ref a, b0, b1, b2, b3, b4] G P) (hd1 : d' + 1 ≤ d) (h1 : cs.1 ≤ mc) (h2 : cs.2 ≤ ms) (hw : (rest.map fun v => v.category).sum ≤ 8) (k : ∀ G' : AH, P G' → Wp E d mc ms K Q G' cs (pc + 3) L rest) : Wp E d mc ms K Q G cs pc L (b4 :: b3 :: b2 :: b1 :: b0 :: .ref a :: rest) := wc_V hd lk hh (As := [b0, b1, b2, b3, b4]) rfl hGa hq hqc hd1 hc rfl hw h1 h2 (fun v9 G9 h => by obtain ⟨h, hp⟩ := h; cases h; exact k _ hp) (fun X G9 h => by cases h.1)
theorem wV6u {idx d' : Nat} {a ci : Nat} {vs : List Value} {q : vw_C} {K' : MR} {b0 b1 b2 b3 b4 b5 : Value} {rest : List Value} {v : Value} {G' : AH} (hd : decode K.2.1 pc = .ok (.invokevirtual idx, 3)) (lk : LkV K.1.cls idx K' 6) (hh : K'.2.2.2.2 = []) (hGa : G.1 a = some (oB ci vs)) (hq : vwCl[ci]? = some q) (hqc : q.1 = K'.1.cls) (hc : Cu E d' K' [.ref a, b0, b1, b2, b3, b4, b5] G v G') (hd1 : d' + 1 ≤ d) (h1 : cs.1 ≤ mc) (h2 : cs.2 ≤ ms) (hw : (rest.map fun v => v.category).sum ≤ 8) (k : Wp E d mc ms K Q G' cs (pc + 3) L (v :: rest)) : Wp E d mc ms K Q G cs pc L (b5 :: b4 :: b3 :: b2 :: b1 :: b0 :: .ref a :: rest) := wc_V hd lk hh (As := [b0, b1, b2, b3, b4, b5]) rfl hGa hq hqc hd1 hc rfl hw h1 h2 (fun v9 G9 h => by obtain ⟨h, rfl⟩ := h; cases h; exact k) (fun X G9 h => by cases h.1)
theorem wV6n {idx d' : Nat} {a ci : Nat} {vs : List Value} {q : vw_C} {K' : MR} {b0 b1 b2 b3 b4 b5 : Value} {rest : List Value} {G' : AH} (hd : decode K.2.1 pc = .ok (.invokevirtual idx, 3)) (lk : LkV K.1.cls idx K' 6) (hh : K'.2.2.2.2 = []) (hGa : G.1 a = some (oB ci vs)) (hq : vwCl[ci]? = some q) (hqc : q.1 = K'.1.cls) (hc : Cn E d' K' [.ref a, b0, b1, b2, b3, b4, b5] G G') (hd1 : d' + 1 ≤ d) (h1 : cs.1 ≤ mc) (h2 : cs.2 ≤ ms) (hw : (rest.map fun v => v.category).sum ≤ 8) (k : Wp E d mc ms K Q G' cs (pc + 3) L rest) : Wp E d mc ms K Q G cs pc L (b5 :: b4 :: b3 :: b2 :: b1 :: b0 :: .ref a :: rest) := wc_V hd lk hh (As := [b0, b1, b2, b3, b4, b5]) rfl hGa hq hqc hd1 hc rfl hw h1 h2 (fun v9 G9 h => by obtain ⟨h, rfl⟩ := h; cases h; exact k) (fun X G9 h => by cases h.1)
theorem wV6i {idx d' : Nat} {a ci : Nat} {vs : List Value} {q : vw_C} {K' : MR} {b0 b1 b2 b3 b4 b5 : Value} {rest : List Value} {P : Int32 → AH → Prop} (hd : decode K.2.1 pc = .ok (.invokevirtual idx, 3)) (lk : LkV K.1.cls idx K' 6) (hh : K'.2.2.2.2 = []) (hGa : G.1 a = some (oB ci vs)) (hq : vwCl[ci]? = some q) (hqc : q.1 = K'.1.cls) (hc : Ci E d' K' [.ref a, b0, b1, b2, b3, b4, b5] G P) (hd1 : d' + 1 ≤ d) (h1 : cs.1 ≤ mc) (h2 : cs.2 ≤ ms) (hw : (rest.map fun v => v.category).sum ≤ 8) (k : ∀ (r : Int32) (G' : AH), P r G' → Wp E d mc ms K Q G' cs (pc + 3) L (.int r :: rest)) : Wp E d mc ms K Q G cs pc L (b5 :: b4 :: b3 :: b2 :: b1 :: b0 :: .ref a :: rest) := wc_V hd lk hh (As := [b0, b1, b2, b3, b4, b5]) rfl hGa hq hqc hd1 hc rfl hw h1 h2 (fun v9 G9 h => by obtain ⟨r, h, hp⟩ := h; cases h; exact k _ _ hp) (fun X G9 h => by obtain ⟨r, h, -⟩ := h; cases h)
theorem wV6d {idx d' : Nat} {a ci : Nat} {vs : List Value} {q : vw_C} {K' : MR} {b0 b1 b2 b3 b4 b5 : Value} {rest : List Value} {P : AH → Prop} (hd : decode K.2.1 pc = .ok (.invokevirtual idx, 3)) (lk : LkV K.1.cls idx K' 6) (hh : K'.2.2.2.2 = []) (hGa : G.1 a = some (oB ci vs)) (hq : vwCl[ci]? = some q) (hqc : q.1 = K'.1.cls) (hc : Cd E d' K' [.ref a, b0, b1, b2, b3, b4, b5] G P) (hd1 : d' + 1 ≤ d) (h1 : cs.1 ≤ mc) (h2 : cs.2 ≤ ms) (hw : (rest.map fun v => v.category).sum ≤ 8) (k : ∀ G' : AH, P G' → Wp E d mc ms K Q G' cs (pc + 3) L rest) : Wp E d mc ms K Q G cs pc L (b5 :: b4 :: b3 :: b2 :: b1 :: b0 :: .ref a :: rest) := wc_V hd lk hh (As := [b0, b1, b2, b3, b4, b5]) rfl hGa hq hqc hd1 hc rfl hw h1 h2 (fun v9 G9 h => by obtain ⟨h, hp⟩ := h; cases h; exact k _ hp) (fun X G9 h => by cases h.1)
end WPC
