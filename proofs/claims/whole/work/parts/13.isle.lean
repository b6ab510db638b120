/-! an island that changes: rows and numbers put, and the rest of its methods -/
def tu (T : ST) (f k v : Nat) : ST := fun g j => if g = f ∧ j = k then v else T g j
theorem tu_row (T : ST) (f k v : Nat) : (fun i => nI (tu T f k v f i)) = upd (fun i => nI (T f i)) k (nI v) := by
  funext i
  unfold tu upd
  by_cases h : i = k <;> simp [h]
theorem tu_ne (T : ST) {f g : Nat} (k v : Nat) (h : g ≠ f) : (fun i => nI (tu T f k v g i)) = fun i => nI (T g i) := by
  funext i
  unfold tu
  rw [if_neg (fun h2 => h h2.1)]
theorem tu_ne1 (T : ST) {f g : Nat} (k v i : Nat) (h : g ≠ f) : tu T f k v g i = T g i := by
  unfold tu
  rw [if_neg (fun h2 => h h2.1)]
theorem tu_at (T : ST) (f k v : Nat) : tu T f k v f k = v := by unfold tu; rw [if_pos ⟨rfl, rfl⟩]
theorem tu_nk (T : ST) (f g : Nat) {k j : Nat} (v : Nat) (h : j ≠ k) : tu T f k v g j = T g j := by unfold tu; rw [if_neg (fun h2 => h h2.2)]
/-- what else is in the heap stays: outside the fourteen cells of an island -/
def Fr (G G' : AH) (a : Nat) : Prop := G'.2 = G.2 ∧ ∀ q, (q < a ∨ a + 14 ≤ q) → G'.1 q = G.1 q
theorem Fr.rf {G : AH} {a : Nat} : Fr G G a := ⟨rfl, fun _ _ => rfl⟩
theorem Fr.tr {G G1 G2 : AH} {a : Nat} (h1 : Fr G G1 a) (h2 : Fr G1 G2 a) : Fr G G2 a := ⟨h2.1.trans h1.1, fun q hq => (h2.2 q hq).trans (h1.2 q hq)⟩
theorem Fr.gs {G : AH} {a b : Nat} {x : HC} (h : a ≤ b) (h2 : b < a + 14) : Fr G (gs G b x) a := ⟨rfl, fun q hq => gs_ne (by omega)⟩
theorem Isl.fr {G G' : AH} {a b : Nat} {T : ST} {sd : Int32} (h : Isl G b T sd) (hF : Fr G G' a) (hd : b + 14 ≤ a ∨ a + 14 ≤ b) : Isl G' b T sd := by
  obtain ⟨i0, i1, i2, i3, i4, i5, i6, i7, i8, i9, i10, i11, i12, i13⟩ := h
  exact ⟨by rw [hF.2 _ (by omega)]; exact i0, by rw [hF.2 _ (by omega)]; exact i1, by rw [hF.2 _ (by omega)]; exact i2, by rw [hF.2 _ (by omega)]; exact i3, by rw [hF.2 _ (by omega)]; exact i4, by rw [hF.2 _ (by omega)]; exact i5, by rw [hF.2 _ (by omega)]; exact i6, by rw [hF.2 _ (by omega)]; exact i7, by rw [hF.2 _ (by omega)]; exact i8, by rw [hF.2 _ (by omega)]; exact i9, by rw [hF.2 _ (by omega)]; exact i10, by rw [hF.2 _ (by omega)]; exact i11, by rw [hF.2 _ (by omega)]; exact i12, by rw [hF.2 _ (by omega)]; exact i13⟩
theorem nI_at {T : ST} {f g k v i : Nat} (h : ¬ (g = f ∧ i = k)) : nI (tu T f k v g i) = nI (T g i) := by unfold tu; rw [if_neg h]
theorem Isl.pu0 {G : AH} {a : Nat} {T : ST} {sd : Int32} (h : Isl G a T sd) (k v : Nat) : Isl (gs G (a + 1) (aI 12 (upd (fun i => nI (T 0 i)) k (nI v)))) a (tu T 0 k v) sd := by
  obtain ⟨i0, i1, i2, i3, i4, i5, i6, i7, i8, i9, i10, i11, i12, i13⟩ := h
  exact ⟨by rw [gs_ne (by omega)]; simp only [isO, tu_ne1 T k v _ (show 12 ≠ 0 by decide)]; exact i0, by rw [tu_row]; exact gs_at, by rw [gs_ne (by omega), tu_ne T k v (show 1 ≠ 0 by decide)]; exact i2, by rw [gs_ne (by omega), tu_ne T k v (show 2 ≠ 0 by decide)]; exact i3, by rw [gs_ne (by omega), tu_ne T k v (show 3 ≠ 0 by decide)]; exact i4, by rw [gs_ne (by omega), tu_ne T k v (show 4 ≠ 0 by decide)]; exact i5, by rw [gs_ne (by omega), tu_ne T k v (show 5 ≠ 0 by decide)]; exact i6, by rw [gs_ne (by omega), tu_ne T k v (show 6 ≠ 0 by decide)]; exact i7, by rw [gs_ne (by omega), tu_ne T k v (show 7 ≠ 0 by decide)]; exact i8, by rw [gs_ne (by omega), tu_ne T k v (show 8 ≠ 0 by decide)]; exact i9, by rw [gs_ne (by omega), tu_ne T k v (show 9 ≠ 0 by decide)]; exact i10, by rw [gs_ne (by omega), tu_ne T k v (show 10 ≠ 0 by decide)]; exact i11, by rw [gs_ne (by omega)]; simp only [leO, tu_ne1 T k v _ (show 12 ≠ 0 by decide)]; exact i12, by rw [gs_ne (by omega), tu_ne T k v (show 11 ≠ 0 by decide)]; exact i13⟩
theorem c_pu0 {E : EV} {G : AH} {a : Nat} {T : ST} {sd : Int32} (h : Isl G a T sd) {k v : Nat} (hk : k < 12) : Cd E 1 kX7_put [.ref (a + 1), .int (nI k), .int (nI v)] G (fun G1 => Isl G1 a (tu T 0 k v) sd ∧ Fr G G1 a) := by
  have h9 := c_putN (E := E) (x := nI v) h.2.1 hk (by decide)
  exact h9.imp (fun G1 e => by subst e; exact ⟨h.pu0 k v, Fr.gs (by omega) (by omega)⟩)
theorem Isl.pu1 {G : AH} {a : Nat} {T : ST} {sd : Int32} (h : Isl G a T sd) (k v : Nat) : Isl (gs G (a + 2) (aI 12 (upd (fun i => nI (T 1 i)) k (nI v)))) a (tu T 1 k v) sd := by
  obtain ⟨i0, i1, i2, i3, i4, i5, i6, i7, i8, i9, i10, i11, i12, i13⟩ := h
  exact ⟨by rw [gs_ne (by omega)]; simp only [isO, tu_ne1 T k v _ (show 12 ≠ 1 by decide)]; exact i0, by rw [gs_ne (by omega), tu_ne T k v (show 0 ≠ 1 by decide)]; exact i1, by rw [tu_row]; exact gs_at, by rw [gs_ne (by omega), tu_ne T k v (show 2 ≠ 1 by decide)]; exact i3, by rw [gs_ne (by omega), tu_ne T k v (show 3 ≠ 1 by decide)]; exact i4, by rw [gs_ne (by omega), tu_ne T k v (show 4 ≠ 1 by decide)]; exact i5, by rw [gs_ne (by omega), tu_ne T k v (show 5 ≠ 1 by decide)]; exact i6, by rw [gs_ne (by omega), tu_ne T k v (show 6 ≠ 1 by decide)]; exact i7, by rw [gs_ne (by omega), tu_ne T k v (show 7 ≠ 1 by decide)]; exact i8, by rw [gs_ne (by omega), tu_ne T k v (show 8 ≠ 1 by decide)]; exact i9, by rw [gs_ne (by omega), tu_ne T k v (show 9 ≠ 1 by decide)]; exact i10, by rw [gs_ne (by omega), tu_ne T k v (show 10 ≠ 1 by decide)]; exact i11, by rw [gs_ne (by omega)]; simp only [leO, tu_ne1 T k v _ (show 12 ≠ 1 by decide)]; exact i12, by rw [gs_ne (by omega), tu_ne T k v (show 11 ≠ 1 by decide)]; exact i13⟩
theorem c_pu1 {E : EV} {G : AH} {a : Nat} {T : ST} {sd : Int32} (h : Isl G a T sd) {k v : Nat} (hk : k < 12) : Cd E 1 kX7_put [.ref (a + 2), .int (nI k), .int (nI v)] G (fun G1 => Isl G1 a (tu T 1 k v) sd ∧ Fr G G1 a) := by
  have h9 := c_putN (E := E) (x := nI v) h.2.2.1 hk (by decide)
  exact h9.imp (fun G1 e => by subst e; exact ⟨h.pu1 k v, Fr.gs (by omega) (by omega)⟩)
theorem Isl.pu2 {G : AH} {a : Nat} {T : ST} {sd : Int32} (h : Isl G a T sd) (k v : Nat) : Isl (gs G (a + 3) (aI 12 (upd (fun i => nI (T 2 i)) k (nI v)))) a (tu T 2 k v) sd := by
  obtain ⟨i0, i1, i2, i3, i4, i5, i6, i7, i8, i9, i10, i11, i12, i13⟩ := h
  exact ⟨by rw [gs_ne (by omega)]; simp only [isO, tu_ne1 T k v _ (show 12 ≠ 2 by decide)]; exact i0, by rw [gs_ne (by omega), tu_ne T k v (show 0 ≠ 2 by decide)]; exact i1, by rw [gs_ne (by omega), tu_ne T k v (show 1 ≠ 2 by decide)]; exact i2, by rw [tu_row]; exact gs_at, by rw [gs_ne (by omega), tu_ne T k v (show 3 ≠ 2 by decide)]; exact i4, by rw [gs_ne (by omega), tu_ne T k v (show 4 ≠ 2 by decide)]; exact i5, by rw [gs_ne (by omega), tu_ne T k v (show 5 ≠ 2 by decide)]; exact i6, by rw [gs_ne (by omega), tu_ne T k v (show 6 ≠ 2 by decide)]; exact i7, by rw [gs_ne (by omega), tu_ne T k v (show 7 ≠ 2 by decide)]; exact i8, by rw [gs_ne (by omega), tu_ne T k v (show 8 ≠ 2 by decide)]; exact i9, by rw [gs_ne (by omega), tu_ne T k v (show 9 ≠ 2 by decide)]; exact i10, by rw [gs_ne (by omega), tu_ne T k v (show 10 ≠ 2 by decide)]; exact i11, by rw [gs_ne (by omega)]; simp only [leO, tu_ne1 T k v _ (show 12 ≠ 2 by decide)]; exact i12, by rw [gs_ne (by omega), tu_ne T k v (show 11 ≠ 2 by decide)]; exact i13⟩
theorem c_pu2 {E : EV} {G : AH} {a : Nat} {T : ST} {sd : Int32} (h : Isl G a T sd) {k v : Nat} (hk : k < 12) : Cd E 1 kX7_put [.ref (a + 3), .int (nI k), .int (nI v)] G (fun G1 => Isl G1 a (tu T 2 k v) sd ∧ Fr G G1 a) := by
  have h9 := c_putN (E := E) (x := nI v) h.2.2.2.1 hk (by decide)
  exact h9.imp (fun G1 e => by subst e; exact ⟨h.pu2 k v, Fr.gs (by omega) (by omega)⟩)
theorem Isl.pu3 {G : AH} {a : Nat} {T : ST} {sd : Int32} (h : Isl G a T sd) (k v : Nat) : Isl (gs G (a + 4) (aI 12 (upd (fun i => nI (T 3 i)) k (nI v)))) a (tu T 3 k v) sd := by
  obtain ⟨i0, i1, i2, i3, i4, i5, i6, i7, i8, i9, i10, i11, i12, i13⟩ := h
  exact ⟨by rw [gs_ne (by omega)]; simp only [isO, tu_ne1 T k v _ (show 12 ≠ 3 by decide)]; exact i0, by rw [gs_ne (by omega), tu_ne T k v (show 0 ≠ 3 by decide)]; exact i1, by rw [gs_ne (by omega), tu_ne T k v (show 1 ≠ 3 by decide)]; exact i2, by rw [gs_ne (by omega), tu_ne T k v (show 2 ≠ 3 by decide)]; exact i3, by rw [tu_row]; exact gs_at, by rw [gs_ne (by omega), tu_ne T k v (show 4 ≠ 3 by decide)]; exact i5, by rw [gs_ne (by omega), tu_ne T k v (show 5 ≠ 3 by decide)]; exact i6, by rw [gs_ne (by omega), tu_ne T k v (show 6 ≠ 3 by decide)]; exact i7, by rw [gs_ne (by omega), tu_ne T k v (show 7 ≠ 3 by decide)]; exact i8, by rw [gs_ne (by omega), tu_ne T k v (show 8 ≠ 3 by decide)]; exact i9, by rw [gs_ne (by omega), tu_ne T k v (show 9 ≠ 3 by decide)]; exact i10, by rw [gs_ne (by omega), tu_ne T k v (show 10 ≠ 3 by decide)]; exact i11, by rw [gs_ne (by omega)]; simp only [leO, tu_ne1 T k v _ (show 12 ≠ 3 by decide)]; exact i12, by rw [gs_ne (by omega), tu_ne T k v (show 11 ≠ 3 by decide)]; exact i13⟩
theorem c_pu3 {E : EV} {G : AH} {a : Nat} {T : ST} {sd : Int32} (h : Isl G a T sd) {k v : Nat} (hk : k < 12) : Cd E 1 kX7_put [.ref (a + 4), .int (nI k), .int (nI v)] G (fun G1 => Isl G1 a (tu T 3 k v) sd ∧ Fr G G1 a) := by
  have h9 := c_putN (E := E) (x := nI v) h.2.2.2.2.1 hk (by decide)
  exact h9.imp (fun G1 e => by subst e; exact ⟨h.pu3 k v, Fr.gs (by omega) (by omega)⟩)
theorem Isl.pu4 {G : AH} {a : Nat} {T : ST} {sd : Int32} (h : Isl G a T sd) (k v : Nat) : Isl (gs G (a + 5) (aI 12 (upd (fun i => nI (T 4 i)) k (nI v)))) a (tu T 4 k v) sd := by
  obtain ⟨i0, i1, i2, i3, i4, i5, i6, i7, i8, i9, i10, i11, i12, i13⟩ := h
  exact ⟨by rw [gs_ne (by omega)]; simp only [isO, tu_ne1 T k v _ (show 12 ≠ 4 by decide)]; exact i0, by rw [gs_ne (by omega), tu_ne T k v (show 0 ≠ 4 by decide)]; exact i1, by rw [gs_ne (by omega), tu_ne T k v (show 1 ≠ 4 by decide)]; exact i2, by rw [gs_ne (by omega), tu_ne T k v (show 2 ≠ 4 by decide)]; exact i3, by rw [gs_ne (by omega), tu_ne T k v (show 3 ≠ 4 by decide)]; exact i4, by rw [tu_row]; exact gs_at, by rw [gs_ne (by omega), tu_ne T k v (show 5 ≠ 4 by decide)]; exact i6, by rw [gs_ne (by omega), tu_ne T k v (show 6 ≠ 4 by decide)]; exact i7, by rw [gs_ne (by omega), tu_ne T k v (show 7 ≠ 4 by decide)]; exact i8, by rw [gs_ne (by omega), tu_ne T k v (show 8 ≠ 4 by decide)]; exact i9, by rw [gs_ne (by omega), tu_ne T k v (show 9 ≠ 4 by decide)]; exact i10, by rw [gs_ne (by omega), tu_ne T k v (show 10 ≠ 4 by decide)]; exact i11, by rw [gs_ne (by omega)]; simp only [leO, tu_ne1 T k v _ (show 12 ≠ 4 by decide)]; exact i12, by rw [gs_ne (by omega), tu_ne T k v (show 11 ≠ 4 by decide)]; exact i13⟩
theorem c_pu4 {E : EV} {G : AH} {a : Nat} {T : ST} {sd : Int32} (h : Isl G a T sd) {k v : Nat} (hk : k < 12) : Cd E 1 kX7_put [.ref (a + 5), .int (nI k), .int (nI v)] G (fun G1 => Isl G1 a (tu T 4 k v) sd ∧ Fr G G1 a) := by
  have h9 := c_putN (E := E) (x := nI v) h.2.2.2.2.2.1 hk (by decide)
  exact h9.imp (fun G1 e => by subst e; exact ⟨h.pu4 k v, Fr.gs (by omega) (by omega)⟩)
theorem Isl.pu5 {G : AH} {a : Nat} {T : ST} {sd : Int32} (h : Isl G a T sd) (k v : Nat) : Isl (gs G (a + 6) (aI 12 (upd (fun i => nI (T 5 i)) k (nI v)))) a (tu T 5 k v) sd := by
  obtain ⟨i0, i1, i2, i3, i4, i5, i6, i7, i8, i9, i10, i11, i12, i13⟩ := h
  exact ⟨by rw [gs_ne (by omega)]; simp only [isO, tu_ne1 T k v _ (show 12 ≠ 5 by decide)]; exact i0, by rw [gs_ne (by omega), tu_ne T k v (show 0 ≠ 5 by decide)]; exact i1, by rw [gs_ne (by omega), tu_ne T k v (show 1 ≠ 5 by decide)]; exact i2, by rw [gs_ne (by omega), tu_ne T k v (show 2 ≠ 5 by decide)]; exact i3, by rw [gs_ne (by omega), tu_ne T k v (show 3 ≠ 5 by decide)]; exact i4, by rw [gs_ne (by omega), tu_ne T k v (show 4 ≠ 5 by decide)]; exact i5, by rw [tu_row]; exact gs_at, by rw [gs_ne (by omega), tu_ne T k v (show 6 ≠ 5 by decide)]; exact i7, by rw [gs_ne (by omega), tu_ne T k v (show 7 ≠ 5 by decide)]; exact i8, by rw [gs_ne (by omega), tu_ne T k v (show 8 ≠ 5 by decide)]; exact i9, by rw [gs_ne (by omega), tu_ne T k v (show 9 ≠ 5 by decide)]; exact i10, by rw [gs_ne (by omega), tu_ne T k v (show 10 ≠ 5 by decide)]; exact i11, by rw [gs_ne (by omega)]; simp only [leO, tu_ne1 T k v _ (show 12 ≠ 5 by decide)]; exact i12, by rw [gs_ne (by omega), tu_ne T k v (show 11 ≠ 5 by decide)]; exact i13⟩
theorem c_pu5 {E : EV} {G : AH} {a : Nat} {T : ST} {sd : Int32} (h : Isl G a T sd) {k v : Nat} (hk : k < 12) : Cd E 1 kX7_put [.ref (a + 6), .int (nI k), .int (nI v)] G (fun G1 => Isl G1 a (tu T 5 k v) sd ∧ Fr G G1 a) := by
  have h9 := c_putN (E := E) (x := nI v) h.2.2.2.2.2.2.1 hk (by decide)
  exact h9.imp (fun G1 e => by subst e; exact ⟨h.pu5 k v, Fr.gs (by omega) (by omega)⟩)
theorem Isl.pu6 {G : AH} {a : Nat} {T : ST} {sd : Int32} (h : Isl G a T sd) (k v : Nat) : Isl (gs G (a + 7) (aI 12 (upd (fun i => nI (T 6 i)) k (nI v)))) a (tu T 6 k v) sd := by
  obtain ⟨i0, i1, i2, i3, i4, i5, i6, i7, i8, i9, i10, i11, i12, i13⟩ := h
  exact ⟨by rw [gs_ne (by omega)]; simp only [isO, tu_ne1 T k v _ (show 12 ≠ 6 by decide)]; exact i0, by rw [gs_ne (by omega), tu_ne T k v (show 0 ≠ 6 by decide)]; exact i1, by rw [gs_ne (by omega), tu_ne T k v (show 1 ≠ 6 by decide)]; exact i2, by rw [gs_ne (by omega), tu_ne T k v (show 2 ≠ 6 by decide)]; exact i3, by rw [gs_ne (by omega), tu_ne T k v (show 3 ≠ 6 by decide)]; exact i4, by rw [gs_ne (by omega), tu_ne T k v (show 4 ≠ 6 by decide)]; exact i5, by rw [gs_ne (by omega), tu_ne T k v (show 5 ≠ 6 by decide)]; exact i6, by rw [tu_row]; exact gs_at, by rw [gs_ne (by omega), tu_ne T k v (show 7 ≠ 6 by decide)]; exact i8, by rw [gs_ne (by omega), tu_ne T k v (show 8 ≠ 6 by decide)]; exact i9, by rw [gs_ne (by omega), tu_ne T k v (show 9 ≠ 6 by decide)]; exact i10, by rw [gs_ne (by omega), tu_ne T k v (show 10 ≠ 6 by decide)]; exact i11, by rw [gs_ne (by omega)]; simp only [leO, tu_ne1 T k v _ (show 12 ≠ 6 by decide)]; exact i12, by rw [gs_ne (by omega), tu_ne T k v (show 11 ≠ 6 by decide)]; exact i13⟩
theorem c_pu6 {E : EV} {G : AH} {a : Nat} {T : ST} {sd : Int32} (h : Isl G a T sd) {k v : Nat} (hk : k < 12) : Cd E 1 kX7_put [.ref (a + 7), .int (nI k), .int (nI v)] G (fun G1 => Isl G1 a (tu T 6 k v) sd ∧ Fr G G1 a) := by
  have h9 := c_putN (E := E) (x := nI v) h.2.2.2.2.2.2.2.1 hk (by decide)
  exact h9.imp (fun G1 e => by subst e; exact ⟨h.pu6 k v, Fr.gs (by omega) (by omega)⟩)
theorem Isl.pu7 {G : AH} {a : Nat} {T : ST} {sd : Int32} (h : Isl G a T sd) (k v : Nat) : Isl (gs G (a + 8) (aI 6 (upd (fun i => nI (T 7 i)) k (nI v)))) a (tu T 7 k v) sd := by
  obtain ⟨i0, i1, i2, i3, i4, i5, i6, i7, i8, i9, i10, i11, i12, i13⟩ := h
  exact ⟨by rw [gs_ne (by omega)]; simp only [isO, tu_ne1 T k v _ (show 12 ≠ 7 by decide)]; exact i0, by rw [gs_ne (by omega), tu_ne T k v (show 0 ≠ 7 by decide)]; exact i1, by rw [gs_ne (by omega), tu_ne T k v (show 1 ≠ 7 by decide)]; exact i2, by rw [gs_ne (by omega), tu_ne T k v (show 2 ≠ 7 by decide)]; exact i3, by rw [gs_ne (by omega), tu_ne T k v (show 3 ≠ 7 by decide)]; exact i4, by rw [gs_ne (by omega), tu_ne T k v (show 4 ≠ 7 by decide)]; exact i5, by rw [gs_ne (by omega), tu_ne T k v (show 5 ≠ 7 by decide)]; exact i6, by rw [gs_ne (by omega), tu_ne T k v (show 6 ≠ 7 by decide)]; exact i7, by rw [tu_row]; exact gs_at, by rw [gs_ne (by omega), tu_ne T k v (show 8 ≠ 7 by decide)]; exact i9, by rw [gs_ne (by omega), tu_ne T k v (show 9 ≠ 7 by decide)]; exact i10, by rw [gs_ne (by omega), tu_ne T k v (show 10 ≠ 7 by decide)]; exact i11, by rw [gs_ne (by omega)]; simp only [leO, tu_ne1 T k v _ (show 12 ≠ 7 by decide)]; exact i12, by rw [gs_ne (by omega), tu_ne T k v (show 11 ≠ 7 by decide)]; exact i13⟩
theorem c_pu7 {E : EV} {G : AH} {a : Nat} {T : ST} {sd : Int32} (h : Isl G a T sd) {k v : Nat} (hk : k < 6) : Cd E 1 kX7_put [.ref (a + 8), .int (nI k), .int (nI v)] G (fun G1 => Isl G1 a (tu T 7 k v) sd ∧ Fr G G1 a) := by
  have h9 := c_putN (E := E) (x := nI v) h.2.2.2.2.2.2.2.2.1 hk (by decide)
  exact h9.imp (fun G1 e => by subst e; exact ⟨h.pu7 k v, Fr.gs (by omega) (by omega)⟩)
theorem Isl.pu8 {G : AH} {a : Nat} {T : ST} {sd : Int32} (h : Isl G a T sd) (k v : Nat) : Isl (gs G (a + 9) (aI 6 (upd (fun i => nI (T 8 i)) k (nI v)))) a (tu T 8 k v) sd := by
  obtain ⟨i0, i1, i2, i3, i4, i5, i6, i7, i8, i9, i10, i11, i12, i13⟩ := h
  exact ⟨by rw [gs_ne (by omega)]; simp only [isO, tu_ne1 T k v _ (show 12 ≠ 8 by decide)]; exact i0, by rw [gs_ne (by omega), tu_ne T k v (show 0 ≠ 8 by decide)]; exact i1, by rw [gs_ne (by omega), tu_ne T k v (show 1 ≠ 8 by decide)]; exact i2, by rw [gs_ne (by omega), tu_ne T k v (show 2 ≠ 8 by decide)]; exact i3, by rw [gs_ne (by omega), tu_ne T k v (show 3 ≠ 8 by decide)]; exact i4, by rw [gs_ne (by omega), tu_ne T k v (show 4 ≠ 8 by decide)]; exact i5, by rw [gs_ne (by omega), tu_ne T k v (show 5 ≠ 8 by decide)]; exact i6, by rw [gs_ne (by omega), tu_ne T k v (show 6 ≠ 8 by decide)]; exact i7, by rw [gs_ne (by omega), tu_ne T k v (show 7 ≠ 8 by decide)]; exact i8, by rw [tu_row]; exact gs_at, by rw [gs_ne (by omega), tu_ne T k v (show 9 ≠ 8 by decide)]; exact i10, by rw [gs_ne (by omega), tu_ne T k v (show 10 ≠ 8 by decide)]; exact i11, by rw [gs_ne (by omega)]; simp only [leO, tu_ne1 T k v _ (show 12 ≠ 8 by decide)]; exact i12, by rw [gs_ne (by omega), tu_ne T k v (show 11 ≠ 8 by decide)]; exact i13⟩
theorem c_pu8 {E : EV} {G : AH} {a : Nat} {T : ST} {sd : Int32} (h : Isl G a T sd) {k v : Nat} (hk : k < 6) : Cd E 1 kX7_put [.ref (a + 9), .int (nI k), .int (nI v)] G (fun G1 => Isl G1 a (tu T 8 k v) sd ∧ Fr G G1 a) := by
  have h9 := c_putN (E := E) (x := nI v) h.2.2.2.2.2.2.2.2.2.1 hk (by decide)
  exact h9.imp (fun G1 e => by subst e; exact ⟨h.pu8 k v, Fr.gs (by omega) (by omega)⟩)
theorem Isl.pu9 {G : AH} {a : Nat} {T : ST} {sd : Int32} (h : Isl G a T sd) (k v : Nat) : Isl (gs G (a + 10) (aI 2 (upd (fun i => nI (T 9 i)) k (nI v)))) a (tu T 9 k v) sd := by
  obtain ⟨i0, i1, i2, i3, i4, i5, i6, i7, i8, i9, i10, i11, i12, i13⟩ := h
  exact ⟨by rw [gs_ne (by omega)]; simp only [isO, tu_ne1 T k v _ (show 12 ≠ 9 by decide)]; exact i0, by rw [gs_ne (by omega), tu_ne T k v (show 0 ≠ 9 by decide)]; exact i1, by rw [gs_ne (by omega), tu_ne T k v (show 1 ≠ 9 by decide)]; exact i2, by rw [gs_ne (by omega), tu_ne T k v (show 2 ≠ 9 by decide)]; exact i3, by rw [gs_ne (by omega), tu_ne T k v (show 3 ≠ 9 by decide)]; exact i4, by rw [gs_ne (by omega), tu_ne T k v (show 4 ≠ 9 by decide)]; exact i5, by rw [gs_ne (by omega), tu_ne T k v (show 5 ≠ 9 by decide)]; exact i6, by rw [gs_ne (by omega), tu_ne T k v (show 6 ≠ 9 by decide)]; exact i7, by rw [gs_ne (by omega), tu_ne T k v (show 7 ≠ 9 by decide)]; exact i8, by rw [gs_ne (by omega), tu_ne T k v (show 8 ≠ 9 by decide)]; exact i9, by rw [tu_row]; exact gs_at, by rw [gs_ne (by omega), tu_ne T k v (show 10 ≠ 9 by decide)]; exact i11, by rw [gs_ne (by omega)]; simp only [leO, tu_ne1 T k v _ (show 12 ≠ 9 by decide)]; exact i12, by rw [gs_ne (by omega), tu_ne T k v (show 11 ≠ 9 by decide)]; exact i13⟩
theorem c_pu9 {E : EV} {G : AH} {a : Nat} {T : ST} {sd : Int32} (h : Isl G a T sd) {k v : Nat} (hk : k < 2) : Cd E 1 kX7_put [.ref (a + 10), .int (nI k), .int (nI v)] G (fun G1 => Isl G1 a (tu T 9 k v) sd ∧ Fr G G1 a) := by
  have h9 := c_putN (E := E) (x := nI v) h.2.2.2.2.2.2.2.2.2.2.1 hk (by decide)
  exact h9.imp (fun G1 e => by subst e; exact ⟨h.pu9 k v, Fr.gs (by omega) (by omega)⟩)
theorem Isl.pu10 {G : AH} {a : Nat} {T : ST} {sd : Int32} (h : Isl G a T sd) (k v : Nat) : Isl (gs G (a + 11) (aI 2 (upd (fun i => nI (T 10 i)) k (nI v)))) a (tu T 10 k v) sd := by
  obtain ⟨i0, i1, i2, i3, i4, i5, i6, i7, i8, i9, i10, i11, i12, i13⟩ := h
  exact ⟨by rw [gs_ne (by omega)]; simp only [isO, tu_ne1 T k v _ (show 12 ≠ 10 by decide)]; exact i0, by rw [gs_ne (by omega), tu_ne T k v (show 0 ≠ 10 by decide)]; exact i1, by rw [gs_ne (by omega), tu_ne T k v (show 1 ≠ 10 by decide)]; exact i2, by rw [gs_ne (by omega), tu_ne T k v (show 2 ≠ 10 by decide)]; exact i3, by rw [gs_ne (by omega), tu_ne T k v (show 3 ≠ 10 by decide)]; exact i4, by rw [gs_ne (by omega), tu_ne T k v (show 4 ≠ 10 by decide)]; exact i5, by rw [gs_ne (by omega), tu_ne T k v (show 5 ≠ 10 by decide)]; exact i6, by rw [gs_ne (by omega), tu_ne T k v (show 6 ≠ 10 by decide)]; exact i7, by rw [gs_ne (by omega), tu_ne T k v (show 7 ≠ 10 by decide)]; exact i8, by rw [gs_ne (by omega), tu_ne T k v (show 8 ≠ 10 by decide)]; exact i9, by rw [gs_ne (by omega), tu_ne T k v (show 9 ≠ 10 by decide)]; exact i10, by rw [tu_row]; exact gs_at, by rw [gs_ne (by omega)]; simp only [leO, tu_ne1 T k v _ (show 12 ≠ 10 by decide)]; exact i12, by rw [gs_ne (by omega), tu_ne T k v (show 11 ≠ 10 by decide)]; exact i13⟩
theorem c_pu10 {E : EV} {G : AH} {a : Nat} {T : ST} {sd : Int32} (h : Isl G a T sd) {k v : Nat} (hk : k < 2) : Cd E 1 kX7_put [.ref (a + 11), .int (nI k), .int (nI v)] G (fun G1 => Isl G1 a (tu T 10 k v) sd ∧ Fr G G1 a) := by
  have h9 := c_putN (E := E) (x := nI v) h.2.2.2.2.2.2.2.2.2.2.2.1 hk (by decide)
  exact h9.imp (fun G1 e => by subst e; exact ⟨h.pu10 k v, Fr.gs (by omega) (by omega)⟩)
theorem Isl.ps0 {G : AH} {a : Nat} {T : ST} {sd : Int32} (h : Isl G a T sd) (v : Nat) : Isl (gs G a (oB 1 (List.set [.ref (a + 1), .ref (a + 2), .ref (a + 3), .ref (a + 4), .ref (a + 5), .ref (a + 6), .ref (a + 7), .ref (a + 8), .ref (a + 9), .ref (a + 10), .ref (a + 11), .ref (a + 12), .int (nI (T 12 0)), .int (nI (T 12 1)), .int (nI (T 12 2)), .int (nI (T 12 3)), .int (nI (T 12 4)), .int sd] 12 (.int (nI v))))) a (tu T 12 0 v) sd := by
  obtain ⟨i0, i1, i2, i3, i4, i5, i6, i7, i8, i9, i10, i11, i12, i13⟩ := h
  exact ⟨by rw [gs_at]; simp only [isO, tu_at, tu_nk T 12 12 v (show (1 : Nat) ≠ 0 by decide), tu_nk T 12 12 v (show (2 : Nat) ≠ 0 by decide), tu_nk T 12 12 v (show (3 : Nat) ≠ 0 by decide), tu_nk T 12 12 v (show (4 : Nat) ≠ 0 by decide), tu_nk T 12 12 v (show (5 : Nat) ≠ 0 by decide), tu_nk T 12 12 v (show (6 : Nat) ≠ 0 by decide)]; rfl, by rw [gs_ne (by omega), tu_ne T 0 v (show 0 ≠ 12 by decide)]; exact i1, by rw [gs_ne (by omega), tu_ne T 0 v (show 1 ≠ 12 by decide)]; exact i2, by rw [gs_ne (by omega), tu_ne T 0 v (show 2 ≠ 12 by decide)]; exact i3, by rw [gs_ne (by omega), tu_ne T 0 v (show 3 ≠ 12 by decide)]; exact i4, by rw [gs_ne (by omega), tu_ne T 0 v (show 4 ≠ 12 by decide)]; exact i5, by rw [gs_ne (by omega), tu_ne T 0 v (show 5 ≠ 12 by decide)]; exact i6, by rw [gs_ne (by omega), tu_ne T 0 v (show 6 ≠ 12 by decide)]; exact i7, by rw [gs_ne (by omega), tu_ne T 0 v (show 7 ≠ 12 by decide)]; exact i8, by rw [gs_ne (by omega), tu_ne T 0 v (show 8 ≠ 12 by decide)]; exact i9, by rw [gs_ne (by omega), tu_ne T 0 v (show 9 ≠ 12 by decide)]; exact i10, by rw [gs_ne (by omega), tu_ne T 0 v (show 10 ≠ 12 by decide)]; exact i11, by rw [gs_ne (by omega)]; simp only [leO, tu_nk T 12 12 v (show (1 : Nat) ≠ 0 by decide), tu_nk T 12 12 v (show (2 : Nat) ≠ 0 by decide), tu_nk T 12 12 v (show (3 : Nat) ≠ 0 by decide), tu_nk T 12 12 v (show (4 : Nat) ≠ 0 by decide), tu_nk T 12 12 v (show (5 : Nat) ≠ 0 by decide), tu_nk T 12 12 v (show (6 : Nat) ≠ 0 by decide)]; exact i12, by rw [gs_ne (by omega), tu_ne T 0 v (show 11 ≠ 12 by decide)]; exact i13⟩
theorem Isl.ps1 {G : AH} {a : Nat} {T : ST} {sd : Int32} (h : Isl G a T sd) (v : Nat) : Isl (gs G a (oB 1 (List.set [.ref (a + 1), .ref (a + 2), .ref (a + 3), .ref (a + 4), .ref (a + 5), .ref (a + 6), .ref (a + 7), .ref (a + 8), .ref (a + 9), .ref (a + 10), .ref (a + 11), .ref (a + 12), .int (nI (T 12 0)), .int (nI (T 12 1)), .int (nI (T 12 2)), .int (nI (T 12 3)), .int (nI (T 12 4)), .int sd] 13 (.int (nI v))))) a (tu T 12 1 v) sd := by
  obtain ⟨i0, i1, i2, i3, i4, i5, i6, i7, i8, i9, i10, i11, i12, i13⟩ := h
  exact ⟨by rw [gs_at]; simp only [isO, tu_at, tu_nk T 12 12 v (show (0 : Nat) ≠ 1 by decide), tu_nk T 12 12 v (show (2 : Nat) ≠ 1 by decide), tu_nk T 12 12 v (show (3 : Nat) ≠ 1 by decide), tu_nk T 12 12 v (show (4 : Nat) ≠ 1 by decide), tu_nk T 12 12 v (show (5 : Nat) ≠ 1 by decide), tu_nk T 12 12 v (show (6 : Nat) ≠ 1 by decide)]; rfl, by rw [gs_ne (by omega), tu_ne T 1 v (show 0 ≠ 12 by decide)]; exact i1, by rw [gs_ne (by omega), tu_ne T 1 v (show 1 ≠ 12 by decide)]; exact i2, by rw [gs_ne (by omega), tu_ne T 1 v (show 2 ≠ 12 by decide)]; exact i3, by rw [gs_ne (by omega), tu_ne T 1 v (show 3 ≠ 12 by decide)]; exact i4, by rw [gs_ne (by omega), tu_ne T 1 v (show 4 ≠ 12 by decide)]; exact i5, by rw [gs_ne (by omega), tu_ne T 1 v (show 5 ≠ 12 by decide)]; exact i6, by rw [gs_ne (by omega), tu_ne T 1 v (show 6 ≠ 12 by decide)]; exact i7, by rw [gs_ne (by omega), tu_ne T 1 v (show 7 ≠ 12 by decide)]; exact i8, by rw [gs_ne (by omega), tu_ne T 1 v (show 8 ≠ 12 by decide)]; exact i9, by rw [gs_ne (by omega), tu_ne T 1 v (show 9 ≠ 12 by decide)]; exact i10, by rw [gs_ne (by omega), tu_ne T 1 v (show 10 ≠ 12 by decide)]; exact i11, by rw [gs_ne (by omega)]; simp only [leO, tu_nk T 12 12 v (show (0 : Nat) ≠ 1 by decide), tu_nk T 12 12 v (show (2 : Nat) ≠ 1 by decide), tu_nk T 12 12 v (show (3 : Nat) ≠ 1 by decide), tu_nk T 12 12 v (show (4 : Nat) ≠ 1 by decide), tu_nk T 12 12 v (show (5 : Nat) ≠ 1 by decide), tu_nk T 12 12 v (show (6 : Nat) ≠ 1 by decide)]; exact i12, by rw [gs_ne (by omega), tu_ne T 1 v (show 11 ≠ 12 by decide)]; exact i13⟩
theorem Isl.ps2 {G : AH} {a : Nat} {T : ST} {sd : Int32} (h : Isl G a T sd) (v : Nat) : Isl (gs G a (oB 1 (List.set [.ref (a + 1), .ref (a + 2), .ref (a + 3), .ref (a + 4), .ref (a + 5), .ref (a + 6), .ref (a + 7), .ref (a + 8), .ref (a + 9), .ref (a + 10), .ref (a + 11), .ref (a + 12), .int (nI (T 12 0)), .int (nI (T 12 1)), .int (nI (T 12 2)), .int (nI (T 12 3)), .int (nI (T 12 4)), .int sd] 14 (.int (nI v))))) a (tu T 12 2 v) sd := by
  obtain ⟨i0, i1, i2, i3, i4, i5, i6, i7, i8, i9, i10, i11, i12, i13⟩ := h
  exact ⟨by rw [gs_at]; simp only [isO, tu_at, tu_nk T 12 12 v (show (0 : Nat) ≠ 2 by decide), tu_nk T 12 12 v (show (1 : Nat) ≠ 2 by decide), tu_nk T 12 12 v (show (3 : Nat) ≠ 2 by decide), tu_nk T 12 12 v (show (4 : Nat) ≠ 2 by decide), tu_nk T 12 12 v (show (5 : Nat) ≠ 2 by decide), tu_nk T 12 12 v (show (6 : Nat) ≠ 2 by decide)]; rfl, by rw [gs_ne (by omega), tu_ne T 2 v (show 0 ≠ 12 by decide)]; exact i1, by rw [gs_ne (by omega), tu_ne T 2 v (show 1 ≠ 12 by decide)]; exact i2, by rw [gs_ne (by omega), tu_ne T 2 v (show 2 ≠ 12 by decide)]; exact i3, by rw [gs_ne (by omega), tu_ne T 2 v (show 3 ≠ 12 by decide)]; exact i4, by rw [gs_ne (by omega), tu_ne T 2 v (show 4 ≠ 12 by decide)]; exact i5, by rw [gs_ne (by omega), tu_ne T 2 v (show 5 ≠ 12 by decide)]; exact i6, by rw [gs_ne (by omega), tu_ne T 2 v (show 6 ≠ 12 by decide)]; exact i7, by rw [gs_ne (by omega), tu_ne T 2 v (show 7 ≠ 12 by decide)]; exact i8, by rw [gs_ne (by omega), tu_ne T 2 v (show 8 ≠ 12 by decide)]; exact i9, by rw [gs_ne (by omega), tu_ne T 2 v (show 9 ≠ 12 by decide)]; exact i10, by rw [gs_ne (by omega), tu_ne T 2 v (show 10 ≠ 12 by decide)]; exact i11, by rw [gs_ne (by omega)]; simp only [leO, tu_nk T 12 12 v (show (0 : Nat) ≠ 2 by decide), tu_nk T 12 12 v (show (1 : Nat) ≠ 2 by decide), tu_nk T 12 12 v (show (3 : Nat) ≠ 2 by decide), tu_nk T 12 12 v (show (4 : Nat) ≠ 2 by decide), tu_nk T 12 12 v (show (5 : Nat) ≠ 2 by decide), tu_nk T 12 12 v (show (6 : Nat) ≠ 2 by decide)]; exact i12, by rw [gs_ne (by omega), tu_ne T 2 v (show 11 ≠ 12 by decide)]; exact i13⟩
theorem Isl.ps3 {G : AH} {a : Nat} {T : ST} {sd : Int32} (h : Isl G a T sd) (v : Nat) : Isl (gs G a (oB 1 (List.set [.ref (a + 1), .ref (a + 2), .ref (a + 3), .ref (a + 4), .ref (a + 5), .ref (a + 6), .ref (a + 7), .ref (a + 8), .ref (a + 9), .ref (a + 10), .ref (a + 11), .ref (a + 12), .int (nI (T 12 0)), .int (nI (T 12 1)), .int (nI (T 12 2)), .int (nI (T 12 3)), .int (nI (T 12 4)), .int sd] 15 (.int (nI v))))) a (tu T 12 3 v) sd := by
  obtain ⟨i0, i1, i2, i3, i4, i5, i6, i7, i8, i9, i10, i11, i12, i13⟩ := h
  exact ⟨by rw [gs_at]; simp only [isO, tu_at, tu_nk T 12 12 v (show (0 : Nat) ≠ 3 by decide), tu_nk T 12 12 v (show (1 : Nat) ≠ 3 by decide), tu_nk T 12 12 v (show (2 : Nat) ≠ 3 by decide), tu_nk T 12 12 v (show (4 : Nat) ≠ 3 by decide), tu_nk T 12 12 v (show (5 : Nat) ≠ 3 by decide), tu_nk T 12 12 v (show (6 : Nat) ≠ 3 by decide)]; rfl, by rw [gs_ne (by omega), tu_ne T 3 v (show 0 ≠ 12 by decide)]; exact i1, by rw [gs_ne (by omega), tu_ne T 3 v (show 1 ≠ 12 by decide)]; exact i2, by rw [gs_ne (by omega), tu_ne T 3 v (show 2 ≠ 12 by decide)]; exact i3, by rw [gs_ne (by omega), tu_ne T 3 v (show 3 ≠ 12 by decide)]; exact i4, by rw [gs_ne (by omega), tu_ne T 3 v (show 4 ≠ 12 by decide)]; exact i5, by rw [gs_ne (by omega), tu_ne T 3 v (show 5 ≠ 12 by decide)]; exact i6, by rw [gs_ne (by omega), tu_ne T 3 v (show 6 ≠ 12 by decide)]; exact i7, by rw [gs_ne (by omega), tu_ne T 3 v (show 7 ≠ 12 by decide)]; exact i8, by rw [gs_ne (by omega), tu_ne T 3 v (show 8 ≠ 12 by decide)]; exact i9, by rw [gs_ne (by omega), tu_ne T 3 v (show 9 ≠ 12 by decide)]; exact i10, by rw [gs_ne (by omega), tu_ne T 3 v (show 10 ≠ 12 by decide)]; exact i11, by rw [gs_ne (by omega)]; simp only [leO, tu_nk T 12 12 v (show (0 : Nat) ≠ 3 by decide), tu_nk T 12 12 v (show (1 : Nat) ≠ 3 by decide), tu_nk T 12 12 v (show (2 : Nat) ≠ 3 by decide), tu_nk T 12 12 v (show (4 : Nat) ≠ 3 by decide), tu_nk T 12 12 v (show (5 : Nat) ≠ 3 by decide), tu_nk T 12 12 v (show (6 : Nat) ≠ 3 by decide)]; exact i12, by rw [gs_ne (by omega), tu_ne T 3 v (show 11 ≠ 12 by decide)]; exact i13⟩
theorem Isl.ps4 {G : AH} {a : Nat} {T : ST} {sd : Int32} (h : Isl G a T sd) (v : Nat) : Isl (gs G a (oB 1 (List.set [.ref (a + 1), .ref (a + 2), .ref (a + 3), .ref (a + 4), .ref (a + 5), .ref (a + 6), .ref (a + 7), .ref (a + 8), .ref (a + 9), .ref (a + 10), .ref (a + 11), .ref (a + 12), .int (nI (T 12 0)), .int (nI (T 12 1)), .int (nI (T 12 2)), .int (nI (T 12 3)), .int (nI (T 12 4)), .int sd] 16 (.int (nI v))))) a (tu T 12 4 v) sd := by
  obtain ⟨i0, i1, i2, i3, i4, i5, i6, i7, i8, i9, i10, i11, i12, i13⟩ := h
  exact ⟨by rw [gs_at]; simp only [isO, tu_at, tu_nk T 12 12 v (show (0 : Nat) ≠ 4 by decide), tu_nk T 12 12 v (show (1 : Nat) ≠ 4 by decide), tu_nk T 12 12 v (show (2 : Nat) ≠ 4 by decide), tu_nk T 12 12 v (show (3 : Nat) ≠ 4 by decide), tu_nk T 12 12 v (show (5 : Nat) ≠ 4 by decide), tu_nk T 12 12 v (show (6 : Nat) ≠ 4 by decide)]; rfl, by rw [gs_ne (by omega), tu_ne T 4 v (show 0 ≠ 12 by decide)]; exact i1, by rw [gs_ne (by omega), tu_ne T 4 v (show 1 ≠ 12 by decide)]; exact i2, by rw [gs_ne (by omega), tu_ne T 4 v (show 2 ≠ 12 by decide)]; exact i3, by rw [gs_ne (by omega), tu_ne T 4 v (show 3 ≠ 12 by decide)]; exact i4, by rw [gs_ne (by omega), tu_ne T 4 v (show 4 ≠ 12 by decide)]; exact i5, by rw [gs_ne (by omega), tu_ne T 4 v (show 5 ≠ 12 by decide)]; exact i6, by rw [gs_ne (by omega), tu_ne T 4 v (show 6 ≠ 12 by decide)]; exact i7, by rw [gs_ne (by omega), tu_ne T 4 v (show 7 ≠ 12 by decide)]; exact i8, by rw [gs_ne (by omega), tu_ne T 4 v (show 8 ≠ 12 by decide)]; exact i9, by rw [gs_ne (by omega), tu_ne T 4 v (show 9 ≠ 12 by decide)]; exact i10, by rw [gs_ne (by omega), tu_ne T 4 v (show 10 ≠ 12 by decide)]; exact i11, by rw [gs_ne (by omega)]; simp only [leO, tu_nk T 12 12 v (show (0 : Nat) ≠ 4 by decide), tu_nk T 12 12 v (show (1 : Nat) ≠ 4 by decide), tu_nk T 12 12 v (show (2 : Nat) ≠ 4 by decide), tu_nk T 12 12 v (show (3 : Nat) ≠ 4 by decide), tu_nk T 12 12 v (show (5 : Nat) ≠ 4 by decide), tu_nk T 12 12 v (show (6 : Nat) ≠ 4 by decide)]; exact i12, by rw [gs_ne (by omega), tu_ne T 4 v (show 11 ≠ 12 by decide)]; exact i13⟩
theorem Isl.sd {G : AH} {a : Nat} {T : ST} {sd : Int32} (h : Isl G a T sd) (s2 : Int32) : Isl (gs G a (oB 1 (List.set [.ref (a + 1), .ref (a + 2), .ref (a + 3), .ref (a + 4), .ref (a + 5), .ref (a + 6), .ref (a + 7), .ref (a + 8), .ref (a + 9), .ref (a + 10), .ref (a + 11), .ref (a + 12), .int (nI (T 12 0)), .int (nI (T 12 1)), .int (nI (T 12 2)), .int (nI (T 12 3)), .int (nI (T 12 4)), .int sd] 17 (.int s2)))) a T s2 := by
  obtain ⟨i0, i1, i2, i3, i4, i5, i6, i7, i8, i9, i10, i11, i12, i13⟩ := h
  exact ⟨gs_at, by rw [gs_ne (by omega)]; exact i1, by rw [gs_ne (by omega)]; exact i2, by rw [gs_ne (by omega)]; exact i3, by rw [gs_ne (by omega)]; exact i4, by rw [gs_ne (by omega)]; exact i5, by rw [gs_ne (by omega)]; exact i6, by rw [gs_ne (by omega)]; exact i7, by rw [gs_ne (by omega)]; exact i8, by rw [gs_ne (by omega)]; exact i9, by rw [gs_ne (by omega)]; exact i10, by rw [gs_ne (by omega)]; exact i11, by rw [gs_ne (by omega)]; exact i12, by rw [gs_ne (by omega)]; exact i13⟩
theorem stN_le (a b : Nat) : stN a b ≤ 6 := by unfold stN; omega
theorem wkAll_le {T : ST} (hB : Bd T) : wkAll T ≤ 372 := by
  have h1 := sumN_le (f := wrkN T) (c := 26) (fun i => by have := stN_le (T 1 i) (T 5 i); have := hB.2.2.2.1 i; unfold wrkN worN; omega) (T 12 0)
  have h2 := sumN_le (f := fun r => (T 7 r + 10 - 1) / 10) (c := 10) (fun i => by have := hB.2.2.2.2.2.2.2.2.1 i; omega) 6
  have h0 := hB.1
  unfold wkAll
  omega
def needV (T : ST) (s : Nat) : Int32 := if wkAll T = 0 then nI 0 else if T 9 s = 0 then -1 else nI ((wkAll T + T 9 s - 1) / T 9 s)
theorem c_needsOf {E : EV} {a : Nat} {T : ST} {sd : Int32} {G : AH} {k : Nat} (hI : Isl G a T sd) (hB : Bd T) (hk : k < 2) : Cu E 5 kX1_needsOf [.ref a, .int (nI k)] G (.int (needV T k)) G := by
  obtain ⟨i0, i1, i2, i3, i4, i5, i6, i7, i8, i9, i10, i11, i12, i13⟩ := id hI
  obtain ⟨b0, b1, b2_, b3, b4, b5, b6, b7, b8, b9, b10, b11, b12, b13, b14, b15, b16, b17, b18, b19⟩ := id hB
  have hw := wkAll_le hB; have := b10 k
  refine Ct.intro rfl (by decide) [.ref a, .int (nI k), .float 0, .float 0] (by simp [Value.category]) (Nat.le_of_ble_eq_true rfl) rfl ?_
  refine w_aload_n dX1_needsOf_0 rfl ?_
  refine wV0u dX1_needsOf_1 lk_X1_106 rfl (by first | assumption | exact gs_at | (rw [gs_ne (by omega)]; (first | assumption | exact gs_at | (rw [gs_ne (by omega)]; (first | assumption | exact gs_at | (rw [gs_ne (by omega)]; (first | assumption | exact gs_at | (rw [gs_ne (by omega)]; (first | assumption | exact gs_at))))))))) rfl rfl (c_workOfAll hI hB) (Nat.le_of_ble_eq_true rfl) (Nat.le_of_ble_eq_true rfl) (Nat.le_of_ble_eq_true rfl) (Nat.le_of_ble_eq_true rfl) ?_
  refine w_istore_2 dX1_needsOf_4 rfl ?_
  refine w_iload_n dX1_needsOf_5 rfl ?_
  refine w_ifN_ne (tgt := 11) dX1_needsOf_6 (by decide) (fun c_6 => ?_) (fun c_6 => ?_)
  · try simp (disch := omega) only [nI_b2, Decidable.not_not, nI_ltI, nI_leI, nI_eq, ge_iff_le, gt_iff_lt, ne_eq, Nat.not_lt, Nat.not_le] at c_6
    refine w_aload_n dX1_needsOf_11 rfl ?_
    refine w_getf dX1_needsOf_12 fl_X1_39 (by first | assumption | exact gs_at | (rw [gs_ne (by omega)]; (first | assumption | exact gs_at | (rw [gs_ne (by omega)]; (first | assumption | exact gs_at | (rw [gs_ne (by omega)]; (first | assumption | exact gs_at | (rw [gs_ne (by omega)]; (first | assumption | exact gs_at))))))))) rfl ?_
    refine w_iload_n dX1_needsOf_15 rfl ?_
    refine wN2u dX1_needsOf_16 lk_X1_83 rfl (c_atN (by first | assumption | exact gs_at | (rw [gs_ne (by omega)]; (first | assumption | exact gs_at | (rw [gs_ne (by omega)]; (first | assumption | exact gs_at | (rw [gs_ne (by omega)]; (first | assumption | exact gs_at | (rw [gs_ne (by omega)]; (first | assumption | exact gs_at))))))))) (by omega) (by decide)) (Nat.le_of_ble_eq_true rfl) (Nat.le_of_ble_eq_true rfl) (Nat.le_of_ble_eq_true rfl) (Nat.le_of_ble_eq_true rfl) ?_
    refine w_istore_3 dX1_needsOf_19 rfl ?_
    refine w_iload_n dX1_needsOf_20 rfl ?_
    refine w_ifN_le (tgt := 32) dX1_needsOf_21 (by decide) (fun c_21 => ?_) (fun c_21 => ?_)
    · try simp (disch := omega) only [nI_b2, Decidable.not_not, nI_ltI, nI_leI, nI_eq, ge_iff_le, gt_iff_lt, ne_eq, Nat.not_lt, Nat.not_le] at c_21
      refine w_iconst (v := (-1)) dX1_needsOf_32 (by decide) ?_
      refine w_iret dX1_needsOf_33 rfl (Nat.le_of_ble_eq_true rfl) (Nat.le_of_ble_eq_true rfl) ?_
      refine ⟨?_, rfl⟩
      unfold needV
      first | (rw [if_pos (by omega)]; done) | (rw [if_neg (by omega), if_pos (by omega)]; done) | (rw [if_neg (by omega), if_neg (by omega)]; done)
    · try simp (disch := omega) only [nI_b2, Decidable.not_not, nI_ltI, nI_leI, nI_eq, ge_iff_le, gt_iff_lt, ne_eq, Nat.not_lt, Nat.not_le] at c_21
      refine w_iload_n dX1_needsOf_24 rfl ?_
      refine w_iload_n dX1_needsOf_25 rfl ?_
      refine wN2u dX1_needsOf_26 lk_X1_100 rfl (c_roundedUp (by omega) (by omega) (by omega)) (Nat.le_of_ble_eq_true rfl) (Nat.le_of_ble_eq_true rfl) (Nat.le_of_ble_eq_true rfl) (Nat.le_of_ble_eq_true rfl) ?_
      refine w_goto (tgt := 33) dX1_needsOf_29 (by decide) ?_
      refine w_iret dX1_needsOf_33 rfl (Nat.le_of_ble_eq_true rfl) (Nat.le_of_ble_eq_true rfl) ?_
      refine ⟨?_, rfl⟩
      unfold needV
      first | (rw [if_pos (by omega)]; done) | (rw [if_neg (by omega), if_pos (by omega)]; done) | (rw [if_neg (by omega), if_neg (by omega)]; done)
  · try simp (disch := omega) only [nI_b2, Decidable.not_not, nI_ltI, nI_leI, nI_eq, ge_iff_le, gt_iff_lt, ne_eq, Nat.not_lt, Nat.not_le] at c_6
    refine w_iconst (v := nI 0) dX1_needsOf_9 (by decide) ?_
    refine w_iret dX1_needsOf_10 rfl (Nat.le_of_ble_eq_true rfl) (Nat.le_of_ble_eq_true rfl) ?_
    refine ⟨?_, rfl⟩
    unfold needV
    first | (rw [if_pos (by omega)]; done) | (rw [if_neg (by omega), if_pos (by omega)]; done) | (rw [if_neg (by omega), if_neg (by omega)]; done)
def lateV (T : ST) (s : Nat) : Int32 := if needV T s = -1 then -1 else if needV T s ≤ nI (leftN T) then nI (leftN T) - needV T s else -1
theorem c_latestOf {E : EV} {a : Nat} {T : ST} {sd : Int32} {G : AH} {k : Nat} (hI : Isl G a T sd) (hB : Bd T) (hk : k < 2) : Cu E 6 kX1_latestOf [.ref a, .int (nI k)] G (.int (lateV T k)) G := by
  obtain ⟨i0, i1, i2, i3, i4, i5, i6, i7, i8, i9, i10, i11, i12, i13⟩ := id hI
  obtain ⟨b0, b1, b2_, b3, b4, b5, b6, b7, b8, b9, b10, b11, b12, b13, b14, b15, b16, b17, b18, b19⟩ := id hB
  refine Ct.intro rfl (by decide) [.ref a, .int (nI k), .float 0, .float 0] (by simp [Value.category]) (Nat.le_of_ble_eq_true rfl) rfl ?_
  refine w_aload_n dX1_latestOf_0 rfl ?_
  refine w_iload_n dX1_latestOf_1 rfl ?_
  refine wV1u dX1_latestOf_2 lk_X1_110 rfl (by first | assumption | exact gs_at | (rw [gs_ne (by omega)]; (first | assumption | exact gs_at | (rw [gs_ne (by omega)]; (first | assumption | exact gs_at | (rw [gs_ne (by omega)]; (first | assumption | exact gs_at | (rw [gs_ne (by omega)]; (first | assumption | exact gs_at))))))))) rfl rfl (c_needsOf hI hB hk) (Nat.le_of_ble_eq_true rfl) (Nat.le_of_ble_eq_true rfl) (Nat.le_of_ble_eq_true rfl) (Nat.le_of_ble_eq_true rfl) ?_
  refine w_istore_2 dX1_latestOf_5 rfl ?_
  refine w_aload_n dX1_latestOf_6 rfl ?_
  refine wV0u dX1_latestOf_7 lk_X1_113 rfl (by first | assumption | exact gs_at | (rw [gs_ne (by omega)]; (first | assumption | exact gs_at | (rw [gs_ne (by omega)]; (first | assumption | exact gs_at | (rw [gs_ne (by omega)]; (first | assumption | exact gs_at | (rw [gs_ne (by omega)]; (first | assumption | exact gs_at))))))))) rfl rfl (c_daysLeft hI hB) (Nat.le_of_ble_eq_true rfl) (Nat.le_of_ble_eq_true rfl) (Nat.le_of_ble_eq_true rfl) (Nat.le_of_ble_eq_true rfl) ?_
  refine w_istore_3 dX1_latestOf_10 rfl ?_
  refine w_iload_n dX1_latestOf_11 rfl ?_
  refine w_iconst (v := (-1)) dX1_latestOf_12 (by decide) ?_
  refine w_icmp_eq (tgt := 21) dX1_latestOf_13 (by decide) (fun c_13 => ?_) (fun c_13 => ?_)
  · skip
    refine w_iconst (v := (-1)) dX1_latestOf_21 (by decide) ?_
    refine w_goto (tgt := 28) dX1_latestOf_22 (by decide) ?_
    refine w_iret dX1_latestOf_28 rfl (Nat.le_of_ble_eq_true rfl) (Nat.le_of_ble_eq_true rfl) ?_
    refine ⟨?_, rfl⟩
    unfold lateV
    first | (rw [if_pos c_13]; done) | (rw [if_neg c_13, if_pos c_18]; done) | (rw [if_neg c_13, if_neg c_18]; done)
  · skip
    refine w_iload_n dX1_latestOf_16 rfl ?_
    refine w_iload_n dX1_latestOf_17 rfl ?_
    refine w_icmp_le (tgt := 25) dX1_latestOf_18 (by decide) (fun c_18 => ?_) (fun c_18 => ?_)
    · skip
      refine w_iload_n dX1_latestOf_25 rfl ?_
      refine w_iload_n dX1_latestOf_26 rfl ?_
      refine w_isub dX1_latestOf_27 ?_
      refine w_iret dX1_latestOf_28 rfl (Nat.le_of_ble_eq_true rfl) (Nat.le_of_ble_eq_true rfl) ?_
      refine ⟨?_, rfl⟩
      unfold lateV
      first | (rw [if_pos c_13]; done) | (rw [if_neg c_13, if_pos c_18]; done) | (rw [if_neg c_13, if_neg c_18]; done)
    · skip
      refine w_iconst (v := (-1)) dX1_latestOf_21 (by decide) ?_
      refine w_goto (tgt := 28) dX1_latestOf_22 (by decide) ?_
      refine w_iret dX1_latestOf_28 rfl (Nat.le_of_ble_eq_true rfl) (Nat.le_of_ble_eq_true rfl) ?_
      refine ⟨?_, rfl⟩
      unfold lateV
      first | (rw [if_pos c_13]; done) | (rw [if_neg c_13, if_pos c_18]; done) | (rw [if_neg c_13, if_neg c_18]; done)
theorem lp_itemsWith {E : EV} {Q : OC → AH → Prop} {a : Nat} {T : ST} {sd : Int32} {G : AH} {r v : Nat} {f : Nat → Nat} (hI : Isl G a T sd) (hB : Bd T) (hr : G.1 r = some (aI 12 (fun i => nI (f i)))) (hf : ∀ i, f i < 100) (hv : v < 100) (hQ : Q (.inl (some (.int (nI (bitN (fun i => f i = v) (T 12 0)))))) G) : ∀ (k i : Nat), T 12 0 - i < k → i ≤ T 12 0 → Wp E 2 0 0 kX1_itemsWith Q G (0, 0) 5 [.ref a, .ref r, .int (nI v), .int (nI (bitN (fun i => f i = v) i)), .int (nI i)] [] := by
  obtain ⟨i0, i1, i2, i3, i4, i5, i6, i7, i8, i9, i10, i11, i12, i13⟩ := id hI
  obtain ⟨b0, b1, b2_, b3, b4, b5, b6, b7, b8, b9, b10, b11, b12, b13, b14, b15, b16, b17, b18, b19⟩ := id hB
  intro k
  induction k with
  | zero => intro i h; exact absurd h (by omega)
  | succ k ih =>
    intro i hk hi
    refine w_iload dX1_itemsWith_5 rfl ?_
    refine w_aload_n dX1_itemsWith_7 rfl ?_
    refine w_getf dX1_itemsWith_8 fl_X1_52 (by first | assumption | exact gs_at | (rw [gs_ne (by omega)]; (first | assumption | exact gs_at | (rw [gs_ne (by omega)]; (first | assumption | exact gs_at | (rw [gs_ne (by omega)]; (first | assumption | exact gs_at | (rw [gs_ne (by omega)]; (first | assumption | exact gs_at))))))))) rfl ?_
    refine w_icmp_ge (tgt := 37) dX1_itemsWith_11 (by decide) (fun c_11 => ?_) (fun c_11 => ?_)
    · try simp (disch := omega) only [nI_b2, Decidable.not_not, nI_ltI, nI_leI, nI_eq, ge_iff_le, gt_iff_lt, ne_eq, Nat.not_lt, Nat.not_le] at c_11
      refine w_iload_n dX1_itemsWith_37 rfl ?_
      refine w_iret dX1_itemsWith_38 rfl (Nat.le_of_ble_eq_true rfl) (Nat.le_of_ble_eq_true rfl) ?_
      rw [← show i = T 12 0 by omega] at hQ
      exact hQ
    · try simp (disch := omega) only [nI_b2, Decidable.not_not, nI_ltI, nI_leI, nI_eq, ge_iff_le, gt_iff_lt, ne_eq, Nat.not_lt, Nat.not_le] at c_11
      refine w_aload_n dX1_itemsWith_14 rfl ?_
      refine w_iload dX1_itemsWith_15 rfl ?_
      refine wN2u dX1_itemsWith_17 lk_X1_83 rfl (c_atN (by first | assumption | exact gs_at | (rw [gs_ne (by omega)]; (first | assumption | exact gs_at | (rw [gs_ne (by omega)]; (first | assumption | exact gs_at | (rw [gs_ne (by omega)]; (first | assumption | exact gs_at | (rw [gs_ne (by omega)]; (first | assumption | exact gs_at))))))))) (by omega) (by decide)) (Nat.le_of_ble_eq_true rfl) (Nat.le_of_ble_eq_true rfl) (Nat.le_of_ble_eq_true rfl) (Nat.le_of_ble_eq_true rfl) ?_
      have := hf i
      refine w_iload_n dX1_itemsWith_20 rfl ?_
      refine w_icmp_ne (tgt := 31) dX1_itemsWith_21 (by decide) (fun c_21 => ?_) (fun c_21 => ?_)
      · try simp (disch := omega) only [nI_b2, Decidable.not_not, nI_ltI, nI_leI, nI_eq, ge_iff_le, gt_iff_lt, ne_eq, Nat.not_lt, Nat.not_le] at c_21
        first | refine w_iinc_4 dX1_itemsWith_31 (nI_inc _) rfl ?_ | refine w_iinc_4 dX1_itemsWith_31 rfl rfl ?_
        refine w_goto (tgt := 5) dX1_itemsWith_34 (by decide) ?_
        have h9 := ih (i + 1) (by omega) (by omega)
        first | rw [bitN_t (p := fun i => f i = v) (by omega)] at h9 | rw [bitN_f (p := fun i => f i = v) (by omega)] at h9
        exact h9
      · try simp (disch := omega) only [nI_b2, Decidable.not_not, nI_ltI, nI_leI, nI_eq, ge_iff_le, gt_iff_lt, ne_eq, Nat.not_lt, Nat.not_le] at c_21
        refine w_iload_n dX1_itemsWith_24 rfl ?_
        refine w_iconst (v := nI 1) dX1_itemsWith_25 (by decide) ?_
        refine w_iload dX1_itemsWith_26 rfl ?_
        refine w_ishlN (by omega) (p2_lt (by omega)) dX1_itemsWith_28 ?_
        first | refine w_iorN dX1_itemsWith_29 ?_ | refine w_ior dX1_itemsWith_29 ?_
        refine w_istore_3 dX1_itemsWith_30 rfl ?_
        first | refine w_iinc_4 dX1_itemsWith_31 (nI_inc _) rfl ?_ | refine w_iinc_4 dX1_itemsWith_31 rfl rfl ?_
        refine w_goto (tgt := 5) dX1_itemsWith_34 (by decide) ?_
        have h9 := ih (i + 1) (by omega) (by omega)
        first | rw [bitN_t (p := fun i => f i = v) (by omega)] at h9 | rw [bitN_f (p := fun i => f i = v) (by omega)] at h9
        exact h9
theorem c_itemsWith {E : EV} {a : Nat} {T : ST} {sd : Int32} {G : AH} {r v : Nat} {f : Nat → Nat} (hI : Isl G a T sd) (hB : Bd T) (hr : G.1 r = some (aI 12 (fun i => nI (f i)))) (hf : ∀ i, f i < 100) (hv : v < 100) : Cu E 2 kX1_itemsWith [.ref a, .ref r, .int (nI v)] G (.int (nI (bitN (fun i => f i = v) (T 12 0)))) G := by
  refine Ct.intro rfl (by decide) [.ref a, .ref r, .int (nI v), .float 0, .float 0] (by simp [Value.category]) (Nat.le_of_ble_eq_true rfl) rfl ?_
  refine w_iconst (v := nI 0) dX1_itemsWith_0 (by decide) ?_
  refine w_istore_3 dX1_itemsWith_1 rfl ?_
  refine w_iconst (v := nI 0) dX1_itemsWith_2 (by decide) ?_
  refine w_istore_4 dX1_itemsWith_3 rfl ?_
  exact lp_itemsWith hI hB hr hf hv ⟨rfl, rfl⟩ (T 12 0 + 1) 0 (by omega) (by omega)
abbrev mis (T : ST) : Nat → Prop := fun i => T 1 i ≠ T 5 i
theorem lp_missingOnes {E : EV} {Q : OC → AH → Prop} {a : Nat} {T : ST} {sd : Int32} {G : AH} (hI : Isl G a T sd) (hB : Bd T) (hQ : Q (.inl (some (.int (nI (bitN (mis T) (T 12 0)))))) G) : ∀ (k i : Nat), T 12 0 - i < k → i ≤ T 12 0 → Wp E 3 0 0 kX1_missingOnes Q G (0, 0) 4 [.ref a, .int (nI (bitN (mis T) i)), .int (nI i)] [] := by
  obtain ⟨i0, i1, i2, i3, i4, i5, i6, i7, i8, i9, i10, i11, i12, i13⟩ := id hI
  obtain ⟨b0, b1, b2_, b3, b4, b5, b6, b7, b8, b9, b10, b11, b12, b13, b14, b15, b16, b17, b18, b19⟩ := id hB
  intro k
  induction k with
  | zero => intro i h; exact absurd h (by omega)
  | succ k ih =>
    intro i hk hi
    refine w_iload_n dX1_missingOnes_4 rfl ?_
    refine w_aload_n dX1_missingOnes_5 rfl ?_
    refine w_getf dX1_missingOnes_6 fl_X1_52 (by first | assumption | exact gs_at | (rw [gs_ne (by omega)]; (first | assumption | exact gs_at | (rw [gs_ne (by omega)]; (first | assumption | exact gs_at | (rw [gs_ne (by omega)]; (first | assumption | exact gs_at | (rw [gs_ne (by omega)]; (first | assumption | exact gs_at))))))))) rfl ?_
    refine w_icmp_ge (tgt := 32) dX1_missingOnes_9 (by decide) (fun c_9 => ?_) (fun c_9 => ?_)
    · try simp (disch := omega) only [nI_b2, nI_ltI, nI_leI, nI_eq, Nat.not_lt, Nat.not_le] at c_9
      refine w_iload_n dX1_missingOnes_32 rfl ?_
      refine w_iret dX1_missingOnes_33 rfl (Nat.le_of_ble_eq_true rfl) (Nat.le_of_ble_eq_true rfl) ?_
      rw [← show i = T 12 0 by omega] at hQ
      exact hQ
    · try simp (disch := omega) only [nI_b2, nI_ltI, nI_leI, nI_eq, Nat.not_lt, Nat.not_le] at c_9
      refine w_aload_n dX1_missingOnes_12 rfl ?_
      refine w_iload_n dX1_missingOnes_13 rfl ?_
      refine wV1u dX1_missingOnes_14 lk_X1_116 rfl (by first | assumption | exact gs_at | (rw [gs_ne (by omega)]; (first | assumption | exact gs_at | (rw [gs_ne (by omega)]; (first | assumption | exact gs_at | (rw [gs_ne (by omega)]; (first | assumption | exact gs_at | (rw [gs_ne (by omega)]; (first | assumption | exact gs_at))))))))) rfl rfl (c_isMissing hI hB (by omega)) (Nat.le_of_ble_eq_true rfl) (Nat.le_of_ble_eq_true rfl) (Nat.le_of_ble_eq_true rfl) (Nat.le_of_ble_eq_true rfl) ?_
      refine w_ifN_eq (tgt := 26) dX1_missingOnes_17 (by decide) (fun c_17 => ?_) (fun c_17 => ?_)
      · try simp (disch := omega) only [nI_b2, nI_ltI, nI_leI, nI_eq, Nat.not_lt, Nat.not_le] at c_17
        first | refine w_iinc_2 dX1_missingOnes_26 (nI_inc _) rfl ?_ | refine w_iinc_2 dX1_missingOnes_26 rfl rfl ?_
        refine w_goto (tgt := 4) dX1_missingOnes_29 (by decide) ?_
        have h9 := ih (i + 1) (by omega) (by omega)
        first | rw [bitN_t (p := mis T) (by assumption)] at h9 | rw [bitN_f (p := mis T) (by assumption)] at h9
        exact h9
      · try simp (disch := omega) only [nI_b2, nI_ltI, nI_leI, nI_eq, Nat.not_lt, Nat.not_le] at c_17
        rw [Decidable.not_not] at c_17
        refine w_iload_n dX1_missingOnes_20 rfl ?_
        refine w_iconst (v := nI 1) dX1_missingOnes_21 (by decide) ?_
        refine w_iload_n dX1_missingOnes_22 rfl ?_
        refine w_ishlN (by omega) (p2_lt (by omega)) dX1_missingOnes_23 ?_
        first | refine w_iorN dX1_missingOnes_24 ?_ | refine w_ior dX1_missingOnes_24 ?_
        refine w_istore_1 dX1_missingOnes_25 rfl ?_
        first | refine w_iinc_2 dX1_missingOnes_26 (nI_inc _) rfl ?_ | refine w_iinc_2 dX1_missingOnes_26 rfl rfl ?_
        refine w_goto (tgt := 4) dX1_missingOnes_29 (by decide) ?_
        have h9 := ih (i + 1) (by omega) (by omega)
        first | rw [bitN_t (p := mis T) (by assumption)] at h9 | rw [bitN_f (p := mis T) (by assumption)] at h9
        exact h9
theorem c_missingOnes {E : EV} {a : Nat} {T : ST} {sd : Int32} {G : AH} (hI : Isl G a T sd) (hB : Bd T) : Cu E 3 kX1_missingOnes [.ref a] G (.int (nI (bitN (mis T) (T 12 0)))) G := by
  refine Ct.intro rfl (by decide) [.ref a, .float 0, .float 0] (by simp [Value.category]) (Nat.le_of_ble_eq_true rfl) rfl ?_
  refine w_iconst (v := nI 0) dX1_missingOnes_0 (by decide) ?_
  refine w_istore_1 dX1_missingOnes_1 rfl ?_
  refine w_iconst (v := nI 0) dX1_missingOnes_2 (by decide) ?_
  refine w_istore_2 dX1_missingOnes_3 rfl ?_
  exact lp_missingOnes hI hB ⟨rfl, rfl⟩ (T 12 0 + 1) 0 (by omega) (by omega)
def misV (T : ST) : Nat := sumN (T 12 0) (fun i => if T 1 i ≠ T 5 i then T 3 i else 0)
theorem lp_missingValue {E : EV} {Q : OC → AH → Prop} {a : Nat} {T : ST} {sd : Int32} {G : AH} (hI : Isl G a T sd) (hB : Bd T) (hQ : Q (.inl (some (.int (nI (misV T))))) G) : ∀ (k i : Nat), T 12 0 - i < k → i ≤ T 12 0 → Wp E 3 0 0 kX1_missingValue Q G (0, 0) 4 [.ref a, .int (nI (sumN i (fun i => if T 1 i ≠ T 5 i then T 3 i else 0))), .int (nI i)] [] := by
  obtain ⟨i0, i1, i2, i3, i4, i5, i6, i7, i8, i9, i10, i11, i12, i13⟩ := id hI
  obtain ⟨b0, b1, b2_, b3, b4, b5, b6, b7, b8, b9, b10, b11, b12, b13, b14, b15, b16, b17, b18, b19⟩ := id hB
  intro k
  induction k with
  | zero => intro i h; exact absurd h (by omega)
  | succ k ih =>
    intro i hk hi
    refine w_iload_n dX1_missingValue_4 rfl ?_
    refine w_aload_n dX1_missingValue_5 rfl ?_
    refine w_getf dX1_missingValue_6 fl_X1_52 (by first | assumption | exact gs_at | (rw [gs_ne (by omega)]; (first | assumption | exact gs_at | (rw [gs_ne (by omega)]; (first | assumption | exact gs_at | (rw [gs_ne (by omega)]; (first | assumption | exact gs_at | (rw [gs_ne (by omega)]; (first | assumption | exact gs_at))))))))) rfl ?_
    refine w_icmp_ge (tgt := 37) dX1_missingValue_9 (by decide) (fun c_9 => ?_) (fun c_9 => ?_)
    · try simp (disch := omega) only [nI_b2, Decidable.not_not, nI_ltI, nI_leI, nI_eq, ge_iff_le, gt_iff_lt, ne_eq, Nat.not_lt, Nat.not_le] at c_9
      refine w_iload_n dX1_missingValue_37 rfl ?_
      refine w_iret dX1_missingValue_38 rfl (Nat.le_of_ble_eq_true rfl) (Nat.le_of_ble_eq_true rfl) ?_
      rw [misV, ← show i = T 12 0 by omega] at hQ
      exact hQ
    · try simp (disch := omega) only [nI_b2, Decidable.not_not, nI_ltI, nI_leI, nI_eq, ge_iff_le, gt_iff_lt, ne_eq, Nat.not_lt, Nat.not_le] at c_9
      refine w_aload_n dX1_missingValue_12 rfl ?_
      refine w_iload_n dX1_missingValue_13 rfl ?_
      refine wV1u dX1_missingValue_14 lk_X1_116 rfl (by first | assumption | exact gs_at | (rw [gs_ne (by omega)]; (first | assumption | exact gs_at | (rw [gs_ne (by omega)]; (first | assumption | exact gs_at | (rw [gs_ne (by omega)]; (first | assumption | exact gs_at | (rw [gs_ne (by omega)]; (first | assumption | exact gs_at))))))))) rfl rfl (c_isMissing hI hB (by omega)) (Nat.le_of_ble_eq_true rfl) (Nat.le_of_ble_eq_true rfl) (Nat.le_of_ble_eq_true rfl) (Nat.le_of_ble_eq_true rfl) ?_
      refine w_ifN_eq (tgt := 31) dX1_missingValue_17 (by decide) (fun c_17 => ?_) (fun c_17 => ?_)
      · try simp (disch := omega) only [nI_b2, Decidable.not_not, nI_ltI, nI_leI, nI_eq, ge_iff_le, gt_iff_lt, ne_eq, Nat.not_lt, Nat.not_le] at c_17
        first | refine w_iinc_2 dX1_missingValue_31 (nI_inc _) rfl ?_ | refine w_iinc_2 dX1_missingValue_31 rfl rfl ?_
        refine w_goto (tgt := 4) dX1_missingValue_34 (by decide) ?_
        have h9 := ih (i + 1) (by omega) (by omega)
        first | rw [sumN, if_pos (by omega)] at h9 | rw [sumN, if_neg (by omega)] at h9
        exact h9
      · try simp (disch := omega) only [nI_b2, Decidable.not_not, nI_ltI, nI_leI, nI_eq, ge_iff_le, gt_iff_lt, ne_eq, Nat.not_lt, Nat.not_le] at c_17
        refine w_iload_n dX1_missingValue_20 rfl ?_
        refine w_aload_n dX1_missingValue_21 rfl ?_
        refine w_getf dX1_missingValue_22 fl_X1_21 (by first | assumption | exact gs_at | (rw [gs_ne (by omega)]; (first | assumption | exact gs_at | (rw [gs_ne (by omega)]; (first | assumption | exact gs_at | (rw [gs_ne (by omega)]; (first | assumption | exact gs_at | (rw [gs_ne (by omega)]; (first | assumption | exact gs_at))))))))) rfl ?_
        refine w_iload_n dX1_missingValue_25 rfl ?_
        refine wN2u dX1_missingValue_26 lk_X1_83 rfl (c_atN (by first | assumption | exact gs_at | (rw [gs_ne (by omega)]; (first | assumption | exact gs_at | (rw [gs_ne (by omega)]; (first | assumption | exact gs_at | (rw [gs_ne (by omega)]; (first | assumption | exact gs_at | (rw [gs_ne (by omega)]; (first | assumption | exact gs_at))))))))) (by omega) (by decide)) (Nat.le_of_ble_eq_true rfl) (Nat.le_of_ble_eq_true rfl) (Nat.le_of_ble_eq_true rfl) (Nat.le_of_ble_eq_true rfl) ?_
        first | refine w_iaddN dX1_missingValue_29 ?_ | refine w_iadd dX1_missingValue_29 ?_
        refine w_istore_1 dX1_missingValue_30 rfl ?_
        first | refine w_iinc_2 dX1_missingValue_31 (nI_inc _) rfl ?_ | refine w_iinc_2 dX1_missingValue_31 rfl rfl ?_
        refine w_goto (tgt := 4) dX1_missingValue_34 (by decide) ?_
        have h9 := ih (i + 1) (by omega) (by omega)
        first | rw [sumN, if_pos (by omega)] at h9 | rw [sumN, if_neg (by omega)] at h9
        exact h9
theorem c_missingValue {E : EV} {a : Nat} {T : ST} {sd : Int32} {G : AH} (hI : Isl G a T sd) (hB : Bd T) : Cu E 3 kX1_missingValue [.ref a] G (.int (nI (misV T))) G := by
  refine Ct.intro rfl (by decide) [.ref a, .float 0, .float 0] (by simp [Value.category]) (Nat.le_of_ble_eq_true rfl) rfl ?_
  refine w_iconst (v := nI 0) dX1_missingValue_0 (by decide) ?_
  refine w_istore_1 dX1_missingValue_1 rfl ?_
  refine w_iconst (v := nI 0) dX1_missingValue_2 (by decide) ?_
  refine w_istore_2 dX1_missingValue_3 rfl ?_
  exact lp_missingValue hI hB ⟨rfl, rfl⟩ (T 12 0 + 1) 0 (by omega) (by omega)
def valIn (T : ST) (r : Nat) : Nat := sumN (T 12 0) (fun i => if T 1 i = r then T 3 i else 0)
theorem lp_valueIn {E : EV} {Q : OC → AH → Prop} {a : Nat} {T : ST} {sd : Int32} {G : AH} {r : Nat} (hI : Isl G a T sd) (hB : Bd T) (hr : r < 100) (hQ : Q (.inl (some (.int (nI (valIn T r))))) G) : ∀ (k i : Nat), T 12 0 - i < k → i ≤ T 12 0 → Wp E 2 0 0 kX1_valueIn Q G (0, 0) 4 [.ref a, .int (nI r), .int (nI (sumN i (fun i => if T 1 i = r then T 3 i else 0))), .int (nI i)] [] := by
  obtain ⟨i0, i1, i2, i3, i4, i5, i6, i7, i8, i9, i10, i11, i12, i13⟩ := id hI
  obtain ⟨b0, b1, b2_, b3, b4, b5, b6, b7, b8, b9, b10, b11, b12, b13, b14, b15, b16, b17, b18, b19⟩ := id hB
  intro k
  induction k with
  | zero => intro i h; exact absurd h (by omega)
  | succ k ih =>
    intro i hk hi
    refine w_iload_n dX1_valueIn_4 rfl ?_
    refine w_aload_n dX1_valueIn_5 rfl ?_
    refine w_getf dX1_valueIn_6 fl_X1_52 (by first | assumption | exact gs_at | (rw [gs_ne (by omega)]; (first | assumption | exact gs_at | (rw [gs_ne (by omega)]; (first | assumption | exact gs_at | (rw [gs_ne (by omega)]; (first | assumption | exact gs_at | (rw [gs_ne (by omega)]; (first | assumption | exact gs_at))))))))) rfl ?_
    refine w_icmp_ge (tgt := 41) dX1_valueIn_9 (by decide) (fun c_9 => ?_) (fun c_9 => ?_)
    · try simp (disch := omega) only [nI_b2, Decidable.not_not, nI_ltI, nI_leI, nI_eq, ge_iff_le, gt_iff_lt, ne_eq, Nat.not_lt, Nat.not_le] at c_9
      refine w_iload_n dX1_valueIn_41 rfl ?_
      refine w_iret dX1_valueIn_42 rfl (Nat.le_of_ble_eq_true rfl) (Nat.le_of_ble_eq_true rfl) ?_
      rw [valIn, ← show i = T 12 0 by omega] at hQ
      exact hQ
    · try simp (disch := omega) only [nI_b2, Decidable.not_not, nI_ltI, nI_leI, nI_eq, ge_iff_le, gt_iff_lt, ne_eq, Nat.not_lt, Nat.not_le] at c_9
      refine w_aload_n dX1_valueIn_12 rfl ?_
      refine w_getf dX1_valueIn_13 fl_X1_15 (by first | assumption | exact gs_at | (rw [gs_ne (by omega)]; (first | assumption | exact gs_at | (rw [gs_ne (by omega)]; (first | assumption | exact gs_at | (rw [gs_ne (by omega)]; (first | assumption | exact gs_at | (rw [gs_ne (by omega)]; (first | assumption | exact gs_at))))))))) rfl ?_
      refine w_iload_n dX1_valueIn_16 rfl ?_
      refine wN2u dX1_valueIn_17 lk_X1_83 rfl (c_atN (by first | assumption | exact gs_at | (rw [gs_ne (by omega)]; (first | assumption | exact gs_at | (rw [gs_ne (by omega)]; (first | assumption | exact gs_at | (rw [gs_ne (by omega)]; (first | assumption | exact gs_at | (rw [gs_ne (by omega)]; (first | assumption | exact gs_at))))))))) (by omega) (by decide)) (Nat.le_of_ble_eq_true rfl) (Nat.le_of_ble_eq_true rfl) (Nat.le_of_ble_eq_true rfl) (Nat.le_of_ble_eq_true rfl) ?_
      have := b2_ i
      refine w_iload_n dX1_valueIn_20 rfl ?_
      refine w_icmp_ne (tgt := 35) dX1_valueIn_21 (by decide) (fun c_21 => ?_) (fun c_21 => ?_)
      · try simp (disch := omega) only [nI_b2, Decidable.not_not, nI_ltI, nI_leI, nI_eq, ge_iff_le, gt_iff_lt, ne_eq, Nat.not_lt, Nat.not_le] at c_21
        first | refine w_iinc_3 dX1_valueIn_35 (nI_inc _) rfl ?_ | refine w_iinc_3 dX1_valueIn_35 rfl rfl ?_
        refine w_goto (tgt := 4) dX1_valueIn_38 (by decide) ?_
        have h9 := ih (i + 1) (by omega) (by omega)
        first | rw [sumN, if_pos (by omega)] at h9 | rw [sumN, if_neg (by omega)] at h9
        exact h9
      · try simp (disch := omega) only [nI_b2, Decidable.not_not, nI_ltI, nI_leI, nI_eq, ge_iff_le, gt_iff_lt, ne_eq, Nat.not_lt, Nat.not_le] at c_21
        refine w_iload_n dX1_valueIn_24 rfl ?_
        refine w_aload_n dX1_valueIn_25 rfl ?_
        refine w_getf dX1_valueIn_26 fl_X1_21 (by first | assumption | exact gs_at | (rw [gs_ne (by omega)]; (first | assumption | exact gs_at | (rw [gs_ne (by omega)]; (first | assumption | exact gs_at | (rw [gs_ne (by omega)]; (first | assumption | exact gs_at | (rw [gs_ne (by omega)]; (first | assumption | exact gs_at))))))))) rfl ?_
        refine w_iload_n dX1_valueIn_29 rfl ?_
        refine wN2u dX1_valueIn_30 lk_X1_83 rfl (c_atN (by first | assumption | exact gs_at | (rw [gs_ne (by omega)]; (first | assumption | exact gs_at | (rw [gs_ne (by omega)]; (first | assumption | exact gs_at | (rw [gs_ne (by omega)]; (first | assumption | exact gs_at | (rw [gs_ne (by omega)]; (first | assumption | exact gs_at))))))))) (by omega) (by decide)) (Nat.le_of_ble_eq_true rfl) (Nat.le_of_ble_eq_true rfl) (Nat.le_of_ble_eq_true rfl) (Nat.le_of_ble_eq_true rfl) ?_
        first | refine w_iaddN dX1_valueIn_33 ?_ | refine w_iadd dX1_valueIn_33 ?_
        refine w_istore_2 dX1_valueIn_34 rfl ?_
        first | refine w_iinc_3 dX1_valueIn_35 (nI_inc _) rfl ?_ | refine w_iinc_3 dX1_valueIn_35 rfl rfl ?_
        refine w_goto (tgt := 4) dX1_valueIn_38 (by decide) ?_
        have h9 := ih (i + 1) (by omega) (by omega)
        first | rw [sumN, if_pos (by omega)] at h9 | rw [sumN, if_neg (by omega)] at h9
        exact h9
theorem c_valueIn {E : EV} {a : Nat} {T : ST} {sd : Int32} {G : AH} {r : Nat} (hI : Isl G a T sd) (hB : Bd T) (hr : r < 100) : Cu E 2 kX1_valueIn [.ref a, .int (nI r)] G (.int (nI (valIn T r))) G := by
  refine Ct.intro rfl (by decide) [.ref a, .int (nI r), .float 0, .float 0] (by simp [Value.category]) (Nat.le_of_ble_eq_true rfl) rfl ?_
  refine w_iconst (v := nI 0) dX1_valueIn_0 (by decide) ?_
  refine w_istore_2 dX1_valueIn_1 rfl ?_
  refine w_iconst (v := nI 0) dX1_valueIn_2 (by decide) ?_
  refine w_istore_3 dX1_valueIn_3 rfl ?_
  exact lp_valueIn hI hB hr ⟨rfl, rfl⟩ (T 12 0 + 1) 0 (by omega) (by omega)
def oweN (T : ST) (k : Nat) : Nat := (if T 1 k ≠ T 5 k then T 3 k else 0) + worN T k
theorem c_owedFor {E : EV} {a : Nat} {T : ST} {sd : Int32} {G : AH} {k : Nat} (hI : Isl G a T sd) (hB : Bd T) (hk : k < 12) : Cu E 3 kX1_owedFor [.ref a, .int (nI k)] G (.int (nI (oweN T k))) G := by
  obtain ⟨i0, i1, i2, i3, i4, i5, i6, i7, i8, i9, i10, i11, i12, i13⟩ := id hI
  obtain ⟨b0, b1, b2_, b3, b4, b5, b6, b7, b8, b9, b10, b11, b12, b13, b14, b15, b16, b17, b18, b19⟩ := id hB
  refine Ct.intro rfl (by decide) [.ref a, .int (nI k)] (by simp [Value.category]) (Nat.le_of_ble_eq_true rfl) rfl ?_
  refine w_aload_n dX1_owedFor_0 rfl ?_
  refine w_iload_n dX1_owedFor_1 rfl ?_
  refine wV1u dX1_owedFor_2 lk_X1_116 rfl (by first | assumption | exact gs_at | (rw [gs_ne (by omega)]; (first | assumption | exact gs_at | (rw [gs_ne (by omega)]; (first | assumption | exact gs_at | (rw [gs_ne (by omega)]; (first | assumption | exact gs_at | (rw [gs_ne (by omega)]; (first | assumption | exact gs_at))))))))) rfl rfl (c_isMissing hI hB hk) (Nat.le_of_ble_eq_true rfl) (Nat.le_of_ble_eq_true rfl) (Nat.le_of_ble_eq_true rfl) (Nat.le_of_ble_eq_true rfl) ?_
  refine w_ifN_eq (tgt := 19) dX1_owedFor_5 (by decide) (fun c_5 => ?_) (fun c_5 => ?_)
  · try simp (disch := omega) only [nI_b2, Decidable.not_not, nI_ltI, nI_leI, nI_eq, ge_iff_le, gt_iff_lt, ne_eq, Nat.not_lt, Nat.not_le] at c_5
    refine w_iconst (v := nI 0) dX1_owedFor_19 (by decide) ?_
    refine w_aload_n dX1_owedFor_20 rfl ?_
    refine w_iload_n dX1_owedFor_21 rfl ?_
    refine wV1u dX1_owedFor_22 lk_X1_96 rfl (by first | assumption | exact gs_at | (rw [gs_ne (by omega)]; (first | assumption | exact gs_at | (rw [gs_ne (by omega)]; (first | assumption | exact gs_at | (rw [gs_ne (by omega)]; (first | assumption | exact gs_at | (rw [gs_ne (by omega)]; (first | assumption | exact gs_at))))))))) rfl rfl (c_worseBy hI hB hk) (Nat.le_of_ble_eq_true rfl) (Nat.le_of_ble_eq_true rfl) (Nat.le_of_ble_eq_true rfl) (Nat.le_of_ble_eq_true rfl) ?_
    first | refine w_iaddN dX1_owedFor_25 ?_ | refine w_iadd dX1_owedFor_25 ?_
    refine w_iret dX1_owedFor_26 rfl (Nat.le_of_ble_eq_true rfl) (Nat.le_of_ble_eq_true rfl) ?_
    refine ⟨?_, rfl⟩
    unfold oweN
    first | rw [if_pos (by omega)] | rw [if_neg (by omega)]
  · try simp (disch := omega) only [nI_b2, Decidable.not_not, nI_ltI, nI_leI, nI_eq, ge_iff_le, gt_iff_lt, ne_eq, Nat.not_lt, Nat.not_le] at c_5
    refine w_aload_n dX1_owedFor_8 rfl ?_
    refine w_getf dX1_owedFor_9 fl_X1_21 (by first | assumption | exact gs_at | (rw [gs_ne (by omega)]; (first | assumption | exact gs_at | (rw [gs_ne (by omega)]; (first | assumption | exact gs_at | (rw [gs_ne (by omega)]; (first | assumption | exact gs_at | (rw [gs_ne (by omega)]; (first | assumption | exact gs_at))))))))) rfl ?_
    refine w_iload_n dX1_owedFor_12 rfl ?_
    refine wN2u dX1_owedFor_13 lk_X1_83 rfl (c_atN (by first | assumption | exact gs_at | (rw [gs_ne (by omega)]; (first | assumption | exact gs_at | (rw [gs_ne (by omega)]; (first | assumption | exact gs_at | (rw [gs_ne (by omega)]; (first | assumption | exact gs_at | (rw [gs_ne (by omega)]; (first | assumption | exact gs_at))))))))) (by omega) (by decide)) (Nat.le_of_ble_eq_true rfl) (Nat.le_of_ble_eq_true rfl) (Nat.le_of_ble_eq_true rfl) (Nat.le_of_ble_eq_true rfl) ?_
    refine w_goto (tgt := 20) dX1_owedFor_16 (by decide) ?_
    refine w_aload_n dX1_owedFor_20 rfl ?_
    refine w_iload_n dX1_owedFor_21 rfl ?_
    refine wV1u dX1_owedFor_22 lk_X1_96 rfl (by first | assumption | exact gs_at | (rw [gs_ne (by omega)]; (first | assumption | exact gs_at | (rw [gs_ne (by omega)]; (first | assumption | exact gs_at | (rw [gs_ne (by omega)]; (first | assumption | exact gs_at | (rw [gs_ne (by omega)]; (first | assumption | exact gs_at))))))))) rfl rfl (c_worseBy hI hB hk) (Nat.le_of_ble_eq_true rfl) (Nat.le_of_ble_eq_true rfl) (Nat.le_of_ble_eq_true rfl) (Nat.le_of_ble_eq_true rfl) ?_
    first | refine w_iaddN dX1_owedFor_25 ?_ | refine w_iadd dX1_owedFor_25 ?_
    refine w_iret dX1_owedFor_26 rfl (Nat.le_of_ble_eq_true rfl) (Nat.le_of_ble_eq_true rfl) ?_
    refine ⟨?_, rfl⟩
    unfold oweN
    first | rw [if_pos (by omega)] | rw [if_neg (by omega)]
def dueN (T : ST) : Nat := (sumN 6 (T 7) - T 12 4) + sumN (T 12 0) (oweN T)
theorem lp_owedMore {E : EV} {Q : OC → AH → Prop} {a : Nat} {T : ST} {sd : Int32} {G : AH} (hI : Isl G a T sd) (hB : Bd T) (hQ : Q (.inl (some (.int (nI (dueN T))))) G) : ∀ (k i : Nat), T 12 0 - i < k → i ≤ T 12 0 → Wp E 4 0 0 kX1_owedMore Q G (0, 0) 21 [.ref a, .int (nI ((sumN 6 (T 7) - T 12 4) + sumN i (oweN T))), .int (nI i)] [] := by
  obtain ⟨i0, i1, i2, i3, i4, i5, i6, i7, i8, i9, i10, i11, i12, i13⟩ := id hI
  obtain ⟨b0, b1, b2_, b3, b4, b5, b6, b7, b8, b9, b10, b11, b12, b13, b14, b15, b16, b17, b18, b19⟩ := id hB
  intro k
  induction k with
  | zero => intro i h; exact absurd h (by omega)
  | succ k ih =>
    intro i hk hi
    refine w_iload_n dX1_owedMore_21 rfl ?_
    refine w_aload_n dX1_owedMore_22 rfl ?_
    refine w_getf dX1_owedMore_23 fl_X1_52 (by first | assumption | exact gs_at | (rw [gs_ne (by omega)]; (first | assumption | exact gs_at | (rw [gs_ne (by omega)]; (first | assumption | exact gs_at | (rw [gs_ne (by omega)]; (first | assumption | exact gs_at | (rw [gs_ne (by omega)]; (first | assumption | exact gs_at))))))))) rfl ?_
    refine w_icmp_ge (tgt := 43) dX1_owedMore_26 (by decide) (fun c_26 => ?_) (fun c_26 => ?_)
    · try simp (disch := omega) only [nI_b2, Decidable.not_not, nI_ltI, nI_leI, nI_eq, ge_iff_le, gt_iff_lt, ne_eq, Nat.not_lt, Nat.not_le] at c_26
      refine w_iload_n dX1_owedMore_43 rfl ?_
      refine w_iret dX1_owedMore_44 rfl (Nat.le_of_ble_eq_true rfl) (Nat.le_of_ble_eq_true rfl) ?_
      rw [dueN, ← show i = T 12 0 by omega] at hQ
      exact hQ
    · try simp (disch := omega) only [nI_b2, Decidable.not_not, nI_ltI, nI_leI, nI_eq, ge_iff_le, gt_iff_lt, ne_eq, Nat.not_lt, Nat.not_le] at c_26
      refine w_iload_n dX1_owedMore_29 rfl ?_
      refine w_aload_n dX1_owedMore_30 rfl ?_
      refine w_iload_n dX1_owedMore_31 rfl ?_
      refine wV1u dX1_owedMore_32 lk_X1_123 rfl (by first | assumption | exact gs_at | (rw [gs_ne (by omega)]; (first | assumption | exact gs_at | (rw [gs_ne (by omega)]; (first | assumption | exact gs_at | (rw [gs_ne (by omega)]; (first | assumption | exact gs_at | (rw [gs_ne (by omega)]; (first | assumption | exact gs_at))))))))) rfl rfl (c_owedFor hI hB (by omega)) (Nat.le_of_ble_eq_true rfl) (Nat.le_of_ble_eq_true rfl) (Nat.le_of_ble_eq_true rfl) (Nat.le_of_ble_eq_true rfl) ?_
      first | refine w_iaddN dX1_owedMore_35 ?_ | refine w_iadd dX1_owedMore_35 ?_
      refine w_istore_1 dX1_owedMore_36 rfl ?_
      first | refine w_iinc_2 dX1_owedMore_37 (nI_inc _) rfl ?_ | refine w_iinc_2 dX1_owedMore_37 rfl rfl ?_
      refine w_goto (tgt := 21) dX1_owedMore_40 (by decide) ?_
      have h9 := ih (i + 1) (by omega) (by omega)
      rw [show sumN (i + 1) (oweN T) = sumN i (oweN T) + oweN T i from rfl, ← Nat.add_assoc] at h9
      exact h9
theorem soilAll_le {T : ST} (hB : Bd T) : sumN 6 (T 7) ≤ 594 := by have := sumN_le (f := T 7) (c := 99) hB.2.2.2.2.2.2.2.2.1 6; omega
theorem c_owedMore {E : EV} {a : Nat} {T : ST} {sd : Int32} {G : AH} (hI : Isl G a T sd) (hB : Bd T) : Cu E 4 kX1_owedMore [.ref a] G (.int (nI (dueN T))) G := by
  obtain ⟨i0, i1, i2, i3, i4, i5, i6, i7, i8, i9, i10, i11, i12, i13⟩ := id hI
  obtain ⟨b0, b1, b2_, b3, b4, b5, b6, b7, b8, b9, b10, b11, b12, b13, b14, b15, b16, b17, b18, b19⟩ := id hB
  have hs := soilAll_le hB
  refine Ct.intro rfl (by decide) [.ref a, .float 0, .float 0] (by simp [Value.category]) (Nat.le_of_ble_eq_true rfl) rfl ?_
  refine w_iconst (v := nI 0) dX1_owedMore_0 (by decide) ?_
  refine w_aload_n dX1_owedMore_1 rfl ?_
  refine w_getf dX1_owedMore_2 fl_X1_33 (by first | assumption | exact gs_at | (rw [gs_ne (by omega)]; (first | assumption | exact gs_at | (rw [gs_ne (by omega)]; (first | assumption | exact gs_at | (rw [gs_ne (by omega)]; (first | assumption | exact gs_at | (rw [gs_ne (by omega)]; (first | assumption | exact gs_at))))))))) rfl ?_
  refine w_bipush (v := nI 6) dX1_owedMore_5 (by decide) ?_
  refine wN2u dX1_owedMore_7 lk_X1_120 rfl (c_total (by first | assumption | exact gs_at | (rw [gs_ne (by omega)]; (first | assumption | exact gs_at | (rw [gs_ne (by omega)]; (first | assumption | exact gs_at | (rw [gs_ne (by omega)]; (first | assumption | exact gs_at | (rw [gs_ne (by omega)]; (first | assumption | exact gs_at))))))))) (by decide) (by decide)) (Nat.le_of_ble_eq_true rfl) (Nat.le_of_ble_eq_true rfl) (Nat.le_of_ble_eq_true rfl) (Nat.le_of_ble_eq_true rfl) ?_
  refine w_aload_n dX1_owedMore_10 rfl ?_
  refine w_getf dX1_owedMore_11 fl_X1_65 (by first | assumption | exact gs_at | (rw [gs_ne (by omega)]; (first | assumption | exact gs_at | (rw [gs_ne (by omega)]; (first | assumption | exact gs_at | (rw [gs_ne (by omega)]; (first | assumption | exact gs_at | (rw [gs_ne (by omega)]; (first | assumption | exact gs_at))))))))) rfl ?_
  refine w_isub dX1_owedMore_14 ?_
  refine wJ2u dX1_owedMore_15 lk_X1_87 rfl (c_max0) (Nat.le_of_ble_eq_true rfl) (Nat.le_of_ble_eq_true rfl) (Nat.le_of_ble_eq_true rfl) (Nat.le_of_ble_eq_true rfl) ?_
  rw [max0_sub (by omega) (by omega)]
  refine w_istore_1 dX1_owedMore_18 rfl ?_
  refine w_iconst (v := nI 0) dX1_owedMore_19 (by decide) ?_
  refine w_istore_2 dX1_owedMore_20 rfl ?_
  exact lp_owedMore hI hB ⟨rfl, rfl⟩ (T 12 0 + 1) 0 (by omega) (by omega)
