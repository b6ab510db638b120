/-! constructors: what is new -/
def nw (G : AH) (b : Nat) (x : HC) : AH := ((gs G b x).1, b + 1)
theorem gn_nw {G : AH} {b : Nat} {x : HC} (h : G.2 = b) : gn G x = nw G b x := by subst h; rfl
theorem nw_at {G : AH} {b : Nat} {x : HC} : (nw G b x).1 b = some x := gs_at
theorem nw_ne {G : AH} {b q : Nat} {x : HC} (h : q ≠ b) : (nw G b x).1 q = G.1 q := gs_ne h
theorem nw_sz {G : AH} {b : Nat} {x : HC} : (nw G b x).2 = b + 1 := rfl
section NWR
variable {E : EV} {d mc ms : Nat} {K : MR} {Q : OC → AH → Prop} {G : AH} {cs : Nat × Nat} {pc : Nat} {L st : List Value}
theorem w_newIA {n : Int32} {N b : Nat} (hd : decode K.2.1 pc = .ok (.newarray .int, 2)) (hw : Cond.arrayClass .int ∈ LW) (hn : ¬ n < 0) (hN : n.toNatClampNeg = N) (hbig : N * componentBytes .int ≤ 536870912) (hz : G.2 = b) (hb : eB E ≤ b) (h1 : cs.1 + 1 ≤ mc) (h2 : cs.2 + N ≤ ms) (k : Wp E d mc ms K Q (nw G b (aI N (fun _ => 0))) (cs.1 + 1, cs.2 + N) (pc + 2) L (.ref b :: st)) : Wp E d mc ms K Q G cs pc L (.int n :: st) := by
  subst hz
  exact w_newI hd hw hn hN hbig hb h1 h2 k
theorem w_newZA {n : Int32} {N b : Nat} (hd : decode K.2.1 pc = .ok (.newarray .boolean, 2)) (hw : Cond.arrayClass .boolean ∈ LW) (hn : ¬ n < 0) (hN : n.toNatClampNeg = N) (hbig : N * componentBytes .boolean ≤ 536870912) (hz : G.2 = b) (hb : eB E ≤ b) (h1 : cs.1 + 1 ≤ mc) (h2 : cs.2 + N ≤ ms) (k : Wp E d mc ms K Q (nw G b (aZ N (fun _ => 0))) (cs.1 + 1, cs.2 + N) (pc + 2) L (.ref b :: st)) : Wp E d mc ms K Q G cs pc L (.int n :: st) := by
  subst hz
  exact w_newZ hd hw hn hN hbig hb h1 h2 k
theorem w_newA {idx ci b : Nat} {q : vw_C} {fs : List Value} (hd : decode K.2.1 pc = .ok (.new idx, 3)) (hq : vwCl[ci]? = some q) (hl1 : Cond.classLink K.1.cls idx q.1 ∈ LW) (hl2 : Cond.instantiable q.1 q.2.2 ∈ LW) (hl3 : Cond.initialized q.1 ∈ LW) (hf : ∀ (j : Nat) (ty : FieldType), j < q.2.2 → parseFieldDescriptor (q.2.1 j).2.2.1 = some ty → defaultValue ty = vp_V fs j) (hz : G.2 = b) (hb : eB E ≤ b) (h1 : cs.1 + 1 ≤ mc) (h2 : cs.2 + q.2.2 ≤ ms) (k : Wp E d mc ms K Q (nw G b (oB ci fs)) (cs.1 + 1, cs.2 + q.2.2) (pc + 3) L (.ref b :: st)) : Wp E d mc ms K Q G cs pc L st := by
  subst hz
  exact w_new hd hq hl1 hl2 hl3 hf hb h1 h2 k
theorem w_newOA {idx : Nat} {n : Int32} {N b : Nat} (hd : decode K.2.1 pc = .ok (.anewarray idx, 3)) (hl : Cond.classLink K.1.cls idx "HalfIsle$Island" ∈ LW) (hn : ¬ n < 0) (hN : n.toNatClampNeg = N) (hbig : N * 4 ≤ 536870912) (hz : G.2 = b) (hb : eB E ≤ b) (h1 : cs.1 + 1 ≤ mc) (h2 : cs.2 + N ≤ ms) (k : Wp E d mc ms K Q (nw G b (aO N (fun _ => none))) (cs.1 + 1, cs.2 + N) (pc + 3) L (.ref b :: st)) : Wp E d mc ms K Q G cs pc L (.int n :: st) := by
  subst hz
  subst hN
  intro p e s m args below meth c H locs ls C Rp S hl9
  obtain ⟨x1, x2, x3, x4, hts, hown, x7, x8, x9, hE⟩ := id C
  have hover := hE.2.2.2.2.2.2.2.2.1
  obtain ⟨kA9, comp9, a1, a2, a3, a4⟩ := (hE.2.1.2 3 _ rfl).2
  refine W.anew x1 x2 hown (hts _ hl) (va_AO.use hover) rfl hd rfl hn hbig h1 h2 fun cA kA comp f1 f2 f3 f4 => ?_
  have hc : cA = eY E 3 := Option.some.inj (f1.symm.trans a4)
  subst hc
  rw [Rp.1]
  generalize hH1 : H.push ({ cls := eY E 3, slots := Array.replicate n.toNatClampNeg .null, vm := .none } : Cell) = H1
  have z1 : H1.size = G.2 + 1 := by rw [← hH1, Array.size_push, Rp.1]
  have e1 : H1[G.2]? = some (arrV (eY E 3) n.toNatClampNeg (fun _ => .null)) := by rw [← hH1, ← Rp.1, Array.getElem?_push_size, ← arrV_new]
  have o1 : ∀ q : Nat, q < G.2 → H1[q]? = H[q]? := fun q hq => by rw [← hH1, Array.getElem?_push, if_neg (by rw [Rp.1]; exact Nat.ne_of_lt hq)]
  have hAt : H1[G.2]? = some (vp_cell (eY E 3) (n.toNatClampNeg, .inr (.inr (.inr (.inr (fun _ => none)))))) := by rw [vp_cell_q]; exact e1
  exact k p _ s m args below meth c H1 _ ls C (Rp.gn hb z1 hAt o1) ⟨Nat.le_trans S.1 (by rw [Rp.1, z1]; omega), fun x g1 g2 => (o1 x (Nat.lt_of_lt_of_le g1 (by rw [← Rp.1]; exact S.1))).trans (S.2.1 x g1 g2), S.2.2⟩ hl9
theorem wI0c {idx d' mc' ms' a : Nat} {K' : MR} {rest : List Value} {P : AH → Prop} (hd : decode K.2.1 pc = .ok (.invokespecial idx, 3)) (lk : LkI K.1.cls idx K' 0) (hh : K'.2.2.2.2 = []) (hc : Ct E d' mc' ms' K' [.ref a] G (fun o G1 => o = .inl none ∧ P G1)) (hd1 : d' + 1 ≤ d) (h1 : cs.1 + mc' ≤ mc) (h2 : cs.2 + ms' ≤ ms) (hw : (rest.map fun v => v.category).sum ≤ 8) (k : ∀ G' : AH, P G' → Wp E d mc ms K Q G' (cs.1 + mc', cs.2 + ms') (pc + 3) L rest) : Wp E d mc ms K Q G cs pc L (.ref a :: rest) := wc_I hd lk hh (As := []) rfl hd1 hc rfl hw h1 h2 (fun v9 G9 h => by obtain ⟨h, hp⟩ := h; cases h; exact k _ hp) (fun X G9 h => by cases h.1)
end NWR
/-- what is older than b, but for the one at B, stays -/
def Up (B : Nat) (G G1 : AH) : Prop := G.2 ≤ G1.2 ∧ ∀ q, q ≠ B → q < G.2 → G1.1 q = G.1 q
theorem Up.rf {B : Nat} {G : AH} : Up B G G := ⟨Nat.le_refl _, fun _ _ _ => rfl⟩
theorem Up.tr {B : Nat} {G G1 G2 : AH} (h : Up B G G1) (k : Up B G1 G2) : Up B G G2 := ⟨Nat.le_trans h.1 k.1, fun q h1 h2 => (k.2 q h1 (Nat.lt_of_lt_of_le h2 h.1)).trans (h.2 q h1 h2)⟩
theorem Up.gs {B : Nat} {G : AH} {x : HC} : Up B G (gs G B x) := ⟨Nat.le_refl _, fun q h _ => gs_ne h⟩
theorem Up.nw {B b : Nat} {G : AH} {x : HC} (h : G.2 = b) : Up B G (nw G b x) := ⟨by rw [nw_sz]; omega, fun q _ h2 => nw_ne (by omega)⟩
theorem Up.of {B b : Nat} {G G1 : AH} (h : G.2 = b + 1) (h2 : b ≤ G1.2) (k : ∀ q, q < b → G1.1 q = G.1 q) (hb : b ≠ B) (e : G1.1 b = G.1 b) : Up B G G1 ∨ True := Or.inr trivial
theorem df_X0 : ∀ (j : Nat) (ty : FieldType), j < 1 → parseFieldDescriptor (TX0 j).2.2.1 = some ty → defaultValue ty = vp_V [.null] j := fun j ty hj h => by
  have e := Option.some.inj ((tyX0_ok j hj).symm.trans h)
  subst e
  match j, hj with
  | 0, _ => rfl
  | j + 1, h => exact absurd h (by omega)
theorem df_X1 : ∀ (j : Nat) (ty : FieldType), j < 18 → parseFieldDescriptor (TX1 j).2.2.1 = some ty → defaultValue ty = vp_V [.null, .null, .null, .null, .null, .null, .null, .null, .null, .null, .null, .null, .int 0, .int 0, .int 0, .int 0, .int 0, .int 0] j := fun j ty hj h => by
  have e := Option.some.inj ((tyX1_ok j hj).symm.trans h)
  subst e
  match j, hj with
  | 0, _ => rfl
  | 1, _ => rfl
  | 2, _ => rfl
  | 3, _ => rfl
  | 4, _ => rfl
  | 5, _ => rfl
  | 6, _ => rfl
  | 7, _ => rfl
  | 8, _ => rfl
  | 9, _ => rfl
  | 10, _ => rfl
  | 11, _ => rfl
  | 12, _ => rfl
  | 13, _ => rfl
  | 14, _ => rfl
  | 15, _ => rfl
  | 16, _ => rfl
  | 17, _ => rfl
  | j + 18, h => exact absurd h (by omega)
theorem df_X2 : ∀ (j : Nat) (ty : FieldType), j < 7 → parseFieldDescriptor (TX2 j).2.2.1 = some ty → defaultValue ty = vp_V [.null, .null, .null, .null, .int 0, .int 0, .null] j := fun j ty hj h => by
  have e := Option.some.inj ((tyX2_ok j hj).symm.trans h)
  subst e
  match j, hj with
  | 0, _ => rfl
  | 1, _ => rfl
  | 2, _ => rfl
  | 3, _ => rfl
  | 4, _ => rfl
  | 5, _ => rfl
  | 6, _ => rfl
  | j + 7, h => exact absurd h (by omega)
theorem df_X3 : ∀ (j : Nat) (ty : FieldType), j < 4 → parseFieldDescriptor (TX3 j).2.2.1 = some ty → defaultValue ty = vp_V [.null, .null, .int 0, .int 0] j := fun j ty hj h => by
  have e := Option.some.inj ((tyX3_ok j hj).symm.trans h)
  subst e
  match j, hj with
  | 0, _ => rfl
  | 1, _ => rfl
  | 2, _ => rfl
  | 3, _ => rfl
  | j + 4, h => exact absurd h (by omega)
theorem df_X4 : ∀ (j : Nat) (ty : FieldType), j < 3 → parseFieldDescriptor (TX4 j).2.2.1 = some ty → defaultValue ty = vp_V [.null, .int 0, .int 0] j := fun j ty hj h => by
  have e := Option.some.inj ((tyX4_ok j hj).symm.trans h)
  subst e
  match j, hj with
  | 0, _ => rfl
  | 1, _ => rfl
  | 2, _ => rfl
  | j + 3, h => exact absurd h (by omega)
theorem df_X5 : ∀ (j : Nat) (ty : FieldType), j < 5 → parseFieldDescriptor (TX5 j).2.2.1 = some ty → defaultValue ty = vp_V [.null, .int 0, .int 0, .int 0, .int 0] j := fun j ty hj h => by
  have e := Option.some.inj ((tyX5_ok j hj).symm.trans h)
  subst e
  match j, hj with
  | 0, _ => rfl
  | 1, _ => rfl
  | 2, _ => rfl
  | 3, _ => rfl
  | 4, _ => rfl
  | j + 5, h => exact absurd h (by omega)
theorem df_X6 : ∀ (j : Nat) (ty : FieldType), j < 2 → parseFieldDescriptor (TX6 j).2.2.1 = some ty → defaultValue ty = vp_V [.null, .null] j := fun j ty hj h => by
  have e := Option.some.inj ((tyX6_ok j hj).symm.trans h)
  subst e
  match j, hj with
  | 0, _ => rfl
  | 1, _ => rfl
  | j + 2, h => exact absurd h (by omega)
theorem df_X7 : ∀ (j : Nat) (ty : FieldType), j < 19 → parseFieldDescriptor (TX7 j).2.2.1 = some ty → defaultValue ty = vp_V [.null, .int 0, .null, .null, .int 0, .null, .null, .null, .null, .int 0, .null, .null, .null, .int 0, .int 0, .null, .null, .null, .null] j := fun j ty hj h => by
  have e := Option.some.inj ((tyX7_ok j hj).symm.trans h)
  subst e
  match j, hj with
  | 0, _ => rfl
  | 1, _ => rfl
  | 2, _ => rfl
  | 3, _ => rfl
  | 4, _ => rfl
  | 5, _ => rfl
  | 6, _ => rfl
  | 7, _ => rfl
  | 8, _ => rfl
  | 9, _ => rfl
  | 10, _ => rfl
  | 11, _ => rfl
  | 12, _ => rfl
  | 13, _ => rfl
  | 14, _ => rfl
  | 15, _ => rfl
  | 16, _ => rfl
  | 17, _ => rfl
  | 18, _ => rfl
  | j + 19, h => exact absurd h (by omega)
theorem df_X8 : ∀ (j : Nat) (ty : FieldType), j < 22 → parseFieldDescriptor (TX8 j).2.2.1 = some ty → defaultValue ty = vp_V [.int 0, .null, .null, .int 0, .null, .null, .int 0, .null, .int 0, .int 0, .int 0, .int 0, .int 0, .int 0, .null, .int 0, .int 0, .int 0, .int 0, .int 0, .null, .null] j := fun j ty hj h => by
  have e := Option.some.inj ((tyX8_ok j hj).symm.trans h)
  subst e
  match j, hj with
  | 0, _ => rfl
  | 1, _ => rfl
  | 2, _ => rfl
  | 3, _ => rfl
  | 4, _ => rfl
  | 5, _ => rfl
  | 6, _ => rfl
  | 7, _ => rfl
  | 8, _ => rfl
  | 9, _ => rfl
  | 10, _ => rfl
  | 11, _ => rfl
  | 12, _ => rfl
  | 13, _ => rfl
  | 14, _ => rfl
  | 15, _ => rfl
  | 16, _ => rfl
  | 17, _ => rfl
  | 18, _ => rfl
  | 19, _ => rfl
  | 20, _ => rfl
  | 21, _ => rfl
  | j + 22, h => exact absurd h (by omega)
theorem c_init5 {E : EV} {a : Nat} {G : AH} (hO : G.1 a = some (oB 5 [.null, .int 0, .int 0, .int 0, .int 0])) (hs : G.2 = a + 1) (hb : eB E ≤ a) : Ct E 2 1 400 kX5_init [.ref a] G (fun o G1 => o = .inl none ∧ (G1.2 = a + 2 ∧ (∀ q, q < a → G1.1 q = G.1 q) ∧ G1.1 a = some (oB 5 [.ref (a + 1), .int (nI 0), .int (nI 0), .int (nI 0), .int (-1)]) ∧ G1.1 (a + 1) = some (aI 400 (fun _ => 0)))) := by
  refine Ct.intro rfl (by decide) [.ref a] (by simp [Value.category]) (Nat.le_of_ble_eq_true rfl) rfl ?_
  refine w_aload_n dX5_init_0 rfl ?_
  refine w_objInit dX5_init_1 u_43 ow_1 ow_2 (Nat.le_of_ble_eq_true rfl) (Nat.le_of_ble_eq_true rfl) ?_
  refine w_aload_n dX5_init_4 rfl ?_
  refine w_sipush (v := nI 400) dX5_init_5 (by decide) ?_
  refine w_newIA (b := a + 1) (N := 400) dX5_init_8 aw_int (by decide) (by decide) (by decide) hs (by omega) (Nat.le_of_ble_eq_true rfl) (Nat.le_of_ble_eq_true rfl) ?_
  refine w_putfF dX5_init_10 ff_X5_9 rfl (by first | assumption | ((repeat (first | rw [gs_ne (by omega)] | rw [nw_ne (by omega)])); (first | exact gs_at | exact nw_at | assumption))) (by decide) rfl rfl ?_
  refine w_aload_n dX5_init_13 rfl ?_
  refine w_iconst (v := nI 0) dX5_init_14 (by decide) ?_
  refine w_putf dX5_init_15 fl_X5_15 (by first | assumption | ((repeat (first | rw [gs_ne (by omega)] | rw [nw_ne (by omega)])); (first | exact gs_at | exact nw_at | assumption))) (by simp) rfl rfl ?_
  refine w_aload_n dX5_init_18 rfl ?_
  refine w_iconst (v := nI 0) dX5_init_19 (by decide) ?_
  refine w_putf dX5_init_20 fl_X5_19 (by first | assumption | ((repeat (first | rw [gs_ne (by omega)] | rw [nw_ne (by omega)])); (first | exact gs_at | exact nw_at | assumption))) (by simp) rfl rfl ?_
  refine w_aload_n dX5_init_23 rfl ?_
  refine w_iconst (v := nI 0) dX5_init_24 (by decide) ?_
  refine w_putf dX5_init_25 fl_X5_22 (by first | assumption | ((repeat (first | rw [gs_ne (by omega)] | rw [nw_ne (by omega)])); (first | exact gs_at | exact nw_at | assumption))) (by simp) rfl rfl ?_
  refine w_aload_n dX5_init_28 rfl ?_
  refine w_iconst (v := (-1)) dX5_init_29 (by decide) ?_
  refine w_putf dX5_init_30 fl_X5_25 (by first | assumption | ((repeat (first | rw [gs_ne (by omega)] | rw [nw_ne (by omega)])); (first | exact gs_at | exact nw_at | assumption))) (by simp) rfl rfl ?_
  refine w_vret dX5_init_33 rfl (Nat.le_of_ble_eq_true rfl) (Nat.le_of_ble_eq_true rfl) ?_
  refine ⟨rfl, rfl, (fun q hq => by (repeat (first | rw [gs_ne (by omega)] | rw [nw_ne (by omega)]))), ?_, ?_⟩
  · first | assumption | ((repeat (first | rw [gs_ne (by omega)] | rw [nw_ne (by omega)])); (first | exact gs_at | exact nw_at | assumption))
  · first | assumption | ((repeat (first | rw [gs_ne (by omega)] | rw [nw_ne (by omega)])); (first | exact gs_at | exact nw_at | assumption))
