/-! constructors: readers, laws, islands, sums, the model -/
theorem c_init0 {E : EV} {a : Nat} {G : AH} (hO : G.1 a = some (oB 0 [.null])) (hs : G.2 = a + 1) (hb : eB E ≤ a) : Ct E 3 2 405 kX0_init [.ref a] G (fun o G1 => o = .inl none ∧ (G1.2 = a + 3 ∧ (∀ q, q < a → G1.1 q = G.1 q) ∧ G1.1 a = some (oB 0 [.ref (a + 1)]) ∧ (G1.1 (a + 1) = some (oB 5 [.ref (a + 1 + 1), .int (nI 0), .int (nI 0), .int (nI 0), .int (-1)]) ∧ G1.1 (a + 1 + 1) = some (aI 400 (fun _ => 0))))) := by
  refine Ct.intro rfl (by decide) [.ref a] (by simp [Value.category]) (Nat.le_of_ble_eq_true rfl) rfl ?_
  refine w_aload_n dX0_init_0 rfl ?_
  refine w_objInit dX0_init_1 u_37 ow_1 ow_2 (Nat.le_of_ble_eq_true rfl) (Nat.le_of_ble_eq_true rfl) ?_
  refine w_aload_n dX0_init_4 rfl ?_
  refine w_newA (b := a + 1) (ci := 5) dX0_init_5 rfl u_38 u_39 u_3 df_X5 hs (by omega) (Nat.le_of_ble_eq_true rfl) (Nat.le_of_ble_eq_true rfl) ?_
  refine w_dup dX0_init_8 rfl ?_
  refine wI0c dX0_init_9 lk_X0_11 rfl (c_init5 (a := a + 1) (by first | assumption | ((repeat (first | rw [gs_ne (by omega)] | rw [nw_ne (by omega)])); (first | exact gs_at | exact nw_at | assumption))) rfl (by omega)) (Nat.le_of_ble_eq_true rfl) (Nat.le_of_ble_eq_true rfl) (Nat.le_of_ble_eq_true rfl) (Nat.le_of_ble_eq_true rfl) (fun G5 h5 => ?_)
  obtain ⟨z5, l5, r51, r52⟩ := h5
  have hO5 : G5.1 a = some (oB 0 [.null]) := (l5 a (by omega)).trans ((nw_ne (by omega)).trans hO)
  refine w_putfF dX0_init_12 ff_X0_12 rfl (by first | assumption | ((repeat (first | rw [gs_ne (by omega)] | rw [nw_ne (by omega)])); (first | exact gs_at | exact nw_at | assumption))) (by first | decide | simp) rfl rfl ?_
  refine w_vret dX0_init_15 rfl (Nat.le_of_ble_eq_true rfl) (Nat.le_of_ble_eq_true rfl) ?_
  refine ⟨rfl, z5, fun q hq => ?_, ?_, ?_, ?_⟩
  · rw [gs_ne (by omega), l5 q (by omega), nw_ne (by omega)]
  · first | assumption | ((repeat (first | rw [gs_ne (by omega)] | rw [nw_ne (by omega)])); (first | exact gs_at | exact nw_at | assumption))
  · rw [gs_ne (by omega)]; exact r51
  · rw [gs_ne (by omega)]; exact r52
theorem c_init3 {E : EV} {a : Nat} {G : AH} (hO : G.1 a = some (oB 3 [.null, .null, .int 0, .int 0])) (hs : G.2 = a + 1) (hb : eB E ≤ a) : Ct E 3 3 437 kX3_init [.ref a] G (fun o G1 => o = .inl none ∧ (G1.2 = a + 4 ∧ (∀ q, q < a → G1.1 q = G.1 q) ∧ G1.1 a = some (oB 3 [.ref (a + 1), .ref (a + 3), .int (nI 0), .int (nI 0)]) ∧ (G1.1 (a + 1) = some (oB 5 [.ref (a + 1 + 1), .int (nI 0), .int (nI 0), .int (nI 0), .int (-1)]) ∧ G1.1 (a + 1 + 1) = some (aI 400 (fun _ => 0))) ∧ G1.1 (a + 3) = some (aI 32 (fun _ => 0)))) := by
  refine Ct.intro rfl (by decide) [.ref a] (by simp [Value.category]) (Nat.le_of_ble_eq_true rfl) rfl ?_
  refine w_aload_n dX3_init_0 rfl ?_
  refine w_objInit dX3_init_1 u_72 ow_1 ow_2 (Nat.le_of_ble_eq_true rfl) (Nat.le_of_ble_eq_true rfl) ?_
  refine w_aload_n dX3_init_4 rfl ?_
  refine w_newA (b := a + 1) (ci := 5) dX3_init_5 rfl u_73 u_39 u_3 df_X5 hs (by omega) (Nat.le_of_ble_eq_true rfl) (Nat.le_of_ble_eq_true rfl) ?_
  refine w_dup dX3_init_8 rfl ?_
  refine wI0c dX3_init_9 lk_X3_11 rfl (c_init5 (a := a + 1) (by first | assumption | ((repeat (first | rw [gs_ne (by omega)] | rw [nw_ne (by omega)])); (first | exact gs_at | exact nw_at | assumption))) rfl (by omega)) (Nat.le_of_ble_eq_true rfl) (Nat.le_of_ble_eq_true rfl) (Nat.le_of_ble_eq_true rfl) (Nat.le_of_ble_eq_true rfl) (fun G5 h5 => ?_)
  obtain ⟨z5, l5, r51, r52⟩ := h5
  have hO5 : G5.1 a = some (oB 3 [.null, .null, .int 0, .int 0]) := (l5 a (by omega)).trans ((nw_ne (by omega)).trans hO)
  refine w_putfF dX3_init_12 ff_X3_12 rfl (by first | assumption | ((repeat (first | rw [gs_ne (by omega)] | rw [nw_ne (by omega)])); (first | exact gs_at | exact nw_at | assumption))) (by first | decide | simp) rfl rfl ?_
  refine w_aload_n dX3_init_15 rfl ?_
  refine w_bipush (v := nI 32) dX3_init_16 (by decide) ?_
  refine w_newIA (b := a + 3) (N := 32) dX3_init_18 aw_int (by decide) (by decide) (by decide) z5 (by omega) (Nat.le_of_ble_eq_true rfl) (Nat.le_of_ble_eq_true rfl) ?_
  refine w_putfF dX3_init_20 ff_X3_18 rfl (by first | assumption | ((repeat (first | rw [gs_ne (by omega)] | rw [nw_ne (by omega)])); (first | exact gs_at | exact nw_at | assumption))) (by first | decide | simp) rfl rfl ?_
  refine w_aload_n dX3_init_23 rfl ?_
  refine w_iconst (v := nI 0) dX3_init_24 (by decide) ?_
  refine w_putf dX3_init_25 fl_X3_22 (by first | assumption | ((repeat (first | rw [gs_ne (by omega)] | rw [nw_ne (by omega)])); (first | exact gs_at | exact nw_at | assumption))) (by simp) rfl rfl ?_
  refine w_aload_n dX3_init_28 rfl ?_
  refine w_iconst (v := nI 0) dX3_init_29 (by decide) ?_
  refine w_putf dX3_init_30 fl_X3_26 (by first | assumption | ((repeat (first | rw [gs_ne (by omega)] | rw [nw_ne (by omega)])); (first | exact gs_at | exact nw_at | assumption))) (by simp) rfl rfl ?_
  refine w_vret dX3_init_33 rfl (Nat.le_of_ble_eq_true rfl) (Nat.le_of_ble_eq_true rfl) ?_
  refine ⟨rfl, rfl, fun q hq => ?_, ?_, ⟨?_, ?_⟩, ?_⟩
  · (repeat (first | rw [gs_ne (by omega)] | rw [nw_ne (by omega)])); rw [l5 q (by omega), nw_ne (by omega)]
  · first | assumption | ((repeat (first | rw [gs_ne (by omega)] | rw [nw_ne (by omega)])); (first | exact gs_at | exact nw_at | assumption))
  · (repeat (first | rw [gs_ne (by omega)] | rw [nw_ne (by omega)])); exact r51
  · (repeat (first | rw [gs_ne (by omega)] | rw [nw_ne (by omega)])); exact r52
  · first | assumption | ((repeat (first | rw [gs_ne (by omega)] | rw [nw_ne (by omega)])); (first | exact gs_at | exact nw_at | assumption))
theorem c_init4 {E : EV} {a : Nat} {G : AH} (hO : G.1 a = some (oB 4 [.null, .int 0, .int 0])) (hs : G.2 = a + 1) (hb : eB E ≤ a) : Ct E 2 1 240 kX4_init [.ref a] G (fun o G1 => o = .inl none ∧ (G1.2 = a + 2 ∧ (∀ q, q < a → G1.1 q = G.1 q) ∧ G1.1 a = some (oB 4 [.ref (a + 1), .int (nI 0), .int (nI 0)]) ∧ G1.1 (a + 1) = some (aI 240 (fun _ => 0)))) := by
  refine Ct.intro rfl (by decide) [.ref a] (by simp [Value.category]) (Nat.le_of_ble_eq_true rfl) rfl ?_
  refine w_aload_n dX4_init_0 rfl ?_
  refine w_objInit dX4_init_1 u_99 ow_1 ow_2 (Nat.le_of_ble_eq_true rfl) (Nat.le_of_ble_eq_true rfl) ?_
  refine w_aload_n dX4_init_4 rfl ?_
  refine w_sipush (v := nI 240) dX4_init_5 (by decide) ?_
  refine w_newIA (b := a + 1) (N := 240) dX4_init_8 aw_int (by decide) (by decide) (by decide) hs (by omega) (Nat.le_of_ble_eq_true rfl) (Nat.le_of_ble_eq_true rfl) ?_
  refine w_putfF dX4_init_10 ff_X4_9 rfl (by first | assumption | ((repeat (first | rw [gs_ne (by omega)] | rw [nw_ne (by omega)])); (first | exact gs_at | exact nw_at | assumption))) (by first | decide | simp) rfl rfl ?_
  refine w_aload_n dX4_init_13 rfl ?_
  refine w_iconst (v := nI 0) dX4_init_14 (by decide) ?_
  refine w_putf dX4_init_15 fl_X4_15 (by first | assumption | ((repeat (first | rw [gs_ne (by omega)] | rw [nw_ne (by omega)])); (first | exact gs_at | exact nw_at | assumption))) (by simp) rfl rfl ?_
  refine w_aload_n dX4_init_18 rfl ?_
  refine w_iconst (v := nI 0) dX4_init_19 (by decide) ?_
  refine w_putf dX4_init_20 fl_X4_19 (by first | assumption | ((repeat (first | rw [gs_ne (by omega)] | rw [nw_ne (by omega)])); (first | exact gs_at | exact nw_at | assumption))) (by simp) rfl rfl ?_
  refine w_vret dX4_init_23 rfl (Nat.le_of_ble_eq_true rfl) (Nat.le_of_ble_eq_true rfl) ?_
  refine ⟨rfl, rfl, (fun q hq => by (repeat (first | rw [gs_ne (by omega)] | rw [nw_ne (by omega)]))), ?_, ?_⟩
  · first | assumption | ((repeat (first | rw [gs_ne (by omega)] | rw [nw_ne (by omega)])); (first | exact gs_at | exact nw_at | assumption))
  · first | assumption | ((repeat (first | rw [gs_ne (by omega)] | rw [nw_ne (by omega)])); (first | exact gs_at | exact nw_at | assumption))
theorem c_init6 {E : EV} {a : Nat} {G : AH} (hO : G.1 a = some (oB 6 [.null, .null])) (hs : G.2 = a + 1) (hb : eB E ≤ a) : Ct E 2 2 128 kX6_init [.ref a] G (fun o G1 => o = .inl none ∧ (G1.2 = a + 3 ∧ (∀ q, q < a → G1.1 q = G.1 q) ∧ SmR G1 a)) := by
  refine Ct.intro rfl (by decide) [.ref a] (by simp [Value.category]) (Nat.le_of_ble_eq_true rfl) rfl ?_
  refine w_aload_n dX6_init_0 rfl ?_
  refine w_objInit dX6_init_1 u_235 ow_1 ow_2 (Nat.le_of_ble_eq_true rfl) (Nat.le_of_ble_eq_true rfl) ?_
  refine w_aload_n dX6_init_4 rfl ?_
  refine w_bipush (v := nI 64) dX6_init_5 (by decide) ?_
  refine w_newIA (b := a + 1) (N := 64) dX6_init_7 aw_int (by decide) (by decide) (by decide) hs (by omega) (Nat.le_of_ble_eq_true rfl) (Nat.le_of_ble_eq_true rfl) ?_
  refine w_putfF dX6_init_9 ff_X6_9 rfl (by first | assumption | ((repeat (first | rw [gs_ne (by omega)] | rw [nw_ne (by omega)])); (first | exact gs_at | exact nw_at | assumption))) (by first | decide | simp) rfl rfl ?_
  refine w_aload_n dX6_init_12 rfl ?_
  refine w_bipush (v := nI 64) dX6_init_13 (by decide) ?_
  refine w_newIA (b := a + 2) (N := 64) dX6_init_15 aw_int (by decide) (by decide) (by decide) rfl (by omega) (Nat.le_of_ble_eq_true rfl) (Nat.le_of_ble_eq_true rfl) ?_
  refine w_putfF dX6_init_17 ff_X6_13 rfl (by first | assumption | ((repeat (first | rw [gs_ne (by omega)] | rw [nw_ne (by omega)])); (first | exact gs_at | exact nw_at | assumption))) (by first | decide | simp) rfl rfl ?_
  refine w_vret dX6_init_20 rfl (Nat.le_of_ble_eq_true rfl) (Nat.le_of_ble_eq_true rfl) ?_
  refine ⟨rfl, rfl, (fun q hq => by (repeat (first | rw [gs_ne (by omega)] | rw [nw_ne (by omega)]))), ?_⟩
  unfold SmR
  refine ⟨?_, ⟨fun _ => 0, ?_, ?_⟩, ⟨fun _ => 0, ?_, ?_⟩⟩
  · first | assumption | ((repeat (first | rw [gs_ne (by omega)] | rw [nw_ne (by omega)])); (first | exact gs_at | exact nw_at | assumption))
  · first | assumption | ((repeat (first | rw [gs_ne (by omega)] | rw [nw_ne (by omega)])); (first | exact gs_at | exact nw_at | assumption))
  · rfl
  · first | assumption | ((repeat (first | rw [gs_ne (by omega)] | rw [nw_ne (by omega)])); (first | exact gs_at | exact nw_at | assumption))
  · rfl
def D0 : LD := (-1, 0, fun _ => 0, fun _ => 0, fun _ => 0, fun _ => 0, 0)
theorem c_init2 {E : EV} {a : Nat} {G : AH} (hO : G.1 a = some (oB 2 [.null, .null, .null, .null, .int 0, .int 0, .null])) (hs : G.2 = a + 1) (hb : eB E ≤ a) : Ct E 2 5 440 kX2_init [.ref a] G (fun o G1 => o = .inl none ∧ (G1.2 = a + 6 ∧ (∀ q, q < a → G1.1 q = G.1 q) ∧ Lw G1 a D0)) := by
  refine Ct.intro rfl (by decide) [.ref a] (by simp [Value.category]) (Nat.le_of_ble_eq_true rfl) rfl ?_
  refine w_aload_n dX2_init_0 rfl ?_
  refine w_objInit dX2_init_1 u_203 ow_1 ow_2 (Nat.le_of_ble_eq_true rfl) (Nat.le_of_ble_eq_true rfl) ?_
  refine w_aload_n dX2_init_4 rfl ?_
  refine w_bipush (v := nI 12) dX2_init_5 (by decide) ?_
  refine w_newIA (b := a + 1) (N := 12) dX2_init_7 aw_int (by decide) (by decide) (by decide) hs (by omega) (Nat.le_of_ble_eq_true rfl) (Nat.le_of_ble_eq_true rfl) ?_
  refine w_putfF dX2_init_9 ff_X2_9 rfl (by first | assumption | ((repeat (first | rw [gs_ne (by omega)] | rw [nw_ne (by omega)])); (first | exact gs_at | exact nw_at | assumption))) (by first | decide | simp) rfl rfl ?_
  refine w_aload_n dX2_init_12 rfl ?_
  refine w_bipush (v := nI 12) dX2_init_13 (by decide) ?_
  refine w_newIA (b := a + 2) (N := 12) dX2_init_15 aw_int (by decide) (by decide) (by decide) rfl (by omega) (Nat.le_of_ble_eq_true rfl) (Nat.le_of_ble_eq_true rfl) ?_
  refine w_putfF dX2_init_17 ff_X2_15 rfl (by first | assumption | ((repeat (first | rw [gs_ne (by omega)] | rw [nw_ne (by omega)])); (first | exact gs_at | exact nw_at | assumption))) (by first | decide | simp) rfl rfl ?_
  refine w_aload_n dX2_init_20 rfl ?_
  refine w_bipush (v := nI 13) dX2_init_21 (by decide) ?_
  refine w_newIA (b := a + 3) (N := 13) dX2_init_23 aw_int (by decide) (by decide) (by decide) rfl (by omega) (Nat.le_of_ble_eq_true rfl) (Nat.le_of_ble_eq_true rfl) ?_
  refine w_putfF dX2_init_25 ff_X2_18 rfl (by first | assumption | ((repeat (first | rw [gs_ne (by omega)] | rw [nw_ne (by omega)])); (first | exact gs_at | exact nw_at | assumption))) (by first | decide | simp) rfl rfl ?_
  refine w_aload_n dX2_init_28 rfl ?_
  refine w_sipush (v := nI 400) dX2_init_29 (by decide) ?_
  refine w_newIA (b := a + 4) (N := 400) dX2_init_32 aw_int (by decide) (by decide) (by decide) rfl (by omega) (Nat.le_of_ble_eq_true rfl) (Nat.le_of_ble_eq_true rfl) ?_
  refine w_putfF dX2_init_34 ff_X2_21 rfl (by first | assumption | ((repeat (first | rw [gs_ne (by omega)] | rw [nw_ne (by omega)])); (first | exact gs_at | exact nw_at | assumption))) (by first | decide | simp) rfl rfl ?_
  refine w_aload_n dX2_init_37 rfl ?_
  refine w_iconst (v := nI 0) dX2_init_38 (by decide) ?_
  refine w_putf dX2_init_39 fl_X2_24 (by first | assumption | ((repeat (first | rw [gs_ne (by omega)] | rw [nw_ne (by omega)])); (first | exact gs_at | exact nw_at | assumption))) (by simp) rfl rfl ?_
  refine w_aload_n dX2_init_42 rfl ?_
  refine w_iconst (v := (-1)) dX2_init_43 (by decide) ?_
  refine w_putf dX2_init_44 fl_X2_28 (by first | assumption | ((repeat (first | rw [gs_ne (by omega)] | rw [nw_ne (by omega)])); (first | exact gs_at | exact nw_at | assumption))) (by simp) rfl rfl ?_
  refine w_aload_n dX2_init_47 rfl ?_
  refine w_iconst (v := nI 3) dX2_init_48 (by decide) ?_
  refine w_newIA (b := a + 5) (N := 3) dX2_init_49 aw_int (by decide) (by decide) (by decide) rfl (by omega) (Nat.le_of_ble_eq_true rfl) (Nat.le_of_ble_eq_true rfl) ?_
  refine w_putfF dX2_init_51 ff_X2_31 rfl (by first | assumption | ((repeat (first | rw [gs_ne (by omega)] | rw [nw_ne (by omega)])); (first | exact gs_at | exact nw_at | assumption))) (by first | decide | simp) rfl rfl ?_
  refine w_vret dX2_init_54 rfl (Nat.le_of_ble_eq_true rfl) (Nat.le_of_ble_eq_true rfl) ?_
  refine ⟨rfl, rfl, (fun q hq => by (repeat (first | rw [gs_ne (by omega)] | rw [nw_ne (by omega)]))), ?_⟩
  unfold Lw
  refine ⟨?_, ?_, ?_, ?_, ?_, fun _ => 0, ?_⟩
  · first | assumption | ((repeat (first | rw [gs_ne (by omega)] | rw [nw_ne (by omega)])); (first | exact gs_at | exact nw_at | assumption))
  · first | assumption | ((repeat (first | rw [gs_ne (by omega)] | rw [nw_ne (by omega)])); (first | exact gs_at | exact nw_at | assumption))
  · first | assumption | ((repeat (first | rw [gs_ne (by omega)] | rw [nw_ne (by omega)])); (first | exact gs_at | exact nw_at | assumption))
  · first | assumption | ((repeat (first | rw [gs_ne (by omega)] | rw [nw_ne (by omega)])); (first | exact gs_at | exact nw_at | assumption))
  · first | assumption | ((repeat (first | rw [gs_ne (by omega)] | rw [nw_ne (by omega)])); (first | exact gs_at | exact nw_at | assumption))
  · first | assumption | ((repeat (first | rw [gs_ne (by omega)] | rw [nw_ne (by omega)])); (first | exact gs_at | exact nw_at | assumption))
theorem D0_ok : WFD D0 := ⟨Or.inl ⟨rfl, rfl⟩, Nat.zero_le _, fun i h => absurd h (Nat.not_lt_zero i), fun i h => absurd h (Nat.not_lt_zero i), fun i h => absurd h (Nat.not_lt_zero i), fun i h => absurd h (Nat.not_lt_zero i), Nat.zero_le _⟩
def T0 : ST := fun f i => if f = 8 then (if i < 6 then 12 else 0) else if f = 9 then (if i < 2 then 1 else 0) else 0
theorem T0_z {f : Nat} (h8 : f ≠ 8) (h9 : f ≠ 9) (i : Nat) : T0 f i = 0 := by unfold T0; rw [if_neg h8, if_neg h9]
theorem T0_ok : Bd T0 := by
  have z : ∀ f, f ≠ 8 → f ≠ 9 → ∀ i, T0 f i = 0 := fun f a b i => T0_z a b i
  have e8 : ∀ i, T0 8 i ≤ 12 := fun i => by show (if i < 6 then 12 else 0) ≤ 12; split <;> omega
  have e9 : ∀ i, T0 9 i ≤ 20 := fun i => by show (if i < 2 then 1 else 0) ≤ 20; split <;> omega
  refine ⟨?_, ?_, ?_, ?_, ?_, ?_, ?_, ?_, ?_, e8, e9, ?_, ?_, ?_, ?_, ?_, ?_, ?_, ?_, fun f i hf _ => z f (by omega) (by omega) i⟩
  all_goals first
    | (intro i; rw [z _ (by decide) (by decide)]; decide)
    | (rw [z _ (by decide) (by decide)]; decide)
theorem T0_pl : upd (upd (upd (upd (upd (upd (fun _ => 0) 0 (nI 12)) 1 (nI 12)) 2 (nI 12)) 3 (nI 12)) 4 (nI 12)) 5 (nI 12) = fun i => nI (T0 8 i) := by
  funext i
  match i with
  | 0 => rfl
  | 1 => rfl
  | 2 => rfl
  | 3 => rfl
  | 4 => rfl
  | 5 => rfl
  | i + 6 => rfl
theorem T0_ha : upd (upd (fun _ => 0) 0 (nI 1)) 1 (nI 1) = fun i => nI (T0 9 i) := by
  funext i
  match i with
  | 0 => rfl
  | 1 => rfl
  | i + 2 => rfl
theorem gen_heap {E : EV} {d mc ms : Nat} {K : MR} {Q : OC → AH → Prop} {G : AH} {cs : Nat × Nat} {pc : Nat} {L st : List Value} (k : ∀ X : AH, G = X → Wp E d mc ms K Q X cs pc L st) : Wp E d mc ms K Q G cs pc L st := k G rfl
theorem c_init1 {E : EV} {a : Nat} {G : AH} (hO : G.1 a = some (oB 1 [.null, .null, .null, .null, .null, .null, .null, .null, .null, .null, .null, .null, .int 0, .int 0, .int 0, .int 0, .int 0, .int 0])) (hs : G.2 = a + 1) (hb : eB E ≤ a) : Ct E 3 13 343 kX1_init [.ref a] G (fun o G1 => o = .inl none ∧ (G1.2 = a + 14 ∧ (∀ q, q < a → G1.1 q = G.1 q) ∧ Isl G1 a T0 (nI 1))) := by
  refine Ct.intro rfl (by decide) [.ref a] (by simp [Value.category]) (Nat.le_of_ble_eq_true rfl) rfl ?_
  refine w_aload_n dX1_init_0 rfl ?_
  refine w_objInit dX1_init_1 u_93 ow_1 ow_2 (Nat.le_of_ble_eq_true rfl) (Nat.le_of_ble_eq_true rfl) ?_
  refine w_aload_n dX1_init_4 rfl ?_
  refine w_bipush (v := nI 12) dX1_init_5 (by decide) ?_
  refine w_newIA (b := a + 1) (N := 12) dX1_init_7 aw_int (by decide) (by decide) (by decide) hs (by omega) (Nat.le_of_ble_eq_true rfl) (Nat.le_of_ble_eq_true rfl) ?_
  refine w_putfF dX1_init_9 ff_X1_9 rfl (by first | assumption | ((repeat (first | rw [gs_ne (by omega)] | rw [nw_ne (by omega)])); (first | exact gs_at | exact nw_at | assumption))) (by first | decide | simp) rfl rfl ?_
  refine w_aload_n dX1_init_12 rfl ?_
  refine w_bipush (v := nI 12) dX1_init_13 (by decide) ?_
  refine w_newIA (b := a + 2) (N := 12) dX1_init_15 aw_int (by decide) (by decide) (by decide) rfl (by omega) (Nat.le_of_ble_eq_true rfl) (Nat.le_of_ble_eq_true rfl) ?_
  refine w_putfF dX1_init_17 ff_X1_15 rfl (by first | assumption | ((repeat (first | rw [gs_ne (by omega)] | rw [nw_ne (by omega)])); (first | exact gs_at | exact nw_at | assumption))) (by first | decide | simp) rfl rfl ?_
  refine w_aload_n dX1_init_20 rfl ?_
  refine w_bipush (v := nI 12) dX1_init_21 (by decide) ?_
  refine w_newIA (b := a + 3) (N := 12) dX1_init_23 aw_int (by decide) (by decide) (by decide) rfl (by omega) (Nat.le_of_ble_eq_true rfl) (Nat.le_of_ble_eq_true rfl) ?_
  refine w_putfF dX1_init_25 ff_X1_18 rfl (by first | assumption | ((repeat (first | rw [gs_ne (by omega)] | rw [nw_ne (by omega)])); (first | exact gs_at | exact nw_at | assumption))) (by first | decide | simp) rfl rfl ?_
  refine w_aload_n dX1_init_28 rfl ?_
  refine w_bipush (v := nI 12) dX1_init_29 (by decide) ?_
  refine w_newIA (b := a + 4) (N := 12) dX1_init_31 aw_int (by decide) (by decide) (by decide) rfl (by omega) (Nat.le_of_ble_eq_true rfl) (Nat.le_of_ble_eq_true rfl) ?_
  refine w_putfF dX1_init_33 ff_X1_21 rfl (by first | assumption | ((repeat (first | rw [gs_ne (by omega)] | rw [nw_ne (by omega)])); (first | exact gs_at | exact nw_at | assumption))) (by first | decide | simp) rfl rfl ?_
  refine w_aload_n dX1_init_36 rfl ?_
  refine w_bipush (v := nI 12) dX1_init_37 (by decide) ?_
  refine w_newIA (b := a + 5) (N := 12) dX1_init_39 aw_int (by decide) (by decide) (by decide) rfl (by omega) (Nat.le_of_ble_eq_true rfl) (Nat.le_of_ble_eq_true rfl) ?_
  refine w_putfF dX1_init_41 ff_X1_24 rfl (by first | assumption | ((repeat (first | rw [gs_ne (by omega)] | rw [nw_ne (by omega)])); (first | exact gs_at | exact nw_at | assumption))) (by first | decide | simp) rfl rfl ?_
  refine w_aload_n dX1_init_44 rfl ?_
  refine w_bipush (v := nI 12) dX1_init_45 (by decide) ?_
  refine w_newIA (b := a + 6) (N := 12) dX1_init_47 aw_int (by decide) (by decide) (by decide) rfl (by omega) (Nat.le_of_ble_eq_true rfl) (Nat.le_of_ble_eq_true rfl) ?_
  refine w_putfF dX1_init_49 ff_X1_27 rfl (by first | assumption | ((repeat (first | rw [gs_ne (by omega)] | rw [nw_ne (by omega)])); (first | exact gs_at | exact nw_at | assumption))) (by first | decide | simp) rfl rfl ?_
  refine w_aload_n dX1_init_52 rfl ?_
  refine w_bipush (v := nI 12) dX1_init_53 (by decide) ?_
  refine w_newIA (b := a + 7) (N := 12) dX1_init_55 aw_int (by decide) (by decide) (by decide) rfl (by omega) (Nat.le_of_ble_eq_true rfl) (Nat.le_of_ble_eq_true rfl) ?_
  refine w_putfF dX1_init_57 ff_X1_30 rfl (by first | assumption | ((repeat (first | rw [gs_ne (by omega)] | rw [nw_ne (by omega)])); (first | exact gs_at | exact nw_at | assumption))) (by first | decide | simp) rfl rfl ?_
  refine w_aload_n dX1_init_60 rfl ?_
  refine w_bipush (v := nI 6) dX1_init_61 (by decide) ?_
  refine w_newIA (b := a + 8) (N := 6) dX1_init_63 aw_int (by decide) (by decide) (by decide) rfl (by omega) (Nat.le_of_ble_eq_true rfl) (Nat.le_of_ble_eq_true rfl) ?_
  refine w_putfF dX1_init_65 ff_X1_33 rfl (by first | assumption | ((repeat (first | rw [gs_ne (by omega)] | rw [nw_ne (by omega)])); (first | exact gs_at | exact nw_at | assumption))) (by first | decide | simp) rfl rfl ?_
  refine w_aload_n dX1_init_68 rfl ?_
  refine w_bipush (v := nI 6) dX1_init_69 (by decide) ?_
  refine w_newIA (b := a + 9) (N := 6) dX1_init_71 aw_int (by decide) (by decide) (by decide) rfl (by omega) (Nat.le_of_ble_eq_true rfl) (Nat.le_of_ble_eq_true rfl) ?_
  refine w_dup dX1_init_73 rfl ?_
  refine w_iconst (v := nI 0) dX1_init_74 (by decide) ?_
  refine w_bipush (v := nI 12) dX1_init_75 (by decide) ?_
  refine w_iastore dX1_init_77 (by first | assumption | ((repeat (first | rw [gs_ne (by omega)] | rw [nw_ne (by omega)])); (first | exact gs_at | exact nw_at | assumption))) (by first | assumption | exact vp_in_nI (by omega) (by omega) | exact vp_in_nI (by assumption) (by omega)) ?_
  refine w_dup dX1_init_78 rfl ?_
  refine w_iconst (v := nI 1) dX1_init_79 (by decide) ?_
  refine w_bipush (v := nI 12) dX1_init_80 (by decide) ?_
  refine w_iastore dX1_init_82 (by first | assumption | ((repeat (first | rw [gs_ne (by omega)] | rw [nw_ne (by omega)])); (first | exact gs_at | exact nw_at | assumption))) (by first | assumption | exact vp_in_nI (by omega) (by omega) | exact vp_in_nI (by assumption) (by omega)) ?_
  refine w_dup dX1_init_83 rfl ?_
  refine w_iconst (v := nI 2) dX1_init_84 (by decide) ?_
  refine w_bipush (v := nI 12) dX1_init_85 (by decide) ?_
  refine w_iastore dX1_init_87 (by first | assumption | ((repeat (first | rw [gs_ne (by omega)] | rw [nw_ne (by omega)])); (first | exact gs_at | exact nw_at | assumption))) (by first | assumption | exact vp_in_nI (by omega) (by omega) | exact vp_in_nI (by assumption) (by omega)) ?_
  refine w_dup dX1_init_88 rfl ?_
  refine w_iconst (v := nI 3) dX1_init_89 (by decide) ?_
  refine w_bipush (v := nI 12) dX1_init_90 (by decide) ?_
  refine w_iastore dX1_init_92 (by first | assumption | ((repeat (first | rw [gs_ne (by omega)] | rw [nw_ne (by omega)])); (first | exact gs_at | exact nw_at | assumption))) (by first | assumption | exact vp_in_nI (by omega) (by omega) | exact vp_in_nI (by assumption) (by omega)) ?_
  refine w_dup dX1_init_93 rfl ?_
  refine w_iconst (v := nI 4) dX1_init_94 (by decide) ?_
  refine w_bipush (v := nI 12) dX1_init_95 (by decide) ?_
  refine w_iastore dX1_init_97 (by first | assumption | ((repeat (first | rw [gs_ne (by omega)] | rw [nw_ne (by omega)])); (first | exact gs_at | exact nw_at | assumption))) (by first | assumption | exact vp_in_nI (by omega) (by omega) | exact vp_in_nI (by assumption) (by omega)) ?_
  refine w_dup dX1_init_98 rfl ?_
  refine w_iconst (v := nI 5) dX1_init_99 (by decide) ?_
  refine w_bipush (v := nI 12) dX1_init_100 (by decide) ?_
  refine w_iastore dX1_init_102 (by first | assumption | ((repeat (first | rw [gs_ne (by omega)] | rw [nw_ne (by omega)])); (first | exact gs_at | exact nw_at | assumption))) (by first | assumption | exact vp_in_nI (by omega) (by omega) | exact vp_in_nI (by assumption) (by omega)) ?_
  have epl : ∀ x : Nat → Int32, x = upd (upd (upd (upd (upd (upd (fun _ => 0) (nI 0).toNatClampNeg (nI 12)) (nI 1).toNatClampNeg (nI 12)) (nI 2).toNatClampNeg (nI 12)) (nI 3).toNatClampNeg (nI 12)) (nI 4).toNatClampNeg (nI 12)) (nI 5).toNatClampNeg (nI 12) → x = fun i => nI (T0 8 i) := fun x h => h.trans T0_pl
  refine w_putfF dX1_init_103 ff_X1_36 rfl (by first | assumption | ((repeat (first | rw [gs_ne (by omega)] | rw [nw_ne (by omega)])); (first | exact gs_at | exact nw_at | assumption))) (by first | decide | simp) rfl rfl ?_
  refine w_aload_n dX1_init_106 rfl ?_
  refine w_iconst (v := nI 2) dX1_init_107 (by decide) ?_
  refine w_newIA (b := a + 10) (N := 2) dX1_init_108 aw_int (by decide) (by decide) (by decide) rfl (by omega) (Nat.le_of_ble_eq_true rfl) (Nat.le_of_ble_eq_true rfl) ?_
  refine w_dup dX1_init_110 rfl ?_
  refine w_iconst (v := nI 0) dX1_init_111 (by decide) ?_
  refine w_iconst (v := nI 1) dX1_init_112 (by decide) ?_
  refine w_iastore dX1_init_113 (by first | assumption | ((repeat (first | rw [gs_ne (by omega)] | rw [nw_ne (by omega)])); (first | exact gs_at | exact nw_at | assumption))) (by first | assumption | exact vp_in_nI (by omega) (by omega) | exact vp_in_nI (by assumption) (by omega)) ?_
  refine w_dup dX1_init_114 rfl ?_
  refine w_iconst (v := nI 1) dX1_init_115 (by decide) ?_
  refine w_iconst (v := nI 1) dX1_init_116 (by decide) ?_
  refine w_iastore dX1_init_117 (by first | assumption | ((repeat (first | rw [gs_ne (by omega)] | rw [nw_ne (by omega)])); (first | exact gs_at | exact nw_at | assumption))) (by first | assumption | exact vp_in_nI (by omega) (by omega) | exact vp_in_nI (by assumption) (by omega)) ?_
  have eha : ∀ x : Nat → Int32, x = upd (upd (fun _ => 0) (nI 0).toNatClampNeg (nI 1)) (nI 1).toNatClampNeg (nI 1) → x = fun i => nI (T0 9 i) := fun x h => h.trans T0_ha
  refine w_putfF dX1_init_118 ff_X1_39 rfl (by first | assumption | ((repeat (first | rw [gs_ne (by omega)] | rw [nw_ne (by omega)])); (first | exact gs_at | exact nw_at | assumption))) (by first | decide | simp) rfl rfl ?_
  refine w_aload_n dX1_init_121 rfl ?_
  refine w_iconst (v := nI 2) dX1_init_122 (by decide) ?_
  refine w_newIA (b := a + 11) (N := 2) dX1_init_123 aw_int (by decide) (by decide) (by decide) rfl (by omega) (Nat.le_of_ble_eq_true rfl) (Nat.le_of_ble_eq_true rfl) ?_
  refine w_putfF dX1_init_125 ff_X1_42 rfl (by first | assumption | ((repeat (first | rw [gs_ne (by omega)] | rw [nw_ne (by omega)])); (first | exact gs_at | exact nw_at | assumption))) (by first | decide | simp) rfl rfl ?_
  refine w_aload_n dX1_init_128 rfl ?_
  refine gen_heap (fun X hX => ?_)
  have zX : X.2 = a + 12 := by rw [← hX]; rfl
  have lX : ∀ q, q < a → X.1 q = G.1 q := by rw [← hX]; exact (fun q hq => by (repeat (first | rw [gs_ne (by omega)] | rw [nw_ne (by omega)])))
  have x0 : X.1 a = some (oB 1 [.ref (a + 1), .ref (a + 2), .ref (a + 3), .ref (a + 4), .ref (a + 5), .ref (a + 6), .ref (a + 7), .ref (a + 8), .ref (a + 9), .ref (a + 10), .ref (a + 11), .null, .int 0, .int 0, .int 0, .int 0, .int 0, .int 0]) := by rw [← hX]; exact gs_at
  have x1 : X.1 (a + 1) = some (aI 12 (fun _ => 0)) := by rw [← hX]; (first | assumption | ((repeat (first | rw [gs_ne (by omega)] | rw [nw_ne (by omega)])); (first | exact gs_at | exact nw_at | assumption)))
  have x2 : X.1 (a + 2) = some (aI 12 (fun _ => 0)) := by rw [← hX]; (first | assumption | ((repeat (first | rw [gs_ne (by omega)] | rw [nw_ne (by omega)])); (first | exact gs_at | exact nw_at | assumption)))
  have x3 : X.1 (a + 3) = some (aI 12 (fun _ => 0)) := by rw [← hX]; (first | assumption | ((repeat (first | rw [gs_ne (by omega)] | rw [nw_ne (by omega)])); (first | exact gs_at | exact nw_at | assumption)))
  have x4 : X.1 (a + 4) = some (aI 12 (fun _ => 0)) := by rw [← hX]; (first | assumption | ((repeat (first | rw [gs_ne (by omega)] | rw [nw_ne (by omega)])); (first | exact gs_at | exact nw_at | assumption)))
  have x5 : X.1 (a + 5) = some (aI 12 (fun _ => 0)) := by rw [← hX]; (first | assumption | ((repeat (first | rw [gs_ne (by omega)] | rw [nw_ne (by omega)])); (first | exact gs_at | exact nw_at | assumption)))
  have x6 : X.1 (a + 6) = some (aI 12 (fun _ => 0)) := by rw [← hX]; (first | assumption | ((repeat (first | rw [gs_ne (by omega)] | rw [nw_ne (by omega)])); (first | exact gs_at | exact nw_at | assumption)))
  have x7 : X.1 (a + 7) = some (aI 12 (fun _ => 0)) := by rw [← hX]; (first | assumption | ((repeat (first | rw [gs_ne (by omega)] | rw [nw_ne (by omega)])); (first | exact gs_at | exact nw_at | assumption)))
  have x8 : X.1 (a + 8) = some (aI 6 (fun _ => 0)) := by rw [← hX]; (first | assumption | ((repeat (first | rw [gs_ne (by omega)] | rw [nw_ne (by omega)])); (first | exact gs_at | exact nw_at | assumption)))
  have x9 : X.1 (a + 9) = some (aI 6 (fun i => nI (T0 8 i))) := by rw [← hX]; ((repeat (first | rw [gs_ne (by omega)] | rw [nw_ne (by omega)])); exact (gs_at.trans (congrArg (fun f : Nat → Int32 => some (aI 6 f)) (epl _ rfl))))
  have x10 : X.1 (a + 10) = some (aI 2 (fun i => nI (T0 9 i))) := by rw [← hX]; ((repeat (first | rw [gs_ne (by omega)] | rw [nw_ne (by omega)])); exact (gs_at.trans (congrArg (fun f : Nat → Int32 => some (aI 2 f)) (eha _ rfl))))
  have x11 : X.1 (a + 11) = some (aI 2 (fun _ => 0)) := by rw [← hX]; (first | assumption | ((repeat (first | rw [gs_ne (by omega)] | rw [nw_ne (by omega)])); (first | exact gs_at | exact nw_at | assumption)))
  refine w_newA (b := a + 12) (ci := 4) dX1_init_129 rfl u_94 u_95 u_6 df_X4 zX (by omega) (Nat.le_of_ble_eq_true rfl) (Nat.le_of_ble_eq_true rfl) ?_
  refine w_dup dX1_init_132 rfl ?_
  refine wI0c dX1_init_133 lk_X1_47 rfl (c_init4 (a := a + 12) (by first | assumption | ((repeat (first | rw [gs_ne (by omega)] | rw [nw_ne (by omega)])); (first | exact gs_at | exact nw_at | assumption))) rfl (by omega)) (Nat.le_of_ble_eq_true rfl) (Nat.le_of_ble_eq_true rfl) (Nat.le_of_ble_eq_true rfl) (Nat.le_of_ble_eq_true rfl) (fun G5 h5 => ?_)
  obtain ⟨z5, l5, r51, r52⟩ := h5
  have hO5 := (l5 a (by omega)).trans ((nw_ne (by omega)).trans x0)
  refine w_putfF dX1_init_136 ff_X1_48 rfl (by first | assumption | ((repeat (first | rw [gs_ne (by omega)] | rw [nw_ne (by omega)])); (first | exact gs_at | exact nw_at | assumption))) (by first | decide | simp) rfl rfl ?_
  refine w_aload_n dX1_init_139 rfl ?_
  refine w_iconst (v := nI 0) dX1_init_140 (by decide) ?_
  refine w_putf dX1_init_141 fl_X1_52 (by first | assumption | ((repeat (first | rw [gs_ne (by omega)] | rw [nw_ne (by omega)])); (first | exact gs_at | exact nw_at | assumption))) (by simp) rfl rfl ?_
  refine w_aload_n dX1_init_144 rfl ?_
  refine w_iconst (v := nI 0) dX1_init_145 (by decide) ?_
  refine w_putf dX1_init_146 fl_X1_56 (by first | assumption | ((repeat (first | rw [gs_ne (by omega)] | rw [nw_ne (by omega)])); (first | exact gs_at | exact nw_at | assumption))) (by simp) rfl rfl ?_
  refine w_aload_n dX1_init_149 rfl ?_
  refine w_iconst (v := nI 0) dX1_init_150 (by decide) ?_
  refine w_putf dX1_init_151 fl_X1_59 (by first | assumption | ((repeat (first | rw [gs_ne (by omega)] | rw [nw_ne (by omega)])); (first | exact gs_at | exact nw_at | assumption))) (by simp) rfl rfl ?_
  refine w_aload_n dX1_init_154 rfl ?_
  refine w_iconst (v := nI 0) dX1_init_155 (by decide) ?_
  refine w_putf dX1_init_156 fl_X1_62 (by first | assumption | ((repeat (first | rw [gs_ne (by omega)] | rw [nw_ne (by omega)])); (first | exact gs_at | exact nw_at | assumption))) (by simp) rfl rfl ?_
  refine w_aload_n dX1_init_159 rfl ?_
  refine w_iconst (v := nI 0) dX1_init_160 (by decide) ?_
  refine w_putf dX1_init_161 fl_X1_65 (by first | assumption | ((repeat (first | rw [gs_ne (by omega)] | rw [nw_ne (by omega)])); (first | exact gs_at | exact nw_at | assumption))) (by simp) rfl rfl ?_
  refine w_aload_n dX1_init_164 rfl ?_
  refine w_iconst (v := nI 1) dX1_init_165 (by decide) ?_
  refine w_putf dX1_init_166 fl_X1_68 (by first | assumption | ((repeat (first | rw [gs_ne (by omega)] | rw [nw_ne (by omega)])); (first | exact gs_at | exact nw_at | assumption))) (by simp) rfl rfl ?_
  refine w_vret dX1_init_169 rfl (Nat.le_of_ble_eq_true rfl) (Nat.le_of_ble_eq_true rfl) ?_
  refine ⟨rfl, z5, fun q hq => ?_, ?_⟩
  · (repeat rw [gs_ne (by omega)]); rw [l5 q (by omega), nw_ne (by omega), lX q hq]
  unfold Isl
  refine ⟨?_, ?_, ?_, ?_, ?_, ?_, ?_, ?_, ?_, ?_, ?_, ?_, ?_, ?_⟩
  · first | assumption | ((repeat (first | rw [gs_ne (by omega)] | rw [nw_ne (by omega)])); (first | exact gs_at | exact nw_at | assumption))
  · (repeat rw [gs_ne (by omega)]); rw [l5 _ (by omega), nw_ne (by omega)]; exact x1
  · (repeat rw [gs_ne (by omega)]); rw [l5 _ (by omega), nw_ne (by omega)]; exact x2
  · (repeat rw [gs_ne (by omega)]); rw [l5 _ (by omega), nw_ne (by omega)]; exact x3
  · (repeat rw [gs_ne (by omega)]); rw [l5 _ (by omega), nw_ne (by omega)]; exact x4
  · (repeat rw [gs_ne (by omega)]); rw [l5 _ (by omega), nw_ne (by omega)]; exact x5
  · (repeat rw [gs_ne (by omega)]); rw [l5 _ (by omega), nw_ne (by omega)]; exact x6
  · (repeat rw [gs_ne (by omega)]); rw [l5 _ (by omega), nw_ne (by omega)]; exact x7
  · (repeat rw [gs_ne (by omega)]); rw [l5 _ (by omega), nw_ne (by omega)]; exact x8
  · (repeat rw [gs_ne (by omega)]); rw [l5 _ (by omega), nw_ne (by omega)]; exact x9
  · (repeat rw [gs_ne (by omega)]); rw [l5 _ (by omega), nw_ne (by omega)]; exact x10
  · (repeat rw [gs_ne (by omega)]); rw [l5 _ (by omega), nw_ne (by omega)]; exact x11
  · (repeat rw [gs_ne (by omega)]); exact r51
  · (repeat rw [gs_ne (by omega)]); exact r52
