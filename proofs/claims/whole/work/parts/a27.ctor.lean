/-! constructors: the model, the class -/
def m1 : Nat → Int32 := upd (upd (upd (upd (fun _ => 0) 1 (-1)) 7 (nI 1)) 8 (nI 1)) 12 (nI 1)
def mI (i : Nat) : Nat → Int32 := fun j => if 20 ≤ j ∧ j < 20 + i then nI 12 else m1 j
theorem mI_0 : mI 0 = m1 := funext fun j => if_neg (by omega)
theorem mI_s (i : Nat) : upd (mI i) (20 + i) (nI 12) = mI (i + 1) := by
  funext j
  unfold upd mI
  by_cases h : j = 20 + i
  · rw [if_pos h, if_pos (by omega)]
  · rw [if_neg h]
    by_cases h2 : 20 ≤ j ∧ j < 20 + i
    · rw [if_pos h2, if_pos (by omega)]
    · rw [if_neg h2, if_neg (by omega)]
theorem m1_z {j : Nat} (h : j ≠ 1 ∧ j ≠ 7 ∧ j ≠ 8 ∧ j ≠ 12) : m1 j = 0 := by
  unfold m1
  rw [upd_ne h.2.2.2, upd_ne h.2.2.1, upd_ne h.2.1, upd_ne h.1]
theorem mI_z {j : Nat} (h : j ≠ 1 ∧ j ≠ 7 ∧ j ≠ 8 ∧ j ≠ 12) (h2 : j < 20 ∨ 26 ≤ j) : mI 6 j = nI 0 := (if_neg (show ¬ (20 ≤ j ∧ j < 20 + 6) by omega)).trans (m1_z h)
theorem mI_1 : mI 6 1 = -1 := rfl
theorem mI_R : MoR (mI 6) T0 (nI 1) := by
  refine ⟨mI_z (by decide) (by decide), mI_z (by decide) (by decide), mI_z (by decide) (by decide), mI_z (by decide) (by decide), mI_z (by decide) (by decide), fun s hs => ?_, fun s hs => ?_, mI_z (by decide) (by decide), rfl, fun r hr => ?_, fun r hr => ?_, fun i w hi hw => ?_, fun a w ha hw => absurd ha (by rw [T0_z (by decide) (by decide)]; omega)⟩
  · have hs2 : s = 0 ∨ s = 1 := by omega
    rcases hs2 with h | h <;> subst h <;> rfl
  · rw [T0_z (by decide) (by decide)]; exact mI_z (by omega) (by omega)
  · rw [T0_z (by decide) (by decide)]; exact mI_z (by omega) (by omega)
  · have e : T0 8 r = 12 := if_pos hr
    rw [e]; exact if_pos (by omega)
  · rw [T0_z (by omega) (by omega)]; exact mI_z (by omega) (by omega)
theorem Wp.cs {E : EV} {d mc ms : Nat} {K : MR} {Q : OC → AH → Prop} {G : AH} {c1 c2 : Nat × Nat} {pc : Nat} {L st : List Value} (h1 : c1.1 = c2.1) (h2 : c1.2 = c2.2) (k : Wp E d mc ms K Q G c2 pc L st) : Wp E d mc ms K Q G c1 pc L st := by
  have e : c1 = c2 := Prod.ext h1 h2
  rw [e]; exact k
theorem ml_init111 {E : EV} {Q : OC → AH → Prop} {a : Nat} {X : AH} (hX : X.1 a = some (mO a 0 0 0 0 0 0 0 (-1) 0 0 0 0 0 0)) (hQ : Q (.inl none) (gs X (a + 1) (aI 750 (mI 6)))) : ∀ (k i : Nat), 6 - i < k → i ≤ 6 → Wp E 2 8 6557 kX8_init Q (gs X (a + 1) (aI 750 (mI i))) (8, 6557) 111 [.ref a, .int (nI i)] [] := by
  intro k
  induction k with
  | zero => intro i h; exact absurd h (by omega)
  | succ k ih =>
    intro i hk hi
    refine w_iload_n dX8_init_111 rfl ?_
    refine w_bipush (v := nI 6) dX8_init_112 (by decide) ?_
    refine w_icmp_ge (tgt := 134) dX8_init_114 (by decide) (fun c_114 => ?_) (fun c_114 => ?_)
    · try simp (disch := omega) only [nI_b2, Decidable.not_not, nI_ltI, nI_leI, nI_eq, ge_iff_le, gt_iff_lt, ne_eq, Nat.not_lt, Nat.not_le] at c_114
      refine w_vret dX8_init_134 rfl (Nat.le_of_ble_eq_true rfl) (Nat.le_of_ble_eq_true rfl) ?_
      have e : i = 6 := by omega
      subst e
      exact hQ
    · try simp (disch := omega) only [nI_b2, Decidable.not_not, nI_ltI, nI_leI, nI_eq, ge_iff_le, gt_iff_lt, ne_eq, Nat.not_lt, Nat.not_le] at c_114
      refine w_aload_n dX8_init_117 rfl ?_
      refine w_getf dX8_init_118 fl_X8_7 (by first | assumption | ((repeat (first | rw [gs_ne (by omega)] | rw [nw_ne (by omega)])); (first | exact gs_at | exact nw_at | assumption))) rfl ?_
      refine w_bipush (v := nI 20) dX8_init_121 (by decide) ?_
      refine w_iload_n dX8_init_123 rfl ?_
      first | refine w_iaddN dX8_init_124 ?_ | refine w_iadd dX8_init_124 ?_
      refine w_bipush (v := nI 12) dX8_init_125 (by decide) ?_
      refine w_iastore dX8_init_127 (by first | assumption | ((repeat (first | rw [gs_ne (by omega)] | rw [nw_ne (by omega)])); (first | exact gs_at | exact nw_at | assumption))) (by first | assumption | exact vp_in_nI (by omega) (by omega) | exact vp_in_nI (by assumption) (by omega)) ?_
      rw [nI_clamp (by omega)]
      first | refine w_iinc_1 dX8_init_128 (nI_inc _) rfl ?_ | refine w_iinc_1 dX8_init_128 rfl rfl ?_
      refine w_goto (tgt := 111) dX8_init_131 (by decide) ?_
      rw [gs_gs, mI_s]
      exact ih (i + 1) (by omega) (by omega)
theorem c_init8 {E : EV} {a : Nat} {G : AH} (hO : G.1 a = some (oB 8 [.int 0, .null, .null, .int 0, .null, .null, .int 0, .null, .int 0, .int 0, .int 0, .int 0, .int 0, .int 0, .null, .int 0, .int 0, .int 0, .int 0, .int 0, .null, .null])) (hs : G.2 = a + 1) (hb : eB E ≤ a) : Ct E 2 8 6557 kX8_init [.ref a] G (fun o G1 => o = .inl none ∧ (G1.2 = a + 9 ∧ (∀ q, q < a → G1.1 q = G.1 q) ∧ G1.1 a = some (mO a 0 0 0 0 0 0 0 (-1) 0 0 0 0 0 0) ∧ G1.1 (a + 1) = some (aI 750 (mI 6)) ∧ G1.1 (a + 2) = some (aI 750 (fun _ => 0)) ∧ G1.1 (a + 3) = some (aI 350 (fun _ => 0)) ∧ G1.1 (a + 4) = some (aI 4200 (fun _ => 0)) ∧ G1.1 (a + 5) = some (aI 400 (fun _ => 0)) ∧ G1.1 (a + 6) = some (aI 7 (fun _ => 0)) ∧ G1.1 (a + 7) = some (aI 64 (fun _ => 0)) ∧ G1.1 (a + 8) = some (aZ 36 (fun _ => 0)))) := by
  refine Ct.intro rfl (by decide) [.ref a, .float 0] (by simp [Value.category]) (Nat.le_of_ble_eq_true rfl) rfl ?_
  refine w_aload_n dX8_init_0 rfl ?_
  refine w_objInit dX8_init_1 u_1229 ow_1 ow_2 (Nat.le_of_ble_eq_true rfl) (Nat.le_of_ble_eq_true rfl) ?_
  refine w_aload_n dX8_init_4 rfl ?_
  refine w_sipush (v := nI 750) dX8_init_5 (by decide) ?_
  refine w_newIA (b := a + 1) (N := 750) dX8_init_8 aw_int (by decide) (by decide) (by decide) hs (by omega) (Nat.le_of_ble_eq_true rfl) (Nat.le_of_ble_eq_true rfl) ?_
  refine w_putfF dX8_init_10 ff_X8_7 rfl (by first | assumption | ((repeat (first | rw [gs_ne (by omega)] | rw [nw_ne (by omega)])); (first | exact gs_at | exact nw_at | assumption))) (by first | decide | simp) rfl rfl ?_
  refine w_aload_n dX8_init_13 rfl ?_
  refine w_sipush (v := nI 750) dX8_init_14 (by decide) ?_
  refine w_newIA (b := a + 2) (N := 750) dX8_init_17 aw_int (by decide) (by decide) (by decide) rfl (by omega) (Nat.le_of_ble_eq_true rfl) (Nat.le_of_ble_eq_true rfl) ?_
  refine w_putfF dX8_init_19 ff_X8_13 rfl (by first | assumption | ((repeat (first | rw [gs_ne (by omega)] | rw [nw_ne (by omega)])); (first | exact gs_at | exact nw_at | assumption))) (by first | decide | simp) rfl rfl ?_
  refine w_aload_n dX8_init_22 rfl ?_
  refine w_sipush (v := nI 350) dX8_init_23 (by decide) ?_
  refine w_newIA (b := a + 3) (N := 350) dX8_init_26 aw_int (by decide) (by decide) (by decide) rfl (by omega) (Nat.le_of_ble_eq_true rfl) (Nat.le_of_ble_eq_true rfl) ?_
  refine w_putfF dX8_init_28 ff_X8_16 rfl (by first | assumption | ((repeat (first | rw [gs_ne (by omega)] | rw [nw_ne (by omega)])); (first | exact gs_at | exact nw_at | assumption))) (by first | decide | simp) rfl rfl ?_
  refine w_aload_n dX8_init_31 rfl ?_
  refine w_sipush (v := nI 4200) dX8_init_32 (by decide) ?_
  refine w_newIA (b := a + 4) (N := 4200) dX8_init_35 aw_int (by decide) (by decide) (by decide) rfl (by omega) (Nat.le_of_ble_eq_true rfl) (Nat.le_of_ble_eq_true rfl) ?_
  refine w_putfF dX8_init_37 ff_X8_19 rfl (by first | assumption | ((repeat (first | rw [gs_ne (by omega)] | rw [nw_ne (by omega)])); (first | exact gs_at | exact nw_at | assumption))) (by first | decide | simp) rfl rfl ?_
  refine w_aload_n dX8_init_40 rfl ?_
  refine w_sipush (v := nI 400) dX8_init_41 (by decide) ?_
  refine w_newIA (b := a + 5) (N := 400) dX8_init_44 aw_int (by decide) (by decide) (by decide) rfl (by omega) (Nat.le_of_ble_eq_true rfl) (Nat.le_of_ble_eq_true rfl) ?_
  refine w_putfF dX8_init_46 ff_X8_22 rfl (by first | assumption | ((repeat (first | rw [gs_ne (by omega)] | rw [nw_ne (by omega)])); (first | exact gs_at | exact nw_at | assumption))) (by first | decide | simp) rfl rfl ?_
  refine w_aload_n dX8_init_49 rfl ?_
  refine w_iconst (v := (-1)) dX8_init_50 (by decide) ?_
  refine w_putf dX8_init_51 fl_X8_25 (by first | assumption | ((repeat (first | rw [gs_ne (by omega)] | rw [nw_ne (by omega)])); (first | exact gs_at | exact nw_at | assumption))) (by simp) rfl rfl ?_
  refine w_aload_n dX8_init_54 rfl ?_
  refine w_bipush (v := nI 7) dX8_init_55 (by decide) ?_
  refine w_newIA (b := a + 6) (N := 7) dX8_init_57 aw_int (by decide) (by decide) (by decide) rfl (by omega) (Nat.le_of_ble_eq_true rfl) (Nat.le_of_ble_eq_true rfl) ?_
  refine w_putfF dX8_init_59 ff_X8_29 rfl (by first | assumption | ((repeat (first | rw [gs_ne (by omega)] | rw [nw_ne (by omega)])); (first | exact gs_at | exact nw_at | assumption))) (by first | decide | simp) rfl rfl ?_
  refine w_aload_n dX8_init_62 rfl ?_
  refine w_bipush (v := nI 64) dX8_init_63 (by decide) ?_
  refine w_newIA (b := a + 7) (N := 64) dX8_init_65 aw_int (by decide) (by decide) (by decide) rfl (by omega) (Nat.le_of_ble_eq_true rfl) (Nat.le_of_ble_eq_true rfl) ?_
  refine w_putfF dX8_init_67 ff_X8_32 rfl (by first | assumption | ((repeat (first | rw [gs_ne (by omega)] | rw [nw_ne (by omega)])); (first | exact gs_at | exact nw_at | assumption))) (by first | decide | simp) rfl rfl ?_
  refine w_aload_n dX8_init_70 rfl ?_
  refine w_bipush (v := nI 36) dX8_init_71 (by decide) ?_
  refine w_newZA (b := a + 8) (N := 36) dX8_init_73 aw_boolean (by decide) (by decide) (by decide) rfl (by omega) (Nat.le_of_ble_eq_true rfl) (Nat.le_of_ble_eq_true rfl) ?_
  refine w_putfF dX8_init_75 ff_X8_35 rfl (by first | assumption | ((repeat (first | rw [gs_ne (by omega)] | rw [nw_ne (by omega)])); (first | exact gs_at | exact nw_at | assumption))) (by first | decide | simp) rfl rfl ?_
  refine w_aload_n dX8_init_78 rfl ?_
  refine w_getf dX8_init_79 fl_X8_7 (by first | assumption | ((repeat (first | rw [gs_ne (by omega)] | rw [nw_ne (by omega)])); (first | exact gs_at | exact nw_at | assumption))) rfl ?_
  refine w_iconst (v := nI 1) dX8_init_82 (by decide) ?_
  refine w_iconst (v := (-1)) dX8_init_83 (by decide) ?_
  refine w_iastore dX8_init_84 (by first | assumption | ((repeat (first | rw [gs_ne (by omega)] | rw [nw_ne (by omega)])); (first | exact gs_at | exact nw_at | assumption))) (by first | assumption | exact vp_in_nI (by omega) (by omega) | exact vp_in_nI (by assumption) (by omega)) ?_
  rw [nI_clamp (by omega)]
  refine w_aload_n dX8_init_85 rfl ?_
  refine w_getf dX8_init_86 fl_X8_7 (by first | assumption | ((repeat (first | rw [gs_ne (by omega)] | rw [nw_ne (by omega)])); (first | exact gs_at | exact nw_at | assumption))) rfl ?_
  refine w_bipush (v := nI 7) dX8_init_89 (by decide) ?_
  refine w_iconst (v := nI 1) dX8_init_91 (by decide) ?_
  refine w_iastore dX8_init_92 (by first | assumption | ((repeat (first | rw [gs_ne (by omega)] | rw [nw_ne (by omega)])); (first | exact gs_at | exact nw_at | assumption))) (by first | assumption | exact vp_in_nI (by omega) (by omega) | exact vp_in_nI (by assumption) (by omega)) ?_
  rw [nI_clamp (by omega)]
  refine w_aload_n dX8_init_93 rfl ?_
  refine w_getf dX8_init_94 fl_X8_7 (by first | assumption | ((repeat (first | rw [gs_ne (by omega)] | rw [nw_ne (by omega)])); (first | exact gs_at | exact nw_at | assumption))) rfl ?_
  refine w_bipush (v := nI 8) dX8_init_97 (by decide) ?_
  refine w_iconst (v := nI 1) dX8_init_99 (by decide) ?_
  refine w_iastore dX8_init_100 (by first | assumption | ((repeat (first | rw [gs_ne (by omega)] | rw [nw_ne (by omega)])); (first | exact gs_at | exact nw_at | assumption))) (by first | assumption | exact vp_in_nI (by omega) (by omega) | exact vp_in_nI (by assumption) (by omega)) ?_
  rw [nI_clamp (by omega)]
  refine w_aload_n dX8_init_101 rfl ?_
  refine w_getf dX8_init_102 fl_X8_7 (by first | assumption | ((repeat (first | rw [gs_ne (by omega)] | rw [nw_ne (by omega)])); (first | exact gs_at | exact nw_at | assumption))) rfl ?_
  refine w_bipush (v := nI 12) dX8_init_105 (by decide) ?_
  refine w_iconst (v := nI 1) dX8_init_107 (by decide) ?_
  refine w_iastore dX8_init_108 (by first | assumption | ((repeat (first | rw [gs_ne (by omega)] | rw [nw_ne (by omega)])); (first | exact gs_at | exact nw_at | assumption))) (by first | assumption | exact vp_in_nI (by omega) (by omega) | exact vp_in_nI (by assumption) (by omega)) ?_
  rw [nI_clamp (by omega)]
  refine gen_heap (fun X hX => ?_)
  have x0 : X.1 a = some (mO a 0 0 0 0 0 0 0 (-1) 0 0 0 0 0 0) := by rw [← hX]; (first | assumption | ((repeat (first | rw [gs_ne (by omega)] | rw [nw_ne (by omega)])); (first | exact gs_at | exact nw_at | assumption)))
  have xz : X.2 = a + 9 := by rw [← hX]; rfl
  have xl : ∀ q, q < a → X.1 q = G.1 q := by rw [← hX]; exact (fun q hq => by (repeat (first | rw [gs_ne (by omega)] | rw [nw_ne (by omega)])))
  have x1 : X.1 (a + 1) = some (aI 750 (mI 0)) := by rw [mI_0, ← hX]; (first | assumption | ((repeat (first | rw [gs_ne (by omega)] | rw [nw_ne (by omega)])); (first | exact gs_at | exact nw_at | assumption)))
  have x2 : X.1 (a + 2) = some (aI 750 (fun _ => 0)) := by rw [← hX]; (first | assumption | ((repeat (first | rw [gs_ne (by omega)] | rw [nw_ne (by omega)])); (first | exact gs_at | exact nw_at | assumption)))
  have x3 : X.1 (a + 3) = some (aI 350 (fun _ => 0)) := by rw [← hX]; (first | assumption | ((repeat (first | rw [gs_ne (by omega)] | rw [nw_ne (by omega)])); (first | exact gs_at | exact nw_at | assumption)))
  have x4 : X.1 (a + 4) = some (aI 4200 (fun _ => 0)) := by rw [← hX]; (first | assumption | ((repeat (first | rw [gs_ne (by omega)] | rw [nw_ne (by omega)])); (first | exact gs_at | exact nw_at | assumption)))
  have x5 : X.1 (a + 5) = some (aI 400 (fun _ => 0)) := by rw [← hX]; (first | assumption | ((repeat (first | rw [gs_ne (by omega)] | rw [nw_ne (by omega)])); (first | exact gs_at | exact nw_at | assumption)))
  have x6 : X.1 (a + 6) = some (aI 7 (fun _ => 0)) := by rw [← hX]; (first | assumption | ((repeat (first | rw [gs_ne (by omega)] | rw [nw_ne (by omega)])); (first | exact gs_at | exact nw_at | assumption)))
  have x7 : X.1 (a + 7) = some (aI 64 (fun _ => 0)) := by rw [← hX]; (first | assumption | ((repeat (first | rw [gs_ne (by omega)] | rw [nw_ne (by omega)])); (first | exact gs_at | exact nw_at | assumption)))
  have x8 : X.1 (a + 8) = some (aZ 36 (fun _ => 0)) := by rw [← hX]; (first | assumption | ((repeat (first | rw [gs_ne (by omega)] | rw [nw_ne (by omega)])); (first | exact gs_at | exact nw_at | assumption)))
  refine w_iconst (v := nI 0) dX8_init_109 (by decide) ?_
  refine w_istore_1 dX8_init_110 rfl ?_
  rw [← gs_id x1]
  refine Wp.cs (c2 := (8, 6557)) rfl rfl (ml_init111 x0 ?_ 7 0 (by omega) (by omega))
  refine ⟨rfl, xz, fun q hq => by rw [gs_ne (by omega)]; exact xl q hq, ?_, gs_at, ?_, ?_, ?_, ?_, ?_, ?_, ?_⟩
  · rw [gs_ne (by omega)]; exact x0
  · rw [gs_ne (by omega)]; exact x2
  · rw [gs_ne (by omega)]; exact x3
  · rw [gs_ne (by omega)]; exact x4
  · rw [gs_ne (by omega)]; exact x5
  · rw [gs_ne (by omega)]; exact x6
  · rw [gs_ne (by omega)]; exact x7
  · rw [gs_ne (by omega)]; exact x8
