/-! constructors: the class -/
theorem Wp.rowO {E : EV} {d mc ms : Nat} {K : MR} {Q : OC → AH → Prop} {G : AH} {cs : Nat × Nat} {pc : Nat} {L st : List Value} {b n : Nat} {f g : Nat → Option Nat} (h : ∀ k, k < n → f k = g k) (k : Wp E d mc ms K Q (gs G b (aO n g)) cs pc L st) : Wp E d mc ms K Q (gs G b (aO n f)) cs pc L st := by
  intro p e s m args below meth c H locs ls C Rp S hl
  refine k p e s m args below meth c H locs ls C ⟨Rp.1, fun a x hx => ?_⟩ S hl
  by_cases hab : a = b
  · subst hab
    rw [gs_at] at hx
    cases hx
    have h9 := Rp.2 a _ gs_at
    refine ⟨h9.1, ?_⟩
    have h8 : H[a]? = some (vp_cell (eY E 3) (n, .inr (.inr (.inr (.inr f))))) := h9.2
    show H[a]? = some (vp_cell (eY E 3) (n, .inr (.inr (.inr (.inr g)))))
    rw [vp_cell_q] at h8 ⊢
    rw [h8]
    unfold arrV
    congr 3
    funext j
    show va_rf (f j.val) = va_rf (g j.val)
    rw [h j.val j.isLt]
  · exact Rp.2 a x (by rw [gs_ne hab] at hx ⊢; exact hx)
theorem ml_c175 {E : EV} {Q : OC → AH → Prop} {a : Nat} {X0 : AH} (hb : eB E ≤ a) (hQ : ∀ X : AH, X.2 = a + 246 → (∀ q, q < a + 78 → q ≠ a + 69 → X.1 q = X0.1 q) → X.1 (a + 69) = some (aO 12 (fun q => some (a + 78 + 14 * q))) → (∀ j, j < 12 → Isl X (a + 78 + 14 * j) T0 (nI 1)) → Q (.inl none) X) (hO : X0.1 a = some (oB 7 [.ref (a + 1), .int (nI 0), .ref (a + 2), .ref (a + 5), .int (-1), .ref (a + 9), .ref (a + 23), .ref (a + 37), .ref (a + 43), .int (nI 0), .ref (a + 49), .ref (a + 63), .ref (a + 69), .int (nI 0), .int (nI 0), .ref (a + 70), .ref (a + 71), .ref (a + 74), .ref (a + 77)])) : ∀ (k i : Nat) (X : AH), 12 - i < k → i ≤ 12 → X.2 = a + 78 + 14 * i → (∀ q, q < a + 78 → q ≠ a + 69 → X.1 q = X0.1 q) → X.1 (a + 69) = some (aO 12 (fun q => if q < i then some (a + 78 + 14 * q) else none)) → (∀ j, j < i → Isl X (a + 78 + 14 * j) T0 (nI 1)) → Wp E 4 245 8293 kX7_init Q X (77 + 14 * i, 3961 + 361 * i) 175 [.ref a, .int (nI i)] [] := by
  intro k
  induction k with
  | zero => intro i X h; exact absurd h (by omega)
  | succ k ih =>
    intro i X hk hi hz hl hp hj
    have hO2 : X.1 a = some (oB 7 [.ref (a + 1), .int (nI 0), .ref (a + 2), .ref (a + 5), .int (-1), .ref (a + 9), .ref (a + 23), .ref (a + 37), .ref (a + 43), .int (nI 0), .ref (a + 49), .ref (a + 63), .ref (a + 69), .int (nI 0), .int (nI 0), .ref (a + 70), .ref (a + 71), .ref (a + 74), .ref (a + 77)]) := (hl a (by omega) (by omega)).trans hO
    refine w_iload_n dX7_init_175 rfl ?_
    refine w_aload_n dX7_init_176 rfl ?_
    refine w_getf dX7_init_177 fl_X7_64 (by first | assumption | ((repeat (first | rw [gs_ne (by omega)] | rw [nw_ne (by omega)])); (first | exact gs_at | exact nw_at | assumption))) rfl ?_
    refine w_alenO dX7_init_180 (by first | assumption | ((repeat (first | rw [gs_ne (by omega)] | rw [nw_ne (by omega)])); (first | exact gs_at | exact nw_at | assumption))) ?_
    refine w_icmp_ge (tgt := 203) dX7_init_181 (by decide) (fun c_181 => ?_) (fun c_181 => ?_)
    · try simp (disch := omega) only [nI_b2, Decidable.not_not, nI_ltI, nI_leI, nI_eq, ge_iff_le, gt_iff_lt, ne_eq, Nat.not_lt, Nat.not_le] at c_181
      have e : i = 12 := by omega
      subst e
      rw [← gs_id hp]
      refine Wp.rowO (g := fun q => some (a + 78 + 14 * q)) (fun q hq => if_pos hq) ?_
      refine w_vret dX7_init_203 rfl (by dsimp only; omega) (by dsimp only; omega) ?_
      refine hQ _ hz (fun q h1 h2 => by rw [gs_ne h2]; exact hl q h1 h2) gs_at (fun j h9 => (hj j h9).same (fun q h1 h2 => gs_ne (by omega)))
    · try simp (disch := omega) only [nI_b2, Decidable.not_not, nI_ltI, nI_leI, nI_eq, ge_iff_le, gt_iff_lt, ne_eq, Nat.not_lt, Nat.not_le] at c_181
      refine w_aload_n dX7_init_184 rfl ?_
      refine w_getf dX7_init_185 fl_X7_64 (by first | assumption | ((repeat (first | rw [gs_ne (by omega)] | rw [nw_ne (by omega)])); (first | exact gs_at | exact nw_at | assumption))) rfl ?_
      refine w_iload_n dX7_init_188 rfl ?_
      refine w_newA (b := a + 78 + 14 * i) (ci := 1) dX7_init_189 rfl u_88 u_89 u_5 df_X1 hz (by omega) (by dsimp only; omega) (by dsimp only; omega) ?_
      refine w_dup dX7_init_192 rfl ?_
      refine wI0c dX7_init_193 lk_X7_36 rfl (c_init1 (a := a + 78 + 14 * i) nw_at rfl (by omega)) (Nat.le_of_ble_eq_true rfl) (by dsimp only; omega) (by dsimp only; omega) (Nat.le_of_ble_eq_true rfl) (fun G5 h5 => ?_)
      obtain ⟨z5, l5, r5⟩ := h5
      have hp5 : G5.1 (a + 69) = some (aO 12 (fun q => if q < i then some (a + 78 + 14 * q) else none)) := (l5 _ (by omega)).trans ((nw_ne (by omega)).trans hp)
      have r50 := r5.1
      refine w_aastore dX7_init_196 (by first | assumption | ((repeat (first | rw [gs_ne (by omega)] | rw [nw_ne (by omega)])); (first | exact gs_at | exact nw_at | assumption))) (by first | assumption | ((repeat (first | rw [gs_ne (by omega)] | rw [nw_ne (by omega)])); (first | exact gs_at | exact nw_at | assumption))) (by first | assumption | exact vp_in_nI (by omega) (by omega) | exact vp_in_nI (by assumption) (by omega)) ?_
      first | refine w_iinc_1 dX7_init_197 (nI_inc _) rfl ?_ | refine w_iinc_1 dX7_init_197 rfl rfl ?_
      refine w_goto (tgt := 175) dX7_init_200 (by decide) ?_
      rw [nI_clamp (by omega)]
      have ef : ∀ q, q < 12 → va_up (fun q => if q < i then some (a + 78 + 14 * q) else none) i (some (a + 78 + 14 * i)) q = (fun q => if q < i + 1 then some (a + 78 + 14 * q) else none) q := fun q hq => by
        by_cases hqi : q = i
        · subst hqi; rw [va_up_self]; exact (if_pos (by omega)).symm
        · rw [va_up_ne _ _ hqi]
          by_cases h9 : q < i
          · show (if q < i then _ else _) = (if q < i + 1 then _ else _); rw [if_pos h9, if_pos (by omega)]
          · show (if q < i then _ else _) = (if q < i + 1 then _ else _); rw [if_neg h9, if_neg (by omega)]
      refine Wp.rowO (g := (fun q => if q < i + 1 then some (a + 78 + 14 * q) else none)) ef ?_
      refine Wp.cs (c2 := (77 + 14 * (i + 1), 3961 + 361 * (i + 1))) (by dsimp only; omega) (by show 3961 + 361 * i + 18 + 343 = _; omega) (ih (i + 1) _ (by omega) (by omega) (by rw [gs_sz, z5]; omega) (fun q h1 h2 => ?_) gs_at (fun j hj9 => ?_))
      · rw [gs_ne h2, l5 q (by omega), nw_ne (by omega)]; exact hl q h1 h2
      · by_cases hji : j = i
        · subst hji; exact r5.same (fun q h1 h2 => gs_ne (by omega))
        · exact (hj j (by omega)).same (fun q h1 h2 => by rw [gs_ne (by omega), l5 q (by omega), nw_ne (by omega)])
theorem init7_end {a : Nat} {G X Z G2 G3 G4 G5 G6 G7 G8 G9 G11 G12 : AH} (rG2 : (G2.1 (a + 2) = some (oB 0 [.ref (a + 2 + 1)]) ∧ (G2.1 (a + 2 + 1) = some (oB 5 [.ref (a + 2 + 1 + 1), .int (nI 0), .int (nI 0), .int (nI 0), .int (-1)]) ∧ G2.1 (a + 2 + 1 + 1) = some (aI 400 (fun _ => 0))))) (rG3 : (G3.1 (a + 5) = some (oB 3 [.ref (a + 5 + 1), .ref (a + 5 + 3), .int (nI 0), .int (nI 0)]) ∧ (G3.1 (a + 5 + 1) = some (oB 5 [.ref (a + 5 + 1 + 1), .int (nI 0), .int (nI 0), .int (nI 0), .int (-1)]) ∧ G3.1 (a + 5 + 1 + 1) = some (aI 400 (fun _ => 0))) ∧ G3.1 (a + 5 + 3) = some (aI 32 (fun _ => 0)))) (rG4 : Isl G4 (a + 9) T0 (nI 1)) (rG5 : Isl G5 (a + 23) T0 (nI 1)) (rG6 : Lw G6 (a + 37) D0) (rG7 : Lw G7 (a + 43) D0) (rG8 : Isl G8 (a + 49) T0 (nI 1)) (rG9 : Lw G9 (a + 63) D0) (rG11 : SmR G11 (a + 71)) (rG12 : SmR G12 (a + 74)) (uG3 : ∀ q, q ≠ a → q < a + 5 → G3.1 q = G2.1 q) (uG4 : ∀ q, q ≠ a → q < a + 9 → G4.1 q = G3.1 q) (uG5 : ∀ q, q ≠ a → q < a + 23 → G5.1 q = G4.1 q) (uG6 : ∀ q, q ≠ a → q < a + 37 → G6.1 q = G5.1 q) (uG7 : ∀ q, q ≠ a → q < a + 43 → G7.1 q = G6.1 q) (uG8 : ∀ q, q ≠ a → q < a + 49 → G8.1 q = G7.1 q) (uG9 : ∀ q, q ≠ a → q < a + 63 → G9.1 q = G8.1 q) (uG11 : ∀ q, q ≠ a → q < a + 69 → G11.1 q = G9.1 q) (uG12 : ∀ q, q ≠ a → q < a + 74 → G12.1 q = G11.1 q) (lowG2 : ∀ q, q < a → G2.1 q = G.1 q) (tapeG2 : G2.1 (a + 1) = some (aI 400 (fun _ => 0))) (wtsG11 : G11.1 (a + 70) = some (aI 12 (fun _ => 0))) (xo : X.1 a = some (oB 7 [.ref (a + 1), .int (nI 0), .ref (a + 2), .ref (a + 5), .int (-1), .ref (a + 9), .ref (a + 23), .ref (a + 37), .ref (a + 43), .int (nI 0), .ref (a + 49), .ref (a + 63), .ref (a + 69), .int (nI 0), .int (nI 0), .ref (a + 70), .ref (a + 71), .ref (a + 74), .ref (a + 77)])) (ux : ∀ q, q ≠ a → q < a + 77 → X.1 q = G12.1 q) (ord : X.1 (a + 77) = some (aI 6 (fun _ => 0))) (hz : Z.2 = a + 246) (hl : ∀ q, q < a + 78 → q ≠ a + 69 → Z.1 q = X.1 q) (hp : Z.1 (a + 69) = some (aO 12 (fun q => some (a + 78 + 14 * q)))) (hj : ∀ j, j < 12 → Isl Z (a + 78 + 14 * j) T0 (nI 1)) : (.inl none : OC) = .inl none ∧ (Z.2 = a + 246 ∧ (∀ q, q < a → Z.1 q = G.1 q) ∧ HI Z a 0 (fun _ => 0) (-1) T0 (nI 1) D0 0 T0 (nI 1) D0 0 0 (fun _ => (T0, nI 1)) (a + 37) (a + 43)) := by
  have vG12 : ∀ q, q ≠ a → q ≠ a + 69 → q < a + 77 → Z.1 q = G12.1 q := fun q h1 h2 h3 => (hl q (by omega) h2).trans (ux q h1 h3)
  have vG11 : ∀ q, q ≠ a → q ≠ a + 69 → q < a + 74 → Z.1 q = G11.1 q := fun q h1 h2 h3 => (vG12 q h1 h2 (by omega)).trans (uG12 q h1 h3)
  have vG9 : ∀ q, q ≠ a → q ≠ a + 69 → q < a + 69 → Z.1 q = G9.1 q := fun q h1 h2 h3 => (vG11 q h1 h2 (by omega)).trans (uG11 q h1 h3)
  have vG8 : ∀ q, q ≠ a → q ≠ a + 69 → q < a + 63 → Z.1 q = G8.1 q := fun q h1 h2 h3 => (vG9 q h1 h2 (by omega)).trans (uG9 q h1 h3)
  have vG7 : ∀ q, q ≠ a → q ≠ a + 69 → q < a + 49 → Z.1 q = G7.1 q := fun q h1 h2 h3 => (vG8 q h1 h2 (by omega)).trans (uG8 q h1 h3)
  have vG6 : ∀ q, q ≠ a → q ≠ a + 69 → q < a + 43 → Z.1 q = G6.1 q := fun q h1 h2 h3 => (vG7 q h1 h2 (by omega)).trans (uG7 q h1 h3)
  have vG5 : ∀ q, q ≠ a → q ≠ a + 69 → q < a + 37 → Z.1 q = G5.1 q := fun q h1 h2 h3 => (vG6 q h1 h2 (by omega)).trans (uG6 q h1 h3)
  have vG4 : ∀ q, q ≠ a → q ≠ a + 69 → q < a + 23 → Z.1 q = G4.1 q := fun q h1 h2 h3 => (vG5 q h1 h2 (by omega)).trans (uG5 q h1 h3)
  have vG3 : ∀ q, q ≠ a → q ≠ a + 69 → q < a + 9 → Z.1 q = G3.1 q := fun q h1 h2 h3 => (vG4 q h1 h2 (by omega)).trans (uG4 q h1 h3)
  have vG2 : ∀ q, q ≠ a → q ≠ a + 69 → q < a + 5 → Z.1 q = G2.1 q := fun q h1 h2 h3 => (vG3 q h1 h2 (by omega)).trans (uG3 q h1 h3)
  obtain ⟨d0, d1, d2⟩ := rG2
  obtain ⟨e0, ⟨e1, e2⟩, e3⟩ := rG3
  have i4 : Isl Z (a + 9) T0 (nI 1) := rG4.same (fun q h1 h2 => vG4 q (by omega) (by omega) (by omega))
  have i5 : Isl Z (a + 23) T0 (nI 1) := rG5.same (fun q h1 h2 => vG5 q (by omega) (by omega) (by omega))
  have l6 : Lw Z (a + 37) D0 := rG6.same (fun q h1 h2 => vG6 q (by omega) (by omega) (by omega))
  have l7 : Lw Z (a + 43) D0 := rG7.same (fun q h1 h2 => vG7 q (by omega) (by omega) (by omega))
  have i8 : Isl Z (a + 49) T0 (nI 1) := rG8.same (fun q h1 h2 => vG8 q (by omega) (by omega) (by omega))
  have l9 : Lw Z (a + 63) D0 := rG9.same (fun q h1 h2 => vG9 q (by omega) (by omega) (by omega))
  have s11 : SmR Z (a + 71) := rG11.same (fun q h1 h2 => vG11 q (by omega) (by omega) (by omega))
  have s12 : SmR Z (a + 74) := rG12.same (fun q h1 h2 => vG12 q (by omega) (by omega) (by omega))
  refine ⟨rfl, hz, fun q hq => ?_, (hl a (by omega) (by omega)).trans xo, ⟨by decide, by decide, by decide, by decide⟩, ⟨(vG2 _ (by omega) (by omega) (by omega)).trans tapeG2, fun _ => Nat.zero_lt_succ 255⟩, ⟨(vG2 _ (by omega) (by omega) (by omega)).trans d0, ⟨_, _, _, 0, (vG2 _ (by omega) (by omega) (by omega)).trans d1⟩, ⟨_, (vG2 _ (by omega) (by omega) (by omega)).trans d2⟩, ⟨0, _, by decide, (vG3 _ (by omega) (by omega) (by omega)).trans e0⟩, ⟨_, _, _, 0, (vG3 _ (by omega) (by omega) (by omega)).trans e1⟩, ⟨_, (vG3 _ (by omega) (by omega) (by omega)).trans e2⟩, ⟨_, (vG3 _ (by omega) (by omega) (by omega)).trans e3⟩⟩, ⟨i4, T0_ok⟩, i5.g, ⟨l6, D0_ok, ⟨toX D0, l7.g, Nat.zero_le _⟩, Or.inl ⟨rfl, rfl⟩⟩, ⟨i8, T0_ok, l9, D0_ok⟩, ⟨hp, fun i hi => ⟨hj i hi, T0_ok⟩⟩, ⟨_, (vG11 _ (by omega) (by omega) (by omega)).trans wtsG11⟩, s11, s12, ⟨_, (hl _ (by omega) (by omega)).trans ord⟩⟩
  rw [vG2 q (by omega) (by omega) (by omega)]; exact lowG2 q hq
set_option maxHeartbeats 4000000 in
theorem c_init7 {E : EV} {a : Nat} {G : AH} (hO : G.1 a = some (oB 7 [.null, .int 0, .null, .null, .int 0, .null, .null, .null, .null, .int 0, .null, .null, .null, .int 0, .int 0, .null, .null, .null, .null])) (hs : G.2 = a + 1) (hb : eB E ≤ a) : Ct E 4 245 8293 kX7_init [.ref a] G (fun o G1 => o = .inl none ∧ (G1.2 = a + 246 ∧ (∀ q, q < a → G1.1 q = G.1 q) ∧ HI G1 a 0 (fun _ => 0) (-1) T0 (nI 1) D0 0 T0 (nI 1) D0 0 0 (fun _ => (T0, nI 1)) (a + 37) (a + 43))) := by
  refine Ct.intro rfl (by decide) [.ref a, .float 0] (by simp [Value.category]) (Nat.le_of_ble_eq_true rfl) rfl ?_
  refine w_aload_n dX7_init_0 rfl ?_
  refine w_objInit dX7_init_1 u_29 ow_1 ow_2 (Nat.le_of_ble_eq_true rfl) (Nat.le_of_ble_eq_true rfl) ?_
  refine w_aload_n dX7_init_4 rfl ?_
  refine w_sipush (v := nI 400) dX7_init_5 (by decide) ?_
  refine w_newIA (b := a + 1) (N := 400) dX7_init_8 aw_int (by decide) (by decide) (by decide) hs (by omega) (Nat.le_of_ble_eq_true rfl) (Nat.le_of_ble_eq_true rfl) ?_
  refine w_putfF dX7_init_10 ff_X7_9 rfl (by first | assumption | ((repeat (first | rw [gs_ne (by omega)] | rw [nw_ne (by omega)])); (first | exact gs_at | exact nw_at | assumption))) (by first | decide | simp) rfl rfl ?_
  refine w_aload_n dX7_init_13 rfl ?_
  refine w_iconst (v := nI 0) dX7_init_14 (by decide) ?_
  refine w_putf dX7_init_15 fl_X7_13 (by first | assumption | ((repeat (first | rw [gs_ne (by omega)] | rw [nw_ne (by omega)])); (first | exact gs_at | exact nw_at | assumption))) (by simp) rfl rfl ?_
  refine w_aload_n dX7_init_18 rfl ?_
  refine w_newA (b := a + 2) (ci := 0) dX7_init_19 rfl u_32 u_33 u_2 df_X0 rfl (by omega) (Nat.le_of_ble_eq_true rfl) (Nat.le_of_ble_eq_true rfl) ?_
  refine w_dup dX7_init_22 rfl ?_
  refine wI0c dX7_init_23 lk_X7_19 rfl (c_init0 (a := a + 2) (by first | assumption | ((repeat (first | rw [gs_ne (by omega)] | rw [nw_ne (by omega)])); (first | exact gs_at | exact nw_at | assumption))) rfl (by omega)) (Nat.le_of_ble_eq_true rfl) (Nat.le_of_ble_eq_true rfl) (Nat.le_of_ble_eq_true rfl) (Nat.le_of_ble_eq_true rfl) (fun G2 hG2 => ?_)
  obtain ⟨zG2, lG2, rG2⟩ := hG2
  have oG2 : G2.1 a = some (oB 7 [.ref (a + 1), .int (nI 0), .null, .null, .int 0, .null, .null, .null, .null, .int 0, .null, .null, .null, .int 0, .int 0, .null, .null, .null, .null]) := (lG2 a (by omega)).trans (by first | assumption | ((repeat (first | rw [gs_ne (by omega)] | rw [nw_ne (by omega)])); (first | exact gs_at | exact nw_at | assumption)))
  have lowG2 : ∀ q, q < a → G2.1 q = G.1 q := fun q hq => (lG2 q (by omega)).trans (by (repeat (first | rw [gs_ne (by omega)] | rw [nw_ne (by omega)])))
  have tapeG2 : G2.1 (a + 1) = some (aI 400 (fun _ => 0)) := (lG2 _ (by omega)).trans (by first | assumption | ((repeat (first | rw [gs_ne (by omega)] | rw [nw_ne (by omega)])); (first | exact gs_at | exact nw_at | assumption)))
  refine w_putfF dX7_init_26 ff_X7_20 rfl (by first | assumption | ((repeat (first | rw [gs_ne (by omega)] | rw [nw_ne (by omega)])); (first | exact gs_at | exact nw_at | assumption))) (by first | decide | simp) rfl rfl ?_
  refine w_aload_n dX7_init_29 rfl ?_
  refine w_newA (b := a + 5) (ci := 3) dX7_init_30 rfl u_67 u_68 u_4 df_X3 zG2 (by omega) (Nat.le_of_ble_eq_true rfl) (Nat.le_of_ble_eq_true rfl) ?_
  refine w_dup dX7_init_33 rfl ?_
  refine wI0c dX7_init_34 lk_X7_26 rfl (c_init3 (a := a + 5) (by first | assumption | ((repeat (first | rw [gs_ne (by omega)] | rw [nw_ne (by omega)])); (first | exact gs_at | exact nw_at | assumption))) rfl (by omega)) (Nat.le_of_ble_eq_true rfl) (Nat.le_of_ble_eq_true rfl) (Nat.le_of_ble_eq_true rfl) (Nat.le_of_ble_eq_true rfl) (fun G3 hG3 => ?_)
  obtain ⟨zG3, lG3, rG3⟩ := hG3
  have oG3 : G3.1 a = some (oB 7 [.ref (a + 1), .int (nI 0), .ref (a + 2), .null, .int 0, .null, .null, .null, .null, .int 0, .null, .null, .null, .int 0, .int 0, .null, .null, .null, .null]) := (lG3 a (by omega)).trans (by first | assumption | ((repeat (first | rw [gs_ne (by omega)] | rw [nw_ne (by omega)])); (first | exact gs_at | exact nw_at | assumption)))
  have uG3 : ∀ q, q ≠ a → q < a + 5 → G3.1 q = G2.1 q := fun q h1 h2 => (lG3 q (by omega)).trans (by (repeat (first | rw [gs_ne (by omega)] | rw [nw_ne (by omega)])))
  refine w_putfF dX7_init_37 ff_X7_27 rfl (by first | assumption | ((repeat (first | rw [gs_ne (by omega)] | rw [nw_ne (by omega)])); (first | exact gs_at | exact nw_at | assumption))) (by first | decide | simp) rfl rfl ?_
  refine w_aload_n dX7_init_40 rfl ?_
  refine w_iconst (v := (-1)) dX7_init_41 (by decide) ?_
  refine w_putf dX7_init_42 fl_X7_31 (by first | assumption | ((repeat (first | rw [gs_ne (by omega)] | rw [nw_ne (by omega)])); (first | exact gs_at | exact nw_at | assumption))) (by simp) rfl rfl ?_
  refine w_aload_n dX7_init_45 rfl ?_
  refine w_newA (b := a + 9) (ci := 1) dX7_init_46 rfl u_88 u_89 u_5 df_X1 zG3 (by omega) (Nat.le_of_ble_eq_true rfl) (Nat.le_of_ble_eq_true rfl) ?_
  refine w_dup dX7_init_49 rfl ?_
  refine wI0c dX7_init_50 lk_X7_36 rfl (c_init1 (a := a + 9) (by first | assumption | ((repeat (first | rw [gs_ne (by omega)] | rw [nw_ne (by omega)])); (first | exact gs_at | exact nw_at | assumption))) rfl (by omega)) (Nat.le_of_ble_eq_true rfl) (Nat.le_of_ble_eq_true rfl) (Nat.le_of_ble_eq_true rfl) (Nat.le_of_ble_eq_true rfl) (fun G4 hG4 => ?_)
  obtain ⟨zG4, lG4, rG4⟩ := hG4
  have oG4 : G4.1 a = some (oB 7 [.ref (a + 1), .int (nI 0), .ref (a + 2), .ref (a + 5), .int (-1), .null, .null, .null, .null, .int 0, .null, .null, .null, .int 0, .int 0, .null, .null, .null, .null]) := (lG4 a (by omega)).trans (by first | assumption | ((repeat (first | rw [gs_ne (by omega)] | rw [nw_ne (by omega)])); (first | exact gs_at | exact nw_at | assumption)))
  have uG4 : ∀ q, q ≠ a → q < a + 9 → G4.1 q = G3.1 q := fun q h1 h2 => (lG4 q (by omega)).trans (by (repeat (first | rw [gs_ne (by omega)] | rw [nw_ne (by omega)])))
  refine w_putfF dX7_init_53 ff_X7_37 rfl (by first | assumption | ((repeat (first | rw [gs_ne (by omega)] | rw [nw_ne (by omega)])); (first | exact gs_at | exact nw_at | assumption))) (by first | decide | simp) rfl rfl ?_
  refine w_aload_n dX7_init_56 rfl ?_
  refine w_newA (b := a + 23) (ci := 1) dX7_init_57 rfl u_88 u_89 u_5 df_X1 zG4 (by omega) (Nat.le_of_ble_eq_true rfl) (Nat.le_of_ble_eq_true rfl) ?_
  refine w_dup dX7_init_60 rfl ?_
  refine wI0c dX7_init_61 lk_X7_36 rfl (c_init1 (a := a + 23) (by first | assumption | ((repeat (first | rw [gs_ne (by omega)] | rw [nw_ne (by omega)])); (first | exact gs_at | exact nw_at | assumption))) rfl (by omega)) (Nat.le_of_ble_eq_true rfl) (Nat.le_of_ble_eq_true rfl) (Nat.le_of_ble_eq_true rfl) (Nat.le_of_ble_eq_true rfl) (fun G5 hG5 => ?_)
  obtain ⟨zG5, lG5, rG5⟩ := hG5
  have oG5 : G5.1 a = some (oB 7 [.ref (a + 1), .int (nI 0), .ref (a + 2), .ref (a + 5), .int (-1), .ref (a + 9), .null, .null, .null, .int 0, .null, .null, .null, .int 0, .int 0, .null, .null, .null, .null]) := (lG5 a (by omega)).trans (by first | assumption | ((repeat (first | rw [gs_ne (by omega)] | rw [nw_ne (by omega)])); (first | exact gs_at | exact nw_at | assumption)))
  have uG5 : ∀ q, q ≠ a → q < a + 23 → G5.1 q = G4.1 q := fun q h1 h2 => (lG5 q (by omega)).trans (by (repeat (first | rw [gs_ne (by omega)] | rw [nw_ne (by omega)])))
  refine w_putfF dX7_init_64 ff_X7_41 rfl (by first | assumption | ((repeat (first | rw [gs_ne (by omega)] | rw [nw_ne (by omega)])); (first | exact gs_at | exact nw_at | assumption))) (by first | decide | simp) rfl rfl ?_
  refine w_aload_n dX7_init_67 rfl ?_
  refine w_newA (b := a + 37) (ci := 2) dX7_init_68 rfl u_198 u_199 u_7 df_X2 zG5 (by omega) (Nat.le_of_ble_eq_true rfl) (Nat.le_of_ble_eq_true rfl) ?_
  refine w_dup dX7_init_71 rfl ?_
  refine wI0c dX7_init_72 lk_X7_46 rfl (c_init2 (a := a + 37) (by first | assumption | ((repeat (first | rw [gs_ne (by omega)] | rw [nw_ne (by omega)])); (first | exact gs_at | exact nw_at | assumption))) rfl (by omega)) (Nat.le_of_ble_eq_true rfl) (Nat.le_of_ble_eq_true rfl) (Nat.le_of_ble_eq_true rfl) (Nat.le_of_ble_eq_true rfl) (fun G6 hG6 => ?_)
  obtain ⟨zG6, lG6, rG6⟩ := hG6
  have oG6 : G6.1 a = some (oB 7 [.ref (a + 1), .int (nI 0), .ref (a + 2), .ref (a + 5), .int (-1), .ref (a + 9), .ref (a + 23), .null, .null, .int 0, .null, .null, .null, .int 0, .int 0, .null, .null, .null, .null]) := (lG6 a (by omega)).trans (by first | assumption | ((repeat (first | rw [gs_ne (by omega)] | rw [nw_ne (by omega)])); (first | exact gs_at | exact nw_at | assumption)))
  have uG6 : ∀ q, q ≠ a → q < a + 37 → G6.1 q = G5.1 q := fun q h1 h2 => (lG6 q (by omega)).trans (by (repeat (first | rw [gs_ne (by omega)] | rw [nw_ne (by omega)])))
  refine w_putf dX7_init_75 fl_X7_47 (by first | assumption | ((repeat (first | rw [gs_ne (by omega)] | rw [nw_ne (by omega)])); (first | exact gs_at | exact nw_at | assumption))) (by simp) rfl rfl ?_
  refine w_aload_n dX7_init_78 rfl ?_
  refine w_newA (b := a + 43) (ci := 2) dX7_init_79 rfl u_198 u_199 u_7 df_X2 zG6 (by omega) (Nat.le_of_ble_eq_true rfl) (Nat.le_of_ble_eq_true rfl) ?_
  refine w_dup dX7_init_82 rfl ?_
  refine wI0c dX7_init_83 lk_X7_46 rfl (c_init2 (a := a + 43) (by first | assumption | ((repeat (first | rw [gs_ne (by omega)] | rw [nw_ne (by omega)])); (first | exact gs_at | exact nw_at | assumption))) rfl (by omega)) (Nat.le_of_ble_eq_true rfl) (Nat.le_of_ble_eq_true rfl) (Nat.le_of_ble_eq_true rfl) (Nat.le_of_ble_eq_true rfl) (fun G7 hG7 => ?_)
  obtain ⟨zG7, lG7, rG7⟩ := hG7
  have oG7 : G7.1 a = some (oB 7 [.ref (a + 1), .int (nI 0), .ref (a + 2), .ref (a + 5), .int (-1), .ref (a + 9), .ref (a + 23), .ref (a + 37), .null, .int 0, .null, .null, .null, .int 0, .int 0, .null, .null, .null, .null]) := (lG7 a (by omega)).trans (by first | assumption | ((repeat (first | rw [gs_ne (by omega)] | rw [nw_ne (by omega)])); (first | exact gs_at | exact nw_at | assumption)))
  have uG7 : ∀ q, q ≠ a → q < a + 43 → G7.1 q = G6.1 q := fun q h1 h2 => (lG7 q (by omega)).trans (by (repeat (first | rw [gs_ne (by omega)] | rw [nw_ne (by omega)])))
  refine w_putf dX7_init_86 fl_X7_51 (by first | assumption | ((repeat (first | rw [gs_ne (by omega)] | rw [nw_ne (by omega)])); (first | exact gs_at | exact nw_at | assumption))) (by simp) rfl rfl ?_
  refine w_aload_n dX7_init_89 rfl ?_
  refine w_iconst (v := nI 0) dX7_init_90 (by decide) ?_
  refine w_putf dX7_init_91 fl_X7_54 (by first | assumption | ((repeat (first | rw [gs_ne (by omega)] | rw [nw_ne (by omega)])); (first | exact gs_at | exact nw_at | assumption))) (by simp) rfl rfl ?_
  refine w_aload_n dX7_init_94 rfl ?_
  refine w_newA (b := a + 49) (ci := 1) dX7_init_95 rfl u_88 u_89 u_5 df_X1 zG7 (by omega) (Nat.le_of_ble_eq_true rfl) (Nat.le_of_ble_eq_true rfl) ?_
  refine w_dup dX7_init_98 rfl ?_
  refine wI0c dX7_init_99 lk_X7_36 rfl (c_init1 (a := a + 49) (by first | assumption | ((repeat (first | rw [gs_ne (by omega)] | rw [nw_ne (by omega)])); (first | exact gs_at | exact nw_at | assumption))) rfl (by omega)) (Nat.le_of_ble_eq_true rfl) (Nat.le_of_ble_eq_true rfl) (Nat.le_of_ble_eq_true rfl) (Nat.le_of_ble_eq_true rfl) (fun G8 hG8 => ?_)
  obtain ⟨zG8, lG8, rG8⟩ := hG8
  have oG8 : G8.1 a = some (oB 7 [.ref (a + 1), .int (nI 0), .ref (a + 2), .ref (a + 5), .int (-1), .ref (a + 9), .ref (a + 23), .ref (a + 37), .ref (a + 43), .int (nI 0), .null, .null, .null, .int 0, .int 0, .null, .null, .null, .null]) := (lG8 a (by omega)).trans (by first | assumption | ((repeat (first | rw [gs_ne (by omega)] | rw [nw_ne (by omega)])); (first | exact gs_at | exact nw_at | assumption)))
  have uG8 : ∀ q, q ≠ a → q < a + 49 → G8.1 q = G7.1 q := fun q h1 h2 => (lG8 q (by omega)).trans (by (repeat (first | rw [gs_ne (by omega)] | rw [nw_ne (by omega)])))
  refine w_putfF dX7_init_102 ff_X7_58 rfl (by first | assumption | ((repeat (first | rw [gs_ne (by omega)] | rw [nw_ne (by omega)])); (first | exact gs_at | exact nw_at | assumption))) (by first | decide | simp) rfl rfl ?_
  refine w_aload_n dX7_init_105 rfl ?_
  refine w_newA (b := a + 63) (ci := 2) dX7_init_106 rfl u_198 u_199 u_7 df_X2 zG8 (by omega) (Nat.le_of_ble_eq_true rfl) (Nat.le_of_ble_eq_true rfl) ?_
  refine w_dup dX7_init_109 rfl ?_
  refine wI0c dX7_init_110 lk_X7_46 rfl (c_init2 (a := a + 63) (by first | assumption | ((repeat (first | rw [gs_ne (by omega)] | rw [nw_ne (by omega)])); (first | exact gs_at | exact nw_at | assumption))) rfl (by omega)) (Nat.le_of_ble_eq_true rfl) (Nat.le_of_ble_eq_true rfl) (Nat.le_of_ble_eq_true rfl) (Nat.le_of_ble_eq_true rfl) (fun G9 hG9 => ?_)
  obtain ⟨zG9, lG9, rG9⟩ := hG9
  have oG9 : G9.1 a = some (oB 7 [.ref (a + 1), .int (nI 0), .ref (a + 2), .ref (a + 5), .int (-1), .ref (a + 9), .ref (a + 23), .ref (a + 37), .ref (a + 43), .int (nI 0), .ref (a + 49), .null, .null, .int 0, .int 0, .null, .null, .null, .null]) := (lG9 a (by omega)).trans (by first | assumption | ((repeat (first | rw [gs_ne (by omega)] | rw [nw_ne (by omega)])); (first | exact gs_at | exact nw_at | assumption)))
  have uG9 : ∀ q, q ≠ a → q < a + 63 → G9.1 q = G8.1 q := fun q h1 h2 => (lG9 q (by omega)).trans (by (repeat (first | rw [gs_ne (by omega)] | rw [nw_ne (by omega)])))
  refine w_putfF dX7_init_113 ff_X7_61 rfl (by first | assumption | ((repeat (first | rw [gs_ne (by omega)] | rw [nw_ne (by omega)])); (first | exact gs_at | exact nw_at | assumption))) (by first | decide | simp) rfl rfl ?_
  refine w_aload_n dX7_init_116 rfl ?_
  refine w_bipush (v := nI 12) dX7_init_117 (by decide) ?_
  refine w_newOA (b := a + 69) (N := 12) dX7_init_119 u_88 (by decide) (by decide) (by decide) zG9 (by omega) (Nat.le_of_ble_eq_true rfl) (Nat.le_of_ble_eq_true rfl) ?_
  refine w_putfF dX7_init_122 ff_X7_64 rfl (by first | assumption | ((repeat (first | rw [gs_ne (by omega)] | rw [nw_ne (by omega)])); (first | exact gs_at | exact nw_at | assumption))) (by first | decide | simp) rfl rfl ?_
  refine w_aload_n dX7_init_125 rfl ?_
  refine w_iconst (v := nI 0) dX7_init_126 (by decide) ?_
  refine w_putf dX7_init_127 fl_X7_68 (by first | assumption | ((repeat (first | rw [gs_ne (by omega)] | rw [nw_ne (by omega)])); (first | exact gs_at | exact nw_at | assumption))) (by simp) rfl rfl ?_
  refine w_aload_n dX7_init_130 rfl ?_
  refine w_iconst (v := nI 0) dX7_init_131 (by decide) ?_
  refine w_putf dX7_init_132 fl_X7_71 (by first | assumption | ((repeat (first | rw [gs_ne (by omega)] | rw [nw_ne (by omega)])); (first | exact gs_at | exact nw_at | assumption))) (by simp) rfl rfl ?_
  refine w_aload_n dX7_init_135 rfl ?_
  refine w_bipush (v := nI 12) dX7_init_136 (by decide) ?_
  refine w_newIA (b := a + 70) (N := 12) dX7_init_138 aw_int (by decide) (by decide) (by decide) rfl (by omega) (Nat.le_of_ble_eq_true rfl) (Nat.le_of_ble_eq_true rfl) ?_
  refine w_putfF dX7_init_140 ff_X7_74 rfl (by first | assumption | ((repeat (first | rw [gs_ne (by omega)] | rw [nw_ne (by omega)])); (first | exact gs_at | exact nw_at | assumption))) (by first | decide | simp) rfl rfl ?_
  refine w_aload_n dX7_init_143 rfl ?_
  refine w_newA (b := a + 71) (ci := 6) dX7_init_144 rfl u_230 u_231 u_8 df_X6 rfl (by omega) (Nat.le_of_ble_eq_true rfl) (Nat.le_of_ble_eq_true rfl) ?_
  refine w_dup dX7_init_147 rfl ?_
  refine wI0c dX7_init_148 lk_X7_79 rfl (c_init6 (a := a + 71) (by first | assumption | ((repeat (first | rw [gs_ne (by omega)] | rw [nw_ne (by omega)])); (first | exact gs_at | exact nw_at | assumption))) rfl (by omega)) (Nat.le_of_ble_eq_true rfl) (Nat.le_of_ble_eq_true rfl) (Nat.le_of_ble_eq_true rfl) (Nat.le_of_ble_eq_true rfl) (fun G11 hG11 => ?_)
  obtain ⟨zG11, lG11, rG11⟩ := hG11
  have oG11 : G11.1 a = some (oB 7 [.ref (a + 1), .int (nI 0), .ref (a + 2), .ref (a + 5), .int (-1), .ref (a + 9), .ref (a + 23), .ref (a + 37), .ref (a + 43), .int (nI 0), .ref (a + 49), .ref (a + 63), .ref (a + 69), .int (nI 0), .int (nI 0), .ref (a + 70), .null, .null, .null]) := (lG11 a (by omega)).trans (by first | assumption | ((repeat (first | rw [gs_ne (by omega)] | rw [nw_ne (by omega)])); (first | exact gs_at | exact nw_at | assumption)))
  have uG11 : ∀ q, q ≠ a → q < a + 69 → G11.1 q = G9.1 q := fun q h1 h2 => (lG11 q (by omega)).trans (by (repeat (first | rw [gs_ne (by omega)] | rw [nw_ne (by omega)])))
  have pastG11 : G11.1 (a + 69) = some (aO 12 (fun _ => none)) := (lG11 _ (by omega)).trans (by first | assumption | ((repeat (first | rw [gs_ne (by omega)] | rw [nw_ne (by omega)])); (first | exact gs_at | exact nw_at | assumption)))
  have wtsG11 : G11.1 (a + 70) = some (aI 12 (fun _ => 0)) := (lG11 _ (by omega)).trans (by first | assumption | ((repeat (first | rw [gs_ne (by omega)] | rw [nw_ne (by omega)])); (first | exact gs_at | exact nw_at | assumption)))
  refine w_putfF dX7_init_151 ff_X7_80 rfl (by first | assumption | ((repeat (first | rw [gs_ne (by omega)] | rw [nw_ne (by omega)])); (first | exact gs_at | exact nw_at | assumption))) (by first | decide | simp) rfl rfl ?_
  refine w_aload_n dX7_init_154 rfl ?_
  refine w_newA (b := a + 74) (ci := 6) dX7_init_155 rfl u_230 u_231 u_8 df_X6 zG11 (by omega) (Nat.le_of_ble_eq_true rfl) (Nat.le_of_ble_eq_true rfl) ?_
  refine w_dup dX7_init_158 rfl ?_
  refine wI0c dX7_init_159 lk_X7_79 rfl (c_init6 (a := a + 74) (by first | assumption | ((repeat (first | rw [gs_ne (by omega)] | rw [nw_ne (by omega)])); (first | exact gs_at | exact nw_at | assumption))) rfl (by omega)) (Nat.le_of_ble_eq_true rfl) (Nat.le_of_ble_eq_true rfl) (Nat.le_of_ble_eq_true rfl) (Nat.le_of_ble_eq_true rfl) (fun G12 hG12 => ?_)
  obtain ⟨zG12, lG12, rG12⟩ := hG12
  have oG12 : G12.1 a = some (oB 7 [.ref (a + 1), .int (nI 0), .ref (a + 2), .ref (a + 5), .int (-1), .ref (a + 9), .ref (a + 23), .ref (a + 37), .ref (a + 43), .int (nI 0), .ref (a + 49), .ref (a + 63), .ref (a + 69), .int (nI 0), .int (nI 0), .ref (a + 70), .ref (a + 71), .null, .null]) := (lG12 a (by omega)).trans (by first | assumption | ((repeat (first | rw [gs_ne (by omega)] | rw [nw_ne (by omega)])); (first | exact gs_at | exact nw_at | assumption)))
  have uG12 : ∀ q, q ≠ a → q < a + 74 → G12.1 q = G11.1 q := fun q h1 h2 => (lG12 q (by omega)).trans (by (repeat (first | rw [gs_ne (by omega)] | rw [nw_ne (by omega)])))
  refine w_putfF dX7_init_162 ff_X7_84 rfl (by first | assumption | ((repeat (first | rw [gs_ne (by omega)] | rw [nw_ne (by omega)])); (first | exact gs_at | exact nw_at | assumption))) (by first | decide | simp) rfl rfl ?_
  refine w_aload_n dX7_init_165 rfl ?_
  refine w_bipush (v := nI 6) dX7_init_166 (by decide) ?_
  refine w_newIA (b := a + 77) (N := 6) dX7_init_168 aw_int (by decide) (by decide) (by decide) zG12 (by omega) (Nat.le_of_ble_eq_true rfl) (Nat.le_of_ble_eq_true rfl) ?_
  refine w_putfF dX7_init_170 ff_X7_87 rfl (by first | assumption | ((repeat (first | rw [gs_ne (by omega)] | rw [nw_ne (by omega)])); (first | exact gs_at | exact nw_at | assumption))) (by first | decide | simp) rfl rfl ?_
  refine gen_heap (fun X hX => ?_)
  have xo : X.1 a = some (oB 7 [.ref (a + 1), .int (nI 0), .ref (a + 2), .ref (a + 5), .int (-1), .ref (a + 9), .ref (a + 23), .ref (a + 37), .ref (a + 43), .int (nI 0), .ref (a + 49), .ref (a + 63), .ref (a + 69), .int (nI 0), .int (nI 0), .ref (a + 70), .ref (a + 71), .ref (a + 74), .ref (a + 77)]) := by rw [← hX]; (first | assumption | ((repeat (first | rw [gs_ne (by omega)] | rw [nw_ne (by omega)])); (first | exact gs_at | exact nw_at | assumption)))
  have xz : X.2 = a + 78 := by rw [← hX]; rfl
  have ux : ∀ q, q ≠ a → q < a + 77 → X.1 q = G12.1 q := by rw [← hX]; exact (fun q h1 h2 => by (repeat (first | rw [gs_ne (by omega)] | rw [nw_ne (by omega)])))
  have ord : X.1 (a + 77) = some (aI 6 (fun _ => 0)) := by rw [← hX]; (first | assumption | ((repeat (first | rw [gs_ne (by omega)] | rw [nw_ne (by omega)])); (first | exact gs_at | exact nw_at | assumption)))
  clear hX
  refine w_iconst (v := nI 0) dX7_init_173 (by decide) ?_
  refine w_istore_1 dX7_init_174 rfl ?_
  refine Wp.cs (c2 := (77 + 14 * 0, 3961 + 361 * 0)) rfl rfl (ml_c175 (X0 := X) hb (fun Z hz hl hp hj => ?_) xo 13 0 X (by omega) (by omega) xz (fun q _ _ => rfl) ?_ (fun j hj => absurd hj (Nat.not_lt_zero j)))
  · exact init7_end rG2 rG3 rG4 rG5 rG6 rG7 rG8 rG9 rG11 rG12 uG3 uG4 uG5 uG6 uG7 uG8 uG9 uG11 uG12 lowG2 tapeG2 wtsG11 xo ux ord hz hl hp hj
  · have p12 : G12.1 (a + 69) = some (aO 12 (fun _ => none)) := (uG12 _ (by omega) (by omega)).trans pastG11
    exact (ux _ (by omega) (by omega)).trans p12
