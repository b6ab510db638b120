/-! the law of an island: its picture, and what it tells of an item -/
def FgL : List Value → List Value → Prop | [], [] => True | a :: l, b :: m => (b = a ∨ b = .float 0) ∧ FgL l m | _, _ => False
theorem FgL.get : ∀ (L M : List Value), FgL L M → M.length = L.length ∧ ∀ (i : Nat) (v : Value), M[i]? = some v → isM v = true ∨ L[i]? = some v
  | [], [], _ => ⟨rfl, fun i v h => by simp at h⟩
  | a :: l, b :: m, h => by
    obtain ⟨h1, h2⟩ := FgL.get l m h.2
    refine ⟨by simp [h1], fun i v hi => ?_⟩
    cases i with
    | zero =>
      rw [List.getElem?_cons_zero] at hi ⊢
      cases hi
      rcases h.1 with e | e
      · exact Or.inr (by rw [e])
      · exact Or.inl (by rw [e]; rfl)
    | succ i =>
      rw [List.getElem?_cons_succ] at hi ⊢
      exact h2 i v hi
  | [], _ :: _, h => h.elim
  | _ :: _, [], h => h.elim
/-- locals may be forgotten -/
theorem Wp.fg {E : EV} {d mc ms : Nat} {K : MR} {Q : OC → AH → Prop} {G : AH} {cs : Nat × Nat} {pc : Nat} {L M st : List Value} (k : Wp E d mc ms K Q G cs pc M st) (h : FgL L M) : Wp E d mc ms K Q G cs pc L st := by
  intro p e s m args below meth c H locs ls C Rp S hl
  obtain ⟨h1, h2⟩ := FgL.get L M h
  refine k p e s m args below meth c H locs ls C Rp S ⟨hl.1, hl.2.1, h1.trans hl.2.2.1, fun i v hi => ?_⟩
  rcases h2 i v hi with h3 | h3
  · exact Or.inl h3
  · exact hl.2.2.2 i v h3
/-- a law: its number of lines (as it stands), how many, about, amounts, begins, codes, how many codes -/
abbrev LD : Type := Int32 × Nat × (Nat → Nat) × (Nat → Nat) × (Nat → Nat) × (Nat → Int32) × Nat
def Lw (G : AH) (l : Nat) (D : LD) : Prop := G.1 l = some (oB 2 [.ref (l + 1), .ref (l + 2), .ref (l + 3), .ref (l + 4), .int (nI D.2.2.2.2.2.2), .int D.1, .ref (l + 5)]) ∧ G.1 (l + 1) = some (aI 12 (fun i => nI (D.2.2.1 i))) ∧ G.1 (l + 2) = some (aI 12 (fun i => nI (D.2.2.2.1 i))) ∧ G.1 (l + 3) = some (aI 13 (fun i => nI (D.2.2.2.2.1 i))) ∧ G.1 (l + 4) = some (aI 400 D.2.2.2.2.2.1) ∧ ∃ t : Nat → Int32, G.1 (l + 5) = some (aI 3 t)
def WFD (D : LD) : Prop := ((D.1 = -1 ∧ D.2.1 = 0) ∨ D.1 = nI D.2.1) ∧ D.2.1 ≤ 12 ∧ (∀ i, i < D.2.1 → D.2.2.1 i < 3) ∧ (∀ i, i < D.2.1 → D.2.2.2.1 i ≤ 20) ∧ (∀ i, i < D.2.1 → D.2.2.2.2.1 (i + 1) ≤ 400) ∧ (∀ i, i < D.2.1 → D.2.2.2.2.1 i ≤ D.2.2.2.2.1 (i + 1)) ∧ D.2.2.2.2.2.2 ≤ 400
def partV (T : ST) (k : Nat) (c : Int32) : Int32 := if c = -1 then nI k else if c = -2 then nI (T 1 k) else if c = -3 then nI (T 2 k) else if c = -4 then nI (T 3 k) else if c = -5 then nI (thereN T) else if c = -6 then nI (T 12 3 % 182) else nI (T 7 (T 1 k))
def atomN (T : ST) (k : Nat) (c x : Int32) : Nat := if c = -8 then b2 (T 4 k = thereN T) else if c = -9 then b2 (T 1 k = T 0 k) else if c = -11 then b2 (nI 0 < x) else b2 (x < nI 0)
theorem c_part {E : EV} {a : Nat} {T : ST} {sd : Int32} {G : AH} {k : Nat} {c : Int32} (hI : Isl G a T sd) (hB : Bd T) (hk : k < 12) : Cu E 2 kX2_part [.ref a, .int (nI k), .int c] G (.int (partV T k c)) G := by
  obtain ⟨i0, i1, i2, i3, i4, i5, i6, i7, i8, i9, i10, i11, i12, i13⟩ := id hI
  obtain ⟨b0, b1, b2_, b3, b4, b5, b6, b7, b8, b9, b10, b11, b12, b13, b14, b15, b16, b17, b18, b19⟩ := id hB
  have hr := b2_ k
  refine Ct.intro rfl (by decide) [.ref a, .int (nI k), .int c] (by simp [Value.category]) (Nat.le_of_ble_eq_true rfl) rfl ?_
  refine w_iload_n dX2_part_0 rfl ?_
  by_cases s_1_0 : c = (-6)
  · refine w_tabIn (tgt := 74) (off := 73) dX2_part_1 (by rw [s_1_0]; decide) (by rw [s_1_0]; decide) (by rw [s_1_0]; rfl) (by decide) ?_
    refine w_aload_n dX2_part_74 rfl ?_
    refine w_getf dX2_part_75 fl_X2_74 (by first | assumption | exact gs_at | (rw [gs_ne (by omega)]; (first | assumption | exact gs_at | (rw [gs_ne (by omega)]; (first | assumption | exact gs_at | (rw [gs_ne (by omega)]; (first | assumption | exact gs_at | (rw [gs_ne (by omega)]; (first | assumption | exact gs_at))))))))) rfl ?_
    refine w_sipush (v := nI 182) dX2_part_78 (by decide) ?_
    first | refine w_iremN (by omega) (by omega) (by omega) dX2_part_81 ?_ | refine w_irem dX2_part_81 (by decide) ?_
    refine w_iret dX2_part_82 rfl (Nat.le_of_ble_eq_true rfl) (Nat.le_of_ble_eq_true rfl) ?_
    refine ⟨?_, rfl⟩
    unfold partV
    rw [s_1_0]; rfl
  ·
    by_cases s_1_1 : c = (-5)
    · refine w_tabIn (tgt := 69) (off := 68) dX2_part_1 (by rw [s_1_1]; decide) (by rw [s_1_1]; decide) (by rw [s_1_1]; rfl) (by decide) ?_
      refine w_aload_n dX2_part_69 rfl ?_
      refine wV0u dX2_part_70 lk_X2_70 rfl (by first | assumption | exact gs_at | (rw [gs_ne (by omega)]; (first | assumption | exact gs_at | (rw [gs_ne (by omega)]; (first | assumption | exact gs_at | (rw [gs_ne (by omega)]; (first | assumption | exact gs_at | (rw [gs_ne (by omega)]; (first | assumption | exact gs_at))))))))) rfl rfl (c_there hI hB) (Nat.le_of_ble_eq_true rfl) (Nat.le_of_ble_eq_true rfl) (Nat.le_of_ble_eq_true rfl) (Nat.le_of_ble_eq_true rfl) ?_
      refine w_iret dX2_part_73 rfl (Nat.le_of_ble_eq_true rfl) (Nat.le_of_ble_eq_true rfl) ?_
      refine ⟨?_, rfl⟩
      unfold partV
      rw [s_1_1]; rfl
    ·
      by_cases s_1_2 : c = (-4)
      · refine w_tabIn (tgt := 60) (off := 59) dX2_part_1 (by rw [s_1_2]; decide) (by rw [s_1_2]; decide) (by rw [s_1_2]; rfl) (by decide) ?_
        refine w_aload_n dX2_part_60 rfl ?_
        refine w_getf dX2_part_61 fl_X2_67 (by first | assumption | exact gs_at | (rw [gs_ne (by omega)]; (first | assumption | exact gs_at | (rw [gs_ne (by omega)]; (first | assumption | exact gs_at | (rw [gs_ne (by omega)]; (first | assumption | exact gs_at | (rw [gs_ne (by omega)]; (first | assumption | exact gs_at))))))))) rfl ?_
        refine w_iload_n dX2_part_64 rfl ?_
        refine wN2u dX2_part_65 lk_X2_42 rfl (c_atN (by first | assumption | exact gs_at | (rw [gs_ne (by omega)]; (first | assumption | exact gs_at | (rw [gs_ne (by omega)]; (first | assumption | exact gs_at | (rw [gs_ne (by omega)]; (first | assumption | exact gs_at | (rw [gs_ne (by omega)]; (first | assumption | exact gs_at))))))))) (by omega) (by decide)) (Nat.le_of_ble_eq_true rfl) (Nat.le_of_ble_eq_true rfl) (Nat.le_of_ble_eq_true rfl) (Nat.le_of_ble_eq_true rfl) ?_
        refine w_iret dX2_part_68 rfl (Nat.le_of_ble_eq_true rfl) (Nat.le_of_ble_eq_true rfl) ?_
        refine ⟨?_, rfl⟩
        unfold partV
        rw [s_1_2]; rfl
      ·
        by_cases s_1_3 : c = (-3)
        · refine w_tabIn (tgt := 51) (off := 50) dX2_part_1 (by rw [s_1_3]; decide) (by rw [s_1_3]; decide) (by rw [s_1_3]; rfl) (by decide) ?_
          refine w_aload_n dX2_part_51 rfl ?_
          refine w_getf dX2_part_52 fl_X2_64 (by first | assumption | exact gs_at | (rw [gs_ne (by omega)]; (first | assumption | exact gs_at | (rw [gs_ne (by omega)]; (first | assumption | exact gs_at | (rw [gs_ne (by omega)]; (first | assumption | exact gs_at | (rw [gs_ne (by omega)]; (first | assumption | exact gs_at))))))))) rfl ?_
          refine w_iload_n dX2_part_55 rfl ?_
          refine wN2u dX2_part_56 lk_X2_42 rfl (c_atN (by first | assumption | exact gs_at | (rw [gs_ne (by omega)]; (first | assumption | exact gs_at | (rw [gs_ne (by omega)]; (first | assumption | exact gs_at | (rw [gs_ne (by omega)]; (first | assumption | exact gs_at | (rw [gs_ne (by omega)]; (first | assumption | exact gs_at))))))))) (by omega) (by decide)) (Nat.le_of_ble_eq_true rfl) (Nat.le_of_ble_eq_true rfl) (Nat.le_of_ble_eq_true rfl) (Nat.le_of_ble_eq_true rfl) ?_
          refine w_iret dX2_part_59 rfl (Nat.le_of_ble_eq_true rfl) (Nat.le_of_ble_eq_true rfl) ?_
          refine ⟨?_, rfl⟩
          unfold partV
          rw [s_1_3]; rfl
        ·
          by_cases s_1_4 : c = (-2)
          · refine w_tabIn (tgt := 42) (off := 41) dX2_part_1 (by rw [s_1_4]; decide) (by rw [s_1_4]; decide) (by rw [s_1_4]; rfl) (by decide) ?_
            refine w_aload_n dX2_part_42 rfl ?_
            refine w_getf dX2_part_43 fl_X2_59 (by first | assumption | exact gs_at | (rw [gs_ne (by omega)]; (first | assumption | exact gs_at | (rw [gs_ne (by omega)]; (first | assumption | exact gs_at | (rw [gs_ne (by omega)]; (first | assumption | exact gs_at | (rw [gs_ne (by omega)]; (first | assumption | exact gs_at))))))))) rfl ?_
            refine w_iload_n dX2_part_46 rfl ?_
            refine wN2u dX2_part_47 lk_X2_42 rfl (c_atN (by first | assumption | exact gs_at | (rw [gs_ne (by omega)]; (first | assumption | exact gs_at | (rw [gs_ne (by omega)]; (first | assumption | exact gs_at | (rw [gs_ne (by omega)]; (first | assumption | exact gs_at | (rw [gs_ne (by omega)]; (first | assumption | exact gs_at))))))))) (by omega) (by decide)) (Nat.le_of_ble_eq_true rfl) (Nat.le_of_ble_eq_true rfl) (Nat.le_of_ble_eq_true rfl) (Nat.le_of_ble_eq_true rfl) ?_
            refine w_iret dX2_part_50 rfl (Nat.le_of_ble_eq_true rfl) (Nat.le_of_ble_eq_true rfl) ?_
            refine ⟨?_, rfl⟩
            unfold partV
            rw [s_1_4]; rfl
          ·
            by_cases s_1_5 : c = (-1)
            · refine w_tabIn (tgt := 40) (off := 39) dX2_part_1 (by rw [s_1_5]; decide) (by rw [s_1_5]; decide) (by rw [s_1_5]; rfl) (by decide) ?_
              refine w_iload_n dX2_part_40 rfl ?_
              refine w_iret dX2_part_41 rfl (Nat.le_of_ble_eq_true rfl) (Nat.le_of_ble_eq_true rfl) ?_
              refine ⟨?_, rfl⟩
              unfold partV
              rw [if_pos s_1_5]
            ·
              refine w_tabOut (tgt := 83) dX2_part_1 (by have : ¬ Int32.toInt (c) = -6 := lv_neT s_1_0 rfl; have : ¬ Int32.toInt (c) = -5 := lv_neT s_1_1 rfl; have : ¬ Int32.toInt (c) = -4 := lv_neT s_1_2 rfl; have : ¬ Int32.toInt (c) = -3 := lv_neT s_1_3 rfl; have : ¬ Int32.toInt (c) = -2 := lv_neT s_1_4 rfl; have : ¬ Int32.toInt (c) = -1 := lv_neT s_1_5 rfl; omega) (by decide) ?_
              refine w_aload_n dX2_part_83 rfl ?_
              refine w_getf dX2_part_84 fl_X2_77 (by first | assumption | exact gs_at | (rw [gs_ne (by omega)]; (first | assumption | exact gs_at | (rw [gs_ne (by omega)]; (first | assumption | exact gs_at | (rw [gs_ne (by omega)]; (first | assumption | exact gs_at | (rw [gs_ne (by omega)]; (first | assumption | exact gs_at))))))))) rfl ?_
              refine w_aload_n dX2_part_87 rfl ?_
              refine w_getf dX2_part_88 fl_X2_59 (by first | assumption | exact gs_at | (rw [gs_ne (by omega)]; (first | assumption | exact gs_at | (rw [gs_ne (by omega)]; (first | assumption | exact gs_at | (rw [gs_ne (by omega)]; (first | assumption | exact gs_at | (rw [gs_ne (by omega)]; (first | assumption | exact gs_at))))))))) rfl ?_
              refine w_iload_n dX2_part_91 rfl ?_
              refine wN2u dX2_part_92 lk_X2_42 rfl (c_atN (by first | assumption | exact gs_at | (rw [gs_ne (by omega)]; (first | assumption | exact gs_at | (rw [gs_ne (by omega)]; (first | assumption | exact gs_at | (rw [gs_ne (by omega)]; (first | assumption | exact gs_at | (rw [gs_ne (by omega)]; (first | assumption | exact gs_at))))))))) (by omega) (by decide)) (Nat.le_of_ble_eq_true rfl) (Nat.le_of_ble_eq_true rfl) (Nat.le_of_ble_eq_true rfl) (Nat.le_of_ble_eq_true rfl) ?_
              refine wN2u dX2_part_95 lk_X2_42 rfl (c_atN (by first | assumption | exact gs_at | (rw [gs_ne (by omega)]; (first | assumption | exact gs_at | (rw [gs_ne (by omega)]; (first | assumption | exact gs_at | (rw [gs_ne (by omega)]; (first | assumption | exact gs_at | (rw [gs_ne (by omega)]; (first | assumption | exact gs_at))))))))) (by omega) (by decide)) (Nat.le_of_ble_eq_true rfl) (Nat.le_of_ble_eq_true rfl) (Nat.le_of_ble_eq_true rfl) (Nat.le_of_ble_eq_true rfl) ?_
              refine w_iret dX2_part_98 rfl (Nat.le_of_ble_eq_true rfl) (Nat.le_of_ble_eq_true rfl) ?_
              refine ⟨?_, rfl⟩
              unfold partV
              rw [if_neg s_1_5, if_neg s_1_4, if_neg s_1_3, if_neg s_1_2, if_neg s_1_1, if_neg s_1_0]
theorem c_atom {E : EV} {a : Nat} {T : ST} {sd : Int32} {G : AH} {k : Nat} {c x : Int32} (hI : Isl G a T sd) (hB : Bd T) (hk : k < 12) : Cu E 2 kX2_atom [.ref a, .int (nI k), .int c, .int x] G (.int (nI (atomN T k c x))) G := by
  obtain ⟨i0, i1, i2, i3, i4, i5, i6, i7, i8, i9, i10, i11, i12, i13⟩ := id hI
  obtain ⟨b0, b1, b2_, b3, b4, b5, b6, b7, b8, b9, b10, b11, b12, b13, b14, b15, b16, b17, b18, b19⟩ := id hB
  have hr := b2_ k; have ho := b5 k; have hh := b1 k; have ht := there_le T
  refine Ct.intro rfl (by decide) [.ref a, .int (nI k), .int c, .int x] (by simp [Value.category]) (Nat.le_of_ble_eq_true rfl) rfl ?_
  refine w_iload_n dX2_atom_0 rfl ?_
  by_cases s_1_0 : c = (-11)
  · refine w_tabIn (tgt := 78) (off := 77) dX2_atom_1 (by rw [s_1_0]; decide) (by rw [s_1_0]; decide) (by rw [s_1_0]; rfl) (by decide) ?_
    refine w_iload_n dX2_atom_78 rfl ?_
    refine w_ifN_le (tgt := 86) dX2_atom_79 (by decide) (fun c_79 => ?_) (fun c_79 => ?_)
    · try simp (disch := omega) only [nI_eq] at c_79
      refine w_iconst (v := nI 0) dX2_atom_86 (by decide) ?_
      refine w_zret dX2_atom_87 rfl rfl (Nat.le_of_ble_eq_true rfl) (Nat.le_of_ble_eq_true rfl) ?_
      refine ⟨?_, rfl⟩
      unfold atomN b2
      rw [if_neg (by rw [s_1_0]; decide), if_neg (by rw [s_1_0]; decide), if_pos s_1_0]
      first | rw [if_pos (Int32.not_le.mp c_79)] | rw [if_neg (Int32.not_lt.mpr c_79)]
    · try simp (disch := omega) only [nI_eq] at c_79
      refine w_iconst (v := nI 1) dX2_atom_82 (by decide) ?_
      refine w_goto (tgt := 87) dX2_atom_83 (by decide) ?_
      refine w_zret dX2_atom_87 rfl rfl (Nat.le_of_ble_eq_true rfl) (Nat.le_of_ble_eq_true rfl) ?_
      refine ⟨?_, rfl⟩
      unfold atomN b2
      rw [if_neg (by rw [s_1_0]; decide), if_neg (by rw [s_1_0]; decide), if_pos s_1_0]
      first | rw [if_pos (Int32.not_le.mp c_79)] | rw [if_neg (Int32.not_lt.mpr c_79)]
  ·
    by_cases s_1_1 : c = (-10)
    · refine w_tabIn (tgt := 88) (off := 87) dX2_atom_1 (by rw [s_1_1]; decide) (by rw [s_1_1]; decide) (by rw [s_1_1]; rfl) (by decide) ?_
      refine w_iload_n dX2_atom_88 rfl ?_
      refine w_ifN_ge (tgt := 96) dX2_atom_89 (by decide) (fun c_89 => ?_) (fun c_89 => ?_)
      · try simp (disch := omega) only [nI_eq] at c_89
        refine w_iconst (v := nI 0) dX2_atom_96 (by decide) ?_
        refine w_zret dX2_atom_97 rfl rfl (Nat.le_of_ble_eq_true rfl) (Nat.le_of_ble_eq_true rfl) ?_
        refine ⟨?_, rfl⟩
        unfold atomN b2
        first | rw [if_neg s_1_3, if_neg s_1_2, if_neg s_1_0] | rw [if_neg (by rw [s_1_1]; decide), if_neg (by rw [s_1_1]; decide), if_neg (by rw [s_1_1]; decide)]
        first | rw [if_pos (Int32.not_le.mp c_89)] | rw [if_neg (Int32.not_lt.mpr c_89)]
      · try simp (disch := omega) only [nI_eq] at c_89
        refine w_iconst (v := nI 1) dX2_atom_92 (by decide) ?_
        refine w_goto (tgt := 97) dX2_atom_93 (by decide) ?_
        refine w_zret dX2_atom_97 rfl rfl (Nat.le_of_ble_eq_true rfl) (Nat.le_of_ble_eq_true rfl) ?_
        refine ⟨?_, rfl⟩
        unfold atomN b2
        first | rw [if_neg s_1_3, if_neg s_1_2, if_neg s_1_0] | rw [if_neg (by rw [s_1_1]; decide), if_neg (by rw [s_1_1]; decide), if_neg (by rw [s_1_1]; decide)]
        first | rw [if_pos (Int32.not_le.mp c_89)] | rw [if_neg (Int32.not_lt.mpr c_89)]
    ·
      by_cases s_1_2 : c = (-9)
      · refine w_tabIn (tgt := 53) (off := 52) dX2_atom_1 (by rw [s_1_2]; decide) (by rw [s_1_2]; decide) (by rw [s_1_2]; rfl) (by decide) ?_
        refine w_aload_n dX2_atom_53 rfl ?_
        refine w_getf dX2_atom_54 fl_X2_59 (by first | assumption | exact gs_at | (rw [gs_ne (by omega)]; (first | assumption | exact gs_at | (rw [gs_ne (by omega)]; (first | assumption | exact gs_at | (rw [gs_ne (by omega)]; (first | assumption | exact gs_at | (rw [gs_ne (by omega)]; (first | assumption | exact gs_at))))))))) rfl ?_
        refine w_iload_n dX2_atom_57 rfl ?_
        refine wN2u dX2_atom_58 lk_X2_42 rfl (c_atN (by first | assumption | exact gs_at | (rw [gs_ne (by omega)]; (first | assumption | exact gs_at | (rw [gs_ne (by omega)]; (first | assumption | exact gs_at | (rw [gs_ne (by omega)]; (first | assumption | exact gs_at | (rw [gs_ne (by omega)]; (first | assumption | exact gs_at))))))))) (by omega) (by decide)) (Nat.le_of_ble_eq_true rfl) (Nat.le_of_ble_eq_true rfl) (Nat.le_of_ble_eq_true rfl) (Nat.le_of_ble_eq_true rfl) ?_
        refine w_aload_n dX2_atom_61 rfl ?_
        refine w_getf dX2_atom_62 fl_X2_83 (by first | assumption | exact gs_at | (rw [gs_ne (by omega)]; (first | assumption | exact gs_at | (rw [gs_ne (by omega)]; (first | assumption | exact gs_at | (rw [gs_ne (by omega)]; (first | assumption | exact gs_at | (rw [gs_ne (by omega)]; (first | assumption | exact gs_at))))))))) rfl ?_
        refine w_iload_n dX2_atom_65 rfl ?_
        refine wN2u dX2_atom_66 lk_X2_42 rfl (c_atN (by first | assumption | exact gs_at | (rw [gs_ne (by omega)]; (first | assumption | exact gs_at | (rw [gs_ne (by omega)]; (first | assumption | exact gs_at | (rw [gs_ne (by omega)]; (first | assumption | exact gs_at | (rw [gs_ne (by omega)]; (first | assumption | exact gs_at))))))))) (by omega) (by decide)) (Nat.le_of_ble_eq_true rfl) (Nat.le_of_ble_eq_true rfl) (Nat.le_of_ble_eq_true rfl) (Nat.le_of_ble_eq_true rfl) ?_
        refine w_icmp_ne (tgt := 76) dX2_atom_69 (by decide) (fun c_69 => ?_) (fun c_69 => ?_)
        · try simp (disch := omega) only [nI_eq] at c_69
          refine w_iconst (v := nI 0) dX2_atom_76 (by decide) ?_
          refine w_zret dX2_atom_77 rfl rfl (Nat.le_of_ble_eq_true rfl) (Nat.le_of_ble_eq_true rfl) ?_
          refine ⟨?_, rfl⟩
          unfold atomN b2
          rw [if_neg (by rw [s_1_2]; decide), if_pos s_1_2]
          first | rw [if_pos c_69] | rw [if_neg c_69]
        · try simp (disch := omega) only [nI_eq] at c_69
          refine w_iconst (v := nI 1) dX2_atom_72 (by decide) ?_
          refine w_goto (tgt := 77) dX2_atom_73 (by decide) ?_
          refine w_zret dX2_atom_77 rfl rfl (Nat.le_of_ble_eq_true rfl) (Nat.le_of_ble_eq_true rfl) ?_
          refine ⟨?_, rfl⟩
          unfold atomN b2
          rw [if_neg (by rw [s_1_2]; decide), if_pos s_1_2]
          first | rw [if_pos c_69] | rw [if_neg c_69]
      ·
        by_cases s_1_3 : c = (-8)
        · refine w_tabIn (tgt := 32) (off := 31) dX2_atom_1 (by rw [s_1_3]; decide) (by rw [s_1_3]; decide) (by rw [s_1_3]; rfl) (by decide) ?_
          refine w_aload_n dX2_atom_32 rfl ?_
          refine w_getf dX2_atom_33 fl_X2_80 (by first | assumption | exact gs_at | (rw [gs_ne (by omega)]; (first | assumption | exact gs_at | (rw [gs_ne (by omega)]; (first | assumption | exact gs_at | (rw [gs_ne (by omega)]; (first | assumption | exact gs_at | (rw [gs_ne (by omega)]; (first | assumption | exact gs_at))))))))) rfl ?_
          refine w_iload_n dX2_atom_36 rfl ?_
          refine wN2u dX2_atom_37 lk_X2_42 rfl (c_atN (by first | assumption | exact gs_at | (rw [gs_ne (by omega)]; (first | assumption | exact gs_at | (rw [gs_ne (by omega)]; (first | assumption | exact gs_at | (rw [gs_ne (by omega)]; (first | assumption | exact gs_at | (rw [gs_ne (by omega)]; (first | assumption | exact gs_at))))))))) (by omega) (by decide)) (Nat.le_of_ble_eq_true rfl) (Nat.le_of_ble_eq_true rfl) (Nat.le_of_ble_eq_true rfl) (Nat.le_of_ble_eq_true rfl) ?_
          refine w_aload_n dX2_atom_40 rfl ?_
          refine wV0u dX2_atom_41 lk_X2_70 rfl (by first | assumption | exact gs_at | (rw [gs_ne (by omega)]; (first | assumption | exact gs_at | (rw [gs_ne (by omega)]; (first | assumption | exact gs_at | (rw [gs_ne (by omega)]; (first | assumption | exact gs_at | (rw [gs_ne (by omega)]; (first | assumption | exact gs_at))))))))) rfl rfl (c_there hI hB) (Nat.le_of_ble_eq_true rfl) (Nat.le_of_ble_eq_true rfl) (Nat.le_of_ble_eq_true rfl) (Nat.le_of_ble_eq_true rfl) ?_
          refine w_icmp_ne (tgt := 51) dX2_atom_44 (by decide) (fun c_44 => ?_) (fun c_44 => ?_)
          · try simp (disch := omega) only [nI_eq] at c_44
            refine w_iconst (v := nI 0) dX2_atom_51 (by decide) ?_
            refine w_zret dX2_atom_52 rfl rfl (Nat.le_of_ble_eq_true rfl) (Nat.le_of_ble_eq_true rfl) ?_
            refine ⟨?_, rfl⟩
            unfold atomN b2
            rw [if_pos s_1_3]
            first | rw [if_pos c_44] | rw [if_neg c_44]
          · try simp (disch := omega) only [nI_eq] at c_44
            refine w_iconst (v := nI 1) dX2_atom_47 (by decide) ?_
            refine w_goto (tgt := 52) dX2_atom_48 (by decide) ?_
            refine w_zret dX2_atom_52 rfl rfl (Nat.le_of_ble_eq_true rfl) (Nat.le_of_ble_eq_true rfl) ?_
            refine ⟨?_, rfl⟩
            unfold atomN b2
            rw [if_pos s_1_3]
            first | rw [if_pos c_44] | rw [if_neg c_44]
        ·
          refine w_tabOut (tgt := 88) dX2_atom_1 (by have : ¬ Int32.toInt (c) = -11 := lv_neT s_1_0 rfl; have : ¬ Int32.toInt (c) = -10 := lv_neT s_1_1 rfl; have : ¬ Int32.toInt (c) = -9 := lv_neT s_1_2 rfl; have : ¬ Int32.toInt (c) = -8 := lv_neT s_1_3 rfl; omega) (by decide) ?_
          refine w_iload_n dX2_atom_88 rfl ?_
          refine w_ifN_ge (tgt := 96) dX2_atom_89 (by decide) (fun c_89 => ?_) (fun c_89 => ?_)
          · try simp (disch := omega) only [nI_eq] at c_89
            refine w_iconst (v := nI 0) dX2_atom_96 (by decide) ?_
            refine w_zret dX2_atom_97 rfl rfl (Nat.le_of_ble_eq_true rfl) (Nat.le_of_ble_eq_true rfl) ?_
            refine ⟨?_, rfl⟩
            unfold atomN b2
            first | rw [if_neg s_1_3, if_neg s_1_2, if_neg s_1_0] | rw [if_neg (by rw [s_1_1]; decide), if_neg (by rw [s_1_1]; decide), if_neg (by rw [s_1_1]; decide)]
            first | rw [if_pos (Int32.not_le.mp c_89)] | rw [if_neg (Int32.not_lt.mpr c_89)]
          · try simp (disch := omega) only [nI_eq] at c_89
            refine w_iconst (v := nI 1) dX2_atom_92 (by decide) ?_
            refine w_goto (tgt := 97) dX2_atom_93 (by decide) ?_
            refine w_zret dX2_atom_97 rfl rfl (Nat.le_of_ble_eq_true rfl) (Nat.le_of_ble_eq_true rfl) ?_
            refine ⟨?_, rfl⟩
            unfold atomN b2
            first | rw [if_neg s_1_3, if_neg s_1_2, if_neg s_1_0] | rw [if_neg (by rw [s_1_1]; decide), if_neg (by rw [s_1_1]; decide), if_neg (by rw [s_1_1]; decide)]
            first | rw [if_pos (Int32.not_le.mp c_89)] | rw [if_neg (Int32.not_lt.mpr c_89)]
