/-! the object: what is ahead, what is remembered -/
theorem in_N {x : Int32} {n : Nat} (hn : n < 2 ^ 31) (h : ¬ x < nI 0 ∧ x < nI n) : ∃ j, j < n ∧ x = nI j := by
  rcases pk_ix x hn with h1 | h1 | h1
  · exact absurd h1 h.1
  · exact absurd h.2 (Int32.not_lt.mpr h1)
  · exact h1
theorem in_L {x : Int32} {a n : Nat} (hn : n < 2 ^ 30) (ha : a < 2 ^ 30) (h : ¬ x < nI a ∧ x ≤ nI n) : ∃ j, a ≤ j ∧ j ≤ n ∧ x = nI j := by
  rcases pk_ix x (show n + 1 < 2 ^ 31 by omega) with h1 | h1 | ⟨j, h1, h2⟩
  · refine absurd (Int32.lt_of_lt_of_le h1 ?_) h.1
    have := (nI_leI (a := 0) (b := a) (by omega) (by omega)).mpr (Nat.zero_le _)
    exact this
  · have h3 := Int32.le_trans h1 h.2
    rw [nI_leI (by omega) (by omega)] at h3
    omega
  · subst h2
    refine ⟨j, ?_, by omega, rfl⟩
    have := h.1
    rw [nI_ltI (by omega) (by omega)] at this
    omega
def Pk (ok : Prop) (X : String) (S : AH → Prop) (post : OC → AH → Prop) : OC → AH → Prop := fun o G1 => (¬ ok ∧ o = .inr X ∧ S G1) ∨ (ok ∧ post o G1)
def Pr (v : Int32) (S : AH → Prop) : OC → AH → Prop := fun o G1 => o = .inl (some (.int v)) ∧ S G1
def adv (D : LD) (st : Nat) (T : ST) (sd : Int32) : Nat → ST × Int32 | 0 => (T, sd) | n + 1 => (dayT D st (adv D st T sd n).1 (adv D st T sd n).2, dayS D st (adv D st T sd n).1 (adv D st T sd n).2)
theorem Bd.adv {D : LD} {st : Nat} {T : ST} {sd : Int32} (hB : Bd T) : ∀ n, Bd (adv D st T sd n).1
  | 0 => hB
  | n + 1 => (Bd.adv hB n).day st _
theorem leavT_0 (T : ST) : leavT T 12 0 = T 12 0 := leavT_12 T (by decide) (by decide) (by decide)
theorem dayT_0 (D : LD) (st : Nat) (T : ST) (sd : Int32) : dayT D st T sd 12 0 = T 12 0 := by
  unfold dayT
  rw [tu_nk _ _ _ _ (by decide)]
  split
  · rw [leavT_0, midT_12]
  · rw [midT_12]
theorem adv_0 (D : LD) (st : Nat) (T : ST) (sd : Int32) : ∀ n, (adv D st T sd n).1 12 0 = T 12 0
  | 0 => rfl
  | n + 1 => (dayT_0 D st _ _).trans (adv_0 D st T sd n)
def seekV (p : Nat → Prop) [DecidablePred p] (v : Nat → Int32) : Nat → Nat → Int32 | 0, _ => -1 | k + 1, n => if p n then v n else seekV p v k (n + 1)
def lowV (s : Nat) : Int32 := seekV (fun i => s / 2 ^ i % 2 = 1) nI 12 0
def smN (T2 T : ST) : Nat → Nat | 0 => 1 | i + 1 => if smN T2 T i = 1 ∧ T2 1 i = T 1 i then 1 else 0
theorem smN_01 (T2 T : ST) : ∀ i, smN T2 T i = 0 ∨ smN T2 T i = 1
  | 0 => Or.inr rfl
  | i + 1 => by rw [smN]; split; exact Or.inr rfl; exact Or.inl rfl
theorem lp_lowest {E : EV} {Q : OC → AH → Prop} {G : AH} {s : Nat} (hs : s < 2 ^ 31) (hQ : Q (.inl (some (.int (lowV s)))) G) : ∀ (k i : Nat), 12 - i < k → i ≤ 12 → seekV (fun i => s / 2 ^ i % 2 = 1) nI (12 - i) i = lowV s → Wp E 1 0 0 kX7_lowest Q G (0, 0) 2 [.int (nI s), .int (nI i)] [] := by
  intro k
  induction k with
  | zero => intro i h; exact absurd h (by omega)
  | succ k ih =>
    intro i hk hi
    intro hv
    refine w_iload_n dX7_lowest_2 rfl ?_
    refine w_bipush (v := nI 12) dX7_lowest_3 (by decide) ?_
    refine w_icmp_ge (tgt := 24) dX7_lowest_5 (by decide) (fun c_5 => ?_) (fun c_5 => ?_)
    · try simp (disch := omega) only [nI_b2, Decidable.not_not, nI_ltI, nI_leI, nI_eq, ge_iff_le, gt_iff_lt, ne_eq, Nat.not_lt, Nat.not_le] at c_5
      have e : i = 12 := by omega
      subst e
      refine w_iconst (v := (-1)) dX7_lowest_24 (by decide) ?_
      refine w_iret dX7_lowest_25 rfl (Nat.le_of_ble_eq_true rfl) (Nat.le_of_ble_eq_true rfl) ?_
      rw [← hv] at hQ
      exact hQ
    · try simp (disch := omega) only [nI_b2, Decidable.not_not, nI_ltI, nI_leI, nI_eq, ge_iff_le, gt_iff_lt, ne_eq, Nat.not_lt, Nat.not_le] at c_5
      rw [show 12 - i = (12 - (i + 1)) + 1 by omega, seekV] at hv
      refine w_iload_n dX7_lowest_8 rfl ?_
      refine w_iload_n dX7_lowest_9 rfl ?_
      refine w_ishr dX7_lowest_10 ?_
      rw [nI_shr (by omega) (by omega)]
      refine w_iconst (v := nI 1) dX7_lowest_11 (by decide) ?_
      first | refine w_iandN dX7_lowest_12 ?_ | refine w_iand dX7_lowest_12 ?_
      rw [Nat.and_one_is_mod]
      have hm := Nat.mod_lt (s / 2 ^ i) (show 0 < 2 by decide)
      refine w_ifN_eq (tgt := 18) dX7_lowest_13 (by decide) (fun c_13 => ?_) (fun c_13 => ?_)
      · try simp (disch := omega) only [nI_b2, Decidable.not_not, nI_ltI, nI_leI, nI_eq, ge_iff_le, gt_iff_lt, ne_eq, Nat.not_lt, Nat.not_le] at c_13
        rw [if_neg (by omega)] at hv
        first | refine w_iinc_1 dX7_lowest_18 (nI_inc _) rfl ?_ | refine w_iinc_1 dX7_lowest_18 rfl rfl ?_
        refine w_goto (tgt := 2) dX7_lowest_21 (by decide) ?_
        exact ih (i + 1) (by omega) (by omega) hv
      · try simp (disch := omega) only [nI_b2, Decidable.not_not, nI_ltI, nI_leI, nI_eq, ge_iff_le, gt_iff_lt, ne_eq, Nat.not_lt, Nat.not_le] at c_13
        rw [if_pos (by omega)] at hv
        refine w_iload_n dX7_lowest_16 rfl ?_
        refine w_iret dX7_lowest_17 rfl (Nat.le_of_ble_eq_true rfl) (Nat.le_of_ble_eq_true rfl) ?_
        rw [← hv] at hQ
        exact hQ
theorem c_lowest {E : EV} {G : AH} {s : Nat} (hs : s < 2 ^ 31) : Cu E 1 kX7_lowest [.int (nI s)] G (.int (lowV s)) G := by
  refine Ct.intro rfl (by decide) [.int (nI s), .float 0] (by simp [Value.category]) (Nat.le_of_ble_eq_true rfl) rfl ?_
  refine w_iconst (v := nI 0) dX7_lowest_0 (by decide) ?_
  refine w_istore_1 dX7_lowest_1 rfl ?_
  exact lp_lowest hs ⟨rfl, rfl⟩ 13 0 (by omega) (by omega) rfl
theorem lp_same {E : EV} {Q : OC → AH → Prop} {G : AH} {B tn im nw rm ru sp : Nat} {f : Nat → Nat} {wb sd si : Int32} {T Ti : ST} {D Di : LD} {P : Nat → ST × Int32} {T2 : ST} {s2 : Int32} (hH : HI G B tn f wb T sd D im Ti si Di nw rm P ru sp) (hJ : Isl G (B + 23) T2 s2) (hBJ : Bd T2) (hQ : Q (.inl (some (.int (nI (smN T2 T (T 12 0)))))) G) : ∀ (k i : Nat), T 12 0 - i < k → i ≤ T 12 0 → Wp E 2 0 0 kX7_sameRooms Q G (0, 0) 4 [.ref B, .int (nI (smN T2 T i)), .int (nI i)] [] := by
  obtain ⟨hB, ⟨htn, him, hnw, hrm⟩, hT, hRd, ⟨hI, hBd⟩, hS, ⟨hL, hD, hSp, hrs⟩, ⟨hIi, hBi, hLi, hDi⟩, ⟨hPa, hPi⟩, ⟨⟨we, hwe⟩, hSm, hSv, ⟨od, hod⟩⟩⟩ := id hH; obtain ⟨⟨_, _, _, _, _, _, gS0⟩, _⟩ := id hS
  obtain ⟨i0, i1, i2, i3, i4, i5, i6, i7, i8, i9, i10, i11, i12, i13⟩ := id hI
  obtain ⟨b0, b1, b2_, b3, b4, b5, b6, b7, b8, b9, b10, b11, b12, b13, b14, b15, b16, b17, b18, b19⟩ := id hBd
  have hls := HI.ls hH
  have hla : ru + 6 ≤ B + 9 ∨ B + 9 + 14 ≤ ru := by omega
  have hlb : ru + 6 ≤ B + 23 ∨ B + 23 + 14 ≤ ru := by omega
  obtain ⟨j0, j1, j2, j3, j4, j5, j6, j7, j8, j9, j10, j11, j12, j13⟩ := id hJ
  have q2 := hBJ.2.2.1
  intro k
  induction k with
  | zero => intro i h; exact absurd h (by omega)
  | succ k ih =>
    intro i hk hi
    refine w_iload_n dX7_sameRooms_4 rfl ?_
    refine w_aload_n dX7_sameRooms_5 rfl ?_
    refine w_getf dX7_sameRooms_6 fl_X7_37 (by first | assumption | exact gs_at | (rw [gs_ne (by omega)]; (first | assumption | exact gs_at | (rw [gs_ne (by omega)]; (first | assumption | exact gs_at | (rw [gs_ne (by omega)]; (first | assumption | exact gs_at | (rw [gs_ne (by omega)]; (first | assumption | exact gs_at))))))))) rfl ?_
    refine w_getf dX7_sameRooms_9 fl_X7_242 (by first | assumption | exact gs_at | (rw [gs_ne (by omega)]; (first | assumption | exact gs_at | (rw [gs_ne (by omega)]; (first | assumption | exact gs_at | (rw [gs_ne (by omega)]; (first | assumption | exact gs_at | (rw [gs_ne (by omega)]; (first | assumption | exact gs_at))))))))) rfl ?_
    refine w_icmp_ge (tgt := 56) dX7_sameRooms_12 (by decide) (fun c_12 => ?_) (fun c_12 => ?_)
    · try simp (disch := omega) only [nI_b2, Decidable.not_not, nI_ltI, nI_leI, nI_eq, ge_iff_le, gt_iff_lt, ne_eq, Nat.not_lt, Nat.not_le] at c_12
      refine w_iload_n dX7_sameRooms_56 rfl ?_
      refine w_zret dX7_sameRooms_57 rfl (show narrow .boolean (.int (nI (smN T2 T i))) = _ by rcases smN_01 T2 T i with h | h <;> rw [h] <;> rfl) (Nat.le_of_ble_eq_true rfl) (Nat.le_of_ble_eq_true rfl) ?_
      rw [show i = T 12 0 by omega]
      exact hQ
    · try simp (disch := omega) only [nI_b2, Decidable.not_not, nI_ltI, nI_leI, nI_eq, ge_iff_le, gt_iff_lt, ne_eq, Nat.not_lt, Nat.not_le] at c_12
      have hsm := smN_01 T2 T i
      have := b2_ i; have := q2 i
      refine w_iload_n dX7_sameRooms_15 rfl ?_
      refine w_ifN_eq (tgt := 48) dX7_sameRooms_16 (by decide) (fun c_16 => ?_) (fun c_16 => ?_)
      · try simp (disch := omega) only [nI_b2, Decidable.not_not, nI_ltI, nI_leI, nI_eq, ge_iff_le, gt_iff_lt, ne_eq, Nat.not_lt, Nat.not_le] at c_16
        refine w_iconst (v := nI 0) dX7_sameRooms_48 (by decide) ?_
        refine w_istore_1 dX7_sameRooms_49 rfl ?_
        first | refine w_iinc_2 dX7_sameRooms_50 (nI_inc _) rfl ?_ | refine w_iinc_2 dX7_sameRooms_50 rfl rfl ?_
        refine w_goto (tgt := 4) dX7_sameRooms_53 (by decide) ?_
        have hI1 := ih (i + 1) (by omega) (by omega)
        rw [smN] at hI1
        first
          | (rw [if_neg (by omega)] at hI1; exact hI1)
          | (rw [if_pos (by omega)] at hI1; exact hI1)
      · try simp (disch := omega) only [nI_b2, Decidable.not_not, nI_ltI, nI_leI, nI_eq, ge_iff_le, gt_iff_lt, ne_eq, Nat.not_lt, Nat.not_le] at c_16
        refine w_aload_n dX7_sameRooms_19 rfl ?_
        refine w_getf dX7_sameRooms_20 fl_X7_41 (by first | assumption | exact gs_at | (rw [gs_ne (by omega)]; (first | assumption | exact gs_at | (rw [gs_ne (by omega)]; (first | assumption | exact gs_at | (rw [gs_ne (by omega)]; (first | assumption | exact gs_at | (rw [gs_ne (by omega)]; (first | assumption | exact gs_at))))))))) rfl ?_
        refine w_getf dX7_sameRooms_23 fl_X7_134 (by first | assumption | exact gs_at | (rw [gs_ne (by omega)]; (first | assumption | exact gs_at | (rw [gs_ne (by omega)]; (first | assumption | exact gs_at | (rw [gs_ne (by omega)]; (first | assumption | exact gs_at | (rw [gs_ne (by omega)]; (first | assumption | exact gs_at))))))))) rfl ?_
        refine w_iload_n dX7_sameRooms_26 rfl ?_
        refine wS2u dX7_sameRooms_27 lk_X7_137 rfl (c_atN (f := fun i => nI (T2 1 i)) j2 (by omega) (by decide)) (Nat.le_of_ble_eq_true rfl) (Nat.le_of_ble_eq_true rfl) (Nat.le_of_ble_eq_true rfl) (Nat.le_of_ble_eq_true rfl) ?_
        refine w_aload_n dX7_sameRooms_30 rfl ?_
        refine w_getf dX7_sameRooms_31 fl_X7_37 (by first | assumption | exact gs_at | (rw [gs_ne (by omega)]; (first | assumption | exact gs_at | (rw [gs_ne (by omega)]; (first | assumption | exact gs_at | (rw [gs_ne (by omega)]; (first | assumption | exact gs_at | (rw [gs_ne (by omega)]; (first | assumption | exact gs_at))))))))) rfl ?_
        refine w_getf dX7_sameRooms_34 fl_X7_134 (by first | assumption | exact gs_at | (rw [gs_ne (by omega)]; (first | assumption | exact gs_at | (rw [gs_ne (by omega)]; (first | assumption | exact gs_at | (rw [gs_ne (by omega)]; (first | assumption | exact gs_at | (rw [gs_ne (by omega)]; (first | assumption | exact gs_at))))))))) rfl ?_
        refine w_iload_n dX7_sameRooms_37 rfl ?_
        refine wS2u dX7_sameRooms_38 lk_X7_137 rfl (c_atN (f := fun i => nI (T 1 i)) i2 (by omega) (by decide)) (Nat.le_of_ble_eq_true rfl) (Nat.le_of_ble_eq_true rfl) (Nat.le_of_ble_eq_true rfl) (Nat.le_of_ble_eq_true rfl) ?_
        refine w_icmp_ne (tgt := 48) dX7_sameRooms_41 (by decide) (fun c_41 => ?_) (fun c_41 => ?_)
        · try simp (disch := omega) only [nI_b2, Decidable.not_not, nI_ltI, nI_leI, nI_eq, ge_iff_le, gt_iff_lt, ne_eq, Nat.not_lt, Nat.not_le] at c_41
          refine w_iconst (v := nI 0) dX7_sameRooms_48 (by decide) ?_
          refine w_istore_1 dX7_sameRooms_49 rfl ?_
          first | refine w_iinc_2 dX7_sameRooms_50 (nI_inc _) rfl ?_ | refine w_iinc_2 dX7_sameRooms_50 rfl rfl ?_
          refine w_goto (tgt := 4) dX7_sameRooms_53 (by decide) ?_
          have hI1 := ih (i + 1) (by omega) (by omega)
          rw [smN] at hI1
          first
            | (rw [if_neg (by omega)] at hI1; exact hI1)
            | (rw [if_pos (by omega)] at hI1; exact hI1)
        · try simp (disch := omega) only [nI_b2, Decidable.not_not, nI_ltI, nI_leI, nI_eq, ge_iff_le, gt_iff_lt, ne_eq, Nat.not_lt, Nat.not_le] at c_41
          refine w_iconst (v := nI 1) dX7_sameRooms_44 (by decide) ?_
          refine w_goto (tgt := 49) dX7_sameRooms_45 (by decide) ?_
          refine w_istore_1 dX7_sameRooms_49 rfl ?_
          first | refine w_iinc_2 dX7_sameRooms_50 (nI_inc _) rfl ?_ | refine w_iinc_2 dX7_sameRooms_50 rfl rfl ?_
          refine w_goto (tgt := 4) dX7_sameRooms_53 (by decide) ?_
          have hI1 := ih (i + 1) (by omega) (by omega)
          rw [smN] at hI1
          first
            | (rw [if_neg (by omega)] at hI1; exact hI1)
            | (rw [if_pos (by omega)] at hI1; exact hI1)
theorem c_sameRooms {E : EV} {G : AH} {B tn im nw rm ru sp : Nat} {f : Nat → Nat} {wb sd si : Int32} {T Ti : ST} {D Di : LD} {P : Nat → ST × Int32} {T2 : ST} {s2 : Int32} (hH : HI G B tn f wb T sd D im Ti si Di nw rm P ru sp) (hJ : Isl G (B + 23) T2 s2) (hBJ : Bd T2) : Cu E 2 kX7_sameRooms [.ref B] G (.int (nI (smN T2 T (T 12 0)))) G := by
  refine Ct.intro rfl (by decide) [.ref B, .float 0, .float 0] (by simp [Value.category]) (Nat.le_of_ble_eq_true rfl) rfl ?_
  refine w_iconst (v := nI 1) dX7_sameRooms_0 (by decide) ?_
  refine w_istore_1 dX7_sameRooms_1 rfl ?_
  refine w_iconst (v := nI 0) dX7_sameRooms_2 (by decide) ?_
  refine w_istore_2 dX7_sameRooms_3 rfl ?_
  exact lp_same hH hJ hBJ ⟨rfl, rfl⟩ (T 12 0 + 1) 0 (by omega) (by omega)
/-- the scratch island holds what is ahead; all else is as it was -/
def HSc  (G0 G : AH) (B : Nat) (tn : Nat) (f : Nat → Nat) (wb : Int32) (T : ST) (sd : Int32) (D : LD) (im : Nat) (Ti : ST) (si : Int32) (Di : LD) (nw : Nat) (rm : Nat) (P : Nat → ST × Int32) (ru : Nat) (sp : Nat) (T2 : ST) (s2 : Int32) : Prop := HI G B tn f wb T sd D im Ti si Di nw rm P ru sp ∧ Isl G (B + 23) T2 s2 ∧ Bd T2 ∧ FH G0 G B
theorem HSc.x {G0 G : AH} {B tn im nw rm ru sp : Nat} {f : Nat → Nat} {wb sd si : Int32} {T Ti : ST} {D Di : LD} {P : Nat → ST × Int32} {T2 : ST} {s2 : Int32} (h : HSc G0 G B tn f wb T sd D im Ti si Di nw rm P ru sp (T2) (s2)) : HI G B tn f wb T sd D im Ti si Di nw rm P ru sp ∧ FH G0 G B := ⟨h.1, h.2.2.2⟩
theorem HSc.copy {G0 G1 : AH} {B tn im nw rm ru sp : Nat} {f : Nat → Nat} {wb sd si : Int32} {T Ti : ST} {D Di : LD} {P : Nat → ST × Int32} (hH : HI G0 B tn f wb T sd D im Ti si Di nw rm P ru sp) (hJ : Isl G1 (B + 23) T sd) (hF : Fr G0 G1 (B + 23)) : HSc G0 G1 B tn f wb T sd D im Ti si Di nw rm P ru sp (T) (sd) := ⟨hH.scr hJ.g hF, hJ, hH.2.2.2.2.1.2, hF.toH (by omega) (by omega)⟩
theorem HSc.day {G0 G G1 : AH} {B tn im nw rm ru sp : Nat} {f : Nat → Nat} {wb sd si : Int32} {T Ti : ST} {D Di : LD} {P : Nat → ST × Int32} {T2 : ST} {s2 : Int32} {st : Nat} (h : HSc G0 G B tn f wb T sd D im Ti si Di nw rm P ru sp (T2) (s2)) (hJ : Isl G1 (B + 23) (dayT D st T2 s2) (dayS D st T2 s2)) (hL : Lw G1 ru D) (hF : Fr2 G G1 (B + 23) ru) : HSc G0 G1 B tn f wb T sd D im Ti si Di nw rm P ru sp (dayT D st T2 s2) (dayS D st T2 s2) := by
  have hls := h.1.ls
  exact ⟨h.1.day2 hJ.g hL hF, hJ, h.2.2.1.day st s2, h.2.2.2.tr (hF.toH (by omega) (by omega) (by omega) (by omega))⟩
theorem lp_goAhead {E : EV} {Q : OC → AH → Prop} {G0 : AH} {B tn im nw rm ru sp : Nat} {f : Nat → Nat} {wb sd si : Int32} {T Ti : ST} {D Di : LD} {P : Nat → ST × Int32} {n : Nat} (hn : n ≤ 400) (hQ : ∀ G1, HSc G0 G1 B tn f wb T sd D im Ti si Di nw rm P ru sp ((adv D 0 T sd n).1) ((adv D 0 T sd n).2) → Q (.inl none) G1) : ∀ (k i : Nat) (G : AH), n - i < k → i ≤ n → HSc G0 G B tn f wb T sd D im Ti si Di nw rm P ru sp ((adv D 0 T sd i).1) ((adv D 0 T sd i).2) → Wp E 7 0 0 kX7_goAhead Q G (0, 0) 13 [.ref B, .int (nI n), .int (nI i)] [] := by
  intro k
  induction k with
  | zero => intro i G h; exact absurd h (by omega)
  | succ k ih =>
    intro i G hk hi hS9
    obtain ⟨hH, hJ, hBJ, hFH⟩ := id hS9; have hJ0 := hJ.1
    obtain ⟨hB, ⟨htn, him, hnw, hrm⟩, hT, hRd, ⟨hI, hBd⟩, hS, ⟨hL, hD, hSp, hrs⟩, ⟨hIi, hBi, hLi, hDi⟩, ⟨hPa, hPi⟩, ⟨⟨we, hwe⟩, hSm, hSv, ⟨od, hod⟩⟩⟩ := id hH; obtain ⟨⟨_, _, _, _, _, _, gS0⟩, _⟩ := id hS
    have hls := HI.ls hH
    have hlb : ru + 6 ≤ B + 23 ∨ B + 23 + 14 ≤ ru := by omega
    refine w_iload_n dX7_goAhead_13 rfl ?_
    refine w_iload_n dX7_goAhead_14 rfl ?_
    refine w_icmp_ge (tgt := 37) dX7_goAhead_15 (by decide) (fun c_15 => ?_) (fun c_15 => ?_)
    · try simp (disch := omega) only [nI_b2, Decidable.not_not, nI_ltI, nI_leI, nI_eq, ge_iff_le, gt_iff_lt, ne_eq, Nat.not_lt, Nat.not_le] at c_15
      refine w_vret dX7_goAhead_37 rfl (Nat.le_of_ble_eq_true rfl) (Nat.le_of_ble_eq_true rfl) ?_
      rw [show i = n by omega] at hS9
      exact hQ G hS9
    · try simp (disch := omega) only [nI_b2, Decidable.not_not, nI_ltI, nI_leI, nI_eq, ge_iff_le, gt_iff_lt, ne_eq, Nat.not_lt, Nat.not_le] at c_15
      refine w_aload_n dX7_goAhead_18 rfl ?_
      refine w_getf dX7_goAhead_19 fl_X7_41 (by first | assumption | exact gs_at | (rw [gs_ne (by omega)]; (first | assumption | exact gs_at | (rw [gs_ne (by omega)]; (first | assumption | exact gs_at | (rw [gs_ne (by omega)]; (first | assumption | exact gs_at | (rw [gs_ne (by omega)]; (first | assumption | exact gs_at))))))))) rfl ?_
      refine w_aload_n dX7_goAhead_22 rfl ?_
      refine w_getf dX7_goAhead_23 fl_X7_47 (by first | assumption | exact gs_at | (rw [gs_ne (by omega)]; (first | assumption | exact gs_at | (rw [gs_ne (by omega)]; (first | assumption | exact gs_at | (rw [gs_ne (by omega)]; (first | assumption | exact gs_at | (rw [gs_ne (by omega)]; (first | assumption | exact gs_at))))))))) rfl ?_
      refine w_iconst (v := nI 0) dX7_goAhead_26 (by decide) ?_
      refine wV2i dX7_goAhead_27 lk_X7_235 rfl (by first | assumption | exact gs_at | (rw [gs_ne (by omega)]; (first | assumption | exact gs_at | (rw [gs_ne (by omega)]; (first | assumption | exact gs_at | (rw [gs_ne (by omega)]; (first | assumption | exact gs_at | (rw [gs_ne (by omega)]; (first | assumption | exact gs_at))))))))) rfl rfl (c_passDay hL hD hJ hBJ (by decide) hlb) (Nat.le_of_ble_eq_true rfl) (Nat.le_of_ble_eq_true rfl) (Nat.le_of_ble_eq_true rfl) (Nat.le_of_ble_eq_true rfl) (fun r_27 G h_27 => ?_)
      obtain ⟨hr9, hJ1, hL1, hF1⟩ := h_27
      have hS9 := hS9.day hJ1 hL1 hF1
      refine w_pop dX7_goAhead_30 rfl ?_
      first | refine w_iinc_2 dX7_goAhead_31 (nI_inc _) rfl ?_ | refine w_iinc_2 dX7_goAhead_31 rfl rfl ?_
      refine w_goto (tgt := 13) dX7_goAhead_34 (by decide) ?_
      exact ih (i + 1) G (by omega) (by omega) hS9
theorem c_goAhead {E : EV} {G : AH} {B tn im nw rm ru sp : Nat} {f : Nat → Nat} {wb sd si : Int32} {T Ti : ST} {D Di : LD} {P : Nat → ST × Int32} {n : Nat} (hH : HI G B tn f wb T sd D im Ti si Di nw rm P ru sp) (hn : n ≤ 400) : Cd E 7 kX7_goAhead [.ref B, .int (nI n)] G (fun G1 => HSc G G1 B tn f wb T sd D im Ti si Di nw rm P ru sp ((adv D 0 T sd n).1) ((adv D 0 T sd n).2)) := by
  obtain ⟨hB, ⟨htn, him, hnw, hrm⟩, hT, hRd, ⟨hI, hBd⟩, hS, ⟨hL, hD, hSp, hrs⟩, ⟨hIi, hBi, hLi, hDi⟩, ⟨hPa, hPi⟩, ⟨⟨we, hwe⟩, hSm, hSv, ⟨od, hod⟩⟩⟩ := id hH; obtain ⟨⟨_, _, _, _, _, _, gS0⟩, _⟩ := id hS
  obtain ⟨i0, i1, i2, i3, i4, i5, i6, i7, i8, i9, i10, i11, i12, i13⟩ := id hI
  obtain ⟨b0, b1, b2_, b3, b4, b5, b6, b7, b8, b9, b10, b11, b12, b13, b14, b15, b16, b17, b18, b19⟩ := id hBd
  have hls := HI.ls hH
  have hla : ru + 6 ≤ B + 9 ∨ B + 9 + 14 ≤ ru := by omega
  have hlb : ru + 6 ≤ B + 23 ∨ B + 23 + 14 ≤ ru := by omega
  refine Ct.intro rfl (by decide) [.ref B, .int (nI n), .float 0] (by simp [Value.category]) (Nat.le_of_ble_eq_true rfl) rfl ?_
  refine w_aload_n dX7_goAhead_0 rfl ?_
  refine w_getf dX7_goAhead_1 fl_X7_41 (by first | assumption | exact gs_at | (rw [gs_ne (by omega)]; (first | assumption | exact gs_at | (rw [gs_ne (by omega)]; (first | assumption | exact gs_at | (rw [gs_ne (by omega)]; (first | assumption | exact gs_at | (rw [gs_ne (by omega)]; (first | assumption | exact gs_at))))))))) rfl ?_
  refine w_aload_n dX7_goAhead_4 rfl ?_
  refine w_getf dX7_goAhead_5 fl_X7_37 (by first | assumption | exact gs_at | (rw [gs_ne (by omega)]; (first | assumption | exact gs_at | (rw [gs_ne (by omega)]; (first | assumption | exact gs_at | (rw [gs_ne (by omega)]; (first | assumption | exact gs_at | (rw [gs_ne (by omega)]; (first | assumption | exact gs_at))))))))) rfl ?_
  refine wV1d dX7_goAhead_8 lk_X7_94 rfl (by first | assumption | exact gs_at | (rw [gs_ne (by omega)]; (first | assumption | exact gs_at | (rw [gs_ne (by omega)]; (first | assumption | exact gs_at | (rw [gs_ne (by omega)]; (first | assumption | exact gs_at | (rw [gs_ne (by omega)]; (first | assumption | exact gs_at))))))))) rfl rfl (c_copyIsl hS hI (by omega)) (Nat.le_of_ble_eq_true rfl) (Nat.le_of_ble_eq_true rfl) (Nat.le_of_ble_eq_true rfl) (Nat.le_of_ble_eq_true rfl) (fun G1 h_8 => ?_)
  obtain ⟨hJ1, hF1⟩ := h_8
  have hS9 := HSc.copy hH hJ1 hF1
  refine w_iconst (v := nI 0) dX7_goAhead_11 (by decide) ?_
  refine w_istore_2 dX7_goAhead_12 rfl ?_
  exact lp_goAhead hn (fun G2 h => ⟨rfl, h⟩) (n + 1) 0 G1 (by omega) (by omega) hS9
theorem HSc.seed {G0 G G1 : AH} {B tn im nw rm ru sp : Nat} {f : Nat → Nat} {wb sd si : Int32} {T Ti : ST} {D Di : LD} {P : Nat → ST × Int32} {T2 : ST} {s2 s3 : Int32} (h : HSc G0 G B tn f wb T sd D im Ti si Di nw rm P ru sp (T2) (s2)) (hJ : Isl G1 (B + 23) T2 s3) (hF : Fr G G1 (B + 23)) : HSc G0 G1 B tn f wb T sd D im Ti si Di nw rm P ru sp (T2) (s3) := ⟨h.1.scr hJ.g hF, hJ, h.2.2.1, h.2.2.2.tr (hF.toH (by omega) (by omega))⟩
theorem lp_tryDays {E : EV} {Q : OC → AH → Prop} {G0 : AH} {B tn im nw rm ru sp : Nat} {f : Nat → Nat} {wb sd si : Int32} {T Ti : ST} {D Di : LD} {P : Nat → ST × Int32} {n : Nat} {s0 : Int32} (hn : n ≤ 400) (hQ : ∀ G1, HSc G0 G1 B tn f wb T sd D im Ti si Di nw rm P ru sp ((adv D 1 T s0 n).1) ((adv D 1 T s0 n).2) → Q (.inl none) G1) : ∀ (k i : Nat) (G : AH), n - i < k → i ≤ n → HSc G0 G B tn f wb T sd D im Ti si Di nw rm P ru sp ((adv D 1 T s0 i).1) ((adv D 1 T s0 i).2) → Wp E 7 0 0 kX7_tryDays Q G (0, 0) 21 [.ref B, .int (nI n), .int s0, .int (nI i)] [] := by
  intro k
  induction k with
  | zero => intro i G h; exact absurd h (by omega)
  | succ k ih =>
    intro i G hk hi hS9
    obtain ⟨hH, hJ, hBJ, hFH⟩ := id hS9; have hJ0 := hJ.1
    obtain ⟨hB, ⟨htn, him, hnw, hrm⟩, hT, hRd, ⟨hI, hBd⟩, hS, ⟨hL, hD, hSp, hrs⟩, ⟨hIi, hBi, hLi, hDi⟩, ⟨hPa, hPi⟩, ⟨⟨we, hwe⟩, hSm, hSv, ⟨od, hod⟩⟩⟩ := id hH; obtain ⟨⟨_, _, _, _, _, _, gS0⟩, _⟩ := id hS
    have hls := HI.ls hH
    have hlb : ru + 6 ≤ B + 23 ∨ B + 23 + 14 ≤ ru := by omega
    refine w_iload_n dX7_tryDays_21 rfl ?_
    refine w_iload_n dX7_tryDays_22 rfl ?_
    refine w_icmp_ge (tgt := 45) dX7_tryDays_23 (by decide) (fun c_23 => ?_) (fun c_23 => ?_)
    · try simp (disch := omega) only [nI_b2, Decidable.not_not, nI_ltI, nI_leI, nI_eq, ge_iff_le, gt_iff_lt, ne_eq, Nat.not_lt, Nat.not_le] at c_23
      refine w_vret dX7_tryDays_45 rfl (Nat.le_of_ble_eq_true rfl) (Nat.le_of_ble_eq_true rfl) ?_
      rw [show i = n by omega] at hS9
      exact hQ G hS9
    · try simp (disch := omega) only [nI_b2, Decidable.not_not, nI_ltI, nI_leI, nI_eq, ge_iff_le, gt_iff_lt, ne_eq, Nat.not_lt, Nat.not_le] at c_23
      refine w_aload_n dX7_tryDays_26 rfl ?_
      refine w_getf dX7_tryDays_27 fl_X7_41 (by first | assumption | exact gs_at | (rw [gs_ne (by omega)]; (first | assumption | exact gs_at | (rw [gs_ne (by omega)]; (first | assumption | exact gs_at | (rw [gs_ne (by omega)]; (first | assumption | exact gs_at | (rw [gs_ne (by omega)]; (first | assumption | exact gs_at))))))))) rfl ?_
      refine w_aload_n dX7_tryDays_30 rfl ?_
      refine w_getf dX7_tryDays_31 fl_X7_47 (by first | assumption | exact gs_at | (rw [gs_ne (by omega)]; (first | assumption | exact gs_at | (rw [gs_ne (by omega)]; (first | assumption | exact gs_at | (rw [gs_ne (by omega)]; (first | assumption | exact gs_at | (rw [gs_ne (by omega)]; (first | assumption | exact gs_at))))))))) rfl ?_
      refine w_iconst (v := nI 1) dX7_tryDays_34 (by decide) ?_
      refine wV2i dX7_tryDays_35 lk_X7_235 rfl (by first | assumption | exact gs_at | (rw [gs_ne (by omega)]; (first | assumption | exact gs_at | (rw [gs_ne (by omega)]; (first | assumption | exact gs_at | (rw [gs_ne (by omega)]; (first | assumption | exact gs_at | (rw [gs_ne (by omega)]; (first | assumption | exact gs_at))))))))) rfl rfl (c_passDay hL hD hJ hBJ (by decide) hlb) (Nat.le_of_ble_eq_true rfl) (Nat.le_of_ble_eq_true rfl) (Nat.le_of_ble_eq_true rfl) (Nat.le_of_ble_eq_true rfl) (fun r_35 G h_35 => ?_)
      obtain ⟨hr9, hJ1, hL1, hF1⟩ := h_35
      have hS9 := hS9.day hJ1 hL1 hF1
      refine w_pop dX7_tryDays_38 rfl ?_
      first | refine w_iinc_3 dX7_tryDays_39 (nI_inc _) rfl ?_ | refine w_iinc_3 dX7_tryDays_39 rfl rfl ?_
      refine w_goto (tgt := 21) dX7_tryDays_42 (by decide) ?_
      exact ih (i + 1) G (by omega) (by omega) hS9
theorem c_tryDays {E : EV} {G : AH} {B tn im nw rm ru sp : Nat} {f : Nat → Nat} {wb sd si : Int32} {T Ti : ST} {D Di : LD} {P : Nat → ST × Int32} {n : Nat} {s0 : Int32} (hH : HI G B tn f wb T sd D im Ti si Di nw rm P ru sp) (hn : n ≤ 400) : Cd E 7 kX7_tryDays [.ref B, .int (nI n), .int s0] G (fun G1 => HSc G G1 B tn f wb T sd D im Ti si Di nw rm P ru sp ((adv D 1 T s0 n).1) ((adv D 1 T s0 n).2)) := by
  obtain ⟨hB, ⟨htn, him, hnw, hrm⟩, hT, hRd, ⟨hI, hBd⟩, hS, ⟨hL, hD, hSp, hrs⟩, ⟨hIi, hBi, hLi, hDi⟩, ⟨hPa, hPi⟩, ⟨⟨we, hwe⟩, hSm, hSv, ⟨od, hod⟩⟩⟩ := id hH; obtain ⟨⟨_, _, _, _, _, _, gS0⟩, _⟩ := id hS
  obtain ⟨i0, i1, i2, i3, i4, i5, i6, i7, i8, i9, i10, i11, i12, i13⟩ := id hI
  obtain ⟨b0, b1, b2_, b3, b4, b5, b6, b7, b8, b9, b10, b11, b12, b13, b14, b15, b16, b17, b18, b19⟩ := id hBd
  have hls := HI.ls hH
  have hla : ru + 6 ≤ B + 9 ∨ B + 9 + 14 ≤ ru := by omega
  have hlb : ru + 6 ≤ B + 23 ∨ B + 23 + 14 ≤ ru := by omega
  refine Ct.intro rfl (by decide) [.ref B, .int (nI n), .int s0, .float 0] (by simp [Value.category]) (Nat.le_of_ble_eq_true rfl) rfl ?_
  refine w_aload_n dX7_tryDays_0 rfl ?_
  refine w_getf dX7_tryDays_1 fl_X7_41 (by first | assumption | exact gs_at | (rw [gs_ne (by omega)]; (first | assumption | exact gs_at | (rw [gs_ne (by omega)]; (first | assumption | exact gs_at | (rw [gs_ne (by omega)]; (first | assumption | exact gs_at | (rw [gs_ne (by omega)]; (first | assumption | exact gs_at))))))))) rfl ?_
  refine w_aload_n dX7_tryDays_4 rfl ?_
  refine w_getf dX7_tryDays_5 fl_X7_37 (by first | assumption | exact gs_at | (rw [gs_ne (by omega)]; (first | assumption | exact gs_at | (rw [gs_ne (by omega)]; (first | assumption | exact gs_at | (rw [gs_ne (by omega)]; (first | assumption | exact gs_at | (rw [gs_ne (by omega)]; (first | assumption | exact gs_at))))))))) rfl ?_
  refine wV1d dX7_tryDays_8 lk_X7_94 rfl (by first | assumption | exact gs_at | (rw [gs_ne (by omega)]; (first | assumption | exact gs_at | (rw [gs_ne (by omega)]; (first | assumption | exact gs_at | (rw [gs_ne (by omega)]; (first | assumption | exact gs_at | (rw [gs_ne (by omega)]; (first | assumption | exact gs_at))))))))) rfl rfl (c_copyIsl hS hI (by omega)) (Nat.le_of_ble_eq_true rfl) (Nat.le_of_ble_eq_true rfl) (Nat.le_of_ble_eq_true rfl) (Nat.le_of_ble_eq_true rfl) (fun G1 h_8 => ?_)
  obtain ⟨hJ1, hF1⟩ := h_8
  have hS9 := HSc.copy hH hJ1 hF1
  obtain ⟨hH, hJ, hBJ, hFH⟩ := id hS9; have hJ0 := hJ.1
  obtain ⟨hB, ⟨htn, him, hnw, hrm⟩, hT, hRd, ⟨hI, hBd⟩, hS, ⟨hL, hD, hSp, hrs⟩, ⟨hIi, hBi, hLi, hDi⟩, ⟨hPa, hPi⟩, ⟨⟨we, hwe⟩, hSm, hSv, ⟨od, hod⟩⟩⟩ := id hH; obtain ⟨⟨_, _, _, _, _, _, gS0⟩, _⟩ := id hS
  refine w_aload_n dX7_tryDays_11 rfl ?_
  refine w_getf dX7_tryDays_12 fl_X7_41 (by first | assumption | exact gs_at | (rw [gs_ne (by omega)]; (first | assumption | exact gs_at | (rw [gs_ne (by omega)]; (first | assumption | exact gs_at | (rw [gs_ne (by omega)]; (first | assumption | exact gs_at | (rw [gs_ne (by omega)]; (first | assumption | exact gs_at))))))))) rfl ?_
  refine w_iload_n dX7_tryDays_15 rfl ?_
  refine w_pisSd hJ dX7_tryDays_16 fl_X7_326 (fun G9 hI9 hF9 => ?_)
  have hS9 := hS9.seed hI9 hF9
  refine w_iconst (v := nI 0) dX7_tryDays_19 (by decide) ?_
  refine w_istore_3 dX7_tryDays_20 rfl ?_
  exact lp_tryDays hn (fun G2 h => ⟨rfl, h⟩) (n + 1) 0 G9 (by omega) (by omega) hS9
theorem c_remember {E : EV} {G : AH} {B tn im nw rm ru sp : Nat} {f : Nat → Nat} {wb sd si : Int32} {T Ti : ST} {D Di : LD} {P : Nat → ST × Int32}  (hH : HI G B tn f wb T sd D im Ti si Di nw rm P ru sp)  : Cd E 5 kX7_remember [.ref B] G (fun G1 => HI G1 B tn f wb T sd D im Ti si Di ((nw + 1) % 12) (min 12 (rm + 1)) (updP P ((nw + 1) % 12) (T, sd)) ru sp ∧ FH G G1 B) := by
  obtain ⟨hB, ⟨htn, him, hnw, hrm⟩, hT, hRd, ⟨hI, hBd⟩, hS, ⟨hL, hD, hSp, hrs⟩, ⟨hIi, hBi, hLi, hDi⟩, ⟨hPa, hPi⟩, ⟨⟨we, hwe⟩, hSm, hSv, ⟨od, hod⟩⟩⟩ := id hH; obtain ⟨⟨_, _, _, _, _, _, gS0⟩, _⟩ := id hS
  obtain ⟨i0, i1, i2, i3, i4, i5, i6, i7, i8, i9, i10, i11, i12, i13⟩ := id hI
  obtain ⟨b0, b1, b2_, b3, b4, b5, b6, b7, b8, b9, b10, b11, b12, b13, b14, b15, b16, b17, b18, b19⟩ := id hBd
  have hls := HI.ls hH
  have hla : ru + 6 ≤ B + 9 ∨ B + 9 + 14 ≤ ru := by omega
  have hlb : ru + 6 ≤ B + 23 ∨ B + 23 + 14 ≤ ru := by omega
  have hm := Nat.mod_lt (nw + 1) (show 0 < 12 by decide)
  refine Ct.intro rfl (by decide) [.ref B, .float 0] (by simp [Value.category]) (Nat.le_of_ble_eq_true rfl) rfl ?_
  refine w_aload_n dX7_remember_0 rfl ?_
  refine w_aload_n dX7_remember_1 rfl ?_
  refine w_getf dX7_remember_2 fl_X7_68 (by first | assumption | exact gs_at | (rw [gs_ne (by omega)]; (first | assumption | exact gs_at | (rw [gs_ne (by omega)]; (first | assumption | exact gs_at | (rw [gs_ne (by omega)]; (first | assumption | exact gs_at | (rw [gs_ne (by omega)]; (first | assumption | exact gs_at))))))))) rfl ?_
  refine w_iconst (v := nI 1) dX7_remember_5 (by decide) ?_
  first | refine w_iaddN dX7_remember_6 ?_ | refine w_iadd dX7_remember_6 ?_
  refine w_bipush (v := nI 12) dX7_remember_7 (by decide) ?_
  first | refine w_iremN (by omega) (by omega) (by omega) dX7_remember_9 ?_ | refine w_irem dX7_remember_9 (by decide) ?_
  refine w_putf dX7_remember_10 fl_X7_68 (by first | assumption | exact gs_at | (rw [gs_ne (by omega)]; (first | assumption | exact gs_at | (rw [gs_ne (by omega)]; (first | assumption | exact gs_at | (rw [gs_ne (by omega)]; (first | assumption | exact gs_at | (rw [gs_ne (by omega)]; (first | assumption | exact gs_at))))))))) (by simp) rfl rfl ?_
  have hH := hH.obj (tn2 := tn) (im2 := im) (nw2 := (nw + 1) % 12) (rm2 := rm) (wb2 := wb) ⟨htn, him, hm, hrm⟩
  have hFH : FH G _ B := FH.gs (b := B) (x := hO B tn wb ru sp im ((nw + 1) % 12) rm) (Nat.le_refl _) (by omega)
  obtain ⟨hB, ⟨htn, him, hnw, hrm⟩, hT, hRd, ⟨hI, hBd⟩, hS, ⟨hL, hD, hSp, hrs⟩, ⟨hIi, hBi, hLi, hDi⟩, ⟨hPa, hPi⟩, ⟨⟨we, hwe⟩, hSm, hSv, ⟨od, hod⟩⟩⟩ := id hH; obtain ⟨⟨_, _, _, _, _, _, gS0⟩, _⟩ := id hS
  refine w_aload_n dX7_remember_13 rfl ?_
  refine w_getf dX7_remember_14 fl_X7_68 (by first | assumption | exact gs_at | (rw [gs_ne (by omega)]; (first | assumption | exact gs_at | (rw [gs_ne (by omega)]; (first | assumption | exact gs_at | (rw [gs_ne (by omega)]; (first | assumption | exact gs_at | (rw [gs_ne (by omega)]; (first | assumption | exact gs_at))))))))) rfl ?_
  refine w_ifN_lt (tgt := 54) dX7_remember_17 (by decide) (fun c_17 => ?_) (fun c_17 => ?_)
  · try simp (disch := omega) only [nI_b2, Decidable.not_not, nI_ltI, nI_leI, nI_eq, ge_iff_le, gt_iff_lt, ne_eq, Nat.not_lt, Nat.not_le] at c_17
    exact absurd c_17 (by omega)
  · try simp (disch := omega) only [nI_b2, Decidable.not_not, nI_ltI, nI_leI, nI_eq, ge_iff_le, gt_iff_lt, ne_eq, Nat.not_lt, Nat.not_le] at c_17
    refine w_aload_n dX7_remember_20 rfl ?_
    refine w_getf dX7_remember_21 fl_X7_68 (by first | assumption | exact gs_at | (rw [gs_ne (by omega)]; (first | assumption | exact gs_at | (rw [gs_ne (by omega)]; (first | assumption | exact gs_at | (rw [gs_ne (by omega)]; (first | assumption | exact gs_at | (rw [gs_ne (by omega)]; (first | assumption | exact gs_at))))))))) rfl ?_
    refine w_aload_n dX7_remember_24 rfl ?_
    refine w_getf dX7_remember_25 fl_X7_64 (by first | assumption | exact gs_at | (rw [gs_ne (by omega)]; (first | assumption | exact gs_at | (rw [gs_ne (by omega)]; (first | assumption | exact gs_at | (rw [gs_ne (by omega)]; (first | assumption | exact gs_at | (rw [gs_ne (by omega)]; (first | assumption | exact gs_at))))))))) rfl ?_
    refine w_alenO dX7_remember_28 (by first | assumption | exact gs_at | (rw [gs_ne (by omega)]; (first | assumption | exact gs_at | (rw [gs_ne (by omega)]; (first | assumption | exact gs_at | (rw [gs_ne (by omega)]; (first | assumption | exact gs_at | (rw [gs_ne (by omega)]; (first | assumption | exact gs_at))))))))) ?_
    refine w_icmp_ge (tgt := 54) dX7_remember_29 (by decide) (fun c_29 => ?_) (fun c_29 => ?_)
    · try simp (disch := omega) only [nI_b2, Decidable.not_not, nI_ltI, nI_leI, nI_eq, ge_iff_le, gt_iff_lt, ne_eq, Nat.not_lt, Nat.not_le] at c_29
      exact absurd c_29 (by omega)
    · try simp (disch := omega) only [nI_b2, Decidable.not_not, nI_ltI, nI_leI, nI_eq, ge_iff_le, gt_iff_lt, ne_eq, Nat.not_lt, Nat.not_le] at c_29
      refine w_aload_n dX7_remember_32 rfl ?_
      refine w_getf dX7_remember_33 fl_X7_64 (by first | assumption | exact gs_at | (rw [gs_ne (by omega)]; (first | assumption | exact gs_at | (rw [gs_ne (by omega)]; (first | assumption | exact gs_at | (rw [gs_ne (by omega)]; (first | assumption | exact gs_at | (rw [gs_ne (by omega)]; (first | assumption | exact gs_at))))))))) rfl ?_
      refine w_aload_n dX7_remember_36 rfl ?_
      refine w_getf dX7_remember_37 fl_X7_68 (by first | assumption | exact gs_at | (rw [gs_ne (by omega)]; (first | assumption | exact gs_at | (rw [gs_ne (by omega)]; (first | assumption | exact gs_at | (rw [gs_ne (by omega)]; (first | assumption | exact gs_at | (rw [gs_ne (by omega)]; (first | assumption | exact gs_at))))))))) rfl ?_
      refine w_aaload dX7_remember_40 (by first | assumption | exact gs_at | (rw [gs_ne (by omega)]; (first | assumption | exact gs_at | (rw [gs_ne (by omega)]; (first | assumption | exact gs_at | (rw [gs_ne (by omega)]; (first | assumption | exact gs_at | (rw [gs_ne (by omega)]; (first | assumption | exact gs_at))))))))) (by first | assumption | exact vp_in_nI (by omega) (by omega) | exact vp_in_nI (by assumption) (by omega)) ?_
      rw [nI_clamp (by omega)]
      refine w_astore_1 dX7_remember_41 rfl ?_
      refine w_aload_n dX7_remember_42 rfl ?_
      refine w_ifnull dX7_remember_43 ?_
      refine w_aload_n dX7_remember_46 rfl ?_
      refine w_aload_n dX7_remember_47 rfl ?_
      refine w_getf dX7_remember_48 fl_X7_37 (by first | assumption | exact gs_at | (rw [gs_ne (by omega)]; (first | assumption | exact gs_at | (rw [gs_ne (by omega)]; (first | assumption | exact gs_at | (rw [gs_ne (by omega)]; (first | assumption | exact gs_at | (rw [gs_ne (by omega)]; (first | assumption | exact gs_at))))))))) rfl ?_
      have hP0 := (hPi ((nw + 1) % 12) hm).1.1
      refine wV1d dX7_remember_51 lk_X7_94 rfl (by first | assumption | exact gs_at | (rw [gs_ne (by omega)]; (first | assumption | exact gs_at | (rw [gs_ne (by omega)]; (first | assumption | exact gs_at | (rw [gs_ne (by omega)]; (first | assumption | exact gs_at | (rw [gs_ne (by omega)]; (first | assumption | exact gs_at))))))))) rfl rfl (c_copyIsl ((hPi ((nw + 1) % 12) hm).1.g) hI (by omega)) (Nat.le_of_ble_eq_true rfl) (Nat.le_of_ble_eq_true rfl) (Nat.le_of_ble_eq_true rfl) (Nat.le_of_ble_eq_true rfl) (fun G h_51 => ?_)
      obtain ⟨hJ1, hF1⟩ := h_51
      have hH := hH.past hm hJ1 hBd hF1
      have hFH := hFH.tr (hF1.toH (by omega) (by omega))
      obtain ⟨hB, ⟨htn, him, hnw, hrm⟩, hT, hRd, ⟨hI, hBd⟩, hS, ⟨hL, hD, hSp, hrs⟩, ⟨hIi, hBi, hLi, hDi⟩, ⟨hPa, hPi⟩, ⟨⟨we, hwe⟩, hSm, hSv, ⟨od, hod⟩⟩⟩ := id hH; obtain ⟨⟨_, _, _, _, _, _, gS0⟩, _⟩ := id hS
      refine w_aload_n dX7_remember_54 rfl ?_
      refine w_bipush (v := nI 12) dX7_remember_55 (by decide) ?_
      refine w_aload_n dX7_remember_57 rfl ?_
      refine w_getf dX7_remember_58 fl_X7_71 (by first | assumption | exact gs_at | (rw [gs_ne (by omega)]; (first | assumption | exact gs_at | (rw [gs_ne (by omega)]; (first | assumption | exact gs_at | (rw [gs_ne (by omega)]; (first | assumption | exact gs_at | (rw [gs_ne (by omega)]; (first | assumption | exact gs_at))))))))) rfl ?_
      refine w_iconst (v := nI 1) dX7_remember_61 (by decide) ?_
      first | refine w_iaddN dX7_remember_62 ?_ | refine w_iadd dX7_remember_62 ?_
      refine wJ2u dX7_remember_63 lk_X7_332 rfl (c_min (by omega) (by omega)) (Nat.le_of_ble_eq_true rfl) (Nat.le_of_ble_eq_true rfl) (Nat.le_of_ble_eq_true rfl) (Nat.le_of_ble_eq_true rfl) ?_
      refine w_putf dX7_remember_66 fl_X7_71 (by first | assumption | exact gs_at | (rw [gs_ne (by omega)]; (first | assumption | exact gs_at | (rw [gs_ne (by omega)]; (first | assumption | exact gs_at | (rw [gs_ne (by omega)]; (first | assumption | exact gs_at | (rw [gs_ne (by omega)]; (first | assumption | exact gs_at))))))))) (by simp) rfl rfl ?_
      refine w_vret dX7_remember_69 rfl (Nat.le_of_ble_eq_true rfl) (Nat.le_of_ble_eq_true rfl) ?_
      exact ⟨rfl, hH.obj (by omega), hFH.tr (FH.gs (Nat.le_refl _) (by omega))⟩
