/-! rests; the tape -/
def rcN (o t a g : Nat) : Nat := if o = 0 then (if t = 0 then (a + 2 - 1) / 2 else a) else (if t = 0 then 0 else g)
theorem rcN_lt {o t a g m : Nat} (ha : a < m) (hg : g < m) : rcN o t a g < m := by unfold rcN; split <;> split <;> omega
theorem c_restCost {E : EV} {o t a g : Nat} {G : AH} (ho : o < 2 ^ 30) (ht : t < 2 ^ 30) (ha : a < 2 ^ 29) : Cu E 2 kX7_restCost [.int (nI o), .int (nI t), .int (nI a), .int (nI g)] G (.int (nI (rcN o t a g))) G := by
  refine Ct.intro rfl (by decide) [.int (nI o), .int (nI t), .int (nI a), .int (nI g)] (by simp [Value.category]) (Nat.le_of_ble_eq_true rfl) rfl ?_
  refine w_iload_n dX7_restCost_0 rfl ?_
  refine w_ifN_ne (tgt := 18) dX7_restCost_1 (by decide) (fun c_1 => ?_) (fun c_1 => ?_)
  · try simp (disch := omega) only [nI_b2, Decidable.not_not, nI_ltI, nI_leI, nI_eq, ge_iff_le, gt_iff_lt, ne_eq, Nat.not_lt, Nat.not_le] at c_1
    refine w_iload_n dX7_restCost_18 rfl ?_
    refine w_ifN_ne (tgt := 26) dX7_restCost_19 (by decide) (fun c_19 => ?_) (fun c_19 => ?_)
    · try simp (disch := omega) only [nI_b2, Decidable.not_not, nI_ltI, nI_leI, nI_eq, ge_iff_le, gt_iff_lt, ne_eq, Nat.not_lt, Nat.not_le] at c_19
      refine w_iload_n dX7_restCost_26 rfl ?_
      refine w_iret dX7_restCost_27 rfl (Nat.le_of_ble_eq_true rfl) (Nat.le_of_ble_eq_true rfl) ?_
      refine ⟨?_, rfl⟩
      first
        | (rw [rcN, if_pos (by omega), if_pos (by omega)]; done)
        | (rw [rcN, if_pos (by omega), if_neg (by omega)]; done)
        | (rw [rcN, if_neg (by omega), if_pos (by omega)]; done)
        | (rw [rcN, if_neg (by omega), if_neg (by omega)]; done)
    · try simp (disch := omega) only [nI_b2, Decidable.not_not, nI_ltI, nI_leI, nI_eq, ge_iff_le, gt_iff_lt, ne_eq, Nat.not_lt, Nat.not_le] at c_19
      refine w_iconst (v := nI 0) dX7_restCost_22 (by decide) ?_
      refine w_goto (tgt := 27) dX7_restCost_23 (by decide) ?_
      refine w_iret dX7_restCost_27 rfl (Nat.le_of_ble_eq_true rfl) (Nat.le_of_ble_eq_true rfl) ?_
      refine ⟨?_, rfl⟩
      first
        | (rw [rcN, if_pos (by omega), if_pos (by omega)]; done)
        | (rw [rcN, if_pos (by omega), if_neg (by omega)]; done)
        | (rw [rcN, if_neg (by omega), if_pos (by omega)]; done)
        | (rw [rcN, if_neg (by omega), if_neg (by omega)]; done)
  · try simp (disch := omega) only [nI_b2, Decidable.not_not, nI_ltI, nI_leI, nI_eq, ge_iff_le, gt_iff_lt, ne_eq, Nat.not_lt, Nat.not_le] at c_1
    refine w_iload_n dX7_restCost_4 rfl ?_
    refine w_ifN_ne (tgt := 16) dX7_restCost_5 (by decide) (fun c_5 => ?_) (fun c_5 => ?_)
    · try simp (disch := omega) only [nI_b2, Decidable.not_not, nI_ltI, nI_leI, nI_eq, ge_iff_le, gt_iff_lt, ne_eq, Nat.not_lt, Nat.not_le] at c_5
      refine w_iload_n dX7_restCost_16 rfl ?_
      refine w_iret dX7_restCost_17 rfl (Nat.le_of_ble_eq_true rfl) (Nat.le_of_ble_eq_true rfl) ?_
      refine ⟨?_, rfl⟩
      first
        | (rw [rcN, if_pos (by omega), if_pos (by omega)]; done)
        | (rw [rcN, if_pos (by omega), if_neg (by omega)]; done)
        | (rw [rcN, if_neg (by omega), if_pos (by omega)]; done)
        | (rw [rcN, if_neg (by omega), if_neg (by omega)]; done)
    · try simp (disch := omega) only [nI_b2, Decidable.not_not, nI_ltI, nI_leI, nI_eq, ge_iff_le, gt_iff_lt, ne_eq, Nat.not_lt, Nat.not_le] at c_5
      refine w_iload_n dX7_restCost_8 rfl ?_
      refine w_iconst (v := nI 2) dX7_restCost_9 (by decide) ?_
      refine wS2u dX7_restCost_10 lk_X7_280 rfl (c_roundedUp (by omega) (by decide) (by decide)) (Nat.le_of_ble_eq_true rfl) (Nat.le_of_ble_eq_true rfl) (Nat.le_of_ble_eq_true rfl) (Nat.le_of_ble_eq_true rfl) ?_
      refine w_goto (tgt := 17) dX7_restCost_13 (by decide) ?_
      refine w_iret dX7_restCost_17 rfl (Nat.le_of_ble_eq_true rfl) (Nat.le_of_ble_eq_true rfl) ?_
      refine ⟨?_, rfl⟩
      first
        | (rw [rcN, if_pos (by omega), if_pos (by omega)]; done)
        | (rw [rcN, if_pos (by omega), if_neg (by omega)]; done)
        | (rw [rcN, if_neg (by omega), if_pos (by omega)]; done)
        | (rw [rcN, if_neg (by omega), if_neg (by omega)]; done)
abbrev rsP (T : ST) (i : Nat) : Prop := rcN (i / 2 ^ 1) (i % 2) (wkAll T) (misV T) ≤ rcN (1 - i / 2 ^ 1) (i % 2) (wkAll T) (misV T) ∧ rcN (i % 2) (i / 2 ^ 1) (wkAll T) (misV T) ≤ rcN (1 - i % 2) (i / 2 ^ 1) (wkAll T) (misV T)
theorem misV_le {T : ST} (hB : Bd T) : misV T ≤ 1188 := by
  have h := sumN_le (f := fun i => if T 1 i ≠ T 5 i then T 3 i else 0) (c := 99) (fun i => by have := hB.2.2.2.2.1 i; (try dsimp only); split <;> omega) (T 12 0)
  have := hB.1
  unfold misV
  omega
theorem lp_rst {E : EV} {Q : OC → AH → Prop} {G : AH} {B i u v s a g : Nat} {x y : Value} (hi : i < 4) (hu : u ≤ 1) (hv : v ≤ 1) (hk : Wp E 5 0 0 kX7_rests Q G (0, 0) 21 [.ref B, .int (nI a), .int (nI g), .int (nI (if u = 1 ∧ v = 1 then s ||| 1 * 2 ^ i else s)), .int (nI (i + 1)), x, y, .int (nI u), .int (nI v)] []) : Wp E 5 0 0 kX7_rests Q G (0, 0) 99 [.ref B, .int (nI a), .int (nI g), .int (nI s), .int (nI i), x, y, .int (nI u), .int (nI v)] [] := by
  refine w_iload dX7_rests_99 rfl ?_
  refine w_ifN_eq (tgt := 116) dX7_rests_101 (by decide) (fun c_101 => ?_) (fun c_101 => ?_)
  · try simp (disch := omega) only [nI_b2, Decidable.not_not, nI_ltI, nI_leI, nI_eq, ge_iff_le, gt_iff_lt, ne_eq, Nat.not_lt, Nat.not_le] at c_101
    first | refine w_iinc_4 dX7_rests_116 (nI_inc _) rfl ?_ | refine w_iinc_4 dX7_rests_116 rfl rfl ?_
    refine w_goto (tgt := 21) dX7_rests_119 (by decide) ?_
    first
      | (rw [if_pos (by omega)] at hk; exact hk)
      | (rw [if_neg (by omega)] at hk; exact hk)
  · try simp (disch := omega) only [nI_b2, Decidable.not_not, nI_ltI, nI_leI, nI_eq, ge_iff_le, gt_iff_lt, ne_eq, Nat.not_lt, Nat.not_le] at c_101
    refine w_iload dX7_rests_104 rfl ?_
    refine w_ifN_eq (tgt := 116) dX7_rests_106 (by decide) (fun c_106 => ?_) (fun c_106 => ?_)
    · try simp (disch := omega) only [nI_b2, Decidable.not_not, nI_ltI, nI_leI, nI_eq, ge_iff_le, gt_iff_lt, ne_eq, Nat.not_lt, Nat.not_le] at c_106
      first | refine w_iinc_4 dX7_rests_116 (nI_inc _) rfl ?_ | refine w_iinc_4 dX7_rests_116 rfl rfl ?_
      refine w_goto (tgt := 21) dX7_rests_119 (by decide) ?_
      first
        | (rw [if_pos (by omega)] at hk; exact hk)
        | (rw [if_neg (by omega)] at hk; exact hk)
    · try simp (disch := omega) only [nI_b2, Decidable.not_not, nI_ltI, nI_leI, nI_eq, ge_iff_le, gt_iff_lt, ne_eq, Nat.not_lt, Nat.not_le] at c_106
      refine w_iload_n dX7_rests_109 rfl ?_
      refine w_iconst (v := nI 1) dX7_rests_110 (by decide) ?_
      refine w_iload dX7_rests_111 rfl ?_
      refine w_ishlN (by omega) (p2_lt (by omega)) dX7_rests_113 ?_
      first | refine w_iorN dX7_rests_114 ?_ | refine w_ior dX7_rests_114 ?_
      refine w_istore_3 dX7_rests_115 rfl ?_
      first | refine w_iinc_4 dX7_rests_116 (nI_inc _) rfl ?_ | refine w_iinc_4 dX7_rests_116 rfl rfl ?_
      refine w_goto (tgt := 21) dX7_rests_119 (by decide) ?_
      first
        | (rw [if_pos (by omega)] at hk; exact hk)
        | (rw [if_neg (by omega)] at hk; exact hk)
theorem lp_rests {E : EV} {Q : OC → AH → Prop} {G : AH} {B tn im nw rm ru sp : Nat} {f : Nat → Nat} {wb sd si : Int32} {T Ti : ST} {D Di : LD} {P : Nat → ST × Int32} (hH : HI G B tn f wb T sd D im Ti si Di nw rm P ru sp) (hQ : Q (.inl (some (.int (nI (bitN (rsP T) 4))))) G) : ∀ (k i : Nat), 4 - i < k → i ≤ 4 → ∀ x y z w : Value, Wp E 5 0 0 kX7_rests Q G (0, 0) 21 [.ref B, .int (nI (wkAll T)), .int (nI (misV T)), .int (nI (bitN (rsP T) i)), .int (nI (i)), x, y, z, w] [] := by
  obtain ⟨hB, ⟨htn, him, hnw, hrm⟩, hT, hRd, ⟨hI, hBd⟩, hS, ⟨hL, hD, hSp, hrs⟩, ⟨hIi, hBi, hLi, hDi⟩, ⟨hPa, hPi⟩, ⟨⟨we, hwe⟩, hSm, hSv, ⟨od, hod⟩⟩⟩ := id hH; obtain ⟨⟨_, _, _, _, _, _, gS0⟩, _⟩ := id hS; have hI0 := hI.1; have hIi0 := hIi.1
  obtain ⟨i0, i1, i2, i3, i4, i5, i6, i7, i8, i9, i10, i11, i12, i13⟩ := id hI
  obtain ⟨b0, b1, b2_, b3, b4, b5, b6, b7, b8, b9, b10, b11, b12, b13, b14, b15, b16, b17, b18, b19⟩ := id hBd
  have hls := HI.ls hH
  have hla : ru + 6 ≤ B + 9 ∨ B + 9 + 14 ≤ ru := by omega
  have hlb : ru + 6 ≤ B + 23 ∨ B + 23 + 14 ≤ ru := by omega
  have hw1 := wkAll_le hBd; have hw2 := misV_le hBd
  intro k
  induction k with
  | zero => intro i h; exact absurd h (by omega)
  | succ k ih =>
    intro i hk hi
    intro x y z w
    refine w_iload dX7_rests_21 rfl ?_
    refine w_iconst (v := nI 4) dX7_rests_23 (by decide) ?_
    refine w_icmp_ge (tgt := 122) dX7_rests_24 (by decide) (fun c_24 => ?_) (fun c_24 => ?_)
    · try simp (disch := omega) only [nI_b2, Decidable.not_not, nI_ltI, nI_leI, nI_eq, ge_iff_le, gt_iff_lt, ne_eq, Nat.not_lt, Nat.not_le] at c_24
      refine w_iload_n dX7_rests_122 rfl ?_
      refine w_iret dX7_rests_123 rfl (Nat.le_of_ble_eq_true rfl) (Nat.le_of_ble_eq_true rfl) ?_
      have e : i = 4 := by omega
      subst e
      exact hQ
    · try simp (disch := omega) only [nI_b2, Decidable.not_not, nI_ltI, nI_leI, nI_eq, ge_iff_le, gt_iff_lt, ne_eq, Nat.not_lt, Nat.not_le] at c_24
      have hi2 : i / 2 ^ 1 ≤ 1 := by omega
      have him2 : i % 2 ≤ 1 := by omega
      have g1 : rcN (i / 2 ^ 1) (i % 2) (wkAll T) (misV T) < 2000 := rcN_lt (by omega) (by omega)
      have g2 : rcN (1 - i / 2 ^ 1) (i % 2) (wkAll T) (misV T) < 2000 := rcN_lt (by omega) (by omega)
      have g3 : rcN (i % 2) (i / 2 ^ 1) (wkAll T) (misV T) < 2000 := rcN_lt (by omega) (by omega)
      have g4 : rcN (1 - i % 2) (i / 2 ^ 1) (wkAll T) (misV T) < 2000 := rcN_lt (by omega) (by omega)
      refine w_iload dX7_rests_27 rfl ?_
      refine w_iconst (v := nI 1) dX7_rests_29 (by decide) ?_
      refine w_ishr dX7_rests_30 ?_
      rw [nI_shr (by omega) (by omega)]
      refine w_istore_5 dX7_rests_31 rfl ?_
      refine w_iload dX7_rests_33 rfl ?_
      refine w_iconst (v := nI 1) dX7_rests_35 (by decide) ?_
      first | refine w_iandN dX7_rests_36 ?_ | refine w_iand dX7_rests_36 ?_
      rw [Nat.and_one_is_mod]
      refine w_istore_6 dX7_rests_37 rfl ?_
      refine w_iload dX7_rests_39 rfl ?_
      refine w_iload dX7_rests_41 rfl ?_
      refine w_iload_n dX7_rests_43 rfl ?_
      refine w_iload_n dX7_rests_44 rfl ?_
      refine wS4u dX7_rests_45 lk_X7_286 rfl (c_restCost (by omega) (by omega) (by omega)) (Nat.le_of_ble_eq_true rfl) (Nat.le_of_ble_eq_true rfl) (Nat.le_of_ble_eq_true rfl) (Nat.le_of_ble_eq_true rfl) ?_
      refine w_iconst (v := nI 1) dX7_rests_48 (by decide) ?_
      refine w_iload dX7_rests_49 rfl ?_
      refine w_isubN (by omega) dX7_rests_51 ?_
      refine w_iload dX7_rests_52 rfl ?_
      refine w_iload_n dX7_rests_54 rfl ?_
      refine w_iload_n dX7_rests_55 rfl ?_
      refine wS4u dX7_rests_56 lk_X7_286 rfl (c_restCost (by omega) (by omega) (by omega)) (Nat.le_of_ble_eq_true rfl) (Nat.le_of_ble_eq_true rfl) (Nat.le_of_ble_eq_true rfl) (Nat.le_of_ble_eq_true rfl) ?_
      refine w_icmp_gt (tgt := 66) dX7_rests_59 (by decide) (fun c_59 => ?_) (fun c_59 => ?_)
      · try simp (disch := omega) only [nI_b2, Decidable.not_not, nI_ltI, nI_leI, nI_eq, ge_iff_le, gt_iff_lt, ne_eq, Nat.not_lt, Nat.not_le] at c_59
        refine w_iconst (v := nI 0) dX7_rests_66 (by decide) ?_
        refine w_istore_7 dX7_rests_67 rfl ?_
        refine w_iload dX7_rests_69 rfl ?_
        refine w_iload dX7_rests_71 rfl ?_
        refine w_iload_n dX7_rests_73 rfl ?_
        refine w_iload_n dX7_rests_74 rfl ?_
        refine wS4u dX7_rests_75 lk_X7_286 rfl (c_restCost (by omega) (by omega) (by omega)) (Nat.le_of_ble_eq_true rfl) (Nat.le_of_ble_eq_true rfl) (Nat.le_of_ble_eq_true rfl) (Nat.le_of_ble_eq_true rfl) ?_
        refine w_iconst (v := nI 1) dX7_rests_78 (by decide) ?_
        refine w_iload dX7_rests_79 rfl ?_
        refine w_isubN (by omega) dX7_rests_81 ?_
        refine w_iload dX7_rests_82 rfl ?_
        refine w_iload_n dX7_rests_84 rfl ?_
        refine w_iload_n dX7_rests_85 rfl ?_
        refine wS4u dX7_rests_86 lk_X7_286 rfl (c_restCost (by omega) (by omega) (by omega)) (Nat.le_of_ble_eq_true rfl) (Nat.le_of_ble_eq_true rfl) (Nat.le_of_ble_eq_true rfl) (Nat.le_of_ble_eq_true rfl) ?_
        refine w_icmp_gt (tgt := 96) dX7_rests_89 (by decide) (fun c_89 => ?_) (fun c_89 => ?_)
        · try simp (disch := omega) only [nI_b2, Decidable.not_not, nI_ltI, nI_leI, nI_eq, ge_iff_le, gt_iff_lt, ne_eq, Nat.not_lt, Nat.not_le] at c_89
          refine w_iconst (v := nI 0) dX7_rests_96 (by decide) ?_
          refine w_istore_8 dX7_rests_97 rfl ?_
          first
            | (refine lp_rst (u := 1) (v := 1) (by omega) (by decide) (by decide) ?_; rw [if_pos (by decide)]; have hN := ih (i + 1) (by omega) (by omega) (.int (nI (i / 2 ^ 1))) (.int (nI (i % 2))) (.int (nI 1)) (.int (nI 1)); rw [bitN_t (show rsP T i from ⟨c_59, c_89⟩)] at hN; exact hN)
            | (refine lp_rst (u := 1) (v := 0) (by omega) (by decide) (by decide) ?_; rw [if_neg (by decide)]; have hN := ih (i + 1) (by omega) (by omega) (.int (nI (i / 2 ^ 1))) (.int (nI (i % 2))) (.int (nI 1)) (.int (nI 0)); rw [bitN_f (show ¬ rsP T i from fun h => by have h1 := h.1; have h2 := h.2; omega)] at hN; exact hN)
            | (refine lp_rst (u := 0) (v := 1) (by omega) (by decide) (by decide) ?_; rw [if_neg (by decide)]; have hN := ih (i + 1) (by omega) (by omega) (.int (nI (i / 2 ^ 1))) (.int (nI (i % 2))) (.int (nI 0)) (.int (nI 1)); rw [bitN_f (show ¬ rsP T i from fun h => by have h1 := h.1; have h2 := h.2; omega)] at hN; exact hN)
            | (refine lp_rst (u := 0) (v := 0) (by omega) (by decide) (by decide) ?_; rw [if_neg (by decide)]; have hN := ih (i + 1) (by omega) (by omega) (.int (nI (i / 2 ^ 1))) (.int (nI (i % 2))) (.int (nI 0)) (.int (nI 0)); rw [bitN_f (show ¬ rsP T i from fun h => by have h1 := h.1; have h2 := h.2; omega)] at hN; exact hN)
        · try simp (disch := omega) only [nI_b2, Decidable.not_not, nI_ltI, nI_leI, nI_eq, ge_iff_le, gt_iff_lt, ne_eq, Nat.not_lt, Nat.not_le] at c_89
          refine w_iconst (v := nI 1) dX7_rests_92 (by decide) ?_
          refine w_goto (tgt := 97) dX7_rests_93 (by decide) ?_
          refine w_istore_8 dX7_rests_97 rfl ?_
          first
            | (refine lp_rst (u := 1) (v := 1) (by omega) (by decide) (by decide) ?_; rw [if_pos (by decide)]; have hN := ih (i + 1) (by omega) (by omega) (.int (nI (i / 2 ^ 1))) (.int (nI (i % 2))) (.int (nI 1)) (.int (nI 1)); rw [bitN_t (show rsP T i from ⟨c_59, c_89⟩)] at hN; exact hN)
            | (refine lp_rst (u := 1) (v := 0) (by omega) (by decide) (by decide) ?_; rw [if_neg (by decide)]; have hN := ih (i + 1) (by omega) (by omega) (.int (nI (i / 2 ^ 1))) (.int (nI (i % 2))) (.int (nI 1)) (.int (nI 0)); rw [bitN_f (show ¬ rsP T i from fun h => by have h1 := h.1; have h2 := h.2; omega)] at hN; exact hN)
            | (refine lp_rst (u := 0) (v := 1) (by omega) (by decide) (by decide) ?_; rw [if_neg (by decide)]; have hN := ih (i + 1) (by omega) (by omega) (.int (nI (i / 2 ^ 1))) (.int (nI (i % 2))) (.int (nI 0)) (.int (nI 1)); rw [bitN_f (show ¬ rsP T i from fun h => by have h1 := h.1; have h2 := h.2; omega)] at hN; exact hN)
            | (refine lp_rst (u := 0) (v := 0) (by omega) (by decide) (by decide) ?_; rw [if_neg (by decide)]; have hN := ih (i + 1) (by omega) (by omega) (.int (nI (i / 2 ^ 1))) (.int (nI (i % 2))) (.int (nI 0)) (.int (nI 0)); rw [bitN_f (show ¬ rsP T i from fun h => by have h1 := h.1; have h2 := h.2; omega)] at hN; exact hN)
      · try simp (disch := omega) only [nI_b2, Decidable.not_not, nI_ltI, nI_leI, nI_eq, ge_iff_le, gt_iff_lt, ne_eq, Nat.not_lt, Nat.not_le] at c_59
        refine w_iconst (v := nI 1) dX7_rests_62 (by decide) ?_
        refine w_goto (tgt := 67) dX7_rests_63 (by decide) ?_
        refine w_istore_7 dX7_rests_67 rfl ?_
        refine w_iload dX7_rests_69 rfl ?_
        refine w_iload dX7_rests_71 rfl ?_
        refine w_iload_n dX7_rests_73 rfl ?_
        refine w_iload_n dX7_rests_74 rfl ?_
        refine wS4u dX7_rests_75 lk_X7_286 rfl (c_restCost (by omega) (by omega) (by omega)) (Nat.le_of_ble_eq_true rfl) (Nat.le_of_ble_eq_true rfl) (Nat.le_of_ble_eq_true rfl) (Nat.le_of_ble_eq_true rfl) ?_
        refine w_iconst (v := nI 1) dX7_rests_78 (by decide) ?_
        refine w_iload dX7_rests_79 rfl ?_
        refine w_isubN (by omega) dX7_rests_81 ?_
        refine w_iload dX7_rests_82 rfl ?_
        refine w_iload_n dX7_rests_84 rfl ?_
        refine w_iload_n dX7_rests_85 rfl ?_
        refine wS4u dX7_rests_86 lk_X7_286 rfl (c_restCost (by omega) (by omega) (by omega)) (Nat.le_of_ble_eq_true rfl) (Nat.le_of_ble_eq_true rfl) (Nat.le_of_ble_eq_true rfl) (Nat.le_of_ble_eq_true rfl) ?_
        refine w_icmp_gt (tgt := 96) dX7_rests_89 (by decide) (fun c_89 => ?_) (fun c_89 => ?_)
        · try simp (disch := omega) only [nI_b2, Decidable.not_not, nI_ltI, nI_leI, nI_eq, ge_iff_le, gt_iff_lt, ne_eq, Nat.not_lt, Nat.not_le] at c_89
          refine w_iconst (v := nI 0) dX7_rests_96 (by decide) ?_
          refine w_istore_8 dX7_rests_97 rfl ?_
          first
            | (refine lp_rst (u := 1) (v := 1) (by omega) (by decide) (by decide) ?_; rw [if_pos (by decide)]; have hN := ih (i + 1) (by omega) (by omega) (.int (nI (i / 2 ^ 1))) (.int (nI (i % 2))) (.int (nI 1)) (.int (nI 1)); rw [bitN_t (show rsP T i from ⟨c_59, c_89⟩)] at hN; exact hN)
            | (refine lp_rst (u := 1) (v := 0) (by omega) (by decide) (by decide) ?_; rw [if_neg (by decide)]; have hN := ih (i + 1) (by omega) (by omega) (.int (nI (i / 2 ^ 1))) (.int (nI (i % 2))) (.int (nI 1)) (.int (nI 0)); rw [bitN_f (show ¬ rsP T i from fun h => by have h1 := h.1; have h2 := h.2; omega)] at hN; exact hN)
            | (refine lp_rst (u := 0) (v := 1) (by omega) (by decide) (by decide) ?_; rw [if_neg (by decide)]; have hN := ih (i + 1) (by omega) (by omega) (.int (nI (i / 2 ^ 1))) (.int (nI (i % 2))) (.int (nI 0)) (.int (nI 1)); rw [bitN_f (show ¬ rsP T i from fun h => by have h1 := h.1; have h2 := h.2; omega)] at hN; exact hN)
            | (refine lp_rst (u := 0) (v := 0) (by omega) (by decide) (by decide) ?_; rw [if_neg (by decide)]; have hN := ih (i + 1) (by omega) (by omega) (.int (nI (i / 2 ^ 1))) (.int (nI (i % 2))) (.int (nI 0)) (.int (nI 0)); rw [bitN_f (show ¬ rsP T i from fun h => by have h1 := h.1; have h2 := h.2; omega)] at hN; exact hN)
        · try simp (disch := omega) only [nI_b2, Decidable.not_not, nI_ltI, nI_leI, nI_eq, ge_iff_le, gt_iff_lt, ne_eq, Nat.not_lt, Nat.not_le] at c_89
          refine w_iconst (v := nI 1) dX7_rests_92 (by decide) ?_
          refine w_goto (tgt := 97) dX7_rests_93 (by decide) ?_
          refine w_istore_8 dX7_rests_97 rfl ?_
          first
            | (refine lp_rst (u := 1) (v := 1) (by omega) (by decide) (by decide) ?_; rw [if_pos (by decide)]; have hN := ih (i + 1) (by omega) (by omega) (.int (nI (i / 2 ^ 1))) (.int (nI (i % 2))) (.int (nI 1)) (.int (nI 1)); rw [bitN_t (show rsP T i from ⟨c_59, c_89⟩)] at hN; exact hN)
            | (refine lp_rst (u := 1) (v := 0) (by omega) (by decide) (by decide) ?_; rw [if_neg (by decide)]; have hN := ih (i + 1) (by omega) (by omega) (.int (nI (i / 2 ^ 1))) (.int (nI (i % 2))) (.int (nI 1)) (.int (nI 0)); rw [bitN_f (show ¬ rsP T i from fun h => by have h1 := h.1; have h2 := h.2; omega)] at hN; exact hN)
            | (refine lp_rst (u := 0) (v := 1) (by omega) (by decide) (by decide) ?_; rw [if_neg (by decide)]; have hN := ih (i + 1) (by omega) (by omega) (.int (nI (i / 2 ^ 1))) (.int (nI (i % 2))) (.int (nI 0)) (.int (nI 1)); rw [bitN_f (show ¬ rsP T i from fun h => by have h1 := h.1; have h2 := h.2; omega)] at hN; exact hN)
            | (refine lp_rst (u := 0) (v := 0) (by omega) (by decide) (by decide) ?_; rw [if_neg (by decide)]; have hN := ih (i + 1) (by omega) (by omega) (.int (nI (i / 2 ^ 1))) (.int (nI (i % 2))) (.int (nI 0)) (.int (nI 0)); rw [bitN_f (show ¬ rsP T i from fun h => by have h1 := h.1; have h2 := h.2; omega)] at hN; exact hN)
theorem c_rests {E : EV} {G : AH} {B tn im nw rm ru sp : Nat} {f : Nat → Nat} {wb sd si : Int32} {T Ti : ST} {D Di : LD} {P : Nat → ST × Int32}  (hH : HI G B tn f wb T sd D im Ti si Di nw rm P ru sp)  : Cu E 5 kX7_rests [.ref B] G (.int (nI (bitN (rsP T) 4))) G := by
  obtain ⟨hB, ⟨htn, him, hnw, hrm⟩, hT, hRd, ⟨hI, hBd⟩, hS, ⟨hL, hD, hSp, hrs⟩, ⟨hIi, hBi, hLi, hDi⟩, ⟨hPa, hPi⟩, ⟨⟨we, hwe⟩, hSm, hSv, ⟨od, hod⟩⟩⟩ := id hH; obtain ⟨⟨_, _, _, _, _, _, gS0⟩, _⟩ := id hS; have hI0 := hI.1; have hIi0 := hIi.1
  obtain ⟨i0, i1, i2, i3, i4, i5, i6, i7, i8, i9, i10, i11, i12, i13⟩ := id hI
  obtain ⟨b0, b1, b2_, b3, b4, b5, b6, b7, b8, b9, b10, b11, b12, b13, b14, b15, b16, b17, b18, b19⟩ := id hBd
  have hls := HI.ls hH
  have hla : ru + 6 ≤ B + 9 ∨ B + 9 + 14 ≤ ru := by omega
  have hlb : ru + 6 ≤ B + 23 ∨ B + 23 + 14 ≤ ru := by omega
  refine Ct.intro rfl (by decide) [.ref B, .float 0, .float 0, .float 0, .float 0, .float 0, .float 0, .float 0, .float 0] (by simp [Value.category]) (Nat.le_of_ble_eq_true rfl) rfl ?_
  refine w_aload_n dX7_rests_0 rfl ?_
  refine w_getf dX7_rests_1 fl_X7_37 (by first | assumption | exact gs_at | (rw [gs_ne (by omega)]; (first | assumption | exact gs_at | (rw [gs_ne (by omega)]; (first | assumption | exact gs_at | (rw [gs_ne (by omega)]; (first | assumption | exact gs_at | (rw [gs_ne (by omega)]; (first | assumption | exact gs_at))))))))) rfl ?_
  refine wV0u dX7_rests_4 lk_X7_245 rfl (by first | assumption | exact gs_at | (rw [gs_ne (by omega)]; (first | assumption | exact gs_at | (rw [gs_ne (by omega)]; (first | assumption | exact gs_at | (rw [gs_ne (by omega)]; (first | assumption | exact gs_at | (rw [gs_ne (by omega)]; (first | assumption | exact gs_at))))))))) rfl rfl (c_workOfAll hI hBd) (Nat.le_of_ble_eq_true rfl) (Nat.le_of_ble_eq_true rfl) (Nat.le_of_ble_eq_true rfl) (Nat.le_of_ble_eq_true rfl) ?_
  refine w_istore_1 dX7_rests_7 rfl ?_
  refine w_aload_n dX7_rests_8 rfl ?_
  refine w_getf dX7_rests_9 fl_X7_37 (by first | assumption | exact gs_at | (rw [gs_ne (by omega)]; (first | assumption | exact gs_at | (rw [gs_ne (by omega)]; (first | assumption | exact gs_at | (rw [gs_ne (by omega)]; (first | assumption | exact gs_at | (rw [gs_ne (by omega)]; (first | assumption | exact gs_at))))))))) rfl ?_
  refine wV0u dX7_rests_12 lk_X7_283 rfl (by first | assumption | exact gs_at | (rw [gs_ne (by omega)]; (first | assumption | exact gs_at | (rw [gs_ne (by omega)]; (first | assumption | exact gs_at | (rw [gs_ne (by omega)]; (first | assumption | exact gs_at | (rw [gs_ne (by omega)]; (first | assumption | exact gs_at))))))))) rfl rfl (c_missingValue hI hBd) (Nat.le_of_ble_eq_true rfl) (Nat.le_of_ble_eq_true rfl) (Nat.le_of_ble_eq_true rfl) (Nat.le_of_ble_eq_true rfl) ?_
  refine w_istore_2 dX7_rests_15 rfl ?_
  refine w_iconst (v := nI 0) dX7_rests_16 (by decide) ?_
  refine w_istore_3 dX7_rests_17 rfl ?_
  refine w_iconst (v := nI 0) dX7_rests_18 (by decide) ?_
  refine w_istore_4 dX7_rests_19 rfl ?_
  exact lp_rests hH ⟨rfl, rfl⟩ 5 0 (by omega) (by omega) _ _ _ _
def tbN (x : Int32) (sh : Nat) : Nat := x.toBitVec.toNat / 2 ^ sh % 256
theorem tbI_N {x : Int32} {sh : Nat} (h : sh < 31) : tbI x sh = nI (tbN x sh) := by
  unfold tbI tbN
  rw [← Int32.toBitVec_inj]
  apply BitVec.eq_of_toNat_eq
  have hs : ((nI sh).toUInt32 &&& Int32.toUInt32 31).toNat = sh := by
    have h9 : ∀ s : Fin 31, ((nI s.1).toUInt32 &&& Int32.toUInt32 31).toNat = s.1 := by decide +kernel
    exact h9 ⟨sh, h⟩
  rw [Int32.toBitVec_and, BitVec.toNat_and]
  have e1 : (x.toUInt32 >>> ((nI sh).toUInt32 &&& Int32.toUInt32 31)).toInt32.toBitVec.toNat = x.toBitVec.toNat / 2 ^ sh := by
    show (x.toUInt32 >>> ((nI sh).toUInt32 &&& Int32.toUInt32 31)).toNat = _
    rw [UInt32.toNat_shiftRight, hs, Nat.mod_eq_of_lt (by omega), Nat.shiftRight_eq_div_pow]
    rfl
  have e2 : (nI 255).toBitVec.toNat = 2 ^ 8 - 1 := by decide
  rw [e1, e2, Nat.and_two_pow_sub_one_eq_mod]
  have h3 := Nat.mod_lt (x.toBitVec.toNat / 2 ^ sh) (show 0 < 2 ^ 8 by decide)
  show _ = (x.toBitVec.toNat / 2 ^ sh % 256) % 2 ^ 32
  omega
def updF (f : Nat → Nat) (k v : Nat) : Nat → Nat := fun i => if i = k then v else f i
theorem upd_F (f : Nat → Nat) (k v : Nat) : upd (fun i => nI (f i)) k (nI v) = fun i => nI (updF f k v i) := by
  funext i
  unfold upd updF
  split <;> rfl
def tp4 (f : Nat → Nat) (t : Nat) (x : Int32) : Nat → Nat := updF (updF (updF (updF f t (tbN x 24)) (t + 1) (tbN x 16)) (t + 1 + 1) (tbN x 8)) (t + 1 + 1 + 1) (tbN x 0)
theorem updF_lt {f : Nat → Nat} (h : ∀ i, f i < 256) (k : Nat) (x : Int32) (s : Nat) : ∀ i, updF f k (tbN x s) i < 256 := fun i => by
  unfold updF
  split
  · exact Nat.mod_lt _ (by decide)
  · exact h i
theorem tp4_lt {f : Nat → Nat} (h : ∀ i, f i < 256) (t : Nat) (x : Int32) : ∀ i, tp4 f t x i < 256 := updF_lt (updF_lt (updF_lt (updF_lt h _ _ _) _ _ _) _ _ _) _ _ _
theorem HI.byte {G : AH} {B tn im nw rm ru sp : Nat} {f : Nat → Nat} {wb sd si : Int32} {T Ti : ST} {D Di : LD} {P : Nat → ST × Int32} (h : HI G B tn f wb T sd D im Ti si Di nw rm P ru sp) {x : Int32} {s : Nat} (hs : s < 31) (ht : tn < 400) : HI (gs (gs G (B + 1) (aI 400 (upd (fun i => nI (f i)) tn (tbI x s)))) B (hO B (tn + 1) wb ru sp im nw rm)) B (tn + 1) (updF f tn (tbN x s)) wb T sd D im Ti si Di nw rm P ru sp := by
  have h1 := h.tape (f2 := updF f tn (tbN x s)) (updF_lt h.2.2.1.2 _ _ _)
  rw [tbI_N hs, upd_F]
  exact h1.obj (tn2 := tn + 1) (im2 := im) (nw2 := nw) (rm2 := rm) (wb2 := wb) ⟨by omega, h.2.1.2⟩
theorem fh_tp {G : AH} {B : Nat} {x y : HC} : FH G (gs (gs G (B + 1) x) B y) B := (FH.gs (by omega) (by omega)).tr (FH.gs (Nat.le_refl _) (by omega))
theorem c_tapeNumber {E : EV} {G : AH} {B tn im nw rm ru sp : Nat} {f : Nat → Nat} {wb sd si : Int32} {T Ti : ST} {D Di : LD} {P : Nat → ST × Int32} {x : Int32} (h0 : HI G B tn f wb T sd D im Ti si Di nw rm P ru sp) (ht : tn + 4 ≤ 400) : Cd E 2 kX7_tapeNumber [.ref B, .int x] G (fun G1 => HI G1 B (tn + 4) (tp4 f tn x) wb T sd D im Ti si Di nw rm P ru sp ∧ FH G G1 B) := by
  refine Ct.intro rfl (by decide) [.ref B, .int x, .float 0] (by simp [Value.category]) (Nat.le_of_ble_eq_true rfl) rfl ?_
  refine w_bipush (v := nI 24) dX7_tapeNumber_0 (by decide) ?_
  refine w_istore_2 dX7_tapeNumber_2 rfl ?_
  refine lp_tape (sh := 24) (z := nI 16) h0.1 h0.2.2.1.1 (by omega) (by decide) (by decide) ?_
  have h1 := h0.byte (x := x) (s := 24) (by decide) (by omega)
  refine lp_tape (sh := 16) (z := nI 8) h1.1 h1.2.2.1.1 (by omega) (by decide) (by decide) ?_
  have h2 := h1.byte (x := x) (s := 16) (by decide) (by omega)
  refine lp_tape (sh := 8) (z := nI 0) h2.1 h2.2.2.1.1 (by omega) (by decide) (by decide) ?_
  have h3 := h2.byte (x := x) (s := 8) (by decide) (by omega)
  refine lp_tape (sh := 0) (z := (-8)) h3.1 h3.2.2.1.1 (by omega) (by decide) (by decide) ?_
  have h4 := h3.byte (x := x) (s := 0) (by decide) (by omega)
  refine w_iload_n dX7_tapeNumber_3 rfl ?_
  refine w_ifN_lt (tgt := 41) dX7_tapeNumber_4 (by decide) (fun c_4 => ?_) (fun c_4 => absurd (show (-8 : Int32) < nI 0 by decide) c_4)
  refine w_vret dX7_tapeNumber_41 rfl (Nat.le_of_ble_eq_true rfl) (Nat.le_of_ble_eq_true rfl) ?_
  exact ⟨rfl, h4, fh_tp.tr (fh_tp.tr (fh_tp.tr fh_tp))⟩
def feedF (f : Nat → Nat) (t : Nat) (a b c d e : Int32) : Nat → Nat := tp4 (tp4 (tp4 (tp4 (tp4 f t a) (t + 4) b) (t + 4 + 4) c) (t + 4 + 4 + 4) d) (t + 4 + 4 + 4 + 4) e
theorem c_feed {E : EV} {G : AH} {B tn im nw rm ru sp : Nat} {f : Nat → Nat} {wb sd si : Int32} {T Ti : ST} {D Di : LD} {P : Nat → ST × Int32} {a b c d e : Int32} (hH : HI G B tn f wb T sd D im Ti si Di nw rm P ru sp)  : Ci E 3 kX7_feed [.ref B, .int a, .int b, .int c, .int d, .int e] G (fun r G1 => FH G G1 B ∧ ((380 < tn ∧ r = -1 ∧ HI G1 B tn f wb T sd D im Ti si Di nw rm P ru sp) ∨ (tn ≤ 380 ∧ r = nI (tn + 20) ∧ HI G1 B (tn + 20) (feedF f tn a b c d e) wb T sd D im Ti si Di nw rm P ru sp))) := by
  obtain ⟨hB, ⟨htn, him, hnw, hrm⟩, hT, hRd, ⟨hI, hBd⟩, hS, ⟨hL, hD, hSp, hrs⟩, ⟨hIi, hBi, hLi, hDi⟩, ⟨hPa, hPi⟩, ⟨⟨we, hwe⟩, hSm, hSv, ⟨od, hod⟩⟩⟩ := id hH; obtain ⟨⟨_, _, _, _, _, _, gS0⟩, _⟩ := id hS; have hI0 := hI.1; have hIi0 := hIi.1
  obtain ⟨i0, i1, i2, i3, i4, i5, i6, i7, i8, i9, i10, i11, i12, i13⟩ := id hI
  obtain ⟨b0, b1, b2_, b3, b4, b5, b6, b7, b8, b9, b10, b11, b12, b13, b14, b15, b16, b17, b18, b19⟩ := id hBd
  have hls := HI.ls hH
  have hla : ru + 6 ≤ B + 9 ∨ B + 9 + 14 ≤ ru := by omega
  have hlb : ru + 6 ≤ B + 23 ∨ B + 23 + 14 ≤ ru := by omega
  have h0 := hH
  refine Ct.intro rfl (by decide) [.ref B, .int a, .int b, .int c, .int d, .int e] (by simp [Value.category]) (Nat.le_of_ble_eq_true rfl) rfl ?_
  refine w_aload_n dX7_feed_0 rfl ?_
  refine w_getf dX7_feed_1 fl_X7_13 (by first | assumption | exact gs_at | (rw [gs_ne (by omega)]; (first | assumption | exact gs_at | (rw [gs_ne (by omega)]; (first | assumption | exact gs_at | (rw [gs_ne (by omega)]; (first | assumption | exact gs_at | (rw [gs_ne (by omega)]; (first | assumption | exact gs_at))))))))) rfl ?_
  refine w_sipush (v := nI 380) dX7_feed_4 (by decide) ?_
  refine w_icmp_le (tgt := 12) dX7_feed_7 (by decide) (fun c_7 => ?_) (fun c_7 => ?_)
  · try simp (disch := omega) only [nI_b2, Decidable.not_not, nI_ltI, nI_leI, nI_eq, ge_iff_le, gt_iff_lt, ne_eq, Nat.not_lt, Nat.not_le] at c_7
    refine w_aload_n dX7_feed_12 rfl ?_
    refine w_iload_n dX7_feed_13 rfl ?_
    refine wV1d dX7_feed_14 lk_X7_90 rfl (by first | assumption | exact gs_at | (rw [gs_ne (by omega)]; (first | assumption | exact gs_at | (rw [gs_ne (by omega)]; (first | assumption | exact gs_at | (rw [gs_ne (by omega)]; (first | assumption | exact gs_at | (rw [gs_ne (by omega)]; (first | assumption | exact gs_at))))))))) rfl rfl (c_tapeNumber h0 (by omega)) (Nat.le_of_ble_eq_true rfl) (Nat.le_of_ble_eq_true rfl) (Nat.le_of_ble_eq_true rfl) (Nat.le_of_ble_eq_true rfl) (fun G h_14 => ?_)
    obtain ⟨h1, hF1⟩ := h_14
    have hB1 := h1.1
    refine w_aload_n dX7_feed_17 rfl ?_
    refine w_iload_n dX7_feed_18 rfl ?_
    refine wV1d dX7_feed_19 lk_X7_90 rfl (by first | assumption | exact gs_at | (rw [gs_ne (by omega)]; (first | assumption | exact gs_at | (rw [gs_ne (by omega)]; (first | assumption | exact gs_at | (rw [gs_ne (by omega)]; (first | assumption | exact gs_at | (rw [gs_ne (by omega)]; (first | assumption | exact gs_at))))))))) rfl rfl (c_tapeNumber h1 (by omega)) (Nat.le_of_ble_eq_true rfl) (Nat.le_of_ble_eq_true rfl) (Nat.le_of_ble_eq_true rfl) (Nat.le_of_ble_eq_true rfl) (fun G h_19 => ?_)
    obtain ⟨h2, hF2⟩ := h_19
    have hB2 := h2.1
    refine w_aload_n dX7_feed_22 rfl ?_
    refine w_iload_n dX7_feed_23 rfl ?_
    refine wV1d dX7_feed_24 lk_X7_90 rfl (by first | assumption | exact gs_at | (rw [gs_ne (by omega)]; (first | assumption | exact gs_at | (rw [gs_ne (by omega)]; (first | assumption | exact gs_at | (rw [gs_ne (by omega)]; (first | assumption | exact gs_at | (rw [gs_ne (by omega)]; (first | assumption | exact gs_at))))))))) rfl rfl (c_tapeNumber h2 (by omega)) (Nat.le_of_ble_eq_true rfl) (Nat.le_of_ble_eq_true rfl) (Nat.le_of_ble_eq_true rfl) (Nat.le_of_ble_eq_true rfl) (fun G h_24 => ?_)
    obtain ⟨h3, hF3⟩ := h_24
    have hB3 := h3.1
    refine w_aload_n dX7_feed_27 rfl ?_
    refine w_iload dX7_feed_28 rfl ?_
    refine wV1d dX7_feed_30 lk_X7_90 rfl (by first | assumption | exact gs_at | (rw [gs_ne (by omega)]; (first | assumption | exact gs_at | (rw [gs_ne (by omega)]; (first | assumption | exact gs_at | (rw [gs_ne (by omega)]; (first | assumption | exact gs_at | (rw [gs_ne (by omega)]; (first | assumption | exact gs_at))))))))) rfl rfl (c_tapeNumber h3 (by omega)) (Nat.le_of_ble_eq_true rfl) (Nat.le_of_ble_eq_true rfl) (Nat.le_of_ble_eq_true rfl) (Nat.le_of_ble_eq_true rfl) (fun G h_30 => ?_)
    obtain ⟨h4, hF4⟩ := h_30
    have hB4 := h4.1
    refine w_aload_n dX7_feed_33 rfl ?_
    refine w_iload dX7_feed_34 rfl ?_
    refine wV1d dX7_feed_36 lk_X7_90 rfl (by first | assumption | exact gs_at | (rw [gs_ne (by omega)]; (first | assumption | exact gs_at | (rw [gs_ne (by omega)]; (first | assumption | exact gs_at | (rw [gs_ne (by omega)]; (first | assumption | exact gs_at | (rw [gs_ne (by omega)]; (first | assumption | exact gs_at))))))))) rfl rfl (c_tapeNumber h4 (by omega)) (Nat.le_of_ble_eq_true rfl) (Nat.le_of_ble_eq_true rfl) (Nat.le_of_ble_eq_true rfl) (Nat.le_of_ble_eq_true rfl) (fun G h_36 => ?_)
    obtain ⟨h5, hF5⟩ := h_36
    have hB5 := h5.1
    refine w_aload_n dX7_feed_39 rfl ?_
    refine w_getf dX7_feed_40 fl_X7_13 (by first | assumption | exact gs_at | (rw [gs_ne (by omega)]; (first | assumption | exact gs_at | (rw [gs_ne (by omega)]; (first | assumption | exact gs_at | (rw [gs_ne (by omega)]; (first | assumption | exact gs_at | (rw [gs_ne (by omega)]; (first | assumption | exact gs_at))))))))) rfl ?_
    refine w_iret dX7_feed_43 rfl (Nat.le_of_ble_eq_true rfl) (Nat.le_of_ble_eq_true rfl) ?_
    first
      | exact ⟨_, rfl, FH.rf, Or.inl ⟨by omega, rfl, hH⟩⟩
      | exact ⟨_, rfl, hF1.tr (hF2.tr (hF3.tr (hF4.tr hF5))), Or.inr ⟨by omega, rfl, h5⟩⟩
  · try simp (disch := omega) only [nI_b2, Decidable.not_not, nI_ltI, nI_leI, nI_eq, ge_iff_le, gt_iff_lt, ne_eq, Nat.not_lt, Nat.not_le] at c_7
    refine w_iconst (v := (-1)) dX7_feed_10 (by decide) ?_
    refine w_iret dX7_feed_11 rfl (Nat.le_of_ble_eq_true rfl) (Nat.le_of_ble_eq_true rfl) ?_
    first
      | exact ⟨_, rfl, FH.rf, Or.inl ⟨by omega, rfl, hH⟩⟩
      | exact ⟨_, rfl, hF1.tr (hF2.tr (hF3.tr (hF4.tr hF5))), Or.inr ⟨by omega, rfl, h5⟩⟩
