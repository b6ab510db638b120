/-! a law being read: an atom's end, parts, sums -/
def tkU (y : Nat → Nat) (n : Nat) (u : US) : US := ((nxt y n u.1.1, u.1.2), u.2)
def rfU (u : US) : US := (sRf u.1, u.2)
def emU (c : Int32) (u : US) : US := (u.1, emX u.2.1 c, u.2.2)
def popU (u : US) : US := (u.1, u.2.1, u.2.2.1, u.2.2.2.1 - 1, u.2.2.2.2 - nI 1)
def uJoin (y : Nat → Nat) (n : Nat) (u : US) : Nat × US := if atB y n u.1.1 [97, 110, 100] = true then (1, uHold (-14) (uRel (-14) (tkU y n u))) else if atB y n u.1.1 [111, 114] = true then (1, uHold (-15) (uRel (-15) (tkU y n u))) else (0, u)
def uCl (y : Nat → Nat) (n : Nat) : Nat → US → US
  | 0, u => u
  | k + 1, u => if atB y n u.1.1 [41] = true then (if (uRel (-15) u).2.2.2.1 = 0 then rfU (uRel (-15) u) else uCl y n k (uRel (-13) (tkU y n (popU (uRel (-15) u))))) else u
def uClose (y : Nat → Nat) (n : Nat) (u : US) : US := uCl y n 7 (uRel (-13) u)
theorem uRel_le (lo : Int32) (u : US) : (uRel lo u).2.2.2.1 ≤ u.2.2.2.1 := rel_le _ _ _ _ _
theorem uCl_le (y : Nat → Nat) (n : Nat) : ∀ (k : Nat) (u : US), (uCl y n k u).2.2.2.1 ≤ u.2.2.2.1
  | 0, u => Nat.le_refl _
  | k + 1, u => by
    rw [uCl]
    split
    · split
      · exact uRel_le _ u
      · refine Nat.le_trans (uCl_le y n k _) (Nat.le_trans (uRel_le _ _) ?_)
        show (uRel (-15) u).2.2.2.1 - 1 ≤ _
        have := uRel_le (-15) u
        omega
    · exact Nat.le_refl _
theorem uClose_le (y : Nat → Nat) (n : Nat) (u : US) : (uClose y n u).2.2.2.1 ≤ u.2.2.2.1 := Nat.le_trans (uCl_le y n 7 _) (uRel_le _ u)
theorem uJoin_le (y : Nat → Nat) (n : Nat) (u : US) : (uJoin y n u).2.2.2.2.1 ≤ u.2.2.2.1 + 1 := by
  unfold uJoin
  split
  · exact Nat.succ_le_succ (uRel_le _ (tkU y n u))
  · split
    · exact Nat.succ_le_succ (uRel_le _ (tkU y n u))
    · exact Nat.le_succ _
def pC (y : Nat → Nat) (n p : Nat) : Int32 := if atB y n p [105, 116, 101, 109] = true then -1 else if atB y n p [114, 111, 111, 109] = true then -2 else if atB y n p [119, 111, 114, 110] = true then -3 else if atB y n p [118, 97, 108, 117, 101] = true then -4 else if atB y n p [115, 105, 100, 101] = true then -5 else if atB y n p [100, 97, 121] = true then -6 else if atB y n p [115, 111, 105, 108, 101, 100] = true then -7 else 0
def uPart (y : Nat → Nat) (n : Nat) (u : US) : US := if pC y n u.1.1 = 0 then (sNum y n 0 1000 u.1, emX u.2.1 (vNum y n 0 1000 u.1), u.2.2) else tkU y n (emU (pC y n u.1.1) u)
def uSm (y : Nat → Nat) (n : Nat) : Nat → US → US
  | 0, u => u
  | k + 1, u => if (uPart y n u).1.2 = -1 then (if atB y n (uPart y n u).1.1 [43] = true then uSm y n k (tkU y n (uPart y n u)) else uPart y n u) else uPart y n u
def uSum (y : Nat → Nat) (n : Nat) (u : US) : US := if u.1.2 = -1 then uSm y n 400 u else u
theorem c_partCode {E : EV} {v l n : Nat} {y : Nat → Nat} {u : US} {G : AH} (hX : Lx G v l y n u) (hd : l + 6 ≤ v ∨ v + 4 ≤ l) : Cu E 8 kX3_partCode [.ref v] G (.int (pC y n u.1.1)) G := by
  obtain ⟨v0, v3, hR, hL, hu, hw⟩ := id hX
  obtain ⟨r0, r1, -⟩ := id hR
  obtain ⟨l0, -⟩ := id hL
  refine Ct.intro rfl (by decide) [.ref v] (by simp [Value.category]) (Nat.le_of_ble_eq_true rfl) rfl ?_
  refine w_aload_n dX3_partCode_0 rfl ?_
  refine w_getf dX3_partCode_1 fl_X3_12 (by first | assumption | exact gs_at | (rw [gs_ne (by omega)]; (first | assumption | exact gs_at | (rw [gs_ne (by omega)]; (first | assumption | exact gs_at | (rw [gs_ne (by omega)]; (first | assumption | exact gs_at | (rw [gs_ne (by omega)]; (first | assumption | exact gs_at))))))))) rfl ?_
  refine w_ldcS (i := 21) rfl rfl dX3_partCode_4 ?_
  refine wV1u dX3_partCode_6 lk_X3_63 rfl (by first | assumption | exact gs_at | (rw [gs_ne (by omega)]; (first | assumption | exact gs_at | (rw [gs_ne (by omega)]; (first | assumption | exact gs_at | (rw [gs_ne (by omega)]; (first | assumption | exact gs_at | (rw [gs_ne (by omega)]; (first | assumption | exact gs_at))))))))) rfl rfl (c_isAt (ws := [105, 116, 101, 109]) rfl rfl (by decide) (by decide) hR) (Nat.le_of_ble_eq_true rfl) (Nat.le_of_ble_eq_true rfl) (Nat.le_of_ble_eq_true rfl) (Nat.le_of_ble_eq_true rfl) ?_
  refine w_ifN_eq (tgt := 16) dX3_partCode_9 (by decide) (fun c_9 => ?_) (fun c_9 => ?_)
  · try simp only [nI_b2, ne_eq, Decidable.not_not] at c_9
    refine w_aload_n dX3_partCode_16 rfl ?_
    refine w_getf dX3_partCode_17 fl_X3_12 (by first | assumption | exact gs_at | (rw [gs_ne (by omega)]; (first | assumption | exact gs_at | (rw [gs_ne (by omega)]; (first | assumption | exact gs_at | (rw [gs_ne (by omega)]; (first | assumption | exact gs_at | (rw [gs_ne (by omega)]; (first | assumption | exact gs_at))))))))) rfl ?_
    refine w_ldcS (i := 22) rfl rfl dX3_partCode_20 ?_
    refine wV1u dX3_partCode_22 lk_X3_63 rfl (by first | assumption | exact gs_at | (rw [gs_ne (by omega)]; (first | assumption | exact gs_at | (rw [gs_ne (by omega)]; (first | assumption | exact gs_at | (rw [gs_ne (by omega)]; (first | assumption | exact gs_at | (rw [gs_ne (by omega)]; (first | assumption | exact gs_at))))))))) rfl rfl (c_isAt (ws := [114, 111, 111, 109]) rfl rfl (by decide) (by decide) hR) (Nat.le_of_ble_eq_true rfl) (Nat.le_of_ble_eq_true rfl) (Nat.le_of_ble_eq_true rfl) (Nat.le_of_ble_eq_true rfl) ?_
    refine w_ifN_eq (tgt := 33) dX3_partCode_25 (by decide) (fun c_25 => ?_) (fun c_25 => ?_)
    · try simp only [nI_b2, ne_eq, Decidable.not_not] at c_25
      refine w_aload_n dX3_partCode_33 rfl ?_
      refine w_getf dX3_partCode_34 fl_X3_12 (by first | assumption | exact gs_at | (rw [gs_ne (by omega)]; (first | assumption | exact gs_at | (rw [gs_ne (by omega)]; (first | assumption | exact gs_at | (rw [gs_ne (by omega)]; (first | assumption | exact gs_at | (rw [gs_ne (by omega)]; (first | assumption | exact gs_at))))))))) rfl ?_
      refine w_ldcS (i := 23) rfl rfl dX3_partCode_37 ?_
      refine wV1u dX3_partCode_39 lk_X3_63 rfl (by first | assumption | exact gs_at | (rw [gs_ne (by omega)]; (first | assumption | exact gs_at | (rw [gs_ne (by omega)]; (first | assumption | exact gs_at | (rw [gs_ne (by omega)]; (first | assumption | exact gs_at | (rw [gs_ne (by omega)]; (first | assumption | exact gs_at))))))))) rfl rfl (c_isAt (ws := [119, 111, 114, 110]) rfl rfl (by decide) (by decide) hR) (Nat.le_of_ble_eq_true rfl) (Nat.le_of_ble_eq_true rfl) (Nat.le_of_ble_eq_true rfl) (Nat.le_of_ble_eq_true rfl) ?_
      refine w_ifN_eq (tgt := 50) dX3_partCode_42 (by decide) (fun c_42 => ?_) (fun c_42 => ?_)
      · try simp only [nI_b2, ne_eq, Decidable.not_not] at c_42
        refine w_aload_n dX3_partCode_50 rfl ?_
        refine w_getf dX3_partCode_51 fl_X3_12 (by first | assumption | exact gs_at | (rw [gs_ne (by omega)]; (first | assumption | exact gs_at | (rw [gs_ne (by omega)]; (first | assumption | exact gs_at | (rw [gs_ne (by omega)]; (first | assumption | exact gs_at | (rw [gs_ne (by omega)]; (first | assumption | exact gs_at))))))))) rfl ?_
        refine w_ldcS (i := 24) rfl rfl dX3_partCode_54 ?_
        refine wV1u dX3_partCode_56 lk_X3_63 rfl (by first | assumption | exact gs_at | (rw [gs_ne (by omega)]; (first | assumption | exact gs_at | (rw [gs_ne (by omega)]; (first | assumption | exact gs_at | (rw [gs_ne (by omega)]; (first | assumption | exact gs_at | (rw [gs_ne (by omega)]; (first | assumption | exact gs_at))))))))) rfl rfl (c_isAt (ws := [118, 97, 108, 117, 101]) rfl rfl (by decide) (by decide) hR) (Nat.le_of_ble_eq_true rfl) (Nat.le_of_ble_eq_true rfl) (Nat.le_of_ble_eq_true rfl) (Nat.le_of_ble_eq_true rfl) ?_
        refine w_ifN_eq (tgt := 67) dX3_partCode_59 (by decide) (fun c_59 => ?_) (fun c_59 => ?_)
        · try simp only [nI_b2, ne_eq, Decidable.not_not] at c_59
          refine w_aload_n dX3_partCode_67 rfl ?_
          refine w_getf dX3_partCode_68 fl_X3_12 (by first | assumption | exact gs_at | (rw [gs_ne (by omega)]; (first | assumption | exact gs_at | (rw [gs_ne (by omega)]; (first | assumption | exact gs_at | (rw [gs_ne (by omega)]; (first | assumption | exact gs_at | (rw [gs_ne (by omega)]; (first | assumption | exact gs_at))))))))) rfl ?_
          refine w_ldcS (i := 25) rfl rfl dX3_partCode_71 ?_
          refine wV1u dX3_partCode_73 lk_X3_63 rfl (by first | assumption | exact gs_at | (rw [gs_ne (by omega)]; (first | assumption | exact gs_at | (rw [gs_ne (by omega)]; (first | assumption | exact gs_at | (rw [gs_ne (by omega)]; (first | assumption | exact gs_at | (rw [gs_ne (by omega)]; (first | assumption | exact gs_at))))))))) rfl rfl (c_isAt (ws := [115, 105, 100, 101]) rfl rfl (by decide) (by decide) hR) (Nat.le_of_ble_eq_true rfl) (Nat.le_of_ble_eq_true rfl) (Nat.le_of_ble_eq_true rfl) (Nat.le_of_ble_eq_true rfl) ?_
          refine w_ifN_eq (tgt := 84) dX3_partCode_76 (by decide) (fun c_76 => ?_) (fun c_76 => ?_)
          · try simp only [nI_b2, ne_eq, Decidable.not_not] at c_76
            refine w_aload_n dX3_partCode_84 rfl ?_
            refine w_getf dX3_partCode_85 fl_X3_12 (by first | assumption | exact gs_at | (rw [gs_ne (by omega)]; (first | assumption | exact gs_at | (rw [gs_ne (by omega)]; (first | assumption | exact gs_at | (rw [gs_ne (by omega)]; (first | assumption | exact gs_at | (rw [gs_ne (by omega)]; (first | assumption | exact gs_at))))))))) rfl ?_
            refine w_ldcS (i := 26) rfl rfl dX3_partCode_88 ?_
            refine wV1u dX3_partCode_90 lk_X3_63 rfl (by first | assumption | exact gs_at | (rw [gs_ne (by omega)]; (first | assumption | exact gs_at | (rw [gs_ne (by omega)]; (first | assumption | exact gs_at | (rw [gs_ne (by omega)]; (first | assumption | exact gs_at | (rw [gs_ne (by omega)]; (first | assumption | exact gs_at))))))))) rfl rfl (c_isAt (ws := [100, 97, 121]) rfl rfl (by decide) (by decide) hR) (Nat.le_of_ble_eq_true rfl) (Nat.le_of_ble_eq_true rfl) (Nat.le_of_ble_eq_true rfl) (Nat.le_of_ble_eq_true rfl) ?_
            refine w_ifN_eq (tgt := 101) dX3_partCode_93 (by decide) (fun c_93 => ?_) (fun c_93 => ?_)
            · try simp only [nI_b2, ne_eq, Decidable.not_not] at c_93
              refine w_aload_n dX3_partCode_101 rfl ?_
              refine w_getf dX3_partCode_102 fl_X3_12 (by first | assumption | exact gs_at | (rw [gs_ne (by omega)]; (first | assumption | exact gs_at | (rw [gs_ne (by omega)]; (first | assumption | exact gs_at | (rw [gs_ne (by omega)]; (first | assumption | exact gs_at | (rw [gs_ne (by omega)]; (first | assumption | exact gs_at))))))))) rfl ?_
              refine w_ldcS (i := 27) rfl rfl dX3_partCode_105 ?_
              refine wV1u dX3_partCode_107 lk_X3_63 rfl (by first | assumption | exact gs_at | (rw [gs_ne (by omega)]; (first | assumption | exact gs_at | (rw [gs_ne (by omega)]; (first | assumption | exact gs_at | (rw [gs_ne (by omega)]; (first | assumption | exact gs_at | (rw [gs_ne (by omega)]; (first | assumption | exact gs_at))))))))) rfl rfl (c_isAt (ws := [115, 111, 105, 108, 101, 100]) rfl rfl (by decide) (by decide) hR) (Nat.le_of_ble_eq_true rfl) (Nat.le_of_ble_eq_true rfl) (Nat.le_of_ble_eq_true rfl) (Nat.le_of_ble_eq_true rfl) ?_
              refine w_ifN_eq (tgt := 118) dX3_partCode_110 (by decide) (fun c_110 => ?_) (fun c_110 => ?_)
              · try simp only [nI_b2, ne_eq, Decidable.not_not] at c_110
                refine w_iconst (v := nI 0) dX3_partCode_118 (by decide) ?_
                refine w_iret dX3_partCode_119 rfl (Nat.le_of_ble_eq_true rfl) (Nat.le_of_ble_eq_true rfl) ?_
                refine ⟨?_, rfl⟩
                unfold pC
                first
                  | rw [if_pos c_9]
                  | rw [if_neg c_9, if_pos c_25]
                  | rw [if_neg c_9, if_neg c_25, if_pos c_42]
                  | rw [if_neg c_9, if_neg c_25, if_neg c_42, if_pos c_59]
                  | rw [if_neg c_9, if_neg c_25, if_neg c_42, if_neg c_59, if_pos c_76]
                  | rw [if_neg c_9, if_neg c_25, if_neg c_42, if_neg c_59, if_neg c_76, if_pos c_93]
                  | rw [if_neg c_9, if_neg c_25, if_neg c_42, if_neg c_59, if_neg c_76, if_neg c_93, if_pos c_110]
                  | (rw [if_neg c_9, if_neg c_25, if_neg c_42, if_neg c_59, if_neg c_76, if_neg c_93, if_neg c_110]; rfl)
              · try simp only [nI_b2, ne_eq, Decidable.not_not] at c_110
                refine w_bipush (v := (-7)) dX3_partCode_113 (by decide) ?_
                refine w_goto (tgt := 119) dX3_partCode_115 (by decide) ?_
                refine w_iret dX3_partCode_119 rfl (Nat.le_of_ble_eq_true rfl) (Nat.le_of_ble_eq_true rfl) ?_
                refine ⟨?_, rfl⟩
                unfold pC
                first
                  | rw [if_pos c_9]
                  | rw [if_neg c_9, if_pos c_25]
                  | rw [if_neg c_9, if_neg c_25, if_pos c_42]
                  | rw [if_neg c_9, if_neg c_25, if_neg c_42, if_pos c_59]
                  | rw [if_neg c_9, if_neg c_25, if_neg c_42, if_neg c_59, if_pos c_76]
                  | rw [if_neg c_9, if_neg c_25, if_neg c_42, if_neg c_59, if_neg c_76, if_pos c_93]
                  | rw [if_neg c_9, if_neg c_25, if_neg c_42, if_neg c_59, if_neg c_76, if_neg c_93, if_pos c_110]
                  | (rw [if_neg c_9, if_neg c_25, if_neg c_42, if_neg c_59, if_neg c_76, if_neg c_93, if_neg c_110]; rfl)
            · try simp only [nI_b2, ne_eq, Decidable.not_not] at c_93
              refine w_bipush (v := (-6)) dX3_partCode_96 (by decide) ?_
              refine w_goto (tgt := 119) dX3_partCode_98 (by decide) ?_
              refine w_iret dX3_partCode_119 rfl (Nat.le_of_ble_eq_true rfl) (Nat.le_of_ble_eq_true rfl) ?_
              refine ⟨?_, rfl⟩
              unfold pC
              first
                | rw [if_pos c_9]
                | rw [if_neg c_9, if_pos c_25]
                | rw [if_neg c_9, if_neg c_25, if_pos c_42]
                | rw [if_neg c_9, if_neg c_25, if_neg c_42, if_pos c_59]
                | rw [if_neg c_9, if_neg c_25, if_neg c_42, if_neg c_59, if_pos c_76]
                | rw [if_neg c_9, if_neg c_25, if_neg c_42, if_neg c_59, if_neg c_76, if_pos c_93]
                | rw [if_neg c_9, if_neg c_25, if_neg c_42, if_neg c_59, if_neg c_76, if_neg c_93, if_pos c_110]
                | (rw [if_neg c_9, if_neg c_25, if_neg c_42, if_neg c_59, if_neg c_76, if_neg c_93, if_neg c_110]; rfl)
          · try simp only [nI_b2, ne_eq, Decidable.not_not] at c_76
            refine w_bipush (v := (-5)) dX3_partCode_79 (by decide) ?_
            refine w_goto (tgt := 119) dX3_partCode_81 (by decide) ?_
            refine w_iret dX3_partCode_119 rfl (Nat.le_of_ble_eq_true rfl) (Nat.le_of_ble_eq_true rfl) ?_
            refine ⟨?_, rfl⟩
            unfold pC
            first
              | rw [if_pos c_9]
              | rw [if_neg c_9, if_pos c_25]
              | rw [if_neg c_9, if_neg c_25, if_pos c_42]
              | rw [if_neg c_9, if_neg c_25, if_neg c_42, if_pos c_59]
              | rw [if_neg c_9, if_neg c_25, if_neg c_42, if_neg c_59, if_pos c_76]
              | rw [if_neg c_9, if_neg c_25, if_neg c_42, if_neg c_59, if_neg c_76, if_pos c_93]
              | rw [if_neg c_9, if_neg c_25, if_neg c_42, if_neg c_59, if_neg c_76, if_neg c_93, if_pos c_110]
              | (rw [if_neg c_9, if_neg c_25, if_neg c_42, if_neg c_59, if_neg c_76, if_neg c_93, if_neg c_110]; rfl)
        · try simp only [nI_b2, ne_eq, Decidable.not_not] at c_59
          refine w_bipush (v := (-4)) dX3_partCode_62 (by decide) ?_
          refine w_goto (tgt := 119) dX3_partCode_64 (by decide) ?_
          refine w_iret dX3_partCode_119 rfl (Nat.le_of_ble_eq_true rfl) (Nat.le_of_ble_eq_true rfl) ?_
          refine ⟨?_, rfl⟩
          unfold pC
          first
            | rw [if_pos c_9]
            | rw [if_neg c_9, if_pos c_25]
            | rw [if_neg c_9, if_neg c_25, if_pos c_42]
            | rw [if_neg c_9, if_neg c_25, if_neg c_42, if_pos c_59]
            | rw [if_neg c_9, if_neg c_25, if_neg c_42, if_neg c_59, if_pos c_76]
            | rw [if_neg c_9, if_neg c_25, if_neg c_42, if_neg c_59, if_neg c_76, if_pos c_93]
            | rw [if_neg c_9, if_neg c_25, if_neg c_42, if_neg c_59, if_neg c_76, if_neg c_93, if_pos c_110]
            | (rw [if_neg c_9, if_neg c_25, if_neg c_42, if_neg c_59, if_neg c_76, if_neg c_93, if_neg c_110]; rfl)
      · try simp only [nI_b2, ne_eq, Decidable.not_not] at c_42
        refine w_bipush (v := (-3)) dX3_partCode_45 (by decide) ?_
        refine w_goto (tgt := 119) dX3_partCode_47 (by decide) ?_
        refine w_iret dX3_partCode_119 rfl (Nat.le_of_ble_eq_true rfl) (Nat.le_of_ble_eq_true rfl) ?_
        refine ⟨?_, rfl⟩
        unfold pC
        first
          | rw [if_pos c_9]
          | rw [if_neg c_9, if_pos c_25]
          | rw [if_neg c_9, if_neg c_25, if_pos c_42]
          | rw [if_neg c_9, if_neg c_25, if_neg c_42, if_pos c_59]
          | rw [if_neg c_9, if_neg c_25, if_neg c_42, if_neg c_59, if_pos c_76]
          | rw [if_neg c_9, if_neg c_25, if_neg c_42, if_neg c_59, if_neg c_76, if_pos c_93]
          | rw [if_neg c_9, if_neg c_25, if_neg c_42, if_neg c_59, if_neg c_76, if_neg c_93, if_pos c_110]
          | (rw [if_neg c_9, if_neg c_25, if_neg c_42, if_neg c_59, if_neg c_76, if_neg c_93, if_neg c_110]; rfl)
    · try simp only [nI_b2, ne_eq, Decidable.not_not] at c_25
      refine w_bipush (v := (-2)) dX3_partCode_28 (by decide) ?_
      refine w_goto (tgt := 119) dX3_partCode_30 (by decide) ?_
      refine w_iret dX3_partCode_119 rfl (Nat.le_of_ble_eq_true rfl) (Nat.le_of_ble_eq_true rfl) ?_
      refine ⟨?_, rfl⟩
      unfold pC
      first
        | rw [if_pos c_9]
        | rw [if_neg c_9, if_pos c_25]
        | rw [if_neg c_9, if_neg c_25, if_pos c_42]
        | rw [if_neg c_9, if_neg c_25, if_neg c_42, if_pos c_59]
        | rw [if_neg c_9, if_neg c_25, if_neg c_42, if_neg c_59, if_pos c_76]
        | rw [if_neg c_9, if_neg c_25, if_neg c_42, if_neg c_59, if_neg c_76, if_pos c_93]
        | rw [if_neg c_9, if_neg c_25, if_neg c_42, if_neg c_59, if_neg c_76, if_neg c_93, if_pos c_110]
        | (rw [if_neg c_9, if_neg c_25, if_neg c_42, if_neg c_59, if_neg c_76, if_neg c_93, if_neg c_110]; rfl)
  · try simp only [nI_b2, ne_eq, Decidable.not_not] at c_9
    refine w_iconst (v := (-1)) dX3_partCode_12 (by decide) ?_
    refine w_goto (tgt := 119) dX3_partCode_13 (by decide) ?_
    refine w_iret dX3_partCode_119 rfl (Nat.le_of_ble_eq_true rfl) (Nat.le_of_ble_eq_true rfl) ?_
    refine ⟨?_, rfl⟩
    unfold pC
    first
      | rw [if_pos c_9]
      | rw [if_neg c_9, if_pos c_25]
      | rw [if_neg c_9, if_neg c_25, if_pos c_42]
      | rw [if_neg c_9, if_neg c_25, if_neg c_42, if_pos c_59]
      | rw [if_neg c_9, if_neg c_25, if_neg c_42, if_neg c_59, if_pos c_76]
      | rw [if_neg c_9, if_neg c_25, if_neg c_42, if_neg c_59, if_neg c_76, if_pos c_93]
      | rw [if_neg c_9, if_neg c_25, if_neg c_42, if_neg c_59, if_neg c_76, if_neg c_93, if_pos c_110]
      | (rw [if_neg c_9, if_neg c_25, if_neg c_42, if_neg c_59, if_neg c_76, if_neg c_93, if_neg c_110]; rfl)
theorem c_joins {E : EV} {v l n : Nat} {y : Nat → Nat} {u : US} {G : AH} (hX : Lx G v l y n u) (hd : l + 6 ≤ v ∨ v + 4 ≤ l) (hw2 : u.2.2.2.1 + 1 < 2 ^ 20) : Ci E 9 kX3_joins [.ref v, .ref l] G (fun r G1 => r = nI (uJoin y n u).1 ∧ Lx G1 v l y n (uJoin y n u).2 ∧ FrV G G1 v l) := by
  obtain ⟨v0, v3, hR, hL, hu, hw⟩ := id hX
  obtain ⟨r0, r1, -⟩ := id hR
  obtain ⟨l0, -⟩ := id hL
  have hFF : FrV G G v l := FrV.rf
  refine Ct.intro rfl (by decide) [.ref v, .ref l] (by simp [Value.category]) (Nat.le_of_ble_eq_true rfl) rfl ?_
  refine w_aload_n dX3_joins_0 rfl ?_
  refine w_getf dX3_joins_1 fl_X3_12 (by first | assumption | exact gs_at | (rw [gs_ne (by omega)]; (first | assumption | exact gs_at | (rw [gs_ne (by omega)]; (first | assumption | exact gs_at | (rw [gs_ne (by omega)]; (first | assumption | exact gs_at | (rw [gs_ne (by omega)]; (first | assumption | exact gs_at))))))))) rfl ?_
  refine w_ldcS (i := 32) rfl rfl dX3_joins_4 ?_
  refine wV1i dX3_joins_6 lk_X3_54 rfl (by first | assumption | exact gs_at | (rw [gs_ne (by omega)]; (first | assumption | exact gs_at | (rw [gs_ne (by omega)]; (first | assumption | exact gs_at | (rw [gs_ne (by omega)]; (first | assumption | exact gs_at | (rw [gs_ne (by omega)]; (first | assumption | exact gs_at))))))))) rfl rfl (c_takes (ws := [97, 110, 100]) rfl rfl (by decide) (by decide) hR) (Nat.le_of_ble_eq_true rfl) (Nat.le_of_ble_eq_true rfl) (Nat.le_of_ble_eq_true rfl) (Nat.le_of_ble_eq_true rfl) (fun r_6 G h_6 => ?_)
  obtain ⟨rfl, hR9, hF1⟩ := h_6
  have hX := hX.rd hR9 hF1 hd
  have hFF := FrV.tr hFF hF1.toV
  obtain ⟨v0, v3, hR, hL, hu, hw⟩ := id hX
  obtain ⟨r0, r1, -⟩ := id hR
  obtain ⟨l0, -⟩ := id hL
  refine w_ifN_eq (tgt := 27) dX3_joins_9 (by decide) (fun c_9 => ?_) (fun c_9 => ?_)
  · try simp only [nI_b2, ne_eq, Decidable.not_not] at c_9
    have hX : Lx G v l y n u := by rw [sTk, if_neg c_9] at hX; exact hX
    obtain ⟨v0, v3, hR, hL, hu, hw⟩ := id hX
    obtain ⟨r0, r1, -⟩ := id hR
    obtain ⟨l0, -⟩ := id hL
    refine w_aload_n dX3_joins_27 rfl ?_
    refine w_getf dX3_joins_28 fl_X3_12 (by first | assumption | exact gs_at | (rw [gs_ne (by omega)]; (first | assumption | exact gs_at | (rw [gs_ne (by omega)]; (first | assumption | exact gs_at | (rw [gs_ne (by omega)]; (first | assumption | exact gs_at | (rw [gs_ne (by omega)]; (first | assumption | exact gs_at))))))))) rfl ?_
    refine w_ldcS (i := 33) rfl rfl dX3_joins_31 ?_
    refine wV1i dX3_joins_33 lk_X3_54 rfl (by first | assumption | exact gs_at | (rw [gs_ne (by omega)]; (first | assumption | exact gs_at | (rw [gs_ne (by omega)]; (first | assumption | exact gs_at | (rw [gs_ne (by omega)]; (first | assumption | exact gs_at | (rw [gs_ne (by omega)]; (first | assumption | exact gs_at))))))))) rfl rfl (c_takes (ws := [111, 114]) rfl rfl (by decide) (by decide) hR) (Nat.le_of_ble_eq_true rfl) (Nat.le_of_ble_eq_true rfl) (Nat.le_of_ble_eq_true rfl) (Nat.le_of_ble_eq_true rfl) (fun r_33 G h_33 => ?_)
    obtain ⟨rfl, hR9, hF1⟩ := h_33
    have hX := hX.rd hR9 hF1 hd
    have hFF := FrV.tr hFF hF1.toV
    obtain ⟨v0, v3, hR, hL, hu, hw⟩ := id hX
    obtain ⟨r0, r1, -⟩ := id hR
    obtain ⟨l0, -⟩ := id hL
    refine w_ifN_eq (tgt := 54) dX3_joins_36 (by decide) (fun c_36 => ?_) (fun c_36 => ?_)
    · try simp only [nI_b2, ne_eq, Decidable.not_not] at c_36
      have hX : Lx G v l y n u := by rw [sTk, if_neg c_36] at hX; exact hX
      refine w_iconst (v := nI 0) dX3_joins_54 (by decide) ?_
      refine w_zret dX3_joins_55 rfl rfl (Nat.le_of_ble_eq_true rfl) (Nat.le_of_ble_eq_true rfl) ?_
      exact ⟨_, rfl, by rw [uJoin, if_neg c_9, if_neg c_36], by rw [uJoin, if_neg c_9, if_neg c_36]; exact hX, hFF⟩
    · try simp only [nI_b2, ne_eq, Decidable.not_not] at c_36
      have hX : Lx G v l y n (tkU y n u) := by rw [sTk, if_pos c_36] at hX; exact hX
      refine w_aload_n dX3_joins_39 rfl ?_
      refine w_aload_n dX3_joins_40 rfl ?_
      refine w_bipush (v := (-15)) dX3_joins_41 (by decide) ?_
      refine wV2d dX3_joins_43 lk_X3_99 rfl (by first | assumption | exact gs_at | (rw [gs_ne (by omega)]; (first | assumption | exact gs_at | (rw [gs_ne (by omega)]; (first | assumption | exact gs_at | (rw [gs_ne (by omega)]; (first | assumption | exact gs_at | (rw [gs_ne (by omega)]; (first | assumption | exact gs_at))))))))) rfl rfl (c_release hX hd) (Nat.le_of_ble_eq_true rfl) (Nat.le_of_ble_eq_true rfl) (Nat.le_of_ble_eq_true rfl) (Nat.le_of_ble_eq_true rfl) (fun G h_43 => ?_)
      obtain ⟨hX, hF1⟩ := h_43
      have hFF := FrV.tr hFF hF1
      obtain ⟨v0, v3, hR, hL, hu, hw⟩ := id hX
      obtain ⟨r0, r1, -⟩ := id hR
      obtain ⟨l0, -⟩ := id hL
      refine w_aload_n dX3_joins_46 rfl ?_
      refine w_bipush (v := (-15)) dX3_joins_47 (by decide) ?_
      refine wV1d dX3_joins_49 lk_X3_107 rfl (by first | assumption | exact gs_at | (rw [gs_ne (by omega)]; (first | assumption | exact gs_at | (rw [gs_ne (by omega)]; (first | assumption | exact gs_at | (rw [gs_ne (by omega)]; (first | assumption | exact gs_at | (rw [gs_ne (by omega)]; (first | assumption | exact gs_at))))))))) rfl rfl (c_hold hX hd (by have := uRel_le (-15) (tkU y n u); have e : (tkU y n u).2.2.2.1 = u.2.2.2.1 := rfl; show (uRel (-15) (tkU y n u)).2.2.2.1 + 1 < 2 ^ 20; omega)) (Nat.le_of_ble_eq_true rfl) (Nat.le_of_ble_eq_true rfl) (Nat.le_of_ble_eq_true rfl) (Nat.le_of_ble_eq_true rfl) (fun G h_49 => ?_)
      obtain ⟨hX, hF1⟩ := h_49
      have hFF := FrV.tr hFF hF1
      obtain ⟨v0, v3, hR, hL, hu, hw⟩ := id hX
      obtain ⟨r0, r1, -⟩ := id hR
      obtain ⟨l0, -⟩ := id hL
      refine w_iconst (v := nI 1) dX3_joins_52 (by decide) ?_
      refine w_zret dX3_joins_53 rfl rfl (Nat.le_of_ble_eq_true rfl) (Nat.le_of_ble_eq_true rfl) ?_
      exact ⟨_, rfl, by rw [uJoin, if_neg c_9, if_pos c_36], by rw [uJoin, if_neg c_9, if_pos c_36]; exact hX, hFF⟩
  · try simp only [nI_b2, ne_eq, Decidable.not_not] at c_9
    have hX : Lx G v l y n (tkU y n u) := by rw [sTk, if_pos c_9] at hX; exact hX
    refine w_aload_n dX3_joins_12 rfl ?_
    refine w_aload_n dX3_joins_13 rfl ?_
    refine w_bipush (v := (-14)) dX3_joins_14 (by decide) ?_
    refine wV2d dX3_joins_16 lk_X3_99 rfl (by first | assumption | exact gs_at | (rw [gs_ne (by omega)]; (first | assumption | exact gs_at | (rw [gs_ne (by omega)]; (first | assumption | exact gs_at | (rw [gs_ne (by omega)]; (first | assumption | exact gs_at | (rw [gs_ne (by omega)]; (first | assumption | exact gs_at))))))))) rfl rfl (c_release hX hd) (Nat.le_of_ble_eq_true rfl) (Nat.le_of_ble_eq_true rfl) (Nat.le_of_ble_eq_true rfl) (Nat.le_of_ble_eq_true rfl) (fun G h_16 => ?_)
    obtain ⟨hX, hF1⟩ := h_16
    have hFF := FrV.tr hFF hF1
    obtain ⟨v0, v3, hR, hL, hu, hw⟩ := id hX
    obtain ⟨r0, r1, -⟩ := id hR
    obtain ⟨l0, -⟩ := id hL
    refine w_aload_n dX3_joins_19 rfl ?_
    refine w_bipush (v := (-14)) dX3_joins_20 (by decide) ?_
    refine wV1d dX3_joins_22 lk_X3_107 rfl (by first | assumption | exact gs_at | (rw [gs_ne (by omega)]; (first | assumption | exact gs_at | (rw [gs_ne (by omega)]; (first | assumption | exact gs_at | (rw [gs_ne (by omega)]; (first | assumption | exact gs_at | (rw [gs_ne (by omega)]; (first | assumption | exact gs_at))))))))) rfl rfl (c_hold hX hd (by have := uRel_le (-14) (tkU y n u); have e : (tkU y n u).2.2.2.1 = u.2.2.2.1 := rfl; show (uRel (-14) (tkU y n u)).2.2.2.1 + 1 < 2 ^ 20; omega)) (Nat.le_of_ble_eq_true rfl) (Nat.le_of_ble_eq_true rfl) (Nat.le_of_ble_eq_true rfl) (Nat.le_of_ble_eq_true rfl) (fun G h_22 => ?_)
    obtain ⟨hX, hF1⟩ := h_22
    have hFF := FrV.tr hFF hF1
    obtain ⟨v0, v3, hR, hL, hu, hw⟩ := id hX
    obtain ⟨r0, r1, -⟩ := id hR
    obtain ⟨l0, -⟩ := id hL
    refine w_iconst (v := nI 1) dX3_joins_25 (by decide) ?_
    refine w_zret dX3_joins_26 rfl rfl (Nat.le_of_ble_eq_true rfl) (Nat.le_of_ble_eq_true rfl) ?_
    exact ⟨_, rfl, by rw [uJoin, if_pos c_9], by rw [uJoin, if_pos c_9]; exact hX, hFF⟩
theorem lp_close {E : EV} {Q : OC → AH → Prop} {v l n : Nat} {y : Nat → Nat} {G0 : AH} {u1 : US} (hd : l + 6 ≤ v ∨ v + 4 ≤ l) (hQ : ∀ G1, Lx G1 v l y n u1 → FrV G0 G1 v l → Q (.inl none) G1) : ∀ (k i : Nat) (u : US) (G : AH), i + k = 7 → uCl y n k u = u1 → Lx G v l y n u → FrV G0 G v l → Wp E 8 0 0 kX3_closeAtom Q G (0, 0) 9 [.ref v, .ref l, .int (nI i)] [] := by
  intro k
  induction k with
  | zero =>
    intro i u G hk he hX hFF
    rw [uCl] at he
    subst he
    refine w_iload_n dX3_closeAtom_9 rfl ?_
    refine w_bipush (v := nI 6) dX3_closeAtom_10 (by decide) ?_
    refine w_icmp_gt (tgt := 89) dX3_closeAtom_12 (by decide) (fun c_12 => ?_) (fun c_12 => ?_)
    · try simp (disch := omega) only [nI_b2, nI_ltI, nI_leI, nI_eq, ge_iff_le, gt_iff_lt, Nat.not_lt, Nat.not_le, ne_eq, Decidable.not_not] at c_12
      refine w_vret dX3_closeAtom_89 rfl (Nat.le_of_ble_eq_true rfl) (Nat.le_of_ble_eq_true rfl) ?_
      exact hQ _ hX hFF
    · try simp (disch := omega) only [nI_b2, nI_ltI, nI_leI, nI_eq, ge_iff_le, gt_iff_lt, Nat.not_lt, Nat.not_le, ne_eq, Decidable.not_not] at c_12
      exact absurd c_12 (by omega)
  | succ k ih =>
    intro i u G hk he hX hFF
    rw [uCl] at he
    obtain ⟨v0, v3, hR, hL, hu, hw⟩ := id hX
    obtain ⟨r0, r1, -⟩ := id hR
    obtain ⟨l0, -⟩ := id hL
    refine w_iload_n dX3_closeAtom_9 rfl ?_
    refine w_bipush (v := nI 6) dX3_closeAtom_10 (by decide) ?_
    refine w_icmp_gt (tgt := 89) dX3_closeAtom_12 (by decide) (fun c_12 => ?_) (fun c_12 => ?_)
    · try simp (disch := omega) only [nI_b2, nI_ltI, nI_leI, nI_eq, ge_iff_le, gt_iff_lt, Nat.not_lt, Nat.not_le, ne_eq, Decidable.not_not] at c_12
      exact absurd c_12 (by omega)
    · try simp (disch := omega) only [nI_b2, nI_ltI, nI_leI, nI_eq, ge_iff_le, gt_iff_lt, Nat.not_lt, Nat.not_le, ne_eq, Decidable.not_not] at c_12
      refine w_aload_n dX3_closeAtom_15 rfl ?_
      refine w_getf dX3_closeAtom_16 fl_X3_12 (by first | assumption | exact gs_at | (rw [gs_ne (by omega)]; (first | assumption | exact gs_at | (rw [gs_ne (by omega)]; (first | assumption | exact gs_at | (rw [gs_ne (by omega)]; (first | assumption | exact gs_at | (rw [gs_ne (by omega)]; (first | assumption | exact gs_at))))))))) rfl ?_
      refine w_ldcS (i := 31) rfl rfl dX3_closeAtom_19 ?_
      refine wV1u dX3_closeAtom_21 lk_X3_63 rfl (by first | assumption | exact gs_at | (rw [gs_ne (by omega)]; (first | assumption | exact gs_at | (rw [gs_ne (by omega)]; (first | assumption | exact gs_at | (rw [gs_ne (by omega)]; (first | assumption | exact gs_at | (rw [gs_ne (by omega)]; (first | assumption | exact gs_at))))))))) rfl rfl (c_isAt (ws := [41]) rfl rfl (by decide) (by decide) hR) (Nat.le_of_ble_eq_true rfl) (Nat.le_of_ble_eq_true rfl) (Nat.le_of_ble_eq_true rfl) (Nat.le_of_ble_eq_true rfl) ?_
      refine w_ifN_eq (tgt := 89) dX3_closeAtom_24 (by decide) (fun c_24 => ?_) (fun c_24 => ?_)
      · try simp (disch := omega) only [nI_b2, nI_ltI, nI_leI, nI_eq, ge_iff_le, gt_iff_lt, Nat.not_lt, Nat.not_le, ne_eq, Decidable.not_not] at c_24
        refine w_vret dX3_closeAtom_89 rfl (Nat.le_of_ble_eq_true rfl) (Nat.le_of_ble_eq_true rfl) ?_
        rw [if_neg c_24] at he
        subst he
        exact hQ _ hX hFF
      · try simp (disch := omega) only [nI_b2, nI_ltI, nI_leI, nI_eq, ge_iff_le, gt_iff_lt, Nat.not_lt, Nat.not_le, ne_eq, Decidable.not_not] at c_24
        refine w_aload_n dX3_closeAtom_27 rfl ?_
        refine w_aload_n dX3_closeAtom_28 rfl ?_
        refine w_bipush (v := (-15)) dX3_closeAtom_29 (by decide) ?_
        refine wV2d dX3_closeAtom_31 lk_X3_99 rfl (by first | assumption | exact gs_at | (rw [gs_ne (by omega)]; (first | assumption | exact gs_at | (rw [gs_ne (by omega)]; (first | assumption | exact gs_at | (rw [gs_ne (by omega)]; (first | assumption | exact gs_at | (rw [gs_ne (by omega)]; (first | assumption | exact gs_at))))))))) rfl rfl (c_release hX hd) (Nat.le_of_ble_eq_true rfl) (Nat.le_of_ble_eq_true rfl) (Nat.le_of_ble_eq_true rfl) (Nat.le_of_ble_eq_true rfl) (fun G h_31 => ?_)
        obtain ⟨hX, hF1⟩ := h_31
        have hFF := FrV.tr hFF hF1
        obtain ⟨v0, v3, hR, hL, hu, hw⟩ := id hX
        obtain ⟨r0, r1, -⟩ := id hR
        obtain ⟨l0, -⟩ := id hL
        refine w_aload_n dX3_closeAtom_34 rfl ?_
        refine w_getf dX3_closeAtom_35 fl_X3_22 (by first | assumption | exact gs_at | (rw [gs_ne (by omega)]; (first | assumption | exact gs_at | (rw [gs_ne (by omega)]; (first | assumption | exact gs_at | (rw [gs_ne (by omega)]; (first | assumption | exact gs_at | (rw [gs_ne (by omega)]; (first | assumption | exact gs_at))))))))) rfl ?_
        refine w_ifN_ne (tgt := 49) dX3_closeAtom_38 (by decide) (fun c_38 => ?_) (fun c_38 => ?_)
        · try simp (disch := omega) only [nI_b2, nI_ltI, nI_leI, nI_eq, ge_iff_le, gt_iff_lt, Nat.not_lt, Nat.not_le, ne_eq, Decidable.not_not] at c_38
          rw [if_pos c_24, if_neg c_38] at he
          refine w_aload_n dX3_closeAtom_49 rfl ?_
          refine w_dup dX3_closeAtom_50 rfl ?_
          refine w_getf dX3_closeAtom_51 fl_X3_22 (by first | assumption | exact gs_at | (rw [gs_ne (by omega)]; (first | assumption | exact gs_at | (rw [gs_ne (by omega)]; (first | assumption | exact gs_at | (rw [gs_ne (by omega)]; (first | assumption | exact gs_at | (rw [gs_ne (by omega)]; (first | assumption | exact gs_at))))))))) rfl ?_
          refine w_iconst (v := nI 1) dX3_closeAtom_54 (by decide) ?_
          refine w_isubN (by omega) dX3_closeAtom_55 ?_
          refine w_putf dX3_closeAtom_56 fl_X3_22 (by first | assumption | exact gs_at | (rw [gs_ne (by omega)]; (first | assumption | exact gs_at | (rw [gs_ne (by omega)]; (first | assumption | exact gs_at | (rw [gs_ne (by omega)]; (first | assumption | exact gs_at | (rw [gs_ne (by omega)]; (first | assumption | exact gs_at))))))))) (by simp) rfl rfl ?_
          refine w_aload_n dX3_closeAtom_59 rfl ?_
          refine w_dup dX3_closeAtom_60 rfl ?_
          refine w_getf dX3_closeAtom_61 fl_X3_26 (by first | assumption | exact gs_at | (rw [gs_ne (by omega)]; (first | assumption | exact gs_at | (rw [gs_ne (by omega)]; (first | assumption | exact gs_at | (rw [gs_ne (by omega)]; (first | assumption | exact gs_at | (rw [gs_ne (by omega)]; (first | assumption | exact gs_at))))))))) rfl ?_
          refine w_iconst (v := nI 1) dX3_closeAtom_64 (by decide) ?_
          refine w_isub dX3_closeAtom_65 ?_
          refine w_putf dX3_closeAtom_66 fl_X3_26 (by first | assumption | exact gs_at | (rw [gs_ne (by omega)]; (first | assumption | exact gs_at | (rw [gs_ne (by omega)]; (first | assumption | exact gs_at | (rw [gs_ne (by omega)]; (first | assumption | exact gs_at | (rw [gs_ne (by omega)]; (first | assumption | exact gs_at))))))))) (by simp) rfl rfl ?_
          have hX := (hX.ob (k := (uRel (-15) u).2.2.2.1 - 1) (e := (uRel (-15) u).2.2.2.2) hd (by omega)).ob (k := (uRel (-15) u).2.2.2.1 - 1) (e := (uRel (-15) u).2.2.2.2 - nI 1) hd (by omega)
          have hFF := (hFF.tr (FrV.gs (q := v) (x := oB 3 [.ref (v + 1), .ref (v + 3), .int (nI ((uRel (-15) u).2.2.2.1 - 1)), .int (uRel (-15) u).2.2.2.2]) (by omega) (by omega))).tr (FrV.gs (q := v) (x := oB 3 [.ref (v + 1), .ref (v + 3), .int (nI ((uRel (-15) u).2.2.2.1 - 1)), .int ((uRel (-15) u).2.2.2.2 - nI 1)]) (by omega) (by omega))
          obtain ⟨v0, v3, hR, hL, hu, hw⟩ := id hX
          obtain ⟨r0, r1, -⟩ := id hR
          obtain ⟨l0, -⟩ := id hL
          refine w_aload_n dX3_closeAtom_69 rfl ?_
          refine w_getf dX3_closeAtom_70 fl_X3_12 (by first | assumption | exact gs_at | (rw [gs_ne (by omega)]; (first | assumption | exact gs_at | (rw [gs_ne (by omega)]; (first | assumption | exact gs_at | (rw [gs_ne (by omega)]; (first | assumption | exact gs_at | (rw [gs_ne (by omega)]; (first | assumption | exact gs_at))))))))) rfl ?_
          refine wV0d dX3_closeAtom_73 lk_X3_70 rfl (by first | assumption | exact gs_at | (rw [gs_ne (by omega)]; (first | assumption | exact gs_at | (rw [gs_ne (by omega)]; (first | assumption | exact gs_at | (rw [gs_ne (by omega)]; (first | assumption | exact gs_at | (rw [gs_ne (by omega)]; (first | assumption | exact gs_at))))))))) rfl rfl (c_step (y := y) (n := n) (w := _) (e0 := tokE y n _) (bb := 0) r0 r1 hR.2.2.1 hR.2.2.2.2.1 (tokE_le hR.2.2.2.1).2) (Nat.le_of_ble_eq_true rfl) (Nat.le_of_ble_eq_true rfl) (Nat.le_of_ble_eq_true rfl) (Nat.le_of_ble_eq_true rfl) (fun G h_73 => ?_)
          obtain ⟨hR9, hF1⟩ := h_73
          have hX := hX.rd hR9 hF1 hd
          have hFF := FrV.tr hFF hF1.toV
          obtain ⟨v0, v3, hR, hL, hu, hw⟩ := id hX
          obtain ⟨r0, r1, -⟩ := id hR
          obtain ⟨l0, -⟩ := id hL
          refine w_aload_n dX3_closeAtom_76 rfl ?_
          refine w_aload_n dX3_closeAtom_77 rfl ?_
          refine w_bipush (v := (-13)) dX3_closeAtom_78 (by decide) ?_
          refine wV2d dX3_closeAtom_80 lk_X3_99 rfl (by first | assumption | exact gs_at | (rw [gs_ne (by omega)]; (first | assumption | exact gs_at | (rw [gs_ne (by omega)]; (first | assumption | exact gs_at | (rw [gs_ne (by omega)]; (first | assumption | exact gs_at | (rw [gs_ne (by omega)]; (first | assumption | exact gs_at))))))))) rfl rfl (c_release hX hd) (Nat.le_of_ble_eq_true rfl) (Nat.le_of_ble_eq_true rfl) (Nat.le_of_ble_eq_true rfl) (Nat.le_of_ble_eq_true rfl) (fun G h_80 => ?_)
          obtain ⟨hX, hF1⟩ := h_80
          have hFF := FrV.tr hFF hF1
          obtain ⟨v0, v3, hR, hL, hu, hw⟩ := id hX
          obtain ⟨r0, r1, -⟩ := id hR
          obtain ⟨l0, -⟩ := id hL
          first | refine w_iinc_2 dX3_closeAtom_83 (nI_inc _) rfl ?_ | refine w_iinc_2 dX3_closeAtom_83 rfl rfl ?_
          refine w_goto (tgt := 9) dX3_closeAtom_86 (by decide) ?_
          exact ih (i + 1) _ G (by omega) he hX hFF
        · try simp (disch := omega) only [nI_b2, nI_ltI, nI_leI, nI_eq, ge_iff_le, gt_iff_lt, Nat.not_lt, Nat.not_le, ne_eq, Decidable.not_not] at c_38
          rw [if_pos c_24, if_pos c_38] at he
          refine w_aload_n dX3_closeAtom_41 rfl ?_
          refine w_getf dX3_closeAtom_42 fl_X3_12 (by first | assumption | exact gs_at | (rw [gs_ne (by omega)]; (first | assumption | exact gs_at | (rw [gs_ne (by omega)]; (first | assumption | exact gs_at | (rw [gs_ne (by omega)]; (first | assumption | exact gs_at | (rw [gs_ne (by omega)]; (first | assumption | exact gs_at))))))))) rfl ?_
          refine wV0d dX3_closeAtom_45 lk_X3_42 rfl (by first | assumption | exact gs_at | (rw [gs_ne (by omega)]; (first | assumption | exact gs_at | (rw [gs_ne (by omega)]; (first | assumption | exact gs_at | (rw [gs_ne (by omega)]; (first | assumption | exact gs_at | (rw [gs_ne (by omega)]; (first | assumption | exact gs_at))))))))) rfl rfl (c_refuse hR) (Nat.le_of_ble_eq_true rfl) (Nat.le_of_ble_eq_true rfl) (Nat.le_of_ble_eq_true rfl) (Nat.le_of_ble_eq_true rfl) (fun G h_45 => ?_)
          obtain ⟨hR9, hF1⟩ := h_45
          have hX := hX.rd hR9 hF1 hd
          have hFF := FrV.tr hFF hF1.toV
          obtain ⟨v0, v3, hR, hL, hu, hw⟩ := id hX
          obtain ⟨r0, r1, -⟩ := id hR
          obtain ⟨l0, -⟩ := id hL
          refine w_vret dX3_closeAtom_48 rfl (Nat.le_of_ble_eq_true rfl) (Nat.le_of_ble_eq_true rfl) ?_
          subst he
          exact hQ _ hX hFF
theorem c_closeAtom {E : EV} {v l n : Nat} {y : Nat → Nat} {u : US} {G : AH} (hX : Lx G v l y n u) (hd : l + 6 ≤ v ∨ v + 4 ≤ l) : Cd E 8 kX3_closeAtom [.ref v, .ref l] G (fun G1 => Lx G1 v l y n (uClose y n u) ∧ FrV G G1 v l) := by
  obtain ⟨v0, v3, hR, hL, hu, hw⟩ := id hX
  obtain ⟨r0, r1, -⟩ := id hR
  obtain ⟨l0, -⟩ := id hL
  have hFF : FrV G G v l := FrV.rf
  refine Ct.intro rfl (by decide) [.ref v, .ref l, .float 0] (by simp [Value.category]) (Nat.le_of_ble_eq_true rfl) rfl ?_
  refine w_aload_n dX3_closeAtom_0 rfl ?_
  refine w_aload_n dX3_closeAtom_1 rfl ?_
  refine w_bipush (v := (-13)) dX3_closeAtom_2 (by decide) ?_
  refine wV2d dX3_closeAtom_4 lk_X3_99 rfl (by first | assumption | exact gs_at | (rw [gs_ne (by omega)]; (first | assumption | exact gs_at | (rw [gs_ne (by omega)]; (first | assumption | exact gs_at | (rw [gs_ne (by omega)]; (first | assumption | exact gs_at | (rw [gs_ne (by omega)]; (first | assumption | exact gs_at))))))))) rfl rfl (c_release hX hd) (Nat.le_of_ble_eq_true rfl) (Nat.le_of_ble_eq_true rfl) (Nat.le_of_ble_eq_true rfl) (Nat.le_of_ble_eq_true rfl) (fun G h_4 => ?_)
  obtain ⟨hX, hF1⟩ := h_4
  have hFF := FrV.tr hFF hF1
  obtain ⟨v0, v3, hR, hL, hu, hw⟩ := id hX
  obtain ⟨r0, r1, -⟩ := id hR
  obtain ⟨l0, -⟩ := id hL
  refine w_iconst (v := nI 0) dX3_closeAtom_7 (by decide) ?_
  refine w_istore_2 dX3_closeAtom_8 rfl ?_
  exact lp_close hd (u1 := uClose y n u) (fun G1 a b => ⟨rfl, a, b⟩) 7 0 _ G rfl rfl hX hFF
theorem lp_sum90f {E : EV} {Q : OC → AH → Prop} {v l n : Nat} {y : Nat → Nat} {G0 : AH} {u1 : US} (hd : l + 6 ≤ v ∨ v + 4 ≤ l) (hQ : ∀ G1, Lx G1 v l y n u1 → FrV G0 G1 v l → Q (.inl none) G1) {G : AH} {i : Nat} {z1 z2 : Value} (hX : Lx G v l y n u1) (hFF : FrV G0 G v l) : Wp E 9 0 0 kX3_readSum Q G (0, 0) 90 [.ref v, .ref l, z1, .int (nI i), z2] [.int (nI 0)] := by
  refine w_istore_2 dX3_readSum_90 rfl ?_
  first | refine w_iinc_3 dX3_readSum_91 (nI_inc _) rfl ?_ | refine w_iinc_3 dX3_readSum_91 rfl rfl ?_
  refine w_goto (tgt := 10) dX3_readSum_94 (by decide) ?_
  refine w_iload_n dX3_readSum_10 rfl ?_
  refine w_ifN_eq (tgt := 97) dX3_readSum_11 (by decide) (fun c_11 => ?_) (fun c9 => absurd (rfl) c9)
  refine w_vret dX3_readSum_97 rfl (Nat.le_of_ble_eq_true rfl) (Nat.le_of_ble_eq_true rfl) ?_
  exact hQ _ hX hFF
theorem lp_sum {E : EV} {Q : OC → AH → Prop} {v l n : Nat} {y : Nat → Nat} {G0 : AH} {u1 : US} (hd : l + 6 ≤ v ∨ v + 4 ≤ l) (hQ : ∀ G1, Lx G1 v l y n u1 → FrV G0 G1 v l → Q (.inl none) G1) : ∀ (k i : Nat) (u : US) (G : AH) (z2 : Value), i + k = 400 → uSm y n k u = u1 → Lx G v l y n u → FrV G0 G v l → Wp E 9 0 0 kX3_readSum Q G (0, 0) 10 [.ref v, .ref l, .int (nI 1), .int (nI i), z2] [] := by
  intro k
  induction k with
  | zero =>
    intro i u G z2 hk he hX hFF
    rw [uSm] at he
    subst he
    refine w_iload_n dX3_readSum_10 rfl ?_
    refine w_ifN_eq (tgt := 97) dX3_readSum_11 (by decide) (fun c9 => absurd c9 (by decide)) (fun c_11 => ?_)
    refine w_iload_n dX3_readSum_14 rfl ?_
    refine w_sipush (v := nI 400) dX3_readSum_15 (by decide) ?_
    refine w_icmp_ge (tgt := 97) dX3_readSum_18 (by decide) (fun c_18 => ?_) (fun c_18 => ?_)
    · try simp (disch := omega) only [nI_b2, nI_ltI, nI_leI, nI_eq, ge_iff_le, gt_iff_lt, Nat.not_lt, Nat.not_le, ne_eq, Decidable.not_not] at c_18
      refine w_vret dX3_readSum_97 rfl (Nat.le_of_ble_eq_true rfl) (Nat.le_of_ble_eq_true rfl) ?_
      exact hQ _ hX hFF
    · try simp (disch := omega) only [nI_b2, nI_ltI, nI_leI, nI_eq, ge_iff_le, gt_iff_lt, Nat.not_lt, Nat.not_le, ne_eq, Decidable.not_not] at c_18
      exact absurd c_18 (by omega)
  | succ k ih =>
    intro i u G z2 hk he hX hFF
    rw [uSm] at he
    obtain ⟨v0, v3, hR, hL, hu, hw⟩ := id hX
    obtain ⟨r0, r1, -⟩ := id hR
    obtain ⟨l0, -⟩ := id hL
    refine w_iload_n dX3_readSum_10 rfl ?_
    refine w_ifN_eq (tgt := 97) dX3_readSum_11 (by decide) (fun c9 => absurd c9 (by decide)) (fun c_11 => ?_)
    refine w_iload_n dX3_readSum_14 rfl ?_
    refine w_sipush (v := nI 400) dX3_readSum_15 (by decide) ?_
    refine w_icmp_ge (tgt := 97) dX3_readSum_18 (by decide) (fun c_18 => ?_) (fun c_18 => ?_)
    · try simp (disch := omega) only [nI_b2, nI_ltI, nI_leI, nI_eq, ge_iff_le, gt_iff_lt, Nat.not_lt, Nat.not_le, ne_eq, Decidable.not_not] at c_18
      exact absurd c_18 (by omega)
    · try simp (disch := omega) only [nI_b2, nI_ltI, nI_leI, nI_eq, ge_iff_le, gt_iff_lt, Nat.not_lt, Nat.not_le, ne_eq, Decidable.not_not] at c_18
      refine w_aload_n dX3_readSum_21 rfl ?_
      refine wV0u dX3_readSum_22 lk_X3_129 rfl (by first | assumption | exact gs_at | (rw [gs_ne (by omega)]; (first | assumption | exact gs_at | (rw [gs_ne (by omega)]; (first | assumption | exact gs_at | (rw [gs_ne (by omega)]; (first | assumption | exact gs_at | (rw [gs_ne (by omega)]; (first | assumption | exact gs_at))))))))) rfl rfl (c_partCode hX hd) (Nat.le_of_ble_eq_true rfl) (Nat.le_of_ble_eq_true rfl) (Nat.le_of_ble_eq_true rfl) (Nat.le_of_ble_eq_true rfl) ?_
      refine w_istore_4 dX3_readSum_25 rfl ?_
      refine w_iload dX3_readSum_27 rfl ?_
      refine w_ifN_ne (tgt := 50) dX3_readSum_29 (by decide) (fun c_29 => ?_) (fun c_29 => ?_)
      · try simp (disch := omega) only [nI_b2, nI_ltI, nI_leI, nI_eq, ge_iff_le, gt_iff_lt, Nat.not_lt, Nat.not_le, ne_eq, Decidable.not_not] at c_29
        refine w_aload_n dX3_readSum_50 rfl ?_
        refine w_iload dX3_readSum_51 rfl ?_
        refine wV1d dX3_readSum_53 lk_X3_113 rfl (by first | assumption | exact gs_at | (rw [gs_ne (by omega)]; (first | assumption | exact gs_at | (rw [gs_ne (by omega)]; (first | assumption | exact gs_at | (rw [gs_ne (by omega)]; (first | assumption | exact gs_at | (rw [gs_ne (by omega)]; (first | assumption | exact gs_at))))))))) rfl rfl (c_emit hL hu) (Nat.le_of_ble_eq_true rfl) (Nat.le_of_ble_eq_true rfl) (Nat.le_of_ble_eq_true rfl) (Nat.le_of_ble_eq_true rfl) (fun G h_53 => ?_)
        obtain ⟨hL9, hF1⟩ := h_53
        have hX := hX.lg hL9 hF1 hd (emX_le hu)
        have hFF := FrV.tr hFF hF1.toV
        obtain ⟨v0, v3, hR, hL, hu, hw⟩ := id hX
        obtain ⟨r0, r1, -⟩ := id hR
        obtain ⟨l0, -⟩ := id hL
        refine w_aload_n dX3_readSum_56 rfl ?_
        refine w_getf dX3_readSum_57 fl_X3_12 (by first | assumption | exact gs_at | (rw [gs_ne (by omega)]; (first | assumption | exact gs_at | (rw [gs_ne (by omega)]; (first | assumption | exact gs_at | (rw [gs_ne (by omega)]; (first | assumption | exact gs_at | (rw [gs_ne (by omega)]; (first | assumption | exact gs_at))))))))) rfl ?_
        refine wV0d dX3_readSum_60 lk_X3_70 rfl (by first | assumption | exact gs_at | (rw [gs_ne (by omega)]; (first | assumption | exact gs_at | (rw [gs_ne (by omega)]; (first | assumption | exact gs_at | (rw [gs_ne (by omega)]; (first | assumption | exact gs_at | (rw [gs_ne (by omega)]; (first | assumption | exact gs_at))))))))) rfl rfl (c_step (y := y) (n := n) (w := _) (e0 := tokE y n _) (bb := 0) r0 r1 hR.2.2.1 hR.2.2.2.2.1 (tokE_le hR.2.2.2.1).2) (Nat.le_of_ble_eq_true rfl) (Nat.le_of_ble_eq_true rfl) (Nat.le_of_ble_eq_true rfl) (Nat.le_of_ble_eq_true rfl) (fun G h_60 => ?_)
        obtain ⟨hR9, hF1⟩ := h_60
        have hX := hX.rd hR9 hF1 hd
        have hFF := FrV.tr hFF hF1.toV
        obtain ⟨v0, v3, hR, hL, hu, hw⟩ := id hX
        obtain ⟨r0, r1, -⟩ := id hR
        obtain ⟨l0, -⟩ := id hL
        have hX : Lx G v l y n (uPart y n u) := by unfold uPart; first | (rw [if_pos (show pC y n u.1.1 = 0 from c_29)]; exact hX) | (rw [if_neg (show ¬ pC y n u.1.1 = 0 from c_29)]; exact hX)
        obtain ⟨v0, v3, hR, hL, hu, hw⟩ := id hX
        obtain ⟨r0, r1, -⟩ := id hR
        obtain ⟨l0, -⟩ := id hL
        refine w_aload_n dX3_readSum_63 rfl ?_
        refine w_getf dX3_readSum_64 fl_X3_12 (by first | assumption | exact gs_at | (rw [gs_ne (by omega)]; (first | assumption | exact gs_at | (rw [gs_ne (by omega)]; (first | assumption | exact gs_at | (rw [gs_ne (by omega)]; (first | assumption | exact gs_at | (rw [gs_ne (by omega)]; (first | assumption | exact gs_at))))))))) rfl ?_
        refine wV0u dX3_readSum_67 lk_X3_49 rfl (by first | assumption | exact gs_at | (rw [gs_ne (by omega)]; (first | assumption | exact gs_at | (rw [gs_ne (by omega)]; (first | assumption | exact gs_at | (rw [gs_ne (by omega)]; (first | assumption | exact gs_at | (rw [gs_ne (by omega)]; (first | assumption | exact gs_at))))))))) rfl rfl (c_isRight hR) (Nat.le_of_ble_eq_true rfl) (Nat.le_of_ble_eq_true rfl) (Nat.le_of_ble_eq_true rfl) (Nat.le_of_ble_eq_true rfl) ?_
        refine w_ifN_eq (tgt := 89) dX3_readSum_70 (by decide) (fun c_70 => ?_) (fun c_70 => ?_)
        · try simp (disch := omega) only [nI_b2, nI_ltI, nI_leI, nI_eq, ge_iff_le, gt_iff_lt, Nat.not_lt, Nat.not_le, ne_eq, Decidable.not_not] at c_70
          refine w_iconst (v := nI 0) dX3_readSum_89 (by decide) ?_
          first
            | (rw [if_neg c_70] at he; exact lp_sum90f hd hQ (by rw [← he]; exact hX) hFF)
            | (rw [if_pos c_70, if_neg c_82] at he; rw [sTk, if_neg c_82] at hX; exact lp_sum90f hd hQ (by rw [← he]; exact hX) hFF)
            | (rw [if_pos c_70, if_pos c_82] at he; rw [sTk, if_pos c_82] at hX; refine w_istore_2 dX3_readSum_90 rfl ?_; refine w_iinc_3 dX3_readSum_91 (nI_inc _) rfl ?_; refine w_goto (tgt := 10) dX3_readSum_94 (by decide) ?_; exact ih (i + 1) _ G _ (by omega) he hX hFF)
        · try simp (disch := omega) only [nI_b2, nI_ltI, nI_leI, nI_eq, ge_iff_le, gt_iff_lt, Nat.not_lt, Nat.not_le, ne_eq, Decidable.not_not] at c_70
          refine w_aload_n dX3_readSum_73 rfl ?_
          refine w_getf dX3_readSum_74 fl_X3_12 (by first | assumption | exact gs_at | (rw [gs_ne (by omega)]; (first | assumption | exact gs_at | (rw [gs_ne (by omega)]; (first | assumption | exact gs_at | (rw [gs_ne (by omega)]; (first | assumption | exact gs_at | (rw [gs_ne (by omega)]; (first | assumption | exact gs_at))))))))) rfl ?_
          refine w_ldcS (i := 28) rfl rfl dX3_readSum_77 ?_
          refine wV1i dX3_readSum_79 lk_X3_54 rfl (by first | assumption | exact gs_at | (rw [gs_ne (by omega)]; (first | assumption | exact gs_at | (rw [gs_ne (by omega)]; (first | assumption | exact gs_at | (rw [gs_ne (by omega)]; (first | assumption | exact gs_at | (rw [gs_ne (by omega)]; (first | assumption | exact gs_at))))))))) rfl rfl (c_takes (ws := [43]) rfl rfl (by decide) (by decide) hR) (Nat.le_of_ble_eq_true rfl) (Nat.le_of_ble_eq_true rfl) (Nat.le_of_ble_eq_true rfl) (Nat.le_of_ble_eq_true rfl) (fun r_79 G h_79 => ?_)
          obtain ⟨rfl, hR9, hF1⟩ := h_79
          have hX := hX.rd hR9 hF1 hd
          have hFF := FrV.tr hFF hF1.toV
          obtain ⟨v0, v3, hR, hL, hu, hw⟩ := id hX
          obtain ⟨r0, r1, -⟩ := id hR
          obtain ⟨l0, -⟩ := id hL
          refine w_ifN_eq (tgt := 89) dX3_readSum_82 (by decide) (fun c_82 => ?_) (fun c_82 => ?_)
          · try simp (disch := omega) only [nI_b2, nI_ltI, nI_leI, nI_eq, ge_iff_le, gt_iff_lt, Nat.not_lt, Nat.not_le, ne_eq, Decidable.not_not] at c_82
            refine w_iconst (v := nI 0) dX3_readSum_89 (by decide) ?_
            first
              | (rw [if_neg c_70] at he; exact lp_sum90f hd hQ (by rw [← he]; exact hX) hFF)
              | (rw [if_pos c_70, if_neg c_82] at he; rw [sTk, if_neg c_82] at hX; exact lp_sum90f hd hQ (by rw [← he]; exact hX) hFF)
              | (rw [if_pos c_70, if_pos c_82] at he; rw [sTk, if_pos c_82] at hX; refine w_istore_2 dX3_readSum_90 rfl ?_; refine w_iinc_3 dX3_readSum_91 (nI_inc _) rfl ?_; refine w_goto (tgt := 10) dX3_readSum_94 (by decide) ?_; exact ih (i + 1) _ G _ (by omega) he hX hFF)
          · try simp (disch := omega) only [nI_b2, nI_ltI, nI_leI, nI_eq, ge_iff_le, gt_iff_lt, Nat.not_lt, Nat.not_le, ne_eq, Decidable.not_not] at c_82
            refine w_iconst (v := nI 1) dX3_readSum_85 (by decide) ?_
            refine w_goto (tgt := 90) dX3_readSum_86 (by decide) ?_
            first
              | (rw [if_neg c_70] at he; exact lp_sum90f hd hQ (by rw [← he]; exact hX) hFF)
              | (rw [if_pos c_70, if_neg c_82] at he; rw [sTk, if_neg c_82] at hX; exact lp_sum90f hd hQ (by rw [← he]; exact hX) hFF)
              | (rw [if_pos c_70, if_pos c_82] at he; rw [sTk, if_pos c_82] at hX; refine w_istore_2 dX3_readSum_90 rfl ?_; refine w_iinc_3 dX3_readSum_91 (nI_inc _) rfl ?_; refine w_goto (tgt := 10) dX3_readSum_94 (by decide) ?_; exact ih (i + 1) _ G _ (by omega) he hX hFF)
      · try simp (disch := omega) only [nI_b2, nI_ltI, nI_leI, nI_eq, ge_iff_le, gt_iff_lt, Nat.not_lt, Nat.not_le, ne_eq, Decidable.not_not] at c_29
        refine w_aload_n dX3_readSum_32 rfl ?_
        refine w_aload_n dX3_readSum_33 rfl ?_
        refine w_getf dX3_readSum_34 fl_X3_12 (by first | assumption | exact gs_at | (rw [gs_ne (by omega)]; (first | assumption | exact gs_at | (rw [gs_ne (by omega)]; (first | assumption | exact gs_at | (rw [gs_ne (by omega)]; (first | assumption | exact gs_at | (rw [gs_ne (by omega)]; (first | assumption | exact gs_at))))))))) rfl ?_
        refine w_iconst (v := nI 0) dX3_readSum_37 (by decide) ?_
        refine w_sipush (v := nI 999) dX3_readSum_38 (by decide) ?_
        refine wV2i dX3_readSum_41 lk_X3_73 rfl (by first | assumption | exact gs_at | (rw [gs_ne (by omega)]; (first | assumption | exact gs_at | (rw [gs_ne (by omega)]; (first | assumption | exact gs_at | (rw [gs_ne (by omega)]; (first | assumption | exact gs_at | (rw [gs_ne (by omega)]; (first | assumption | exact gs_at))))))))) rfl rfl (c_number (hi1 := 1000) hR (by decide) (by decide) (by decide)) (Nat.le_of_ble_eq_true rfl) (Nat.le_of_ble_eq_true rfl) (Nat.le_of_ble_eq_true rfl) (Nat.le_of_ble_eq_true rfl) (fun r_41 G h_41 => ?_)
        obtain ⟨rfl, hR9, hF1⟩ := h_41
        have hX := hX.rd hR9 hF1 hd
        have hFF := FrV.tr hFF hF1.toV
        obtain ⟨v0, v3, hR, hL, hu, hw⟩ := id hX
        obtain ⟨r0, r1, -⟩ := id hR
        obtain ⟨l0, -⟩ := id hL
        refine wV1d dX3_readSum_44 lk_X3_113 rfl (by first | assumption | exact gs_at | (rw [gs_ne (by omega)]; (first | assumption | exact gs_at | (rw [gs_ne (by omega)]; (first | assumption | exact gs_at | (rw [gs_ne (by omega)]; (first | assumption | exact gs_at | (rw [gs_ne (by omega)]; (first | assumption | exact gs_at))))))))) rfl rfl (c_emit hL hu) (Nat.le_of_ble_eq_true rfl) (Nat.le_of_ble_eq_true rfl) (Nat.le_of_ble_eq_true rfl) (Nat.le_of_ble_eq_true rfl) (fun G h_44 => ?_)
        obtain ⟨hL9, hF1⟩ := h_44
        have hX := hX.lg hL9 hF1 hd (emX_le hu)
        have hFF := FrV.tr hFF hF1.toV
        obtain ⟨v0, v3, hR, hL, hu, hw⟩ := id hX
        obtain ⟨r0, r1, -⟩ := id hR
        obtain ⟨l0, -⟩ := id hL
        refine w_goto (tgt := 63) dX3_readSum_47 (by decide) ?_
        have hX : Lx G v l y n (uPart y n u) := by unfold uPart; first | (rw [if_pos (show pC y n u.1.1 = 0 from c_29)]; exact hX) | (rw [if_neg (show ¬ pC y n u.1.1 = 0 from c_29)]; exact hX)
        obtain ⟨v0, v3, hR, hL, hu, hw⟩ := id hX
        obtain ⟨r0, r1, -⟩ := id hR
        obtain ⟨l0, -⟩ := id hL
        refine w_aload_n dX3_readSum_63 rfl ?_
        refine w_getf dX3_readSum_64 fl_X3_12 (by first | assumption | exact gs_at | (rw [gs_ne (by omega)]; (first | assumption | exact gs_at | (rw [gs_ne (by omega)]; (first | assumption | exact gs_at | (rw [gs_ne (by omega)]; (first | assumption | exact gs_at | (rw [gs_ne (by omega)]; (first | assumption | exact gs_at))))))))) rfl ?_
        refine wV0u dX3_readSum_67 lk_X3_49 rfl (by first | assumption | exact gs_at | (rw [gs_ne (by omega)]; (first | assumption | exact gs_at | (rw [gs_ne (by omega)]; (first | assumption | exact gs_at | (rw [gs_ne (by omega)]; (first | assumption | exact gs_at | (rw [gs_ne (by omega)]; (first | assumption | exact gs_at))))))))) rfl rfl (c_isRight hR) (Nat.le_of_ble_eq_true rfl) (Nat.le_of_ble_eq_true rfl) (Nat.le_of_ble_eq_true rfl) (Nat.le_of_ble_eq_true rfl) ?_
        refine w_ifN_eq (tgt := 89) dX3_readSum_70 (by decide) (fun c_70 => ?_) (fun c_70 => ?_)
        · try simp (disch := omega) only [nI_b2, nI_ltI, nI_leI, nI_eq, ge_iff_le, gt_iff_lt, Nat.not_lt, Nat.not_le, ne_eq, Decidable.not_not] at c_70
          refine w_iconst (v := nI 0) dX3_readSum_89 (by decide) ?_
          first
            | (rw [if_neg c_70] at he; exact lp_sum90f hd hQ (by rw [← he]; exact hX) hFF)
            | (rw [if_pos c_70, if_neg c_82] at he; rw [sTk, if_neg c_82] at hX; exact lp_sum90f hd hQ (by rw [← he]; exact hX) hFF)
            | (rw [if_pos c_70, if_pos c_82] at he; rw [sTk, if_pos c_82] at hX; refine w_istore_2 dX3_readSum_90 rfl ?_; refine w_iinc_3 dX3_readSum_91 (nI_inc _) rfl ?_; refine w_goto (tgt := 10) dX3_readSum_94 (by decide) ?_; exact ih (i + 1) _ G _ (by omega) he hX hFF)
        · try simp (disch := omega) only [nI_b2, nI_ltI, nI_leI, nI_eq, ge_iff_le, gt_iff_lt, Nat.not_lt, Nat.not_le, ne_eq, Decidable.not_not] at c_70
          refine w_aload_n dX3_readSum_73 rfl ?_
          refine w_getf dX3_readSum_74 fl_X3_12 (by first | assumption | exact gs_at | (rw [gs_ne (by omega)]; (first | assumption | exact gs_at | (rw [gs_ne (by omega)]; (first | assumption | exact gs_at | (rw [gs_ne (by omega)]; (first | assumption | exact gs_at | (rw [gs_ne (by omega)]; (first | assumption | exact gs_at))))))))) rfl ?_
          refine w_ldcS (i := 28) rfl rfl dX3_readSum_77 ?_
          refine wV1i dX3_readSum_79 lk_X3_54 rfl (by first | assumption | exact gs_at | (rw [gs_ne (by omega)]; (first | assumption | exact gs_at | (rw [gs_ne (by omega)]; (first | assumption | exact gs_at | (rw [gs_ne (by omega)]; (first | assumption | exact gs_at | (rw [gs_ne (by omega)]; (first | assumption | exact gs_at))))))))) rfl rfl (c_takes (ws := [43]) rfl rfl (by decide) (by decide) hR) (Nat.le_of_ble_eq_true rfl) (Nat.le_of_ble_eq_true rfl) (Nat.le_of_ble_eq_true rfl) (Nat.le_of_ble_eq_true rfl) (fun r_79 G h_79 => ?_)
          obtain ⟨rfl, hR9, hF1⟩ := h_79
          have hX := hX.rd hR9 hF1 hd
          have hFF := FrV.tr hFF hF1.toV
          obtain ⟨v0, v3, hR, hL, hu, hw⟩ := id hX
          obtain ⟨r0, r1, -⟩ := id hR
          obtain ⟨l0, -⟩ := id hL
          refine w_ifN_eq (tgt := 89) dX3_readSum_82 (by decide) (fun c_82 => ?_) (fun c_82 => ?_)
          · try simp (disch := omega) only [nI_b2, nI_ltI, nI_leI, nI_eq, ge_iff_le, gt_iff_lt, Nat.not_lt, Nat.not_le, ne_eq, Decidable.not_not] at c_82
            refine w_iconst (v := nI 0) dX3_readSum_89 (by decide) ?_
            first
              | (rw [if_neg c_70] at he; exact lp_sum90f hd hQ (by rw [← he]; exact hX) hFF)
              | (rw [if_pos c_70, if_neg c_82] at he; rw [sTk, if_neg c_82] at hX; exact lp_sum90f hd hQ (by rw [← he]; exact hX) hFF)
              | (rw [if_pos c_70, if_pos c_82] at he; rw [sTk, if_pos c_82] at hX; refine w_istore_2 dX3_readSum_90 rfl ?_; refine w_iinc_3 dX3_readSum_91 (nI_inc _) rfl ?_; refine w_goto (tgt := 10) dX3_readSum_94 (by decide) ?_; exact ih (i + 1) _ G _ (by omega) he hX hFF)
          · try simp (disch := omega) only [nI_b2, nI_ltI, nI_leI, nI_eq, ge_iff_le, gt_iff_lt, Nat.not_lt, Nat.not_le, ne_eq, Decidable.not_not] at c_82
            refine w_iconst (v := nI 1) dX3_readSum_85 (by decide) ?_
            refine w_goto (tgt := 90) dX3_readSum_86 (by decide) ?_
            first
              | (rw [if_neg c_70] at he; exact lp_sum90f hd hQ (by rw [← he]; exact hX) hFF)
              | (rw [if_pos c_70, if_neg c_82] at he; rw [sTk, if_neg c_82] at hX; exact lp_sum90f hd hQ (by rw [← he]; exact hX) hFF)
              | (rw [if_pos c_70, if_pos c_82] at he; rw [sTk, if_pos c_82] at hX; refine w_istore_2 dX3_readSum_90 rfl ?_; refine w_iinc_3 dX3_readSum_91 (nI_inc _) rfl ?_; refine w_goto (tgt := 10) dX3_readSum_94 (by decide) ?_; exact ih (i + 1) _ G _ (by omega) he hX hFF)
theorem lp_sum0 {E : EV} {Q : OC → AH → Prop} {v l n : Nat} {y : Nat → Nat} {G0 : AH} {u1 : US} (hd : l + 6 ≤ v ∨ v + 4 ≤ l) (hQ : ∀ G1, Lx G1 v l y n u1 → FrV G0 G1 v l → Q (.inl none) G1) {G : AH} {z1 z2 : Value} (hX : Lx G v l y n u1) (hFF : FrV G0 G v l) : Wp E 9 0 0 kX3_readSum Q G (0, 0) 10 [.ref v, .ref l, .int (nI 0), z1, z2] [] := by
  refine w_iload_n dX3_readSum_10 rfl ?_
  refine w_ifN_eq (tgt := 97) dX3_readSum_11 (by decide) (fun c_11 => ?_) (fun c9 => absurd (rfl) c9)
  refine w_vret dX3_readSum_97 rfl (Nat.le_of_ble_eq_true rfl) (Nat.le_of_ble_eq_true rfl) ?_
  exact hQ _ hX hFF
theorem c_readSum {E : EV} {v l n : Nat} {y : Nat → Nat} {u : US} {G : AH} (hX : Lx G v l y n u) (hd : l + 6 ≤ v ∨ v + 4 ≤ l) : Cd E 9 kX3_readSum [.ref v, .ref l] G (fun G1 => Lx G1 v l y n (uSum y n u) ∧ FrV G G1 v l) := by
  obtain ⟨v0, v3, hR, hL, hu, hw⟩ := id hX
  obtain ⟨r0, r1, -⟩ := id hR
  obtain ⟨l0, -⟩ := id hL
  have hFF : FrV G G v l := FrV.rf
  refine Ct.intro rfl (by decide) [.ref v, .ref l, .float 0, .float 0, .float 0] (by simp [Value.category]) (Nat.le_of_ble_eq_true rfl) rfl ?_
  refine w_aload_n dX3_readSum_0 rfl ?_
  refine w_getf dX3_readSum_1 fl_X3_12 (by first | assumption | exact gs_at | (rw [gs_ne (by omega)]; (first | assumption | exact gs_at | (rw [gs_ne (by omega)]; (first | assumption | exact gs_at | (rw [gs_ne (by omega)]; (first | assumption | exact gs_at | (rw [gs_ne (by omega)]; (first | assumption | exact gs_at))))))))) rfl ?_
  refine wV0u dX3_readSum_4 lk_X3_49 rfl (by first | assumption | exact gs_at | (rw [gs_ne (by omega)]; (first | assumption | exact gs_at | (rw [gs_ne (by omega)]; (first | assumption | exact gs_at | (rw [gs_ne (by omega)]; (first | assumption | exact gs_at | (rw [gs_ne (by omega)]; (first | assumption | exact gs_at))))))))) rfl rfl (c_isRight hR) (Nat.le_of_ble_eq_true rfl) (Nat.le_of_ble_eq_true rfl) (Nat.le_of_ble_eq_true rfl) (Nat.le_of_ble_eq_true rfl) ?_
  refine w_istore_2 dX3_readSum_7 rfl ?_
  refine w_iconst (v := nI 0) dX3_readSum_8 (by decide) ?_
  refine w_istore_3 dX3_readSum_9 rfl ?_
  by_cases hr : u.1.2 = -1
  · rw [show b2 (u.1.2 = -1) = 1 from if_pos hr]
    exact lp_sum hd (u1 := uSum y n u) (fun G1 a b => ⟨rfl, a, b⟩) 400 0 u G _ rfl (by rw [uSum, if_pos hr]) hX hFF
  · rw [show b2 (u.1.2 = -1) = 0 from if_neg hr]
    exact lp_sum0 hd (u1 := uSum y n u) (fun G1 a b => ⟨rfl, a, b⟩) (by rw [uSum, if_neg hr]; exact hX) hFF
