/-! the model: a line of the law -/
theorem ml_ln107 {E : EV} {Q : OC → AH → Prop} {V n p ab m : Nat} {th hi ac tp ba fa dp io hm_ we sh so : Int32} {G : AH} {z : Value} (hab : ab < 3) (hQ : Q (.inl none) (gs G V (mO V th hi ac tp ba (nI n) (nI (p)) (fa) (dp) io hm_ (we + nI (if ab = 0 then m else 0)) (sh + nI (if ab = 1 then m else 0)) (so + nI (if ab = 2 then m else 0))))) : Wp E 54 0 0 kX8_lawLine Q (gs G V (mO V th hi ac tp ba (nI n) (nI (p)) (fa) (dp) io hm_ (we) (sh) (so))) (0, 0) 107 [.ref V, .int (nI ab), .int (nI m), z] [] := by
  refine w_aload_n dX8_lawLine_107 rfl ?_
  refine w_dup dX8_lawLine_108 rfl ?_
  refine w_getf dX8_lawLine_109 fl_X8_207 (by first | assumption | exact gs_at | (rw [gs_ne (by omega)]; (first | assumption | exact gs_at | (rw [gs_ne (by omega)]; (first | assumption | exact gs_at | (rw [gs_ne (by omega)]; (first | assumption | exact gs_at | (rw [gs_ne (by omega)]; (first | assumption | exact gs_at))))))))) rfl ?_
  refine w_iload_n dX8_lawLine_112 rfl ?_
  refine w_ifN_ne (tgt := 120) dX8_lawLine_113 (by decide) (fun c_113 => ?_) (fun c_113 => ?_)
  · try simp (disch := omega) only [nI_b2, Decidable.not_not, nI_ltI, nI_leI, nI_eq, ge_iff_le, gt_iff_lt, ne_eq, Nat.not_lt, Nat.not_le] at c_113
    refine w_iconst (v := nI 0) dX8_lawLine_120 (by decide) ?_
    refine w_iadd dX8_lawLine_121 ?_
    refine w_putf dX8_lawLine_122 fl_X8_207 (by first | assumption | exact gs_at | (rw [gs_ne (by omega)]; (first | assumption | exact gs_at | (rw [gs_ne (by omega)]; (first | assumption | exact gs_at | (rw [gs_ne (by omega)]; (first | assumption | exact gs_at | (rw [gs_ne (by omega)]; (first | assumption | exact gs_at))))))))) (by simp) rfl rfl ?_
    refine w_aload_n dX8_lawLine_125 rfl ?_
    refine w_dup dX8_lawLine_126 rfl ?_
    refine w_getf dX8_lawLine_127 fl_X8_210 (by first | assumption | exact gs_at | (rw [gs_ne (by omega)]; (first | assumption | exact gs_at | (rw [gs_ne (by omega)]; (first | assumption | exact gs_at | (rw [gs_ne (by omega)]; (first | assumption | exact gs_at | (rw [gs_ne (by omega)]; (first | assumption | exact gs_at))))))))) rfl ?_
    refine w_iload_n dX8_lawLine_130 rfl ?_
    refine w_iconst (v := nI 1) dX8_lawLine_131 (by decide) ?_
    refine w_icmp_ne (tgt := 139) dX8_lawLine_132 (by decide) (fun c_132 => ?_) (fun c_132 => ?_)
    · try simp (disch := omega) only [nI_b2, Decidable.not_not, nI_ltI, nI_leI, nI_eq, ge_iff_le, gt_iff_lt, ne_eq, Nat.not_lt, Nat.not_le] at c_132
      refine w_iconst (v := nI 0) dX8_lawLine_139 (by decide) ?_
      refine w_iadd dX8_lawLine_140 ?_
      refine w_putf dX8_lawLine_141 fl_X8_210 (by first | assumption | exact gs_at | (rw [gs_ne (by omega)]; (first | assumption | exact gs_at | (rw [gs_ne (by omega)]; (first | assumption | exact gs_at | (rw [gs_ne (by omega)]; (first | assumption | exact gs_at | (rw [gs_ne (by omega)]; (first | assumption | exact gs_at))))))))) (by simp) rfl rfl ?_
      refine w_aload_n dX8_lawLine_144 rfl ?_
      refine w_dup dX8_lawLine_145 rfl ?_
      refine w_getf dX8_lawLine_146 fl_X8_213 (by first | assumption | exact gs_at | (rw [gs_ne (by omega)]; (first | assumption | exact gs_at | (rw [gs_ne (by omega)]; (first | assumption | exact gs_at | (rw [gs_ne (by omega)]; (first | assumption | exact gs_at | (rw [gs_ne (by omega)]; (first | assumption | exact gs_at))))))))) rfl ?_
      refine w_iload_n dX8_lawLine_149 rfl ?_
      refine w_iconst (v := nI 2) dX8_lawLine_150 (by decide) ?_
      refine w_icmp_ne (tgt := 158) dX8_lawLine_151 (by decide) (fun c_151 => ?_) (fun c_151 => ?_)
      · try simp (disch := omega) only [nI_b2, Decidable.not_not, nI_ltI, nI_leI, nI_eq, ge_iff_le, gt_iff_lt, ne_eq, Nat.not_lt, Nat.not_le] at c_151
        refine w_iconst (v := nI 0) dX8_lawLine_158 (by decide) ?_
        refine w_iadd dX8_lawLine_159 ?_
        refine w_putf dX8_lawLine_160 fl_X8_213 (by first | assumption | exact gs_at | (rw [gs_ne (by omega)]; (first | assumption | exact gs_at | (rw [gs_ne (by omega)]; (first | assumption | exact gs_at | (rw [gs_ne (by omega)]; (first | assumption | exact gs_at | (rw [gs_ne (by omega)]; (first | assumption | exact gs_at))))))))) (by simp) rfl rfl ?_
        rw [gs_gs, gs_gs, gs_gs]
        refine w_vret dX8_lawLine_163 rfl (Nat.le_of_ble_eq_true rfl) (Nat.le_of_ble_eq_true rfl) ?_
        first
          | (rw [if_pos c_113, if_pos c_132, if_pos c_151] at hQ; exact hQ)
          | (rw [if_pos c_113, if_pos c_132, if_neg c_151] at hQ; exact hQ)
          | (rw [if_pos c_113, if_neg c_132, if_pos c_151] at hQ; exact hQ)
          | (rw [if_pos c_113, if_neg c_132, if_neg c_151] at hQ; exact hQ)
          | (rw [if_neg c_113, if_pos c_132, if_pos c_151] at hQ; exact hQ)
          | (rw [if_neg c_113, if_pos c_132, if_neg c_151] at hQ; exact hQ)
          | (rw [if_neg c_113, if_neg c_132, if_pos c_151] at hQ; exact hQ)
          | (rw [if_neg c_113, if_neg c_132, if_neg c_151] at hQ; exact hQ)
      · try simp (disch := omega) only [nI_b2, Decidable.not_not, nI_ltI, nI_leI, nI_eq, ge_iff_le, gt_iff_lt, ne_eq, Nat.not_lt, Nat.not_le] at c_151
        refine w_iload_n dX8_lawLine_154 rfl ?_
        refine w_goto (tgt := 159) dX8_lawLine_155 (by decide) ?_
        refine w_iadd dX8_lawLine_159 ?_
        refine w_putf dX8_lawLine_160 fl_X8_213 (by first | assumption | exact gs_at | (rw [gs_ne (by omega)]; (first | assumption | exact gs_at | (rw [gs_ne (by omega)]; (first | assumption | exact gs_at | (rw [gs_ne (by omega)]; (first | assumption | exact gs_at | (rw [gs_ne (by omega)]; (first | assumption | exact gs_at))))))))) (by simp) rfl rfl ?_
        rw [gs_gs, gs_gs, gs_gs]
        refine w_vret dX8_lawLine_163 rfl (Nat.le_of_ble_eq_true rfl) (Nat.le_of_ble_eq_true rfl) ?_
        first
          | (rw [if_pos c_113, if_pos c_132, if_pos c_151] at hQ; exact hQ)
          | (rw [if_pos c_113, if_pos c_132, if_neg c_151] at hQ; exact hQ)
          | (rw [if_pos c_113, if_neg c_132, if_pos c_151] at hQ; exact hQ)
          | (rw [if_pos c_113, if_neg c_132, if_neg c_151] at hQ; exact hQ)
          | (rw [if_neg c_113, if_pos c_132, if_pos c_151] at hQ; exact hQ)
          | (rw [if_neg c_113, if_pos c_132, if_neg c_151] at hQ; exact hQ)
          | (rw [if_neg c_113, if_neg c_132, if_pos c_151] at hQ; exact hQ)
          | (rw [if_neg c_113, if_neg c_132, if_neg c_151] at hQ; exact hQ)
    · try simp (disch := omega) only [nI_b2, Decidable.not_not, nI_ltI, nI_leI, nI_eq, ge_iff_le, gt_iff_lt, ne_eq, Nat.not_lt, Nat.not_le] at c_132
      refine w_iload_n dX8_lawLine_135 rfl ?_
      refine w_goto (tgt := 140) dX8_lawLine_136 (by decide) ?_
      refine w_iadd dX8_lawLine_140 ?_
      refine w_putf dX8_lawLine_141 fl_X8_210 (by first | assumption | exact gs_at | (rw [gs_ne (by omega)]; (first | assumption | exact gs_at | (rw [gs_ne (by omega)]; (first | assumption | exact gs_at | (rw [gs_ne (by omega)]; (first | assumption | exact gs_at | (rw [gs_ne (by omega)]; (first | assumption | exact gs_at))))))))) (by simp) rfl rfl ?_
      refine w_aload_n dX8_lawLine_144 rfl ?_
      refine w_dup dX8_lawLine_145 rfl ?_
      refine w_getf dX8_lawLine_146 fl_X8_213 (by first | assumption | exact gs_at | (rw [gs_ne (by omega)]; (first | assumption | exact gs_at | (rw [gs_ne (by omega)]; (first | assumption | exact gs_at | (rw [gs_ne (by omega)]; (first | assumption | exact gs_at | (rw [gs_ne (by omega)]; (first | assumption | exact gs_at))))))))) rfl ?_
      refine w_iload_n dX8_lawLine_149 rfl ?_
      refine w_iconst (v := nI 2) dX8_lawLine_150 (by decide) ?_
      refine w_icmp_ne (tgt := 158) dX8_lawLine_151 (by decide) (fun c_151 => ?_) (fun c_151 => ?_)
      · try simp (disch := omega) only [nI_b2, Decidable.not_not, nI_ltI, nI_leI, nI_eq, ge_iff_le, gt_iff_lt, ne_eq, Nat.not_lt, Nat.not_le] at c_151
        refine w_iconst (v := nI 0) dX8_lawLine_158 (by decide) ?_
        refine w_iadd dX8_lawLine_159 ?_
        refine w_putf dX8_lawLine_160 fl_X8_213 (by first | assumption | exact gs_at | (rw [gs_ne (by omega)]; (first | assumption | exact gs_at | (rw [gs_ne (by omega)]; (first | assumption | exact gs_at | (rw [gs_ne (by omega)]; (first | assumption | exact gs_at | (rw [gs_ne (by omega)]; (first | assumption | exact gs_at))))))))) (by simp) rfl rfl ?_
        rw [gs_gs, gs_gs, gs_gs]
        refine w_vret dX8_lawLine_163 rfl (Nat.le_of_ble_eq_true rfl) (Nat.le_of_ble_eq_true rfl) ?_
        first
          | (rw [if_pos c_113, if_pos c_132, if_pos c_151] at hQ; exact hQ)
          | (rw [if_pos c_113, if_pos c_132, if_neg c_151] at hQ; exact hQ)
          | (rw [if_pos c_113, if_neg c_132, if_pos c_151] at hQ; exact hQ)
          | (rw [if_pos c_113, if_neg c_132, if_neg c_151] at hQ; exact hQ)
          | (rw [if_neg c_113, if_pos c_132, if_pos c_151] at hQ; exact hQ)
          | (rw [if_neg c_113, if_pos c_132, if_neg c_151] at hQ; exact hQ)
          | (rw [if_neg c_113, if_neg c_132, if_pos c_151] at hQ; exact hQ)
          | (rw [if_neg c_113, if_neg c_132, if_neg c_151] at hQ; exact hQ)
      · try simp (disch := omega) only [nI_b2, Decidable.not_not, nI_ltI, nI_leI, nI_eq, ge_iff_le, gt_iff_lt, ne_eq, Nat.not_lt, Nat.not_le] at c_151
        refine w_iload_n dX8_lawLine_154 rfl ?_
        refine w_goto (tgt := 159) dX8_lawLine_155 (by decide) ?_
        refine w_iadd dX8_lawLine_159 ?_
        refine w_putf dX8_lawLine_160 fl_X8_213 (by first | assumption | exact gs_at | (rw [gs_ne (by omega)]; (first | assumption | exact gs_at | (rw [gs_ne (by omega)]; (first | assumption | exact gs_at | (rw [gs_ne (by omega)]; (first | assumption | exact gs_at | (rw [gs_ne (by omega)]; (first | assumption | exact gs_at))))))))) (by simp) rfl rfl ?_
        rw [gs_gs, gs_gs, gs_gs]
        refine w_vret dX8_lawLine_163 rfl (Nat.le_of_ble_eq_true rfl) (Nat.le_of_ble_eq_true rfl) ?_
        first
          | (rw [if_pos c_113, if_pos c_132, if_pos c_151] at hQ; exact hQ)
          | (rw [if_pos c_113, if_pos c_132, if_neg c_151] at hQ; exact hQ)
          | (rw [if_pos c_113, if_neg c_132, if_pos c_151] at hQ; exact hQ)
          | (rw [if_pos c_113, if_neg c_132, if_neg c_151] at hQ; exact hQ)
          | (rw [if_neg c_113, if_pos c_132, if_pos c_151] at hQ; exact hQ)
          | (rw [if_neg c_113, if_pos c_132, if_neg c_151] at hQ; exact hQ)
          | (rw [if_neg c_113, if_neg c_132, if_pos c_151] at hQ; exact hQ)
          | (rw [if_neg c_113, if_neg c_132, if_neg c_151] at hQ; exact hQ)
  · try simp (disch := omega) only [nI_b2, Decidable.not_not, nI_ltI, nI_leI, nI_eq, ge_iff_le, gt_iff_lt, ne_eq, Nat.not_lt, Nat.not_le] at c_113
    refine w_iload_n dX8_lawLine_116 rfl ?_
    refine w_goto (tgt := 121) dX8_lawLine_117 (by decide) ?_
    refine w_iadd dX8_lawLine_121 ?_
    refine w_putf dX8_lawLine_122 fl_X8_207 (by first | assumption | exact gs_at | (rw [gs_ne (by omega)]; (first | assumption | exact gs_at | (rw [gs_ne (by omega)]; (first | assumption | exact gs_at | (rw [gs_ne (by omega)]; (first | assumption | exact gs_at | (rw [gs_ne (by omega)]; (first | assumption | exact gs_at))))))))) (by simp) rfl rfl ?_
    refine w_aload_n dX8_lawLine_125 rfl ?_
    refine w_dup dX8_lawLine_126 rfl ?_
    refine w_getf dX8_lawLine_127 fl_X8_210 (by first | assumption | exact gs_at | (rw [gs_ne (by omega)]; (first | assumption | exact gs_at | (rw [gs_ne (by omega)]; (first | assumption | exact gs_at | (rw [gs_ne (by omega)]; (first | assumption | exact gs_at | (rw [gs_ne (by omega)]; (first | assumption | exact gs_at))))))))) rfl ?_
    refine w_iload_n dX8_lawLine_130 rfl ?_
    refine w_iconst (v := nI 1) dX8_lawLine_131 (by decide) ?_
    refine w_icmp_ne (tgt := 139) dX8_lawLine_132 (by decide) (fun c_132 => ?_) (fun c_132 => ?_)
    · try simp (disch := omega) only [nI_b2, Decidable.not_not, nI_ltI, nI_leI, nI_eq, ge_iff_le, gt_iff_lt, ne_eq, Nat.not_lt, Nat.not_le] at c_132
      refine w_iconst (v := nI 0) dX8_lawLine_139 (by decide) ?_
      refine w_iadd dX8_lawLine_140 ?_
      refine w_putf dX8_lawLine_141 fl_X8_210 (by first | assumption | exact gs_at | (rw [gs_ne (by omega)]; (first | assumption | exact gs_at | (rw [gs_ne (by omega)]; (first | assumption | exact gs_at | (rw [gs_ne (by omega)]; (first | assumption | exact gs_at | (rw [gs_ne (by omega)]; (first | assumption | exact gs_at))))))))) (by simp) rfl rfl ?_
      refine w_aload_n dX8_lawLine_144 rfl ?_
      refine w_dup dX8_lawLine_145 rfl ?_
      refine w_getf dX8_lawLine_146 fl_X8_213 (by first | assumption | exact gs_at | (rw [gs_ne (by omega)]; (first | assumption | exact gs_at | (rw [gs_ne (by omega)]; (first | assumption | exact gs_at | (rw [gs_ne (by omega)]; (first | assumption | exact gs_at | (rw [gs_ne (by omega)]; (first | assumption | exact gs_at))))))))) rfl ?_
      refine w_iload_n dX8_lawLine_149 rfl ?_
      refine w_iconst (v := nI 2) dX8_lawLine_150 (by decide) ?_
      refine w_icmp_ne (tgt := 158) dX8_lawLine_151 (by decide) (fun c_151 => ?_) (fun c_151 => ?_)
      · try simp (disch := omega) only [nI_b2, Decidable.not_not, nI_ltI, nI_leI, nI_eq, ge_iff_le, gt_iff_lt, ne_eq, Nat.not_lt, Nat.not_le] at c_151
        refine w_iconst (v := nI 0) dX8_lawLine_158 (by decide) ?_
        refine w_iadd dX8_lawLine_159 ?_
        refine w_putf dX8_lawLine_160 fl_X8_213 (by first | assumption | exact gs_at | (rw [gs_ne (by omega)]; (first | assumption | exact gs_at | (rw [gs_ne (by omega)]; (first | assumption | exact gs_at | (rw [gs_ne (by omega)]; (first | assumption | exact gs_at | (rw [gs_ne (by omega)]; (first | assumption | exact gs_at))))))))) (by simp) rfl rfl ?_
        rw [gs_gs, gs_gs, gs_gs]
        refine w_vret dX8_lawLine_163 rfl (Nat.le_of_ble_eq_true rfl) (Nat.le_of_ble_eq_true rfl) ?_
        first
          | (rw [if_pos c_113, if_pos c_132, if_pos c_151] at hQ; exact hQ)
          | (rw [if_pos c_113, if_pos c_132, if_neg c_151] at hQ; exact hQ)
          | (rw [if_pos c_113, if_neg c_132, if_pos c_151] at hQ; exact hQ)
          | (rw [if_pos c_113, if_neg c_132, if_neg c_151] at hQ; exact hQ)
          | (rw [if_neg c_113, if_pos c_132, if_pos c_151] at hQ; exact hQ)
          | (rw [if_neg c_113, if_pos c_132, if_neg c_151] at hQ; exact hQ)
          | (rw [if_neg c_113, if_neg c_132, if_pos c_151] at hQ; exact hQ)
          | (rw [if_neg c_113, if_neg c_132, if_neg c_151] at hQ; exact hQ)
      · try simp (disch := omega) only [nI_b2, Decidable.not_not, nI_ltI, nI_leI, nI_eq, ge_iff_le, gt_iff_lt, ne_eq, Nat.not_lt, Nat.not_le] at c_151
        refine w_iload_n dX8_lawLine_154 rfl ?_
        refine w_goto (tgt := 159) dX8_lawLine_155 (by decide) ?_
        refine w_iadd dX8_lawLine_159 ?_
        refine w_putf dX8_lawLine_160 fl_X8_213 (by first | assumption | exact gs_at | (rw [gs_ne (by omega)]; (first | assumption | exact gs_at | (rw [gs_ne (by omega)]; (first | assumption | exact gs_at | (rw [gs_ne (by omega)]; (first | assumption | exact gs_at | (rw [gs_ne (by omega)]; (first | assumption | exact gs_at))))))))) (by simp) rfl rfl ?_
        rw [gs_gs, gs_gs, gs_gs]
        refine w_vret dX8_lawLine_163 rfl (Nat.le_of_ble_eq_true rfl) (Nat.le_of_ble_eq_true rfl) ?_
        first
          | (rw [if_pos c_113, if_pos c_132, if_pos c_151] at hQ; exact hQ)
          | (rw [if_pos c_113, if_pos c_132, if_neg c_151] at hQ; exact hQ)
          | (rw [if_pos c_113, if_neg c_132, if_pos c_151] at hQ; exact hQ)
          | (rw [if_pos c_113, if_neg c_132, if_neg c_151] at hQ; exact hQ)
          | (rw [if_neg c_113, if_pos c_132, if_pos c_151] at hQ; exact hQ)
          | (rw [if_neg c_113, if_pos c_132, if_neg c_151] at hQ; exact hQ)
          | (rw [if_neg c_113, if_neg c_132, if_pos c_151] at hQ; exact hQ)
          | (rw [if_neg c_113, if_neg c_132, if_neg c_151] at hQ; exact hQ)
    · try simp (disch := omega) only [nI_b2, Decidable.not_not, nI_ltI, nI_leI, nI_eq, ge_iff_le, gt_iff_lt, ne_eq, Nat.not_lt, Nat.not_le] at c_132
      refine w_iload_n dX8_lawLine_135 rfl ?_
      refine w_goto (tgt := 140) dX8_lawLine_136 (by decide) ?_
      refine w_iadd dX8_lawLine_140 ?_
      refine w_putf dX8_lawLine_141 fl_X8_210 (by first | assumption | exact gs_at | (rw [gs_ne (by omega)]; (first | assumption | exact gs_at | (rw [gs_ne (by omega)]; (first | assumption | exact gs_at | (rw [gs_ne (by omega)]; (first | assumption | exact gs_at | (rw [gs_ne (by omega)]; (first | assumption | exact gs_at))))))))) (by simp) rfl rfl ?_
      refine w_aload_n dX8_lawLine_144 rfl ?_
      refine w_dup dX8_lawLine_145 rfl ?_
      refine w_getf dX8_lawLine_146 fl_X8_213 (by first | assumption | exact gs_at | (rw [gs_ne (by omega)]; (first | assumption | exact gs_at | (rw [gs_ne (by omega)]; (first | assumption | exact gs_at | (rw [gs_ne (by omega)]; (first | assumption | exact gs_at | (rw [gs_ne (by omega)]; (first | assumption | exact gs_at))))))))) rfl ?_
      refine w_iload_n dX8_lawLine_149 rfl ?_
      refine w_iconst (v := nI 2) dX8_lawLine_150 (by decide) ?_
      refine w_icmp_ne (tgt := 158) dX8_lawLine_151 (by decide) (fun c_151 => ?_) (fun c_151 => ?_)
      · try simp (disch := omega) only [nI_b2, Decidable.not_not, nI_ltI, nI_leI, nI_eq, ge_iff_le, gt_iff_lt, ne_eq, Nat.not_lt, Nat.not_le] at c_151
        refine w_iconst (v := nI 0) dX8_lawLine_158 (by decide) ?_
        refine w_iadd dX8_lawLine_159 ?_
        refine w_putf dX8_lawLine_160 fl_X8_213 (by first | assumption | exact gs_at | (rw [gs_ne (by omega)]; (first | assumption | exact gs_at | (rw [gs_ne (by omega)]; (first | assumption | exact gs_at | (rw [gs_ne (by omega)]; (first | assumption | exact gs_at | (rw [gs_ne (by omega)]; (first | assumption | exact gs_at))))))))) (by simp) rfl rfl ?_
        rw [gs_gs, gs_gs, gs_gs]
        refine w_vret dX8_lawLine_163 rfl (Nat.le_of_ble_eq_true rfl) (Nat.le_of_ble_eq_true rfl) ?_
        first
          | (rw [if_pos c_113, if_pos c_132, if_pos c_151] at hQ; exact hQ)
          | (rw [if_pos c_113, if_pos c_132, if_neg c_151] at hQ; exact hQ)
          | (rw [if_pos c_113, if_neg c_132, if_pos c_151] at hQ; exact hQ)
          | (rw [if_pos c_113, if_neg c_132, if_neg c_151] at hQ; exact hQ)
          | (rw [if_neg c_113, if_pos c_132, if_pos c_151] at hQ; exact hQ)
          | (rw [if_neg c_113, if_pos c_132, if_neg c_151] at hQ; exact hQ)
          | (rw [if_neg c_113, if_neg c_132, if_pos c_151] at hQ; exact hQ)
          | (rw [if_neg c_113, if_neg c_132, if_neg c_151] at hQ; exact hQ)
      · try simp (disch := omega) only [nI_b2, Decidable.not_not, nI_ltI, nI_leI, nI_eq, ge_iff_le, gt_iff_lt, ne_eq, Nat.not_lt, Nat.not_le] at c_151
        refine w_iload_n dX8_lawLine_154 rfl ?_
        refine w_goto (tgt := 159) dX8_lawLine_155 (by decide) ?_
        refine w_iadd dX8_lawLine_159 ?_
        refine w_putf dX8_lawLine_160 fl_X8_213 (by first | assumption | exact gs_at | (rw [gs_ne (by omega)]; (first | assumption | exact gs_at | (rw [gs_ne (by omega)]; (first | assumption | exact gs_at | (rw [gs_ne (by omega)]; (first | assumption | exact gs_at | (rw [gs_ne (by omega)]; (first | assumption | exact gs_at))))))))) (by simp) rfl rfl ?_
        rw [gs_gs, gs_gs, gs_gs]
        refine w_vret dX8_lawLine_163 rfl (Nat.le_of_ble_eq_true rfl) (Nat.le_of_ble_eq_true rfl) ?_
        first
          | (rw [if_pos c_113, if_pos c_132, if_pos c_151] at hQ; exact hQ)
          | (rw [if_pos c_113, if_pos c_132, if_neg c_151] at hQ; exact hQ)
          | (rw [if_pos c_113, if_neg c_132, if_pos c_151] at hQ; exact hQ)
          | (rw [if_pos c_113, if_neg c_132, if_neg c_151] at hQ; exact hQ)
          | (rw [if_neg c_113, if_pos c_132, if_pos c_151] at hQ; exact hQ)
          | (rw [if_neg c_113, if_pos c_132, if_neg c_151] at hQ; exact hQ)
          | (rw [if_neg c_113, if_neg c_132, if_pos c_151] at hQ; exact hQ)
          | (rw [if_neg c_113, if_neg c_132, if_neg c_151] at hQ; exact hQ)
def LnP (G : AH) (V n : Nat) (th hi ac tp ba io hm_ we sh so : Int32) (y : Nat → Nat) (F : Nat → Int32) (i : Nat) (u : US) (G1 : AH) : Prop := ∃ (p2 : Nat) (dp2 fa2 we2 sh2 so2 : Int32), G1 = gs G V (mO V th hi ac tp ba (nI n) (nI (p2)) (fa2) (dp2) io hm_ (we2) (sh2) (so2)) ∧ p2 ≤ n + 6 ∧
 ((¬ fa2 = -1 ∧ (uLine y n i u).1.2 = fa2) ∨
  (fa2 = -1 ∧ p2 ≤ n ∧ (uLine y n i u).1.2 = nI (skp y n p2) ∧ atB y n (skp y n p2) [41] = true) ∨
  (fa2 = -1 ∧ dp2 = nI 0 ∧ p2 ≤ n ∧ (uLine y n i u).1 = (skp y n p2, -1) ∧ ∃ (ab m : Nat) (cs : List Int32), ab < 3 ∧ m ≤ 20 ∧ (uLine y n i u).2.1 = endX (apX (begX u.2.1 i (nI ab) (nI m)) cs) i ∧ u.2.1.2.2.2.2.2 + cs.length ≤ skp y n p2 ∧
     ∀ T k, FOK T k F io hm_ → we2 = we + nI (if hEnd (hL T k cs h0).1 ∧ ab = 0 then m else 0) ∧ sh2 = sh + nI (if hEnd (hL T k cs h0).1 ∧ ab = 1 then m else 0) ∧ so2 = so + nI (if hEnd (hL T k cs h0).1 ∧ ab = 2 then m else 0)))
theorem if_t {p q : Prop} [Decidable p] [Decidable q] {a b : Nat} (h : p) : (if p ∧ q then a else b) = if q then a else b := by
  by_cases hq : q
  · rw [if_pos ⟨h, hq⟩, if_pos hq]
  · rw [if_neg (fun h9 => hq h9.2), if_neg hq]
theorem skp_nx2 {y : Nat → Nat} {n p : Nat} (hn : n ≤ 400) : skp y n (nxt y n p) = nxt y n p := skp_skp hn
theorem nx_ge {y : Nat → Nat} {n p : Nat} (hp : p ≤ n) : p ≤ nxt y n p := Nat.le_trans (tokE_le hp).1 (skp_le (tokE_le hp).2).1
theorem ml_ln55 {E : EV} {Q : OC → AH → Prop} {V n b i : Nat} {th hi ac tp ba io hm_ we sh so : Int32} {y : Nat → Nat} {G : AH} {F : Nat → Int32} {u : US} {ab : Nat} {z z2 : Value} (hT : TxP G V ba y n) (hn : n ≤ 400) (hy : ∀ i, y i < 256) (hF : G.1 (V + 6) = some (aI 7 F)) (hb0 : b ≤ n) (hu : u.1 = (b, -1)) (hX : u.2.1.2.2.2.2.2 ≤ b) (hab : ab < 3) (hw : abF y n b = ab) (hQ : ∀ G1, LnP G V n th hi ac tp ba io hm_ we sh so y F i u G1 → Q (.inl none) G1) : Wp E 54 0 0 kX8_lawLine Q (gs G V (mO V th hi ac tp ba (nI n) (nI (tokE y n b)) (-1) (nI 0) io hm_ (we) (sh) (so))) (0, 0) 55 [.ref V, .int (nI ab), z, z2] [] := by
  have htb := (tokE_le (y := y) hb0).2
  have hq1 := nxt_le (y := y) hb0
  have hq2 := nxt_le (y := y) hq1
  have htq := (tokE_le (y := y) hq1).2
  have htr := (tokE_le (y := y) hq2).2
  have u1 : u.1.1 = b := by rw [hu]
  have u2 : u.1.2 = -1 := by rw [hu]
  have hw3 : ¬ abF y n u.1.1 = 3 := by rw [u1]; omega
  have eqq : skp y n (tokE y n (nxt y n b)) = nxt y n (nxt y n b) := rfl
  have ebb : skp y n (tokE y n b) = nxt y n b := rfl
  refine w_aload_n dX8_lawLine_55 rfl ?_
  refine w_iconst (v := nI 0) dX8_lawLine_56 (by decide) ?_
  refine w_bipush (v := nI 20) dX8_lawLine_57 (by decide) ?_
  refine wV2i dX8_lawLine_59 lk_X8_90 rfl (by first | assumption | exact gs_at | (rw [gs_ne (by omega)]; (first | assumption | exact gs_at | (rw [gs_ne (by omega)]; (first | assumption | exact gs_at | (rw [gs_ne (by omega)]; (first | assumption | exact gs_at | (rw [gs_ne (by omega)]; (first | assumption | exact gs_at))))))))) rfl rfl (m_fig (p := tokE y n b) (lo := 0) (h9 := 21) gs_at hT.gs hn hy htb (by decide) (by decide) rfl) (Nat.le_of_ble_eq_true rfl) (Nat.le_of_ble_eq_true rfl) (Nat.le_of_ble_eq_true rfl) (Nat.le_of_ble_eq_true rfl) (fun r_59 G_59 h_59 => ?_)
  rw [ebb] at h_59
  rcases h_59 with ⟨v, e1, rfl, e3⟩ | ⟨e1, p2, v, hp2, rfl, e3⟩
  · rw [gs_gs] at e3
    subst e3
    have hv := numF_lt e1
    refine w_istore_2 dX8_lawLine_62 rfl ?_
    refine w_aload_n dX8_lawLine_63 rfl ?_
    refine w_getf dX8_lawLine_64 fl_X8_25 (by first | assumption | exact gs_at | (rw [gs_ne (by omega)]; (first | assumption | exact gs_at | (rw [gs_ne (by omega)]; (first | assumption | exact gs_at | (rw [gs_ne (by omega)]; (first | assumption | exact gs_at | (rw [gs_ne (by omega)]; (first | assumption | exact gs_at))))))))) rfl ?_
    refine w_iconst (v := (-1)) dX8_lawLine_67 (by decide) ?_
    refine w_icmp_eq (tgt := 72) dX8_lawLine_68 (by decide) (fun c_68 => ?_) (fun c_68 => ?_)
    · try simp only [nI_b2, Decidable.not_not, ne_eq] at c_68
      refine w_aload_n dX8_lawLine_72 rfl ?_
      refine w_ldcS (i := 45) rfl rfl dX8_lawLine_73 ?_
      refine wV1i dX8_lawLine_75 lk_X8_86 rfl (by first | assumption | exact gs_at | (rw [gs_ne (by omega)]; (first | assumption | exact gs_at | (rw [gs_ne (by omega)]; (first | assumption | exact gs_at | (rw [gs_ne (by omega)]; (first | assumption | exact gs_at | (rw [gs_ne (by omega)]; (first | assumption | exact gs_at))))))))) rfl rfl (m_has (ws := [105, 102]) rfl rfl (by decide) (by decide) (by decide) (by decide) gs_at hT.gs hn hy htq) (Nat.le_of_ble_eq_true rfl) (Nat.le_of_ble_eq_true rfl) (Nat.le_of_ble_eq_true rfl) (Nat.le_of_ble_eq_true rfl) (fun r_75 G_75 h_75 => ?_)
      obtain ⟨k2_75, k3_75⟩ := h_75
      rw [gs_gs, eqq] at k3_75
      rw [eqq] at k2_75
      subst k2_75
      refine w_ifN_eq (tgt := 88) dX8_lawLine_78 (by decide) (fun c_78 => ?_) (fun c_78 => ?_)
      · try simp only [nI_b2, Decidable.not_not, ne_eq] at c_78
        rw [if_neg c_78] at k3_75
        subst k3_75
        obtain ⟨lc1, lc2⟩ := ln_c (y := y) (i := i) hw3 u2 (by rw [u1]; exact e1) (by rw [u1]; exact c_78)
        rw [u1] at lc1 lc2
        rw [hw] at lc2
        refine w_iconst (v := nI 1) dX8_lawLine_88 (by decide) ?_
        refine w_goto (tgt := 93) dX8_lawLine_89 (by decide) ?_
        refine w_istore_3 dX8_lawLine_93 rfl ?_
        refine w_aload_n dX8_lawLine_94 rfl ?_
        refine w_getf dX8_lawLine_95 fl_X8_25 (by first | assumption | exact gs_at | (rw [gs_ne (by omega)]; (first | assumption | exact gs_at | (rw [gs_ne (by omega)]; (first | assumption | exact gs_at | (rw [gs_ne (by omega)]; (first | assumption | exact gs_at | (rw [gs_ne (by omega)]; (first | assumption | exact gs_at))))))))) rfl ?_
        refine w_iconst (v := (-1)) dX8_lawLine_98 (by decide) ?_
        refine w_icmp_ne (tgt := 106) dX8_lawLine_99 (by decide) (fun c_99 => ?_) (fun c_99 => ?_)
        · try simp only [nI_b2, Decidable.not_not, ne_eq] at c_99
          exact absurd trivial c_99
        · try simp only [nI_b2, Decidable.not_not, ne_eq] at c_99
          refine w_iload_n dX8_lawLine_102 rfl ?_
          refine w_ifN_ne (tgt := 107) dX8_lawLine_103 (by decide) (fun c_103 => ?_) (fun c_103 => ?_)
          · try simp only [nI_b2, Decidable.not_not, ne_eq] at c_103
            refine ml_ln107 hab (hQ _ ⟨_, nI 0, -1, _, _, _, rfl, by omega, Or.inr (Or.inr ⟨rfl, rfl, hq2, by rw [skp_nx2 hn]; exact lc1, ab, v, [], hab, by omega, lc2, by rw [skp_nx2 hn]; have := nx_ge (y := y) hb0; have := nx_ge (y := y) hq1; simp only [List.length_nil]; omega, fun T k hf => ?_⟩)⟩)
            have hE : hEnd (hL T k [] h0).1 := hEnd_0
            exact ⟨by rw [if_t hE], by rw [if_t hE], by rw [if_t hE]⟩
          · try simp only [nI_b2, Decidable.not_not, ne_eq] at c_103
            exact absurd c_103 (by decide)
      · try simp only [nI_b2, Decidable.not_not, ne_eq] at c_78
        rw [if_pos c_78] at k3_75
        subst k3_75
        refine w_aload_n dX8_lawLine_81 rfl ?_
        refine wV0i dX8_lawLine_82 lk_X8_191 rfl (by first | assumption | exact gs_at | (rw [gs_ne (by omega)]; (first | assumption | exact gs_at | (rw [gs_ne (by omega)]; (first | assumption | exact gs_at | (rw [gs_ne (by omega)]; (first | assumption | exact gs_at | (rw [gs_ne (by omega)]; (first | assumption | exact gs_at))))))))) rfl rfl (m_cond _ _ (tokE y n (nxt y n (nxt y n b))) _ _ _ _ _ _ _ _ _ _ _ _ F gs_at hT.gs hn hy htr ((gs_ne (by omega)).trans hF)) (Nat.le_of_ble_eq_true rfl) (Nat.le_of_ble_eq_true rfl) (Nat.le_of_ble_eq_true rfl) (Nat.le_of_ble_eq_true rfl) (fun r_82 G_82 h_82 => ?_)
        have h_82 : LPo (gs G V (mO V th hi ac tp ba (nI n) (nI (tokE y n (nxt y n (nxt y n b)))) (-1) (nI 0) io hm_ (we) (sh) (so))) V n th hi ac tp ba (nI 0) io hm_ we sh so y (n + 6) (pSo y n (pAtom y n 6) (nxt y n (nxt y n (nxt y n b)), -1)).1 G_82 ∧ Bo r_82 ∧ ((pSo y n (pAtom y n 6) (nxt y n (nxt y n (nxt y n b)), -1)).1.2 = -1 → ∀ T k, FOK T k F io hm_ → ∃ v, r_82 = nI v ∧ ∀ b9, b9 + 14 ≤ 60 → EvV T k b9 (pSo y n (pAtom y n 6) (nxt y n (nxt y n (nxt y n b)), -1)).2 v) := h_82
        obtain ⟨g0, gb, g4⟩ := h_82
        replace g0 := g0.base
        obtain ⟨p7, dp7, g1, g2, g3⟩ := g0
        subst g2
        have hd := ln_d (y := y) (i := i) hn (by rw [u1]; exact hb0) (by rw [u1]; exact hX) hw3 u2 (by rw [u1]; exact e1) (by rw [u1]; exact c_78)
        rw [u1] at hd
        obtain ⟨hd1, hd2⟩ := hd
        refine w_ifN_eq (tgt := 92) dX8_lawLine_85 (by decide) (fun c_85 => ?_) (fun c_85 => ?_)
        · try simp only [nI_b2, Decidable.not_not, ne_eq] at c_85
          refine w_iconst (v := nI 0) dX8_lawLine_92 (by decide) ?_
          refine w_istore_3 dX8_lawLine_93 rfl ?_
          refine w_aload_n dX8_lawLine_94 rfl ?_
          refine w_getf dX8_lawLine_95 fl_X8_25 (by first | assumption | exact gs_at | (rw [gs_ne (by omega)]; (first | assumption | exact gs_at | (rw [gs_ne (by omega)]; (first | assumption | exact gs_at | (rw [gs_ne (by omega)]; (first | assumption | exact gs_at | (rw [gs_ne (by omega)]; (first | assumption | exact gs_at))))))))) rfl ?_
          refine w_iconst (v := (-1)) dX8_lawLine_98 (by decide) ?_
          refine w_icmp_ne (tgt := 106) dX8_lawLine_99 (by decide) (fun c_99 => ?_) (fun c_99 => ?_)
          · try simp only [nI_b2, Decidable.not_not, ne_eq] at c_99
            refine w_vret dX8_lawLine_106 rfl (Nat.le_of_ble_eq_true rfl) (Nat.le_of_ble_eq_true rfl) ?_
            exact hQ _ ⟨p7, _, _, _, _, _, rfl, g1, Or.inl ⟨c_99, hd1 c_99⟩⟩
          · try simp only [nI_b2, Decidable.not_not, ne_eq] at c_99
            obtain ⟨d1, d2, d3⟩ := g3 c_99
            have d3 := d3.symm
            subst d3
            obtain ⟨hd3, hd4⟩ := hd2 c_99
            have hsg := pSo_g (y := y) hn (pAtom_g (y := y) hn 6) (s := (nxt y n (nxt y n (nxt y n b)), -1)) (nxt_le hq2)
            obtain ⟨hs1, hs2⟩ := hsg
            obtain ⟨-, hs3, hs4, -, -⟩ := hs2 c_99
            have hat := (at_nxt hq2 c_78).1
            simp only [List.length_cons, List.length_nil] at hat
            have hge1 := nx_ge (y := y) hb0
            have hge2 := nx_ge (y := y) hq1
            have hs5 : (pSo y n (pAtom y n 6) (nxt y n (nxt y n (nxt y n b)), -1)).2.length + nxt y n (nxt y n (nxt y n b)) ≤ (pSo y n (pAtom y n 6) (nxt y n (nxt y n (nxt y n b)), -1)).1.1 + 1 := hs4
            refine w_iload_n dX8_lawLine_102 rfl ?_
            refine w_ifN_ne (tgt := 107) dX8_lawLine_103 (by decide) (fun c_103 => ?_) (fun c_103 => ?_)
            · try simp only [nI_b2, Decidable.not_not, ne_eq] at c_103
              exact absurd trivial c_103
            · try simp only [nI_b2, Decidable.not_not, ne_eq] at c_103
              refine w_vret dX8_lawLine_106 rfl (Nat.le_of_ble_eq_true rfl) (Nat.le_of_ble_eq_true rfl) ?_
              by_cases h41 : atB y n (pSo y n (pAtom y n 6) (nxt y n (nxt y n (nxt y n b)), -1)).1.1 [41] = true
              · exact hQ _ ⟨p7, _, -1, _, _, _, by rw [c_99], by omega, Or.inr (Or.inl ⟨rfl, d1, by rw [d2]; exact hd4 h41, by rw [d2]; exact h41⟩)⟩
              · obtain ⟨l1, l2⟩ := hd3 h41
                rw [hw] at l2
                refine hQ _ ⟨p7, nI 0, -1, _, _, _, by rw [c_99], by omega, Or.inr (Or.inr ⟨rfl, rfl, d1, by rw [l1, d2]; exact Prod.ext rfl c_99, ab, v, (pSo y n (pAtom y n 6) (nxt y n (nxt y n (nxt y n b)), -1)).2, hab, by omega, l2, by rw [d2]; omega, fun T k hf => ?_⟩)⟩
                obtain ⟨w, ew, uw⟩ := g4 c_99 T k hf
                have hE := (uw 1 (by omega)).end
                have hw1 := (uw 0 (by omega)).1
                have hww : ¬ w = 1 := fun h => by rw [ew, h] at c_85; exact absurd c_85 (by decide)
                have hE1 : ¬ hEnd (hL T k (pSo y n (pAtom y n 6) (nxt y n (nxt y n (nxt y n b)), -1)).2 h0).1 := fun h => hww (hE.mp h)
                simp only [hE1, false_and, if_false]
                exact ⟨(Int32.add_zero _).symm, (Int32.add_zero _).symm, (Int32.add_zero _).symm⟩
        · try simp only [nI_b2, Decidable.not_not, ne_eq] at c_85
          refine w_iconst (v := nI 1) dX8_lawLine_88 (by decide) ?_
          refine w_goto (tgt := 93) dX8_lawLine_89 (by decide) ?_
          refine w_istore_3 dX8_lawLine_93 rfl ?_
          refine w_aload_n dX8_lawLine_94 rfl ?_
          refine w_getf dX8_lawLine_95 fl_X8_25 (by first | assumption | exact gs_at | (rw [gs_ne (by omega)]; (first | assumption | exact gs_at | (rw [gs_ne (by omega)]; (first | assumption | exact gs_at | (rw [gs_ne (by omega)]; (first | assumption | exact gs_at | (rw [gs_ne (by omega)]; (first | assumption | exact gs_at))))))))) rfl ?_
          refine w_iconst (v := (-1)) dX8_lawLine_98 (by decide) ?_
          refine w_icmp_ne (tgt := 106) dX8_lawLine_99 (by decide) (fun c_99 => ?_) (fun c_99 => ?_)
          · try simp only [nI_b2, Decidable.not_not, ne_eq] at c_99
            refine w_vret dX8_lawLine_106 rfl (Nat.le_of_ble_eq_true rfl) (Nat.le_of_ble_eq_true rfl) ?_
            exact hQ _ ⟨p7, _, _, _, _, _, rfl, g1, Or.inl ⟨c_99, hd1 c_99⟩⟩
          · try simp only [nI_b2, Decidable.not_not, ne_eq] at c_99
            obtain ⟨d1, d2, d3⟩ := g3 c_99
            have d3 := d3.symm
            subst d3
            obtain ⟨hd3, hd4⟩ := hd2 c_99
            have hsg := pSo_g (y := y) hn (pAtom_g (y := y) hn 6) (s := (nxt y n (nxt y n (nxt y n b)), -1)) (nxt_le hq2)
            obtain ⟨hs1, hs2⟩ := hsg
            obtain ⟨-, hs3, hs4, -, -⟩ := hs2 c_99
            have hat := (at_nxt hq2 c_78).1
            simp only [List.length_cons, List.length_nil] at hat
            have hge1 := nx_ge (y := y) hb0
            have hge2 := nx_ge (y := y) hq1
            have hs5 : (pSo y n (pAtom y n 6) (nxt y n (nxt y n (nxt y n b)), -1)).2.length + nxt y n (nxt y n (nxt y n b)) ≤ (pSo y n (pAtom y n 6) (nxt y n (nxt y n (nxt y n b)), -1)).1.1 + 1 := hs4
            refine w_iload_n dX8_lawLine_102 rfl ?_
            refine w_ifN_ne (tgt := 107) dX8_lawLine_103 (by decide) (fun c_103 => ?_) (fun c_103 => ?_)
            · try simp only [nI_b2, Decidable.not_not, ne_eq] at c_103
              by_cases h41 : atB y n (pSo y n (pAtom y n 6) (nxt y n (nxt y n (nxt y n b)), -1)).1.1 [41] = true
              · exact ml_ln107 hab (hQ _ ⟨p7, _, -1, _, _, _, by first | rfl | rw [c_99], by omega, Or.inr (Or.inl ⟨rfl, d1, by rw [d2]; exact hd4 h41, by rw [d2]; exact h41⟩)⟩)
              · obtain ⟨l1, l2⟩ := hd3 h41
                rw [hw] at l2
                refine ml_ln107 hab (hQ _ ⟨p7, nI 0, -1, _, _, _, by first | rfl | rw [c_99], by omega, Or.inr (Or.inr ⟨rfl, rfl, d1, by rw [l1, d2]; exact Prod.ext rfl c_99, ab, v, (pSo y n (pAtom y n 6) (nxt y n (nxt y n (nxt y n b)), -1)).2, hab, by omega, l2, by rw [d2]; omega, fun T k hf => ?_⟩)⟩)
                obtain ⟨w, ew, uw⟩ := g4 c_99 T k hf
                have hE := (uw 1 (by omega)).end
                have hw1 := (uw 0 (by omega)).1
                have hww : w = 1 := by rcases Nat.le_one_iff_eq_zero_or_eq_one.mp hw1 with h | h; exact absurd (by rw [ew, h]) c_85; exact h
                have hE1 := hE.mpr hww
                exact ⟨by rw [if_t hE1], by rw [if_t hE1], by rw [if_t hE1]⟩
            · try simp only [nI_b2, Decidable.not_not, ne_eq] at c_103
              exact absurd c_103 (by decide)
    · try simp only [nI_b2, Decidable.not_not, ne_eq] at c_68
      exact absurd trivial c_68
  · rw [gs_gs] at e3
    subst e3
    refine w_istore_2 dX8_lawLine_62 rfl ?_
    refine w_aload_n dX8_lawLine_63 rfl ?_
    refine w_getf dX8_lawLine_64 fl_X8_25 (by first | assumption | exact gs_at | (rw [gs_ne (by omega)]; (first | assumption | exact gs_at | (rw [gs_ne (by omega)]; (first | assumption | exact gs_at | (rw [gs_ne (by omega)]; (first | assumption | exact gs_at | (rw [gs_ne (by omega)]; (first | assumption | exact gs_at))))))))) rfl ?_
    refine w_iconst (v := (-1)) dX8_lawLine_67 (by decide) ?_
    refine w_icmp_eq (tgt := 72) dX8_lawLine_68 (by decide) (fun c_68 => ?_) (fun c_68 => ?_)
    · try simp only [nI_b2, Decidable.not_not, ne_eq] at c_68
      exact absurd c_68 (nI_nm1 (show nxt y n b < 2 ^ 31 by omega))
    · try simp only [nI_b2, Decidable.not_not, ne_eq] at c_68
      refine w_vret dX8_lawLine_71 rfl (Nat.le_of_ble_eq_true rfl) (Nat.le_of_ble_eq_true rfl) ?_
      have lb := ln_b (y := y) (i := i) hn (by rw [u1]; exact hb0) hw3 u2 (by rw [u1]; exact e1)
      rw [u1] at lb
      exact hQ _ ⟨p2, _, _, _, _, _, rfl, by omega, Or.inl ⟨nI_nm1 (show nxt y n b < 2 ^ 31 by omega), lb⟩⟩

theorem ml_ln40 {E : EV} {Q : OC → AH → Prop} {V n b i : Nat} {th hi ac tp ba io hm_ we sh so : Int32} {y : Nat → Nat} {G : AH} {F : Nat → Int32} {u : US} {ab : Nat} {z z2 z3 : Value} (hT : TxP G V ba y n) (hn : n ≤ 400) (hy : ∀ i, y i < 256) (hF : G.1 (V + 6) = some (aI 7 F)) (hb0 : b ≤ n) (hu : u.1 = (b, -1)) (hX : u.2.1.2.2.2.2.2 ≤ b) (hab : ab < 3) (hw : abF y n b = ab) (hQ : ∀ G1, LnP G V n th hi ac tp ba io hm_ we sh so y F i u G1 → Q (.inl none) G1) : Wp E 54 0 0 kX8_lawLine Q (gs G V (mO V th hi ac tp ba (nI n) (nI (tokE y n b)) (-1) (nI 0) io hm_ (we) (sh) (so))) (0, 0) 40 [.ref V, z3, z, z2] [.int (nI ab)] := by
  refine w_istore_1 dX8_lawLine_40 rfl ?_
  refine w_iload_n dX8_lawLine_41 rfl ?_
  refine w_iconst (v := (-1)) dX8_lawLine_42 (by decide) ?_
  refine w_icmp_ne (tgt := 55) dX8_lawLine_43 (by decide) (fun c_43 => ?_) (fun c_43 => ?_)
  · try simp only [nI_b2, Decidable.not_not, ne_eq] at c_43
    exact ml_ln55 hT hn hy hF hb0 hu hX hab hw hQ
  · try simp only [nI_b2, Decidable.not_not, ne_eq] at c_43
    exact absurd c_43 (nI_nm1 (by omega))
theorem ml_ln40n {E : EV} {Q : OC → AH → Prop} {V n p : Nat} {th hi ac tp ba dp io hm_ we sh so : Int32} {G : AH} {z z2 z3 : Value} (hV : G.1 V = some (mO V th hi ac tp ba (nI n) (nI (p)) (-1) (dp) io hm_ we sh so)) (hQ : Q (.inl none) (gs G V (mO V th hi ac tp ba (nI n) (nI (p)) (nI p) (dp) io hm_ we sh so))) : Wp E 54 0 0 kX8_lawLine Q G (0, 0) 40 [.ref V, z3, z, z2] [.int (-1)] := by
  refine w_istore_1 dX8_lawLine_40 rfl ?_
  refine w_iload_n dX8_lawLine_41 rfl ?_
  refine w_iconst (v := (-1)) dX8_lawLine_42 (by decide) ?_
  refine w_icmp_ne (tgt := 55) dX8_lawLine_43 (by decide) (fun c_43 => ?_) (fun c_43 => ?_)
  · try simp only [nI_b2, Decidable.not_not, ne_eq] at c_43
    exact absurd trivial c_43
  · try simp only [nI_b2, Decidable.not_not, ne_eq] at c_43
    refine w_aload_n dX8_lawLine_46 rfl ?_
    refine w_aload_n dX8_lawLine_47 rfl ?_
    refine w_getf dX8_lawLine_48 fl_X8_56 (by first | assumption | exact gs_at | (rw [gs_ne (by omega)]; (first | assumption | exact gs_at | (rw [gs_ne (by omega)]; (first | assumption | exact gs_at | (rw [gs_ne (by omega)]; (first | assumption | exact gs_at | (rw [gs_ne (by omega)]; (first | assumption | exact gs_at))))))))) rfl ?_
    refine wV1n dX8_lawLine_51 lk_X8_82 rfl (by first | assumption | exact gs_at | (rw [gs_ne (by omega)]; (first | assumption | exact gs_at | (rw [gs_ne (by omega)]; (first | assumption | exact gs_at | (rw [gs_ne (by omega)]; (first | assumption | exact gs_at | (rw [gs_ne (by omega)]; (first | assumption | exact gs_at))))))))) rfl rfl (m_wrongF hV) (Nat.le_of_ble_eq_true rfl) (Nat.le_of_ble_eq_true rfl) (Nat.le_of_ble_eq_true rfl) (Nat.le_of_ble_eq_true rfl) ?_
    refine w_vret dX8_lawLine_54 rfl (Nat.le_of_ble_eq_true rfl) (Nat.le_of_ble_eq_true rfl) ?_
    exact hQ
theorem m_lawLine {E : EV} {V n i : Nat} {th hi ac tp ba io hm_ we sh so : Int32} {y : Nat → Nat} {G : AH} {F : Nat → Int32} {u : US} {p : Nat} (hV : G.1 V = some (mO V th hi ac tp ba (nI n) (nI (p)) (-1) (nI 0) io hm_ (we) (sh) (so))) (hT : TxP G V ba y n) (hn : n ≤ 400) (hy : ∀ i, y i < 256) (hp : p ≤ n) (hF : G.1 (V + 6) = some (aI 7 F)) (hu : u.1 = (skp y n p, -1)) (hX : u.2.1.2.2.2.2.2 ≤ skp y n p) : Cd E 54 kX8_lawLine [.ref V] G (fun G1 => LnP G V n th hi ac tp ba io hm_ we sh so y F i u G1) := by
  have hb0 : skp y n p ≤ n := (skp_le (y := y) hp).2
  obtain ⟨b, hb⟩ : ∃ b, b = skp y n p := ⟨_, rfl⟩
  have hbb : skp y n b = b := by rw [hb]; exact skp_skp hn
  rw [← hb] at hb0 hu hX
  have u1 : u.1.1 = b := by rw [hu]
  have u2 : u.1.2 = -1 := by rw [hu]
  refine Ct.intro rfl (by decide) [.ref V, .float 0, .float 0, .float 0] (by simp [Value.category]) (Nat.le_of_ble_eq_true rfl) rfl ?_
  refine w_aload_n dX8_lawLine_0 rfl ?_
  refine w_ldcS (i := 42) rfl rfl dX8_lawLine_1 ?_
  refine wV1i dX8_lawLine_3 lk_X8_86 rfl (by first | assumption | exact gs_at | (rw [gs_ne (by omega)]; (first | assumption | exact gs_at | (rw [gs_ne (by omega)]; (first | assumption | exact gs_at | (rw [gs_ne (by omega)]; (first | assumption | exact gs_at | (rw [gs_ne (by omega)]; (first | assumption | exact gs_at))))))))) rfl rfl (m_has (ws := [119, 101, 97, 114]) rfl rfl (by decide) (by decide) (by decide) (by decide) hV hT hn hy hp) (Nat.le_of_ble_eq_true rfl) (Nat.le_of_ble_eq_true rfl) (Nat.le_of_ble_eq_true rfl) (Nat.le_of_ble_eq_true rfl) (fun r_3 G_3 h_3 => ?_)
  obtain ⟨k2_3, k3_3⟩ := h_3
  rw [← hb] at k2_3 k3_3
  subst k2_3
  refine w_ifN_eq (tgt := 13) dX8_lawLine_6 (by decide) (fun c_6 => ?_) (fun c_6 => ?_)
  · try simp only [nI_b2, Decidable.not_not, ne_eq] at c_6
    rw [if_neg c_6] at k3_3
    subst k3_3
    refine w_aload_n dX8_lawLine_13 rfl ?_
    refine w_ldcS (i := 43) rfl rfl dX8_lawLine_14 ?_
    refine wV1i dX8_lawLine_16 lk_X8_86 rfl (by first | assumption | exact gs_at | (rw [gs_ne (by omega)]; (first | assumption | exact gs_at | (rw [gs_ne (by omega)]; (first | assumption | exact gs_at | (rw [gs_ne (by omega)]; (first | assumption | exact gs_at | (rw [gs_ne (by omega)]; (first | assumption | exact gs_at))))))))) rfl rfl (m_has (ws := [115, 104, 105, 102, 116]) rfl rfl (by decide) (by decide) (by decide) (by decide) gs_at hT.gs hn hy hb0) (Nat.le_of_ble_eq_true rfl) (Nat.le_of_ble_eq_true rfl) (Nat.le_of_ble_eq_true rfl) (Nat.le_of_ble_eq_true rfl) (fun r_16 G_16 h_16 => ?_)
    obtain ⟨k2_16, k3_16⟩ := h_16
    rw [hbb, gs_gs] at k3_16
    rw [hbb] at k2_16
    subst k2_16
    refine w_ifN_eq (tgt := 26) dX8_lawLine_19 (by decide) (fun c_19 => ?_) (fun c_19 => ?_)
    · try simp only [nI_b2, Decidable.not_not, ne_eq] at c_19
      rw [if_neg c_19] at k3_16
      subst k3_16
      refine w_aload_n dX8_lawLine_26 rfl ?_
      refine w_ldcS (i := 44) rfl rfl dX8_lawLine_27 ?_
      refine wV1i dX8_lawLine_29 lk_X8_86 rfl (by first | assumption | exact gs_at | (rw [gs_ne (by omega)]; (first | assumption | exact gs_at | (rw [gs_ne (by omega)]; (first | assumption | exact gs_at | (rw [gs_ne (by omega)]; (first | assumption | exact gs_at | (rw [gs_ne (by omega)]; (first | assumption | exact gs_at))))))))) rfl rfl (m_has (ws := [115, 111, 105, 108]) rfl rfl (by decide) (by decide) (by decide) (by decide) gs_at hT.gs hn hy hb0) (Nat.le_of_ble_eq_true rfl) (Nat.le_of_ble_eq_true rfl) (Nat.le_of_ble_eq_true rfl) (Nat.le_of_ble_eq_true rfl) (fun r_29 G_29 h_29 => ?_)
      obtain ⟨k2_29, k3_29⟩ := h_29
      rw [hbb, gs_gs] at k3_29
      rw [hbb] at k2_29
      subst k2_29
      refine w_ifN_eq (tgt := 39) dX8_lawLine_32 (by decide) (fun c_32 => ?_) (fun c_32 => ?_)
      · try simp only [nI_b2, Decidable.not_not, ne_eq] at c_32
        rw [if_neg c_32] at k3_29
        subst k3_29
        refine w_iconst (v := (-1)) dX8_lawLine_39 (by decide) ?_
        first
          | exact ml_ln40 (ab := 0) hT hn hy hF hb0 hu hX (by decide) (by rw [abF, if_pos c_6]) (fun G1 h => ⟨rfl, h⟩)
          | exact ml_ln40 (ab := 1) hT hn hy hF hb0 hu hX (by decide) (by rw [abF, if_neg c_6, if_pos c_19]) (fun G1 h => ⟨rfl, h⟩)
          | exact ml_ln40 (ab := 2) hT hn hy hF hb0 hu hX (by decide) (by rw [abF, if_neg c_6, if_neg c_19, if_pos c_32]) (fun G1 h => ⟨rfl, h⟩)
          | exact ml_ln40n gs_at (by rw [gs_gs]; exact ⟨rfl, b, _, _, _, _, _, rfl, by omega, Or.inl ⟨nI_nm1 (show b < 2 ^ 31 by omega), by have h9 := ln_a (y := y) (n := n) (i := i) (u := u) (by rw [u1, abF, if_neg c_6, if_neg c_19, if_neg c_32]) u2; rw [u1] at h9; exact h9⟩⟩)
      · try simp only [nI_b2, Decidable.not_not, ne_eq] at c_32
        rw [if_pos c_32] at k3_29
        subst k3_29
        refine w_iconst (v := nI 2) dX8_lawLine_35 (by decide) ?_
        refine w_goto (tgt := 40) dX8_lawLine_36 (by decide) ?_
        first
          | exact ml_ln40 (ab := 0) hT hn hy hF hb0 hu hX (by decide) (by rw [abF, if_pos c_6]) (fun G1 h => ⟨rfl, h⟩)
          | exact ml_ln40 (ab := 1) hT hn hy hF hb0 hu hX (by decide) (by rw [abF, if_neg c_6, if_pos c_19]) (fun G1 h => ⟨rfl, h⟩)
          | exact ml_ln40 (ab := 2) hT hn hy hF hb0 hu hX (by decide) (by rw [abF, if_neg c_6, if_neg c_19, if_pos c_32]) (fun G1 h => ⟨rfl, h⟩)
          | exact ml_ln40n gs_at (by rw [gs_gs]; exact ⟨rfl, b, _, _, _, _, _, rfl, by omega, Or.inl ⟨nI_nm1 (show b < 2 ^ 31 by omega), by have h9 := ln_a (y := y) (n := n) (i := i) (u := u) (by rw [u1, abF, if_neg c_6, if_neg c_19, if_neg c_32]) u2; rw [u1] at h9; exact h9⟩⟩)
    · try simp only [nI_b2, Decidable.not_not, ne_eq] at c_19
      rw [if_pos c_19] at k3_16
      subst k3_16
      refine w_iconst (v := nI 1) dX8_lawLine_22 (by decide) ?_
      refine w_goto (tgt := 40) dX8_lawLine_23 (by decide) ?_
      first
        | exact ml_ln40 (ab := 0) hT hn hy hF hb0 hu hX (by decide) (by rw [abF, if_pos c_6]) (fun G1 h => ⟨rfl, h⟩)
        | exact ml_ln40 (ab := 1) hT hn hy hF hb0 hu hX (by decide) (by rw [abF, if_neg c_6, if_pos c_19]) (fun G1 h => ⟨rfl, h⟩)
        | exact ml_ln40 (ab := 2) hT hn hy hF hb0 hu hX (by decide) (by rw [abF, if_neg c_6, if_neg c_19, if_pos c_32]) (fun G1 h => ⟨rfl, h⟩)
        | exact ml_ln40n gs_at (by rw [gs_gs]; exact ⟨rfl, b, _, _, _, _, _, rfl, by omega, Or.inl ⟨nI_nm1 (show b < 2 ^ 31 by omega), by have h9 := ln_a (y := y) (n := n) (i := i) (u := u) (by rw [u1, abF, if_neg c_6, if_neg c_19, if_neg c_32]) u2; rw [u1] at h9; exact h9⟩⟩)
  · try simp only [nI_b2, Decidable.not_not, ne_eq] at c_6
    rw [if_pos c_6] at k3_3
    subst k3_3
    refine w_iconst (v := nI 0) dX8_lawLine_9 (by decide) ?_
    refine w_goto (tgt := 40) dX8_lawLine_10 (by decide) ?_
    first
      | exact ml_ln40 (ab := 0) hT hn hy hF hb0 hu hX (by decide) (by rw [abF, if_pos c_6]) (fun G1 h => ⟨rfl, h⟩)
      | exact ml_ln40 (ab := 1) hT hn hy hF hb0 hu hX (by decide) (by rw [abF, if_neg c_6, if_pos c_19]) (fun G1 h => ⟨rfl, h⟩)
      | exact ml_ln40 (ab := 2) hT hn hy hF hb0 hu hX (by decide) (by rw [abF, if_neg c_6, if_neg c_19, if_pos c_32]) (fun G1 h => ⟨rfl, h⟩)
      | exact ml_ln40n gs_at (by rw [gs_gs]; exact ⟨rfl, b, _, _, _, _, _, rfl, by omega, Or.inl ⟨nI_nm1 (show b < 2 ^ 31 by omega), by have h9 := ln_a (y := y) (n := n) (i := i) (u := u) (by rw [u1, abF, if_neg c_6, if_neg c_19, if_neg c_32]) u2; rw [u1] at h9; exact h9⟩⟩)
