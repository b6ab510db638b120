/-! codes run, lines told, items and days that pass -/
abbrev HS : Type := Int64 × Int32 × Int32
def shl1 (x : Int64) : Int64 := x <<< ((nI 1).toInt64 &&& 63)
def shr1 (x : Int64) : Int64 := (x.toUInt64 >>> ((nI 1).toInt64.toUInt64 &&& Int64.toUInt64 63)).toInt64
def hstep (T : ST) (k : Nat) (c : Int32) (s : HS) : HS :=
  if ¬ c < -7 then (s.1, s.2.1, s.2.2 + (if c < nI 0 then partV T k c else c))
  else if c = -10 then (s.1, s.2.2, nI 0)
  else if ¬ c < -12 then (shl1 s.1 ||| lN (atomN T k c (s.2.2 - s.2.1)), s.2.1, nI 0)
  else if c = -13 then (s.1 ^^^ lN 1, s.2.1, s.2.2)
  else if c = -14 then (shr1 s.1 &&& ((s.1 &&& lN 1) ||| (-2)), s.2.1, s.2.2)
  else (shr1 s.1 ||| (s.1 &&& lN 1), s.2.1, s.2.2)
/-- n codes from the i-th on -/
def hrun (T : ST) (k : Nat) (f : Nat → Int32) (i : Nat) : Nat → HS → HS | 0, s => s | n + 1, s => hstep T k (f (i + n)) (hrun T k f i n s)
abbrev hEnd (x : Int64) : Prop := ¬ lg_cmp (x &&& lN 1) (lN 0) = nI 0
def h0 : HS := (lN 1, nI 0, nI 0)
def hBn (T : ST) (k : Nat) (f : Nat → Int32) (i j : Nat) : Nat := b2 (hEnd (hrun T k f i (j - i) h0).1)
theorem atomN_le (T : ST) (k : Nat) (c x : Int32) : atomN T k c x ≤ 1 := by
  unfold atomN
  split; exact b2_le _
  split; exact b2_le _
  split; exact b2_le _
  exact b2_le _
theorem lp_holds {E : EV} {Q : OC → AH → Prop} {G : AH} {l a k fr to : Nat} {T : ST} {sd : Int32} {D : LD} (hL : Lw G l D) (hI : Isl G a T sd) (hB : Bd T) (hk : k < 12) (hft : fr ≤ to) (hto : to ≤ 400) (hQ : Q (.inl (some (.int (nI (b2 (hEnd (hrun T k D.2.2.2.2.2.1 fr (to - fr) h0).1)))))) G) : ∀ (n i : Nat), to - fr - i < n → i ≤ to - fr → Wp E 3 0 0 kX2_holds Q G (0, 0) 12 [.ref l, .ref a, .int (nI k), .int (nI fr), .int (nI to), .long (hrun T k D.2.2.2.2.2.1 fr i h0).1, .float 0, .int (hrun T k D.2.2.2.2.2.1 fr i h0).2.1, .int (hrun T k D.2.2.2.2.2.1 fr i h0).2.2, .int (nI (fr + i)), .float 0, .float 0, .float 0, .float 0, .float 0] [] := by
  obtain ⟨l0, l1, l2, l3, l4, t0, l5⟩ := id hL
  intro n
  induction n with
  | zero => intro i h; exact absurd h (by omega)
  | succ n ih =>
    intro i hn hi
    refine w_iload dX2_holds_12 rfl ?_
    refine w_ifN_lt (tgt := 193) dX2_holds_14 (by decide) (fun c_14 => ?_) (fun c_14 => ?_)
    · try simp (disch := omega) only [nI_b2, nI_ltI, nI_leI, nI_eq, ge_iff_le, gt_iff_lt, Nat.not_lt, Nat.not_le] at c_14
      exact absurd c_14 (by omega)
    · try simp (disch := omega) only [nI_b2, nI_ltI, nI_leI, nI_eq, ge_iff_le, gt_iff_lt, Nat.not_lt, Nat.not_le] at c_14
      refine w_iload dX2_holds_17 rfl ?_
      refine w_iload dX2_holds_19 rfl ?_
      refine w_icmp_ge (tgt := 193) dX2_holds_21 (by decide) (fun c_21 => ?_) (fun c_21 => ?_)
      · try simp (disch := omega) only [nI_b2, nI_ltI, nI_leI, nI_eq, ge_iff_le, gt_iff_lt, Nat.not_lt, Nat.not_le] at c_21
        refine w_lload dX2_holds_193 rfl ?_
        refine w_lconst (v := lN 1) dX2_holds_195 rfl ?_
        refine w_land dX2_holds_196 ?_
        refine w_lconst (v := lN 0) dX2_holds_197 rfl ?_
        refine w_lcmp dX2_holds_198 ?_
        refine w_ifN_eq (tgt := 206) dX2_holds_199 (by decide) (fun c_199 => ?_) (fun c_199 => ?_)
        · try simp (disch := omega) only [nI_b2, nI_ltI, nI_leI, nI_eq, ge_iff_le, gt_iff_lt, Nat.not_lt, Nat.not_le] at c_199
          refine w_iconst (v := nI 0) dX2_holds_206 (by decide) ?_
          refine w_zret dX2_holds_207 rfl rfl (Nat.le_of_ble_eq_true rfl) (Nat.le_of_ble_eq_true rfl) ?_
          rw [show i = to - fr by omega] at c_199
          first | (rw [show b2 (hEnd (hrun T k D.2.2.2.2.2.1 fr (to - fr) h0).1) = 1 from if_pos c_199] at hQ; exact hQ) | (rw [show b2 (hEnd (hrun T k D.2.2.2.2.2.1 fr (to - fr) h0).1) = 0 from if_neg (fun h => h c_199)] at hQ; exact hQ)
        · try simp (disch := omega) only [nI_b2, nI_ltI, nI_leI, nI_eq, ge_iff_le, gt_iff_lt, Nat.not_lt, Nat.not_le] at c_199
          refine w_iconst (v := nI 1) dX2_holds_202 (by decide) ?_
          refine w_goto (tgt := 207) dX2_holds_203 (by decide) ?_
          refine w_zret dX2_holds_207 rfl rfl (Nat.le_of_ble_eq_true rfl) (Nat.le_of_ble_eq_true rfl) ?_
          rw [show i = to - fr by omega] at c_199
          first | (rw [show b2 (hEnd (hrun T k D.2.2.2.2.2.1 fr (to - fr) h0).1) = 1 from if_pos c_199] at hQ; exact hQ) | (rw [show b2 (hEnd (hrun T k D.2.2.2.2.2.1 fr (to - fr) h0).1) = 0 from if_neg (fun h => h c_199)] at hQ; exact hQ)
      · try simp (disch := omega) only [nI_b2, nI_ltI, nI_leI, nI_eq, ge_iff_le, gt_iff_lt, Nat.not_lt, Nat.not_le] at c_21
        refine w_iload dX2_holds_24 rfl ?_
        refine w_aload_n dX2_holds_26 rfl ?_
        refine w_getf dX2_holds_27 fl_X2_21 (by first | assumption | exact gs_at | (rw [gs_ne (by omega)]; (first | assumption | exact gs_at | (rw [gs_ne (by omega)]; (first | assumption | exact gs_at | (rw [gs_ne (by omega)]; (first | assumption | exact gs_at | (rw [gs_ne (by omega)]; (first | assumption | exact gs_at))))))))) rfl ?_
        refine w_alenI dX2_holds_30 (by first | assumption | exact gs_at | (rw [gs_ne (by omega)]; (first | assumption | exact gs_at | (rw [gs_ne (by omega)]; (first | assumption | exact gs_at | (rw [gs_ne (by omega)]; (first | assumption | exact gs_at | (rw [gs_ne (by omega)]; (first | assumption | exact gs_at))))))))) ?_
        refine w_icmp_ge (tgt := 193) dX2_holds_31 (by decide) (fun c_31 => ?_) (fun c_31 => ?_)
        · try simp (disch := omega) only [nI_b2, nI_ltI, nI_leI, nI_eq, ge_iff_le, gt_iff_lt, Nat.not_lt, Nat.not_le] at c_31
          exact absurd c_31 (by omega)
        · try simp (disch := omega) only [nI_b2, nI_ltI, nI_leI, nI_eq, ge_iff_le, gt_iff_lt, Nat.not_lt, Nat.not_le] at c_31
          refine w_aload_n dX2_holds_34 rfl ?_
          refine w_getf dX2_holds_35 fl_X2_21 (by first | assumption | exact gs_at | (rw [gs_ne (by omega)]; (first | assumption | exact gs_at | (rw [gs_ne (by omega)]; (first | assumption | exact gs_at | (rw [gs_ne (by omega)]; (first | assumption | exact gs_at | (rw [gs_ne (by omega)]; (first | assumption | exact gs_at))))))))) rfl ?_
          refine w_iload dX2_holds_38 rfl ?_
          refine w_iaload dX2_holds_40 (by first | assumption | exact gs_at | (rw [gs_ne (by omega)]; (first | assumption | exact gs_at | (rw [gs_ne (by omega)]; (first | assumption | exact gs_at | (rw [gs_ne (by omega)]; (first | assumption | exact gs_at | (rw [gs_ne (by omega)]; (first | assumption | exact gs_at))))))))) (vp_in_nI (by omega) (by decide)) ?_
          rw [nI_clamp (show fr + i < 2 ^ 31 by omega)]
          generalize hc : D.2.2.2.2.2.1 (fr + i) = c
          refine w_istore_10 dX2_holds_41 rfl ?_
          refine w_iload dX2_holds_43 rfl ?_
          refine w_bipush (v := (-7)) dX2_holds_45 (by decide) ?_
          refine w_icmp_lt (tgt := 75) dX2_holds_47 (by decide) (fun c_47 => ?_) (fun c_47 => ?_)
          · try simp (disch := omega) only [nI_b2, nI_ltI, nI_leI, nI_eq, ge_iff_le, gt_iff_lt, Nat.not_lt, Nat.not_le] at c_47
            refine w_iload dX2_holds_75 rfl ?_
            refine w_bipush (v := (-10)) dX2_holds_77 (by decide) ?_
            refine w_icmp_ne (tgt := 92) dX2_holds_79 (by decide) (fun c_79 => ?_) (fun c_79 => ?_)
            · try simp (disch := omega) only [nI_b2, nI_ltI, nI_leI, nI_eq, ge_iff_le, gt_iff_lt, Nat.not_lt, Nat.not_le] at c_79
              refine w_iload dX2_holds_92 rfl ?_
              refine w_bipush (v := (-12)) dX2_holds_94 (by decide) ?_
              refine w_icmp_lt (tgt := 133) dX2_holds_96 (by decide) (fun c_96 => ?_) (fun c_96 => ?_)
              · try simp (disch := omega) only [nI_b2, nI_ltI, nI_leI, nI_eq, ge_iff_le, gt_iff_lt, Nat.not_lt, Nat.not_le] at c_96
                refine w_iload dX2_holds_133 rfl ?_
                refine w_bipush (v := (-13)) dX2_holds_135 (by decide) ?_
                refine w_icmp_ne (tgt := 149) dX2_holds_137 (by decide) (fun c_137 => ?_) (fun c_137 => ?_)
                · try simp (disch := omega) only [nI_b2, nI_ltI, nI_leI, nI_eq, ge_iff_le, gt_iff_lt, Nat.not_lt, Nat.not_le] at c_137
                  refine w_lload dX2_holds_149 rfl ?_
                  refine w_lconst (v := lN 1) dX2_holds_151 rfl ?_
                  refine w_land dX2_holds_152 ?_
                  refine w_lstore_11 dX2_holds_153 rfl ?_
                  refine w_lload dX2_holds_155 rfl ?_
                  refine w_iconst (v := nI 1) dX2_holds_157 (by decide) ?_
                  refine w_lushr dX2_holds_158 ?_
                  refine w_lstore_13 dX2_holds_159 rfl ?_
                  refine w_iload dX2_holds_161 rfl ?_
                  refine w_bipush (v := (-14)) dX2_holds_163 (by decide) ?_
                  refine w_icmp_ne (tgt := 180) dX2_holds_165 (by decide) (fun c_165 => ?_) (fun c_165 => ?_)
                  · try simp (disch := omega) only [nI_b2, nI_ltI, nI_leI, nI_eq, ge_iff_le, gt_iff_lt, Nat.not_lt, Nat.not_le] at c_165
                    refine w_lload dX2_holds_180 rfl ?_
                    refine w_lload dX2_holds_182 rfl ?_
                    refine w_lor dX2_holds_184 ?_
                    refine w_lstore_5 dX2_holds_185 rfl ?_
                    first | refine w_iinc_9 dX2_holds_187 (nI_inc _) rfl ?_ | refine w_iinc_9 dX2_holds_187 rfl rfl ?_
                    refine w_goto (tgt := 12) dX2_holds_190 (by decide) ?_
                    have h9 := ih (i + 1) (by omega) (by omega)
                    rw [show fr + (i + 1) = fr + i + 1 by omega] at h9
                    have es : hrun T k D.2.2.2.2.2.1 fr (i + 1) h0 = hstep T k c (hrun T k D.2.2.2.2.2.1 fr i h0) := by rw [← hc]; rfl
                    rw [es] at h9
                    first
                      | (rw [hstep, if_pos c_47, if_pos c_54] at h9; exact Wp.fg h9 (by repeat (first | exact trivial | refine ⟨Or.inl rfl, ?_⟩ | refine ⟨Or.inr rfl, ?_⟩)))
                      | (rw [hstep, if_pos c_47, if_neg c_54] at h9; exact Wp.fg h9 (by repeat (first | exact trivial | refine ⟨Or.inl rfl, ?_⟩ | refine ⟨Or.inr rfl, ?_⟩)))
                      | (rw [hstep, if_neg (Decidable.not_not.mpr c_47), if_pos c_79] at h9; exact Wp.fg h9 (by repeat (first | exact trivial | refine ⟨Or.inl rfl, ?_⟩ | refine ⟨Or.inr rfl, ?_⟩)))
                      | (rw [hstep, if_neg (Decidable.not_not.mpr c_47), if_neg c_79, if_pos c_96, c_115] at h9; exact Wp.fg h9 (by repeat (first | exact trivial | refine ⟨Or.inl rfl, ?_⟩ | refine ⟨Or.inr rfl, ?_⟩)))
                      | (rw [hstep, if_neg (Decidable.not_not.mpr c_47), if_neg c_79, if_pos c_96, show atomN T k c ((hrun T k D.2.2.2.2.2.1 fr i h0).2.2 - (hrun T k D.2.2.2.2.2.1 fr i h0).2.1) = 1 by omega] at h9; exact Wp.fg h9 (by repeat (first | exact trivial | refine ⟨Or.inl rfl, ?_⟩ | refine ⟨Or.inr rfl, ?_⟩)))
                      | (rw [hstep, if_neg (Decidable.not_not.mpr c_47), if_neg c_79, if_neg (Decidable.not_not.mpr c_96), if_pos c_137] at h9; exact Wp.fg h9 (by repeat (first | exact trivial | refine ⟨Or.inl rfl, ?_⟩ | refine ⟨Or.inr rfl, ?_⟩)))
                      | (rw [hstep, if_neg (Decidable.not_not.mpr c_47), if_neg c_79, if_neg (Decidable.not_not.mpr c_96), if_neg c_137, if_pos c_165] at h9; exact Wp.fg h9 (by repeat (first | exact trivial | refine ⟨Or.inl rfl, ?_⟩ | refine ⟨Or.inr rfl, ?_⟩)))
                      | (rw [hstep, if_neg (Decidable.not_not.mpr c_47), if_neg c_79, if_neg (Decidable.not_not.mpr c_96), if_neg c_137, if_neg c_165] at h9; exact Wp.fg h9 (by repeat (first | exact trivial | refine ⟨Or.inl rfl, ?_⟩ | refine ⟨Or.inr rfl, ?_⟩)))
                  · try simp (disch := omega) only [nI_b2, nI_ltI, nI_leI, nI_eq, ge_iff_le, gt_iff_lt, Nat.not_lt, Nat.not_le] at c_165
                    refine w_lload dX2_holds_168 rfl ?_
                    refine w_lload dX2_holds_170 rfl ?_
                    refine w_ldc2 dX2_holds_172 u_447 ?_
                    refine w_lor dX2_holds_175 ?_
                    refine w_land dX2_holds_176 ?_
                    refine w_goto (tgt := 185) dX2_holds_177 (by decide) ?_
                    refine w_lstore_5 dX2_holds_185 rfl ?_
                    first | refine w_iinc_9 dX2_holds_187 (nI_inc _) rfl ?_ | refine w_iinc_9 dX2_holds_187 rfl rfl ?_
                    refine w_goto (tgt := 12) dX2_holds_190 (by decide) ?_
                    have h9 := ih (i + 1) (by omega) (by omega)
                    rw [show fr + (i + 1) = fr + i + 1 by omega] at h9
                    have es : hrun T k D.2.2.2.2.2.1 fr (i + 1) h0 = hstep T k c (hrun T k D.2.2.2.2.2.1 fr i h0) := by rw [← hc]; rfl
                    rw [es] at h9
                    first
                      | (rw [hstep, if_pos c_47, if_pos c_54] at h9; exact Wp.fg h9 (by repeat (first | exact trivial | refine ⟨Or.inl rfl, ?_⟩ | refine ⟨Or.inr rfl, ?_⟩)))
                      | (rw [hstep, if_pos c_47, if_neg c_54] at h9; exact Wp.fg h9 (by repeat (first | exact trivial | refine ⟨Or.inl rfl, ?_⟩ | refine ⟨Or.inr rfl, ?_⟩)))
                      | (rw [hstep, if_neg (Decidable.not_not.mpr c_47), if_pos c_79] at h9; exact Wp.fg h9 (by repeat (first | exact trivial | refine ⟨Or.inl rfl, ?_⟩ | refine ⟨Or.inr rfl, ?_⟩)))
                      | (rw [hstep, if_neg (Decidable.not_not.mpr c_47), if_neg c_79, if_pos c_96, c_115] at h9; exact Wp.fg h9 (by repeat (first | exact trivial | refine ⟨Or.inl rfl, ?_⟩ | refine ⟨Or.inr rfl, ?_⟩)))
                      | (rw [hstep, if_neg (Decidable.not_not.mpr c_47), if_neg c_79, if_pos c_96, show atomN T k c ((hrun T k D.2.2.2.2.2.1 fr i h0).2.2 - (hrun T k D.2.2.2.2.2.1 fr i h0).2.1) = 1 by omega] at h9; exact Wp.fg h9 (by repeat (first | exact trivial | refine ⟨Or.inl rfl, ?_⟩ | refine ⟨Or.inr rfl, ?_⟩)))
                      | (rw [hstep, if_neg (Decidable.not_not.mpr c_47), if_neg c_79, if_neg (Decidable.not_not.mpr c_96), if_pos c_137] at h9; exact Wp.fg h9 (by repeat (first | exact trivial | refine ⟨Or.inl rfl, ?_⟩ | refine ⟨Or.inr rfl, ?_⟩)))
                      | (rw [hstep, if_neg (Decidable.not_not.mpr c_47), if_neg c_79, if_neg (Decidable.not_not.mpr c_96), if_neg c_137, if_pos c_165] at h9; exact Wp.fg h9 (by repeat (first | exact trivial | refine ⟨Or.inl rfl, ?_⟩ | refine ⟨Or.inr rfl, ?_⟩)))
                      | (rw [hstep, if_neg (Decidable.not_not.mpr c_47), if_neg c_79, if_neg (Decidable.not_not.mpr c_96), if_neg c_137, if_neg c_165] at h9; exact Wp.fg h9 (by repeat (first | exact trivial | refine ⟨Or.inl rfl, ?_⟩ | refine ⟨Or.inr rfl, ?_⟩)))
                · try simp (disch := omega) only [nI_b2, nI_ltI, nI_leI, nI_eq, ge_iff_le, gt_iff_lt, Nat.not_lt, Nat.not_le] at c_137
                  refine w_lload dX2_holds_140 rfl ?_
                  refine w_lconst (v := lN 1) dX2_holds_142 rfl ?_
                  refine w_lxor dX2_holds_143 ?_
                  refine w_lstore_5 dX2_holds_144 rfl ?_
                  refine w_goto (tgt := 187) dX2_holds_146 (by decide) ?_
                  first | refine w_iinc_9 dX2_holds_187 (nI_inc _) rfl ?_ | refine w_iinc_9 dX2_holds_187 rfl rfl ?_
                  refine w_goto (tgt := 12) dX2_holds_190 (by decide) ?_
                  have h9 := ih (i + 1) (by omega) (by omega)
                  rw [show fr + (i + 1) = fr + i + 1 by omega] at h9
                  have es : hrun T k D.2.2.2.2.2.1 fr (i + 1) h0 = hstep T k c (hrun T k D.2.2.2.2.2.1 fr i h0) := by rw [← hc]; rfl
                  rw [es] at h9
                  first
                    | (rw [hstep, if_pos c_47, if_pos c_54] at h9; exact Wp.fg h9 (by repeat (first | exact trivial | refine ⟨Or.inl rfl, ?_⟩ | refine ⟨Or.inr rfl, ?_⟩)))
                    | (rw [hstep, if_pos c_47, if_neg c_54] at h9; exact Wp.fg h9 (by repeat (first | exact trivial | refine ⟨Or.inl rfl, ?_⟩ | refine ⟨Or.inr rfl, ?_⟩)))
                    | (rw [hstep, if_neg (Decidable.not_not.mpr c_47), if_pos c_79] at h9; exact Wp.fg h9 (by repeat (first | exact trivial | refine ⟨Or.inl rfl, ?_⟩ | refine ⟨Or.inr rfl, ?_⟩)))
                    | (rw [hstep, if_neg (Decidable.not_not.mpr c_47), if_neg c_79, if_pos c_96, c_115] at h9; exact Wp.fg h9 (by repeat (first | exact trivial | refine ⟨Or.inl rfl, ?_⟩ | refine ⟨Or.inr rfl, ?_⟩)))
                    | (rw [hstep, if_neg (Decidable.not_not.mpr c_47), if_neg c_79, if_pos c_96, show atomN T k c ((hrun T k D.2.2.2.2.2.1 fr i h0).2.2 - (hrun T k D.2.2.2.2.2.1 fr i h0).2.1) = 1 by omega] at h9; exact Wp.fg h9 (by repeat (first | exact trivial | refine ⟨Or.inl rfl, ?_⟩ | refine ⟨Or.inr rfl, ?_⟩)))
                    | (rw [hstep, if_neg (Decidable.not_not.mpr c_47), if_neg c_79, if_neg (Decidable.not_not.mpr c_96), if_pos c_137] at h9; exact Wp.fg h9 (by repeat (first | exact trivial | refine ⟨Or.inl rfl, ?_⟩ | refine ⟨Or.inr rfl, ?_⟩)))
                    | (rw [hstep, if_neg (Decidable.not_not.mpr c_47), if_neg c_79, if_neg (Decidable.not_not.mpr c_96), if_neg c_137, if_pos c_165] at h9; exact Wp.fg h9 (by repeat (first | exact trivial | refine ⟨Or.inl rfl, ?_⟩ | refine ⟨Or.inr rfl, ?_⟩)))
                    | (rw [hstep, if_neg (Decidable.not_not.mpr c_47), if_neg c_79, if_neg (Decidable.not_not.mpr c_96), if_neg c_137, if_neg c_165] at h9; exact Wp.fg h9 (by repeat (first | exact trivial | refine ⟨Or.inl rfl, ?_⟩ | refine ⟨Or.inr rfl, ?_⟩)))
              · try simp (disch := omega) only [nI_b2, nI_ltI, nI_leI, nI_eq, ge_iff_le, gt_iff_lt, Nat.not_lt, Nat.not_le] at c_96
                refine w_lload dX2_holds_99 rfl ?_
                refine w_iconst (v := nI 1) dX2_holds_101 (by decide) ?_
                refine w_lshl dX2_holds_102 ?_
                refine w_aload_n dX2_holds_103 rfl ?_
                refine w_iload_n dX2_holds_104 rfl ?_
                refine w_iload dX2_holds_105 rfl ?_
                refine w_iload dX2_holds_107 rfl ?_
                refine w_iload dX2_holds_109 rfl ?_
                refine w_isub dX2_holds_111 ?_
                refine wS4u dX2_holds_112 lk_X2_54 rfl (c_atom hI hB hk) (Nat.le_of_ble_eq_true rfl) (Nat.le_of_ble_eq_true rfl) (Nat.le_of_ble_eq_true rfl) (Nat.le_of_ble_eq_true rfl) ?_
                have hat := atomN_le T k c ((hrun T k D.2.2.2.2.2.1 fr i h0).2.2 - (hrun T k D.2.2.2.2.2.1 fr i h0).2.1)
                refine w_ifN_eq (tgt := 122) dX2_holds_115 (by decide) (fun c_115 => ?_) (fun c_115 => ?_)
                · try simp (disch := omega) only [nI_b2, nI_ltI, nI_leI, nI_eq, ge_iff_le, gt_iff_lt, Nat.not_lt, Nat.not_le] at c_115
                  refine w_iconst (v := nI 0) dX2_holds_122 (by decide) ?_
                  first | refine w_i2lN (by omega) dX2_holds_123 ?_ | refine w_i2l dX2_holds_123 ?_
                  refine w_lor dX2_holds_124 ?_
                  refine w_lstore_5 dX2_holds_125 rfl ?_
                  refine w_iconst (v := nI 0) dX2_holds_127 (by decide) ?_
                  refine w_istore_8 dX2_holds_128 rfl ?_
                  refine w_goto (tgt := 187) dX2_holds_130 (by decide) ?_
                  first | refine w_iinc_9 dX2_holds_187 (nI_inc _) rfl ?_ | refine w_iinc_9 dX2_holds_187 rfl rfl ?_
                  refine w_goto (tgt := 12) dX2_holds_190 (by decide) ?_
                  have h9 := ih (i + 1) (by omega) (by omega)
                  rw [show fr + (i + 1) = fr + i + 1 by omega] at h9
                  have es : hrun T k D.2.2.2.2.2.1 fr (i + 1) h0 = hstep T k c (hrun T k D.2.2.2.2.2.1 fr i h0) := by rw [← hc]; rfl
                  rw [es] at h9
                  first
                    | (rw [hstep, if_pos c_47, if_pos c_54] at h9; exact Wp.fg h9 (by repeat (first | exact trivial | refine ⟨Or.inl rfl, ?_⟩ | refine ⟨Or.inr rfl, ?_⟩)))
                    | (rw [hstep, if_pos c_47, if_neg c_54] at h9; exact Wp.fg h9 (by repeat (first | exact trivial | refine ⟨Or.inl rfl, ?_⟩ | refine ⟨Or.inr rfl, ?_⟩)))
                    | (rw [hstep, if_neg (Decidable.not_not.mpr c_47), if_pos c_79] at h9; exact Wp.fg h9 (by repeat (first | exact trivial | refine ⟨Or.inl rfl, ?_⟩ | refine ⟨Or.inr rfl, ?_⟩)))
                    | (rw [hstep, if_neg (Decidable.not_not.mpr c_47), if_neg c_79, if_pos c_96, c_115] at h9; exact Wp.fg h9 (by repeat (first | exact trivial | refine ⟨Or.inl rfl, ?_⟩ | refine ⟨Or.inr rfl, ?_⟩)))
                    | (rw [hstep, if_neg (Decidable.not_not.mpr c_47), if_neg c_79, if_pos c_96, show atomN T k c ((hrun T k D.2.2.2.2.2.1 fr i h0).2.2 - (hrun T k D.2.2.2.2.2.1 fr i h0).2.1) = 1 by omega] at h9; exact Wp.fg h9 (by repeat (first | exact trivial | refine ⟨Or.inl rfl, ?_⟩ | refine ⟨Or.inr rfl, ?_⟩)))
                    | (rw [hstep, if_neg (Decidable.not_not.mpr c_47), if_neg c_79, if_neg (Decidable.not_not.mpr c_96), if_pos c_137] at h9; exact Wp.fg h9 (by repeat (first | exact trivial | refine ⟨Or.inl rfl, ?_⟩ | refine ⟨Or.inr rfl, ?_⟩)))
                    | (rw [hstep, if_neg (Decidable.not_not.mpr c_47), if_neg c_79, if_neg (Decidable.not_not.mpr c_96), if_neg c_137, if_pos c_165] at h9; exact Wp.fg h9 (by repeat (first | exact trivial | refine ⟨Or.inl rfl, ?_⟩ | refine ⟨Or.inr rfl, ?_⟩)))
                    | (rw [hstep, if_neg (Decidable.not_not.mpr c_47), if_neg c_79, if_neg (Decidable.not_not.mpr c_96), if_neg c_137, if_neg c_165] at h9; exact Wp.fg h9 (by repeat (first | exact trivial | refine ⟨Or.inl rfl, ?_⟩ | refine ⟨Or.inr rfl, ?_⟩)))
                · try simp (disch := omega) only [nI_b2, nI_ltI, nI_leI, nI_eq, ge_iff_le, gt_iff_lt, Nat.not_lt, Nat.not_le] at c_115
                  refine w_iconst (v := nI 1) dX2_holds_118 (by decide) ?_
                  refine w_goto (tgt := 123) dX2_holds_119 (by decide) ?_
                  first | refine w_i2lN (by omega) dX2_holds_123 ?_ | refine w_i2l dX2_holds_123 ?_
                  refine w_lor dX2_holds_124 ?_
                  refine w_lstore_5 dX2_holds_125 rfl ?_
                  refine w_iconst (v := nI 0) dX2_holds_127 (by decide) ?_
                  refine w_istore_8 dX2_holds_128 rfl ?_
                  refine w_goto (tgt := 187) dX2_holds_130 (by decide) ?_
                  first | refine w_iinc_9 dX2_holds_187 (nI_inc _) rfl ?_ | refine w_iinc_9 dX2_holds_187 rfl rfl ?_
                  refine w_goto (tgt := 12) dX2_holds_190 (by decide) ?_
                  have h9 := ih (i + 1) (by omega) (by omega)
                  rw [show fr + (i + 1) = fr + i + 1 by omega] at h9
                  have es : hrun T k D.2.2.2.2.2.1 fr (i + 1) h0 = hstep T k c (hrun T k D.2.2.2.2.2.1 fr i h0) := by rw [← hc]; rfl
                  rw [es] at h9
                  first
                    | (rw [hstep, if_pos c_47, if_pos c_54] at h9; exact Wp.fg h9 (by repeat (first | exact trivial | refine ⟨Or.inl rfl, ?_⟩ | refine ⟨Or.inr rfl, ?_⟩)))
                    | (rw [hstep, if_pos c_47, if_neg c_54] at h9; exact Wp.fg h9 (by repeat (first | exact trivial | refine ⟨Or.inl rfl, ?_⟩ | refine ⟨Or.inr rfl, ?_⟩)))
                    | (rw [hstep, if_neg (Decidable.not_not.mpr c_47), if_pos c_79] at h9; exact Wp.fg h9 (by repeat (first | exact trivial | refine ⟨Or.inl rfl, ?_⟩ | refine ⟨Or.inr rfl, ?_⟩)))
                    | (rw [hstep, if_neg (Decidable.not_not.mpr c_47), if_neg c_79, if_pos c_96, c_115] at h9; exact Wp.fg h9 (by repeat (first | exact trivial | refine ⟨Or.inl rfl, ?_⟩ | refine ⟨Or.inr rfl, ?_⟩)))
                    | (rw [hstep, if_neg (Decidable.not_not.mpr c_47), if_neg c_79, if_pos c_96, show atomN T k c ((hrun T k D.2.2.2.2.2.1 fr i h0).2.2 - (hrun T k D.2.2.2.2.2.1 fr i h0).2.1) = 1 by omega] at h9; exact Wp.fg h9 (by repeat (first | exact trivial | refine ⟨Or.inl rfl, ?_⟩ | refine ⟨Or.inr rfl, ?_⟩)))
                    | (rw [hstep, if_neg (Decidable.not_not.mpr c_47), if_neg c_79, if_neg (Decidable.not_not.mpr c_96), if_pos c_137] at h9; exact Wp.fg h9 (by repeat (first | exact trivial | refine ⟨Or.inl rfl, ?_⟩ | refine ⟨Or.inr rfl, ?_⟩)))
                    | (rw [hstep, if_neg (Decidable.not_not.mpr c_47), if_neg c_79, if_neg (Decidable.not_not.mpr c_96), if_neg c_137, if_pos c_165] at h9; exact Wp.fg h9 (by repeat (first | exact trivial | refine ⟨Or.inl rfl, ?_⟩ | refine ⟨Or.inr rfl, ?_⟩)))
                    | (rw [hstep, if_neg (Decidable.not_not.mpr c_47), if_neg c_79, if_neg (Decidable.not_not.mpr c_96), if_neg c_137, if_neg c_165] at h9; exact Wp.fg h9 (by repeat (first | exact trivial | refine ⟨Or.inl rfl, ?_⟩ | refine ⟨Or.inr rfl, ?_⟩)))
            · try simp (disch := omega) only [nI_b2, nI_ltI, nI_leI, nI_eq, ge_iff_le, gt_iff_lt, Nat.not_lt, Nat.not_le] at c_79
              refine w_iload dX2_holds_82 rfl ?_
              refine w_istore_7 dX2_holds_84 rfl ?_
              refine w_iconst (v := nI 0) dX2_holds_86 (by decide) ?_
              refine w_istore_8 dX2_holds_87 rfl ?_
              refine w_goto (tgt := 187) dX2_holds_89 (by decide) ?_
              first | refine w_iinc_9 dX2_holds_187 (nI_inc _) rfl ?_ | refine w_iinc_9 dX2_holds_187 rfl rfl ?_
              refine w_goto (tgt := 12) dX2_holds_190 (by decide) ?_
              have h9 := ih (i + 1) (by omega) (by omega)
              rw [show fr + (i + 1) = fr + i + 1 by omega] at h9
              have es : hrun T k D.2.2.2.2.2.1 fr (i + 1) h0 = hstep T k c (hrun T k D.2.2.2.2.2.1 fr i h0) := by rw [← hc]; rfl
              rw [es] at h9
              first
                | (rw [hstep, if_pos c_47, if_pos c_54] at h9; exact Wp.fg h9 (by repeat (first | exact trivial | refine ⟨Or.inl rfl, ?_⟩ | refine ⟨Or.inr rfl, ?_⟩)))
                | (rw [hstep, if_pos c_47, if_neg c_54] at h9; exact Wp.fg h9 (by repeat (first | exact trivial | refine ⟨Or.inl rfl, ?_⟩ | refine ⟨Or.inr rfl, ?_⟩)))
                | (rw [hstep, if_neg (Decidable.not_not.mpr c_47), if_pos c_79] at h9; exact Wp.fg h9 (by repeat (first | exact trivial | refine ⟨Or.inl rfl, ?_⟩ | refine ⟨Or.inr rfl, ?_⟩)))
                | (rw [hstep, if_neg (Decidable.not_not.mpr c_47), if_neg c_79, if_pos c_96, c_115] at h9; exact Wp.fg h9 (by repeat (first | exact trivial | refine ⟨Or.inl rfl, ?_⟩ | refine ⟨Or.inr rfl, ?_⟩)))
                | (rw [hstep, if_neg (Decidable.not_not.mpr c_47), if_neg c_79, if_pos c_96, show atomN T k c ((hrun T k D.2.2.2.2.2.1 fr i h0).2.2 - (hrun T k D.2.2.2.2.2.1 fr i h0).2.1) = 1 by omega] at h9; exact Wp.fg h9 (by repeat (first | exact trivial | refine ⟨Or.inl rfl, ?_⟩ | refine ⟨Or.inr rfl, ?_⟩)))
                | (rw [hstep, if_neg (Decidable.not_not.mpr c_47), if_neg c_79, if_neg (Decidable.not_not.mpr c_96), if_pos c_137] at h9; exact Wp.fg h9 (by repeat (first | exact trivial | refine ⟨Or.inl rfl, ?_⟩ | refine ⟨Or.inr rfl, ?_⟩)))
                | (rw [hstep, if_neg (Decidable.not_not.mpr c_47), if_neg c_79, if_neg (Decidable.not_not.mpr c_96), if_neg c_137, if_pos c_165] at h9; exact Wp.fg h9 (by repeat (first | exact trivial | refine ⟨Or.inl rfl, ?_⟩ | refine ⟨Or.inr rfl, ?_⟩)))
                | (rw [hstep, if_neg (Decidable.not_not.mpr c_47), if_neg c_79, if_neg (Decidable.not_not.mpr c_96), if_neg c_137, if_neg c_165] at h9; exact Wp.fg h9 (by repeat (first | exact trivial | refine ⟨Or.inl rfl, ?_⟩ | refine ⟨Or.inr rfl, ?_⟩)))
          · try simp (disch := omega) only [nI_b2, nI_ltI, nI_leI, nI_eq, ge_iff_le, gt_iff_lt, Nat.not_lt, Nat.not_le] at c_47
            refine w_iload dX2_holds_50 rfl ?_
            refine w_iload dX2_holds_52 rfl ?_
            refine w_ifN_lt (tgt := 62) dX2_holds_54 (by decide) (fun c_54 => ?_) (fun c_54 => ?_)
            · try simp (disch := omega) only [nI_b2, nI_ltI, nI_leI, nI_eq, ge_iff_le, gt_iff_lt, Nat.not_lt, Nat.not_le] at c_54
              refine w_aload_n dX2_holds_62 rfl ?_
              refine w_iload_n dX2_holds_63 rfl ?_
              refine w_iload dX2_holds_64 rfl ?_
              refine wS3u dX2_holds_66 lk_X2_50 rfl (c_part hI hB hk) (Nat.le_of_ble_eq_true rfl) (Nat.le_of_ble_eq_true rfl) (Nat.le_of_ble_eq_true rfl) (Nat.le_of_ble_eq_true rfl) ?_
              refine w_iadd dX2_holds_69 ?_
              refine w_istore_8 dX2_holds_70 rfl ?_
              refine w_goto (tgt := 187) dX2_holds_72 (by decide) ?_
              first | refine w_iinc_9 dX2_holds_187 (nI_inc _) rfl ?_ | refine w_iinc_9 dX2_holds_187 rfl rfl ?_
              refine w_goto (tgt := 12) dX2_holds_190 (by decide) ?_
              have h9 := ih (i + 1) (by omega) (by omega)
              rw [show fr + (i + 1) = fr + i + 1 by omega] at h9
              have es : hrun T k D.2.2.2.2.2.1 fr (i + 1) h0 = hstep T k c (hrun T k D.2.2.2.2.2.1 fr i h0) := by rw [← hc]; rfl
              rw [es] at h9
              first
                | (rw [hstep, if_pos c_47, if_pos c_54] at h9; exact Wp.fg h9 (by repeat (first | exact trivial | refine ⟨Or.inl rfl, ?_⟩ | refine ⟨Or.inr rfl, ?_⟩)))
                | (rw [hstep, if_pos c_47, if_neg c_54] at h9; exact Wp.fg h9 (by repeat (first | exact trivial | refine ⟨Or.inl rfl, ?_⟩ | refine ⟨Or.inr rfl, ?_⟩)))
                | (rw [hstep, if_neg (Decidable.not_not.mpr c_47), if_pos c_79] at h9; exact Wp.fg h9 (by repeat (first | exact trivial | refine ⟨Or.inl rfl, ?_⟩ | refine ⟨Or.inr rfl, ?_⟩)))
                | (rw [hstep, if_neg (Decidable.not_not.mpr c_47), if_neg c_79, if_pos c_96, c_115] at h9; exact Wp.fg h9 (by repeat (first | exact trivial | refine ⟨Or.inl rfl, ?_⟩ | refine ⟨Or.inr rfl, ?_⟩)))
                | (rw [hstep, if_neg (Decidable.not_not.mpr c_47), if_neg c_79, if_pos c_96, show atomN T k c ((hrun T k D.2.2.2.2.2.1 fr i h0).2.2 - (hrun T k D.2.2.2.2.2.1 fr i h0).2.1) = 1 by omega] at h9; exact Wp.fg h9 (by repeat (first | exact trivial | refine ⟨Or.inl rfl, ?_⟩ | refine ⟨Or.inr rfl, ?_⟩)))
                | (rw [hstep, if_neg (Decidable.not_not.mpr c_47), if_neg c_79, if_neg (Decidable.not_not.mpr c_96), if_pos c_137] at h9; exact Wp.fg h9 (by repeat (first | exact trivial | refine ⟨Or.inl rfl, ?_⟩ | refine ⟨Or.inr rfl, ?_⟩)))
                | (rw [hstep, if_neg (Decidable.not_not.mpr c_47), if_neg c_79, if_neg (Decidable.not_not.mpr c_96), if_neg c_137, if_pos c_165] at h9; exact Wp.fg h9 (by repeat (first | exact trivial | refine ⟨Or.inl rfl, ?_⟩ | refine ⟨Or.inr rfl, ?_⟩)))
                | (rw [hstep, if_neg (Decidable.not_not.mpr c_47), if_neg c_79, if_neg (Decidable.not_not.mpr c_96), if_neg c_137, if_neg c_165] at h9; exact Wp.fg h9 (by repeat (first | exact trivial | refine ⟨Or.inl rfl, ?_⟩ | refine ⟨Or.inr rfl, ?_⟩)))
            · try simp (disch := omega) only [nI_b2, nI_ltI, nI_leI, nI_eq, ge_iff_le, gt_iff_lt, Nat.not_lt, Nat.not_le] at c_54
              refine w_iload dX2_holds_57 rfl ?_
              refine w_goto (tgt := 69) dX2_holds_59 (by decide) ?_
              refine w_iadd dX2_holds_69 ?_
              refine w_istore_8 dX2_holds_70 rfl ?_
              refine w_goto (tgt := 187) dX2_holds_72 (by decide) ?_
              first | refine w_iinc_9 dX2_holds_187 (nI_inc _) rfl ?_ | refine w_iinc_9 dX2_holds_187 rfl rfl ?_
              refine w_goto (tgt := 12) dX2_holds_190 (by decide) ?_
              have h9 := ih (i + 1) (by omega) (by omega)
              rw [show fr + (i + 1) = fr + i + 1 by omega] at h9
              have es : hrun T k D.2.2.2.2.2.1 fr (i + 1) h0 = hstep T k c (hrun T k D.2.2.2.2.2.1 fr i h0) := by rw [← hc]; rfl
              rw [es] at h9
              first
                | (rw [hstep, if_pos c_47, if_pos c_54] at h9; exact Wp.fg h9 (by repeat (first | exact trivial | refine ⟨Or.inl rfl, ?_⟩ | refine ⟨Or.inr rfl, ?_⟩)))
                | (rw [hstep, if_pos c_47, if_neg c_54] at h9; exact Wp.fg h9 (by repeat (first | exact trivial | refine ⟨Or.inl rfl, ?_⟩ | refine ⟨Or.inr rfl, ?_⟩)))
                | (rw [hstep, if_neg (Decidable.not_not.mpr c_47), if_pos c_79] at h9; exact Wp.fg h9 (by repeat (first | exact trivial | refine ⟨Or.inl rfl, ?_⟩ | refine ⟨Or.inr rfl, ?_⟩)))
                | (rw [hstep, if_neg (Decidable.not_not.mpr c_47), if_neg c_79, if_pos c_96, c_115] at h9; exact Wp.fg h9 (by repeat (first | exact trivial | refine ⟨Or.inl rfl, ?_⟩ | refine ⟨Or.inr rfl, ?_⟩)))
                | (rw [hstep, if_neg (Decidable.not_not.mpr c_47), if_neg c_79, if_pos c_96, show atomN T k c ((hrun T k D.2.2.2.2.2.1 fr i h0).2.2 - (hrun T k D.2.2.2.2.2.1 fr i h0).2.1) = 1 by omega] at h9; exact Wp.fg h9 (by repeat (first | exact trivial | refine ⟨Or.inl rfl, ?_⟩ | refine ⟨Or.inr rfl, ?_⟩)))
                | (rw [hstep, if_neg (Decidable.not_not.mpr c_47), if_neg c_79, if_neg (Decidable.not_not.mpr c_96), if_pos c_137] at h9; exact Wp.fg h9 (by repeat (first | exact trivial | refine ⟨Or.inl rfl, ?_⟩ | refine ⟨Or.inr rfl, ?_⟩)))
                | (rw [hstep, if_neg (Decidable.not_not.mpr c_47), if_neg c_79, if_neg (Decidable.not_not.mpr c_96), if_neg c_137, if_pos c_165] at h9; exact Wp.fg h9 (by repeat (first | exact trivial | refine ⟨Or.inl rfl, ?_⟩ | refine ⟨Or.inr rfl, ?_⟩)))
                | (rw [hstep, if_neg (Decidable.not_not.mpr c_47), if_neg c_79, if_neg (Decidable.not_not.mpr c_96), if_neg c_137, if_neg c_165] at h9; exact Wp.fg h9 (by repeat (first | exact trivial | refine ⟨Or.inl rfl, ?_⟩ | refine ⟨Or.inr rfl, ?_⟩)))
theorem c_holds {E : EV} {l a k fr to : Nat} {T : ST} {sd : Int32} {D : LD} {G : AH} (hL : Lw G l D) (hI : Isl G a T sd) (hB : Bd T) (hk : k < 12) (hft : fr ≤ to) (hto : to ≤ 400) : Cu E 3 kX2_holds [.ref l, .ref a, .int (nI k), .int (nI fr), .int (nI to)] G (.int (nI (hBn T k D.2.2.2.2.2.1 fr to))) G := by
  refine Ct.intro rfl (by decide) [.ref l, .ref a, .int (nI k), .int (nI fr), .int (nI to), .float 0, .float 0, .float 0, .float 0, .float 0, .float 0, .float 0, .float 0, .float 0, .float 0] (by simp [Value.category]) (Nat.le_of_ble_eq_true rfl) rfl ?_
  refine w_lconst (v := lN 1) dX2_holds_0 rfl ?_
  refine w_lstore_5 dX2_holds_1 rfl ?_
  refine w_iconst (v := nI 0) dX2_holds_3 (by decide) ?_
  refine w_istore_7 dX2_holds_4 rfl ?_
  refine w_iconst (v := nI 0) dX2_holds_6 (by decide) ?_
  refine w_istore_8 dX2_holds_7 rfl ?_
  refine w_iload_n dX2_holds_9 rfl ?_
  refine w_istore_9 dX2_holds_10 rfl ?_
  exact lp_holds hL hI hB hk hft hto ⟨rfl, rfl⟩ (to - fr + 1) 0 (by omega) (by omega)
def tlP (D : LD) (T : ST) (k i : Nat) : Prop := hEnd (hrun T k D.2.2.2.2.2.1 (D.2.2.2.2.1 i) (D.2.2.2.2.1 (i + 1) - D.2.2.2.2.1 i) h0).1
/-- what the first n lines tell of: 0 wears, 1 shifts, 2 soils -/
def tlN (D : LD) (T : ST) (k : Nat) : Nat → Nat → Nat | 0, _ => 0 | n + 1, j => tlN D T k n j + (if hBn T k D.2.2.2.2.2.1 (D.2.2.2.2.1 n) (D.2.2.2.2.1 (n + 1)) = 1 ∧ D.2.2.1 n = j then D.2.2.2.1 n else 0)
theorem tlN_le {D : LD} (hD : WFD D) (T : ST) (k j : Nat) : ∀ n, n ≤ D.2.1 → tlN D T k n j ≤ n * 20
  | 0, _ => Nat.zero_le _
  | n + 1, hn => by have ih := tlN_le hD T k j n (by omega); have := hD.2.2.2.1 n hn; unfold tlN; split <;> omega
def FrL (G G' : AH) (l : Nat) : Prop := G'.2 = G.2 ∧ ∀ q, q ≠ l + 5 → G'.1 q = G.1 q
theorem FrL.rf {G : AH} {l : Nat} : FrL G G l := ⟨rfl, fun _ _ => rfl⟩
theorem FrL.tr {G G1 G2 : AH} {l : Nat} (h1 : FrL G G1 l) (h2 : FrL G1 G2 l) : FrL G G2 l := ⟨h2.1.trans h1.1, fun q hq => (h2.2 q hq).trans (h1.2 q hq)⟩
theorem Isl.frL {G G' : AH} {a l : Nat} {T : ST} {sd : Int32} (h : Isl G a T sd) (hF : FrL G G' l) (hd : l + 6 ≤ a ∨ a + 14 ≤ l) : Isl G' a T sd := by
  obtain ⟨i0, i1, i2, i3, i4, i5, i6, i7, i8, i9, i10, i11, i12, i13⟩ := h
  exact ⟨by rw [hF.2 _ (by omega)]; exact i0, by rw [hF.2 _ (by omega)]; exact i1, by rw [hF.2 _ (by omega)]; exact i2, by rw [hF.2 _ (by omega)]; exact i3, by rw [hF.2 _ (by omega)]; exact i4, by rw [hF.2 _ (by omega)]; exact i5, by rw [hF.2 _ (by omega)]; exact i6, by rw [hF.2 _ (by omega)]; exact i7, by rw [hF.2 _ (by omega)]; exact i8, by rw [hF.2 _ (by omega)]; exact i9, by rw [hF.2 _ (by omega)]; exact i10, by rw [hF.2 _ (by omega)]; exact i11, by rw [hF.2 _ (by omega)]; exact i12, by rw [hF.2 _ (by omega)]; exact i13⟩
theorem Lw.frL {G G' : AH} {l : Nat} {D : LD} (h : Lw G l D) (hF : FrL G G' l) (ht : ∃ t : Nat → Int32, G'.1 (l + 5) = some (aI 3 t)) : Lw G' l D := by
  obtain ⟨l0, l1, l2, l3, l4, -⟩ := h
  exact ⟨by rw [hF.2 _ (by omega)]; exact l0, by rw [hF.2 _ (by omega)]; exact l1, by rw [hF.2 _ (by omega)]; exact l2, by rw [hF.2 _ (by omega)]; exact l3, by rw [hF.2 _ (by omega)]; exact l4, ht⟩
theorem Lw.fr {G G' : AH} {a l : Nat} {D : LD} (h : Lw G l D) (hF : Fr G G' a) (hd : l + 6 ≤ a ∨ a + 14 ≤ l) : Lw G' l D := by
  obtain ⟨l0, l1, l2, l3, l4, t, l5⟩ := h
  exact ⟨by rw [hF.2 _ (by omega)]; exact l0, by rw [hF.2 _ (by omega)]; exact l1, by rw [hF.2 _ (by omega)]; exact l2, by rw [hF.2 _ (by omega)]; exact l3, by rw [hF.2 _ (by omega)]; exact l4, t, by rw [hF.2 _ (by omega)]; exact l5⟩
/-- a row of what is told, over numbers -/
theorem c_putT {E : EV} {G : AH} {l k v : Nat} {f : Nat → Nat} (h : G.1 (l + 5) = some (aI 3 (fun j => nI (f j)))) (hk : k < 3) : Cd E 1 kX7_put [.ref (l + 5), .int (nI k), .int (nI v)] G (fun G1 => G1.1 (l + 5) = some (aI 3 (fun j => nI (if j = k then v else f j))) ∧ FrL G G1 l) := (c_putN h hk (by decide)).imp (fun G1 e => by
  subst e
  refine ⟨?_, rfl, fun q hq => gs_ne hq⟩
  rw [gs_at]
  congr 4
  funext j
  unfold upd
  split <;> rfl)
theorem lp_tell {E : EV} {Q : OC → AH → Prop} {l a k : Nat} {T : ST} {sd : Int32} {D : LD} (hD : WFD D) (hB : Bd T) (hk : k < 12) (hla : l + 6 ≤ a ∨ a + 14 ≤ l) : ∀ (n i : Nat) (G : AH), D.2.1 - i < n → i ≤ D.2.1 → Lw G l D → Isl G a T sd → G.1 (l + 5) = some (aI 3 (fun j => nI (tlN D T k i j))) → (∀ G1, G1.1 (l + 5) = some (aI 3 (fun j => nI (tlN D T k D.2.1 j))) → FrL G G1 l → Q (.inl none) G1) → Wp E 4 0 0 kX2_tell Q G (0, 0) 29 [.ref l, .ref a, .int (nI k), .int (nI i), .float 0] [] := by
  intro n
  induction n with
  | zero => intro i G h; exact absurd h (by omega)
  | succ n ih =>
    intro i G hn hi hL hI hT hQ
    obtain ⟨l0, l1, l2, l3, l4, t0, l5⟩ := id hL
    obtain ⟨d1, d2, d3, d4, d5, d6, -⟩ := id hD
    refine w_iload_n dX2_tell_29 rfl ?_
    refine w_aload_n dX2_tell_30 rfl ?_
    refine w_getf dX2_tell_31 fl_X2_28 (by first | assumption | exact gs_at | (rw [gs_ne (by omega)]; (first | assumption | exact gs_at | (rw [gs_ne (by omega)]; (first | assumption | exact gs_at | (rw [gs_ne (by omega)]; (first | assumption | exact gs_at | (rw [gs_ne (by omega)]; (first | assumption | exact gs_at))))))))) rfl ?_
    refine w_icmp_ge (tgt := 107) dX2_tell_34 (by decide) (fun c_34 => ?_) (fun c_34 => ?_)
    · try simp (disch := omega) only [nI_ltI, nI_leI, nI_eq, ge_iff_le, gt_iff_lt, Nat.not_lt, Nat.not_le] at c_34
      have e : i = D.2.1 := by
        rcases d1 with ⟨e1, e2⟩ | e1
        · omega
        · rw [e1] at c_34; have := (nI_leI (by omega) (by omega)).mp c_34; omega
      subst e
      refine w_vret dX2_tell_107 rfl (Nat.le_of_ble_eq_true rfl) (Nat.le_of_ble_eq_true rfl) ?_
      exact hQ G hT FrL.rf
    · try simp (disch := omega) only [nI_ltI, nI_leI, nI_eq, ge_iff_le, gt_iff_lt, Nat.not_lt, Nat.not_le] at c_34
      have hlt : i < D.2.1 := by
        rcases d1 with ⟨e1, e2⟩ | e1
        · exact absurd (show D.1 ≤ nI i by rw [e1]; exact Int32.le_trans (b := nI 0) (by decide) (nI_le (Nat.zero_le i) (by omega))) c_34
        · rw [e1] at c_34; exact Nat.lt_of_not_le (fun h => c_34 (nI_le h (by omega)))
      have hd3 := d3 i hlt; have hd5 := d5 i hlt
      refine w_aload_n dX2_tell_37 rfl ?_
      refine w_aload_n dX2_tell_38 rfl ?_
      refine w_iload_n dX2_tell_39 rfl ?_
      refine w_aload_n dX2_tell_40 rfl ?_
      refine w_getf dX2_tell_41 fl_X2_18 (by first | assumption | exact gs_at | (rw [gs_ne (by omega)]; (first | assumption | exact gs_at | (rw [gs_ne (by omega)]; (first | assumption | exact gs_at | (rw [gs_ne (by omega)]; (first | assumption | exact gs_at | (rw [gs_ne (by omega)]; (first | assumption | exact gs_at))))))))) rfl ?_
      refine w_iload_n dX2_tell_44 rfl ?_
      refine wN2u dX2_tell_45 lk_X2_42 rfl (c_atN (by first | assumption | exact gs_at | (rw [gs_ne (by omega)]; (first | assumption | exact gs_at | (rw [gs_ne (by omega)]; (first | assumption | exact gs_at | (rw [gs_ne (by omega)]; (first | assumption | exact gs_at | (rw [gs_ne (by omega)]; (first | assumption | exact gs_at))))))))) (by omega) (by decide)) (Nat.le_of_ble_eq_true rfl) (Nat.le_of_ble_eq_true rfl) (Nat.le_of_ble_eq_true rfl) (Nat.le_of_ble_eq_true rfl) ?_
      refine w_aload_n dX2_tell_48 rfl ?_
      refine w_getf dX2_tell_49 fl_X2_18 (by first | assumption | exact gs_at | (rw [gs_ne (by omega)]; (first | assumption | exact gs_at | (rw [gs_ne (by omega)]; (first | assumption | exact gs_at | (rw [gs_ne (by omega)]; (first | assumption | exact gs_at | (rw [gs_ne (by omega)]; (first | assumption | exact gs_at))))))))) rfl ?_
      refine w_iload_n dX2_tell_52 rfl ?_
      refine w_iconst (v := nI 1) dX2_tell_53 (by decide) ?_
      first | refine w_iaddN dX2_tell_54 ?_ | refine w_iadd dX2_tell_54 ?_
      refine wN2u dX2_tell_55 lk_X2_42 rfl (c_atN (by first | assumption | exact gs_at | (rw [gs_ne (by omega)]; (first | assumption | exact gs_at | (rw [gs_ne (by omega)]; (first | assumption | exact gs_at | (rw [gs_ne (by omega)]; (first | assumption | exact gs_at | (rw [gs_ne (by omega)]; (first | assumption | exact gs_at))))))))) (by omega) (by decide)) (Nat.le_of_ble_eq_true rfl) (Nat.le_of_ble_eq_true rfl) (Nat.le_of_ble_eq_true rfl) (Nat.le_of_ble_eq_true rfl) ?_
      refine wV4u dX2_tell_58 lk_X2_46 rfl (by first | assumption | exact gs_at | (rw [gs_ne (by omega)]; (first | assumption | exact gs_at | (rw [gs_ne (by omega)]; (first | assumption | exact gs_at | (rw [gs_ne (by omega)]; (first | assumption | exact gs_at | (rw [gs_ne (by omega)]; (first | assumption | exact gs_at))))))))) rfl rfl (c_holds hL hI hB hk (d6 i hlt) hd5) (Nat.le_of_ble_eq_true rfl) (Nat.le_of_ble_eq_true rfl) (Nat.le_of_ble_eq_true rfl) (Nat.le_of_ble_eq_true rfl) ?_
      have hb1 := b2_le (hEnd (hrun T k D.2.2.2.2.2.1 (D.2.2.2.2.1 i) (D.2.2.2.2.1 (i + 1) - D.2.2.2.2.1 i) h0).1)
      change hBn T k D.2.2.2.2.2.1 (D.2.2.2.2.1 i) (D.2.2.2.2.1 (i + 1)) ≤ 1 at hb1
      refine w_ifN_eq (tgt := 101) dX2_tell_61 (by decide) (fun c_61 => ?_) (fun c_61 => ?_)
      · try simp (disch := omega) only [nI_ltI, nI_leI, nI_eq, ge_iff_le, gt_iff_lt, Nat.not_lt, Nat.not_le] at c_61
        first | refine w_iinc_3 dX2_tell_101 (nI_inc _) rfl ?_ | refine w_iinc_3 dX2_tell_101 rfl rfl ?_
        refine w_goto (tgt := 29) dX2_tell_104 (by decide) ?_
        first
          | exact Wp.fg (ih (i + 1) G1 (by omega) (by omega) (hL.frL hF1 ⟨_, hT1⟩) (hI.frL hF1 hla) (by rw [hT1]; congr 4; funext j; rw [tlN]; by_cases hj : D.2.2.1 i = j; (rw [if_pos hj.symm, if_pos ⟨by omega, hj⟩, hj]); (rw [if_neg (fun h => hj h.symm), if_neg (fun h => hj h.2)]; rfl)) (fun G2 h1 h2 => hQ G2 h1 (hF1.tr h2))) (by repeat (first | exact trivial | refine ⟨Or.inl rfl, ?_⟩ | refine ⟨Or.inr rfl, ?_⟩))
          | exact Wp.fg (ih (i + 1) G (by omega) (by omega) hL hI (by rw [hT]; congr 4; funext j; rw [tlN, if_neg (fun h => by omega)]; rfl) hQ) (by repeat (first | exact trivial | refine ⟨Or.inl rfl, ?_⟩ | refine ⟨Or.inr rfl, ?_⟩))
      · try simp (disch := omega) only [nI_ltI, nI_leI, nI_eq, ge_iff_le, gt_iff_lt, Nat.not_lt, Nat.not_le] at c_61
        refine w_aload_n dX2_tell_64 rfl ?_
        refine w_getf dX2_tell_65 fl_X2_9 (by first | assumption | exact gs_at | (rw [gs_ne (by omega)]; (first | assumption | exact gs_at | (rw [gs_ne (by omega)]; (first | assumption | exact gs_at | (rw [gs_ne (by omega)]; (first | assumption | exact gs_at | (rw [gs_ne (by omega)]; (first | assumption | exact gs_at))))))))) rfl ?_
        refine w_iload_n dX2_tell_68 rfl ?_
        refine wN2u dX2_tell_69 lk_X2_42 rfl (c_atN (by first | assumption | exact gs_at | (rw [gs_ne (by omega)]; (first | assumption | exact gs_at | (rw [gs_ne (by omega)]; (first | assumption | exact gs_at | (rw [gs_ne (by omega)]; (first | assumption | exact gs_at | (rw [gs_ne (by omega)]; (first | assumption | exact gs_at))))))))) (by omega) (by decide)) (Nat.le_of_ble_eq_true rfl) (Nat.le_of_ble_eq_true rfl) (Nat.le_of_ble_eq_true rfl) (Nat.le_of_ble_eq_true rfl) ?_
        refine w_istore_4 dX2_tell_72 rfl ?_
        refine w_aload_n dX2_tell_74 rfl ?_
        refine w_getf dX2_tell_75 fl_X2_31 (by first | assumption | exact gs_at | (rw [gs_ne (by omega)]; (first | assumption | exact gs_at | (rw [gs_ne (by omega)]; (first | assumption | exact gs_at | (rw [gs_ne (by omega)]; (first | assumption | exact gs_at | (rw [gs_ne (by omega)]; (first | assumption | exact gs_at))))))))) rfl ?_
        refine w_iload dX2_tell_78 rfl ?_
        refine w_aload_n dX2_tell_80 rfl ?_
        refine w_getf dX2_tell_81 fl_X2_31 (by first | assumption | exact gs_at | (rw [gs_ne (by omega)]; (first | assumption | exact gs_at | (rw [gs_ne (by omega)]; (first | assumption | exact gs_at | (rw [gs_ne (by omega)]; (first | assumption | exact gs_at | (rw [gs_ne (by omega)]; (first | assumption | exact gs_at))))))))) rfl ?_
        refine w_iload dX2_tell_84 rfl ?_
        refine wN2u dX2_tell_86 lk_X2_42 rfl (c_atN hT (by omega) (by decide)) (Nat.le_of_ble_eq_true rfl) (Nat.le_of_ble_eq_true rfl) (Nat.le_of_ble_eq_true rfl) (Nat.le_of_ble_eq_true rfl) ?_
        refine w_aload_n dX2_tell_89 rfl ?_
        refine w_getf dX2_tell_90 fl_X2_15 (by first | assumption | exact gs_at | (rw [gs_ne (by omega)]; (first | assumption | exact gs_at | (rw [gs_ne (by omega)]; (first | assumption | exact gs_at | (rw [gs_ne (by omega)]; (first | assumption | exact gs_at | (rw [gs_ne (by omega)]; (first | assumption | exact gs_at))))))))) rfl ?_
        refine w_iload_n dX2_tell_93 rfl ?_
        refine wN2u dX2_tell_94 lk_X2_42 rfl (c_atN (by first | assumption | exact gs_at | (rw [gs_ne (by omega)]; (first | assumption | exact gs_at | (rw [gs_ne (by omega)]; (first | assumption | exact gs_at | (rw [gs_ne (by omega)]; (first | assumption | exact gs_at | (rw [gs_ne (by omega)]; (first | assumption | exact gs_at))))))))) (by omega) (by decide)) (Nat.le_of_ble_eq_true rfl) (Nat.le_of_ble_eq_true rfl) (Nat.le_of_ble_eq_true rfl) (Nat.le_of_ble_eq_true rfl) ?_
        first | refine w_iaddN dX2_tell_97 ?_ | refine w_iadd dX2_tell_97 ?_
        refine wN3d dX2_tell_98 lk_X2_38 rfl (c_putT hT hd3) (Nat.le_of_ble_eq_true rfl) (Nat.le_of_ble_eq_true rfl) (Nat.le_of_ble_eq_true rfl) (Nat.le_of_ble_eq_true rfl) (fun G1 h_98 => ?_)
        obtain ⟨hT1, hF1⟩ := h_98
        first | refine w_iinc_3 dX2_tell_101 (nI_inc _) rfl ?_ | refine w_iinc_3 dX2_tell_101 rfl rfl ?_
        refine w_goto (tgt := 29) dX2_tell_104 (by decide) ?_
        first
          | exact Wp.fg (ih (i + 1) G1 (by omega) (by omega) (hL.frL hF1 ⟨_, hT1⟩) (hI.frL hF1 hla) (by rw [hT1]; congr 4; funext j; rw [tlN]; by_cases hj : D.2.2.1 i = j; (rw [if_pos hj.symm, if_pos ⟨by omega, hj⟩, hj]); (rw [if_neg (fun h => hj h.symm), if_neg (fun h => hj h.2)]; rfl)) (fun G2 h1 h2 => hQ G2 h1 (hF1.tr h2))) (by repeat (first | exact trivial | refine ⟨Or.inl rfl, ?_⟩ | refine ⟨Or.inr rfl, ?_⟩))
          | exact Wp.fg (ih (i + 1) G (by omega) (by omega) hL hI (by rw [hT]; congr 4; funext j; rw [tlN, if_neg (fun h => by omega)]; rfl) hQ) (by repeat (first | exact trivial | refine ⟨Or.inl rfl, ?_⟩ | refine ⟨Or.inr rfl, ?_⟩))
theorem c_tell {E : EV} {l a k : Nat} {T : ST} {sd : Int32} {D : LD} {G : AH} (hL : Lw G l D) (hD : WFD D) (hI : Isl G a T sd) (hB : Bd T) (hk : k < 12) (hla : l + 6 ≤ a ∨ a + 14 ≤ l) : Cd E 4 kX2_tell [.ref l, .ref a, .int (nI k)] G (fun G1 => G1.1 (l + 5) = some (aI 3 (fun j => nI (tlN D T k D.2.1 j))) ∧ FrL G G1 l) := by
  obtain ⟨l0, l1, l2, l3, l4, t0, l5⟩ := id hL
  refine Ct.intro rfl (by decide) [.ref l, .ref a, .int (nI k), .float 0, .float 0] (by simp [Value.category]) (Nat.le_of_ble_eq_true rfl) rfl ?_
  refine w_aload_n dX2_tell_0 rfl ?_
  refine w_getf dX2_tell_1 fl_X2_31 (by first | assumption | exact gs_at | (rw [gs_ne (by omega)]; (first | assumption | exact gs_at | (rw [gs_ne (by omega)]; (first | assumption | exact gs_at | (rw [gs_ne (by omega)]; (first | assumption | exact gs_at | (rw [gs_ne (by omega)]; (first | assumption | exact gs_at))))))))) rfl ?_
  refine w_iconst (v := nI 0) dX2_tell_4 (by decide) ?_
  refine w_iconst (v := nI 0) dX2_tell_5 (by decide) ?_
  refine wN3n dX2_tell_6 lk_X2_38 rfl (c_putN (by first | assumption | exact gs_at | (rw [gs_ne (by omega)]; (first | assumption | exact gs_at | (rw [gs_ne (by omega)]; (first | assumption | exact gs_at | (rw [gs_ne (by omega)]; (first | assumption | exact gs_at | (rw [gs_ne (by omega)]; (first | assumption | exact gs_at))))))))) (by decide) (by decide)) (Nat.le_of_ble_eq_true rfl) (Nat.le_of_ble_eq_true rfl) (Nat.le_of_ble_eq_true rfl) (Nat.le_of_ble_eq_true rfl) ?_
  refine w_aload_n dX2_tell_9 rfl ?_
  refine w_getf dX2_tell_10 fl_X2_31 (by first | assumption | exact gs_at | (rw [gs_ne (by omega)]; (first | assumption | exact gs_at | (rw [gs_ne (by omega)]; (first | assumption | exact gs_at | (rw [gs_ne (by omega)]; (first | assumption | exact gs_at | (rw [gs_ne (by omega)]; (first | assumption | exact gs_at))))))))) rfl ?_
  refine w_iconst (v := nI 1) dX2_tell_13 (by decide) ?_
  refine w_iconst (v := nI 0) dX2_tell_14 (by decide) ?_
  refine wN3n dX2_tell_15 lk_X2_38 rfl (c_putN (by first | assumption | exact gs_at | (rw [gs_ne (by omega)]; (first | assumption | exact gs_at | (rw [gs_ne (by omega)]; (first | assumption | exact gs_at | (rw [gs_ne (by omega)]; (first | assumption | exact gs_at | (rw [gs_ne (by omega)]; (first | assumption | exact gs_at))))))))) (by decide) (by decide)) (Nat.le_of_ble_eq_true rfl) (Nat.le_of_ble_eq_true rfl) (Nat.le_of_ble_eq_true rfl) (Nat.le_of_ble_eq_true rfl) ?_
  refine w_aload_n dX2_tell_18 rfl ?_
  refine w_getf dX2_tell_19 fl_X2_31 (by first | assumption | exact gs_at | (rw [gs_ne (by omega)]; (first | assumption | exact gs_at | (rw [gs_ne (by omega)]; (first | assumption | exact gs_at | (rw [gs_ne (by omega)]; (first | assumption | exact gs_at | (rw [gs_ne (by omega)]; (first | assumption | exact gs_at))))))))) rfl ?_
  refine w_iconst (v := nI 2) dX2_tell_22 (by decide) ?_
  refine w_iconst (v := nI 0) dX2_tell_23 (by decide) ?_
  refine wN3n dX2_tell_24 lk_X2_38 rfl (c_putN (by first | assumption | exact gs_at | (rw [gs_ne (by omega)]; (first | assumption | exact gs_at | (rw [gs_ne (by omega)]; (first | assumption | exact gs_at | (rw [gs_ne (by omega)]; (first | assumption | exact gs_at | (rw [gs_ne (by omega)]; (first | assumption | exact gs_at))))))))) (by decide) (by decide)) (Nat.le_of_ble_eq_true rfl) (Nat.le_of_ble_eq_true rfl) (Nat.le_of_ble_eq_true rfl) (Nat.le_of_ble_eq_true rfl) ?_
  rw [gs_gs, gs_gs]
  refine Wp.row (g := fun _ => nI 0) (fun j hj => by unfold upd; split; rfl; split; rfl; split; rfl; omega) ?_
  have hF0 : FrL G (gs G (l + 5) (aI 3 (fun _ => nI 0))) l := ⟨rfl, fun q hq => gs_ne hq⟩
  refine w_iconst (v := nI 0) dX2_tell_27 (by decide) ?_
  refine w_istore_3 dX2_tell_28 rfl ?_
  exact lp_tell hD hB hk hla (D.2.1 + 1) 0 _ (by omega) (by omega) (hL.frL hF0 ⟨_, gs_at⟩) (hI.frL hF0 hla) gs_at (fun G1 h1 h2 => ⟨rfl, h1, hF0.tr h2⟩)
