/-! the model: the tape, undone, the image, the log -/
def selI (a b c d e : Int32) (k : Nat) : Int32 := if k < 4 then a else if k < 8 then b else if k < 12 then c else if k < 16 then d else e
def fdN (f : Nat → Nat) (t : Nat) (a b c d e : Int32) : Nat → Nat → Nat | 0 => f | k + 1 => updF (fdN f t a b c d e k) (t + k) (tbN (selI a b c d e k) (24 - 8 * (k % 4)))
theorem fd_eq (f : Nat → Nat) (t : Nat) (a b c d e : Int32) : fdN f t a b c d e 20 = feedF f t a b c d e := rfl
theorem ml_feed {E : EV} {Q : OC → AH → Prop} {V tn : Nat} {th hi ac ba en at_ fa dp io hm_ we sh so : Int32} {G : AH} {f : Nat → Nat} {a b c d e : Int32} (ht : tn ≤ 380) (hQ : Q (.inl (some (.int (nI (tn + 20))))) (gs (gs G (V + 5) (aI 400 (fun j => nI (fdN f tn a b c d e (20) j)))) V (mO V (nI 0) hi ac (nI (tn + (20))) ba en at_ fa dp io hm_ we sh so))) : ∀ (k i : Nat) (z : Value), 20 - i < k → i ≤ 20 → Wp E 1 0 0 kX8_feed Q (gs (gs G (V + 5) (aI 400 (fun j => nI (fdN f tn a b c d e (i) j)))) V (mO V (nI 0) hi ac (nI (tn + (i))) ba en at_ fa dp io hm_ we sh so)) (0, 0) 23 [.ref V, .int a, .int b, .int c, .int d, .int e, .int (nI i), z] [] := by
  intro k
  induction k with
  | zero => intro i z h; exact absurd h (by omega)
  | succ k ih =>
    intro i z hk hi4
    have hs9 : 24 - 8 * (i % 4) < 31 := by omega
    have hT5 : (gs (gs G (V + 5) (aI 400 (fun j => nI (fdN f tn a b c d e (i) j)))) V (mO V (nI 0) hi ac (nI (tn + (i))) ba en at_ fa dp io hm_ we sh so)).1 (V + 5) = some (aI 400 (fun j => nI (fdN f tn a b c d e i j))) := (gs_ne (by omega)).trans gs_at
    have htb : ∀ v : Int32, (v.toUInt32 >>> ((nI (24 - 8 * (i % 4))).toUInt32 &&& Int32.toUInt32 31)).toInt32 &&& nI 255 = nI (tbN v (24 - 8 * (i % 4))) := fun v => tbI_N hs9
    refine w_iload dX8_feed_23 rfl ?_
    refine w_bipush (v := nI 20) dX8_feed_25 (by decide) ?_
    refine w_icmp_ge (tgt := 120) dX8_feed_27 (by decide) (fun c_27 => ?_) (fun c_27 => ?_)
    · try simp (disch := omega) only [nI_b2, Decidable.not_not, nI_ltI, nI_leI, nI_eq, ge_iff_le, gt_iff_lt, ne_eq, Nat.not_lt, Nat.not_le] at c_27
      refine w_aload_n dX8_feed_120 rfl ?_
      refine w_getf dX8_feed_121 fl_X8_50 (by first | assumption | exact gs_at | (rw [gs_ne (by omega)]; (first | assumption | exact gs_at | (rw [gs_ne (by omega)]; (first | assumption | exact gs_at | (rw [gs_ne (by omega)]; (first | assumption | exact gs_at | (rw [gs_ne (by omega)]; (first | assumption | exact gs_at))))))))) rfl ?_
      refine w_iret dX8_feed_124 rfl (Nat.le_of_ble_eq_true rfl) (Nat.le_of_ble_eq_true rfl) ?_
      have e9 : i = 20 := by omega
      subst e9
      exact hQ
    · try simp (disch := omega) only [nI_b2, Decidable.not_not, nI_ltI, nI_leI, nI_eq, ge_iff_le, gt_iff_lt, ne_eq, Nat.not_lt, Nat.not_le] at c_27
      refine w_iload dX8_feed_30 rfl ?_
      refine w_iconst (v := nI 4) dX8_feed_32 (by decide) ?_
      refine w_icmp_ge (tgt := 40) dX8_feed_33 (by decide) (fun c_33 => ?_) (fun c_33 => ?_)
      · try simp (disch := omega) only [nI_b2, Decidable.not_not, nI_ltI, nI_leI, nI_eq, ge_iff_le, gt_iff_lt, ne_eq, Nat.not_lt, Nat.not_le] at c_33
        refine w_iload dX8_feed_40 rfl ?_
        refine w_bipush (v := nI 8) dX8_feed_42 (by decide) ?_
        refine w_icmp_ge (tgt := 51) dX8_feed_44 (by decide) (fun c_44 => ?_) (fun c_44 => ?_)
        · try simp (disch := omega) only [nI_b2, Decidable.not_not, nI_ltI, nI_leI, nI_eq, ge_iff_le, gt_iff_lt, ne_eq, Nat.not_lt, Nat.not_le] at c_44
          refine w_iload dX8_feed_51 rfl ?_
          refine w_bipush (v := nI 12) dX8_feed_53 (by decide) ?_
          refine w_icmp_ge (tgt := 62) dX8_feed_55 (by decide) (fun c_55 => ?_) (fun c_55 => ?_)
          · try simp (disch := omega) only [nI_b2, Decidable.not_not, nI_ltI, nI_leI, nI_eq, ge_iff_le, gt_iff_lt, ne_eq, Nat.not_lt, Nat.not_le] at c_55
            refine w_iload dX8_feed_62 rfl ?_
            refine w_bipush (v := nI 16) dX8_feed_64 (by decide) ?_
            refine w_icmp_ge (tgt := 74) dX8_feed_66 (by decide) (fun c_66 => ?_) (fun c_66 => ?_)
            · try simp (disch := omega) only [nI_b2, Decidable.not_not, nI_ltI, nI_leI, nI_eq, ge_iff_le, gt_iff_lt, ne_eq, Nat.not_lt, Nat.not_le] at c_66
              refine w_iload dX8_feed_74 rfl ?_
              refine w_istore_7 dX8_feed_76 rfl ?_
              refine w_aload_n dX8_feed_78 rfl ?_
              refine w_getf dX8_feed_79 fl_X8_22 (by first | assumption | exact gs_at | (rw [gs_ne (by omega)]; (first | assumption | exact gs_at | (rw [gs_ne (by omega)]; (first | assumption | exact gs_at | (rw [gs_ne (by omega)]; (first | assumption | exact gs_at | (rw [gs_ne (by omega)]; (first | assumption | exact gs_at))))))))) rfl ?_
              refine w_aload_n dX8_feed_82 rfl ?_
              refine w_getf dX8_feed_83 fl_X8_50 (by first | assumption | exact gs_at | (rw [gs_ne (by omega)]; (first | assumption | exact gs_at | (rw [gs_ne (by omega)]; (first | assumption | exact gs_at | (rw [gs_ne (by omega)]; (first | assumption | exact gs_at | (rw [gs_ne (by omega)]; (first | assumption | exact gs_at))))))))) rfl ?_
              refine w_iload dX8_feed_86 rfl ?_
              refine w_bipush (v := nI 24) dX8_feed_88 (by decide) ?_
              refine w_bipush (v := nI 8) dX8_feed_90 (by decide) ?_
              refine w_iload dX8_feed_92 rfl ?_
              refine w_iconst (v := nI 4) dX8_feed_94 (by decide) ?_
              first | refine w_iremN (by omega) (by omega) (by omega) dX8_feed_95 ?_ | refine w_irem dX8_feed_95 (by decide) ?_
              first | refine w_imulN dX8_feed_96 ?_ | refine w_imul dX8_feed_96 ?_
              refine w_isubN (by omega) dX8_feed_97 ?_
              refine w_iushr dX8_feed_98 ?_
              refine w_sipush (v := nI 255) dX8_feed_99 (by decide) ?_
              refine w_iand dX8_feed_102 ?_
              rw [htb]
              refine w_iastore dX8_feed_103 (by first | assumption | exact gs_at | (rw [gs_ne (by omega)]; (first | assumption | exact gs_at | (rw [gs_ne (by omega)]; (first | assumption | exact gs_at | (rw [gs_ne (by omega)]; (first | assumption | exact gs_at | (rw [gs_ne (by omega)]; (first | assumption | exact gs_at))))))))) (by first | assumption | exact vp_in_nI (by omega) (by omega) | exact vp_in_nI (by assumption) (by omega)) ?_
              rw [nI_clamp (by omega)]
              rw [upd_F]
              refine w_aload_n dX8_feed_104 rfl ?_
              refine w_dup dX8_feed_105 rfl ?_
              refine w_getf dX8_feed_106 fl_X8_50 (by first | assumption | exact gs_at | (rw [gs_ne (by omega)]; (first | assumption | exact gs_at | (rw [gs_ne (by omega)]; (first | assumption | exact gs_at | (rw [gs_ne (by omega)]; (first | assumption | exact gs_at | (rw [gs_ne (by omega)]; (first | assumption | exact gs_at))))))))) rfl ?_
              refine w_iconst (v := nI 1) dX8_feed_109 (by decide) ?_
              first | refine w_iaddN dX8_feed_110 ?_ | refine w_iadd dX8_feed_110 ?_
              refine w_putf dX8_feed_111 fl_X8_50 (by first | assumption | exact gs_at | (rw [gs_ne (by omega)]; (first | assumption | exact gs_at | (rw [gs_ne (by omega)]; (first | assumption | exact gs_at | (rw [gs_ne (by omega)]; (first | assumption | exact gs_at | (rw [gs_ne (by omega)]; (first | assumption | exact gs_at))))))))) (by simp) rfl rfl ?_
              first | refine w_iinc_6 dX8_feed_114 (nI_inc _) rfl ?_ | refine w_iinc_6 dX8_feed_114 rfl rfl ?_
              refine w_goto (tgt := 23) dX8_feed_117 (by decide) ?_
              have hN := ih (i + 1) (.int (selI a b c d e i)) (by omega) (by omega)
              rw [fdN, ← Nat.add_assoc] at hN
              rw [gs_comm (a := V) (b := V + 5) (by omega), gs_gs, gs_gs]
              first
                | (rw [show selI a b c d e i = a from by unfold selI; (repeat' split) <;> first | rfl | omega] at hN; exact hN)
                | (rw [show selI a b c d e i = b from by unfold selI; (repeat' split) <;> first | rfl | omega] at hN; exact hN)
                | (rw [show selI a b c d e i = c from by unfold selI; (repeat' split) <;> first | rfl | omega] at hN; exact hN)
                | (rw [show selI a b c d e i = d from by unfold selI; (repeat' split) <;> first | rfl | omega] at hN; exact hN)
                | (rw [show selI a b c d e i = e from by unfold selI; (repeat' split) <;> first | rfl | omega] at hN; exact hN)
            · try simp (disch := omega) only [nI_b2, Decidable.not_not, nI_ltI, nI_leI, nI_eq, ge_iff_le, gt_iff_lt, ne_eq, Nat.not_lt, Nat.not_le] at c_66
              refine w_iload dX8_feed_69 rfl ?_
              refine w_goto (tgt := 76) dX8_feed_71 (by decide) ?_
              refine w_istore_7 dX8_feed_76 rfl ?_
              refine w_aload_n dX8_feed_78 rfl ?_
              refine w_getf dX8_feed_79 fl_X8_22 (by first | assumption | exact gs_at | (rw [gs_ne (by omega)]; (first | assumption | exact gs_at | (rw [gs_ne (by omega)]; (first | assumption | exact gs_at | (rw [gs_ne (by omega)]; (first | assumption | exact gs_at | (rw [gs_ne (by omega)]; (first | assumption | exact gs_at))))))))) rfl ?_
              refine w_aload_n dX8_feed_82 rfl ?_
              refine w_getf dX8_feed_83 fl_X8_50 (by first | assumption | exact gs_at | (rw [gs_ne (by omega)]; (first | assumption | exact gs_at | (rw [gs_ne (by omega)]; (first | assumption | exact gs_at | (rw [gs_ne (by omega)]; (first | assumption | exact gs_at | (rw [gs_ne (by omega)]; (first | assumption | exact gs_at))))))))) rfl ?_
              refine w_iload dX8_feed_86 rfl ?_
              refine w_bipush (v := nI 24) dX8_feed_88 (by decide) ?_
              refine w_bipush (v := nI 8) dX8_feed_90 (by decide) ?_
              refine w_iload dX8_feed_92 rfl ?_
              refine w_iconst (v := nI 4) dX8_feed_94 (by decide) ?_
              first | refine w_iremN (by omega) (by omega) (by omega) dX8_feed_95 ?_ | refine w_irem dX8_feed_95 (by decide) ?_
              first | refine w_imulN dX8_feed_96 ?_ | refine w_imul dX8_feed_96 ?_
              refine w_isubN (by omega) dX8_feed_97 ?_
              refine w_iushr dX8_feed_98 ?_
              refine w_sipush (v := nI 255) dX8_feed_99 (by decide) ?_
              refine w_iand dX8_feed_102 ?_
              rw [htb]
              refine w_iastore dX8_feed_103 (by first | assumption | exact gs_at | (rw [gs_ne (by omega)]; (first | assumption | exact gs_at | (rw [gs_ne (by omega)]; (first | assumption | exact gs_at | (rw [gs_ne (by omega)]; (first | assumption | exact gs_at | (rw [gs_ne (by omega)]; (first | assumption | exact gs_at))))))))) (by first | assumption | exact vp_in_nI (by omega) (by omega) | exact vp_in_nI (by assumption) (by omega)) ?_
              rw [nI_clamp (by omega)]
              rw [upd_F]
              refine w_aload_n dX8_feed_104 rfl ?_
              refine w_dup dX8_feed_105 rfl ?_
              refine w_getf dX8_feed_106 fl_X8_50 (by first | assumption | exact gs_at | (rw [gs_ne (by omega)]; (first | assumption | exact gs_at | (rw [gs_ne (by omega)]; (first | assumption | exact gs_at | (rw [gs_ne (by omega)]; (first | assumption | exact gs_at | (rw [gs_ne (by omega)]; (first | assumption | exact gs_at))))))))) rfl ?_
              refine w_iconst (v := nI 1) dX8_feed_109 (by decide) ?_
              first | refine w_iaddN dX8_feed_110 ?_ | refine w_iadd dX8_feed_110 ?_
              refine w_putf dX8_feed_111 fl_X8_50 (by first | assumption | exact gs_at | (rw [gs_ne (by omega)]; (first | assumption | exact gs_at | (rw [gs_ne (by omega)]; (first | assumption | exact gs_at | (rw [gs_ne (by omega)]; (first | assumption | exact gs_at | (rw [gs_ne (by omega)]; (first | assumption | exact gs_at))))))))) (by simp) rfl rfl ?_
              first | refine w_iinc_6 dX8_feed_114 (nI_inc _) rfl ?_ | refine w_iinc_6 dX8_feed_114 rfl rfl ?_
              refine w_goto (tgt := 23) dX8_feed_117 (by decide) ?_
              have hN := ih (i + 1) (.int (selI a b c d e i)) (by omega) (by omega)
              rw [fdN, ← Nat.add_assoc] at hN
              rw [gs_comm (a := V) (b := V + 5) (by omega), gs_gs, gs_gs]
              first
                | (rw [show selI a b c d e i = a from by unfold selI; (repeat' split) <;> first | rfl | omega] at hN; exact hN)
                | (rw [show selI a b c d e i = b from by unfold selI; (repeat' split) <;> first | rfl | omega] at hN; exact hN)
                | (rw [show selI a b c d e i = c from by unfold selI; (repeat' split) <;> first | rfl | omega] at hN; exact hN)
                | (rw [show selI a b c d e i = d from by unfold selI; (repeat' split) <;> first | rfl | omega] at hN; exact hN)
                | (rw [show selI a b c d e i = e from by unfold selI; (repeat' split) <;> first | rfl | omega] at hN; exact hN)
          · try simp (disch := omega) only [nI_b2, Decidable.not_not, nI_ltI, nI_leI, nI_eq, ge_iff_le, gt_iff_lt, ne_eq, Nat.not_lt, Nat.not_le] at c_55
            refine w_iload_n dX8_feed_58 rfl ?_
            refine w_goto (tgt := 76) dX8_feed_59 (by decide) ?_
            refine w_istore_7 dX8_feed_76 rfl ?_
            refine w_aload_n dX8_feed_78 rfl ?_
            refine w_getf dX8_feed_79 fl_X8_22 (by first | assumption | exact gs_at | (rw [gs_ne (by omega)]; (first | assumption | exact gs_at | (rw [gs_ne (by omega)]; (first | assumption | exact gs_at | (rw [gs_ne (by omega)]; (first | assumption | exact gs_at | (rw [gs_ne (by omega)]; (first | assumption | exact gs_at))))))))) rfl ?_
            refine w_aload_n dX8_feed_82 rfl ?_
            refine w_getf dX8_feed_83 fl_X8_50 (by first | assumption | exact gs_at | (rw [gs_ne (by omega)]; (first | assumption | exact gs_at | (rw [gs_ne (by omega)]; (first | assumption | exact gs_at | (rw [gs_ne (by omega)]; (first | assumption | exact gs_at | (rw [gs_ne (by omega)]; (first | assumption | exact gs_at))))))))) rfl ?_
            refine w_iload dX8_feed_86 rfl ?_
            refine w_bipush (v := nI 24) dX8_feed_88 (by decide) ?_
            refine w_bipush (v := nI 8) dX8_feed_90 (by decide) ?_
            refine w_iload dX8_feed_92 rfl ?_
            refine w_iconst (v := nI 4) dX8_feed_94 (by decide) ?_
            first | refine w_iremN (by omega) (by omega) (by omega) dX8_feed_95 ?_ | refine w_irem dX8_feed_95 (by decide) ?_
            first | refine w_imulN dX8_feed_96 ?_ | refine w_imul dX8_feed_96 ?_
            refine w_isubN (by omega) dX8_feed_97 ?_
            refine w_iushr dX8_feed_98 ?_
            refine w_sipush (v := nI 255) dX8_feed_99 (by decide) ?_
            refine w_iand dX8_feed_102 ?_
            rw [htb]
            refine w_iastore dX8_feed_103 (by first | assumption | exact gs_at | (rw [gs_ne (by omega)]; (first | assumption | exact gs_at | (rw [gs_ne (by omega)]; (first | assumption | exact gs_at | (rw [gs_ne (by omega)]; (first | assumption | exact gs_at | (rw [gs_ne (by omega)]; (first | assumption | exact gs_at))))))))) (by first | assumption | exact vp_in_nI (by omega) (by omega) | exact vp_in_nI (by assumption) (by omega)) ?_
            rw [nI_clamp (by omega)]
            rw [upd_F]
            refine w_aload_n dX8_feed_104 rfl ?_
            refine w_dup dX8_feed_105 rfl ?_
            refine w_getf dX8_feed_106 fl_X8_50 (by first | assumption | exact gs_at | (rw [gs_ne (by omega)]; (first | assumption | exact gs_at | (rw [gs_ne (by omega)]; (first | assumption | exact gs_at | (rw [gs_ne (by omega)]; (first | assumption | exact gs_at | (rw [gs_ne (by omega)]; (first | assumption | exact gs_at))))))))) rfl ?_
            refine w_iconst (v := nI 1) dX8_feed_109 (by decide) ?_
            first | refine w_iaddN dX8_feed_110 ?_ | refine w_iadd dX8_feed_110 ?_
            refine w_putf dX8_feed_111 fl_X8_50 (by first | assumption | exact gs_at | (rw [gs_ne (by omega)]; (first | assumption | exact gs_at | (rw [gs_ne (by omega)]; (first | assumption | exact gs_at | (rw [gs_ne (by omega)]; (first | assumption | exact gs_at | (rw [gs_ne (by omega)]; (first | assumption | exact gs_at))))))))) (by simp) rfl rfl ?_
            first | refine w_iinc_6 dX8_feed_114 (nI_inc _) rfl ?_ | refine w_iinc_6 dX8_feed_114 rfl rfl ?_
            refine w_goto (tgt := 23) dX8_feed_117 (by decide) ?_
            have hN := ih (i + 1) (.int (selI a b c d e i)) (by omega) (by omega)
            rw [fdN, ← Nat.add_assoc] at hN
            rw [gs_comm (a := V) (b := V + 5) (by omega), gs_gs, gs_gs]
            first
              | (rw [show selI a b c d e i = a from by unfold selI; (repeat' split) <;> first | rfl | omega] at hN; exact hN)
              | (rw [show selI a b c d e i = b from by unfold selI; (repeat' split) <;> first | rfl | omega] at hN; exact hN)
              | (rw [show selI a b c d e i = c from by unfold selI; (repeat' split) <;> first | rfl | omega] at hN; exact hN)
              | (rw [show selI a b c d e i = d from by unfold selI; (repeat' split) <;> first | rfl | omega] at hN; exact hN)
              | (rw [show selI a b c d e i = e from by unfold selI; (repeat' split) <;> first | rfl | omega] at hN; exact hN)
        · try simp (disch := omega) only [nI_b2, Decidable.not_not, nI_ltI, nI_leI, nI_eq, ge_iff_le, gt_iff_lt, ne_eq, Nat.not_lt, Nat.not_le] at c_44
          refine w_iload_n dX8_feed_47 rfl ?_
          refine w_goto (tgt := 76) dX8_feed_48 (by decide) ?_
          refine w_istore_7 dX8_feed_76 rfl ?_
          refine w_aload_n dX8_feed_78 rfl ?_
          refine w_getf dX8_feed_79 fl_X8_22 (by first | assumption | exact gs_at | (rw [gs_ne (by omega)]; (first | assumption | exact gs_at | (rw [gs_ne (by omega)]; (first | assumption | exact gs_at | (rw [gs_ne (by omega)]; (first | assumption | exact gs_at | (rw [gs_ne (by omega)]; (first | assumption | exact gs_at))))))))) rfl ?_
          refine w_aload_n dX8_feed_82 rfl ?_
          refine w_getf dX8_feed_83 fl_X8_50 (by first | assumption | exact gs_at | (rw [gs_ne (by omega)]; (first | assumption | exact gs_at | (rw [gs_ne (by omega)]; (first | assumption | exact gs_at | (rw [gs_ne (by omega)]; (first | assumption | exact gs_at | (rw [gs_ne (by omega)]; (first | assumption | exact gs_at))))))))) rfl ?_
          refine w_iload dX8_feed_86 rfl ?_
          refine w_bipush (v := nI 24) dX8_feed_88 (by decide) ?_
          refine w_bipush (v := nI 8) dX8_feed_90 (by decide) ?_
          refine w_iload dX8_feed_92 rfl ?_
          refine w_iconst (v := nI 4) dX8_feed_94 (by decide) ?_
          first | refine w_iremN (by omega) (by omega) (by omega) dX8_feed_95 ?_ | refine w_irem dX8_feed_95 (by decide) ?_
          first | refine w_imulN dX8_feed_96 ?_ | refine w_imul dX8_feed_96 ?_
          refine w_isubN (by omega) dX8_feed_97 ?_
          refine w_iushr dX8_feed_98 ?_
          refine w_sipush (v := nI 255) dX8_feed_99 (by decide) ?_
          refine w_iand dX8_feed_102 ?_
          rw [htb]
          refine w_iastore dX8_feed_103 (by first | assumption | exact gs_at | (rw [gs_ne (by omega)]; (first | assumption | exact gs_at | (rw [gs_ne (by omega)]; (first | assumption | exact gs_at | (rw [gs_ne (by omega)]; (first | assumption | exact gs_at | (rw [gs_ne (by omega)]; (first | assumption | exact gs_at))))))))) (by first | assumption | exact vp_in_nI (by omega) (by omega) | exact vp_in_nI (by assumption) (by omega)) ?_
          rw [nI_clamp (by omega)]
          rw [upd_F]
          refine w_aload_n dX8_feed_104 rfl ?_
          refine w_dup dX8_feed_105 rfl ?_
          refine w_getf dX8_feed_106 fl_X8_50 (by first | assumption | exact gs_at | (rw [gs_ne (by omega)]; (first | assumption | exact gs_at | (rw [gs_ne (by omega)]; (first | assumption | exact gs_at | (rw [gs_ne (by omega)]; (first | assumption | exact gs_at | (rw [gs_ne (by omega)]; (first | assumption | exact gs_at))))))))) rfl ?_
          refine w_iconst (v := nI 1) dX8_feed_109 (by decide) ?_
          first | refine w_iaddN dX8_feed_110 ?_ | refine w_iadd dX8_feed_110 ?_
          refine w_putf dX8_feed_111 fl_X8_50 (by first | assumption | exact gs_at | (rw [gs_ne (by omega)]; (first | assumption | exact gs_at | (rw [gs_ne (by omega)]; (first | assumption | exact gs_at | (rw [gs_ne (by omega)]; (first | assumption | exact gs_at | (rw [gs_ne (by omega)]; (first | assumption | exact gs_at))))))))) (by simp) rfl rfl ?_
          first | refine w_iinc_6 dX8_feed_114 (nI_inc _) rfl ?_ | refine w_iinc_6 dX8_feed_114 rfl rfl ?_
          refine w_goto (tgt := 23) dX8_feed_117 (by decide) ?_
          have hN := ih (i + 1) (.int (selI a b c d e i)) (by omega) (by omega)
          rw [fdN, ← Nat.add_assoc] at hN
          rw [gs_comm (a := V) (b := V + 5) (by omega), gs_gs, gs_gs]
          first
            | (rw [show selI a b c d e i = a from by unfold selI; (repeat' split) <;> first | rfl | omega] at hN; exact hN)
            | (rw [show selI a b c d e i = b from by unfold selI; (repeat' split) <;> first | rfl | omega] at hN; exact hN)
            | (rw [show selI a b c d e i = c from by unfold selI; (repeat' split) <;> first | rfl | omega] at hN; exact hN)
            | (rw [show selI a b c d e i = d from by unfold selI; (repeat' split) <;> first | rfl | omega] at hN; exact hN)
            | (rw [show selI a b c d e i = e from by unfold selI; (repeat' split) <;> first | rfl | omega] at hN; exact hN)
      · try simp (disch := omega) only [nI_b2, Decidable.not_not, nI_ltI, nI_leI, nI_eq, ge_iff_le, gt_iff_lt, ne_eq, Nat.not_lt, Nat.not_le] at c_33
        refine w_iload_n dX8_feed_36 rfl ?_
        refine w_goto (tgt := 76) dX8_feed_37 (by decide) ?_
        refine w_istore_7 dX8_feed_76 rfl ?_
        refine w_aload_n dX8_feed_78 rfl ?_
        refine w_getf dX8_feed_79 fl_X8_22 (by first | assumption | exact gs_at | (rw [gs_ne (by omega)]; (first | assumption | exact gs_at | (rw [gs_ne (by omega)]; (first | assumption | exact gs_at | (rw [gs_ne (by omega)]; (first | assumption | exact gs_at | (rw [gs_ne (by omega)]; (first | assumption | exact gs_at))))))))) rfl ?_
        refine w_aload_n dX8_feed_82 rfl ?_
        refine w_getf dX8_feed_83 fl_X8_50 (by first | assumption | exact gs_at | (rw [gs_ne (by omega)]; (first | assumption | exact gs_at | (rw [gs_ne (by omega)]; (first | assumption | exact gs_at | (rw [gs_ne (by omega)]; (first | assumption | exact gs_at | (rw [gs_ne (by omega)]; (first | assumption | exact gs_at))))))))) rfl ?_
        refine w_iload dX8_feed_86 rfl ?_
        refine w_bipush (v := nI 24) dX8_feed_88 (by decide) ?_
        refine w_bipush (v := nI 8) dX8_feed_90 (by decide) ?_
        refine w_iload dX8_feed_92 rfl ?_
        refine w_iconst (v := nI 4) dX8_feed_94 (by decide) ?_
        first | refine w_iremN (by omega) (by omega) (by omega) dX8_feed_95 ?_ | refine w_irem dX8_feed_95 (by decide) ?_
        first | refine w_imulN dX8_feed_96 ?_ | refine w_imul dX8_feed_96 ?_
        refine w_isubN (by omega) dX8_feed_97 ?_
        refine w_iushr dX8_feed_98 ?_
        refine w_sipush (v := nI 255) dX8_feed_99 (by decide) ?_
        refine w_iand dX8_feed_102 ?_
        rw [htb]
        refine w_iastore dX8_feed_103 (by first | assumption | exact gs_at | (rw [gs_ne (by omega)]; (first | assumption | exact gs_at | (rw [gs_ne (by omega)]; (first | assumption | exact gs_at | (rw [gs_ne (by omega)]; (first | assumption | exact gs_at | (rw [gs_ne (by omega)]; (first | assumption | exact gs_at))))))))) (by first | assumption | exact vp_in_nI (by omega) (by omega) | exact vp_in_nI (by assumption) (by omega)) ?_
        rw [nI_clamp (by omega)]
        rw [upd_F]
        refine w_aload_n dX8_feed_104 rfl ?_
        refine w_dup dX8_feed_105 rfl ?_
        refine w_getf dX8_feed_106 fl_X8_50 (by first | assumption | exact gs_at | (rw [gs_ne (by omega)]; (first | assumption | exact gs_at | (rw [gs_ne (by omega)]; (first | assumption | exact gs_at | (rw [gs_ne (by omega)]; (first | assumption | exact gs_at | (rw [gs_ne (by omega)]; (first | assumption | exact gs_at))))))))) rfl ?_
        refine w_iconst (v := nI 1) dX8_feed_109 (by decide) ?_
        first | refine w_iaddN dX8_feed_110 ?_ | refine w_iadd dX8_feed_110 ?_
        refine w_putf dX8_feed_111 fl_X8_50 (by first | assumption | exact gs_at | (rw [gs_ne (by omega)]; (first | assumption | exact gs_at | (rw [gs_ne (by omega)]; (first | assumption | exact gs_at | (rw [gs_ne (by omega)]; (first | assumption | exact gs_at | (rw [gs_ne (by omega)]; (first | assumption | exact gs_at))))))))) (by simp) rfl rfl ?_
        first | refine w_iinc_6 dX8_feed_114 (nI_inc _) rfl ?_ | refine w_iinc_6 dX8_feed_114 rfl rfl ?_
        refine w_goto (tgt := 23) dX8_feed_117 (by decide) ?_
        have hN := ih (i + 1) (.int (selI a b c d e i)) (by omega) (by omega)
        rw [fdN, ← Nat.add_assoc] at hN
        rw [gs_comm (a := V) (b := V + 5) (by omega), gs_gs, gs_gs]
        first
          | (rw [show selI a b c d e i = a from by unfold selI; (repeat' split) <;> first | rfl | omega] at hN; exact hN)
          | (rw [show selI a b c d e i = b from by unfold selI; (repeat' split) <;> first | rfl | omega] at hN; exact hN)
          | (rw [show selI a b c d e i = c from by unfold selI; (repeat' split) <;> first | rfl | omega] at hN; exact hN)
          | (rw [show selI a b c d e i = d from by unfold selI; (repeat' split) <;> first | rfl | omega] at hN; exact hN)
          | (rw [show selI a b c d e i = e from by unfold selI; (repeat' split) <;> first | rfl | omega] at hN; exact hN)
theorem m_feed {E : EV} {V tn : Nat} {th hi ac ba en at_ fa dp io hm_ we sh so : Int32} {G : AH} {f : Nat → Nat} {a b c d e : Int32} (hV : G.1 V = some (mO V th hi ac (nI tn) ba en at_ fa dp io hm_ we sh so)) (hT5 : G.1 (V + 5) = some (aI 400 (fun i => nI (f i)))) (htn : tn ≤ 400) : Ci E 1 kX8_feed [.ref V, .int a, .int b, .int c, .int d, .int e] G (fun r G1 => (380 < tn ∧ r = -1 ∧ G1 = gs G V (mO V (nI 0) hi ac (nI (tn)) ba en at_ fa dp io hm_ we sh so)) ∨ (tn ≤ 380 ∧ r = nI (tn + 20) ∧ G1 = gs (gs G (V + 5) (aI 400 (fun j => nI (feedF f tn a b c d e j)))) V (mO V (nI 0) hi ac (nI (tn + 20)) ba en at_ fa dp io hm_ we sh so))) := by
  refine Ct.intro rfl (by decide) [.ref V, .int a, .int b, .int c, .int d, .int e, .float 0, .float 0] (by simp [Value.category]) (Nat.le_of_ble_eq_true rfl) rfl ?_
  refine w_aload_n dX8_feed_0 rfl ?_
  refine w_iconst (v := nI 0) dX8_feed_1 (by decide) ?_
  refine w_putf dX8_feed_2 fl_X8_39 (by first | assumption | exact gs_at | (rw [gs_ne (by omega)]; (first | assumption | exact gs_at | (rw [gs_ne (by omega)]; (first | assumption | exact gs_at | (rw [gs_ne (by omega)]; (first | assumption | exact gs_at | (rw [gs_ne (by omega)]; (first | assumption | exact gs_at))))))))) (by simp) rfl rfl ?_
  refine w_aload_n dX8_feed_5 rfl ?_
  refine w_getf dX8_feed_6 fl_X8_50 (by first | assumption | exact gs_at | (rw [gs_ne (by omega)]; (first | assumption | exact gs_at | (rw [gs_ne (by omega)]; (first | assumption | exact gs_at | (rw [gs_ne (by omega)]; (first | assumption | exact gs_at | (rw [gs_ne (by omega)]; (first | assumption | exact gs_at))))))))) rfl ?_
  refine w_bipush (v := nI 20) dX8_feed_9 (by decide) ?_
  first | refine w_iaddN dX8_feed_11 ?_ | refine w_iadd dX8_feed_11 ?_
  refine w_sipush (v := nI 400) dX8_feed_12 (by decide) ?_
  refine w_icmp_le (tgt := 20) dX8_feed_15 (by decide) (fun c_15 => ?_) (fun c_15 => ?_)
  · try simp (disch := omega) only [nI_b2, Decidable.not_not, nI_ltI, nI_leI, nI_eq, ge_iff_le, gt_iff_lt, ne_eq, Nat.not_lt, Nat.not_le] at c_15
    refine w_iconst (v := nI 0) dX8_feed_20 (by decide) ?_
    refine w_istore_6 dX8_feed_21 rfl ?_
    have h := ml_feed (E := E) (Q := fun o G1 => ∃ r : Int32, o = .inl (some (.int r)) ∧ ((380 < tn ∧ r = -1 ∧ G1 = gs G V (mO V (nI 0) hi ac (nI (tn)) ba en at_ fa dp io hm_ we sh so)) ∨ (tn ≤ 380 ∧ r = nI (tn + 20) ∧ G1 = gs (gs G (V + 5) (aI 400 (fun j => nI (feedF f tn a b c d e j)))) V (mO V (nI 0) hi ac (nI (tn + 20)) ba en at_ fa dp io hm_ we sh so)))) (th := th) (hi := hi) (ac := ac) (ba := ba) (en := en) (at_ := at_) (fa := fa) (dp := dp) (io := io) (hm_ := hm_) (we := we) (sh := sh) (so := so) (G := G) (f := f) (a := a) (b := b) (c := c) (d := d) (e := e) (by omega) ⟨_, rfl, Or.inr ⟨by omega, rfl, by rw [fd_eq]⟩⟩ 21 0 (.float 0) (by omega) (by omega)
    rw [show fdN f tn a b c d e 0 = f from rfl, gs_id hT5] at h
    exact h
  · try simp (disch := omega) only [nI_b2, Decidable.not_not, nI_ltI, nI_leI, nI_eq, ge_iff_le, gt_iff_lt, ne_eq, Nat.not_lt, Nat.not_le] at c_15
    refine w_iconst (v := (-1)) dX8_feed_18 (by decide) ?_
    refine w_iret dX8_feed_19 rfl (Nat.le_of_ble_eq_true rfl) (Nat.le_of_ble_eq_true rfl) ?_
    exact ⟨_, rfl, Or.inl ⟨by omega, rfl, rfl⟩⟩
theorem m_end {E : EV} {V : Nat} {th hi ac tp ba en at_ fa dp io hm_ we sh so : Int32} {G : AH} {tn : Nat} {x : Int32} (hV : G.1 V = some (mO V th hi ac tp ba en at_ fa dp io hm_ we sh so)) (htp : tp = nI tn) : Ci E 2 kX8_end [.ref V, .int x] G (fun r G1 => r = nI (endK tn x) ∧ G1 = gs G V (mO V (nI 0) hi ac (if endK tn x = 1 then x else tp) ba en at_ fa dp io hm_ we sh so)) := by
  subst htp
  refine Ct.intro rfl (by decide) [.ref V, .int x] (by simp [Value.category]) (Nat.le_of_ble_eq_true rfl) rfl ?_
  refine w_aload_n dX8_end_0 rfl ?_
  refine w_iconst (v := nI 0) dX8_end_1 (by decide) ?_
  refine w_putf dX8_end_2 fl_X8_39 (by first | assumption | exact gs_at | (rw [gs_ne (by omega)]; (first | assumption | exact gs_at | (rw [gs_ne (by omega)]; (first | assumption | exact gs_at | (rw [gs_ne (by omega)]; (first | assumption | exact gs_at | (rw [gs_ne (by omega)]; (first | assumption | exact gs_at))))))))) (by simp) rfl rfl ?_
  refine w_iload_n dX8_end_5 rfl ?_
  refine w_iconst (v := nI 0) dX8_end_6 (by decide) ?_
  refine w_aload_n dX8_end_7 rfl ?_
  refine w_getf dX8_end_8 fl_X8_50 (by first | assumption | exact gs_at | (rw [gs_ne (by omega)]; (first | assumption | exact gs_at | (rw [gs_ne (by omega)]; (first | assumption | exact gs_at | (rw [gs_ne (by omega)]; (first | assumption | exact gs_at | (rw [gs_ne (by omega)]; (first | assumption | exact gs_at))))))))) rfl ?_
  refine wS3u dX8_end_11 lk_X8_42 rfl (m_isIn) (Nat.le_of_ble_eq_true rfl) (Nat.le_of_ble_eq_true rfl) (Nat.le_of_ble_eq_true rfl) (Nat.le_of_ble_eq_true rfl) ?_
  refine w_ifN_ne (tgt := 19) dX8_end_14 (by decide) (fun c_14 => ?_) (fun c_14 => ?_)
  · try simp only [nI_b2, Decidable.not_not, ne_eq] at c_14
    refine w_aload_n dX8_end_19 rfl ?_
    refine w_iload_n dX8_end_20 rfl ?_
    refine w_putf dX8_end_21 fl_X8_50 (by first | assumption | exact gs_at | (rw [gs_ne (by omega)]; (first | assumption | exact gs_at | (rw [gs_ne (by omega)]; (first | assumption | exact gs_at | (rw [gs_ne (by omega)]; (first | assumption | exact gs_at | (rw [gs_ne (by omega)]; (first | assumption | exact gs_at))))))))) (by simp) rfl rfl ?_
    refine w_iconst (v := nI 1) dX8_end_24 (by decide) ?_
    refine w_zret dX8_end_25 rfl rfl (Nat.le_of_ble_eq_true rfl) (Nat.le_of_ble_eq_true rfl) ?_
    first
      | (have hk : endK tn x = 1 := if_pos c_14; refine ⟨_, rfl, by rw [hk], ?_⟩; rw [hk, if_pos rfl, gs_gs]; rfl)
      | (have hk : endK tn x = 0 := if_neg c_14; refine ⟨_, rfl, by rw [hk], ?_⟩; rw [hk, if_neg (by decide)]; rfl)
  · try simp only [nI_b2, Decidable.not_not, ne_eq] at c_14
    refine w_iconst (v := nI 0) dX8_end_17 (by decide) ?_
    refine w_zret dX8_end_18 rfl rfl (Nat.le_of_ble_eq_true rfl) (Nat.le_of_ble_eq_true rfl) ?_
    first
      | (have hk : endK tn x = 1 := if_pos c_14; refine ⟨_, rfl, by rw [hk], ?_⟩; rw [hk, if_pos rfl, gs_gs]; rfl)
      | (have hk : endK tn x = 0 := if_neg c_14; refine ⟨_, rfl, by rw [hk], ?_⟩; rw [hk, if_neg (by decide)]; rfl)
theorem ml_undo {E : EV} {Q : OC → AH → Prop} {V : Nat} {th hi ac tp ba en at_ fa dp io hm_ we sh so : Int32} {G : AH} {av a4 : Nat → Int32} {r : Nat} (hV : G.1 V = some (mO V th hi ac tp ba en at_ fa dp io hm_ we sh so)) (hr : r < 12) (hac : ac = nI r) (ha4 : G.1 (V + 4) = some (aI 4200 a4)) (hQ : ∀ a : Nat → Int32, (∀ j, j < 350 → a j = a4 (350 * r + j)) → (∀ j, 350 ≤ j → a j = av j) → Q (.inl (some (.int (nI 1)))) (gs G (V + 1) (aI 750 a))) : ∀ (k i : Nat) (a : Nat → Int32), 350 - i < k → i ≤ 350 → (∀ j, j < i → a j = a4 (350 * r + j)) → (∀ j, i ≤ j → a j = av j) → Wp E 1 0 0 kX8_undo Q (gs G (V + 1) (aI 750 a)) (0, 0) 26 [.ref V, .int (nI i)] [] := by
  subst hac
  intro k
  induction k with
  | zero => intro i a h; exact absurd h (by omega)
  | succ k ih =>
    intro i a hk hi h1 h2
    refine w_iload_n dX8_undo_26 rfl ?_
    refine w_sipush (v := nI 350) dX8_undo_27 (by decide) ?_
    refine w_icmp_ge (tgt := 60) dX8_undo_30 (by decide) (fun c_30 => ?_) (fun c_30 => ?_)
    · try simp (disch := omega) only [nI_b2, Decidable.not_not, nI_ltI, nI_leI, nI_eq, ge_iff_le, gt_iff_lt, ne_eq, Nat.not_lt, Nat.not_le] at c_30
      refine w_iconst (v := nI 1) dX8_undo_60 (by decide) ?_
      refine w_zret dX8_undo_61 rfl rfl (Nat.le_of_ble_eq_true rfl) (Nat.le_of_ble_eq_true rfl) ?_
      have e : i = 350 := by omega
      subst e
      exact hQ a h1 h2
    · try simp (disch := omega) only [nI_b2, Decidable.not_not, nI_ltI, nI_leI, nI_eq, ge_iff_le, gt_iff_lt, ne_eq, Nat.not_lt, Nat.not_le] at c_30
      refine w_aload_n dX8_undo_33 rfl ?_
      refine w_getf dX8_undo_34 fl_X8_7 (by first | assumption | exact gs_at | (rw [gs_ne (by omega)]; (first | assumption | exact gs_at | (rw [gs_ne (by omega)]; (first | assumption | exact gs_at | (rw [gs_ne (by omega)]; (first | assumption | exact gs_at | (rw [gs_ne (by omega)]; (first | assumption | exact gs_at))))))))) rfl ?_
      refine w_iload_n dX8_undo_37 rfl ?_
      refine w_aload_n dX8_undo_38 rfl ?_
      refine w_getf dX8_undo_39 fl_X8_19 (by first | assumption | exact gs_at | (rw [gs_ne (by omega)]; (first | assumption | exact gs_at | (rw [gs_ne (by omega)]; (first | assumption | exact gs_at | (rw [gs_ne (by omega)]; (first | assumption | exact gs_at | (rw [gs_ne (by omega)]; (first | assumption | exact gs_at))))))))) rfl ?_
      refine w_sipush (v := nI 350) dX8_undo_42 (by decide) ?_
      refine w_aload_n dX8_undo_45 rfl ?_
      refine w_getf dX8_undo_46 fl_X8_158 (by first | assumption | exact gs_at | (rw [gs_ne (by omega)]; (first | assumption | exact gs_at | (rw [gs_ne (by omega)]; (first | assumption | exact gs_at | (rw [gs_ne (by omega)]; (first | assumption | exact gs_at | (rw [gs_ne (by omega)]; (first | assumption | exact gs_at))))))))) rfl ?_
      first | refine w_imulN dX8_undo_49 ?_ | refine w_imul dX8_undo_49 ?_
      refine w_iload_n dX8_undo_50 rfl ?_
      first | refine w_iaddN dX8_undo_51 ?_ | refine w_iadd dX8_undo_51 ?_
      refine w_iaload dX8_undo_52 (by first | assumption | exact gs_at | (rw [gs_ne (by omega)]; (first | assumption | exact gs_at | (rw [gs_ne (by omega)]; (first | assumption | exact gs_at | (rw [gs_ne (by omega)]; (first | assumption | exact gs_at | (rw [gs_ne (by omega)]; (first | assumption | exact gs_at))))))))) (by first | assumption | exact vp_in_nI (by omega) (by omega) | exact vp_in_nI (by assumption) (by omega)) ?_
      rw [nI_clamp (by omega)]
      refine w_iastore dX8_undo_53 (by first | assumption | exact gs_at | (rw [gs_ne (by omega)]; (first | assumption | exact gs_at | (rw [gs_ne (by omega)]; (first | assumption | exact gs_at | (rw [gs_ne (by omega)]; (first | assumption | exact gs_at | (rw [gs_ne (by omega)]; (first | assumption | exact gs_at))))))))) (by first | assumption | exact vp_in_nI (by omega) (by omega) | exact vp_in_nI (by assumption) (by omega)) ?_
      rw [nI_clamp (by omega)]
      rw [gs_gs]
      first | refine w_iinc_1 dX8_undo_54 (nI_inc _) rfl ?_ | refine w_iinc_1 dX8_undo_54 rfl rfl ?_
      refine w_goto (tgt := 26) dX8_undo_57 (by decide) ?_
      refine ih (i + 1) _ (by omega) (by omega) (fun j hj => ?_) (fun j hj => ?_)
      · by_cases e : j = i
        · subst e; exact upd_at
        · rw [upd_ne e]; exact h1 j (by omega)
      · rw [upd_ne (by omega)]; exact h2 j (by omega)
theorem m_undo {E : EV} {V : Nat} {th hi ac tp ba en at_ fa dp io hm_ we sh so : Int32} {mm : Nat → Int32} {T : ST} {sd : Int32} {G : AH} {av : Nat → Int32} {rm nw : Nat} {P : Nat → ST × Int32} (hV : G.1 V = some (mO V th hi ac tp ba en at_ fa dp io hm_ we sh so)) (hm : G.1 (V + 1) = some (aI 750 mm)) (hR : MoR mm T sd) (hB : Bd T) (hac : ac = nI rm) (hrm : rm ≤ 12) (hnw : nw < 12) (ha4 : G.1 (V + 4) = some (aI 4200 av)) (hA : ActR av mm rm nw P) (hPB : ∀ i, i < 12 → Bd (P i).1) : Ci E 1 kX8_undo [.ref V] G (fun r G1 => (rm = 0 ∧ r = nI 0 ∧ G1 = (gs G V (mO V (nI 0) hi ac tp ba en at_ fa dp io hm_ we sh so))) ∨ (0 < rm ∧ r = nI 1 ∧ ∃ nn, G1 = gs (gs G (V + 1) (aI 750 nn)) V (mO V (nI 0) hi (nI (rm - 1)) tp ba en at_ fa dp io hm_ we sh so) ∧ MoR nn (P nw).1 (P nw).2 ∧ Keep mm nn ∧ ActR av mm (rm - 1) ((nw + 11) % 12) P)) := by
  obtain ⟨r0, r3, r4, r5, r6, r7, r9, r11, r12, r14, r20, r26, rL⟩ := id hR
  obtain ⟨b0, b1, b2_, b3, b4, b5, b6, b7, b8, b9, b10, b11, b12, b13, b14, b15, b16, b17, b18, b19⟩ := id hB
  subst hac
  refine Ct.intro rfl (by decide) [.ref V, .float 0] (by simp [Value.category]) (Nat.le_of_ble_eq_true rfl) rfl ?_
  refine w_aload_n dX8_undo_0 rfl ?_
  refine w_iconst (v := nI 0) dX8_undo_1 (by decide) ?_
  refine w_putf dX8_undo_2 fl_X8_39 (by first | assumption | exact gs_at | (rw [gs_ne (by omega)]; (first | assumption | exact gs_at | (rw [gs_ne (by omega)]; (first | assumption | exact gs_at | (rw [gs_ne (by omega)]; (first | assumption | exact gs_at | (rw [gs_ne (by omega)]; (first | assumption | exact gs_at))))))))) (by simp) rfl rfl ?_
  refine w_aload_n dX8_undo_5 rfl ?_
  refine w_getf dX8_undo_6 fl_X8_158 (by first | assumption | exact gs_at | (rw [gs_ne (by omega)]; (first | assumption | exact gs_at | (rw [gs_ne (by omega)]; (first | assumption | exact gs_at | (rw [gs_ne (by omega)]; (first | assumption | exact gs_at | (rw [gs_ne (by omega)]; (first | assumption | exact gs_at))))))))) rfl ?_
  refine w_ifN_ne (tgt := 14) dX8_undo_9 (by decide) (fun c_9 => ?_) (fun c_9 => ?_)
  · try simp (disch := omega) only [nI_b2, Decidable.not_not, nI_ltI, nI_leI, nI_eq, ge_iff_le, gt_iff_lt, ne_eq, Nat.not_lt, Nat.not_le] at c_9
    refine w_aload_n dX8_undo_14 rfl ?_
    refine w_dup dX8_undo_15 rfl ?_
    refine w_getf dX8_undo_16 fl_X8_158 (by first | assumption | exact gs_at | (rw [gs_ne (by omega)]; (first | assumption | exact gs_at | (rw [gs_ne (by omega)]; (first | assumption | exact gs_at | (rw [gs_ne (by omega)]; (first | assumption | exact gs_at | (rw [gs_ne (by omega)]; (first | assumption | exact gs_at))))))))) rfl ?_
    refine w_iconst (v := nI 1) dX8_undo_19 (by decide) ?_
    refine w_isubN (by omega) dX8_undo_20 ?_
    refine w_putf dX8_undo_21 fl_X8_158 (by first | assumption | exact gs_at | (rw [gs_ne (by omega)]; (first | assumption | exact gs_at | (rw [gs_ne (by omega)]; (first | assumption | exact gs_at | (rw [gs_ne (by omega)]; (first | assumption | exact gs_at | (rw [gs_ne (by omega)]; (first | assumption | exact gs_at))))))))) (by simp) rfl rfl ?_
    refine w_iconst (v := nI 0) dX8_undo_24 (by decide) ?_
    refine w_istore_1 dX8_undo_25 rfl ?_
    have h0 : 0 < rm := by omega
    rw [gs_gs]
    have h := ml_undo (E := E) (V := V) (G := gs G V (mO V (nI 0) hi (nI (rm - 1)) tp ba en at_ fa dp io hm_ we sh so)) (a4 := av) (av := mm) (r := rm - 1) (Q := fun o G1 => ∃ r : Int32, o = .inl (some (.int r)) ∧ ((rm = 0 ∧ r = nI 0 ∧ G1 = gs G V (mO V (nI 0) hi (nI rm) tp ba en at_ fa dp io hm_ we sh so)) ∨ (0 < rm ∧ r = nI 1 ∧ ∃ nn, G1 = gs (gs G (V + 1) (aI 750 nn)) V (mO V (nI 0) hi (nI (rm - 1)) tp ba en at_ fa dp io hm_ we sh so) ∧ MoR nn (P nw).1 (P nw).2 ∧ Keep mm nn ∧ ActR av mm (rm - 1) ((nw + 11) % 12) P))) gs_at (by omega) rfl ((gs_ne (by omega)).trans ha4) (fun a k1 k2 => ⟨_, rfl, Or.inr ⟨h0, rfl, a, by rw [gs_comm (a := V) (b := V + 1) (by omega)], ?_, ?_, ?_⟩⟩) 351 0 mm (by omega) (by omega) (fun j hj => absurd hj (by omega)) (fun j _ => rfl)
    · rw [gs_id ((gs_ne (by omega)).trans hm)] at h; exact h
    · obtain ⟨q1, q2, q3⟩ := hA (rm - 1) (by omega)
      rw [show (nw + 13 + (rm - 1) - rm) % 12 = nw by omega] at q1
      exact q1.cg (hPB nw hnw) (fun k hk => k1 k hk)
    · obtain ⟨q1, q2, q3⟩ := hA (rm - 1) (by omega)
      exact ⟨(k1 1 (by decide)).trans q2, (k1 2 (by decide)).trans q3, k2⟩
    · intro j hj
      obtain ⟨q1, q2, q3⟩ := hA j (by omega)
      rw [show ((nw + 11) % 12 + 13 + j - (rm - 1)) % 12 = (nw + 13 + j - rm) % 12 by omega]
      exact ⟨q1, q2, q3⟩
  · try simp (disch := omega) only [nI_b2, Decidable.not_not, nI_ltI, nI_leI, nI_eq, ge_iff_le, gt_iff_lt, ne_eq, Nat.not_lt, Nat.not_le] at c_9
    refine w_iconst (v := nI 0) dX8_undo_12 (by decide) ?_
    refine w_zret dX8_undo_13 rfl rfl (Nat.le_of_ble_eq_true rfl) (Nat.le_of_ble_eq_true rfl) ?_
    exact ⟨_, rfl, Or.inl ⟨by omega, rfl, rfl⟩⟩
theorem ml_image {E : EV} {Q : OC → AH → Prop} {V : Nat} {th hi ac tp ba en at_ fa dp io hm_ we sh so : Int32} {G : AH} {mm : Nat → Int32} {av : Nat → Int32} (hV : G.1 V = some (mO V th hi ac tp ba en at_ fa dp io hm_ we sh so)) (hm : G.1 (V + 1) = some (aI 750 mm)) (hQ : ∀ a : Nat → Int32, (∀ j, j < 750 → a j = mm j) → (∀ j, 750 ≤ j → a j = av j) → Q (.inl none) (gs (gs G (V + 2) (aI 750 a)) V (mO V th (nI 1) ac tp ba en at_ fa dp io hm_ we sh so))) : ∀ (k i : Nat) (a : Nat → Int32), 750 - i < k → i ≤ 750 → (∀ j, j < i → a j = mm j) → (∀ j, i ≤ j → a j = av j) → Wp E 1 0 0 kX8_image Q (gs G (V + 2) (aI 750 a)) (0, 0) 7 [.ref V, .int (nI i)] [] := by
  intro k
  induction k with
  | zero => intro i a h; exact absurd h (by omega)
  | succ k ih =>
    intro i a hk hi h1 h2
    refine w_iload_n dX8_image_7 rfl ?_
    refine w_sipush (v := nI 750) dX8_image_8 (by decide) ?_
    refine w_icmp_ge (tgt := 32) dX8_image_11 (by decide) (fun c_11 => ?_) (fun c_11 => ?_)
    · try simp (disch := omega) only [nI_b2, Decidable.not_not, nI_ltI, nI_leI, nI_eq, ge_iff_le, gt_iff_lt, ne_eq, Nat.not_lt, Nat.not_le] at c_11
      refine w_aload_n dX8_image_32 rfl ?_
      refine w_iconst (v := nI 1) dX8_image_33 (by decide) ?_
      refine w_putf dX8_image_34 fl_X8_337 (by first | assumption | exact gs_at | (rw [gs_ne (by omega)]; (first | assumption | exact gs_at | (rw [gs_ne (by omega)]; (first | assumption | exact gs_at | (rw [gs_ne (by omega)]; (first | assumption | exact gs_at | (rw [gs_ne (by omega)]; (first | assumption | exact gs_at))))))))) (by simp) rfl rfl ?_
      refine w_vret dX8_image_37 rfl (Nat.le_of_ble_eq_true rfl) (Nat.le_of_ble_eq_true rfl) ?_
      have e : i = 750 := by omega
      subst e
      exact hQ a h1 h2
    · try simp (disch := omega) only [nI_b2, Decidable.not_not, nI_ltI, nI_leI, nI_eq, ge_iff_le, gt_iff_lt, ne_eq, Nat.not_lt, Nat.not_le] at c_11
      refine w_aload_n dX8_image_14 rfl ?_
      refine w_getf dX8_image_15 fl_X8_13 (by first | assumption | exact gs_at | (rw [gs_ne (by omega)]; (first | assumption | exact gs_at | (rw [gs_ne (by omega)]; (first | assumption | exact gs_at | (rw [gs_ne (by omega)]; (first | assumption | exact gs_at | (rw [gs_ne (by omega)]; (first | assumption | exact gs_at))))))))) rfl ?_
      refine w_iload_n dX8_image_18 rfl ?_
      refine w_aload_n dX8_image_19 rfl ?_
      refine w_getf dX8_image_20 fl_X8_7 (by first | assumption | exact gs_at | (rw [gs_ne (by omega)]; (first | assumption | exact gs_at | (rw [gs_ne (by omega)]; (first | assumption | exact gs_at | (rw [gs_ne (by omega)]; (first | assumption | exact gs_at | (rw [gs_ne (by omega)]; (first | assumption | exact gs_at))))))))) rfl ?_
      refine w_iload_n dX8_image_23 rfl ?_
      refine w_iaload dX8_image_24 (by first | assumption | exact gs_at | (rw [gs_ne (by omega)]; (first | assumption | exact gs_at | (rw [gs_ne (by omega)]; (first | assumption | exact gs_at | (rw [gs_ne (by omega)]; (first | assumption | exact gs_at | (rw [gs_ne (by omega)]; (first | assumption | exact gs_at))))))))) (by first | assumption | exact vp_in_nI (by omega) (by omega) | exact vp_in_nI (by assumption) (by omega)) ?_
      rw [nI_clamp (by omega)]
      refine w_iastore dX8_image_25 (by first | assumption | exact gs_at | (rw [gs_ne (by omega)]; (first | assumption | exact gs_at | (rw [gs_ne (by omega)]; (first | assumption | exact gs_at | (rw [gs_ne (by omega)]; (first | assumption | exact gs_at | (rw [gs_ne (by omega)]; (first | assumption | exact gs_at))))))))) (by first | assumption | exact vp_in_nI (by omega) (by omega) | exact vp_in_nI (by assumption) (by omega)) ?_
      rw [nI_clamp (by omega)]
      rw [gs_gs]
      first | refine w_iinc_1 dX8_image_26 (nI_inc _) rfl ?_ | refine w_iinc_1 dX8_image_26 rfl rfl ?_
      refine w_goto (tgt := 7) dX8_image_29 (by decide) ?_
      refine ih (i + 1) _ (by omega) (by omega) (fun j hj => ?_) (fun j hj => ?_)
      · by_cases e : j = i
        · subst e; exact upd_at
        · rw [upd_ne e]; exact h1 j (by omega)
      · rw [upd_ne (by omega)]; exact h2 j (by omega)
theorem m_image {E : EV} {V : Nat} {th hi ac tp ba en at_ fa dp io hm_ we sh so : Int32} {G : AH} {mm : Nat → Int32} (hV : G.1 V = some (mO V th hi ac tp ba en at_ fa dp io hm_ we sh so)) (hm : G.1 (V + 1) = some (aI 750 mm)) (ha : ∃ a : Nat → Int32, G.1 (V + 2) = some (aI 750 a)) : Cd E 1 kX8_image [.ref V] G (fun G1 => ∃ a : Nat → Int32, G1 = gs (gs G (V + 2) (aI 750 a)) V (mO V (nI 0) (nI 1) ac tp ba en at_ fa dp io hm_ we sh so) ∧ ∀ j, j < 750 → a j = mm j) := by
  obtain ⟨a0, ha⟩ := ha
  refine Ct.intro rfl (by decide) [.ref V, .float 0] (by simp [Value.category]) (Nat.le_of_ble_eq_true rfl) rfl ?_
  refine w_aload_n dX8_image_0 rfl ?_
  refine w_iconst (v := nI 0) dX8_image_1 (by decide) ?_
  refine w_putf dX8_image_2 fl_X8_39 (by first | assumption | exact gs_at | (rw [gs_ne (by omega)]; (first | assumption | exact gs_at | (rw [gs_ne (by omega)]; (first | assumption | exact gs_at | (rw [gs_ne (by omega)]; (first | assumption | exact gs_at | (rw [gs_ne (by omega)]; (first | assumption | exact gs_at))))))))) (by simp) rfl rfl ?_
  refine w_iconst (v := nI 0) dX8_image_5 (by decide) ?_
  refine w_istore_1 dX8_image_6 rfl ?_
  have h := ml_image (E := E) (V := V) (G := gs G V (mO V (nI 0) hi ac tp ba en at_ fa dp io hm_ we sh so)) (mm := mm) (Q := fun o G1 => o = .inl none ∧ ∃ a : Nat → Int32, G1 = gs (gs G (V + 2) (aI 750 a)) V (mO V (nI 0) (nI 1) ac tp ba en at_ fa dp io hm_ we sh so) ∧ ∀ j, j < 750 → a j = mm j) gs_at ((gs_ne (by omega)).trans hm) (av := a0) (fun a h1 h2 => ⟨rfl, a, by rw [gs_comm (a := V) (b := V + 2) (by omega), gs_gs], h1⟩) 751 0 a0 (by omega) (by omega) (fun j hj => absurd hj (by omega)) (fun j _ => rfl)
  rw [gs_id ((gs_ne (by omega)).trans ha)] at h
  exact h
theorem ml_back {E : EV} {Q : OC → AH → Prop} {V : Nat} {th hi ac tp ba en at_ fa dp io hm_ we sh so : Int32} {G : AH} {mm : Nat → Int32} {av : Nat → Int32} (hV : G.1 V = some (mO V th hi ac tp ba en at_ fa dp io hm_ we sh so)) (ha : G.1 (V + 2) = some (aI 750 mm)) (hQ : ∀ a : Nat → Int32, (∀ j, j < 750 → a j = mm j) → (∀ j, 750 ≤ j → a j = av j) → Q (.inl (some (.int (nI 1)))) (gs (gs G (V + 1) (aI 750 a)) V (mO V th hi (nI 0) tp ba en at_ fa dp io hm_ we sh so))) : ∀ (k i : Nat) (a : Nat → Int32), 750 - i < k → i ≤ 750 → (∀ j, j < i → a j = mm j) → (∀ j, i ≤ j → a j = av j) → Wp E 1 0 0 kX8_back Q (gs G (V + 1) (aI 750 a)) (0, 0) 16 [.ref V, .int (nI i)] [] := by
  intro k
  induction k with
  | zero => intro i a h; exact absurd h (by omega)
  | succ k ih =>
    intro i a hk hi h1 h2
    refine w_iload_n dX8_back_16 rfl ?_
    refine w_sipush (v := nI 750) dX8_back_17 (by decide) ?_
    refine w_icmp_ge (tgt := 41) dX8_back_20 (by decide) (fun c_20 => ?_) (fun c_20 => ?_)
    · try simp (disch := omega) only [nI_b2, Decidable.not_not, nI_ltI, nI_leI, nI_eq, ge_iff_le, gt_iff_lt, ne_eq, Nat.not_lt, Nat.not_le] at c_20
      refine w_aload_n dX8_back_41 rfl ?_
      refine w_iconst (v := nI 0) dX8_back_42 (by decide) ?_
      refine w_putf dX8_back_43 fl_X8_158 (by first | assumption | exact gs_at | (rw [gs_ne (by omega)]; (first | assumption | exact gs_at | (rw [gs_ne (by omega)]; (first | assumption | exact gs_at | (rw [gs_ne (by omega)]; (first | assumption | exact gs_at | (rw [gs_ne (by omega)]; (first | assumption | exact gs_at))))))))) (by simp) rfl rfl ?_
      refine w_iconst (v := nI 1) dX8_back_46 (by decide) ?_
      refine w_zret dX8_back_47 rfl rfl (Nat.le_of_ble_eq_true rfl) (Nat.le_of_ble_eq_true rfl) ?_
      have e : i = 750 := by omega
      subst e
      exact hQ a h1 h2
    · try simp (disch := omega) only [nI_b2, Decidable.not_not, nI_ltI, nI_leI, nI_eq, ge_iff_le, gt_iff_lt, ne_eq, Nat.not_lt, Nat.not_le] at c_20
      refine w_aload_n dX8_back_23 rfl ?_
      refine w_getf dX8_back_24 fl_X8_7 (by first | assumption | exact gs_at | (rw [gs_ne (by omega)]; (first | assumption | exact gs_at | (rw [gs_ne (by omega)]; (first | assumption | exact gs_at | (rw [gs_ne (by omega)]; (first | assumption | exact gs_at | (rw [gs_ne (by omega)]; (first | assumption | exact gs_at))))))))) rfl ?_
      refine w_iload_n dX8_back_27 rfl ?_
      refine w_aload_n dX8_back_28 rfl ?_
      refine w_getf dX8_back_29 fl_X8_13 (by first | assumption | exact gs_at | (rw [gs_ne (by omega)]; (first | assumption | exact gs_at | (rw [gs_ne (by omega)]; (first | assumption | exact gs_at | (rw [gs_ne (by omega)]; (first | assumption | exact gs_at | (rw [gs_ne (by omega)]; (first | assumption | exact gs_at))))))))) rfl ?_
      refine w_iload_n dX8_back_32 rfl ?_
      refine w_iaload dX8_back_33 (by first | assumption | exact gs_at | (rw [gs_ne (by omega)]; (first | assumption | exact gs_at | (rw [gs_ne (by omega)]; (first | assumption | exact gs_at | (rw [gs_ne (by omega)]; (first | assumption | exact gs_at | (rw [gs_ne (by omega)]; (first | assumption | exact gs_at))))))))) (by first | assumption | exact vp_in_nI (by omega) (by omega) | exact vp_in_nI (by assumption) (by omega)) ?_
      rw [nI_clamp (by omega)]
      refine w_iastore dX8_back_34 (by first | assumption | exact gs_at | (rw [gs_ne (by omega)]; (first | assumption | exact gs_at | (rw [gs_ne (by omega)]; (first | assumption | exact gs_at | (rw [gs_ne (by omega)]; (first | assumption | exact gs_at | (rw [gs_ne (by omega)]; (first | assumption | exact gs_at))))))))) (by first | assumption | exact vp_in_nI (by omega) (by omega) | exact vp_in_nI (by assumption) (by omega)) ?_
      rw [nI_clamp (by omega)]
      rw [gs_gs]
      first | refine w_iinc_1 dX8_back_35 (nI_inc _) rfl ?_ | refine w_iinc_1 dX8_back_35 rfl rfl ?_
      refine w_goto (tgt := 16) dX8_back_38 (by decide) ?_
      refine ih (i + 1) _ (by omega) (by omega) (fun j hj => ?_) (fun j hj => ?_)
      · by_cases e : j = i
        · subst e; exact upd_at
        · rw [upd_ne e]; exact h1 j (by omega)
      · rw [upd_ne (by omega)]; exact h2 j (by omega)
theorem m_back {E : EV} {V : Nat} {th hi ac tp ba en at_ fa dp io hm_ we sh so : Int32} {G : AH} {mm : Nat → Int32} {kk : Nat → Int32} {im : Nat} (hV : G.1 V = some (mO V th hi ac tp ba en at_ fa dp io hm_ we sh so)) (him : im ≤ 1) (hhi : hi = nI im) (hm : G.1 (V + 1) = some (aI 750 mm)) (ha : G.1 (V + 2) = some (aI 750 kk)) : Ci E 1 kX8_back [.ref V] G (fun r G1 => (im = 0 ∧ r = nI 0 ∧ G1 = (gs G V (mO V (nI 0) hi ac tp ba en at_ fa dp io hm_ we sh so))) ∨ (im = 1 ∧ r = nI 1 ∧ ∃ a : Nat → Int32, G1 = gs (gs G (V + 1) (aI 750 a)) V (mO V (nI 0) hi (nI 0) tp ba en at_ fa dp io hm_ we sh so) ∧ ∀ j, j < 750 → a j = kk j)) := by
  subst hhi
  refine Ct.intro rfl (by decide) [.ref V, .float 0] (by simp [Value.category]) (Nat.le_of_ble_eq_true rfl) rfl ?_
  refine w_aload_n dX8_back_0 rfl ?_
  refine w_iconst (v := nI 0) dX8_back_1 (by decide) ?_
  refine w_putf dX8_back_2 fl_X8_39 (by first | assumption | exact gs_at | (rw [gs_ne (by omega)]; (first | assumption | exact gs_at | (rw [gs_ne (by omega)]; (first | assumption | exact gs_at | (rw [gs_ne (by omega)]; (first | assumption | exact gs_at | (rw [gs_ne (by omega)]; (first | assumption | exact gs_at))))))))) (by simp) rfl rfl ?_
  refine w_aload_n dX8_back_5 rfl ?_
  refine w_getf dX8_back_6 fl_X8_337 (by first | assumption | exact gs_at | (rw [gs_ne (by omega)]; (first | assumption | exact gs_at | (rw [gs_ne (by omega)]; (first | assumption | exact gs_at | (rw [gs_ne (by omega)]; (first | assumption | exact gs_at | (rw [gs_ne (by omega)]; (first | assumption | exact gs_at))))))))) rfl ?_
  refine w_ifN_ne (tgt := 14) dX8_back_9 (by decide) (fun c_9 => ?_) (fun c_9 => ?_)
  · try simp (disch := omega) only [nI_b2, Decidable.not_not, nI_ltI, nI_leI, nI_eq, ge_iff_le, gt_iff_lt, ne_eq, Nat.not_lt, Nat.not_le] at c_9
    refine w_iconst (v := nI 0) dX8_back_14 (by decide) ?_
    refine w_istore_1 dX8_back_15 rfl ?_
    have h1i : im = 1 := by omega
    have h := ml_back (E := E) (V := V) (G := gs G V (mO V (nI 0) (nI im) ac tp ba en at_ fa dp io hm_ we sh so)) (mm := kk) (av := mm) (Q := fun o G1 => ∃ r : Int32, o = .inl (some (.int r)) ∧ ((im = 0 ∧ r = nI 0 ∧ G1 = gs G V (mO V (nI 0) (nI im) ac tp ba en at_ fa dp io hm_ we sh so)) ∨ (im = 1 ∧ r = nI 1 ∧ ∃ a : Nat → Int32, G1 = gs (gs G (V + 1) (aI 750 a)) V (mO V (nI 0) (nI im) (nI 0) tp ba en at_ fa dp io hm_ we sh so) ∧ ∀ j, j < 750 → a j = kk j))) gs_at ((gs_ne (by omega)).trans ha) (fun a k1 k2 => ⟨_, rfl, Or.inr ⟨h1i, rfl, a, by rw [gs_comm (a := V) (b := V + 1) (by omega), gs_gs], k1⟩⟩) 751 0 mm (by omega) (by omega) (fun j hj => absurd hj (by omega)) (fun j _ => rfl)
    rw [gs_id ((gs_ne (by omega)).trans hm)] at h
    exact h
  · try simp (disch := omega) only [nI_b2, Decidable.not_not, nI_ltI, nI_leI, nI_eq, ge_iff_le, gt_iff_lt, ne_eq, Nat.not_lt, Nat.not_le] at c_9
    refine w_iconst (v := nI 0) dX8_back_12 (by decide) ?_
    refine w_zret dX8_back_13 rfl rfl (Nat.le_of_ble_eq_true rfl) (Nat.le_of_ble_eq_true rfl) ?_
    exact ⟨_, rfl, Or.inl ⟨by omega, rfl, rfl⟩⟩
