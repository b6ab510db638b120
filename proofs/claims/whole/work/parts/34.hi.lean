/-! the tape -/
def tbI (x : Int32) (sh : Nat) : Int32 := (x.toUInt32 >>> ((nI sh).toUInt32 &&& Int32.toUInt32 31)).toInt32 &&& nI 255
theorem lp_tape {E : EV} {Q : OC → AH → Prop} {B tn ru sp im nw rm sh : Nat} {wb x z : Int32} {f : Nat → Int32} {G : AH} (hB : G.1 B = some (hO B tn wb ru sp im nw rm)) (hT : G.1 (B + 1) = some (aI 400 f)) (ht : tn < 400) (hsh : ¬ nI sh < nI 0) (hz : nI sh + (-8) = z) (kk : Wp E 2 0 0 kX7_tapeNumber Q (gs (gs G (B + 1) (aI 400 (upd f tn (tbI x sh)))) B (hO B (tn + 1) wb ru sp im nw rm)) (0, 0) 3 [.ref B, .int x, .int z] []) : Wp E 2 0 0 kX7_tapeNumber Q G (0, 0) 3 [.ref B, .int x, .int (nI sh)] [] := by
  refine w_iload_n dX7_tapeNumber_3 rfl ?_
  refine w_ifN_lt (tgt := 41) dX7_tapeNumber_4 (by decide) (fun c_4 => ?_) (fun c_4 => ?_)
  · skip
    exact absurd c_4 hsh
  · skip
    refine w_aload_n dX7_tapeNumber_7 rfl ?_
    refine w_getf dX7_tapeNumber_8 fl_X7_9 (by first | assumption | exact gs_at | (rw [gs_ne (by omega)]; (first | assumption | exact gs_at | (rw [gs_ne (by omega)]; (first | assumption | exact gs_at | (rw [gs_ne (by omega)]; (first | assumption | exact gs_at | (rw [gs_ne (by omega)]; (first | assumption | exact gs_at))))))))) rfl ?_
    refine w_aload_n dX7_tapeNumber_11 rfl ?_
    refine w_getf dX7_tapeNumber_12 fl_X7_13 (by first | assumption | exact gs_at | (rw [gs_ne (by omega)]; (first | assumption | exact gs_at | (rw [gs_ne (by omega)]; (first | assumption | exact gs_at | (rw [gs_ne (by omega)]; (first | assumption | exact gs_at | (rw [gs_ne (by omega)]; (first | assumption | exact gs_at))))))))) rfl ?_
    refine w_iload_n dX7_tapeNumber_15 rfl ?_
    refine w_iload_n dX7_tapeNumber_16 rfl ?_
    refine w_iushr dX7_tapeNumber_17 ?_
    refine w_sipush (v := nI 255) dX7_tapeNumber_18 (by decide) ?_
    first | refine w_iandN dX7_tapeNumber_21 ?_ | refine w_iand dX7_tapeNumber_21 ?_
    refine wS3n dX7_tapeNumber_22 lk_X7_211 rfl (c_putN hT ht (by decide)) (Nat.le_of_ble_eq_true rfl) (Nat.le_of_ble_eq_true rfl) (Nat.le_of_ble_eq_true rfl) (Nat.le_of_ble_eq_true rfl) ?_
    refine w_aload_n dX7_tapeNumber_25 rfl ?_
    refine w_dup dX7_tapeNumber_26 rfl ?_
    refine w_getf dX7_tapeNumber_27 fl_X7_13 (by first | assumption | exact gs_at | (rw [gs_ne (by omega)]; (first | assumption | exact gs_at | (rw [gs_ne (by omega)]; (first | assumption | exact gs_at | (rw [gs_ne (by omega)]; (first | assumption | exact gs_at | (rw [gs_ne (by omega)]; (first | assumption | exact gs_at))))))))) rfl ?_
    refine w_iconst (v := nI 1) dX7_tapeNumber_30 (by decide) ?_
    first | refine w_iaddN dX7_tapeNumber_31 ?_ | refine w_iadd dX7_tapeNumber_31 ?_
    refine w_putf dX7_tapeNumber_32 fl_X7_13 (by first | assumption | exact gs_at | (rw [gs_ne (by omega)]; (first | assumption | exact gs_at | (rw [gs_ne (by omega)]; (first | assumption | exact gs_at | (rw [gs_ne (by omega)]; (first | assumption | exact gs_at | (rw [gs_ne (by omega)]; (first | assumption | exact gs_at))))))))) (by simp) rfl rfl ?_
    refine w_iinc_2 dX7_tapeNumber_35 hz rfl ?_
    refine w_goto (tgt := 3) dX7_tapeNumber_38 (by decide) ?_
    exact kk
