/-! the object itself -/
abbrev hO (B tn : Nat) (wb : Int32) (ru sp im nw rm : Nat) : HC := oB 7 [.ref (B + 1), .int (nI tn), .ref (B + 2), .ref (B + 5), .int wb, .ref (B + 9), .ref (B + 23), .ref ru, .ref sp, .int (nI im), .ref (B + 49), .ref (B + 63), .ref (B + 69), .int (nI nw), .int (nI rm), .ref (B + 70), .ref (B + 71), .ref (B + 74), .ref (B + 77)]
theorem c_checkItem {E : EV} {B tn ru sp im nw rm : Nat} {wb : Int32} {G : AH} {x : Int32} {T : ST} {sd : Int32} (hB : G.1 B = some (hO B tn wb ru sp im nw rm)) (hI : Isl G (B + 9) T sd) : Ck E 9 kX7_checkItem [.ref B, .int x] G (¬ x < nI 0 ∧ x < nI (T 12 0)) "java/lang/IndexOutOfBoundsException" := by
  obtain ⟨i0, i1, i2, i3, i4, i5, i6, i7, i8, i9, i10, i11, i12, i13⟩ := id hI
  refine Ct.intro rfl (by decide) [.ref B, .int x] (by simp [Value.category]) (Nat.le_of_ble_eq_true rfl) rfl ?_
  refine w_iload_n dX7_checkItem_0 rfl ?_
  refine w_ifN_lt (tgt := 15) dX7_checkItem_1 (by decide) (fun c_1 => ?_) (fun c_1 => ?_)
  · skip
    first
      | exact w_throwW (i := 35) (names := ["java/lang/RuntimeException", "java/lang/Exception"]) rfl rfl (by decide +kernel) (by decide +kernel) u_939 u_21 at_iob rfl dX7_checkItem_15 dX7_checkItem_18 dX7_checkItem_19 dX7_checkItem_22 dX7_checkItem_25 rfl (by decide) (by decide) (Nat.le_of_ble_eq_true rfl) (Nat.le_of_ble_eq_true rfl) (fun n9 h9 => Or.inr ⟨fun h => h.1 c_1, rfl, rfl, h9⟩)
      | exact w_throwW (i := 35) (names := ["java/lang/RuntimeException", "java/lang/Exception"]) rfl rfl (by decide +kernel) (by decide +kernel) u_939 u_21 at_iob rfl dX7_checkItem_15 dX7_checkItem_18 dX7_checkItem_19 dX7_checkItem_22 dX7_checkItem_25 rfl (by decide) (by decide) (Nat.le_of_ble_eq_true rfl) (Nat.le_of_ble_eq_true rfl) (fun n9 h9 => Or.inr ⟨fun h => absurd h.2 c_12, rfl, rfl, h9⟩)
  · skip
    refine w_iload_n dX7_checkItem_4 rfl ?_
    refine w_aload_n dX7_checkItem_5 rfl ?_
    refine w_getf dX7_checkItem_6 fl_X7_37 (by first | assumption | exact gs_at | (rw [gs_ne (by omega)]; (first | assumption | exact gs_at | (rw [gs_ne (by omega)]; (first | assumption | exact gs_at | (rw [gs_ne (by omega)]; (first | assumption | exact gs_at | (rw [gs_ne (by omega)]; (first | assumption | exact gs_at))))))))) rfl ?_
    refine w_getf dX7_checkItem_9 fl_X7_242 (by first | assumption | exact gs_at | (rw [gs_ne (by omega)]; (first | assumption | exact gs_at | (rw [gs_ne (by omega)]; (first | assumption | exact gs_at | (rw [gs_ne (by omega)]; (first | assumption | exact gs_at | (rw [gs_ne (by omega)]; (first | assumption | exact gs_at))))))))) rfl ?_
    refine w_icmp_lt (tgt := 26) dX7_checkItem_12 (by decide) (fun c_12 => ?_) (fun c_12 => ?_)
    · skip
      refine w_vret dX7_checkItem_26 rfl (Nat.le_of_ble_eq_true rfl) (Nat.le_of_ble_eq_true rfl) ?_
      exact Or.inl ⟨⟨c_1, c_12⟩, rfl, rfl⟩
    · skip
      first
        | exact w_throwW (i := 35) (names := ["java/lang/RuntimeException", "java/lang/Exception"]) rfl rfl (by decide +kernel) (by decide +kernel) u_939 u_21 at_iob rfl dX7_checkItem_15 dX7_checkItem_18 dX7_checkItem_19 dX7_checkItem_22 dX7_checkItem_25 rfl (by decide) (by decide) (Nat.le_of_ble_eq_true rfl) (Nat.le_of_ble_eq_true rfl) (fun n9 h9 => Or.inr ⟨fun h => h.1 c_1, rfl, rfl, h9⟩)
        | exact w_throwW (i := 35) (names := ["java/lang/RuntimeException", "java/lang/Exception"]) rfl rfl (by decide +kernel) (by decide +kernel) u_939 u_21 at_iob rfl dX7_checkItem_15 dX7_checkItem_18 dX7_checkItem_19 dX7_checkItem_22 dX7_checkItem_25 rfl (by decide) (by decide) (Nat.le_of_ble_eq_true rfl) (Nat.le_of_ble_eq_true rfl) (fun n9 h9 => Or.inr ⟨fun h => absurd h.2 c_12, rfl, rfl, h9⟩)
theorem c_fault {E : EV} {B tn ru sp im nw rm : Nat} {wb : Int32} {G : AH} (hB : G.1 B = some (hO B tn wb ru sp im nw rm)) : Cu E 1 kX7_fault [.ref B] G (.int wb) G := by
  refine Ct.intro rfl (by decide) [.ref B] (by simp [Value.category]) (Nat.le_of_ble_eq_true rfl) rfl ?_
  refine w_aload_n dX7_fault_0 rfl ?_
  refine w_getf dX7_fault_1 fl_X7_31 (by first | assumption | exact gs_at | (rw [gs_ne (by omega)]; (first | assumption | exact gs_at | (rw [gs_ne (by omega)]; (first | assumption | exact gs_at | (rw [gs_ne (by omega)]; (first | assumption | exact gs_at | (rw [gs_ne (by omega)]; (first | assumption | exact gs_at))))))))) rfl ?_
  refine w_iret dX7_fault_4 rfl (Nat.le_of_ble_eq_true rfl) (Nat.le_of_ble_eq_true rfl) ?_
  exact ⟨rfl, rfl⟩
theorem c_usedTape {E : EV} {B tn ru sp im nw rm : Nat} {wb : Int32} {G : AH} (hB : G.1 B = some (hO B tn wb ru sp im nw rm)) : Cu E 1 kX7_usedTape [.ref B] G (.int (nI tn)) (gs G B (hO B 0 wb ru sp im nw rm)) := by
  refine Ct.intro rfl (by decide) [.ref B, .float 0] (by simp [Value.category]) (Nat.le_of_ble_eq_true rfl) rfl ?_
  refine w_aload_n dX7_usedTape_0 rfl ?_
  refine w_getf dX7_usedTape_1 fl_X7_13 (by first | assumption | exact gs_at | (rw [gs_ne (by omega)]; (first | assumption | exact gs_at | (rw [gs_ne (by omega)]; (first | assumption | exact gs_at | (rw [gs_ne (by omega)]; (first | assumption | exact gs_at | (rw [gs_ne (by omega)]; (first | assumption | exact gs_at))))))))) rfl ?_
  refine w_istore_1 dX7_usedTape_4 rfl ?_
  refine w_aload_n dX7_usedTape_5 rfl ?_
  refine w_iconst (v := nI 0) dX7_usedTape_6 (by decide) ?_
  refine w_putf dX7_usedTape_7 fl_X7_13 (by first | assumption | exact gs_at | (rw [gs_ne (by omega)]; (first | assumption | exact gs_at | (rw [gs_ne (by omega)]; (first | assumption | exact gs_at | (rw [gs_ne (by omega)]; (first | assumption | exact gs_at | (rw [gs_ne (by omega)]; (first | assumption | exact gs_at))))))))) (by simp) rfl rfl ?_
  refine w_iload_n dX7_usedTape_10 rfl ?_
  refine w_iret dX7_usedTape_11 rfl (Nat.le_of_ble_eq_true rfl) (Nat.le_of_ble_eq_true rfl) ?_
  exact ⟨rfl, rfl⟩
theorem c_end {E : EV} {B tn ru sp im nw rm : Nat} {wb : Int32} {G : AH} {k : Nat} (hB : G.1 B = some (hO B tn wb ru sp im nw rm)) : Ci E 1 kX7_end [.ref B, .int (nI k)] G (fun r G1 => (r = nI 0 ∧ G1 = G ∧ (nI k < nI 0 ∨ nI tn < nI k)) ∨ (r = nI 1 ∧ ¬ nI k < nI 0 ∧ ¬ nI tn < nI k ∧ G1 = gs G B (hO B k wb ru sp im nw rm))) := by
  refine Ct.intro rfl (by decide) [.ref B, .int (nI k)] (by simp [Value.category]) (Nat.le_of_ble_eq_true rfl) rfl ?_
  refine w_iload_n dX7_end_0 rfl ?_
  refine w_ifN_lt (tgt := 12) dX7_end_1 (by decide) (fun c_1 => ?_) (fun c_1 => ?_)
  · skip
    refine w_iconst (v := nI 0) dX7_end_12 (by decide) ?_
    refine w_zret dX7_end_13 rfl rfl (Nat.le_of_ble_eq_true rfl) (Nat.le_of_ble_eq_true rfl) ?_
    first
      | exact ⟨_, rfl, Or.inr ⟨rfl, c_1, Int32.not_lt.mpr c_9, rfl⟩⟩
      | exact ⟨_, rfl, Or.inl ⟨rfl, rfl, Or.inl c_1⟩⟩
      | exact ⟨_, rfl, Or.inl ⟨rfl, rfl, Or.inr (Int32.not_le.mp c_9)⟩⟩
  · skip
    refine w_iload_n dX7_end_4 rfl ?_
    refine w_aload_n dX7_end_5 rfl ?_
    refine w_getf dX7_end_6 fl_X7_13 (by first | assumption | exact gs_at | (rw [gs_ne (by omega)]; (first | assumption | exact gs_at | (rw [gs_ne (by omega)]; (first | assumption | exact gs_at | (rw [gs_ne (by omega)]; (first | assumption | exact gs_at | (rw [gs_ne (by omega)]; (first | assumption | exact gs_at))))))))) rfl ?_
    refine w_icmp_le (tgt := 14) dX7_end_9 (by decide) (fun c_9 => ?_) (fun c_9 => ?_)
    · skip
      refine w_aload_n dX7_end_14 rfl ?_
      refine w_iload_n dX7_end_15 rfl ?_
      refine w_putf dX7_end_16 fl_X7_13 (by first | assumption | exact gs_at | (rw [gs_ne (by omega)]; (first | assumption | exact gs_at | (rw [gs_ne (by omega)]; (first | assumption | exact gs_at | (rw [gs_ne (by omega)]; (first | assumption | exact gs_at | (rw [gs_ne (by omega)]; (first | assumption | exact gs_at))))))))) (by simp) rfl rfl ?_
      refine w_iconst (v := nI 1) dX7_end_19 (by decide) ?_
      refine w_zret dX7_end_20 rfl rfl (Nat.le_of_ble_eq_true rfl) (Nat.le_of_ble_eq_true rfl) ?_
      first
        | exact ⟨_, rfl, Or.inr ⟨rfl, c_1, Int32.not_lt.mpr c_9, rfl⟩⟩
        | exact ⟨_, rfl, Or.inl ⟨rfl, rfl, Or.inl c_1⟩⟩
        | exact ⟨_, rfl, Or.inl ⟨rfl, rfl, Or.inr (Int32.not_le.mp c_9)⟩⟩
    · skip
      refine w_iconst (v := nI 0) dX7_end_12 (by decide) ?_
      refine w_zret dX7_end_13 rfl rfl (Nat.le_of_ble_eq_true rfl) (Nat.le_of_ble_eq_true rfl) ?_
      first
        | exact ⟨_, rfl, Or.inr ⟨rfl, c_1, Int32.not_lt.mpr c_9, rfl⟩⟩
        | exact ⟨_, rfl, Or.inl ⟨rfl, rfl, Or.inl c_1⟩⟩
        | exact ⟨_, rfl, Or.inl ⟨rfl, rfl, Or.inr (Int32.not_le.mp c_9)⟩⟩
