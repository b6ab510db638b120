/-! what is refused -/
theorem v_767 : (Cond.superclass "java/lang/Throwable" "java/lang/Object") ∈ LW := lw4 47 rfl rfl
theorem v_781 : (Cond.codeSync Bundle.tFill LibCode.Throwable.Fill.code 1 (some (FieldType.object Bundle.tN))) ∈ LW := lw4 61 rfl rfl
theorem v_786 : (Cond.native Bundle.tFill0) ∈ LW := lw4 66 rfl rfl
theorem vn_749 : (Cond.declares { cls := "java/lang/RuntimeException", name := "<init>", desc := "(Ljava/lang/String;)V" }) ∈ NW := nw4 29 rfl rfl
theorem vn_751 : (Cond.declares { cls := "java/lang/Exception", name := "<init>", desc := "(Ljava/lang/String;)V" }) ∈ NW := nw4 31 rfl rfl
theorem vn_753 : (Cond.declares { cls := "java/lang/Throwable", name := "<init>", desc := "(Ljava/lang/String;)V" }) ∈ NW := nw4 33 rfl rfl
set_option maxRecDepth 4000 in
theorem at_iob : ∀ w ∈ vx_atS "HalfIsle" 369 "java/lang/IndexOutOfBoundsException" ["java/lang/RuntimeException", "java/lang/Exception"], w ∈ LW ∨ w ∈ NW := by
  intro w hw
  obtain ⟨h2, hw⟩ := List.mem_filter.mp hw
  simp only [Bundle.ownAtoms, Bundle.throwableAtoms, Bundle.throwableSAtoms, Bundle.chainSAtoms, Bundle.passSAtoms, Bundle.initS, List.mem_append, List.mem_cons, List.mem_nil_iff, List.not_mem_nil, or_false] at h2
  repeat' (refine Or.elim h2 ?_ ?_ <;> clear h2 <;> intro h2)
  all_goals subst h2
  all_goals first | (exfalso; revert hw; decide +kernel) | exact Or.inl u_16 | exact Or.inl u_17 | exact Or.inl u_18 | exact Or.inl u_21 | exact Or.inl u_29 | exact Or.inl u_30 | exact Or.inl u_31 | exact Or.inl u_37 | exact Or.inl u_43 | exact Or.inl u_72 | exact Or.inl u_93 | exact Or.inl u_99 | exact Or.inl u_203 | exact Or.inl u_235 | exact Or.inl u_757 | exact Or.inl u_759 | exact Or.inl u_761 | exact Or.inl u_763 | exact Or.inl u_765 | exact Or.inl u_766 | exact Or.inl u_768 | exact Or.inl u_769 | exact Or.inl u_770 | exact Or.inl u_771 | exact Or.inl u_773 | exact Or.inl u_775 | exact Or.inl u_776 | exact Or.inl u_778 | exact Or.inl u_782 | exact Or.inl u_784 | exact Or.inl u_785 | exact Or.inl u_792 | exact Or.inl u_793 | exact Or.inl u_794 | exact Or.inl u_795 | exact Or.inl u_796 | exact Or.inl u_797 | exact Or.inl u_798 | exact Or.inl u_799 | exact Or.inl u_800 | exact Or.inl u_801 | exact Or.inl u_802 | exact Or.inl u_803 | exact Or.inl u_804 | exact Or.inl u_929 | exact Or.inl u_939 | exact Or.inl u_940 | exact Or.inl u_942 | exact Or.inl u_943 | exact Or.inl u_944 | exact Or.inl u_945 | exact Or.inl u_946 | exact Or.inl u_947 | exact Or.inl u_949 | exact Or.inl u_950 | exact Or.inl u_951 | exact Or.inl u_952 | exact Or.inl u_953 | exact Or.inl u_1229 | exact Or.inl v_767 | exact Or.inl v_781 | exact Or.inl v_786 | exact Or.inr vn_749 | exact Or.inr vn_751 | exact Or.inr vn_753 | exact Or.inr un_747 | exact Or.inr un_816 | exact Or.inr un_941
set_option maxRecDepth 4000 in
theorem at_iae : ∀ w ∈ vx_atS "HalfIsle" 110 "java/lang/IllegalArgumentException" ["java/lang/RuntimeException", "java/lang/Exception"], w ∈ LW ∨ w ∈ NW := by
  intro w hw
  obtain ⟨h2, hw⟩ := List.mem_filter.mp hw
  simp only [Bundle.ownAtoms, Bundle.throwableAtoms, Bundle.throwableSAtoms, Bundle.chainSAtoms, Bundle.passSAtoms, Bundle.initS, List.mem_append, List.mem_cons, List.mem_nil_iff, List.not_mem_nil, or_false] at h2
  repeat' (refine Or.elim h2 ?_ ?_ <;> clear h2 <;> intro h2)
  all_goals subst h2
  all_goals first | (exfalso; revert hw; decide +kernel) | exact Or.inl u_16 | exact Or.inl u_17 | exact Or.inl u_18 | exact Or.inl u_19 | exact Or.inl u_29 | exact Or.inl u_30 | exact Or.inl u_31 | exact Or.inl u_37 | exact Or.inl u_43 | exact Or.inl u_72 | exact Or.inl u_93 | exact Or.inl u_99 | exact Or.inl u_203 | exact Or.inl u_235 | exact Or.inl u_609 | exact Or.inl u_745 | exact Or.inl u_746 | exact Or.inl u_754 | exact Or.inl u_755 | exact Or.inl u_756 | exact Or.inl u_757 | exact Or.inl u_758 | exact Or.inl u_759 | exact Or.inl u_760 | exact Or.inl u_761 | exact Or.inl u_762 | exact Or.inl u_763 | exact Or.inl u_764 | exact Or.inl u_765 | exact Or.inl u_766 | exact Or.inl u_768 | exact Or.inl u_769 | exact Or.inl u_770 | exact Or.inl u_771 | exact Or.inl u_773 | exact Or.inl u_775 | exact Or.inl u_776 | exact Or.inl u_782 | exact Or.inl u_784 | exact Or.inl u_785 | exact Or.inl u_788 | exact Or.inl u_789 | exact Or.inl u_790 | exact Or.inl u_791 | exact Or.inl u_792 | exact Or.inl u_793 | exact Or.inl u_794 | exact Or.inl u_795 | exact Or.inl u_796 | exact Or.inl u_797 | exact Or.inl u_798 | exact Or.inl u_799 | exact Or.inl u_800 | exact Or.inl u_801 | exact Or.inl u_802 | exact Or.inl u_803 | exact Or.inl u_804 | exact Or.inl u_809 | exact Or.inl u_1229 | exact Or.inl v_767 | exact Or.inl v_781 | exact Or.inl v_786 | exact Or.inr vn_749 | exact Or.inr vn_751 | exact Or.inr vn_753 | exact Or.inr un_747 | exact Or.inr un_816 | exact Or.inr un_941
set_option maxRecDepth 4000 in
theorem at_uoe : ∀ w ∈ vx_atS "HalfIsle" 120 "java/lang/UnsupportedOperationException" ["java/lang/RuntimeException", "java/lang/Exception"], w ∈ LW ∨ w ∈ NW := by
  intro w hw
  obtain ⟨h2, hw⟩ := List.mem_filter.mp hw
  simp only [Bundle.ownAtoms, Bundle.throwableAtoms, Bundle.throwableSAtoms, Bundle.chainSAtoms, Bundle.passSAtoms, Bundle.initS, List.mem_append, List.mem_cons, List.mem_nil_iff, List.not_mem_nil, or_false] at h2
  repeat' (refine Or.elim h2 ?_ ?_ <;> clear h2 <;> intro h2)
  all_goals subst h2
  all_goals first | (exfalso; revert hw; decide +kernel) | exact Or.inl u_16 | exact Or.inl u_17 | exact Or.inl u_18 | exact Or.inl u_20 | exact Or.inl u_29 | exact Or.inl u_30 | exact Or.inl u_31 | exact Or.inl u_37 | exact Or.inl u_43 | exact Or.inl u_72 | exact Or.inl u_93 | exact Or.inl u_99 | exact Or.inl u_203 | exact Or.inl u_235 | exact Or.inl u_610 | exact Or.inl u_757 | exact Or.inl u_759 | exact Or.inl u_761 | exact Or.inl u_763 | exact Or.inl u_765 | exact Or.inl u_766 | exact Or.inl u_768 | exact Or.inl u_769 | exact Or.inl u_770 | exact Or.inl u_771 | exact Or.inl u_773 | exact Or.inl u_775 | exact Or.inl u_776 | exact Or.inl u_779 | exact Or.inl u_782 | exact Or.inl u_784 | exact Or.inl u_785 | exact Or.inl u_792 | exact Or.inl u_793 | exact Or.inl u_794 | exact Or.inl u_795 | exact Or.inl u_796 | exact Or.inl u_797 | exact Or.inl u_798 | exact Or.inl u_799 | exact Or.inl u_800 | exact Or.inl u_801 | exact Or.inl u_802 | exact Or.inl u_803 | exact Or.inl u_804 | exact Or.inl u_814 | exact Or.inl u_815 | exact Or.inl u_817 | exact Or.inl u_818 | exact Or.inl u_819 | exact Or.inl u_820 | exact Or.inl u_821 | exact Or.inl u_822 | exact Or.inl u_824 | exact Or.inl u_825 | exact Or.inl u_826 | exact Or.inl u_827 | exact Or.inl u_828 | exact Or.inl u_1229 | exact Or.inl v_767 | exact Or.inl v_781 | exact Or.inl v_786 | exact Or.inr vn_749 | exact Or.inr vn_751 | exact Or.inr vn_753 | exact Or.inr un_747 | exact Or.inr un_816 | exact Or.inr un_941
theorem c_checkRoom {E : EV} {x : Int32} {G : AH}  : Ck E 9 kX7_checkRoom [.int x] G (¬ x < nI 0 ∧ x < nI 6) "java/lang/IndexOutOfBoundsException" := by
  refine Ct.intro rfl (by decide) [.int x] (by simp [Value.category]) (Nat.le_of_ble_eq_true rfl) rfl ?_
  refine w_iload_n dX7_checkRoom_0 rfl ?_
  refine w_ifN_lt (tgt := 10) dX7_checkRoom_1 (by decide) (fun c_1 => ?_) (fun c_1 => ?_)
  · skip
    first
      | exact w_throwW (i := 37) (names := ["java/lang/RuntimeException", "java/lang/Exception"]) rfl rfl (by decide +kernel) (by decide +kernel) u_939 u_21 at_iob rfl dX7_checkRoom_10 dX7_checkRoom_13 dX7_checkRoom_14 dX7_checkRoom_17 dX7_checkRoom_20 rfl (by decide) (by decide) (Nat.le_of_ble_eq_true rfl) (Nat.le_of_ble_eq_true rfl) (fun n9 h9 => Or.inr ⟨fun h => h.1 c_1, rfl, rfl, h9⟩)
      | exact w_throwW (i := 37) (names := ["java/lang/RuntimeException", "java/lang/Exception"]) rfl rfl (by decide +kernel) (by decide +kernel) u_939 u_21 at_iob rfl dX7_checkRoom_10 dX7_checkRoom_13 dX7_checkRoom_14 dX7_checkRoom_17 dX7_checkRoom_20 rfl (by decide) (by decide) (Nat.le_of_ble_eq_true rfl) (Nat.le_of_ble_eq_true rfl) (fun n9 h9 => Or.inr ⟨fun h => absurd h.2 c_7, rfl, rfl, h9⟩)
  · skip
    refine w_iload_n dX7_checkRoom_4 rfl ?_
    refine w_bipush (v := nI 6) dX7_checkRoom_5 (by decide) ?_
    refine w_icmp_lt (tgt := 21) dX7_checkRoom_7 (by decide) (fun c_7 => ?_) (fun c_7 => ?_)
    · skip
      refine w_vret dX7_checkRoom_21 rfl (Nat.le_of_ble_eq_true rfl) (Nat.le_of_ble_eq_true rfl) ?_
      exact Or.inl ⟨⟨c_1, c_7⟩, rfl, rfl⟩
    · skip
      first
        | exact w_throwW (i := 37) (names := ["java/lang/RuntimeException", "java/lang/Exception"]) rfl rfl (by decide +kernel) (by decide +kernel) u_939 u_21 at_iob rfl dX7_checkRoom_10 dX7_checkRoom_13 dX7_checkRoom_14 dX7_checkRoom_17 dX7_checkRoom_20 rfl (by decide) (by decide) (Nat.le_of_ble_eq_true rfl) (Nat.le_of_ble_eq_true rfl) (fun n9 h9 => Or.inr ⟨fun h => h.1 c_1, rfl, rfl, h9⟩)
        | exact w_throwW (i := 37) (names := ["java/lang/RuntimeException", "java/lang/Exception"]) rfl rfl (by decide +kernel) (by decide +kernel) u_939 u_21 at_iob rfl dX7_checkRoom_10 dX7_checkRoom_13 dX7_checkRoom_14 dX7_checkRoom_17 dX7_checkRoom_20 rfl (by decide) (by decide) (Nat.le_of_ble_eq_true rfl) (Nat.le_of_ble_eq_true rfl) (fun n9 h9 => Or.inr ⟨fun h => absurd h.2 c_7, rfl, rfl, h9⟩)
theorem c_checkSide {E : EV} {x : Int32} {G : AH}  : Ck E 9 kX7_checkSide [.int x] G (¬ x < nI 0 ∧ x < nI 2) "java/lang/IndexOutOfBoundsException" := by
  refine Ct.intro rfl (by decide) [.int x] (by simp [Value.category]) (Nat.le_of_ble_eq_true rfl) rfl ?_
  refine w_iload_n dX7_checkSide_0 rfl ?_
  refine w_ifN_lt (tgt := 9) dX7_checkSide_1 (by decide) (fun c_1 => ?_) (fun c_1 => ?_)
  · skip
    first
      | exact w_throwW (i := 38) (names := ["java/lang/RuntimeException", "java/lang/Exception"]) rfl rfl (by decide +kernel) (by decide +kernel) u_939 u_21 at_iob rfl dX7_checkSide_9 dX7_checkSide_12 dX7_checkSide_13 dX7_checkSide_16 dX7_checkSide_19 rfl (by decide) (by decide) (Nat.le_of_ble_eq_true rfl) (Nat.le_of_ble_eq_true rfl) (fun n9 h9 => Or.inr ⟨fun h => h.1 c_1, rfl, rfl, h9⟩)
      | exact w_throwW (i := 38) (names := ["java/lang/RuntimeException", "java/lang/Exception"]) rfl rfl (by decide +kernel) (by decide +kernel) u_939 u_21 at_iob rfl dX7_checkSide_9 dX7_checkSide_12 dX7_checkSide_13 dX7_checkSide_16 dX7_checkSide_19 rfl (by decide) (by decide) (Nat.le_of_ble_eq_true rfl) (Nat.le_of_ble_eq_true rfl) (fun n9 h9 => Or.inr ⟨fun h => absurd h.2 c_6, rfl, rfl, h9⟩)
  · skip
    refine w_iload_n dX7_checkSide_4 rfl ?_
    refine w_iconst (v := nI 2) dX7_checkSide_5 (by decide) ?_
    refine w_icmp_lt (tgt := 20) dX7_checkSide_6 (by decide) (fun c_6 => ?_) (fun c_6 => ?_)
    · skip
      refine w_vret dX7_checkSide_20 rfl (Nat.le_of_ble_eq_true rfl) (Nat.le_of_ble_eq_true rfl) ?_
      exact Or.inl ⟨⟨c_1, c_6⟩, rfl, rfl⟩
    · skip
      first
        | exact w_throwW (i := 38) (names := ["java/lang/RuntimeException", "java/lang/Exception"]) rfl rfl (by decide +kernel) (by decide +kernel) u_939 u_21 at_iob rfl dX7_checkSide_9 dX7_checkSide_12 dX7_checkSide_13 dX7_checkSide_16 dX7_checkSide_19 rfl (by decide) (by decide) (Nat.le_of_ble_eq_true rfl) (Nat.le_of_ble_eq_true rfl) (fun n9 h9 => Or.inr ⟨fun h => h.1 c_1, rfl, rfl, h9⟩)
        | exact w_throwW (i := 38) (names := ["java/lang/RuntimeException", "java/lang/Exception"]) rfl rfl (by decide +kernel) (by decide +kernel) u_939 u_21 at_iob rfl dX7_checkSide_9 dX7_checkSide_12 dX7_checkSide_13 dX7_checkSide_16 dX7_checkSide_19 rfl (by decide) (by decide) (Nat.le_of_ble_eq_true rfl) (Nat.le_of_ble_eq_true rfl) (fun n9 h9 => Or.inr ⟨fun h => absurd h.2 c_6, rfl, rfl, h9⟩)
theorem c_checkNumber {E : EV} {x a b : Int32} {G : AH}  : Ck E 9 kX7_checkNumber [.int x, .int a, .int b] G (¬ x < a ∧ x ≤ b) "java/lang/IllegalArgumentException" := by
  refine Ct.intro rfl (by decide) [.int x, .int a, .int b] (by simp [Value.category]) (Nat.le_of_ble_eq_true rfl) rfl ?_
  refine w_iload_n dX7_checkNumber_0 rfl ?_
  refine w_iload_n dX7_checkNumber_1 rfl ?_
  refine w_icmp_lt (tgt := 10) dX7_checkNumber_2 (by decide) (fun c_2 => ?_) (fun c_2 => ?_)
  · skip
    first
      | exact w_throwW (i := 39) (names := ["java/lang/RuntimeException", "java/lang/Exception"]) rfl rfl (by decide +kernel) (by decide +kernel) u_745 u_19 at_iae rfl dX7_checkNumber_10 dX7_checkNumber_13 dX7_checkNumber_14 dX7_checkNumber_17 dX7_checkNumber_20 rfl (by decide) (by decide) (Nat.le_of_ble_eq_true rfl) (Nat.le_of_ble_eq_true rfl) (fun n9 h9 => Or.inr ⟨fun h => h.1 c_2, rfl, rfl, h9⟩)
      | exact w_throwW (i := 39) (names := ["java/lang/RuntimeException", "java/lang/Exception"]) rfl rfl (by decide +kernel) (by decide +kernel) u_745 u_19 at_iae rfl dX7_checkNumber_10 dX7_checkNumber_13 dX7_checkNumber_14 dX7_checkNumber_17 dX7_checkNumber_20 rfl (by decide) (by decide) (Nat.le_of_ble_eq_true rfl) (Nat.le_of_ble_eq_true rfl) (fun n9 h9 => Or.inr ⟨fun h => absurd h.2 c_7, rfl, rfl, h9⟩)
  · skip
    refine w_iload_n dX7_checkNumber_5 rfl ?_
    refine w_iload_n dX7_checkNumber_6 rfl ?_
    refine w_icmp_le (tgt := 21) dX7_checkNumber_7 (by decide) (fun c_7 => ?_) (fun c_7 => ?_)
    · skip
      refine w_vret dX7_checkNumber_21 rfl (Nat.le_of_ble_eq_true rfl) (Nat.le_of_ble_eq_true rfl) ?_
      exact Or.inl ⟨⟨c_2, c_7⟩, rfl, rfl⟩
    · skip
      first
        | exact w_throwW (i := 39) (names := ["java/lang/RuntimeException", "java/lang/Exception"]) rfl rfl (by decide +kernel) (by decide +kernel) u_745 u_19 at_iae rfl dX7_checkNumber_10 dX7_checkNumber_13 dX7_checkNumber_14 dX7_checkNumber_17 dX7_checkNumber_20 rfl (by decide) (by decide) (Nat.le_of_ble_eq_true rfl) (Nat.le_of_ble_eq_true rfl) (fun n9 h9 => Or.inr ⟨fun h => h.1 c_2, rfl, rfl, h9⟩)
        | exact w_throwW (i := 39) (names := ["java/lang/RuntimeException", "java/lang/Exception"]) rfl rfl (by decide +kernel) (by decide +kernel) u_745 u_19 at_iae rfl dX7_checkNumber_10 dX7_checkNumber_13 dX7_checkNumber_14 dX7_checkNumber_17 dX7_checkNumber_20 rfl (by decide) (by decide) (Nat.le_of_ble_eq_true rfl) (Nat.le_of_ble_eq_true rfl) (fun n9 h9 => Or.inr ⟨fun h => absurd h.2 c_7, rfl, rfl, h9⟩)
