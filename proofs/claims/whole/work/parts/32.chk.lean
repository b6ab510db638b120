/-! what is refused: another what, no such item -/
theorem x_nse0 : decode prog_28_method_4_code 0 = .ok (.aload_n 0, 1) := by decide +kernel
theorem x_nse1 : decode prog_28_method_4_code 1 = .ok (.aload_n 1, 1) := by decide +kernel
theorem x_nse2 : decode prog_28_method_4_code 2 = .ok (.invokespecial 13, 3) := by decide +kernel
theorem x_nse5 : decode prog_28_method_4_code 5 = .ok (.return_, 1) := by decide +kernel
set_option maxRecDepth 4000 in
theorem at_nse : ∀ w ∈ (Bundle.ownAtomsX "HalfIsle" 380 "java/util/NoSuchElementException" 13 prog_28_method_4_code ["java/lang/RuntimeException", "java/lang/Exception"]).filter vx_no, w ∈ LW ∨ w ∈ NW := by
  intro w hw
  obtain ⟨h2, hw⟩ := List.mem_filter.mp hw
  simp only [Bundle.ownAtomsX, Bundle.throwableAtoms, Bundle.throwableSAtoms, Bundle.chainSAtomsX, Bundle.chainSAtoms, Bundle.passSAtoms, Bundle.initS, List.mem_append, List.mem_cons, List.mem_nil_iff, List.not_mem_nil, or_false] at h2
  repeat' (refine Or.elim h2 ?_ ?_ <;> clear h2 <;> intro h2)
  all_goals subst h2
  all_goals first | (exfalso; revert hw; decide +kernel) | exact Or.inl u_16 | exact Or.inl u_17 | exact Or.inl u_18 | exact Or.inl u_22 | exact Or.inl u_29 | exact Or.inl u_30 | exact Or.inl u_31 | exact Or.inl u_37 | exact Or.inl u_43 | exact Or.inl u_72 | exact Or.inl u_93 | exact Or.inl u_99 | exact Or.inl u_203 | exact Or.inl u_235 | exact Or.inl u_757 | exact Or.inl u_759 | exact Or.inl u_761 | exact Or.inl u_763 | exact Or.inl u_765 | exact Or.inl u_766 | exact Or.inl u_768 | exact Or.inl u_769 | exact Or.inl u_770 | exact Or.inl u_771 | exact Or.inl u_773 | exact Or.inl u_775 | exact Or.inl u_776 | exact Or.inl u_780 | exact Or.inl u_782 | exact Or.inl u_784 | exact Or.inl u_785 | exact Or.inl u_792 | exact Or.inl u_793 | exact Or.inl u_794 | exact Or.inl u_795 | exact Or.inl u_796 | exact Or.inl u_797 | exact Or.inl u_798 | exact Or.inl u_799 | exact Or.inl u_800 | exact Or.inl u_801 | exact Or.inl u_802 | exact Or.inl u_803 | exact Or.inl u_804 | exact Or.inl u_930 | exact Or.inl u_958 | exact Or.inl u_959 | exact Or.inl u_961 | exact Or.inl u_962 | exact Or.inl u_963 | exact Or.inl u_964 | exact Or.inl u_965 | exact Or.inl u_966 | exact Or.inl u_968 | exact Or.inl u_969 | exact Or.inl u_970 | exact Or.inl u_971 | exact Or.inl u_972 | exact Or.inl u_1229 | exact Or.inl v_767 | exact Or.inl v_781 | exact Or.inl v_786 | exact Or.inr vn_749 | exact Or.inr vn_751 | exact Or.inr vn_753 | exact Or.inr un_960
theorem w_throwX {E : EV} {d mc ms : Nat} {K : MR} {Q : OC → AH → Prop} {G : AH} {cs : Nat × Nat} {pc : Nat} {L st : List Value} {ik is_ ic ix i : Nat} {rx : ByteArray} {q : String × Nat × String × List Int32} {X : String} {names : List String}
    (x0 : decode rx 0 = .ok (.aload_n 0, 1)) (x1 : decode rx 1 = .ok (.aload_n 1, 1)) (x2 : decode rx 2 = .ok (.invokespecial ix, 3)) (x5 : decode rx 5 = .ok (.return_, 1))
    (hi : strT[i]? = some q) (ho : q.1 = K.1.cls) (hX : Bundle.fit X = true) (hnames : ∀ n ∈ names, Bundle.fit n = true) (hk : Cond.classLink K.1.cls ik X ∈ LW) (hini : Cond.initialized X ∈ LW) (hat : ∀ w ∈ (Bundle.ownAtomsX K.1.cls ic X ix rx names).filter vx_no, w ∈ LW ∨ w ∈ NW) (his : q.2.1 = is_)
    (d0 : decode K.2.1 pc = .ok (.new ik, 3)) (d3 : decode K.2.1 (pc + 3) = .ok (.dup, 1)) (d4 : decode K.2.1 (pc + 4) = .ok (.ldc_w is_, 3)) (d7 : decode K.2.1 (pc + 7) = .ok (.invokespecial ic, 3)) (d10 : decode K.2.1 (pc + 10) = .ok (.athrow, 1))
    (hh : K.2.2.2.2 = []) (hd1 : names.length + 3 < d) (hd2 : (st.map fun v => v.category).sum + (13 * (names.length + 1) + 43) ≤ 64 * d) (h1 : cs.1 + 1 ≤ mc) (h2 : cs.2 + 6 ≤ ms) (h : ∀ n, G.2 ≤ n → Q (.inr X) (G.1, n)) : Wp E d mc ms K Q G cs pc L st := by
  intro p e s m args below meth c H locs ls C Rp S hl
  obtain ⟨x1', x2', x3, x4, hts, hown, x7, x8, x9, hE⟩ := id C
  subst his
  have hlw : ∀ w ∈ LW, goodWord w = true := fun w hw => (List.mem_filter.mp hw).2
  have hvx : ∀ w ∈ LW, vx_ot w = true := fun w hw => by unfold vx_ot; rw [hlw w hw, Bool.or_true]
  refine xx_throwSW x1' x2' hE.1 x0 x1 x2 x5 (own := K.1.cls) (names := names) (A := eA E) hown hX hnames (hts _ hk) (hts _ hini) (by rw [← ho]; exact (hE.2.2.2.2.2.1 i q hi).1) (fun w hw => (hat w hw).elim (hts w) (fun h9 => va_Nw.use (nw_tabs h9) (hE.2.2.1 _ h9))) (fun w hw => ?_) hE.2.2.2.1 hE.2.2.2.2.1 S (by rw [x4]; exact hl.1) d0 d3 d4 d7 d10 (by rw [x8, hh]; intro x hx; cases hx) hd1 hd2 h1 h2 x7 ?_ S.2.2 h1 h2
  · rcases List.mem_cons.mp hw with rfl | hw
    · exact hvx _ hk
    · rcases List.mem_cons.mp hw with rfl | hw
      · exact hvx _ hini
      · exact (hat w hw).elim (hvx _) (fun h9 => by unfold vx_ot; rw [nw_tabs h9, Bool.true_or])
  · intro t _ hz hq
    refine ⟨⟨(G.1, t.heap.size), h _ (by rw [← Rp.1]; exact hz), rfl, fun a x hx => ?_⟩, Nat.le_trans S.1 hz, fun a g1 g2 => (hq a (Nat.lt_of_lt_of_le g1 S.1)).trans (S.2.1 a g1 g2)⟩
    have hlt : a < H.size := by rw [Rp.1]; exact va_at_lt Rp hx
    exact ⟨(Rp.2 a x hx).1, (Rp.2 a x hx).2.kept (hq a hlt)⟩
theorem c_checkWhat {E : EV} {x b : Int32} {G : AH}  : Ck E 9 kX7_checkWhat [.int x, .int b] G (¬ x < nI 0 ∧ x ≤ b) "java/util/NoSuchElementException" := by
  refine Ct.intro rfl (by decide) [.int x, .int b] (by simp [Value.category]) (Nat.le_of_ble_eq_true rfl) rfl ?_
  refine w_iload_n dX7_checkWhat_0 rfl ?_
  refine w_ifN_lt (tgt := 9) dX7_checkWhat_1 (by decide) (fun c_1 => ?_) (fun c_1 => ?_)
  · skip
    first
      | exact w_throwX (i := 36) (names := ["java/lang/RuntimeException", "java/lang/Exception"]) x_nse0 x_nse1 x_nse2 x_nse5 rfl rfl (by decide +kernel) (by decide +kernel) u_958 u_22 at_nse rfl dX7_checkWhat_9 dX7_checkWhat_12 dX7_checkWhat_13 dX7_checkWhat_16 dX7_checkWhat_19 rfl (by decide) (by decide) (Nat.le_of_ble_eq_true rfl) (Nat.le_of_ble_eq_true rfl) (fun n9 h9 => Or.inr ⟨fun h => h.1 c_1, rfl, rfl, h9⟩)
      | exact w_throwX (i := 36) (names := ["java/lang/RuntimeException", "java/lang/Exception"]) x_nse0 x_nse1 x_nse2 x_nse5 rfl rfl (by decide +kernel) (by decide +kernel) u_958 u_22 at_nse rfl dX7_checkWhat_9 dX7_checkWhat_12 dX7_checkWhat_13 dX7_checkWhat_16 dX7_checkWhat_19 rfl (by decide) (by decide) (Nat.le_of_ble_eq_true rfl) (Nat.le_of_ble_eq_true rfl) (fun n9 h9 => Or.inr ⟨fun h => absurd h.2 c_6, rfl, rfl, h9⟩)
  · skip
    refine w_iload_n dX7_checkWhat_4 rfl ?_
    refine w_iload_n dX7_checkWhat_5 rfl ?_
    refine w_icmp_le (tgt := 20) dX7_checkWhat_6 (by decide) (fun c_6 => ?_) (fun c_6 => ?_)
    · skip
      refine w_vret dX7_checkWhat_20 rfl (Nat.le_of_ble_eq_true rfl) (Nat.le_of_ble_eq_true rfl) ?_
      exact Or.inl ⟨⟨c_1, c_6⟩, rfl, rfl⟩
    · skip
      first
        | exact w_throwX (i := 36) (names := ["java/lang/RuntimeException", "java/lang/Exception"]) x_nse0 x_nse1 x_nse2 x_nse5 rfl rfl (by decide +kernel) (by decide +kernel) u_958 u_22 at_nse rfl dX7_checkWhat_9 dX7_checkWhat_12 dX7_checkWhat_13 dX7_checkWhat_16 dX7_checkWhat_19 rfl (by decide) (by decide) (Nat.le_of_ble_eq_true rfl) (Nat.le_of_ble_eq_true rfl) (fun n9 h9 => Or.inr ⟨fun h => h.1 c_1, rfl, rfl, h9⟩)
        | exact w_throwX (i := 36) (names := ["java/lang/RuntimeException", "java/lang/Exception"]) x_nse0 x_nse1 x_nse2 x_nse5 rfl rfl (by decide +kernel) (by decide +kernel) u_958 u_22 at_nse rfl dX7_checkWhat_9 dX7_checkWhat_12 dX7_checkWhat_13 dX7_checkWhat_16 dX7_checkWhat_19 rfl (by decide) (by decide) (Nat.le_of_ble_eq_true rfl) (Nat.le_of_ble_eq_true rfl) (fun n9 h9 => Or.inr ⟨fun h => absurd h.2 c_6, rfl, rfl, h9⟩)
