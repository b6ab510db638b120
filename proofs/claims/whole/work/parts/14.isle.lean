/-! an island changes: numbers put, the inventory, the log, draws, weather, leaving, items that come, copies -/
section PIS
variable {E : EV} {d mc ms : Nat} {K : MR} {Q : OC → AH → Prop} {G : AH} {cs : Nat × Nat} {pc : Nat} {L st : List Value}
theorem w_pis12 {idx a v : Nat} {T : ST} {sd : Int32} (hI : Isl G a T sd) (hd : decode K.2.1 pc = .ok (.putfield idx, 3)) (hf : FL K.1.cls idx 1 12 false .int) (k : ∀ G1, Isl G1 a (tu T 12 0 v) sd → Fr G G1 a → Wp E d mc ms K Q G1 cs (pc + 3) L st) : Wp E d mc ms K Q G cs pc L (.int (nI v) :: .ref a :: st) := w_putf hd hf hI.1 (by simp) rfl rfl (k _ (hI.ps0 v) (Fr.gs (by omega) (by omega)))
theorem w_pis13 {idx a v : Nat} {T : ST} {sd : Int32} (hI : Isl G a T sd) (hd : decode K.2.1 pc = .ok (.putfield idx, 3)) (hf : FL K.1.cls idx 1 13 false .int) (k : ∀ G1, Isl G1 a (tu T 12 1 v) sd → Fr G G1 a → Wp E d mc ms K Q G1 cs (pc + 3) L st) : Wp E d mc ms K Q G cs pc L (.int (nI v) :: .ref a :: st) := w_putf hd hf hI.1 (by simp) rfl rfl (k _ (hI.ps1 v) (Fr.gs (by omega) (by omega)))
theorem w_pis14 {idx a v : Nat} {T : ST} {sd : Int32} (hI : Isl G a T sd) (hd : decode K.2.1 pc = .ok (.putfield idx, 3)) (hf : FL K.1.cls idx 1 14 false .int) (k : ∀ G1, Isl G1 a (tu T 12 2 v) sd → Fr G G1 a → Wp E d mc ms K Q G1 cs (pc + 3) L st) : Wp E d mc ms K Q G cs pc L (.int (nI v) :: .ref a :: st) := w_putf hd hf hI.1 (by simp) rfl rfl (k _ (hI.ps2 v) (Fr.gs (by omega) (by omega)))
theorem w_pis15 {idx a v : Nat} {T : ST} {sd : Int32} (hI : Isl G a T sd) (hd : decode K.2.1 pc = .ok (.putfield idx, 3)) (hf : FL K.1.cls idx 1 15 false .int) (k : ∀ G1, Isl G1 a (tu T 12 3 v) sd → Fr G G1 a → Wp E d mc ms K Q G1 cs (pc + 3) L st) : Wp E d mc ms K Q G cs pc L (.int (nI v) :: .ref a :: st) := w_putf hd hf hI.1 (by simp) rfl rfl (k _ (hI.ps3 v) (Fr.gs (by omega) (by omega)))
theorem w_pis16 {idx a v : Nat} {T : ST} {sd : Int32} (hI : Isl G a T sd) (hd : decode K.2.1 pc = .ok (.putfield idx, 3)) (hf : FL K.1.cls idx 1 16 false .int) (k : ∀ G1, Isl G1 a (tu T 12 4 v) sd → Fr G G1 a → Wp E d mc ms K Q G1 cs (pc + 3) L st) : Wp E d mc ms K Q G cs pc L (.int (nI v) :: .ref a :: st) := w_putf hd hf hI.1 (by simp) rfl rfl (k _ (hI.ps4 v) (Fr.gs (by omega) (by omega)))
theorem w_pisSd {idx a : Nat} {T : ST} {sd s2 : Int32} (hI : Isl G a T sd) (hd : decode K.2.1 pc = .ok (.putfield idx, 3)) (hf : FL K.1.cls idx 1 17 false .int) (k : ∀ G1, Isl G1 a T s2 → Fr G G1 a → Wp E d mc ms K Q G1 cs (pc + 3) L st) : Wp E d mc ms K Q G cs pc L (.int s2 :: .ref a :: st) := w_putf hd hf hI.1 (by simp) rfl rfl (k _ (hI.sd s2) (Fr.gs (by omega) (by omega)))
end PIS
def bcV (x0 : Int32) : Int32 :=
  let x1 := x0 - ((x0.toUInt32 >>> ((nI 1).toUInt32 &&& Int32.toUInt32 31)).toInt32 &&& 1431655765)
  let x2 := (x1 &&& 858993459) + ((x1.toUInt32 >>> ((nI 2).toUInt32 &&& Int32.toUInt32 31)).toInt32 &&& 858993459)
  let x3 := (x2 + (x2.toUInt32 >>> ((nI 4).toUInt32 &&& Int32.toUInt32 31)).toInt32) &&& 252645135
  let x4 := x3 + (x3.toUInt32 >>> ((nI 8).toUInt32 &&& Int32.toUInt32 31)).toInt32
  let x5 := x4 + (x4.toUInt32 >>> ((nI 16).toUInt32 &&& Int32.toUInt32 31)).toInt32
  x5 &&& nI 63
def cntN : Nat → Nat → Nat | 0, _ => 0 | n + 1, s => cntN n s + (s / 2 ^ n) % 2
theorem bc_all : ∀ a b : Fin 64, bcV (nI (64 * a.val + b.val)) = nI (cntN 12 (64 * a.val + b.val)) := by decide +kernel
theorem bcV_N {s : Nat} (h : s < 4096) : bcV (nI s) = nI (cntN 12 s) := by
  have := bc_all ⟨s / 64, by omega⟩ ⟨s % 64, by omega⟩
  rwa [show 64 * (s / 64) + s % 64 = s by omega] at this
theorem c_bitCountI {E : EV} {x : Int32} {G : AH}  : Cu E 1 kJ6_bitCount_0f7a4 [.int x] G (.int (bcV x)) G := by
  refine Ct.intro rfl (by decide) [.int x] (by simp [Value.category]) (Nat.le_of_ble_eq_true rfl) rfl ?_
  refine w_iload_n dJ6_bitCount_0f7a4_0 rfl ?_
  refine w_iload_n dJ6_bitCount_0f7a4_1 rfl ?_
  refine w_iconst (v := nI 1) dJ6_bitCount_0f7a4_2 (by decide) ?_
  refine w_iushr dJ6_bitCount_0f7a4_3 ?_
  refine w_ldcw (v := 1431655765) dJ6_bitCount_0f7a4_4 u_360 ?_
  refine w_iand dJ6_bitCount_0f7a4_7 ?_
  refine w_isub dJ6_bitCount_0f7a4_8 ?_
  refine w_istore_0 dJ6_bitCount_0f7a4_9 ?_
  refine w_iload_n dJ6_bitCount_0f7a4_10 rfl ?_
  refine w_ldcw (v := 858993459) dJ6_bitCount_0f7a4_11 u_361 ?_
  refine w_iand dJ6_bitCount_0f7a4_14 ?_
  refine w_iload_n dJ6_bitCount_0f7a4_15 rfl ?_
  refine w_iconst (v := nI 2) dJ6_bitCount_0f7a4_16 (by decide) ?_
  refine w_iushr dJ6_bitCount_0f7a4_17 ?_
  refine w_ldcw (v := 858993459) dJ6_bitCount_0f7a4_18 u_361 ?_
  refine w_iand dJ6_bitCount_0f7a4_21 ?_
  refine w_iadd dJ6_bitCount_0f7a4_22 ?_
  refine w_istore_0 dJ6_bitCount_0f7a4_23 ?_
  refine w_iload_n dJ6_bitCount_0f7a4_24 rfl ?_
  refine w_iload_n dJ6_bitCount_0f7a4_25 rfl ?_
  refine w_iconst (v := nI 4) dJ6_bitCount_0f7a4_26 (by decide) ?_
  refine w_iushr dJ6_bitCount_0f7a4_27 ?_
  refine w_iadd dJ6_bitCount_0f7a4_28 ?_
  refine w_ldcw (v := 252645135) dJ6_bitCount_0f7a4_29 u_362 ?_
  refine w_iand dJ6_bitCount_0f7a4_32 ?_
  refine w_istore_0 dJ6_bitCount_0f7a4_33 ?_
  refine w_iload_n dJ6_bitCount_0f7a4_34 rfl ?_
  refine w_iload_n dJ6_bitCount_0f7a4_35 rfl ?_
  refine w_bipush (v := nI 8) dJ6_bitCount_0f7a4_36 (by decide) ?_
  refine w_iushr dJ6_bitCount_0f7a4_38 ?_
  refine w_iadd dJ6_bitCount_0f7a4_39 ?_
  refine w_istore_0 dJ6_bitCount_0f7a4_40 ?_
  refine w_iload_n dJ6_bitCount_0f7a4_41 rfl ?_
  refine w_iload_n dJ6_bitCount_0f7a4_42 rfl ?_
  refine w_bipush (v := nI 16) dJ6_bitCount_0f7a4_43 (by decide) ?_
  refine w_iushr dJ6_bitCount_0f7a4_45 ?_
  refine w_iadd dJ6_bitCount_0f7a4_46 ?_
  refine w_istore_0 dJ6_bitCount_0f7a4_47 ?_
  refine w_iload_n dJ6_bitCount_0f7a4_48 rfl ?_
  refine w_bipush (v := nI 63) dJ6_bitCount_0f7a4_49 (by decide) ?_
  refine w_iand dJ6_bitCount_0f7a4_51 ?_
  refine w_iret dJ6_bitCount_0f7a4_52 rfl (Nat.le_of_ble_eq_true rfl) (Nat.le_of_ble_eq_true rfl) ?_
  exact ⟨rfl, rfl⟩
theorem c_bitCount {E : EV} {s : Nat} {G : AH} (h : s < 4096) : Cu E 1 kJ6_bitCount_0f7a4 [.int (nI s)] G (.int (nI (cntN 12 s))) G := c_bitCountI.v (by rw [bcV_N h])
theorem bitN_lt (p : Nat → Prop) [DecidablePred p] : ∀ n, bitN p n < 2 ^ n
  | 0 => Nat.one_pos
  | n + 1 => by
    have ih := bitN_lt p n
    unfold bitN
    split
    · rw [Nat.one_mul]
      exact Nat.or_lt_two_pow (Nat.lt_of_lt_of_le ih (Nat.pow_le_pow_right (by decide) (by omega))) (Nat.pow_lt_pow_right (by decide) (by omega))
    · exact Nat.lt_of_lt_of_le ih (Nat.pow_le_pow_right (by decide) (by omega))
theorem bitN_12 (p : Nat → Prop) [DecidablePred p] {n : Nat} (h : n ≤ 12) : bitN p n < 4096 := Nat.lt_of_lt_of_le (bitN_lt p n) (Nat.pow_le_pow_right (n := 2) (by decide) h)
theorem cntN_le (s : Nat) : ∀ n, cntN n s ≤ n
  | 0 => Nat.le_refl _
  | n + 1 => by have := cntN_le s n; unfold cntN; omega
def takeT (T : ST) : ST := fun g j => if g = 5 then T 1 j else if g = 6 then T 2 j else if g = 12 ∧ j = 4 then sumN 6 (T 7) else T g j
theorem Isl.r5 {G : AH} {a : Nat} {T : ST} {sd : Int32} (h : Isl G a T sd) (f : Nat → Nat) : Isl (gs G (a + 6) (aI 12 (fun i => nI (f i)))) a (fun g j => if g = 5 then f j else T g j) sd := by
  obtain ⟨i0, i1, i2, i3, i4, i5, i6, i7, i8, i9, i10, i11, i12, i13⟩ := h
  exact ⟨by rw [gs_ne (by omega)]; exact i0, by rw [gs_ne (by omega)]; exact i1, by rw [gs_ne (by omega)]; exact i2, by rw [gs_ne (by omega)]; exact i3, by rw [gs_ne (by omega)]; exact i4, by rw [gs_ne (by omega)]; exact i5, gs_at, by rw [gs_ne (by omega)]; exact i7, by rw [gs_ne (by omega)]; exact i8, by rw [gs_ne (by omega)]; exact i9, by rw [gs_ne (by omega)]; exact i10, by rw [gs_ne (by omega)]; exact i11, by rw [gs_ne (by omega)]; exact i12, by rw [gs_ne (by omega)]; exact i13⟩
theorem Isl.r6 {G : AH} {a : Nat} {T : ST} {sd : Int32} (h : Isl G a T sd) (f : Nat → Nat) : Isl (gs G (a + 7) (aI 12 (fun i => nI (f i)))) a (fun g j => if g = 6 then f j else T g j) sd := by
  obtain ⟨i0, i1, i2, i3, i4, i5, i6, i7, i8, i9, i10, i11, i12, i13⟩ := h
  exact ⟨by rw [gs_ne (by omega)]; exact i0, by rw [gs_ne (by omega)]; exact i1, by rw [gs_ne (by omega)]; exact i2, by rw [gs_ne (by omega)]; exact i3, by rw [gs_ne (by omega)]; exact i4, by rw [gs_ne (by omega)]; exact i5, by rw [gs_ne (by omega)]; exact i6, gs_at, by rw [gs_ne (by omega)]; exact i8, by rw [gs_ne (by omega)]; exact i9, by rw [gs_ne (by omega)]; exact i10, by rw [gs_ne (by omega)]; exact i11, by rw [gs_ne (by omega)]; exact i12, by rw [gs_ne (by omega)]; exact i13⟩
theorem Isl.congr {G : AH} {a : Nat} {T T2 : ST} {sd : Int32} (h : Isl G a T sd) (e : T = T2) : Isl G a T2 sd := e ▸ h
theorem c_takeInventory {E : EV} {a : Nat} {T : ST} {sd : Int32} {G : AH} (hI : Isl G a T sd) (hB : Bd T) : Cd E 3 kX1_takeInventory [.ref a] G (fun G1 => Isl G1 a (takeT T) sd ∧ Fr G G1 a) := by
  obtain ⟨i0, i1, i2, i3, i4, i5, i6, i7, i8, i9, i10, i11, i12, i13⟩ := id hI
  obtain ⟨b0, b1, b2_, b3, b4, b5, b6, b7, b8, b9, b10, b11, b12, b13, b14, b15, b16, b17, b18, b19⟩ := id hB
  refine Ct.intro rfl (by decide) [.ref a] (by simp [Value.category]) (Nat.le_of_ble_eq_true rfl) rfl ?_
  refine w_aload_n dX1_takeInventory_0 rfl ?_
  refine w_getf dX1_takeInventory_1 fl_X1_15 (by first | assumption | exact gs_at | (rw [gs_ne (by omega)]; (first | assumption | exact gs_at | (rw [gs_ne (by omega)]; (first | assumption | exact gs_at | (rw [gs_ne (by omega)]; (first | assumption | exact gs_at | (rw [gs_ne (by omega)]; (first | assumption | exact gs_at))))))))) rfl ?_
  refine w_aload_n dX1_takeInventory_4 rfl ?_
  refine w_getf dX1_takeInventory_5 fl_X1_27 (by first | assumption | exact gs_at | (rw [gs_ne (by omega)]; (first | assumption | exact gs_at | (rw [gs_ne (by omega)]; (first | assumption | exact gs_at | (rw [gs_ne (by omega)]; (first | assumption | exact gs_at | (rw [gs_ne (by omega)]; (first | assumption | exact gs_at))))))))) rfl ?_
  refine wN2d dX1_takeInventory_8 lk_X1_71 rfl ((c_copyRow (by first | assumption | exact gs_at | (rw [gs_ne (by omega)]; (first | assumption | exact gs_at | (rw [gs_ne (by omega)]; (first | assumption | exact gs_at | (rw [gs_ne (by omega)]; (first | assumption | exact gs_at | (rw [gs_ne (by omega)]; (first | assumption | exact gs_at))))))))) (by first | assumption | exact gs_at | (rw [gs_ne (by omega)]; (first | assumption | exact gs_at | (rw [gs_ne (by omega)]; (first | assumption | exact gs_at | (rw [gs_ne (by omega)]; (first | assumption | exact gs_at | (rw [gs_ne (by omega)]; (first | assumption | exact gs_at))))))))) (by decide)).imp (P := fun G1 => Isl G1 a (fun g j => if g = 5 then T 1 j else T g j) sd ∧ Fr G G1 a) (fun G1 e => by subst e; exact ⟨hI.r5 (T 1), Fr.gs (by omega) (by omega)⟩)) (Nat.le_of_ble_eq_true rfl) (Nat.le_of_ble_eq_true rfl) (Nat.le_of_ble_eq_true rfl) (Nat.le_of_ble_eq_true rfl) (fun G1 h_8 => ?_)
  obtain ⟨hI1, hF1⟩ := h_8
  obtain ⟨i0, i1, i2, i3, i4, i5, i6, i7, i8, i9, i10, i11, i12, i13⟩ := id hI1
  refine w_aload_n dX1_takeInventory_11 rfl ?_
  refine w_getf dX1_takeInventory_12 fl_X1_18 (by first | assumption | exact gs_at | (rw [gs_ne (by omega)]; (first | assumption | exact gs_at | (rw [gs_ne (by omega)]; (first | assumption | exact gs_at | (rw [gs_ne (by omega)]; (first | assumption | exact gs_at | (rw [gs_ne (by omega)]; (first | assumption | exact gs_at))))))))) rfl ?_
  refine w_aload_n dX1_takeInventory_15 rfl ?_
  refine w_getf dX1_takeInventory_16 fl_X1_30 (by first | assumption | exact gs_at | (rw [gs_ne (by omega)]; (first | assumption | exact gs_at | (rw [gs_ne (by omega)]; (first | assumption | exact gs_at | (rw [gs_ne (by omega)]; (first | assumption | exact gs_at | (rw [gs_ne (by omega)]; (first | assumption | exact gs_at))))))))) rfl ?_
  refine wN2d dX1_takeInventory_19 lk_X1_71 rfl ((c_copyRow (by first | assumption | exact gs_at | (rw [gs_ne (by omega)]; (first | assumption | exact gs_at | (rw [gs_ne (by omega)]; (first | assumption | exact gs_at | (rw [gs_ne (by omega)]; (first | assumption | exact gs_at | (rw [gs_ne (by omega)]; (first | assumption | exact gs_at))))))))) (by first | assumption | exact gs_at | (rw [gs_ne (by omega)]; (first | assumption | exact gs_at | (rw [gs_ne (by omega)]; (first | assumption | exact gs_at | (rw [gs_ne (by omega)]; (first | assumption | exact gs_at | (rw [gs_ne (by omega)]; (first | assumption | exact gs_at))))))))) (by decide)).imp (P := fun G2 => Isl G2 a (fun g j => if g = 6 then T 2 j else if g = 5 then T 1 j else T g j) sd ∧ Fr G1 G2 a) (fun G2 e => by subst e; exact ⟨hI1.r6 (T 2), Fr.gs (by omega) (by omega)⟩)) (Nat.le_of_ble_eq_true rfl) (Nat.le_of_ble_eq_true rfl) (Nat.le_of_ble_eq_true rfl) (Nat.le_of_ble_eq_true rfl) (fun G2 h_19 => ?_)
  obtain ⟨hI2, hF2⟩ := h_19
  obtain ⟨i0, i1, i2, i3, i4, i5, i6, i7, i8, i9, i10, i11, i12, i13⟩ := id hI2
  refine w_aload_n dX1_takeInventory_22 rfl ?_
  refine w_aload_n dX1_takeInventory_23 rfl ?_
  refine w_getf dX1_takeInventory_24 fl_X1_33 (by first | assumption | exact gs_at | (rw [gs_ne (by omega)]; (first | assumption | exact gs_at | (rw [gs_ne (by omega)]; (first | assumption | exact gs_at | (rw [gs_ne (by omega)]; (first | assumption | exact gs_at | (rw [gs_ne (by omega)]; (first | assumption | exact gs_at))))))))) rfl ?_
  refine w_bipush (v := nI 6) dX1_takeInventory_27 (by decide) ?_
  refine wN2u dX1_takeInventory_29 lk_X1_120 rfl (c_total (f := T 7) (by first | assumption | exact gs_at | (rw [gs_ne (by omega)]; (first | assumption | exact gs_at | (rw [gs_ne (by omega)]; (first | assumption | exact gs_at | (rw [gs_ne (by omega)]; (first | assumption | exact gs_at | (rw [gs_ne (by omega)]; (first | assumption | exact gs_at))))))))) (by decide) (by decide)) (Nat.le_of_ble_eq_true rfl) (Nat.le_of_ble_eq_true rfl) (Nat.le_of_ble_eq_true rfl) (Nat.le_of_ble_eq_true rfl) ?_
  refine w_pis16 (v := sumN 6 (T 7)) hI2 dX1_takeInventory_32 fl_X1_65 (fun G3 hI3 hF3 => ?_)
  refine w_vret dX1_takeInventory_35 rfl (Nat.le_of_ble_eq_true rfl) (Nat.le_of_ble_eq_true rfl) ?_
  refine ⟨rfl, hI3.congr ?_, hF1.tr (hF2.tr hF3)⟩
  funext g j
  unfold tu takeT
  by_cases h5 : g = 5
  · subst h5; simp
  · by_cases h6 : g = 6
    · subst h6; simp
    · simp [h5, h6]
