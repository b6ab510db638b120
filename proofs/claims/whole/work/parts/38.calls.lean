/-! the object's calls that may refuse -/
def XOut (xs : List String) (k : Nat) (v : Int32) (o : OC) : Prop := (k = 0 → o = .inl (some (.int v))) ∧ ∀ j X, k = j + 1 → xs[j]? = some X → o = .inr X
theorem XOut.ok {xs : List String} {k : Nat} {v w : Int32} (h : k = 0) (hv : w = v) : XOut xs k v (.inl (some (.int w))) := ⟨fun _ => by rw [hv], fun j X e => by omega⟩
theorem XOut.no {xs : List String} {k j : Nat} {v : Int32} {X : String} (h : k = j + 1) (hx : xs[j]? = some X) : XOut xs k v (.inr X) := ⟨fun e => by omega, fun j2 X2 e h2 => by
  have e2 : j2 = j := by omega
  subst e2
  rw [hx] at h2
  cases h2
  rfl⟩
def xk1 (p : Prop) [Decidable p] : Nat := if p then 0 else 1
def xk2 (p q : Prop) [Decidable p] [Decidable q] : Nat := if p then (if q then 0 else 2) else 1
def xk3 (p q r : Prop) [Decidable p] [Decidable q] [Decidable r] : Nat := if p then (if q then (if r then 0 else 3) else 2) else 1
abbrev okI (n : Nat) (x : Int32) : Prop := ¬ x < nI 0 ∧ x < nI n
abbrev okN (a : Nat) (b x : Int32) : Prop := ¬ x < nI a ∧ x ≤ b
def ix (x : Int32) : Nat := x.toInt.toNat
theorem ix_nI {i : Nat} (h : i < 2 ^ 31) : ix (nI i) = i := by
  unfold ix
  rw [nI_toInt h]
  rfl
def itemV (T : ST) (i : Nat) (w : Int32) : Int32 := if w = nI 0 then nI (T 1 i) else if w = nI 1 then nI (T 0 i) else if w = nI 2 then nI (T 2 i) else if w = nI 3 then nI (T 3 i) else if w = nI 4 then nI (T 4 i) else if w = nI 5 then nI (T 5 i) else if w = nI 6 then nI (T 6 i) else if w = nI 7 then nI (b2 (T 1 i ≠ T 5 i)) else if w = nI 8 then nI (worN T i) else nI (wrkN T i)
def roomV (T : ST) (r : Nat) (w : Int32) : Int32 := if w = nI 0 then nI (T 7 r) else if w = nI 1 then nI (T 8 r) else if w = nI 2 then nI (bitN (fun i => T 1 i = r) (T 12 0)) else nI (bitN (fun i => T 0 i = r) (T 12 0))
def sideV (T : ST) (s : Nat) (w : Int32) : Int32 := if w = nI 0 then nI (T 9 s) else if w = nI 1 then nI (T 10 s) else if w = nI 2 then nI (bitN (fun i => T 4 i = s) (T 12 0)) else if w = nI 3 then needV T s else lateV T s
def aheadV (T : ST) (i : Nat) (w : Int32) : Int32 := if w = nI 0 then nI (T 1 i) else if w = nI 1 then nI (T 2 i) else nI (b2 (T 1 i ≠ T 5 i))
theorem c_item {E : EV} {G : AH} {B tn im nw rm ru sp : Nat} {f : Nat → Nat} {wb sd si : Int32} {T Ti : ST} {D Di : LD} {P : Nat → ST × Int32} {x w : Int32} (hH : HI G B tn f wb T sd D im Ti si Di nw rm P ru sp)  : Ct E 10 2 12 kX7_item [.ref B, .int x, .int w] G (fun o G1 => XOut ["java/lang/IndexOutOfBoundsException", "java/util/NoSuchElementException"] (xk2 (okI (T 12 0) x) (okN 0 (nI 9) w)) (itemV T (ix x) w) o ∧ HI G1 B tn f wb T sd D im Ti si Di nw rm P ru sp ∧ FH G G1 B) := by
  obtain ⟨hB, ⟨htn, him, hnw, hrm⟩, hT, hRd, ⟨hI, hBd⟩, hS, ⟨hL, hD, hSp, hrs⟩, ⟨hIi, hBi, hLi, hDi⟩, ⟨hPa, hPi⟩, ⟨⟨we, hwe⟩, hSm, hSv, ⟨od, hod⟩⟩⟩ := id hH; obtain ⟨⟨_, _, _, _, _, _, gS0⟩, _⟩ := id hS; have hI0 := hI.1; have hIi0 := hIi.1
  obtain ⟨i0, i1, i2, i3, i4, i5, i6, i7, i8, i9, i10, i11, i12, i13⟩ := id hI
  obtain ⟨b0, b1, b2_, b3, b4, b5, b6, b7, b8, b9, b10, b11, b12, b13, b14, b15, b16, b17, b18, b19⟩ := id hBd
  have hls := HI.ls hH
  have hla : ru + 6 ≤ B + 9 ∨ B + 9 + 14 ≤ ru := by omega
  have hlb : ru + 6 ≤ B + 23 ∨ B + 23 + 14 ≤ ru := by omega
  refine Ct.intro rfl (by decide) [.ref B, .int x, .int w] (by simp [Value.category]) (Nat.le_of_ble_eq_true rfl) rfl ?_
  refine w_aload_n dX7_item_0 rfl ?_
  refine w_iload_n dX7_item_1 rfl ?_
  refine wV1k dX7_item_2 lk_X7_127 rfl (by first | assumption | exact gs_at | (rw [gs_ne (by omega)]; (first | assumption | exact gs_at | (rw [gs_ne (by omega)]; (first | assumption | exact gs_at | (rw [gs_ne (by omega)]; (first | assumption | exact gs_at | (rw [gs_ne (by omega)]; (first | assumption | exact gs_at))))))))) rfl rfl rfl (c_checkItem hB hI) (Nat.le_of_ble_eq_true rfl) (Nat.le_of_ble_eq_true rfl) (Nat.le_of_ble_eq_true rfl) (Nat.le_of_ble_eq_true rfl) ((fun h9 n9 h8 => ⟨XOut.no (j := 0) (by rw [xk2, if_neg h9]) rfl, hH.x, FH.x h8⟩)) (fun ok_2 => ?_)
  obtain ⟨i, hi9, rfl⟩ := in_N (by omega) ok_2
  refine w_iload_n dX7_item_5 rfl ?_
  refine w_bipush (v := nI 9) dX7_item_6 (by decide) ?_
  refine wS2k dX7_item_8 lk_X7_130 rfl rfl (c_checkWhat) (Nat.le_of_ble_eq_true rfl) (Nat.le_of_ble_eq_true rfl) (Nat.le_of_ble_eq_true rfl) (Nat.le_of_ble_eq_true rfl) ((fun h9 n9 h8 => ⟨XOut.no (j := 1) (by rw [xk2, if_pos ok_2, if_neg h9]) rfl, hH.x, FH.x h8⟩)) (fun ok_8 => ?_)
  refine w_iload_n dX7_item_11 rfl ?_
  by_cases s_12_0 : w = nI 0
  · refine w_tabIn (tgt := 64) (off := 52) dX7_item_12 (by rw [s_12_0]; decide) (by rw [s_12_0]; decide) (by rw [s_12_0]; rfl) (by decide) ?_
    refine w_aload_n dX7_item_64 rfl ?_
    refine w_getf dX7_item_65 fl_X7_37 (by first | assumption | exact gs_at | (rw [gs_ne (by omega)]; (first | assumption | exact gs_at | (rw [gs_ne (by omega)]; (first | assumption | exact gs_at | (rw [gs_ne (by omega)]; (first | assumption | exact gs_at | (rw [gs_ne (by omega)]; (first | assumption | exact gs_at))))))))) rfl ?_
    refine w_getf dX7_item_68 fl_X7_134 (by first | assumption | exact gs_at | (rw [gs_ne (by omega)]; (first | assumption | exact gs_at | (rw [gs_ne (by omega)]; (first | assumption | exact gs_at | (rw [gs_ne (by omega)]; (first | assumption | exact gs_at | (rw [gs_ne (by omega)]; (first | assumption | exact gs_at))))))))) rfl ?_
    refine w_iload_n dX7_item_71 rfl ?_
    refine wS2u dX7_item_72 lk_X7_137 rfl (c_atN (f := fun i => nI (T 1 i)) i2 (by omega) (by decide)) (Nat.le_of_ble_eq_true rfl) (Nat.le_of_ble_eq_true rfl) (Nat.le_of_ble_eq_true rfl) (Nat.le_of_ble_eq_true rfl) ?_
    refine w_iret dX7_item_75 rfl (Nat.le_of_ble_eq_true rfl) (Nat.le_of_ble_eq_true rfl) ?_
    refine ⟨XOut.ok (by rw [xk2, if_pos ok_2, if_pos ok_8]) ?_, hH, FH.rf⟩
    try rw [ix_nI (by omega)]
    try rw [ix_nI (by omega)]
    rw [itemV]
    first
      | (rw [if_pos s_12_0]; done)
      | (rw [if_neg s_12_0, if_pos s_12_1]; done)
      | (rw [if_neg s_12_0, if_neg s_12_1, if_pos s_12_2]; done)
      | (rw [if_neg s_12_0, if_neg s_12_1, if_neg s_12_2, if_pos s_12_3]; done)
      | (rw [if_neg s_12_0, if_neg s_12_1, if_neg s_12_2, if_neg s_12_3, if_pos s_12_4]; done)
      | (rw [if_neg s_12_0, if_neg s_12_1, if_neg s_12_2, if_neg s_12_3, if_neg s_12_4, if_pos s_12_5]; done)
      | (rw [if_neg s_12_0, if_neg s_12_1, if_neg s_12_2, if_neg s_12_3, if_neg s_12_4, if_neg s_12_5, if_pos s_12_6]; done)
      | (rw [if_neg s_12_0, if_neg s_12_1, if_neg s_12_2, if_neg s_12_3, if_neg s_12_4, if_neg s_12_5, if_neg s_12_6, if_pos s_12_7]; done)
      | (rw [if_neg s_12_0, if_neg s_12_1, if_neg s_12_2, if_neg s_12_3, if_neg s_12_4, if_neg s_12_5, if_neg s_12_6, if_neg s_12_7, if_pos s_12_8]; done)
      | (rw [if_neg s_12_0, if_neg s_12_1, if_neg s_12_2, if_neg s_12_3, if_neg s_12_4, if_neg s_12_5, if_neg s_12_6, if_neg s_12_7, if_neg s_12_8]; done)
      | (rw [if_pos s_12_0, b2, if_pos c_156]; done)
      | (rw [if_pos s_12_0, b2, if_neg (fun h => c_156 h)]; done)
      | (rw [if_pos s_12_0, b2, if_neg (fun h => h c_156)]; done)
      | (rw [if_neg s_12_0, if_pos s_12_1, b2, if_pos c_156]; done)
      | (rw [if_neg s_12_0, if_pos s_12_1, b2, if_neg (fun h => c_156 h)]; done)
      | (rw [if_neg s_12_0, if_pos s_12_1, b2, if_neg (fun h => h c_156)]; done)
      | (rw [if_neg s_12_0, if_neg s_12_1, if_pos s_12_2, b2, if_pos c_156]; done)
      | (rw [if_neg s_12_0, if_neg s_12_1, if_pos s_12_2, b2, if_neg (fun h => c_156 h)]; done)
      | (rw [if_neg s_12_0, if_neg s_12_1, if_pos s_12_2, b2, if_neg (fun h => h c_156)]; done)
      | (rw [if_neg s_12_0, if_neg s_12_1, if_neg s_12_2, if_pos s_12_3, b2, if_pos c_156]; done)
      | (rw [if_neg s_12_0, if_neg s_12_1, if_neg s_12_2, if_pos s_12_3, b2, if_neg (fun h => c_156 h)]; done)
      | (rw [if_neg s_12_0, if_neg s_12_1, if_neg s_12_2, if_pos s_12_3, b2, if_neg (fun h => h c_156)]; done)
      | (rw [if_neg s_12_0, if_neg s_12_1, if_neg s_12_2, if_neg s_12_3, if_pos s_12_4, b2, if_pos c_156]; done)
      | (rw [if_neg s_12_0, if_neg s_12_1, if_neg s_12_2, if_neg s_12_3, if_pos s_12_4, b2, if_neg (fun h => c_156 h)]; done)
      | (rw [if_neg s_12_0, if_neg s_12_1, if_neg s_12_2, if_neg s_12_3, if_pos s_12_4, b2, if_neg (fun h => h c_156)]; done)
      | (rw [if_neg s_12_0, if_neg s_12_1, if_neg s_12_2, if_neg s_12_3, if_neg s_12_4, if_pos s_12_5, b2, if_pos c_156]; done)
      | (rw [if_neg s_12_0, if_neg s_12_1, if_neg s_12_2, if_neg s_12_3, if_neg s_12_4, if_pos s_12_5, b2, if_neg (fun h => c_156 h)]; done)
      | (rw [if_neg s_12_0, if_neg s_12_1, if_neg s_12_2, if_neg s_12_3, if_neg s_12_4, if_pos s_12_5, b2, if_neg (fun h => h c_156)]; done)
      | (rw [if_neg s_12_0, if_neg s_12_1, if_neg s_12_2, if_neg s_12_3, if_neg s_12_4, if_neg s_12_5, if_pos s_12_6, b2, if_pos c_156]; done)
      | (rw [if_neg s_12_0, if_neg s_12_1, if_neg s_12_2, if_neg s_12_3, if_neg s_12_4, if_neg s_12_5, if_pos s_12_6, b2, if_neg (fun h => c_156 h)]; done)
      | (rw [if_neg s_12_0, if_neg s_12_1, if_neg s_12_2, if_neg s_12_3, if_neg s_12_4, if_neg s_12_5, if_pos s_12_6, b2, if_neg (fun h => h c_156)]; done)
      | (rw [if_neg s_12_0, if_neg s_12_1, if_neg s_12_2, if_neg s_12_3, if_neg s_12_4, if_neg s_12_5, if_neg s_12_6, if_pos s_12_7, b2, if_pos c_156]; done)
      | (rw [if_neg s_12_0, if_neg s_12_1, if_neg s_12_2, if_neg s_12_3, if_neg s_12_4, if_neg s_12_5, if_neg s_12_6, if_pos s_12_7, b2, if_neg (fun h => c_156 h)]; done)
      | (rw [if_neg s_12_0, if_neg s_12_1, if_neg s_12_2, if_neg s_12_3, if_neg s_12_4, if_neg s_12_5, if_neg s_12_6, if_pos s_12_7, b2, if_neg (fun h => h c_156)]; done)
      | (rw [if_neg s_12_0, if_neg s_12_1, if_neg s_12_2, if_neg s_12_3, if_neg s_12_4, if_neg s_12_5, if_neg s_12_6, if_neg s_12_7, if_pos s_12_8, b2, if_pos c_156]; done)
      | (rw [if_neg s_12_0, if_neg s_12_1, if_neg s_12_2, if_neg s_12_3, if_neg s_12_4, if_neg s_12_5, if_neg s_12_6, if_neg s_12_7, if_pos s_12_8, b2, if_neg (fun h => c_156 h)]; done)
      | (rw [if_neg s_12_0, if_neg s_12_1, if_neg s_12_2, if_neg s_12_3, if_neg s_12_4, if_neg s_12_5, if_neg s_12_6, if_neg s_12_7, if_pos s_12_8, b2, if_neg (fun h => h c_156)]; done)
      | (rw [if_neg s_12_0, if_neg s_12_1, if_neg s_12_2, if_neg s_12_3, if_neg s_12_4, if_neg s_12_5, if_neg s_12_6, if_neg s_12_7, if_neg s_12_8, b2, if_pos c_156]; done)
      | (rw [if_neg s_12_0, if_neg s_12_1, if_neg s_12_2, if_neg s_12_3, if_neg s_12_4, if_neg s_12_5, if_neg s_12_6, if_neg s_12_7, if_neg s_12_8, b2, if_neg (fun h => c_156 h)]; done)
      | (rw [if_neg s_12_0, if_neg s_12_1, if_neg s_12_2, if_neg s_12_3, if_neg s_12_4, if_neg s_12_5, if_neg s_12_6, if_neg s_12_7, if_neg s_12_8, b2, if_neg (fun h => h c_156)]; done)
  ·
    by_cases s_12_1 : w = nI 1
    · refine w_tabIn (tgt := 76) (off := 64) dX7_item_12 (by rw [s_12_1]; decide) (by rw [s_12_1]; decide) (by rw [s_12_1]; rfl) (by decide) ?_
      refine w_aload_n dX7_item_76 rfl ?_
      refine w_getf dX7_item_77 fl_X7_37 (by first | assumption | exact gs_at | (rw [gs_ne (by omega)]; (first | assumption | exact gs_at | (rw [gs_ne (by omega)]; (first | assumption | exact gs_at | (rw [gs_ne (by omega)]; (first | assumption | exact gs_at | (rw [gs_ne (by omega)]; (first | assumption | exact gs_at))))))))) rfl ?_
      refine w_getf dX7_item_80 fl_X7_141 (by first | assumption | exact gs_at | (rw [gs_ne (by omega)]; (first | assumption | exact gs_at | (rw [gs_ne (by omega)]; (first | assumption | exact gs_at | (rw [gs_ne (by omega)]; (first | assumption | exact gs_at | (rw [gs_ne (by omega)]; (first | assumption | exact gs_at))))))))) rfl ?_
      refine w_iload_n dX7_item_83 rfl ?_
      refine wS2u dX7_item_84 lk_X7_137 rfl (c_atN (f := fun i => nI (T 0 i)) i1 (by omega) (by decide)) (Nat.le_of_ble_eq_true rfl) (Nat.le_of_ble_eq_true rfl) (Nat.le_of_ble_eq_true rfl) (Nat.le_of_ble_eq_true rfl) ?_
      refine w_iret dX7_item_87 rfl (Nat.le_of_ble_eq_true rfl) (Nat.le_of_ble_eq_true rfl) ?_
      refine ⟨XOut.ok (by rw [xk2, if_pos ok_2, if_pos ok_8]) ?_, hH, FH.rf⟩
      try rw [ix_nI (by omega)]
      try rw [ix_nI (by omega)]
      rw [itemV]
      first
        | (rw [if_pos s_12_0]; done)
        | (rw [if_neg s_12_0, if_pos s_12_1]; done)
        | (rw [if_neg s_12_0, if_neg s_12_1, if_pos s_12_2]; done)
        | (rw [if_neg s_12_0, if_neg s_12_1, if_neg s_12_2, if_pos s_12_3]; done)
        | (rw [if_neg s_12_0, if_neg s_12_1, if_neg s_12_2, if_neg s_12_3, if_pos s_12_4]; done)
        | (rw [if_neg s_12_0, if_neg s_12_1, if_neg s_12_2, if_neg s_12_3, if_neg s_12_4, if_pos s_12_5]; done)
        | (rw [if_neg s_12_0, if_neg s_12_1, if_neg s_12_2, if_neg s_12_3, if_neg s_12_4, if_neg s_12_5, if_pos s_12_6]; done)
        | (rw [if_neg s_12_0, if_neg s_12_1, if_neg s_12_2, if_neg s_12_3, if_neg s_12_4, if_neg s_12_5, if_neg s_12_6, if_pos s_12_7]; done)
        | (rw [if_neg s_12_0, if_neg s_12_1, if_neg s_12_2, if_neg s_12_3, if_neg s_12_4, if_neg s_12_5, if_neg s_12_6, if_neg s_12_7, if_pos s_12_8]; done)
        | (rw [if_neg s_12_0, if_neg s_12_1, if_neg s_12_2, if_neg s_12_3, if_neg s_12_4, if_neg s_12_5, if_neg s_12_6, if_neg s_12_7, if_neg s_12_8]; done)
        | (rw [if_pos s_12_0, b2, if_pos c_156]; done)
        | (rw [if_pos s_12_0, b2, if_neg (fun h => c_156 h)]; done)
        | (rw [if_pos s_12_0, b2, if_neg (fun h => h c_156)]; done)
        | (rw [if_neg s_12_0, if_pos s_12_1, b2, if_pos c_156]; done)
        | (rw [if_neg s_12_0, if_pos s_12_1, b2, if_neg (fun h => c_156 h)]; done)
        | (rw [if_neg s_12_0, if_pos s_12_1, b2, if_neg (fun h => h c_156)]; done)
        | (rw [if_neg s_12_0, if_neg s_12_1, if_pos s_12_2, b2, if_pos c_156]; done)
        | (rw [if_neg s_12_0, if_neg s_12_1, if_pos s_12_2, b2, if_neg (fun h => c_156 h)]; done)
        | (rw [if_neg s_12_0, if_neg s_12_1, if_pos s_12_2, b2, if_neg (fun h => h c_156)]; done)
        | (rw [if_neg s_12_0, if_neg s_12_1, if_neg s_12_2, if_pos s_12_3, b2, if_pos c_156]; done)
        | (rw [if_neg s_12_0, if_neg s_12_1, if_neg s_12_2, if_pos s_12_3, b2, if_neg (fun h => c_156 h)]; done)
        | (rw [if_neg s_12_0, if_neg s_12_1, if_neg s_12_2, if_pos s_12_3, b2, if_neg (fun h => h c_156)]; done)
        | (rw [if_neg s_12_0, if_neg s_12_1, if_neg s_12_2, if_neg s_12_3, if_pos s_12_4, b2, if_pos c_156]; done)
        | (rw [if_neg s_12_0, if_neg s_12_1, if_neg s_12_2, if_neg s_12_3, if_pos s_12_4, b2, if_neg (fun h => c_156 h)]; done)
        | (rw [if_neg s_12_0, if_neg s_12_1, if_neg s_12_2, if_neg s_12_3, if_pos s_12_4, b2, if_neg (fun h => h c_156)]; done)
        | (rw [if_neg s_12_0, if_neg s_12_1, if_neg s_12_2, if_neg s_12_3, if_neg s_12_4, if_pos s_12_5, b2, if_pos c_156]; done)
        | (rw [if_neg s_12_0, if_neg s_12_1, if_neg s_12_2, if_neg s_12_3, if_neg s_12_4, if_pos s_12_5, b2, if_neg (fun h => c_156 h)]; done)
        | (rw [if_neg s_12_0, if_neg s_12_1, if_neg s_12_2, if_neg s_12_3, if_neg s_12_4, if_pos s_12_5, b2, if_neg (fun h => h c_156)]; done)
        | (rw [if_neg s_12_0, if_neg s_12_1, if_neg s_12_2, if_neg s_12_3, if_neg s_12_4, if_neg s_12_5, if_pos s_12_6, b2, if_pos c_156]; done)
        | (rw [if_neg s_12_0, if_neg s_12_1, if_neg s_12_2, if_neg s_12_3, if_neg s_12_4, if_neg s_12_5, if_pos s_12_6, b2, if_neg (fun h => c_156 h)]; done)
        | (rw [if_neg s_12_0, if_neg s_12_1, if_neg s_12_2, if_neg s_12_3, if_neg s_12_4, if_neg s_12_5, if_pos s_12_6, b2, if_neg (fun h => h c_156)]; done)
        | (rw [if_neg s_12_0, if_neg s_12_1, if_neg s_12_2, if_neg s_12_3, if_neg s_12_4, if_neg s_12_5, if_neg s_12_6, if_pos s_12_7, b2, if_pos c_156]; done)
        | (rw [if_neg s_12_0, if_neg s_12_1, if_neg s_12_2, if_neg s_12_3, if_neg s_12_4, if_neg s_12_5, if_neg s_12_6, if_pos s_12_7, b2, if_neg (fun h => c_156 h)]; done)
        | (rw [if_neg s_12_0, if_neg s_12_1, if_neg s_12_2, if_neg s_12_3, if_neg s_12_4, if_neg s_12_5, if_neg s_12_6, if_pos s_12_7, b2, if_neg (fun h => h c_156)]; done)
        | (rw [if_neg s_12_0, if_neg s_12_1, if_neg s_12_2, if_neg s_12_3, if_neg s_12_4, if_neg s_12_5, if_neg s_12_6, if_neg s_12_7, if_pos s_12_8, b2, if_pos c_156]; done)
        | (rw [if_neg s_12_0, if_neg s_12_1, if_neg s_12_2, if_neg s_12_3, if_neg s_12_4, if_neg s_12_5, if_neg s_12_6, if_neg s_12_7, if_pos s_12_8, b2, if_neg (fun h => c_156 h)]; done)
        | (rw [if_neg s_12_0, if_neg s_12_1, if_neg s_12_2, if_neg s_12_3, if_neg s_12_4, if_neg s_12_5, if_neg s_12_6, if_neg s_12_7, if_pos s_12_8, b2, if_neg (fun h => h c_156)]; done)
        | (rw [if_neg s_12_0, if_neg s_12_1, if_neg s_12_2, if_neg s_12_3, if_neg s_12_4, if_neg s_12_5, if_neg s_12_6, if_neg s_12_7, if_neg s_12_8, b2, if_pos c_156]; done)
        | (rw [if_neg s_12_0, if_neg s_12_1, if_neg s_12_2, if_neg s_12_3, if_neg s_12_4, if_neg s_12_5, if_neg s_12_6, if_neg s_12_7, if_neg s_12_8, b2, if_neg (fun h => c_156 h)]; done)
        | (rw [if_neg s_12_0, if_neg s_12_1, if_neg s_12_2, if_neg s_12_3, if_neg s_12_4, if_neg s_12_5, if_neg s_12_6, if_neg s_12_7, if_neg s_12_8, b2, if_neg (fun h => h c_156)]; done)
    ·
      by_cases s_12_2 : w = nI 2
      · refine w_tabIn (tgt := 88) (off := 76) dX7_item_12 (by rw [s_12_2]; decide) (by rw [s_12_2]; decide) (by rw [s_12_2]; rfl) (by decide) ?_
        refine w_aload_n dX7_item_88 rfl ?_
        refine w_getf dX7_item_89 fl_X7_37 (by first | assumption | exact gs_at | (rw [gs_ne (by omega)]; (first | assumption | exact gs_at | (rw [gs_ne (by omega)]; (first | assumption | exact gs_at | (rw [gs_ne (by omega)]; (first | assumption | exact gs_at | (rw [gs_ne (by omega)]; (first | assumption | exact gs_at))))))))) rfl ?_
        refine w_getf dX7_item_92 fl_X7_144 (by first | assumption | exact gs_at | (rw [gs_ne (by omega)]; (first | assumption | exact gs_at | (rw [gs_ne (by omega)]; (first | assumption | exact gs_at | (rw [gs_ne (by omega)]; (first | assumption | exact gs_at | (rw [gs_ne (by omega)]; (first | assumption | exact gs_at))))))))) rfl ?_
        refine w_iload_n dX7_item_95 rfl ?_
        refine wS2u dX7_item_96 lk_X7_137 rfl (c_atN (f := fun i => nI (T 2 i)) i3 (by omega) (by decide)) (Nat.le_of_ble_eq_true rfl) (Nat.le_of_ble_eq_true rfl) (Nat.le_of_ble_eq_true rfl) (Nat.le_of_ble_eq_true rfl) ?_
        refine w_iret dX7_item_99 rfl (Nat.le_of_ble_eq_true rfl) (Nat.le_of_ble_eq_true rfl) ?_
        refine ⟨XOut.ok (by rw [xk2, if_pos ok_2, if_pos ok_8]) ?_, hH, FH.rf⟩
        try rw [ix_nI (by omega)]
        try rw [ix_nI (by omega)]
        rw [itemV]
        first
          | (rw [if_pos s_12_0]; done)
          | (rw [if_neg s_12_0, if_pos s_12_1]; done)
          | (rw [if_neg s_12_0, if_neg s_12_1, if_pos s_12_2]; done)
          | (rw [if_neg s_12_0, if_neg s_12_1, if_neg s_12_2, if_pos s_12_3]; done)
          | (rw [if_neg s_12_0, if_neg s_12_1, if_neg s_12_2, if_neg s_12_3, if_pos s_12_4]; done)
          | (rw [if_neg s_12_0, if_neg s_12_1, if_neg s_12_2, if_neg s_12_3, if_neg s_12_4, if_pos s_12_5]; done)
          | (rw [if_neg s_12_0, if_neg s_12_1, if_neg s_12_2, if_neg s_12_3, if_neg s_12_4, if_neg s_12_5, if_pos s_12_6]; done)
          | (rw [if_neg s_12_0, if_neg s_12_1, if_neg s_12_2, if_neg s_12_3, if_neg s_12_4, if_neg s_12_5, if_neg s_12_6, if_pos s_12_7]; done)
          | (rw [if_neg s_12_0, if_neg s_12_1, if_neg s_12_2, if_neg s_12_3, if_neg s_12_4, if_neg s_12_5, if_neg s_12_6, if_neg s_12_7, if_pos s_12_8]; done)
          | (rw [if_neg s_12_0, if_neg s_12_1, if_neg s_12_2, if_neg s_12_3, if_neg s_12_4, if_neg s_12_5, if_neg s_12_6, if_neg s_12_7, if_neg s_12_8]; done)
          | (rw [if_pos s_12_0, b2, if_pos c_156]; done)
          | (rw [if_pos s_12_0, b2, if_neg (fun h => c_156 h)]; done)
          | (rw [if_pos s_12_0, b2, if_neg (fun h => h c_156)]; done)
          | (rw [if_neg s_12_0, if_pos s_12_1, b2, if_pos c_156]; done)
          | (rw [if_neg s_12_0, if_pos s_12_1, b2, if_neg (fun h => c_156 h)]; done)
          | (rw [if_neg s_12_0, if_pos s_12_1, b2, if_neg (fun h => h c_156)]; done)
          | (rw [if_neg s_12_0, if_neg s_12_1, if_pos s_12_2, b2, if_pos c_156]; done)
          | (rw [if_neg s_12_0, if_neg s_12_1, if_pos s_12_2, b2, if_neg (fun h => c_156 h)]; done)
          | (rw [if_neg s_12_0, if_neg s_12_1, if_pos s_12_2, b2, if_neg (fun h => h c_156)]; done)
          | (rw [if_neg s_12_0, if_neg s_12_1, if_neg s_12_2, if_pos s_12_3, b2, if_pos c_156]; done)
          | (rw [if_neg s_12_0, if_neg s_12_1, if_neg s_12_2, if_pos s_12_3, b2, if_neg (fun h => c_156 h)]; done)
          | (rw [if_neg s_12_0, if_neg s_12_1, if_neg s_12_2, if_pos s_12_3, b2, if_neg (fun h => h c_156)]; done)
          | (rw [if_neg s_12_0, if_neg s_12_1, if_neg s_12_2, if_neg s_12_3, if_pos s_12_4, b2, if_pos c_156]; done)
          | (rw [if_neg s_12_0, if_neg s_12_1, if_neg s_12_2, if_neg s_12_3, if_pos s_12_4, b2, if_neg (fun h => c_156 h)]; done)
          | (rw [if_neg s_12_0, if_neg s_12_1, if_neg s_12_2, if_neg s_12_3, if_pos s_12_4, b2, if_neg (fun h => h c_156)]; done)
          | (rw [if_neg s_12_0, if_neg s_12_1, if_neg s_12_2, if_neg s_12_3, if_neg s_12_4, if_pos s_12_5, b2, if_pos c_156]; done)
          | (rw [if_neg s_12_0, if_neg s_12_1, if_neg s_12_2, if_neg s_12_3, if_neg s_12_4, if_pos s_12_5, b2, if_neg (fun h => c_156 h)]; done)
          | (rw [if_neg s_12_0, if_neg s_12_1, if_neg s_12_2, if_neg s_12_3, if_neg s_12_4, if_pos s_12_5, b2, if_neg (fun h => h c_156)]; done)
          | (rw [if_neg s_12_0, if_neg s_12_1, if_neg s_12_2, if_neg s_12_3, if_neg s_12_4, if_neg s_12_5, if_pos s_12_6, b2, if_pos c_156]; done)
          | (rw [if_neg s_12_0, if_neg s_12_1, if_neg s_12_2, if_neg s_12_3, if_neg s_12_4, if_neg s_12_5, if_pos s_12_6, b2, if_neg (fun h => c_156 h)]; done)
          | (rw [if_neg s_12_0, if_neg s_12_1, if_neg s_12_2, if_neg s_12_3, if_neg s_12_4, if_neg s_12_5, if_pos s_12_6, b2, if_neg (fun h => h c_156)]; done)
          | (rw [if_neg s_12_0, if_neg s_12_1, if_neg s_12_2, if_neg s_12_3, if_neg s_12_4, if_neg s_12_5, if_neg s_12_6, if_pos s_12_7, b2, if_pos c_156]; done)
          | (rw [if_neg s_12_0, if_neg s_12_1, if_neg s_12_2, if_neg s_12_3, if_neg s_12_4, if_neg s_12_5, if_neg s_12_6, if_pos s_12_7, b2, if_neg (fun h => c_156 h)]; done)
          | (rw [if_neg s_12_0, if_neg s_12_1, if_neg s_12_2, if_neg s_12_3, if_neg s_12_4, if_neg s_12_5, if_neg s_12_6, if_pos s_12_7, b2, if_neg (fun h => h c_156)]; done)
          | (rw [if_neg s_12_0, if_neg s_12_1, if_neg s_12_2, if_neg s_12_3, if_neg s_12_4, if_neg s_12_5, if_neg s_12_6, if_neg s_12_7, if_pos s_12_8, b2, if_pos c_156]; done)
          | (rw [if_neg s_12_0, if_neg s_12_1, if_neg s_12_2, if_neg s_12_3, if_neg s_12_4, if_neg s_12_5, if_neg s_12_6, if_neg s_12_7, if_pos s_12_8, b2, if_neg (fun h => c_156 h)]; done)
          | (rw [if_neg s_12_0, if_neg s_12_1, if_neg s_12_2, if_neg s_12_3, if_neg s_12_4, if_neg s_12_5, if_neg s_12_6, if_neg s_12_7, if_pos s_12_8, b2, if_neg (fun h => h c_156)]; done)
          | (rw [if_neg s_12_0, if_neg s_12_1, if_neg s_12_2, if_neg s_12_3, if_neg s_12_4, if_neg s_12_5, if_neg s_12_6, if_neg s_12_7, if_neg s_12_8, b2, if_pos c_156]; done)
          | (rw [if_neg s_12_0, if_neg s_12_1, if_neg s_12_2, if_neg s_12_3, if_neg s_12_4, if_neg s_12_5, if_neg s_12_6, if_neg s_12_7, if_neg s_12_8, b2, if_neg (fun h => c_156 h)]; done)
          | (rw [if_neg s_12_0, if_neg s_12_1, if_neg s_12_2, if_neg s_12_3, if_neg s_12_4, if_neg s_12_5, if_neg s_12_6, if_neg s_12_7, if_neg s_12_8, b2, if_neg (fun h => h c_156)]; done)
      ·
        by_cases s_12_3 : w = nI 3
        · refine w_tabIn (tgt := 100) (off := 88) dX7_item_12 (by rw [s_12_3]; decide) (by rw [s_12_3]; decide) (by rw [s_12_3]; rfl) (by decide) ?_
          refine w_aload_n dX7_item_100 rfl ?_
          refine w_getf dX7_item_101 fl_X7_37 (by first | assumption | exact gs_at | (rw [gs_ne (by omega)]; (first | assumption | exact gs_at | (rw [gs_ne (by omega)]; (first | assumption | exact gs_at | (rw [gs_ne (by omega)]; (first | assumption | exact gs_at | (rw [gs_ne (by omega)]; (first | assumption | exact gs_at))))))))) rfl ?_
          refine w_getf dX7_item_104 fl_X7_147 (by first | assumption | exact gs_at | (rw [gs_ne (by omega)]; (first | assumption | exact gs_at | (rw [gs_ne (by omega)]; (first | assumption | exact gs_at | (rw [gs_ne (by omega)]; (first | assumption | exact gs_at | (rw [gs_ne (by omega)]; (first | assumption | exact gs_at))))))))) rfl ?_
          refine w_iload_n dX7_item_107 rfl ?_
          refine wS2u dX7_item_108 lk_X7_137 rfl (c_atN (f := fun i => nI (T 3 i)) i4 (by omega) (by decide)) (Nat.le_of_ble_eq_true rfl) (Nat.le_of_ble_eq_true rfl) (Nat.le_of_ble_eq_true rfl) (Nat.le_of_ble_eq_true rfl) ?_
          refine w_iret dX7_item_111 rfl (Nat.le_of_ble_eq_true rfl) (Nat.le_of_ble_eq_true rfl) ?_
          refine ⟨XOut.ok (by rw [xk2, if_pos ok_2, if_pos ok_8]) ?_, hH, FH.rf⟩
          try rw [ix_nI (by omega)]
          try rw [ix_nI (by omega)]
          rw [itemV]
          first
            | (rw [if_pos s_12_0]; done)
            | (rw [if_neg s_12_0, if_pos s_12_1]; done)
            | (rw [if_neg s_12_0, if_neg s_12_1, if_pos s_12_2]; done)
            | (rw [if_neg s_12_0, if_neg s_12_1, if_neg s_12_2, if_pos s_12_3]; done)
            | (rw [if_neg s_12_0, if_neg s_12_1, if_neg s_12_2, if_neg s_12_3, if_pos s_12_4]; done)
            | (rw [if_neg s_12_0, if_neg s_12_1, if_neg s_12_2, if_neg s_12_3, if_neg s_12_4, if_pos s_12_5]; done)
            | (rw [if_neg s_12_0, if_neg s_12_1, if_neg s_12_2, if_neg s_12_3, if_neg s_12_4, if_neg s_12_5, if_pos s_12_6]; done)
            | (rw [if_neg s_12_0, if_neg s_12_1, if_neg s_12_2, if_neg s_12_3, if_neg s_12_4, if_neg s_12_5, if_neg s_12_6, if_pos s_12_7]; done)
            | (rw [if_neg s_12_0, if_neg s_12_1, if_neg s_12_2, if_neg s_12_3, if_neg s_12_4, if_neg s_12_5, if_neg s_12_6, if_neg s_12_7, if_pos s_12_8]; done)
            | (rw [if_neg s_12_0, if_neg s_12_1, if_neg s_12_2, if_neg s_12_3, if_neg s_12_4, if_neg s_12_5, if_neg s_12_6, if_neg s_12_7, if_neg s_12_8]; done)
            | (rw [if_pos s_12_0, b2, if_pos c_156]; done)
            | (rw [if_pos s_12_0, b2, if_neg (fun h => c_156 h)]; done)
            | (rw [if_pos s_12_0, b2, if_neg (fun h => h c_156)]; done)
            | (rw [if_neg s_12_0, if_pos s_12_1, b2, if_pos c_156]; done)
            | (rw [if_neg s_12_0, if_pos s_12_1, b2, if_neg (fun h => c_156 h)]; done)
            | (rw [if_neg s_12_0, if_pos s_12_1, b2, if_neg (fun h => h c_156)]; done)
            | (rw [if_neg s_12_0, if_neg s_12_1, if_pos s_12_2, b2, if_pos c_156]; done)
            | (rw [if_neg s_12_0, if_neg s_12_1, if_pos s_12_2, b2, if_neg (fun h => c_156 h)]; done)
            | (rw [if_neg s_12_0, if_neg s_12_1, if_pos s_12_2, b2, if_neg (fun h => h c_156)]; done)
            | (rw [if_neg s_12_0, if_neg s_12_1, if_neg s_12_2, if_pos s_12_3, b2, if_pos c_156]; done)
            | (rw [if_neg s_12_0, if_neg s_12_1, if_neg s_12_2, if_pos s_12_3, b2, if_neg (fun h => c_156 h)]; done)
            | (rw [if_neg s_12_0, if_neg s_12_1, if_neg s_12_2, if_pos s_12_3, b2, if_neg (fun h => h c_156)]; done)
            | (rw [if_neg s_12_0, if_neg s_12_1, if_neg s_12_2, if_neg s_12_3, if_pos s_12_4, b2, if_pos c_156]; done)
            | (rw [if_neg s_12_0, if_neg s_12_1, if_neg s_12_2, if_neg s_12_3, if_pos s_12_4, b2, if_neg (fun h => c_156 h)]; done)
            | (rw [if_neg s_12_0, if_neg s_12_1, if_neg s_12_2, if_neg s_12_3, if_pos s_12_4, b2, if_neg (fun h => h c_156)]; done)
            | (rw [if_neg s_12_0, if_neg s_12_1, if_neg s_12_2, if_neg s_12_3, if_neg s_12_4, if_pos s_12_5, b2, if_pos c_156]; done)
            | (rw [if_neg s_12_0, if_neg s_12_1, if_neg s_12_2, if_neg s_12_3, if_neg s_12_4, if_pos s_12_5, b2, if_neg (fun h => c_156 h)]; done)
            | (rw [if_neg s_12_0, if_neg s_12_1, if_neg s_12_2, if_neg s_12_3, if_neg s_12_4, if_pos s_12_5, b2, if_neg (fun h => h c_156)]; done)
            | (rw [if_neg s_12_0, if_neg s_12_1, if_neg s_12_2, if_neg s_12_3, if_neg s_12_4, if_neg s_12_5, if_pos s_12_6, b2, if_pos c_156]; done)
            | (rw [if_neg s_12_0, if_neg s_12_1, if_neg s_12_2, if_neg s_12_3, if_neg s_12_4, if_neg s_12_5, if_pos s_12_6, b2, if_neg (fun h => c_156 h)]; done)
            | (rw [if_neg s_12_0, if_neg s_12_1, if_neg s_12_2, if_neg s_12_3, if_neg s_12_4, if_neg s_12_5, if_pos s_12_6, b2, if_neg (fun h => h c_156)]; done)
            | (rw [if_neg s_12_0, if_neg s_12_1, if_neg s_12_2, if_neg s_12_3, if_neg s_12_4, if_neg s_12_5, if_neg s_12_6, if_pos s_12_7, b2, if_pos c_156]; done)
            | (rw [if_neg s_12_0, if_neg s_12_1, if_neg s_12_2, if_neg s_12_3, if_neg s_12_4, if_neg s_12_5, if_neg s_12_6, if_pos s_12_7, b2, if_neg (fun h => c_156 h)]; done)
            | (rw [if_neg s_12_0, if_neg s_12_1, if_neg s_12_2, if_neg s_12_3, if_neg s_12_4, if_neg s_12_5, if_neg s_12_6, if_pos s_12_7, b2, if_neg (fun h => h c_156)]; done)
            | (rw [if_neg s_12_0, if_neg s_12_1, if_neg s_12_2, if_neg s_12_3, if_neg s_12_4, if_neg s_12_5, if_neg s_12_6, if_neg s_12_7, if_pos s_12_8, b2, if_pos c_156]; done)
            | (rw [if_neg s_12_0, if_neg s_12_1, if_neg s_12_2, if_neg s_12_3, if_neg s_12_4, if_neg s_12_5, if_neg s_12_6, if_neg s_12_7, if_pos s_12_8, b2, if_neg (fun h => c_156 h)]; done)
            | (rw [if_neg s_12_0, if_neg s_12_1, if_neg s_12_2, if_neg s_12_3, if_neg s_12_4, if_neg s_12_5, if_neg s_12_6, if_neg s_12_7, if_pos s_12_8, b2, if_neg (fun h => h c_156)]; done)
            | (rw [if_neg s_12_0, if_neg s_12_1, if_neg s_12_2, if_neg s_12_3, if_neg s_12_4, if_neg s_12_5, if_neg s_12_6, if_neg s_12_7, if_neg s_12_8, b2, if_pos c_156]; done)
            | (rw [if_neg s_12_0, if_neg s_12_1, if_neg s_12_2, if_neg s_12_3, if_neg s_12_4, if_neg s_12_5, if_neg s_12_6, if_neg s_12_7, if_neg s_12_8, b2, if_neg (fun h => c_156 h)]; done)
            | (rw [if_neg s_12_0, if_neg s_12_1, if_neg s_12_2, if_neg s_12_3, if_neg s_12_4, if_neg s_12_5, if_neg s_12_6, if_neg s_12_7, if_neg s_12_8, b2, if_neg (fun h => h c_156)]; done)
        ·
          by_cases s_12_4 : w = nI 4
          · refine w_tabIn (tgt := 112) (off := 100) dX7_item_12 (by rw [s_12_4]; decide) (by rw [s_12_4]; decide) (by rw [s_12_4]; rfl) (by decide) ?_
            refine w_aload_n dX7_item_112 rfl ?_
            refine w_getf dX7_item_113 fl_X7_37 (by first | assumption | exact gs_at | (rw [gs_ne (by omega)]; (first | assumption | exact gs_at | (rw [gs_ne (by omega)]; (first | assumption | exact gs_at | (rw [gs_ne (by omega)]; (first | assumption | exact gs_at | (rw [gs_ne (by omega)]; (first | assumption | exact gs_at))))))))) rfl ?_
            refine w_getf dX7_item_116 fl_X7_150 (by first | assumption | exact gs_at | (rw [gs_ne (by omega)]; (first | assumption | exact gs_at | (rw [gs_ne (by omega)]; (first | assumption | exact gs_at | (rw [gs_ne (by omega)]; (first | assumption | exact gs_at | (rw [gs_ne (by omega)]; (first | assumption | exact gs_at))))))))) rfl ?_
            refine w_iload_n dX7_item_119 rfl ?_
            refine wS2u dX7_item_120 lk_X7_137 rfl (c_atN (f := fun i => nI (T 4 i)) i5 (by omega) (by decide)) (Nat.le_of_ble_eq_true rfl) (Nat.le_of_ble_eq_true rfl) (Nat.le_of_ble_eq_true rfl) (Nat.le_of_ble_eq_true rfl) ?_
            refine w_iret dX7_item_123 rfl (Nat.le_of_ble_eq_true rfl) (Nat.le_of_ble_eq_true rfl) ?_
            refine ⟨XOut.ok (by rw [xk2, if_pos ok_2, if_pos ok_8]) ?_, hH, FH.rf⟩
            try rw [ix_nI (by omega)]
            try rw [ix_nI (by omega)]
            rw [itemV]
            first
              | (rw [if_pos s_12_0]; done)
              | (rw [if_neg s_12_0, if_pos s_12_1]; done)
              | (rw [if_neg s_12_0, if_neg s_12_1, if_pos s_12_2]; done)
              | (rw [if_neg s_12_0, if_neg s_12_1, if_neg s_12_2, if_pos s_12_3]; done)
              | (rw [if_neg s_12_0, if_neg s_12_1, if_neg s_12_2, if_neg s_12_3, if_pos s_12_4]; done)
              | (rw [if_neg s_12_0, if_neg s_12_1, if_neg s_12_2, if_neg s_12_3, if_neg s_12_4, if_pos s_12_5]; done)
              | (rw [if_neg s_12_0, if_neg s_12_1, if_neg s_12_2, if_neg s_12_3, if_neg s_12_4, if_neg s_12_5, if_pos s_12_6]; done)
              | (rw [if_neg s_12_0, if_neg s_12_1, if_neg s_12_2, if_neg s_12_3, if_neg s_12_4, if_neg s_12_5, if_neg s_12_6, if_pos s_12_7]; done)
              | (rw [if_neg s_12_0, if_neg s_12_1, if_neg s_12_2, if_neg s_12_3, if_neg s_12_4, if_neg s_12_5, if_neg s_12_6, if_neg s_12_7, if_pos s_12_8]; done)
              | (rw [if_neg s_12_0, if_neg s_12_1, if_neg s_12_2, if_neg s_12_3, if_neg s_12_4, if_neg s_12_5, if_neg s_12_6, if_neg s_12_7, if_neg s_12_8]; done)
              | (rw [if_pos s_12_0, b2, if_pos c_156]; done)
              | (rw [if_pos s_12_0, b2, if_neg (fun h => c_156 h)]; done)
              | (rw [if_pos s_12_0, b2, if_neg (fun h => h c_156)]; done)
              | (rw [if_neg s_12_0, if_pos s_12_1, b2, if_pos c_156]; done)
              | (rw [if_neg s_12_0, if_pos s_12_1, b2, if_neg (fun h => c_156 h)]; done)
              | (rw [if_neg s_12_0, if_pos s_12_1, b2, if_neg (fun h => h c_156)]; done)
              | (rw [if_neg s_12_0, if_neg s_12_1, if_pos s_12_2, b2, if_pos c_156]; done)
              | (rw [if_neg s_12_0, if_neg s_12_1, if_pos s_12_2, b2, if_neg (fun h => c_156 h)]; done)
              | (rw [if_neg s_12_0, if_neg s_12_1, if_pos s_12_2, b2, if_neg (fun h => h c_156)]; done)
              | (rw [if_neg s_12_0, if_neg s_12_1, if_neg s_12_2, if_pos s_12_3, b2, if_pos c_156]; done)
              | (rw [if_neg s_12_0, if_neg s_12_1, if_neg s_12_2, if_pos s_12_3, b2, if_neg (fun h => c_156 h)]; done)
              | (rw [if_neg s_12_0, if_neg s_12_1, if_neg s_12_2, if_pos s_12_3, b2, if_neg (fun h => h c_156)]; done)
              | (rw [if_neg s_12_0, if_neg s_12_1, if_neg s_12_2, if_neg s_12_3, if_pos s_12_4, b2, if_pos c_156]; done)
              | (rw [if_neg s_12_0, if_neg s_12_1, if_neg s_12_2, if_neg s_12_3, if_pos s_12_4, b2, if_neg (fun h => c_156 h)]; done)
              | (rw [if_neg s_12_0, if_neg s_12_1, if_neg s_12_2, if_neg s_12_3, if_pos s_12_4, b2, if_neg (fun h => h c_156)]; done)
              | (rw [if_neg s_12_0, if_neg s_12_1, if_neg s_12_2, if_neg s_12_3, if_neg s_12_4, if_pos s_12_5, b2, if_pos c_156]; done)
              | (rw [if_neg s_12_0, if_neg s_12_1, if_neg s_12_2, if_neg s_12_3, if_neg s_12_4, if_pos s_12_5, b2, if_neg (fun h => c_156 h)]; done)
              | (rw [if_neg s_12_0, if_neg s_12_1, if_neg s_12_2, if_neg s_12_3, if_neg s_12_4, if_pos s_12_5, b2, if_neg (fun h => h c_156)]; done)
              | (rw [if_neg s_12_0, if_neg s_12_1, if_neg s_12_2, if_neg s_12_3, if_neg s_12_4, if_neg s_12_5, if_pos s_12_6, b2, if_pos c_156]; done)
              | (rw [if_neg s_12_0, if_neg s_12_1, if_neg s_12_2, if_neg s_12_3, if_neg s_12_4, if_neg s_12_5, if_pos s_12_6, b2, if_neg (fun h => c_156 h)]; done)
              | (rw [if_neg s_12_0, if_neg s_12_1, if_neg s_12_2, if_neg s_12_3, if_neg s_12_4, if_neg s_12_5, if_pos s_12_6, b2, if_neg (fun h => h c_156)]; done)
              | (rw [if_neg s_12_0, if_neg s_12_1, if_neg s_12_2, if_neg s_12_3, if_neg s_12_4, if_neg s_12_5, if_neg s_12_6, if_pos s_12_7, b2, if_pos c_156]; done)
              | (rw [if_neg s_12_0, if_neg s_12_1, if_neg s_12_2, if_neg s_12_3, if_neg s_12_4, if_neg s_12_5, if_neg s_12_6, if_pos s_12_7, b2, if_neg (fun h => c_156 h)]; done)
              | (rw [if_neg s_12_0, if_neg s_12_1, if_neg s_12_2, if_neg s_12_3, if_neg s_12_4, if_neg s_12_5, if_neg s_12_6, if_pos s_12_7, b2, if_neg (fun h => h c_156)]; done)
              | (rw [if_neg s_12_0, if_neg s_12_1, if_neg s_12_2, if_neg s_12_3, if_neg s_12_4, if_neg s_12_5, if_neg s_12_6, if_neg s_12_7, if_pos s_12_8, b2, if_pos c_156]; done)
              | (rw [if_neg s_12_0, if_neg s_12_1, if_neg s_12_2, if_neg s_12_3, if_neg s_12_4, if_neg s_12_5, if_neg s_12_6, if_neg s_12_7, if_pos s_12_8, b2, if_neg (fun h => c_156 h)]; done)
              | (rw [if_neg s_12_0, if_neg s_12_1, if_neg s_12_2, if_neg s_12_3, if_neg s_12_4, if_neg s_12_5, if_neg s_12_6, if_neg s_12_7, if_pos s_12_8, b2, if_neg (fun h => h c_156)]; done)
              | (rw [if_neg s_12_0, if_neg s_12_1, if_neg s_12_2, if_neg s_12_3, if_neg s_12_4, if_neg s_12_5, if_neg s_12_6, if_neg s_12_7, if_neg s_12_8, b2, if_pos c_156]; done)
              | (rw [if_neg s_12_0, if_neg s_12_1, if_neg s_12_2, if_neg s_12_3, if_neg s_12_4, if_neg s_12_5, if_neg s_12_6, if_neg s_12_7, if_neg s_12_8, b2, if_neg (fun h => c_156 h)]; done)
              | (rw [if_neg s_12_0, if_neg s_12_1, if_neg s_12_2, if_neg s_12_3, if_neg s_12_4, if_neg s_12_5, if_neg s_12_6, if_neg s_12_7, if_neg s_12_8, b2, if_neg (fun h => h c_156)]; done)
          ·
            by_cases s_12_5 : w = nI 5
            · refine w_tabIn (tgt := 124) (off := 112) dX7_item_12 (by rw [s_12_5]; decide) (by rw [s_12_5]; decide) (by rw [s_12_5]; rfl) (by decide) ?_
              refine w_aload_n dX7_item_124 rfl ?_
              refine w_getf dX7_item_125 fl_X7_37 (by first | assumption | exact gs_at | (rw [gs_ne (by omega)]; (first | assumption | exact gs_at | (rw [gs_ne (by omega)]; (first | assumption | exact gs_at | (rw [gs_ne (by omega)]; (first | assumption | exact gs_at | (rw [gs_ne (by omega)]; (first | assumption | exact gs_at))))))))) rfl ?_
              refine w_getf dX7_item_128 fl_X7_153 (by first | assumption | exact gs_at | (rw [gs_ne (by omega)]; (first | assumption | exact gs_at | (rw [gs_ne (by omega)]; (first | assumption | exact gs_at | (rw [gs_ne (by omega)]; (first | assumption | exact gs_at | (rw [gs_ne (by omega)]; (first | assumption | exact gs_at))))))))) rfl ?_
              refine w_iload_n dX7_item_131 rfl ?_
              refine wS2u dX7_item_132 lk_X7_137 rfl (c_atN (f := fun i => nI (T 5 i)) i6 (by omega) (by decide)) (Nat.le_of_ble_eq_true rfl) (Nat.le_of_ble_eq_true rfl) (Nat.le_of_ble_eq_true rfl) (Nat.le_of_ble_eq_true rfl) ?_
              refine w_iret dX7_item_135 rfl (Nat.le_of_ble_eq_true rfl) (Nat.le_of_ble_eq_true rfl) ?_
              refine ⟨XOut.ok (by rw [xk2, if_pos ok_2, if_pos ok_8]) ?_, hH, FH.rf⟩
              try rw [ix_nI (by omega)]
              try rw [ix_nI (by omega)]
              rw [itemV]
              first
                | (rw [if_pos s_12_0]; done)
                | (rw [if_neg s_12_0, if_pos s_12_1]; done)
                | (rw [if_neg s_12_0, if_neg s_12_1, if_pos s_12_2]; done)
                | (rw [if_neg s_12_0, if_neg s_12_1, if_neg s_12_2, if_pos s_12_3]; done)
                | (rw [if_neg s_12_0, if_neg s_12_1, if_neg s_12_2, if_neg s_12_3, if_pos s_12_4]; done)
                | (rw [if_neg s_12_0, if_neg s_12_1, if_neg s_12_2, if_neg s_12_3, if_neg s_12_4, if_pos s_12_5]; done)
                | (rw [if_neg s_12_0, if_neg s_12_1, if_neg s_12_2, if_neg s_12_3, if_neg s_12_4, if_neg s_12_5, if_pos s_12_6]; done)
                | (rw [if_neg s_12_0, if_neg s_12_1, if_neg s_12_2, if_neg s_12_3, if_neg s_12_4, if_neg s_12_5, if_neg s_12_6, if_pos s_12_7]; done)
                | (rw [if_neg s_12_0, if_neg s_12_1, if_neg s_12_2, if_neg s_12_3, if_neg s_12_4, if_neg s_12_5, if_neg s_12_6, if_neg s_12_7, if_pos s_12_8]; done)
                | (rw [if_neg s_12_0, if_neg s_12_1, if_neg s_12_2, if_neg s_12_3, if_neg s_12_4, if_neg s_12_5, if_neg s_12_6, if_neg s_12_7, if_neg s_12_8]; done)
                | (rw [if_pos s_12_0, b2, if_pos c_156]; done)
                | (rw [if_pos s_12_0, b2, if_neg (fun h => c_156 h)]; done)
                | (rw [if_pos s_12_0, b2, if_neg (fun h => h c_156)]; done)
                | (rw [if_neg s_12_0, if_pos s_12_1, b2, if_pos c_156]; done)
                | (rw [if_neg s_12_0, if_pos s_12_1, b2, if_neg (fun h => c_156 h)]; done)
                | (rw [if_neg s_12_0, if_pos s_12_1, b2, if_neg (fun h => h c_156)]; done)
                | (rw [if_neg s_12_0, if_neg s_12_1, if_pos s_12_2, b2, if_pos c_156]; done)
                | (rw [if_neg s_12_0, if_neg s_12_1, if_pos s_12_2, b2, if_neg (fun h => c_156 h)]; done)
                | (rw [if_neg s_12_0, if_neg s_12_1, if_pos s_12_2, b2, if_neg (fun h => h c_156)]; done)
                | (rw [if_neg s_12_0, if_neg s_12_1, if_neg s_12_2, if_pos s_12_3, b2, if_pos c_156]; done)
                | (rw [if_neg s_12_0, if_neg s_12_1, if_neg s_12_2, if_pos s_12_3, b2, if_neg (fun h => c_156 h)]; done)
                | (rw [if_neg s_12_0, if_neg s_12_1, if_neg s_12_2, if_pos s_12_3, b2, if_neg (fun h => h c_156)]; done)
                | (rw [if_neg s_12_0, if_neg s_12_1, if_neg s_12_2, if_neg s_12_3, if_pos s_12_4, b2, if_pos c_156]; done)
                | (rw [if_neg s_12_0, if_neg s_12_1, if_neg s_12_2, if_neg s_12_3, if_pos s_12_4, b2, if_neg (fun h => c_156 h)]; done)
                | (rw [if_neg s_12_0, if_neg s_12_1, if_neg s_12_2, if_neg s_12_3, if_pos s_12_4, b2, if_neg (fun h => h c_156)]; done)
                | (rw [if_neg s_12_0, if_neg s_12_1, if_neg s_12_2, if_neg s_12_3, if_neg s_12_4, if_pos s_12_5, b2, if_pos c_156]; done)
                | (rw [if_neg s_12_0, if_neg s_12_1, if_neg s_12_2, if_neg s_12_3, if_neg s_12_4, if_pos s_12_5, b2, if_neg (fun h => c_156 h)]; done)
                | (rw [if_neg s_12_0, if_neg s_12_1, if_neg s_12_2, if_neg s_12_3, if_neg s_12_4, if_pos s_12_5, b2, if_neg (fun h => h c_156)]; done)
                | (rw [if_neg s_12_0, if_neg s_12_1, if_neg s_12_2, if_neg s_12_3, if_neg s_12_4, if_neg s_12_5, if_pos s_12_6, b2, if_pos c_156]; done)
                | (rw [if_neg s_12_0, if_neg s_12_1, if_neg s_12_2, if_neg s_12_3, if_neg s_12_4, if_neg s_12_5, if_pos s_12_6, b2, if_neg (fun h => c_156 h)]; done)
                | (rw [if_neg s_12_0, if_neg s_12_1, if_neg s_12_2, if_neg s_12_3, if_neg s_12_4, if_neg s_12_5, if_pos s_12_6, b2, if_neg (fun h => h c_156)]; done)
                | (rw [if_neg s_12_0, if_neg s_12_1, if_neg s_12_2, if_neg s_12_3, if_neg s_12_4, if_neg s_12_5, if_neg s_12_6, if_pos s_12_7, b2, if_pos c_156]; done)
                | (rw [if_neg s_12_0, if_neg s_12_1, if_neg s_12_2, if_neg s_12_3, if_neg s_12_4, if_neg s_12_5, if_neg s_12_6, if_pos s_12_7, b2, if_neg (fun h => c_156 h)]; done)
                | (rw [if_neg s_12_0, if_neg s_12_1, if_neg s_12_2, if_neg s_12_3, if_neg s_12_4, if_neg s_12_5, if_neg s_12_6, if_pos s_12_7, b2, if_neg (fun h => h c_156)]; done)
                | (rw [if_neg s_12_0, if_neg s_12_1, if_neg s_12_2, if_neg s_12_3, if_neg s_12_4, if_neg s_12_5, if_neg s_12_6, if_neg s_12_7, if_pos s_12_8, b2, if_pos c_156]; done)
                | (rw [if_neg s_12_0, if_neg s_12_1, if_neg s_12_2, if_neg s_12_3, if_neg s_12_4, if_neg s_12_5, if_neg s_12_6, if_neg s_12_7, if_pos s_12_8, b2, if_neg (fun h => c_156 h)]; done)
                | (rw [if_neg s_12_0, if_neg s_12_1, if_neg s_12_2, if_neg s_12_3, if_neg s_12_4, if_neg s_12_5, if_neg s_12_6, if_neg s_12_7, if_pos s_12_8, b2, if_neg (fun h => h c_156)]; done)
                | (rw [if_neg s_12_0, if_neg s_12_1, if_neg s_12_2, if_neg s_12_3, if_neg s_12_4, if_neg s_12_5, if_neg s_12_6, if_neg s_12_7, if_neg s_12_8, b2, if_pos c_156]; done)
                | (rw [if_neg s_12_0, if_neg s_12_1, if_neg s_12_2, if_neg s_12_3, if_neg s_12_4, if_neg s_12_5, if_neg s_12_6, if_neg s_12_7, if_neg s_12_8, b2, if_neg (fun h => c_156 h)]; done)
                | (rw [if_neg s_12_0, if_neg s_12_1, if_neg s_12_2, if_neg s_12_3, if_neg s_12_4, if_neg s_12_5, if_neg s_12_6, if_neg s_12_7, if_neg s_12_8, b2, if_neg (fun h => h c_156)]; done)
            ·
              by_cases s_12_6 : w = nI 6
              · refine w_tabIn (tgt := 136) (off := 124) dX7_item_12 (by rw [s_12_6]; decide) (by rw [s_12_6]; decide) (by rw [s_12_6]; rfl) (by decide) ?_
                refine w_aload_n dX7_item_136 rfl ?_
                refine w_getf dX7_item_137 fl_X7_37 (by first | assumption | exact gs_at | (rw [gs_ne (by omega)]; (first | assumption | exact gs_at | (rw [gs_ne (by omega)]; (first | assumption | exact gs_at | (rw [gs_ne (by omega)]; (first | assumption | exact gs_at | (rw [gs_ne (by omega)]; (first | assumption | exact gs_at))))))))) rfl ?_
                refine w_getf dX7_item_140 fl_X7_156 (by first | assumption | exact gs_at | (rw [gs_ne (by omega)]; (first | assumption | exact gs_at | (rw [gs_ne (by omega)]; (first | assumption | exact gs_at | (rw [gs_ne (by omega)]; (first | assumption | exact gs_at | (rw [gs_ne (by omega)]; (first | assumption | exact gs_at))))))))) rfl ?_
                refine w_iload_n dX7_item_143 rfl ?_
                refine wS2u dX7_item_144 lk_X7_137 rfl (c_atN (f := fun i => nI (T 6 i)) i7 (by omega) (by decide)) (Nat.le_of_ble_eq_true rfl) (Nat.le_of_ble_eq_true rfl) (Nat.le_of_ble_eq_true rfl) (Nat.le_of_ble_eq_true rfl) ?_
                refine w_iret dX7_item_147 rfl (Nat.le_of_ble_eq_true rfl) (Nat.le_of_ble_eq_true rfl) ?_
                refine ⟨XOut.ok (by rw [xk2, if_pos ok_2, if_pos ok_8]) ?_, hH, FH.rf⟩
                try rw [ix_nI (by omega)]
                try rw [ix_nI (by omega)]
                rw [itemV]
                first
                  | (rw [if_pos s_12_0]; done)
                  | (rw [if_neg s_12_0, if_pos s_12_1]; done)
                  | (rw [if_neg s_12_0, if_neg s_12_1, if_pos s_12_2]; done)
                  | (rw [if_neg s_12_0, if_neg s_12_1, if_neg s_12_2, if_pos s_12_3]; done)
                  | (rw [if_neg s_12_0, if_neg s_12_1, if_neg s_12_2, if_neg s_12_3, if_pos s_12_4]; done)
                  | (rw [if_neg s_12_0, if_neg s_12_1, if_neg s_12_2, if_neg s_12_3, if_neg s_12_4, if_pos s_12_5]; done)
                  | (rw [if_neg s_12_0, if_neg s_12_1, if_neg s_12_2, if_neg s_12_3, if_neg s_12_4, if_neg s_12_5, if_pos s_12_6]; done)
                  | (rw [if_neg s_12_0, if_neg s_12_1, if_neg s_12_2, if_neg s_12_3, if_neg s_12_4, if_neg s_12_5, if_neg s_12_6, if_pos s_12_7]; done)
                  | (rw [if_neg s_12_0, if_neg s_12_1, if_neg s_12_2, if_neg s_12_3, if_neg s_12_4, if_neg s_12_5, if_neg s_12_6, if_neg s_12_7, if_pos s_12_8]; done)
                  | (rw [if_neg s_12_0, if_neg s_12_1, if_neg s_12_2, if_neg s_12_3, if_neg s_12_4, if_neg s_12_5, if_neg s_12_6, if_neg s_12_7, if_neg s_12_8]; done)
                  | (rw [if_pos s_12_0, b2, if_pos c_156]; done)
                  | (rw [if_pos s_12_0, b2, if_neg (fun h => c_156 h)]; done)
                  | (rw [if_pos s_12_0, b2, if_neg (fun h => h c_156)]; done)
                  | (rw [if_neg s_12_0, if_pos s_12_1, b2, if_pos c_156]; done)
                  | (rw [if_neg s_12_0, if_pos s_12_1, b2, if_neg (fun h => c_156 h)]; done)
                  | (rw [if_neg s_12_0, if_pos s_12_1, b2, if_neg (fun h => h c_156)]; done)
                  | (rw [if_neg s_12_0, if_neg s_12_1, if_pos s_12_2, b2, if_pos c_156]; done)
                  | (rw [if_neg s_12_0, if_neg s_12_1, if_pos s_12_2, b2, if_neg (fun h => c_156 h)]; done)
                  | (rw [if_neg s_12_0, if_neg s_12_1, if_pos s_12_2, b2, if_neg (fun h => h c_156)]; done)
                  | (rw [if_neg s_12_0, if_neg s_12_1, if_neg s_12_2, if_pos s_12_3, b2, if_pos c_156]; done)
                  | (rw [if_neg s_12_0, if_neg s_12_1, if_neg s_12_2, if_pos s_12_3, b2, if_neg (fun h => c_156 h)]; done)
                  | (rw [if_neg s_12_0, if_neg s_12_1, if_neg s_12_2, if_pos s_12_3, b2, if_neg (fun h => h c_156)]; done)
                  | (rw [if_neg s_12_0, if_neg s_12_1, if_neg s_12_2, if_neg s_12_3, if_pos s_12_4, b2, if_pos c_156]; done)
                  | (rw [if_neg s_12_0, if_neg s_12_1, if_neg s_12_2, if_neg s_12_3, if_pos s_12_4, b2, if_neg (fun h => c_156 h)]; done)
                  | (rw [if_neg s_12_0, if_neg s_12_1, if_neg s_12_2, if_neg s_12_3, if_pos s_12_4, b2, if_neg (fun h => h c_156)]; done)
                  | (rw [if_neg s_12_0, if_neg s_12_1, if_neg s_12_2, if_neg s_12_3, if_neg s_12_4, if_pos s_12_5, b2, if_pos c_156]; done)
                  | (rw [if_neg s_12_0, if_neg s_12_1, if_neg s_12_2, if_neg s_12_3, if_neg s_12_4, if_pos s_12_5, b2, if_neg (fun h => c_156 h)]; done)
                  | (rw [if_neg s_12_0, if_neg s_12_1, if_neg s_12_2, if_neg s_12_3, if_neg s_12_4, if_pos s_12_5, b2, if_neg (fun h => h c_156)]; done)
                  | (rw [if_neg s_12_0, if_neg s_12_1, if_neg s_12_2, if_neg s_12_3, if_neg s_12_4, if_neg s_12_5, if_pos s_12_6, b2, if_pos c_156]; done)
                  | (rw [if_neg s_12_0, if_neg s_12_1, if_neg s_12_2, if_neg s_12_3, if_neg s_12_4, if_neg s_12_5, if_pos s_12_6, b2, if_neg (fun h => c_156 h)]; done)
                  | (rw [if_neg s_12_0, if_neg s_12_1, if_neg s_12_2, if_neg s_12_3, if_neg s_12_4, if_neg s_12_5, if_pos s_12_6, b2, if_neg (fun h => h c_156)]; done)
                  | (rw [if_neg s_12_0, if_neg s_12_1, if_neg s_12_2, if_neg s_12_3, if_neg s_12_4, if_neg s_12_5, if_neg s_12_6, if_pos s_12_7, b2, if_pos c_156]; done)
                  | (rw [if_neg s_12_0, if_neg s_12_1, if_neg s_12_2, if_neg s_12_3, if_neg s_12_4, if_neg s_12_5, if_neg s_12_6, if_pos s_12_7, b2, if_neg (fun h => c_156 h)]; done)
                  | (rw [if_neg s_12_0, if_neg s_12_1, if_neg s_12_2, if_neg s_12_3, if_neg s_12_4, if_neg s_12_5, if_neg s_12_6, if_pos s_12_7, b2, if_neg (fun h => h c_156)]; done)
                  | (rw [if_neg s_12_0, if_neg s_12_1, if_neg s_12_2, if_neg s_12_3, if_neg s_12_4, if_neg s_12_5, if_neg s_12_6, if_neg s_12_7, if_pos s_12_8, b2, if_pos c_156]; done)
                  | (rw [if_neg s_12_0, if_neg s_12_1, if_neg s_12_2, if_neg s_12_3, if_neg s_12_4, if_neg s_12_5, if_neg s_12_6, if_neg s_12_7, if_pos s_12_8, b2, if_neg (fun h => c_156 h)]; done)
                  | (rw [if_neg s_12_0, if_neg s_12_1, if_neg s_12_2, if_neg s_12_3, if_neg s_12_4, if_neg s_12_5, if_neg s_12_6, if_neg s_12_7, if_pos s_12_8, b2, if_neg (fun h => h c_156)]; done)
                  | (rw [if_neg s_12_0, if_neg s_12_1, if_neg s_12_2, if_neg s_12_3, if_neg s_12_4, if_neg s_12_5, if_neg s_12_6, if_neg s_12_7, if_neg s_12_8, b2, if_pos c_156]; done)
                  | (rw [if_neg s_12_0, if_neg s_12_1, if_neg s_12_2, if_neg s_12_3, if_neg s_12_4, if_neg s_12_5, if_neg s_12_6, if_neg s_12_7, if_neg s_12_8, b2, if_neg (fun h => c_156 h)]; done)
                  | (rw [if_neg s_12_0, if_neg s_12_1, if_neg s_12_2, if_neg s_12_3, if_neg s_12_4, if_neg s_12_5, if_neg s_12_6, if_neg s_12_7, if_neg s_12_8, b2, if_neg (fun h => h c_156)]; done)
              ·
                by_cases s_12_7 : w = nI 7
                · refine w_tabIn (tgt := 148) (off := 136) dX7_item_12 (by rw [s_12_7]; decide) (by rw [s_12_7]; decide) (by rw [s_12_7]; rfl) (by decide) ?_
                  refine w_aload_n dX7_item_148 rfl ?_
                  refine w_getf dX7_item_149 fl_X7_37 (by first | assumption | exact gs_at | (rw [gs_ne (by omega)]; (first | assumption | exact gs_at | (rw [gs_ne (by omega)]; (first | assumption | exact gs_at | (rw [gs_ne (by omega)]; (first | assumption | exact gs_at | (rw [gs_ne (by omega)]; (first | assumption | exact gs_at))))))))) rfl ?_
                  refine w_iload_n dX7_item_152 rfl ?_
                  refine wV1u dX7_item_153 lk_X7_159 rfl (by first | assumption | exact gs_at | (rw [gs_ne (by omega)]; (first | assumption | exact gs_at | (rw [gs_ne (by omega)]; (first | assumption | exact gs_at | (rw [gs_ne (by omega)]; (first | assumption | exact gs_at | (rw [gs_ne (by omega)]; (first | assumption | exact gs_at))))))))) rfl rfl (c_isMissing hI hBd (by omega)) (Nat.le_of_ble_eq_true rfl) (Nat.le_of_ble_eq_true rfl) (Nat.le_of_ble_eq_true rfl) (Nat.le_of_ble_eq_true rfl) ?_
                  refine w_ifN_eq (tgt := 163) dX7_item_156 (by decide) (fun c_156 => ?_) (fun c_156 => ?_)
                  · try simp (disch := omega) only [nI_b2, Decidable.not_not, nI_ltI, nI_leI, nI_eq, ge_iff_le, gt_iff_lt, ne_eq, Nat.not_lt, Nat.not_le] at c_156
                    refine w_iconst (v := nI 0) dX7_item_163 (by decide) ?_
                    refine w_iret dX7_item_164 rfl (Nat.le_of_ble_eq_true rfl) (Nat.le_of_ble_eq_true rfl) ?_
                    refine ⟨XOut.ok (by rw [xk2, if_pos ok_2, if_pos ok_8]) ?_, hH, FH.rf⟩
                    try rw [ix_nI (by omega)]
                    try rw [ix_nI (by omega)]
                    rw [itemV]
                    first
                      | (rw [if_pos s_12_0]; done)
                      | (rw [if_neg s_12_0, if_pos s_12_1]; done)
                      | (rw [if_neg s_12_0, if_neg s_12_1, if_pos s_12_2]; done)
                      | (rw [if_neg s_12_0, if_neg s_12_1, if_neg s_12_2, if_pos s_12_3]; done)
                      | (rw [if_neg s_12_0, if_neg s_12_1, if_neg s_12_2, if_neg s_12_3, if_pos s_12_4]; done)
                      | (rw [if_neg s_12_0, if_neg s_12_1, if_neg s_12_2, if_neg s_12_3, if_neg s_12_4, if_pos s_12_5]; done)
                      | (rw [if_neg s_12_0, if_neg s_12_1, if_neg s_12_2, if_neg s_12_3, if_neg s_12_4, if_neg s_12_5, if_pos s_12_6]; done)
                      | (rw [if_neg s_12_0, if_neg s_12_1, if_neg s_12_2, if_neg s_12_3, if_neg s_12_4, if_neg s_12_5, if_neg s_12_6, if_pos s_12_7]; done)
                      | (rw [if_neg s_12_0, if_neg s_12_1, if_neg s_12_2, if_neg s_12_3, if_neg s_12_4, if_neg s_12_5, if_neg s_12_6, if_neg s_12_7, if_pos s_12_8]; done)
                      | (rw [if_neg s_12_0, if_neg s_12_1, if_neg s_12_2, if_neg s_12_3, if_neg s_12_4, if_neg s_12_5, if_neg s_12_6, if_neg s_12_7, if_neg s_12_8]; done)
                      | (rw [if_pos s_12_0, b2, if_pos c_156]; done)
                      | (rw [if_pos s_12_0, b2, if_neg (fun h => c_156 h)]; done)
                      | (rw [if_pos s_12_0, b2, if_neg (fun h => h c_156)]; done)
                      | (rw [if_neg s_12_0, if_pos s_12_1, b2, if_pos c_156]; done)
                      | (rw [if_neg s_12_0, if_pos s_12_1, b2, if_neg (fun h => c_156 h)]; done)
                      | (rw [if_neg s_12_0, if_pos s_12_1, b2, if_neg (fun h => h c_156)]; done)
                      | (rw [if_neg s_12_0, if_neg s_12_1, if_pos s_12_2, b2, if_pos c_156]; done)
                      | (rw [if_neg s_12_0, if_neg s_12_1, if_pos s_12_2, b2, if_neg (fun h => c_156 h)]; done)
                      | (rw [if_neg s_12_0, if_neg s_12_1, if_pos s_12_2, b2, if_neg (fun h => h c_156)]; done)
                      | (rw [if_neg s_12_0, if_neg s_12_1, if_neg s_12_2, if_pos s_12_3, b2, if_pos c_156]; done)
                      | (rw [if_neg s_12_0, if_neg s_12_1, if_neg s_12_2, if_pos s_12_3, b2, if_neg (fun h => c_156 h)]; done)
                      | (rw [if_neg s_12_0, if_neg s_12_1, if_neg s_12_2, if_pos s_12_3, b2, if_neg (fun h => h c_156)]; done)
                      | (rw [if_neg s_12_0, if_neg s_12_1, if_neg s_12_2, if_neg s_12_3, if_pos s_12_4, b2, if_pos c_156]; done)
                      | (rw [if_neg s_12_0, if_neg s_12_1, if_neg s_12_2, if_neg s_12_3, if_pos s_12_4, b2, if_neg (fun h => c_156 h)]; done)
                      | (rw [if_neg s_12_0, if_neg s_12_1, if_neg s_12_2, if_neg s_12_3, if_pos s_12_4, b2, if_neg (fun h => h c_156)]; done)
                      | (rw [if_neg s_12_0, if_neg s_12_1, if_neg s_12_2, if_neg s_12_3, if_neg s_12_4, if_pos s_12_5, b2, if_pos c_156]; done)
                      | (rw [if_neg s_12_0, if_neg s_12_1, if_neg s_12_2, if_neg s_12_3, if_neg s_12_4, if_pos s_12_5, b2, if_neg (fun h => c_156 h)]; done)
                      | (rw [if_neg s_12_0, if_neg s_12_1, if_neg s_12_2, if_neg s_12_3, if_neg s_12_4, if_pos s_12_5, b2, if_neg (fun h => h c_156)]; done)
                      | (rw [if_neg s_12_0, if_neg s_12_1, if_neg s_12_2, if_neg s_12_3, if_neg s_12_4, if_neg s_12_5, if_pos s_12_6, b2, if_pos c_156]; done)
                      | (rw [if_neg s_12_0, if_neg s_12_1, if_neg s_12_2, if_neg s_12_3, if_neg s_12_4, if_neg s_12_5, if_pos s_12_6, b2, if_neg (fun h => c_156 h)]; done)
                      | (rw [if_neg s_12_0, if_neg s_12_1, if_neg s_12_2, if_neg s_12_3, if_neg s_12_4, if_neg s_12_5, if_pos s_12_6, b2, if_neg (fun h => h c_156)]; done)
                      | (rw [if_neg s_12_0, if_neg s_12_1, if_neg s_12_2, if_neg s_12_3, if_neg s_12_4, if_neg s_12_5, if_neg s_12_6, if_pos s_12_7, b2, if_pos c_156]; done)
                      | (rw [if_neg s_12_0, if_neg s_12_1, if_neg s_12_2, if_neg s_12_3, if_neg s_12_4, if_neg s_12_5, if_neg s_12_6, if_pos s_12_7, b2, if_neg (fun h => c_156 h)]; done)
                      | (rw [if_neg s_12_0, if_neg s_12_1, if_neg s_12_2, if_neg s_12_3, if_neg s_12_4, if_neg s_12_5, if_neg s_12_6, if_pos s_12_7, b2, if_neg (fun h => h c_156)]; done)
                      | (rw [if_neg s_12_0, if_neg s_12_1, if_neg s_12_2, if_neg s_12_3, if_neg s_12_4, if_neg s_12_5, if_neg s_12_6, if_neg s_12_7, if_pos s_12_8, b2, if_pos c_156]; done)
                      | (rw [if_neg s_12_0, if_neg s_12_1, if_neg s_12_2, if_neg s_12_3, if_neg s_12_4, if_neg s_12_5, if_neg s_12_6, if_neg s_12_7, if_pos s_12_8, b2, if_neg (fun h => c_156 h)]; done)
                      | (rw [if_neg s_12_0, if_neg s_12_1, if_neg s_12_2, if_neg s_12_3, if_neg s_12_4, if_neg s_12_5, if_neg s_12_6, if_neg s_12_7, if_pos s_12_8, b2, if_neg (fun h => h c_156)]; done)
                      | (rw [if_neg s_12_0, if_neg s_12_1, if_neg s_12_2, if_neg s_12_3, if_neg s_12_4, if_neg s_12_5, if_neg s_12_6, if_neg s_12_7, if_neg s_12_8, b2, if_pos c_156]; done)
                      | (rw [if_neg s_12_0, if_neg s_12_1, if_neg s_12_2, if_neg s_12_3, if_neg s_12_4, if_neg s_12_5, if_neg s_12_6, if_neg s_12_7, if_neg s_12_8, b2, if_neg (fun h => c_156 h)]; done)
                      | (rw [if_neg s_12_0, if_neg s_12_1, if_neg s_12_2, if_neg s_12_3, if_neg s_12_4, if_neg s_12_5, if_neg s_12_6, if_neg s_12_7, if_neg s_12_8, b2, if_neg (fun h => h c_156)]; done)
                  · try simp (disch := omega) only [nI_b2, Decidable.not_not, nI_ltI, nI_leI, nI_eq, ge_iff_le, gt_iff_lt, ne_eq, Nat.not_lt, Nat.not_le] at c_156
                    refine w_iconst (v := nI 1) dX7_item_159 (by decide) ?_
                    refine w_goto (tgt := 164) dX7_item_160 (by decide) ?_
                    refine w_iret dX7_item_164 rfl (Nat.le_of_ble_eq_true rfl) (Nat.le_of_ble_eq_true rfl) ?_
                    refine ⟨XOut.ok (by rw [xk2, if_pos ok_2, if_pos ok_8]) ?_, hH, FH.rf⟩
                    try rw [ix_nI (by omega)]
                    try rw [ix_nI (by omega)]
                    rw [itemV]
                    first
                      | (rw [if_pos s_12_0]; done)
                      | (rw [if_neg s_12_0, if_pos s_12_1]; done)
                      | (rw [if_neg s_12_0, if_neg s_12_1, if_pos s_12_2]; done)
                      | (rw [if_neg s_12_0, if_neg s_12_1, if_neg s_12_2, if_pos s_12_3]; done)
                      | (rw [if_neg s_12_0, if_neg s_12_1, if_neg s_12_2, if_neg s_12_3, if_pos s_12_4]; done)
                      | (rw [if_neg s_12_0, if_neg s_12_1, if_neg s_12_2, if_neg s_12_3, if_neg s_12_4, if_pos s_12_5]; done)
                      | (rw [if_neg s_12_0, if_neg s_12_1, if_neg s_12_2, if_neg s_12_3, if_neg s_12_4, if_neg s_12_5, if_pos s_12_6]; done)
                      | (rw [if_neg s_12_0, if_neg s_12_1, if_neg s_12_2, if_neg s_12_3, if_neg s_12_4, if_neg s_12_5, if_neg s_12_6, if_pos s_12_7]; done)
                      | (rw [if_neg s_12_0, if_neg s_12_1, if_neg s_12_2, if_neg s_12_3, if_neg s_12_4, if_neg s_12_5, if_neg s_12_6, if_neg s_12_7, if_pos s_12_8]; done)
                      | (rw [if_neg s_12_0, if_neg s_12_1, if_neg s_12_2, if_neg s_12_3, if_neg s_12_4, if_neg s_12_5, if_neg s_12_6, if_neg s_12_7, if_neg s_12_8]; done)
                      | (rw [if_pos s_12_0, b2, if_pos c_156]; done)
                      | (rw [if_pos s_12_0, b2, if_neg (fun h => c_156 h)]; done)
                      | (rw [if_pos s_12_0, b2, if_neg (fun h => h c_156)]; done)
                      | (rw [if_neg s_12_0, if_pos s_12_1, b2, if_pos c_156]; done)
                      | (rw [if_neg s_12_0, if_pos s_12_1, b2, if_neg (fun h => c_156 h)]; done)
                      | (rw [if_neg s_12_0, if_pos s_12_1, b2, if_neg (fun h => h c_156)]; done)
                      | (rw [if_neg s_12_0, if_neg s_12_1, if_pos s_12_2, b2, if_pos c_156]; done)
                      | (rw [if_neg s_12_0, if_neg s_12_1, if_pos s_12_2, b2, if_neg (fun h => c_156 h)]; done)
                      | (rw [if_neg s_12_0, if_neg s_12_1, if_pos s_12_2, b2, if_neg (fun h => h c_156)]; done)
                      | (rw [if_neg s_12_0, if_neg s_12_1, if_neg s_12_2, if_pos s_12_3, b2, if_pos c_156]; done)
                      | (rw [if_neg s_12_0, if_neg s_12_1, if_neg s_12_2, if_pos s_12_3, b2, if_neg (fun h => c_156 h)]; done)
                      | (rw [if_neg s_12_0, if_neg s_12_1, if_neg s_12_2, if_pos s_12_3, b2, if_neg (fun h => h c_156)]; done)
                      | (rw [if_neg s_12_0, if_neg s_12_1, if_neg s_12_2, if_neg s_12_3, if_pos s_12_4, b2, if_pos c_156]; done)
                      | (rw [if_neg s_12_0, if_neg s_12_1, if_neg s_12_2, if_neg s_12_3, if_pos s_12_4, b2, if_neg (fun h => c_156 h)]; done)
                      | (rw [if_neg s_12_0, if_neg s_12_1, if_neg s_12_2, if_neg s_12_3, if_pos s_12_4, b2, if_neg (fun h => h c_156)]; done)
                      | (rw [if_neg s_12_0, if_neg s_12_1, if_neg s_12_2, if_neg s_12_3, if_neg s_12_4, if_pos s_12_5, b2, if_pos c_156]; done)
                      | (rw [if_neg s_12_0, if_neg s_12_1, if_neg s_12_2, if_neg s_12_3, if_neg s_12_4, if_pos s_12_5, b2, if_neg (fun h => c_156 h)]; done)
                      | (rw [if_neg s_12_0, if_neg s_12_1, if_neg s_12_2, if_neg s_12_3, if_neg s_12_4, if_pos s_12_5, b2, if_neg (fun h => h c_156)]; done)
                      | (rw [if_neg s_12_0, if_neg s_12_1, if_neg s_12_2, if_neg s_12_3, if_neg s_12_4, if_neg s_12_5, if_pos s_12_6, b2, if_pos c_156]; done)
                      | (rw [if_neg s_12_0, if_neg s_12_1, if_neg s_12_2, if_neg s_12_3, if_neg s_12_4, if_neg s_12_5, if_pos s_12_6, b2, if_neg (fun h => c_156 h)]; done)
                      | (rw [if_neg s_12_0, if_neg s_12_1, if_neg s_12_2, if_neg s_12_3, if_neg s_12_4, if_neg s_12_5, if_pos s_12_6, b2, if_neg (fun h => h c_156)]; done)
                      | (rw [if_neg s_12_0, if_neg s_12_1, if_neg s_12_2, if_neg s_12_3, if_neg s_12_4, if_neg s_12_5, if_neg s_12_6, if_pos s_12_7, b2, if_pos c_156]; done)
                      | (rw [if_neg s_12_0, if_neg s_12_1, if_neg s_12_2, if_neg s_12_3, if_neg s_12_4, if_neg s_12_5, if_neg s_12_6, if_pos s_12_7, b2, if_neg (fun h => c_156 h)]; done)
                      | (rw [if_neg s_12_0, if_neg s_12_1, if_neg s_12_2, if_neg s_12_3, if_neg s_12_4, if_neg s_12_5, if_neg s_12_6, if_pos s_12_7, b2, if_neg (fun h => h c_156)]; done)
                      | (rw [if_neg s_12_0, if_neg s_12_1, if_neg s_12_2, if_neg s_12_3, if_neg s_12_4, if_neg s_12_5, if_neg s_12_6, if_neg s_12_7, if_pos s_12_8, b2, if_pos c_156]; done)
                      | (rw [if_neg s_12_0, if_neg s_12_1, if_neg s_12_2, if_neg s_12_3, if_neg s_12_4, if_neg s_12_5, if_neg s_12_6, if_neg s_12_7, if_pos s_12_8, b2, if_neg (fun h => c_156 h)]; done)
                      | (rw [if_neg s_12_0, if_neg s_12_1, if_neg s_12_2, if_neg s_12_3, if_neg s_12_4, if_neg s_12_5, if_neg s_12_6, if_neg s_12_7, if_pos s_12_8, b2, if_neg (fun h => h c_156)]; done)
                      | (rw [if_neg s_12_0, if_neg s_12_1, if_neg s_12_2, if_neg s_12_3, if_neg s_12_4, if_neg s_12_5, if_neg s_12_6, if_neg s_12_7, if_neg s_12_8, b2, if_pos c_156]; done)
                      | (rw [if_neg s_12_0, if_neg s_12_1, if_neg s_12_2, if_neg s_12_3, if_neg s_12_4, if_neg s_12_5, if_neg s_12_6, if_neg s_12_7, if_neg s_12_8, b2, if_neg (fun h => c_156 h)]; done)
                      | (rw [if_neg s_12_0, if_neg s_12_1, if_neg s_12_2, if_neg s_12_3, if_neg s_12_4, if_neg s_12_5, if_neg s_12_6, if_neg s_12_7, if_neg s_12_8, b2, if_neg (fun h => h c_156)]; done)
                ·
                  by_cases s_12_8 : w = nI 8
                  · refine w_tabIn (tgt := 165) (off := 153) dX7_item_12 (by rw [s_12_8]; decide) (by rw [s_12_8]; decide) (by rw [s_12_8]; rfl) (by decide) ?_
                    refine w_aload_n dX7_item_165 rfl ?_
                    refine w_getf dX7_item_166 fl_X7_37 (by first | assumption | exact gs_at | (rw [gs_ne (by omega)]; (first | assumption | exact gs_at | (rw [gs_ne (by omega)]; (first | assumption | exact gs_at | (rw [gs_ne (by omega)]; (first | assumption | exact gs_at | (rw [gs_ne (by omega)]; (first | assumption | exact gs_at))))))))) rfl ?_
                    refine w_iload_n dX7_item_169 rfl ?_
                    refine wV1u dX7_item_170 lk_X7_163 rfl (by first | assumption | exact gs_at | (rw [gs_ne (by omega)]; (first | assumption | exact gs_at | (rw [gs_ne (by omega)]; (first | assumption | exact gs_at | (rw [gs_ne (by omega)]; (first | assumption | exact gs_at | (rw [gs_ne (by omega)]; (first | assumption | exact gs_at))))))))) rfl rfl (c_worseBy hI hBd (by omega)) (Nat.le_of_ble_eq_true rfl) (Nat.le_of_ble_eq_true rfl) (Nat.le_of_ble_eq_true rfl) (Nat.le_of_ble_eq_true rfl) ?_
                    refine w_iret dX7_item_173 rfl (Nat.le_of_ble_eq_true rfl) (Nat.le_of_ble_eq_true rfl) ?_
                    refine ⟨XOut.ok (by rw [xk2, if_pos ok_2, if_pos ok_8]) ?_, hH, FH.rf⟩
                    try rw [ix_nI (by omega)]
                    try rw [ix_nI (by omega)]
                    rw [itemV]
                    first
                      | (rw [if_pos s_12_0]; done)
                      | (rw [if_neg s_12_0, if_pos s_12_1]; done)
                      | (rw [if_neg s_12_0, if_neg s_12_1, if_pos s_12_2]; done)
                      | (rw [if_neg s_12_0, if_neg s_12_1, if_neg s_12_2, if_pos s_12_3]; done)
                      | (rw [if_neg s_12_0, if_neg s_12_1, if_neg s_12_2, if_neg s_12_3, if_pos s_12_4]; done)
                      | (rw [if_neg s_12_0, if_neg s_12_1, if_neg s_12_2, if_neg s_12_3, if_neg s_12_4, if_pos s_12_5]; done)
                      | (rw [if_neg s_12_0, if_neg s_12_1, if_neg s_12_2, if_neg s_12_3, if_neg s_12_4, if_neg s_12_5, if_pos s_12_6]; done)
                      | (rw [if_neg s_12_0, if_neg s_12_1, if_neg s_12_2, if_neg s_12_3, if_neg s_12_4, if_neg s_12_5, if_neg s_12_6, if_pos s_12_7]; done)
                      | (rw [if_neg s_12_0, if_neg s_12_1, if_neg s_12_2, if_neg s_12_3, if_neg s_12_4, if_neg s_12_5, if_neg s_12_6, if_neg s_12_7, if_pos s_12_8]; done)
                      | (rw [if_neg s_12_0, if_neg s_12_1, if_neg s_12_2, if_neg s_12_3, if_neg s_12_4, if_neg s_12_5, if_neg s_12_6, if_neg s_12_7, if_neg s_12_8]; done)
                      | (rw [if_pos s_12_0, b2, if_pos c_156]; done)
                      | (rw [if_pos s_12_0, b2, if_neg (fun h => c_156 h)]; done)
                      | (rw [if_pos s_12_0, b2, if_neg (fun h => h c_156)]; done)
                      | (rw [if_neg s_12_0, if_pos s_12_1, b2, if_pos c_156]; done)
                      | (rw [if_neg s_12_0, if_pos s_12_1, b2, if_neg (fun h => c_156 h)]; done)
                      | (rw [if_neg s_12_0, if_pos s_12_1, b2, if_neg (fun h => h c_156)]; done)
                      | (rw [if_neg s_12_0, if_neg s_12_1, if_pos s_12_2, b2, if_pos c_156]; done)
                      | (rw [if_neg s_12_0, if_neg s_12_1, if_pos s_12_2, b2, if_neg (fun h => c_156 h)]; done)
                      | (rw [if_neg s_12_0, if_neg s_12_1, if_pos s_12_2, b2, if_neg (fun h => h c_156)]; done)
                      | (rw [if_neg s_12_0, if_neg s_12_1, if_neg s_12_2, if_pos s_12_3, b2, if_pos c_156]; done)
                      | (rw [if_neg s_12_0, if_neg s_12_1, if_neg s_12_2, if_pos s_12_3, b2, if_neg (fun h => c_156 h)]; done)
                      | (rw [if_neg s_12_0, if_neg s_12_1, if_neg s_12_2, if_pos s_12_3, b2, if_neg (fun h => h c_156)]; done)
                      | (rw [if_neg s_12_0, if_neg s_12_1, if_neg s_12_2, if_neg s_12_3, if_pos s_12_4, b2, if_pos c_156]; done)
                      | (rw [if_neg s_12_0, if_neg s_12_1, if_neg s_12_2, if_neg s_12_3, if_pos s_12_4, b2, if_neg (fun h => c_156 h)]; done)
                      | (rw [if_neg s_12_0, if_neg s_12_1, if_neg s_12_2, if_neg s_12_3, if_pos s_12_4, b2, if_neg (fun h => h c_156)]; done)
                      | (rw [if_neg s_12_0, if_neg s_12_1, if_neg s_12_2, if_neg s_12_3, if_neg s_12_4, if_pos s_12_5, b2, if_pos c_156]; done)
                      | (rw [if_neg s_12_0, if_neg s_12_1, if_neg s_12_2, if_neg s_12_3, if_neg s_12_4, if_pos s_12_5, b2, if_neg (fun h => c_156 h)]; done)
                      | (rw [if_neg s_12_0, if_neg s_12_1, if_neg s_12_2, if_neg s_12_3, if_neg s_12_4, if_pos s_12_5, b2, if_neg (fun h => h c_156)]; done)
                      | (rw [if_neg s_12_0, if_neg s_12_1, if_neg s_12_2, if_neg s_12_3, if_neg s_12_4, if_neg s_12_5, if_pos s_12_6, b2, if_pos c_156]; done)
                      | (rw [if_neg s_12_0, if_neg s_12_1, if_neg s_12_2, if_neg s_12_3, if_neg s_12_4, if_neg s_12_5, if_pos s_12_6, b2, if_neg (fun h => c_156 h)]; done)
                      | (rw [if_neg s_12_0, if_neg s_12_1, if_neg s_12_2, if_neg s_12_3, if_neg s_12_4, if_neg s_12_5, if_pos s_12_6, b2, if_neg (fun h => h c_156)]; done)
                      | (rw [if_neg s_12_0, if_neg s_12_1, if_neg s_12_2, if_neg s_12_3, if_neg s_12_4, if_neg s_12_5, if_neg s_12_6, if_pos s_12_7, b2, if_pos c_156]; done)
                      | (rw [if_neg s_12_0, if_neg s_12_1, if_neg s_12_2, if_neg s_12_3, if_neg s_12_4, if_neg s_12_5, if_neg s_12_6, if_pos s_12_7, b2, if_neg (fun h => c_156 h)]; done)
                      | (rw [if_neg s_12_0, if_neg s_12_1, if_neg s_12_2, if_neg s_12_3, if_neg s_12_4, if_neg s_12_5, if_neg s_12_6, if_pos s_12_7, b2, if_neg (fun h => h c_156)]; done)
                      | (rw [if_neg s_12_0, if_neg s_12_1, if_neg s_12_2, if_neg s_12_3, if_neg s_12_4, if_neg s_12_5, if_neg s_12_6, if_neg s_12_7, if_pos s_12_8, b2, if_pos c_156]; done)
                      | (rw [if_neg s_12_0, if_neg s_12_1, if_neg s_12_2, if_neg s_12_3, if_neg s_12_4, if_neg s_12_5, if_neg s_12_6, if_neg s_12_7, if_pos s_12_8, b2, if_neg (fun h => c_156 h)]; done)
                      | (rw [if_neg s_12_0, if_neg s_12_1, if_neg s_12_2, if_neg s_12_3, if_neg s_12_4, if_neg s_12_5, if_neg s_12_6, if_neg s_12_7, if_pos s_12_8, b2, if_neg (fun h => h c_156)]; done)
                      | (rw [if_neg s_12_0, if_neg s_12_1, if_neg s_12_2, if_neg s_12_3, if_neg s_12_4, if_neg s_12_5, if_neg s_12_6, if_neg s_12_7, if_neg s_12_8, b2, if_pos c_156]; done)
                      | (rw [if_neg s_12_0, if_neg s_12_1, if_neg s_12_2, if_neg s_12_3, if_neg s_12_4, if_neg s_12_5, if_neg s_12_6, if_neg s_12_7, if_neg s_12_8, b2, if_neg (fun h => c_156 h)]; done)
                      | (rw [if_neg s_12_0, if_neg s_12_1, if_neg s_12_2, if_neg s_12_3, if_neg s_12_4, if_neg s_12_5, if_neg s_12_6, if_neg s_12_7, if_neg s_12_8, b2, if_neg (fun h => h c_156)]; done)
                  ·
                    refine w_tabOut (tgt := 174) dX7_item_12 (by have : ¬ Int32.toInt (w) = 0 := lv_neT s_12_0 rfl; have : ¬ Int32.toInt (w) = 1 := lv_neT s_12_1 rfl; have : ¬ Int32.toInt (w) = 2 := lv_neT s_12_2 rfl; have : ¬ Int32.toInt (w) = 3 := lv_neT s_12_3 rfl; have : ¬ Int32.toInt (w) = 4 := lv_neT s_12_4 rfl; have : ¬ Int32.toInt (w) = 5 := lv_neT s_12_5 rfl; have : ¬ Int32.toInt (w) = 6 := lv_neT s_12_6 rfl; have : ¬ Int32.toInt (w) = 7 := lv_neT s_12_7 rfl; have : ¬ Int32.toInt (w) = 8 := lv_neT s_12_8 rfl; omega) (by decide) ?_
                    refine w_aload_n dX7_item_174 rfl ?_
                    refine w_getf dX7_item_175 fl_X7_37 (by first | assumption | exact gs_at | (rw [gs_ne (by omega)]; (first | assumption | exact gs_at | (rw [gs_ne (by omega)]; (first | assumption | exact gs_at | (rw [gs_ne (by omega)]; (first | assumption | exact gs_at | (rw [gs_ne (by omega)]; (first | assumption | exact gs_at))))))))) rfl ?_
                    refine w_iload_n dX7_item_178 rfl ?_
                    refine wV1u dX7_item_179 lk_X7_167 rfl (by first | assumption | exact gs_at | (rw [gs_ne (by omega)]; (first | assumption | exact gs_at | (rw [gs_ne (by omega)]; (first | assumption | exact gs_at | (rw [gs_ne (by omega)]; (first | assumption | exact gs_at | (rw [gs_ne (by omega)]; (first | assumption | exact gs_at))))))))) rfl rfl (c_workOf hI hBd (by omega)) (Nat.le_of_ble_eq_true rfl) (Nat.le_of_ble_eq_true rfl) (Nat.le_of_ble_eq_true rfl) (Nat.le_of_ble_eq_true rfl) ?_
                    refine w_iret dX7_item_182 rfl (Nat.le_of_ble_eq_true rfl) (Nat.le_of_ble_eq_true rfl) ?_
                    refine ⟨XOut.ok (by rw [xk2, if_pos ok_2, if_pos ok_8]) ?_, hH, FH.rf⟩
                    try rw [ix_nI (by omega)]
                    try rw [ix_nI (by omega)]
                    rw [itemV]
                    first
                      | (rw [if_pos s_12_0]; done)
                      | (rw [if_neg s_12_0, if_pos s_12_1]; done)
                      | (rw [if_neg s_12_0, if_neg s_12_1, if_pos s_12_2]; done)
                      | (rw [if_neg s_12_0, if_neg s_12_1, if_neg s_12_2, if_pos s_12_3]; done)
                      | (rw [if_neg s_12_0, if_neg s_12_1, if_neg s_12_2, if_neg s_12_3, if_pos s_12_4]; done)
                      | (rw [if_neg s_12_0, if_neg s_12_1, if_neg s_12_2, if_neg s_12_3, if_neg s_12_4, if_pos s_12_5]; done)
                      | (rw [if_neg s_12_0, if_neg s_12_1, if_neg s_12_2, if_neg s_12_3, if_neg s_12_4, if_neg s_12_5, if_pos s_12_6]; done)
                      | (rw [if_neg s_12_0, if_neg s_12_1, if_neg s_12_2, if_neg s_12_3, if_neg s_12_4, if_neg s_12_5, if_neg s_12_6, if_pos s_12_7]; done)
                      | (rw [if_neg s_12_0, if_neg s_12_1, if_neg s_12_2, if_neg s_12_3, if_neg s_12_4, if_neg s_12_5, if_neg s_12_6, if_neg s_12_7, if_pos s_12_8]; done)
                      | (rw [if_neg s_12_0, if_neg s_12_1, if_neg s_12_2, if_neg s_12_3, if_neg s_12_4, if_neg s_12_5, if_neg s_12_6, if_neg s_12_7, if_neg s_12_8]; done)
                      | (rw [if_pos s_12_0, b2, if_pos c_156]; done)
                      | (rw [if_pos s_12_0, b2, if_neg (fun h => c_156 h)]; done)
                      | (rw [if_pos s_12_0, b2, if_neg (fun h => h c_156)]; done)
                      | (rw [if_neg s_12_0, if_pos s_12_1, b2, if_pos c_156]; done)
                      | (rw [if_neg s_12_0, if_pos s_12_1, b2, if_neg (fun h => c_156 h)]; done)
                      | (rw [if_neg s_12_0, if_pos s_12_1, b2, if_neg (fun h => h c_156)]; done)
                      | (rw [if_neg s_12_0, if_neg s_12_1, if_pos s_12_2, b2, if_pos c_156]; done)
                      | (rw [if_neg s_12_0, if_neg s_12_1, if_pos s_12_2, b2, if_neg (fun h => c_156 h)]; done)
                      | (rw [if_neg s_12_0, if_neg s_12_1, if_pos s_12_2, b2, if_neg (fun h => h c_156)]; done)
                      | (rw [if_neg s_12_0, if_neg s_12_1, if_neg s_12_2, if_pos s_12_3, b2, if_pos c_156]; done)
                      | (rw [if_neg s_12_0, if_neg s_12_1, if_neg s_12_2, if_pos s_12_3, b2, if_neg (fun h => c_156 h)]; done)
                      | (rw [if_neg s_12_0, if_neg s_12_1, if_neg s_12_2, if_pos s_12_3, b2, if_neg (fun h => h c_156)]; done)
                      | (rw [if_neg s_12_0, if_neg s_12_1, if_neg s_12_2, if_neg s_12_3, if_pos s_12_4, b2, if_pos c_156]; done)
                      | (rw [if_neg s_12_0, if_neg s_12_1, if_neg s_12_2, if_neg s_12_3, if_pos s_12_4, b2, if_neg (fun h => c_156 h)]; done)
                      | (rw [if_neg s_12_0, if_neg s_12_1, if_neg s_12_2, if_neg s_12_3, if_pos s_12_4, b2, if_neg (fun h => h c_156)]; done)
                      | (rw [if_neg s_12_0, if_neg s_12_1, if_neg s_12_2, if_neg s_12_3, if_neg s_12_4, if_pos s_12_5, b2, if_pos c_156]; done)
                      | (rw [if_neg s_12_0, if_neg s_12_1, if_neg s_12_2, if_neg s_12_3, if_neg s_12_4, if_pos s_12_5, b2, if_neg (fun h => c_156 h)]; done)
                      | (rw [if_neg s_12_0, if_neg s_12_1, if_neg s_12_2, if_neg s_12_3, if_neg s_12_4, if_pos s_12_5, b2, if_neg (fun h => h c_156)]; done)
                      | (rw [if_neg s_12_0, if_neg s_12_1, if_neg s_12_2, if_neg s_12_3, if_neg s_12_4, if_neg s_12_5, if_pos s_12_6, b2, if_pos c_156]; done)
                      | (rw [if_neg s_12_0, if_neg s_12_1, if_neg s_12_2, if_neg s_12_3, if_neg s_12_4, if_neg s_12_5, if_pos s_12_6, b2, if_neg (fun h => c_156 h)]; done)
                      | (rw [if_neg s_12_0, if_neg s_12_1, if_neg s_12_2, if_neg s_12_3, if_neg s_12_4, if_neg s_12_5, if_pos s_12_6, b2, if_neg (fun h => h c_156)]; done)
                      | (rw [if_neg s_12_0, if_neg s_12_1, if_neg s_12_2, if_neg s_12_3, if_neg s_12_4, if_neg s_12_5, if_neg s_12_6, if_pos s_12_7, b2, if_pos c_156]; done)
                      | (rw [if_neg s_12_0, if_neg s_12_1, if_neg s_12_2, if_neg s_12_3, if_neg s_12_4, if_neg s_12_5, if_neg s_12_6, if_pos s_12_7, b2, if_neg (fun h => c_156 h)]; done)
                      | (rw [if_neg s_12_0, if_neg s_12_1, if_neg s_12_2, if_neg s_12_3, if_neg s_12_4, if_neg s_12_5, if_neg s_12_6, if_pos s_12_7, b2, if_neg (fun h => h c_156)]; done)
                      | (rw [if_neg s_12_0, if_neg s_12_1, if_neg s_12_2, if_neg s_12_3, if_neg s_12_4, if_neg s_12_5, if_neg s_12_6, if_neg s_12_7, if_pos s_12_8, b2, if_pos c_156]; done)
                      | (rw [if_neg s_12_0, if_neg s_12_1, if_neg s_12_2, if_neg s_12_3, if_neg s_12_4, if_neg s_12_5, if_neg s_12_6, if_neg s_12_7, if_pos s_12_8, b2, if_neg (fun h => c_156 h)]; done)
                      | (rw [if_neg s_12_0, if_neg s_12_1, if_neg s_12_2, if_neg s_12_3, if_neg s_12_4, if_neg s_12_5, if_neg s_12_6, if_neg s_12_7, if_pos s_12_8, b2, if_neg (fun h => h c_156)]; done)
                      | (rw [if_neg s_12_0, if_neg s_12_1, if_neg s_12_2, if_neg s_12_3, if_neg s_12_4, if_neg s_12_5, if_neg s_12_6, if_neg s_12_7, if_neg s_12_8, b2, if_pos c_156]; done)
                      | (rw [if_neg s_12_0, if_neg s_12_1, if_neg s_12_2, if_neg s_12_3, if_neg s_12_4, if_neg s_12_5, if_neg s_12_6, if_neg s_12_7, if_neg s_12_8, b2, if_neg (fun h => c_156 h)]; done)
                      | (rw [if_neg s_12_0, if_neg s_12_1, if_neg s_12_2, if_neg s_12_3, if_neg s_12_4, if_neg s_12_5, if_neg s_12_6, if_neg s_12_7, if_neg s_12_8, b2, if_neg (fun h => h c_156)]; done)
theorem c_room {E : EV} {G : AH} {B tn im nw rm ru sp : Nat} {f : Nat → Nat} {wb sd si : Int32} {T Ti : ST} {D Di : LD} {P : Nat → ST × Int32} {x w : Int32} (hH : HI G B tn f wb T sd D im Ti si Di nw rm P ru sp)  : Ct E 10 2 12 kX7_room [.ref B, .int x, .int w] G (fun o G1 => XOut ["java/lang/IndexOutOfBoundsException", "java/util/NoSuchElementException"] (xk2 (okI 6 x) (okN 0 (nI 3) w)) (roomV T (ix x) w) o ∧ HI G1 B tn f wb T sd D im Ti si Di nw rm P ru sp ∧ FH G G1 B) := by
  obtain ⟨hB, ⟨htn, him, hnw, hrm⟩, hT, hRd, ⟨hI, hBd⟩, hS, ⟨hL, hD, hSp, hrs⟩, ⟨hIi, hBi, hLi, hDi⟩, ⟨hPa, hPi⟩, ⟨⟨we, hwe⟩, hSm, hSv, ⟨od, hod⟩⟩⟩ := id hH; obtain ⟨⟨_, _, _, _, _, _, gS0⟩, _⟩ := id hS; have hI0 := hI.1; have hIi0 := hIi.1
  obtain ⟨i0, i1, i2, i3, i4, i5, i6, i7, i8, i9, i10, i11, i12, i13⟩ := id hI
  obtain ⟨b0, b1, b2_, b3, b4, b5, b6, b7, b8, b9, b10, b11, b12, b13, b14, b15, b16, b17, b18, b19⟩ := id hBd
  have hls := HI.ls hH
  have hla : ru + 6 ≤ B + 9 ∨ B + 9 + 14 ≤ ru := by omega
  have hlb : ru + 6 ≤ B + 23 ∨ B + 23 + 14 ≤ ru := by omega
  refine Ct.intro rfl (by decide) [.ref B, .int x, .int w] (by simp [Value.category]) (Nat.le_of_ble_eq_true rfl) rfl ?_
  refine w_iload_n dX7_room_0 rfl ?_
  refine wS1k dX7_room_1 lk_X7_170 rfl rfl (c_checkRoom) (Nat.le_of_ble_eq_true rfl) (Nat.le_of_ble_eq_true rfl) (Nat.le_of_ble_eq_true rfl) (Nat.le_of_ble_eq_true rfl) ((fun h9 n9 h8 => ⟨XOut.no (j := 0) (by rw [xk2, if_neg h9]) rfl, hH.x, FH.x h8⟩)) (fun ok_1 => ?_)
  obtain ⟨i, hi9, rfl⟩ := in_N (by omega) ok_1
  refine w_iload_n dX7_room_4 rfl ?_
  refine w_iconst (v := nI 3) dX7_room_5 (by decide) ?_
  refine wS2k dX7_room_6 lk_X7_130 rfl rfl (c_checkWhat) (Nat.le_of_ble_eq_true rfl) (Nat.le_of_ble_eq_true rfl) (Nat.le_of_ble_eq_true rfl) (Nat.le_of_ble_eq_true rfl) ((fun h9 n9 h8 => ⟨XOut.no (j := 1) (by rw [xk2, if_pos ok_1, if_neg h9]) rfl, hH.x, FH.x h8⟩)) (fun ok_6 => ?_)
  refine w_iload_n dX7_room_9 rfl ?_
  by_cases s_10_0 : w = nI 0
  · refine w_tabIn (tgt := 36) (off := 26) dX7_room_10 (by rw [s_10_0]; decide) (by rw [s_10_0]; decide) (by rw [s_10_0]; rfl) (by decide) ?_
    refine w_aload_n dX7_room_36 rfl ?_
    refine w_getf dX7_room_37 fl_X7_37 (by first | assumption | exact gs_at | (rw [gs_ne (by omega)]; (first | assumption | exact gs_at | (rw [gs_ne (by omega)]; (first | assumption | exact gs_at | (rw [gs_ne (by omega)]; (first | assumption | exact gs_at | (rw [gs_ne (by omega)]; (first | assumption | exact gs_at))))))))) rfl ?_
    refine w_getf dX7_room_40 fl_X7_173 (by first | assumption | exact gs_at | (rw [gs_ne (by omega)]; (first | assumption | exact gs_at | (rw [gs_ne (by omega)]; (first | assumption | exact gs_at | (rw [gs_ne (by omega)]; (first | assumption | exact gs_at | (rw [gs_ne (by omega)]; (first | assumption | exact gs_at))))))))) rfl ?_
    refine w_iload_n dX7_room_43 rfl ?_
    refine wS2u dX7_room_44 lk_X7_137 rfl (c_atN (f := fun i => nI (T 7 i)) i8 (by omega) (by decide)) (Nat.le_of_ble_eq_true rfl) (Nat.le_of_ble_eq_true rfl) (Nat.le_of_ble_eq_true rfl) (Nat.le_of_ble_eq_true rfl) ?_
    refine w_iret dX7_room_47 rfl (Nat.le_of_ble_eq_true rfl) (Nat.le_of_ble_eq_true rfl) ?_
    refine ⟨XOut.ok (by rw [xk2, if_pos ok_1, if_pos ok_6]) ?_, hH, FH.rf⟩
    try rw [ix_nI (by omega)]
    try rw [ix_nI (by omega)]
    rw [roomV]
    first
      | (rw [if_pos s_10_0]; done)
      | (rw [if_neg s_10_0, if_pos s_10_1]; done)
      | (rw [if_neg s_10_0, if_neg s_10_1, if_pos s_10_2]; done)
      | (rw [if_neg s_10_0, if_neg s_10_1, if_neg s_10_2]; done)
      | (rw [if_pos s_10_0, b2, if_pos c_BR]; done)
      | (rw [if_pos s_10_0, b2, if_neg (fun h => c_BR h)]; done)
      | (rw [if_pos s_10_0, b2, if_neg (fun h => h c_BR)]; done)
      | (rw [if_neg s_10_0, if_pos s_10_1, b2, if_pos c_BR]; done)
      | (rw [if_neg s_10_0, if_pos s_10_1, b2, if_neg (fun h => c_BR h)]; done)
      | (rw [if_neg s_10_0, if_pos s_10_1, b2, if_neg (fun h => h c_BR)]; done)
      | (rw [if_neg s_10_0, if_neg s_10_1, if_pos s_10_2, b2, if_pos c_BR]; done)
      | (rw [if_neg s_10_0, if_neg s_10_1, if_pos s_10_2, b2, if_neg (fun h => c_BR h)]; done)
      | (rw [if_neg s_10_0, if_neg s_10_1, if_pos s_10_2, b2, if_neg (fun h => h c_BR)]; done)
      | (rw [if_neg s_10_0, if_neg s_10_1, if_neg s_10_2, b2, if_pos c_BR]; done)
      | (rw [if_neg s_10_0, if_neg s_10_1, if_neg s_10_2, b2, if_neg (fun h => c_BR h)]; done)
      | (rw [if_neg s_10_0, if_neg s_10_1, if_neg s_10_2, b2, if_neg (fun h => h c_BR)]; done)
  ·
    by_cases s_10_1 : w = nI 1
    · refine w_tabIn (tgt := 48) (off := 38) dX7_room_10 (by rw [s_10_1]; decide) (by rw [s_10_1]; decide) (by rw [s_10_1]; rfl) (by decide) ?_
      refine w_aload_n dX7_room_48 rfl ?_
      refine w_getf dX7_room_49 fl_X7_37 (by first | assumption | exact gs_at | (rw [gs_ne (by omega)]; (first | assumption | exact gs_at | (rw [gs_ne (by omega)]; (first | assumption | exact gs_at | (rw [gs_ne (by omega)]; (first | assumption | exact gs_at | (rw [gs_ne (by omega)]; (first | assumption | exact gs_at))))))))) rfl ?_
      refine w_getf dX7_room_52 fl_X7_176 (by first | assumption | exact gs_at | (rw [gs_ne (by omega)]; (first | assumption | exact gs_at | (rw [gs_ne (by omega)]; (first | assumption | exact gs_at | (rw [gs_ne (by omega)]; (first | assumption | exact gs_at | (rw [gs_ne (by omega)]; (first | assumption | exact gs_at))))))))) rfl ?_
      refine w_iload_n dX7_room_55 rfl ?_
      refine wS2u dX7_room_56 lk_X7_137 rfl (c_atN (f := fun i => nI (T 8 i)) i9 (by omega) (by decide)) (Nat.le_of_ble_eq_true rfl) (Nat.le_of_ble_eq_true rfl) (Nat.le_of_ble_eq_true rfl) (Nat.le_of_ble_eq_true rfl) ?_
      refine w_iret dX7_room_59 rfl (Nat.le_of_ble_eq_true rfl) (Nat.le_of_ble_eq_true rfl) ?_
      refine ⟨XOut.ok (by rw [xk2, if_pos ok_1, if_pos ok_6]) ?_, hH, FH.rf⟩
      try rw [ix_nI (by omega)]
      try rw [ix_nI (by omega)]
      rw [roomV]
      first
        | (rw [if_pos s_10_0]; done)
        | (rw [if_neg s_10_0, if_pos s_10_1]; done)
        | (rw [if_neg s_10_0, if_neg s_10_1, if_pos s_10_2]; done)
        | (rw [if_neg s_10_0, if_neg s_10_1, if_neg s_10_2]; done)
        | (rw [if_pos s_10_0, b2, if_pos c_BR]; done)
        | (rw [if_pos s_10_0, b2, if_neg (fun h => c_BR h)]; done)
        | (rw [if_pos s_10_0, b2, if_neg (fun h => h c_BR)]; done)
        | (rw [if_neg s_10_0, if_pos s_10_1, b2, if_pos c_BR]; done)
        | (rw [if_neg s_10_0, if_pos s_10_1, b2, if_neg (fun h => c_BR h)]; done)
        | (rw [if_neg s_10_0, if_pos s_10_1, b2, if_neg (fun h => h c_BR)]; done)
        | (rw [if_neg s_10_0, if_neg s_10_1, if_pos s_10_2, b2, if_pos c_BR]; done)
        | (rw [if_neg s_10_0, if_neg s_10_1, if_pos s_10_2, b2, if_neg (fun h => c_BR h)]; done)
        | (rw [if_neg s_10_0, if_neg s_10_1, if_pos s_10_2, b2, if_neg (fun h => h c_BR)]; done)
        | (rw [if_neg s_10_0, if_neg s_10_1, if_neg s_10_2, b2, if_pos c_BR]; done)
        | (rw [if_neg s_10_0, if_neg s_10_1, if_neg s_10_2, b2, if_neg (fun h => c_BR h)]; done)
        | (rw [if_neg s_10_0, if_neg s_10_1, if_neg s_10_2, b2, if_neg (fun h => h c_BR)]; done)
    ·
      by_cases s_10_2 : w = nI 2
      · refine w_tabIn (tgt := 60) (off := 50) dX7_room_10 (by rw [s_10_2]; decide) (by rw [s_10_2]; decide) (by rw [s_10_2]; rfl) (by decide) ?_
        refine w_aload_n dX7_room_60 rfl ?_
        refine w_getf dX7_room_61 fl_X7_37 (by first | assumption | exact gs_at | (rw [gs_ne (by omega)]; (first | assumption | exact gs_at | (rw [gs_ne (by omega)]; (first | assumption | exact gs_at | (rw [gs_ne (by omega)]; (first | assumption | exact gs_at | (rw [gs_ne (by omega)]; (first | assumption | exact gs_at))))))))) rfl ?_
        refine w_aload_n dX7_room_64 rfl ?_
        refine w_getf dX7_room_65 fl_X7_37 (by first | assumption | exact gs_at | (rw [gs_ne (by omega)]; (first | assumption | exact gs_at | (rw [gs_ne (by omega)]; (first | assumption | exact gs_at | (rw [gs_ne (by omega)]; (first | assumption | exact gs_at | (rw [gs_ne (by omega)]; (first | assumption | exact gs_at))))))))) rfl ?_
        refine w_getf dX7_room_68 fl_X7_134 (by first | assumption | exact gs_at | (rw [gs_ne (by omega)]; (first | assumption | exact gs_at | (rw [gs_ne (by omega)]; (first | assumption | exact gs_at | (rw [gs_ne (by omega)]; (first | assumption | exact gs_at | (rw [gs_ne (by omega)]; (first | assumption | exact gs_at))))))))) rfl ?_
        refine w_iload_n dX7_room_71 rfl ?_
        refine wV2u dX7_room_72 lk_X7_179 rfl (by first | assumption | exact gs_at | (rw [gs_ne (by omega)]; (first | assumption | exact gs_at | (rw [gs_ne (by omega)]; (first | assumption | exact gs_at | (rw [gs_ne (by omega)]; (first | assumption | exact gs_at | (rw [gs_ne (by omega)]; (first | assumption | exact gs_at))))))))) rfl rfl (c_itemsWith (f := fun i => T 1 i) hI hBd i2 (fun i => by have := b1 i; have := b2_ i; have := b5 i; (try dsimp only); omega) (by omega)) (Nat.le_of_ble_eq_true rfl) (Nat.le_of_ble_eq_true rfl) (Nat.le_of_ble_eq_true rfl) (Nat.le_of_ble_eq_true rfl) ?_
        refine w_iret dX7_room_75 rfl (Nat.le_of_ble_eq_true rfl) (Nat.le_of_ble_eq_true rfl) ?_
        refine ⟨XOut.ok (by rw [xk2, if_pos ok_1, if_pos ok_6]) ?_, hH, FH.rf⟩
        try rw [ix_nI (by omega)]
        try rw [ix_nI (by omega)]
        rw [roomV]
        first
          | (rw [if_pos s_10_0]; done)
          | (rw [if_neg s_10_0, if_pos s_10_1]; done)
          | (rw [if_neg s_10_0, if_neg s_10_1, if_pos s_10_2]; done)
          | (rw [if_neg s_10_0, if_neg s_10_1, if_neg s_10_2]; done)
          | (rw [if_pos s_10_0, b2, if_pos c_BR]; done)
          | (rw [if_pos s_10_0, b2, if_neg (fun h => c_BR h)]; done)
          | (rw [if_pos s_10_0, b2, if_neg (fun h => h c_BR)]; done)
          | (rw [if_neg s_10_0, if_pos s_10_1, b2, if_pos c_BR]; done)
          | (rw [if_neg s_10_0, if_pos s_10_1, b2, if_neg (fun h => c_BR h)]; done)
          | (rw [if_neg s_10_0, if_pos s_10_1, b2, if_neg (fun h => h c_BR)]; done)
          | (rw [if_neg s_10_0, if_neg s_10_1, if_pos s_10_2, b2, if_pos c_BR]; done)
          | (rw [if_neg s_10_0, if_neg s_10_1, if_pos s_10_2, b2, if_neg (fun h => c_BR h)]; done)
          | (rw [if_neg s_10_0, if_neg s_10_1, if_pos s_10_2, b2, if_neg (fun h => h c_BR)]; done)
          | (rw [if_neg s_10_0, if_neg s_10_1, if_neg s_10_2, b2, if_pos c_BR]; done)
          | (rw [if_neg s_10_0, if_neg s_10_1, if_neg s_10_2, b2, if_neg (fun h => c_BR h)]; done)
          | (rw [if_neg s_10_0, if_neg s_10_1, if_neg s_10_2, b2, if_neg (fun h => h c_BR)]; done)
      ·
        refine w_tabOut (tgt := 76) dX7_room_10 (by have : ¬ Int32.toInt (w) = 0 := lv_neT s_10_0 rfl; have : ¬ Int32.toInt (w) = 1 := lv_neT s_10_1 rfl; have : ¬ Int32.toInt (w) = 2 := lv_neT s_10_2 rfl; omega) (by decide) ?_
        refine w_aload_n dX7_room_76 rfl ?_
        refine w_getf dX7_room_77 fl_X7_37 (by first | assumption | exact gs_at | (rw [gs_ne (by omega)]; (first | assumption | exact gs_at | (rw [gs_ne (by omega)]; (first | assumption | exact gs_at | (rw [gs_ne (by omega)]; (first | assumption | exact gs_at | (rw [gs_ne (by omega)]; (first | assumption | exact gs_at))))))))) rfl ?_
        refine w_aload_n dX7_room_80 rfl ?_
        refine w_getf dX7_room_81 fl_X7_37 (by first | assumption | exact gs_at | (rw [gs_ne (by omega)]; (first | assumption | exact gs_at | (rw [gs_ne (by omega)]; (first | assumption | exact gs_at | (rw [gs_ne (by omega)]; (first | assumption | exact gs_at | (rw [gs_ne (by omega)]; (first | assumption | exact gs_at))))))))) rfl ?_
        refine w_getf dX7_room_84 fl_X7_141 (by first | assumption | exact gs_at | (rw [gs_ne (by omega)]; (first | assumption | exact gs_at | (rw [gs_ne (by omega)]; (first | assumption | exact gs_at | (rw [gs_ne (by omega)]; (first | assumption | exact gs_at | (rw [gs_ne (by omega)]; (first | assumption | exact gs_at))))))))) rfl ?_
        refine w_iload_n dX7_room_87 rfl ?_
        refine wV2u dX7_room_88 lk_X7_179 rfl (by first | assumption | exact gs_at | (rw [gs_ne (by omega)]; (first | assumption | exact gs_at | (rw [gs_ne (by omega)]; (first | assumption | exact gs_at | (rw [gs_ne (by omega)]; (first | assumption | exact gs_at | (rw [gs_ne (by omega)]; (first | assumption | exact gs_at))))))))) rfl rfl (c_itemsWith (f := fun i => T 0 i) hI hBd i1 (fun i => by have := b1 i; have := b2_ i; have := b5 i; (try dsimp only); omega) (by omega)) (Nat.le_of_ble_eq_true rfl) (Nat.le_of_ble_eq_true rfl) (Nat.le_of_ble_eq_true rfl) (Nat.le_of_ble_eq_true rfl) ?_
        refine w_iret dX7_room_91 rfl (Nat.le_of_ble_eq_true rfl) (Nat.le_of_ble_eq_true rfl) ?_
        refine ⟨XOut.ok (by rw [xk2, if_pos ok_1, if_pos ok_6]) ?_, hH, FH.rf⟩
        try rw [ix_nI (by omega)]
        try rw [ix_nI (by omega)]
        rw [roomV]
        first
          | (rw [if_pos s_10_0]; done)
          | (rw [if_neg s_10_0, if_pos s_10_1]; done)
          | (rw [if_neg s_10_0, if_neg s_10_1, if_pos s_10_2]; done)
          | (rw [if_neg s_10_0, if_neg s_10_1, if_neg s_10_2]; done)
          | (rw [if_pos s_10_0, b2, if_pos c_BR]; done)
          | (rw [if_pos s_10_0, b2, if_neg (fun h => c_BR h)]; done)
          | (rw [if_pos s_10_0, b2, if_neg (fun h => h c_BR)]; done)
          | (rw [if_neg s_10_0, if_pos s_10_1, b2, if_pos c_BR]; done)
          | (rw [if_neg s_10_0, if_pos s_10_1, b2, if_neg (fun h => c_BR h)]; done)
          | (rw [if_neg s_10_0, if_pos s_10_1, b2, if_neg (fun h => h c_BR)]; done)
          | (rw [if_neg s_10_0, if_neg s_10_1, if_pos s_10_2, b2, if_pos c_BR]; done)
          | (rw [if_neg s_10_0, if_neg s_10_1, if_pos s_10_2, b2, if_neg (fun h => c_BR h)]; done)
          | (rw [if_neg s_10_0, if_neg s_10_1, if_pos s_10_2, b2, if_neg (fun h => h c_BR)]; done)
          | (rw [if_neg s_10_0, if_neg s_10_1, if_neg s_10_2, b2, if_pos c_BR]; done)
          | (rw [if_neg s_10_0, if_neg s_10_1, if_neg s_10_2, b2, if_neg (fun h => c_BR h)]; done)
          | (rw [if_neg s_10_0, if_neg s_10_1, if_neg s_10_2, b2, if_neg (fun h => h c_BR)]; done)
theorem c_side {E : EV} {G : AH} {B tn im nw rm ru sp : Nat} {f : Nat → Nat} {wb sd si : Int32} {T Ti : ST} {D Di : LD} {P : Nat → ST × Int32} {x w : Int32} (hH : HI G B tn f wb T sd D im Ti si Di nw rm P ru sp)  : Ct E 10 2 12 kX7_side [.ref B, .int x, .int w] G (fun o G1 => XOut ["java/lang/IndexOutOfBoundsException", "java/util/NoSuchElementException"] (xk2 (okI 2 x) (okN 0 (nI 4) w)) (sideV T (ix x) w) o ∧ HI G1 B tn f wb T sd D im Ti si Di nw rm P ru sp ∧ FH G G1 B) := by
  obtain ⟨hB, ⟨htn, him, hnw, hrm⟩, hT, hRd, ⟨hI, hBd⟩, hS, ⟨hL, hD, hSp, hrs⟩, ⟨hIi, hBi, hLi, hDi⟩, ⟨hPa, hPi⟩, ⟨⟨we, hwe⟩, hSm, hSv, ⟨od, hod⟩⟩⟩ := id hH; obtain ⟨⟨_, _, _, _, _, _, gS0⟩, _⟩ := id hS; have hI0 := hI.1; have hIi0 := hIi.1
  obtain ⟨i0, i1, i2, i3, i4, i5, i6, i7, i8, i9, i10, i11, i12, i13⟩ := id hI
  obtain ⟨b0, b1, b2_, b3, b4, b5, b6, b7, b8, b9, b10, b11, b12, b13, b14, b15, b16, b17, b18, b19⟩ := id hBd
  have hls := HI.ls hH
  have hla : ru + 6 ≤ B + 9 ∨ B + 9 + 14 ≤ ru := by omega
  have hlb : ru + 6 ≤ B + 23 ∨ B + 23 + 14 ≤ ru := by omega
  refine Ct.intro rfl (by decide) [.ref B, .int x, .int w] (by simp [Value.category]) (Nat.le_of_ble_eq_true rfl) rfl ?_
  refine w_iload_n dX7_side_0 rfl ?_
  refine wS1k dX7_side_1 lk_X7_182 rfl rfl (c_checkSide) (Nat.le_of_ble_eq_true rfl) (Nat.le_of_ble_eq_true rfl) (Nat.le_of_ble_eq_true rfl) (Nat.le_of_ble_eq_true rfl) ((fun h9 n9 h8 => ⟨XOut.no (j := 0) (by rw [xk2, if_neg h9]) rfl, hH.x, FH.x h8⟩)) (fun ok_1 => ?_)
  obtain ⟨i, hi9, rfl⟩ := in_N (by omega) ok_1
  refine w_iload_n dX7_side_4 rfl ?_
  refine w_iconst (v := nI 4) dX7_side_5 (by decide) ?_
  refine wS2k dX7_side_6 lk_X7_130 rfl rfl (c_checkWhat) (Nat.le_of_ble_eq_true rfl) (Nat.le_of_ble_eq_true rfl) (Nat.le_of_ble_eq_true rfl) (Nat.le_of_ble_eq_true rfl) ((fun h9 n9 h8 => ⟨XOut.no (j := 1) (by rw [xk2, if_pos ok_1, if_neg h9]) rfl, hH.x, FH.x h8⟩)) (fun ok_6 => ?_)
  refine w_iload_n dX7_side_9 rfl ?_
  by_cases s_10_0 : w = nI 0
  · refine w_tabIn (tgt := 40) (off := 30) dX7_side_10 (by rw [s_10_0]; decide) (by rw [s_10_0]; decide) (by rw [s_10_0]; rfl) (by decide) ?_
    refine w_aload_n dX7_side_40 rfl ?_
    refine w_getf dX7_side_41 fl_X7_37 (by first | assumption | exact gs_at | (rw [gs_ne (by omega)]; (first | assumption | exact gs_at | (rw [gs_ne (by omega)]; (first | assumption | exact gs_at | (rw [gs_ne (by omega)]; (first | assumption | exact gs_at | (rw [gs_ne (by omega)]; (first | assumption | exact gs_at))))))))) rfl ?_
    refine w_getf dX7_side_44 fl_X7_185 (by first | assumption | exact gs_at | (rw [gs_ne (by omega)]; (first | assumption | exact gs_at | (rw [gs_ne (by omega)]; (first | assumption | exact gs_at | (rw [gs_ne (by omega)]; (first | assumption | exact gs_at | (rw [gs_ne (by omega)]; (first | assumption | exact gs_at))))))))) rfl ?_
    refine w_iload_n dX7_side_47 rfl ?_
    refine wS2u dX7_side_48 lk_X7_137 rfl (c_atN (f := fun i => nI (T 9 i)) i10 (by omega) (by decide)) (Nat.le_of_ble_eq_true rfl) (Nat.le_of_ble_eq_true rfl) (Nat.le_of_ble_eq_true rfl) (Nat.le_of_ble_eq_true rfl) ?_
    refine w_iret dX7_side_51 rfl (Nat.le_of_ble_eq_true rfl) (Nat.le_of_ble_eq_true rfl) ?_
    refine ⟨XOut.ok (by rw [xk2, if_pos ok_1, if_pos ok_6]) ?_, hH, FH.rf⟩
    try rw [ix_nI (by omega)]
    try rw [ix_nI (by omega)]
    rw [sideV]
    first
      | (rw [if_pos s_10_0]; done)
      | (rw [if_neg s_10_0, if_pos s_10_1]; done)
      | (rw [if_neg s_10_0, if_neg s_10_1, if_pos s_10_2]; done)
      | (rw [if_neg s_10_0, if_neg s_10_1, if_neg s_10_2, if_pos s_10_3]; done)
      | (rw [if_neg s_10_0, if_neg s_10_1, if_neg s_10_2, if_neg s_10_3]; done)
      | (rw [if_pos s_10_0, b2, if_pos c_BR]; done)
      | (rw [if_pos s_10_0, b2, if_neg (fun h => c_BR h)]; done)
      | (rw [if_pos s_10_0, b2, if_neg (fun h => h c_BR)]; done)
      | (rw [if_neg s_10_0, if_pos s_10_1, b2, if_pos c_BR]; done)
      | (rw [if_neg s_10_0, if_pos s_10_1, b2, if_neg (fun h => c_BR h)]; done)
      | (rw [if_neg s_10_0, if_pos s_10_1, b2, if_neg (fun h => h c_BR)]; done)
      | (rw [if_neg s_10_0, if_neg s_10_1, if_pos s_10_2, b2, if_pos c_BR]; done)
      | (rw [if_neg s_10_0, if_neg s_10_1, if_pos s_10_2, b2, if_neg (fun h => c_BR h)]; done)
      | (rw [if_neg s_10_0, if_neg s_10_1, if_pos s_10_2, b2, if_neg (fun h => h c_BR)]; done)
      | (rw [if_neg s_10_0, if_neg s_10_1, if_neg s_10_2, if_pos s_10_3, b2, if_pos c_BR]; done)
      | (rw [if_neg s_10_0, if_neg s_10_1, if_neg s_10_2, if_pos s_10_3, b2, if_neg (fun h => c_BR h)]; done)
      | (rw [if_neg s_10_0, if_neg s_10_1, if_neg s_10_2, if_pos s_10_3, b2, if_neg (fun h => h c_BR)]; done)
      | (rw [if_neg s_10_0, if_neg s_10_1, if_neg s_10_2, if_neg s_10_3, b2, if_pos c_BR]; done)
      | (rw [if_neg s_10_0, if_neg s_10_1, if_neg s_10_2, if_neg s_10_3, b2, if_neg (fun h => c_BR h)]; done)
      | (rw [if_neg s_10_0, if_neg s_10_1, if_neg s_10_2, if_neg s_10_3, b2, if_neg (fun h => h c_BR)]; done)
  ·
    by_cases s_10_1 : w = nI 1
    · refine w_tabIn (tgt := 52) (off := 42) dX7_side_10 (by rw [s_10_1]; decide) (by rw [s_10_1]; decide) (by rw [s_10_1]; rfl) (by decide) ?_
      refine w_aload_n dX7_side_52 rfl ?_
      refine w_getf dX7_side_53 fl_X7_37 (by first | assumption | exact gs_at | (rw [gs_ne (by omega)]; (first | assumption | exact gs_at | (rw [gs_ne (by omega)]; (first | assumption | exact gs_at | (rw [gs_ne (by omega)]; (first | assumption | exact gs_at | (rw [gs_ne (by omega)]; (first | assumption | exact gs_at))))))))) rfl ?_
      refine w_getf dX7_side_56 fl_X7_188 (by first | assumption | exact gs_at | (rw [gs_ne (by omega)]; (first | assumption | exact gs_at | (rw [gs_ne (by omega)]; (first | assumption | exact gs_at | (rw [gs_ne (by omega)]; (first | assumption | exact gs_at | (rw [gs_ne (by omega)]; (first | assumption | exact gs_at))))))))) rfl ?_
      refine w_iload_n dX7_side_59 rfl ?_
      refine wS2u dX7_side_60 lk_X7_137 rfl (c_atN (f := fun i => nI (T 10 i)) i11 (by omega) (by decide)) (Nat.le_of_ble_eq_true rfl) (Nat.le_of_ble_eq_true rfl) (Nat.le_of_ble_eq_true rfl) (Nat.le_of_ble_eq_true rfl) ?_
      refine w_iret dX7_side_63 rfl (Nat.le_of_ble_eq_true rfl) (Nat.le_of_ble_eq_true rfl) ?_
      refine ⟨XOut.ok (by rw [xk2, if_pos ok_1, if_pos ok_6]) ?_, hH, FH.rf⟩
      try rw [ix_nI (by omega)]
      try rw [ix_nI (by omega)]
      rw [sideV]
      first
        | (rw [if_pos s_10_0]; done)
        | (rw [if_neg s_10_0, if_pos s_10_1]; done)
        | (rw [if_neg s_10_0, if_neg s_10_1, if_pos s_10_2]; done)
        | (rw [if_neg s_10_0, if_neg s_10_1, if_neg s_10_2, if_pos s_10_3]; done)
        | (rw [if_neg s_10_0, if_neg s_10_1, if_neg s_10_2, if_neg s_10_3]; done)
        | (rw [if_pos s_10_0, b2, if_pos c_BR]; done)
        | (rw [if_pos s_10_0, b2, if_neg (fun h => c_BR h)]; done)
        | (rw [if_pos s_10_0, b2, if_neg (fun h => h c_BR)]; done)
        | (rw [if_neg s_10_0, if_pos s_10_1, b2, if_pos c_BR]; done)
        | (rw [if_neg s_10_0, if_pos s_10_1, b2, if_neg (fun h => c_BR h)]; done)
        | (rw [if_neg s_10_0, if_pos s_10_1, b2, if_neg (fun h => h c_BR)]; done)
        | (rw [if_neg s_10_0, if_neg s_10_1, if_pos s_10_2, b2, if_pos c_BR]; done)
        | (rw [if_neg s_10_0, if_neg s_10_1, if_pos s_10_2, b2, if_neg (fun h => c_BR h)]; done)
        | (rw [if_neg s_10_0, if_neg s_10_1, if_pos s_10_2, b2, if_neg (fun h => h c_BR)]; done)
        | (rw [if_neg s_10_0, if_neg s_10_1, if_neg s_10_2, if_pos s_10_3, b2, if_pos c_BR]; done)
        | (rw [if_neg s_10_0, if_neg s_10_1, if_neg s_10_2, if_pos s_10_3, b2, if_neg (fun h => c_BR h)]; done)
        | (rw [if_neg s_10_0, if_neg s_10_1, if_neg s_10_2, if_pos s_10_3, b2, if_neg (fun h => h c_BR)]; done)
        | (rw [if_neg s_10_0, if_neg s_10_1, if_neg s_10_2, if_neg s_10_3, b2, if_pos c_BR]; done)
        | (rw [if_neg s_10_0, if_neg s_10_1, if_neg s_10_2, if_neg s_10_3, b2, if_neg (fun h => c_BR h)]; done)
        | (rw [if_neg s_10_0, if_neg s_10_1, if_neg s_10_2, if_neg s_10_3, b2, if_neg (fun h => h c_BR)]; done)
    ·
      by_cases s_10_2 : w = nI 2
      · refine w_tabIn (tgt := 64) (off := 54) dX7_side_10 (by rw [s_10_2]; decide) (by rw [s_10_2]; decide) (by rw [s_10_2]; rfl) (by decide) ?_
        refine w_aload_n dX7_side_64 rfl ?_
        refine w_getf dX7_side_65 fl_X7_37 (by first | assumption | exact gs_at | (rw [gs_ne (by omega)]; (first | assumption | exact gs_at | (rw [gs_ne (by omega)]; (first | assumption | exact gs_at | (rw [gs_ne (by omega)]; (first | assumption | exact gs_at | (rw [gs_ne (by omega)]; (first | assumption | exact gs_at))))))))) rfl ?_
        refine w_aload_n dX7_side_68 rfl ?_
        refine w_getf dX7_side_69 fl_X7_37 (by first | assumption | exact gs_at | (rw [gs_ne (by omega)]; (first | assumption | exact gs_at | (rw [gs_ne (by omega)]; (first | assumption | exact gs_at | (rw [gs_ne (by omega)]; (first | assumption | exact gs_at | (rw [gs_ne (by omega)]; (first | assumption | exact gs_at))))))))) rfl ?_
        refine w_getf dX7_side_72 fl_X7_150 (by first | assumption | exact gs_at | (rw [gs_ne (by omega)]; (first | assumption | exact gs_at | (rw [gs_ne (by omega)]; (first | assumption | exact gs_at | (rw [gs_ne (by omega)]; (first | assumption | exact gs_at | (rw [gs_ne (by omega)]; (first | assumption | exact gs_at))))))))) rfl ?_
        refine w_iload_n dX7_side_75 rfl ?_
        refine wV2u dX7_side_76 lk_X7_179 rfl (by first | assumption | exact gs_at | (rw [gs_ne (by omega)]; (first | assumption | exact gs_at | (rw [gs_ne (by omega)]; (first | assumption | exact gs_at | (rw [gs_ne (by omega)]; (first | assumption | exact gs_at | (rw [gs_ne (by omega)]; (first | assumption | exact gs_at))))))))) rfl rfl (c_itemsWith (f := fun i => T 4 i) hI hBd i5 (fun i => by have := b5 i; omega) (by omega)) (Nat.le_of_ble_eq_true rfl) (Nat.le_of_ble_eq_true rfl) (Nat.le_of_ble_eq_true rfl) (Nat.le_of_ble_eq_true rfl) ?_
        refine w_iret dX7_side_79 rfl (Nat.le_of_ble_eq_true rfl) (Nat.le_of_ble_eq_true rfl) ?_
        refine ⟨XOut.ok (by rw [xk2, if_pos ok_1, if_pos ok_6]) ?_, hH, FH.rf⟩
        try rw [ix_nI (by omega)]
        try rw [ix_nI (by omega)]
        rw [sideV]
        first
          | (rw [if_pos s_10_0]; done)
          | (rw [if_neg s_10_0, if_pos s_10_1]; done)
          | (rw [if_neg s_10_0, if_neg s_10_1, if_pos s_10_2]; done)
          | (rw [if_neg s_10_0, if_neg s_10_1, if_neg s_10_2, if_pos s_10_3]; done)
          | (rw [if_neg s_10_0, if_neg s_10_1, if_neg s_10_2, if_neg s_10_3]; done)
          | (rw [if_pos s_10_0, b2, if_pos c_BR]; done)
          | (rw [if_pos s_10_0, b2, if_neg (fun h => c_BR h)]; done)
          | (rw [if_pos s_10_0, b2, if_neg (fun h => h c_BR)]; done)
          | (rw [if_neg s_10_0, if_pos s_10_1, b2, if_pos c_BR]; done)
          | (rw [if_neg s_10_0, if_pos s_10_1, b2, if_neg (fun h => c_BR h)]; done)
          | (rw [if_neg s_10_0, if_pos s_10_1, b2, if_neg (fun h => h c_BR)]; done)
          | (rw [if_neg s_10_0, if_neg s_10_1, if_pos s_10_2, b2, if_pos c_BR]; done)
          | (rw [if_neg s_10_0, if_neg s_10_1, if_pos s_10_2, b2, if_neg (fun h => c_BR h)]; done)
          | (rw [if_neg s_10_0, if_neg s_10_1, if_pos s_10_2, b2, if_neg (fun h => h c_BR)]; done)
          | (rw [if_neg s_10_0, if_neg s_10_1, if_neg s_10_2, if_pos s_10_3, b2, if_pos c_BR]; done)
          | (rw [if_neg s_10_0, if_neg s_10_1, if_neg s_10_2, if_pos s_10_3, b2, if_neg (fun h => c_BR h)]; done)
          | (rw [if_neg s_10_0, if_neg s_10_1, if_neg s_10_2, if_pos s_10_3, b2, if_neg (fun h => h c_BR)]; done)
          | (rw [if_neg s_10_0, if_neg s_10_1, if_neg s_10_2, if_neg s_10_3, b2, if_pos c_BR]; done)
          | (rw [if_neg s_10_0, if_neg s_10_1, if_neg s_10_2, if_neg s_10_3, b2, if_neg (fun h => c_BR h)]; done)
          | (rw [if_neg s_10_0, if_neg s_10_1, if_neg s_10_2, if_neg s_10_3, b2, if_neg (fun h => h c_BR)]; done)
      ·
        by_cases s_10_3 : w = nI 3
        · refine w_tabIn (tgt := 80) (off := 70) dX7_side_10 (by rw [s_10_3]; decide) (by rw [s_10_3]; decide) (by rw [s_10_3]; rfl) (by decide) ?_
          refine w_aload_n dX7_side_80 rfl ?_
          refine w_getf dX7_side_81 fl_X7_37 (by first | assumption | exact gs_at | (rw [gs_ne (by omega)]; (first | assumption | exact gs_at | (rw [gs_ne (by omega)]; (first | assumption | exact gs_at | (rw [gs_ne (by omega)]; (first | assumption | exact gs_at | (rw [gs_ne (by omega)]; (first | assumption | exact gs_at))))))))) rfl ?_
          refine w_iload_n dX7_side_84 rfl ?_
          refine wV1u dX7_side_85 lk_X7_191 rfl (by first | assumption | exact gs_at | (rw [gs_ne (by omega)]; (first | assumption | exact gs_at | (rw [gs_ne (by omega)]; (first | assumption | exact gs_at | (rw [gs_ne (by omega)]; (first | assumption | exact gs_at | (rw [gs_ne (by omega)]; (first | assumption | exact gs_at))))))))) rfl rfl (c_needsOf hI hBd (by omega)) (Nat.le_of_ble_eq_true rfl) (Nat.le_of_ble_eq_true rfl) (Nat.le_of_ble_eq_true rfl) (Nat.le_of_ble_eq_true rfl) ?_
          refine w_iret dX7_side_88 rfl (Nat.le_of_ble_eq_true rfl) (Nat.le_of_ble_eq_true rfl) ?_
          refine ⟨XOut.ok (by rw [xk2, if_pos ok_1, if_pos ok_6]) ?_, hH, FH.rf⟩
          try rw [ix_nI (by omega)]
          try rw [ix_nI (by omega)]
          rw [sideV]
          first
            | (rw [if_pos s_10_0]; done)
            | (rw [if_neg s_10_0, if_pos s_10_1]; done)
            | (rw [if_neg s_10_0, if_neg s_10_1, if_pos s_10_2]; done)
            | (rw [if_neg s_10_0, if_neg s_10_1, if_neg s_10_2, if_pos s_10_3]; done)
            | (rw [if_neg s_10_0, if_neg s_10_1, if_neg s_10_2, if_neg s_10_3]; done)
            | (rw [if_pos s_10_0, b2, if_pos c_BR]; done)
            | (rw [if_pos s_10_0, b2, if_neg (fun h => c_BR h)]; done)
            | (rw [if_pos s_10_0, b2, if_neg (fun h => h c_BR)]; done)
            | (rw [if_neg s_10_0, if_pos s_10_1, b2, if_pos c_BR]; done)
            | (rw [if_neg s_10_0, if_pos s_10_1, b2, if_neg (fun h => c_BR h)]; done)
            | (rw [if_neg s_10_0, if_pos s_10_1, b2, if_neg (fun h => h c_BR)]; done)
            | (rw [if_neg s_10_0, if_neg s_10_1, if_pos s_10_2, b2, if_pos c_BR]; done)
            | (rw [if_neg s_10_0, if_neg s_10_1, if_pos s_10_2, b2, if_neg (fun h => c_BR h)]; done)
            | (rw [if_neg s_10_0, if_neg s_10_1, if_pos s_10_2, b2, if_neg (fun h => h c_BR)]; done)
            | (rw [if_neg s_10_0, if_neg s_10_1, if_neg s_10_2, if_pos s_10_3, b2, if_pos c_BR]; done)
            | (rw [if_neg s_10_0, if_neg s_10_1, if_neg s_10_2, if_pos s_10_3, b2, if_neg (fun h => c_BR h)]; done)
            | (rw [if_neg s_10_0, if_neg s_10_1, if_neg s_10_2, if_pos s_10_3, b2, if_neg (fun h => h c_BR)]; done)
            | (rw [if_neg s_10_0, if_neg s_10_1, if_neg s_10_2, if_neg s_10_3, b2, if_pos c_BR]; done)
            | (rw [if_neg s_10_0, if_neg s_10_1, if_neg s_10_2, if_neg s_10_3, b2, if_neg (fun h => c_BR h)]; done)
            | (rw [if_neg s_10_0, if_neg s_10_1, if_neg s_10_2, if_neg s_10_3, b2, if_neg (fun h => h c_BR)]; done)
        ·
          refine w_tabOut (tgt := 89) dX7_side_10 (by have : ¬ Int32.toInt (w) = 0 := lv_neT s_10_0 rfl; have : ¬ Int32.toInt (w) = 1 := lv_neT s_10_1 rfl; have : ¬ Int32.toInt (w) = 2 := lv_neT s_10_2 rfl; have : ¬ Int32.toInt (w) = 3 := lv_neT s_10_3 rfl; omega) (by decide) ?_
          refine w_aload_n dX7_side_89 rfl ?_
          refine w_getf dX7_side_90 fl_X7_37 (by first | assumption | exact gs_at | (rw [gs_ne (by omega)]; (first | assumption | exact gs_at | (rw [gs_ne (by omega)]; (first | assumption | exact gs_at | (rw [gs_ne (by omega)]; (first | assumption | exact gs_at | (rw [gs_ne (by omega)]; (first | assumption | exact gs_at))))))))) rfl ?_
          refine w_iload_n dX7_side_93 rfl ?_
          refine wV1u dX7_side_94 lk_X7_194 rfl (by first | assumption | exact gs_at | (rw [gs_ne (by omega)]; (first | assumption | exact gs_at | (rw [gs_ne (by omega)]; (first | assumption | exact gs_at | (rw [gs_ne (by omega)]; (first | assumption | exact gs_at | (rw [gs_ne (by omega)]; (first | assumption | exact gs_at))))))))) rfl rfl (c_latestOf hI hBd (by omega)) (Nat.le_of_ble_eq_true rfl) (Nat.le_of_ble_eq_true rfl) (Nat.le_of_ble_eq_true rfl) (Nat.le_of_ble_eq_true rfl) ?_
          refine w_iret dX7_side_97 rfl (Nat.le_of_ble_eq_true rfl) (Nat.le_of_ble_eq_true rfl) ?_
          refine ⟨XOut.ok (by rw [xk2, if_pos ok_1, if_pos ok_6]) ?_, hH, FH.rf⟩
          try rw [ix_nI (by omega)]
          try rw [ix_nI (by omega)]
          rw [sideV]
          first
            | (rw [if_pos s_10_0]; done)
            | (rw [if_neg s_10_0, if_pos s_10_1]; done)
            | (rw [if_neg s_10_0, if_neg s_10_1, if_pos s_10_2]; done)
            | (rw [if_neg s_10_0, if_neg s_10_1, if_neg s_10_2, if_pos s_10_3]; done)
            | (rw [if_neg s_10_0, if_neg s_10_1, if_neg s_10_2, if_neg s_10_3]; done)
            | (rw [if_pos s_10_0, b2, if_pos c_BR]; done)
            | (rw [if_pos s_10_0, b2, if_neg (fun h => c_BR h)]; done)
            | (rw [if_pos s_10_0, b2, if_neg (fun h => h c_BR)]; done)
            | (rw [if_neg s_10_0, if_pos s_10_1, b2, if_pos c_BR]; done)
            | (rw [if_neg s_10_0, if_pos s_10_1, b2, if_neg (fun h => c_BR h)]; done)
            | (rw [if_neg s_10_0, if_pos s_10_1, b2, if_neg (fun h => h c_BR)]; done)
            | (rw [if_neg s_10_0, if_neg s_10_1, if_pos s_10_2, b2, if_pos c_BR]; done)
            | (rw [if_neg s_10_0, if_neg s_10_1, if_pos s_10_2, b2, if_neg (fun h => c_BR h)]; done)
            | (rw [if_neg s_10_0, if_neg s_10_1, if_pos s_10_2, b2, if_neg (fun h => h c_BR)]; done)
            | (rw [if_neg s_10_0, if_neg s_10_1, if_neg s_10_2, if_pos s_10_3, b2, if_pos c_BR]; done)
            | (rw [if_neg s_10_0, if_neg s_10_1, if_neg s_10_2, if_pos s_10_3, b2, if_neg (fun h => c_BR h)]; done)
            | (rw [if_neg s_10_0, if_neg s_10_1, if_neg s_10_2, if_pos s_10_3, b2, if_neg (fun h => h c_BR)]; done)
            | (rw [if_neg s_10_0, if_neg s_10_1, if_neg s_10_2, if_neg s_10_3, b2, if_pos c_BR]; done)
            | (rw [if_neg s_10_0, if_neg s_10_1, if_neg s_10_2, if_neg s_10_3, b2, if_neg (fun h => c_BR h)]; done)
            | (rw [if_neg s_10_0, if_neg s_10_1, if_neg s_10_2, if_neg s_10_3, b2, if_neg (fun h => h c_BR)]; done)
theorem c_does {E : EV} {G : AH} {B tn im nw rm ru sp : Nat} {f : Nat → Nat} {wb sd si : Int32} {T Ti : ST} {D Di : LD} {P : Nat → ST × Int32} {x w : Int32} (hH : HI G B tn f wb T sd D im Ti si Di nw rm P ru sp)  : Ct E 10 2 12 kX7_does [.ref B, .int x, .int w] G (fun o G1 => XOut ["java/lang/IndexOutOfBoundsException", "java/util/NoSuchElementException"] (xk2 (okI (T 12 0) x) (okN 0 (nI 2) w)) (nI (tlN D T (ix x) D.2.1 (ix w))) o ∧ HI G1 B tn f wb T sd D im Ti si Di nw rm P ru sp ∧ FH G G1 B) := by
  obtain ⟨hB, ⟨htn, him, hnw, hrm⟩, hT, hRd, ⟨hI, hBd⟩, hS, ⟨hL, hD, hSp, hrs⟩, ⟨hIi, hBi, hLi, hDi⟩, ⟨hPa, hPi⟩, ⟨⟨we, hwe⟩, hSm, hSv, ⟨od, hod⟩⟩⟩ := id hH; obtain ⟨⟨_, _, _, _, _, _, gS0⟩, _⟩ := id hS; have hI0 := hI.1; have hIi0 := hIi.1
  obtain ⟨i0, i1, i2, i3, i4, i5, i6, i7, i8, i9, i10, i11, i12, i13⟩ := id hI
  obtain ⟨b0, b1, b2_, b3, b4, b5, b6, b7, b8, b9, b10, b11, b12, b13, b14, b15, b16, b17, b18, b19⟩ := id hBd
  have hls := HI.ls hH
  have hla : ru + 6 ≤ B + 9 ∨ B + 9 + 14 ≤ ru := by omega
  have hlb : ru + 6 ≤ B + 23 ∨ B + 23 + 14 ≤ ru := by omega
  have hL0 := hL.1
  refine Ct.intro rfl (by decide) [.ref B, .int x, .int w] (by simp [Value.category]) (Nat.le_of_ble_eq_true rfl) rfl ?_
  refine w_aload_n dX7_does_0 rfl ?_
  refine w_iload_n dX7_does_1 rfl ?_
  refine wV1k dX7_does_2 lk_X7_127 rfl (by first | assumption | exact gs_at | (rw [gs_ne (by omega)]; (first | assumption | exact gs_at | (rw [gs_ne (by omega)]; (first | assumption | exact gs_at | (rw [gs_ne (by omega)]; (first | assumption | exact gs_at | (rw [gs_ne (by omega)]; (first | assumption | exact gs_at))))))))) rfl rfl rfl (c_checkItem hB hI) (Nat.le_of_ble_eq_true rfl) (Nat.le_of_ble_eq_true rfl) (Nat.le_of_ble_eq_true rfl) (Nat.le_of_ble_eq_true rfl) ((fun h9 n9 h8 => ⟨XOut.no (j := 0) (by rw [xk2, if_neg h9]) rfl, hH.x, FH.x h8⟩)) (fun ok_2 => ?_)
  obtain ⟨i, hi9, rfl⟩ := in_N (by omega) ok_2
  refine w_iload_n dX7_does_5 rfl ?_
  refine w_iconst (v := nI 2) dX7_does_6 (by decide) ?_
  refine wS2k dX7_does_7 lk_X7_130 rfl rfl (c_checkWhat) (Nat.le_of_ble_eq_true rfl) (Nat.le_of_ble_eq_true rfl) (Nat.le_of_ble_eq_true rfl) (Nat.le_of_ble_eq_true rfl) ((fun h9 n9 h8 => ⟨XOut.no (j := 1) (by rw [xk2, if_pos ok_2, if_neg h9]) rfl, hH.x, FH.x h8⟩)) (fun ok_7 => ?_)
  obtain ⟨j, hj8, hj9, rfl⟩ := in_L (by omega) (by omega) ok_7
  refine w_aload_n dX7_does_10 rfl ?_
  refine w_getf dX7_does_11 fl_X7_47 (by first | assumption | exact gs_at | (rw [gs_ne (by omega)]; (first | assumption | exact gs_at | (rw [gs_ne (by omega)]; (first | assumption | exact gs_at | (rw [gs_ne (by omega)]; (first | assumption | exact gs_at | (rw [gs_ne (by omega)]; (first | assumption | exact gs_at))))))))) rfl ?_
  refine w_aload_n dX7_does_14 rfl ?_
  refine w_getf dX7_does_15 fl_X7_37 (by first | assumption | exact gs_at | (rw [gs_ne (by omega)]; (first | assumption | exact gs_at | (rw [gs_ne (by omega)]; (first | assumption | exact gs_at | (rw [gs_ne (by omega)]; (first | assumption | exact gs_at | (rw [gs_ne (by omega)]; (first | assumption | exact gs_at))))))))) rfl ?_
  refine w_iload_n dX7_does_18 rfl ?_
  refine wV2d dX7_does_19 lk_X7_197 rfl (by first | assumption | exact gs_at | (rw [gs_ne (by omega)]; (first | assumption | exact gs_at | (rw [gs_ne (by omega)]; (first | assumption | exact gs_at | (rw [gs_ne (by omega)]; (first | assumption | exact gs_at | (rw [gs_ne (by omega)]; (first | assumption | exact gs_at))))))))) rfl rfl (c_tell hL hD hI hBd (by omega) hla) (Nat.le_of_ble_eq_true rfl) (Nat.le_of_ble_eq_true rfl) (Nat.le_of_ble_eq_true rfl) (Nat.le_of_ble_eq_true rfl) (fun G h_19 => ?_)
  obtain ⟨t5, hF⟩ := h_19
  have hLB := hL.frL hF ⟨_, t5⟩
  have hH := hH.told hLB hF
  have hFH := hF.toH (B := B) (by omega) (by omega)
  obtain ⟨hB, ⟨htn, him, hnw, hrm⟩, hT, hRd, ⟨hI, hBd⟩, hS, ⟨hL, hD, hSp, hrs⟩, ⟨hIi, hBi, hLi, hDi⟩, ⟨hPa, hPi⟩, ⟨⟨we, hwe⟩, hSm, hSv, ⟨od, hod⟩⟩⟩ := id hH; obtain ⟨⟨_, _, _, _, _, _, gS0⟩, _⟩ := id hS; have hI0 := hI.1; have hIi0 := hIi.1
  have hL0 := hL.1
  refine w_aload_n dX7_does_22 rfl ?_
  refine w_getf dX7_does_23 fl_X7_47 (by first | assumption | exact gs_at | (rw [gs_ne (by omega)]; (first | assumption | exact gs_at | (rw [gs_ne (by omega)]; (first | assumption | exact gs_at | (rw [gs_ne (by omega)]; (first | assumption | exact gs_at | (rw [gs_ne (by omega)]; (first | assumption | exact gs_at))))))))) rfl ?_
  refine w_getf dX7_does_26 fl_X7_201 (by first | assumption | exact gs_at | (rw [gs_ne (by omega)]; (first | assumption | exact gs_at | (rw [gs_ne (by omega)]; (first | assumption | exact gs_at | (rw [gs_ne (by omega)]; (first | assumption | exact gs_at | (rw [gs_ne (by omega)]; (first | assumption | exact gs_at))))))))) rfl ?_
  refine w_iload_n dX7_does_29 rfl ?_
  refine wS2u dX7_does_30 lk_X7_137 rfl (c_atN (f := fun j => nI (tlN D T i D.2.1 j)) t5 (by omega) (by decide)) (Nat.le_of_ble_eq_true rfl) (Nat.le_of_ble_eq_true rfl) (Nat.le_of_ble_eq_true rfl) (Nat.le_of_ble_eq_true rfl) ?_
  refine w_iret dX7_does_33 rfl (Nat.le_of_ble_eq_true rfl) (Nat.le_of_ble_eq_true rfl) ?_
  refine ⟨XOut.ok (by rw [xk2, if_pos ok_2, if_pos ok_7]) ?_, hH, hFH⟩
  rw [ix_nI (by omega), ix_nI (by omega)]
theorem c_stepsP {E : EV} {G : AH} {B tn im nw rm ru sp : Nat} {f : Nat → Nat} {wb sd si : Int32} {T Ti : ST} {D Di : LD} {P : Nat → ST × Int32} {x y : Int32} (hH : HI G B tn f wb T sd D im Ti si Di nw rm P ru sp)  : Ct E 10 2 12 kX7_steps [.ref B, .int x, .int y] G (fun o G1 => XOut ["java/lang/IndexOutOfBoundsException"] (xk1 (okI 6 x ∧ okI 6 y)) (nI (stN (ix x) (ix y))) o ∧ HI G1 B tn f wb T sd D im Ti si Di nw rm P ru sp ∧ FH G G1 B) := by
  obtain ⟨hB, ⟨htn, him, hnw, hrm⟩, hT, hRd, ⟨hI, hBd⟩, hS, ⟨hL, hD, hSp, hrs⟩, ⟨hIi, hBi, hLi, hDi⟩, ⟨hPa, hPi⟩, ⟨⟨we, hwe⟩, hSm, hSv, ⟨od, hod⟩⟩⟩ := id hH; obtain ⟨⟨_, _, _, _, _, _, gS0⟩, _⟩ := id hS; have hI0 := hI.1; have hIi0 := hIi.1
  obtain ⟨i0, i1, i2, i3, i4, i5, i6, i7, i8, i9, i10, i11, i12, i13⟩ := id hI
  obtain ⟨b0, b1, b2_, b3, b4, b5, b6, b7, b8, b9, b10, b11, b12, b13, b14, b15, b16, b17, b18, b19⟩ := id hBd
  have hls := HI.ls hH
  have hla : ru + 6 ≤ B + 9 ∨ B + 9 + 14 ≤ ru := by omega
  have hlb : ru + 6 ≤ B + 23 ∨ B + 23 + 14 ≤ ru := by omega
  refine Ct.intro rfl (by decide) [.ref B, .int x, .int y] (by simp [Value.category]) (Nat.le_of_ble_eq_true rfl) rfl ?_
  refine w_iload_n dX7_steps_0 rfl ?_
  refine wS1k dX7_steps_1 lk_X7_170 rfl rfl (c_checkRoom) (Nat.le_of_ble_eq_true rfl) (Nat.le_of_ble_eq_true rfl) (Nat.le_of_ble_eq_true rfl) (Nat.le_of_ble_eq_true rfl) ((fun h9 n9 h8 => ⟨XOut.no (j := 0) (by rw [xk1, if_neg (fun h => h9 h.1)]) rfl, hH.x, FH.x h8⟩)) (fun ok_1 => ?_)
  obtain ⟨i, hi9, rfl⟩ := in_N (by omega) ok_1
  refine w_iload_n dX7_steps_4 rfl ?_
  refine wS1k dX7_steps_5 lk_X7_170 rfl rfl (c_checkRoom) (Nat.le_of_ble_eq_true rfl) (Nat.le_of_ble_eq_true rfl) (Nat.le_of_ble_eq_true rfl) (Nat.le_of_ble_eq_true rfl) ((fun h9 n9 h8 => ⟨XOut.no (j := 0) (by rw [xk1, if_neg (fun h => h9 h.2)]) rfl, hH.x, FH.x h8⟩)) (fun ok_5 => ?_)
  obtain ⟨j, hj9, rfl⟩ := in_N (by omega) ok_5
  refine w_iload_n dX7_steps_8 rfl ?_
  refine w_iload_n dX7_steps_9 rfl ?_
  refine wS2u dX7_steps_10 lk_X7_204 rfl (c_steps (by omega) (by omega)) (Nat.le_of_ble_eq_true rfl) (Nat.le_of_ble_eq_true rfl) (Nat.le_of_ble_eq_true rfl) (Nat.le_of_ble_eq_true rfl) ?_
  refine w_iret dX7_steps_13 rfl (Nat.le_of_ble_eq_true rfl) (Nat.le_of_ble_eq_true rfl) ?_
  refine ⟨XOut.ok (by rw [xk1, if_pos ⟨ok_1, ok_5⟩]) ?_, hH, FH.rf⟩
  rw [ix_nI (by omega), ix_nI (by omega)]
