/-! in which order to look, odds of calm days, traces -/
def cosN (T : ST) (o : Nat → Nat) : Nat → Nat × Nat | 0 => (0, 0) | i + 1 => ((cosN T o i).1 + lcN T (o i), (cosN T o i).2 + lkN T (o i) * ((cosN T o i).1 + lcN T (o i)))
theorem c_search {E : EV} {G : AH} {B tn im nw rm ru sp : Nat} {f : Nat → Nat} {wb sd si : Int32} {T Ti : ST} {D Di : LD} {P : Nat → ST × Int32} {x : Int32} (hH : HI G B tn f wb T sd D im Ti si Di nw rm P ru sp)  : Ci E 6 kX7_search [.ref B, .int x] G (fun r G1 => HI G1 B tn f wb T sd D im Ti si Di nw rm P ru sp ∧ FH G G1 B ∧ ∃ o0 : Nat → Nat, r = if okI 6 x then nI (ordO T o0 6 (ix x)) else -1) := by
  obtain ⟨hB, ⟨htn, him, hnw, hrm⟩, hT, hRd, ⟨hI, hBd⟩, hS, ⟨hL, hD, hSp, hrs⟩, ⟨hIi, hBi, hLi, hDi⟩, ⟨hPa, hPi⟩, ⟨⟨we, hwe⟩, hSm, hSv, ⟨od, hod⟩⟩⟩ := id hH; obtain ⟨⟨_, _, _, _, _, _, gS0⟩, _⟩ := id hS; have hI0 := hI.1; have hIi0 := hIi.1; have hSm0 := hSm.1; have hSv0 := hSv.1
  obtain ⟨i0, i1, i2, i3, i4, i5, i6, i7, i8, i9, i10, i11, i12, i13⟩ := id hI
  obtain ⟨b0, b1, b2_, b3, b4, b5, b6, b7, b8, b9, b10, b11, b12, b13, b14, b15, b16, b17, b18, b19⟩ := id hBd
  have hls := HI.ls hH
  have hla : ru + 6 ≤ B + 9 ∨ B + 9 + 14 ≤ ru := by omega
  have hlb : ru + 6 ≤ B + 23 ∨ B + 23 + 14 ≤ ru := by omega
  refine Ct.intro rfl (by decide) [.ref B, .int x] (by simp [Value.category]) (Nat.le_of_ble_eq_true rfl) rfl ?_
  refine w_iload_n dX7_search_0 rfl ?_
  refine w_ifN_lt (tgt := 10) dX7_search_1 (by decide) (fun c_1 => ?_) (fun c_1 => ?_)
  · skip
    refine w_iconst (v := (-1)) dX7_search_10 (by decide) ?_
    refine w_iret dX7_search_11 rfl (Nat.le_of_ble_eq_true rfl) (Nat.le_of_ble_eq_true rfl) ?_
    first
      | (refine ⟨_, rfl, hH, FH.rf, fun _ => 0, ?_⟩; rw [if_neg (fun h => h.1 c_1)]; done)
      | (refine ⟨_, rfl, hH, FH.rf, fun _ => 0, ?_⟩; rw [if_neg (fun h => c_7 h.2)]; done)
      | (refine ⟨_, rfl, hH, hFH, o0, ?_⟩; rw [if_pos ⟨c_1, c_7⟩, ix_nI (by omega)]; done)
  · skip
    refine w_iload_n dX7_search_4 rfl ?_
    refine w_bipush (v := nI 6) dX7_search_5 (by decide) ?_
    refine w_icmp_lt (tgt := 12) dX7_search_7 (by decide) (fun c_7 => ?_) (fun c_7 => ?_)
    · skip
      obtain ⟨i, hi9, e9⟩ := in_N (n := 6) (by omega) ⟨c_1, c_7⟩
      subst e9
      refine w_aload_n dX7_search_12 rfl ?_
      refine wV0d dX7_search_13 lk_X7_262 rfl (by first | assumption | exact gs_at | (rw [gs_ne (by omega)]; (first | assumption | exact gs_at | (rw [gs_ne (by omega)]; (first | assumption | exact gs_at | (rw [gs_ne (by omega)]; (first | assumption | exact gs_at | (rw [gs_ne (by omega)]; (first | assumption | exact gs_at))))))))) rfl rfl (c_orderRooms hH) (Nat.le_of_ble_eq_true rfl) (Nat.le_of_ble_eq_true rfl) (Nat.le_of_ble_eq_true rfl) (Nat.le_of_ble_eq_true rfl) (fun G h_13 => ?_)
      obtain ⟨hH, hFH, o0, hw⟩ := h_13
      obtain ⟨hB, ⟨htn, him, hnw, hrm⟩, hT, hRd, ⟨hI, hBd⟩, hS, ⟨hL, hD, hSp, hrs⟩, ⟨hIi, hBi, hLi, hDi⟩, ⟨hPa, hPi⟩, ⟨⟨we, hwe⟩, hSm, hSv, ⟨od, hod⟩⟩⟩ := id hH; obtain ⟨⟨_, _, _, _, _, _, gS0⟩, _⟩ := id hS; have hI0 := hI.1; have hIi0 := hIi.1; have hSm0 := hSm.1; have hSv0 := hSv.1
      have ho6 := ordO_lt (T := T) (o0 := o0) 6 (Nat.le_refl _)
      refine w_aload_n dX7_search_16 rfl ?_
      refine w_getf dX7_search_17 fl_X7_87 (by first | assumption | exact gs_at | (rw [gs_ne (by omega)]; (first | assumption | exact gs_at | (rw [gs_ne (by omega)]; (first | assumption | exact gs_at | (rw [gs_ne (by omega)]; (first | assumption | exact gs_at | (rw [gs_ne (by omega)]; (first | assumption | exact gs_at))))))))) rfl ?_
      refine w_iload_n dX7_search_20 rfl ?_
      refine wS2u dX7_search_21 lk_X7_137 rfl (c_atN (f := fun i => nI (ordO T o0 6 i)) hw hi9 (by decide)) (Nat.le_of_ble_eq_true rfl) (Nat.le_of_ble_eq_true rfl) (Nat.le_of_ble_eq_true rfl) (Nat.le_of_ble_eq_true rfl) ?_
      refine w_iret dX7_search_24 rfl (Nat.le_of_ble_eq_true rfl) (Nat.le_of_ble_eq_true rfl) ?_
      first
        | (refine ⟨_, rfl, hH, FH.rf, fun _ => 0, ?_⟩; rw [if_neg (fun h => h.1 c_1)]; done)
        | (refine ⟨_, rfl, hH, FH.rf, fun _ => 0, ?_⟩; rw [if_neg (fun h => c_7 h.2)]; done)
        | (refine ⟨_, rfl, hH, hFH, o0, ?_⟩; rw [if_pos ⟨c_1, c_7⟩, ix_nI (by omega)]; done)
    · skip
      refine w_iconst (v := (-1)) dX7_search_10 (by decide) ?_
      refine w_iret dX7_search_11 rfl (Nat.le_of_ble_eq_true rfl) (Nat.le_of_ble_eq_true rfl) ?_
      first
        | (refine ⟨_, rfl, hH, FH.rf, fun _ => 0, ?_⟩; rw [if_neg (fun h => h.1 c_1)]; done)
        | (refine ⟨_, rfl, hH, FH.rf, fun _ => 0, ?_⟩; rw [if_neg (fun h => c_7 h.2)]; done)
        | (refine ⟨_, rfl, hH, hFH, o0, ?_⟩; rw [if_pos ⟨c_1, c_7⟩, ix_nI (by omega)]; done)
theorem lp_costs {E : EV} {Q : OC → AH → Prop} {G : AH} {o0 : Nat → Nat} {B tn im nw rm ru sp : Nat} {f : Nat → Nat} {wb sd si : Int32} {T Ti : ST} {D Di : LD} {P : Nat → ST × Int32} (hH : HI G B tn f wb T sd D im Ti si Di nw rm P ru sp) (hw : G.1 (B + 77) = some (aI 6 (fun i => nI ((ordO T o0 6) i)))) (hQ : Q (.inl (some (.int (nI (cosN T (ordO T o0 6) 6).2)))) G) : ∀ (k i : Nat), 6 - i < k → i ≤ 6 → ∀ z : Value, Wp E 6 0 0 kX7_costs Q G (0, 0) 10 [.ref B, .int (nI (cosN T (ordO T o0 6) i).1), .int (nI (cosN T (ordO T o0 6) i).2), .int (nI i), z] [] := by
  obtain ⟨hB, ⟨htn, him, hnw, hrm⟩, hT, hRd, ⟨hI, hBd⟩, hS, ⟨hL, hD, hSp, hrs⟩, ⟨hIi, hBi, hLi, hDi⟩, ⟨hPa, hPi⟩, ⟨⟨we, hwe⟩, hSm, hSv, ⟨od, hod⟩⟩⟩ := id hH; obtain ⟨⟨_, _, _, _, _, _, gS0⟩, _⟩ := id hS; have hI0 := hI.1; have hIi0 := hIi.1; have hSm0 := hSm.1; have hSv0 := hSv.1
  obtain ⟨i0, i1, i2, i3, i4, i5, i6, i7, i8, i9, i10, i11, i12, i13⟩ := id hI
  obtain ⟨b0, b1, b2_, b3, b4, b5, b6, b7, b8, b9, b10, b11, b12, b13, b14, b15, b16, b17, b18, b19⟩ := id hBd
  have hls := HI.ls hH
  have hla : ru + 6 ≤ B + 9 ∨ B + 9 + 14 ≤ ru := by omega
  have hlb : ru + 6 ≤ B + 23 ∨ B + 23 + 14 ≤ ru := by omega
  have ho6 := ordO_lt (T := T) (o0 := o0) 6 (Nat.le_refl _)
  intro k
  induction k with
  | zero => intro i h; exact absurd h (by omega)
  | succ k ih =>
    intro i hk hi
    intro z
    refine w_iload_n dX7_costs_10 rfl ?_
    refine w_bipush (v := nI 6) dX7_costs_11 (by decide) ?_
    refine w_icmp_ge (tgt := 52) dX7_costs_13 (by decide) (fun c_13 => ?_) (fun c_13 => ?_)
    · try simp (disch := omega) only [nI_b2, Decidable.not_not, nI_ltI, nI_leI, nI_eq, ge_iff_le, gt_iff_lt, ne_eq, Nat.not_lt, Nat.not_le] at c_13
      refine w_iload_n dX7_costs_52 rfl ?_
      refine w_iret dX7_costs_53 rfl (Nat.le_of_ble_eq_true rfl) (Nat.le_of_ble_eq_true rfl) ?_
      have e : i = 6 := by omega
      subst e
      exact hQ
    · try simp (disch := omega) only [nI_b2, Decidable.not_not, nI_ltI, nI_leI, nI_eq, ge_iff_le, gt_iff_lt, ne_eq, Nat.not_lt, Nat.not_le] at c_13
      have hoi := ho6 i (by omega)
      refine w_aload_n dX7_costs_16 rfl ?_
      refine w_getf dX7_costs_17 fl_X7_87 (by first | assumption | exact gs_at | (rw [gs_ne (by omega)]; (first | assumption | exact gs_at | (rw [gs_ne (by omega)]; (first | assumption | exact gs_at | (rw [gs_ne (by omega)]; (first | assumption | exact gs_at | (rw [gs_ne (by omega)]; (first | assumption | exact gs_at))))))))) rfl ?_
      refine w_iload_n dX7_costs_20 rfl ?_
      refine wS2u dX7_costs_21 lk_X7_137 rfl (c_atN (f := fun i => nI (ordO T o0 6 i)) hw (by omega) (by decide)) (Nat.le_of_ble_eq_true rfl) (Nat.le_of_ble_eq_true rfl) (Nat.le_of_ble_eq_true rfl) (Nat.le_of_ble_eq_true rfl) ?_
      refine w_istore_4 dX7_costs_24 rfl ?_
      refine w_iload_n dX7_costs_26 rfl ?_
      refine w_aload_n dX7_costs_27 rfl ?_
      refine w_iload dX7_costs_28 rfl ?_
      refine wV1u dX7_costs_30 lk_X7_265 rfl (by first | assumption | exact gs_at | (rw [gs_ne (by omega)]; (first | assumption | exact gs_at | (rw [gs_ne (by omega)]; (first | assumption | exact gs_at | (rw [gs_ne (by omega)]; (first | assumption | exact gs_at | (rw [gs_ne (by omega)]; (first | assumption | exact gs_at))))))))) rfl rfl (c_lookCost hH hoi) (Nat.le_of_ble_eq_true rfl) (Nat.le_of_ble_eq_true rfl) (Nat.le_of_ble_eq_true rfl) (Nat.le_of_ble_eq_true rfl) ?_
      first | refine w_iaddN dX7_costs_33 ?_ | refine w_iadd dX7_costs_33 ?_
      refine w_istore_1 dX7_costs_34 rfl ?_
      refine w_iload_n dX7_costs_35 rfl ?_
      refine w_aload_n dX7_costs_36 rfl ?_
      refine w_iload dX7_costs_37 rfl ?_
      refine wV1u dX7_costs_39 lk_X7_268 rfl (by first | assumption | exact gs_at | (rw [gs_ne (by omega)]; (first | assumption | exact gs_at | (rw [gs_ne (by omega)]; (first | assumption | exact gs_at | (rw [gs_ne (by omega)]; (first | assumption | exact gs_at | (rw [gs_ne (by omega)]; (first | assumption | exact gs_at))))))))) rfl rfl (c_likelihood hH (by omega)) (Nat.le_of_ble_eq_true rfl) (Nat.le_of_ble_eq_true rfl) (Nat.le_of_ble_eq_true rfl) (Nat.le_of_ble_eq_true rfl) ?_
      refine w_iload_n dX7_costs_42 rfl ?_
      first | refine w_imulN dX7_costs_43 ?_ | refine w_imul dX7_costs_43 ?_
      first | refine w_iaddN dX7_costs_44 ?_ | refine w_iadd dX7_costs_44 ?_
      refine w_istore_2 dX7_costs_45 rfl ?_
      first | refine w_iinc_3 dX7_costs_46 (nI_inc _) rfl ?_ | refine w_iinc_3 dX7_costs_46 rfl rfl ?_
      refine w_goto (tgt := 10) dX7_costs_49 (by decide) ?_
      exact ih (i + 1) (by omega) (by omega) (.int (nI (ordO T o0 6 i)))
theorem c_costs {E : EV} {G : AH} {B tn im nw rm ru sp : Nat} {f : Nat → Nat} {wb sd si : Int32} {T Ti : ST} {D Di : LD} {P : Nat → ST × Int32}  (hH : HI G B tn f wb T sd D im Ti si Di nw rm P ru sp)  : Ci E 6 kX7_costs [.ref B] G (fun r G1 => HI G1 B tn f wb T sd D im Ti si Di nw rm P ru sp ∧ FH G G1 B ∧ ∃ o0 : Nat → Nat, r = nI (cosN T (ordO T o0 6) 6).2) := by
  obtain ⟨hB, ⟨htn, him, hnw, hrm⟩, hT, hRd, ⟨hI, hBd⟩, hS, ⟨hL, hD, hSp, hrs⟩, ⟨hIi, hBi, hLi, hDi⟩, ⟨hPa, hPi⟩, ⟨⟨we, hwe⟩, hSm, hSv, ⟨od, hod⟩⟩⟩ := id hH; obtain ⟨⟨_, _, _, _, _, _, gS0⟩, _⟩ := id hS; have hI0 := hI.1; have hIi0 := hIi.1; have hSm0 := hSm.1; have hSv0 := hSv.1
  obtain ⟨i0, i1, i2, i3, i4, i5, i6, i7, i8, i9, i10, i11, i12, i13⟩ := id hI
  obtain ⟨b0, b1, b2_, b3, b4, b5, b6, b7, b8, b9, b10, b11, b12, b13, b14, b15, b16, b17, b18, b19⟩ := id hBd
  have hls := HI.ls hH
  have hla : ru + 6 ≤ B + 9 ∨ B + 9 + 14 ≤ ru := by omega
  have hlb : ru + 6 ≤ B + 23 ∨ B + 23 + 14 ≤ ru := by omega
  refine Ct.intro rfl (by decide) [.ref B, .float 0, .float 0, .float 0, .float 0] (by simp [Value.category]) (Nat.le_of_ble_eq_true rfl) rfl ?_
  refine w_aload_n dX7_costs_0 rfl ?_
  refine wV0d dX7_costs_1 lk_X7_262 rfl (by first | assumption | exact gs_at | (rw [gs_ne (by omega)]; (first | assumption | exact gs_at | (rw [gs_ne (by omega)]; (first | assumption | exact gs_at | (rw [gs_ne (by omega)]; (first | assumption | exact gs_at | (rw [gs_ne (by omega)]; (first | assumption | exact gs_at))))))))) rfl rfl (c_orderRooms hH) (Nat.le_of_ble_eq_true rfl) (Nat.le_of_ble_eq_true rfl) (Nat.le_of_ble_eq_true rfl) (Nat.le_of_ble_eq_true rfl) (fun G h_1 => ?_)
  obtain ⟨hH, hFH, o0, hw⟩ := h_1
  obtain ⟨hB, ⟨htn, him, hnw, hrm⟩, hT, hRd, ⟨hI, hBd⟩, hS, ⟨hL, hD, hSp, hrs⟩, ⟨hIi, hBi, hLi, hDi⟩, ⟨hPa, hPi⟩, ⟨⟨we, hwe⟩, hSm, hSv, ⟨od, hod⟩⟩⟩ := id hH; obtain ⟨⟨_, _, _, _, _, _, gS0⟩, _⟩ := id hS; have hI0 := hI.1; have hIi0 := hIi.1; have hSm0 := hSm.1; have hSv0 := hSv.1
  have ho6 := ordO_lt (T := T) (o0 := o0) 6 (Nat.le_refl _)
  refine w_iconst (v := nI 0) dX7_costs_4 (by decide) ?_
  refine w_istore_1 dX7_costs_5 rfl ?_
  refine w_iconst (v := nI 0) dX7_costs_6 (by decide) ?_
  refine w_istore_2 dX7_costs_7 rfl ?_
  refine w_iconst (v := nI 0) dX7_costs_8 (by decide) ?_
  refine w_istore_3 dX7_costs_9 rfl ?_
  exact lp_costs hH hw ⟨_, rfl, hH, hFH, o0, rfl⟩ 7 0 (by omega) (by omega) (.float 0)
theorem lN_div {a b : Nat} (ha : a < 2 ^ 63) (h0 : 0 < b) (hb : b < 2 ^ 63) : lN a / lN b = lN (a / b) := by
  have e : ∀ {n : Nat}, n < 2 ^ 63 → (lN n).toInt = (n : Int) := fun h => lg_ofNat_toInt h
  apply Int64.toInt_inj.mp
  rw [lg_ldiv_nonneg (by rw [e ha]; omega) (by rw [e hb]; omega), e ha, e hb, e (Nat.lt_of_le_of_lt (Nat.div_le_self a b) ha)]
  first | rfl | exact (Int.natCast_ediv _ _).symm
theorem lN_ne0 {b : Nat} (h0 : 0 < b) (hb : b < 2 ^ 63) : ¬ lN b = 0 := fun h => by
  have e : (lN b).toInt = (b : Int) := lg_ofNat_toInt hb
  rw [h] at e
  have e2 : (0 : Int64).toInt = 0 := rfl
  omega
def clW (n : Nat) : Nat → Nat | 0 => 1 | c + 1 => clW n c * (n - c) / (c + 1)
def clF (p q n : Nat) (k : Int32) : Nat → Nat | 0 => 0 | c + 1 => if nI c < k then clF p q n k c else clF p q n k c + clW n c * p ^ c * q ^ (n - c)
theorem clW_le : ∀ n : Fin 7, ∀ c : Fin 9, clW n.1 c.1 ≤ 20 := by decide +kernel
theorem pw_le {p q c n : Nat} (hp : p ≤ 100) (hq : q ≤ 100) (hc : c ≤ n) (hn : n ≤ 6) : p ^ c * q ^ (n - c) ≤ 1000000000000 := by
  have h1 := Nat.pow_le_pow_left hp c
  have h2 := Nat.pow_le_pow_left hq (n - c)
  have h3 := Nat.mul_le_mul h1 h2
  rw [← Nat.pow_add, show c + (n - c) = n by omega] at h3
  exact Nat.le_trans h3 (Nat.le_trans (Nat.pow_le_pow_right (by decide) hn) (by decide))
theorem clF_le {p q n : Nat} {k : Int32} (hp : p ≤ 100) (hq : q ≤ 100) (hn : n ≤ 6) : ∀ c, c ≤ n + 1 → clF p q n k c ≤ c * 20000000000000
  | 0, _ => Nat.zero_le _
  | c + 1, hc => by
    have h1 := clF_le (k := k) hp hq hn c (by omega)
    have h2 := clW_le ⟨n, by omega⟩ ⟨c, by omega⟩
    have h3 := pw_le hp hq (show c ≤ n by omega) hn
    have h4 := Nat.mul_le_mul h2 h3
    rw [clF, Nat.succ_mul]
    split
    · exact Nat.le_trans h1 (Nat.le_add_right _ _)
    · rw [Nat.mul_assoc]
      exact Nat.add_le_add h1 h4
def calmV (T : ST) (n : Nat) (k : Int32) : Int32 := nI (clF (100 - T 12 2) (T 12 2) n k (n + 1) * 10000 / 100 ^ n)
theorem lp_power {E : EV} {Q : OC → AH → Prop} {G : AH} {b n : Nat} (hb : b < 2 ^ 30) (hn : n < 2 ^ 30) (hQ : Q (.inl (some (.long (lN (b ^ n))))) G) : ∀ (k i : Nat), n - i < k → i ≤ n → Wp E 1 0 0 kX7_power Q G (0, 0) 5 [.int (nI b), .int (nI n), .long (lN (b ^ i)), .float 0, .int (nI i)] [] := by
  intro k
  induction k with
  | zero => intro i h; exact absurd h (by omega)
  | succ k ih =>
    intro i hk hi
    refine w_iload dX7_power_5 rfl ?_
    refine w_iload_n dX7_power_7 rfl ?_
    refine w_icmp_ge (tgt := 22) dX7_power_8 (by decide) (fun c_8 => ?_) (fun c_8 => ?_)
    · try simp (disch := omega) only [nI_b2, Decidable.not_not, nI_ltI, nI_leI, nI_eq, ge_iff_le, gt_iff_lt, ne_eq, Nat.not_lt, Nat.not_le] at c_8
      refine w_lload_n dX7_power_22 rfl ?_
      refine w_lret dX7_power_23 rfl (Nat.le_of_ble_eq_true rfl) (Nat.le_of_ble_eq_true rfl) ?_
      have e : i = n := by omega
      subst e
      exact hQ
    · try simp (disch := omega) only [nI_b2, Decidable.not_not, nI_ltI, nI_leI, nI_eq, ge_iff_le, gt_iff_lt, ne_eq, Nat.not_lt, Nat.not_le] at c_8
      refine w_lload_n dX7_power_11 rfl ?_
      refine w_iload_n dX7_power_12 rfl ?_
      first | refine w_i2lN (by omega) dX7_power_13 ?_ | refine w_i2l dX7_power_13 ?_
      first | refine w_lmulN dX7_power_14 ?_ | refine w_lmul dX7_power_14 ?_
      refine w_lstore_2 dX7_power_15 rfl ?_
      first | refine w_iinc_4 dX7_power_16 (nI_inc _) rfl ?_ | refine w_iinc_4 dX7_power_16 rfl rfl ?_
      refine w_goto (tgt := 5) dX7_power_19 (by decide) ?_
      have hN := ih (i + 1) (by omega) (by omega)
      rw [Nat.pow_succ] at hN
      exact hN
theorem c_power {E : EV} {G : AH} {b n : Nat} (hb : b < 2 ^ 30) (hn : n < 2 ^ 30) : Cu E 1 kX7_power [.int (nI b), .int (nI n)] G (.long (lN (b ^ n))) G := by
  refine Ct.intro rfl (by decide) [.int (nI b), .int (nI n), .float 0, .float 0, .float 0] (by simp [Value.category]) (Nat.le_of_ble_eq_true rfl) rfl ?_
  refine w_lconst (v := lN 1) dX7_power_0 rfl ?_
  refine w_lstore_2 dX7_power_1 rfl ?_
  refine w_iconst (v := nI 0) dX7_power_2 (by decide) ?_
  refine w_istore_4 dX7_power_3 rfl ?_
  exact lp_power hb hn ⟨rfl, rfl⟩ (n + 1) 0 (by omega) (by omega)
theorem lp_calm {E : EV} {Q : OC → AH → Prop} {G : AH} {n : Nat} {kk : Int32} {B tn im nw rm ru sp : Nat} {f : Nat → Nat} {wb sd si : Int32} {T Ti : ST} {D Di : LD} {P : Nat → ST × Int32} (hH : HI G B tn f wb T sd D im Ti si Di nw rm P ru sp) (hn : n ≤ 6) (hQ : Q (.inl (some (.int (calmV T n kk)))) G) : ∀ (k i : Nat), (n + 1) - i < k → i ≤ (n + 1) → ∀ z : Value, Wp E 10 1 6 kX7_calm Q G (1, 6) 15 [.ref B, .int (nI n), .int kk, .long (lN (clF (100 - T 12 2) (T 12 2) n kk i)), .float 0, .long (lN (clW n i)), .float 0, .int (nI i), z] [] := by
  obtain ⟨hB, ⟨htn, him, hnw, hrm⟩, hT, hRd, ⟨hI, hBd⟩, hS, ⟨hL, hD, hSp, hrs⟩, ⟨hIi, hBi, hLi, hDi⟩, ⟨hPa, hPi⟩, ⟨⟨we, hwe⟩, hSm, hSv, ⟨od, hod⟩⟩⟩ := id hH; obtain ⟨⟨_, _, _, _, _, _, gS0⟩, _⟩ := id hS; have hI0 := hI.1; have hIi0 := hIi.1; have hSm0 := hSm.1; have hSv0 := hSv.1
  have hk0 : True := trivial
  obtain ⟨i0, i1, i2, i3, i4, i5, i6, i7, i8, i9, i10, i11, i12, i13⟩ := id hI
  obtain ⟨b0, b1, b2_, b3, b4, b5, b6, b7, b8, b9, b10, b11, b12, b13, b14, b15, b16, b17, b18, b19⟩ := id hBd
  have hls := HI.ls hH
  have hla : ru + 6 ≤ B + 9 ∨ B + 9 + 14 ≤ ru := by omega
  have hlb : ru + 6 ≤ B + 23 ∨ B + 23 + 14 ≤ ru := by omega
  intro k
  induction k with
  | zero => intro i h; exact absurd h (by omega)
  | succ k ih =>
    intro i hk hi
    intro z
    have hf := clF_le (p := 100 - T 12 2) (q := T 12 2) (k := kk) (by omega) (by omega) hn i hi
    refine w_iload dX7_calm_15 rfl ?_
    refine w_iload_n dX7_calm_17 rfl ?_
    refine w_icmp_gt (tgt := 85) dX7_calm_18 (by decide) (fun c_18 => ?_) (fun c_18 => ?_)
    · try simp (disch := omega) only [nI_ltI, nI_leI, ge_iff_le, gt_iff_lt, Nat.not_lt, Nat.not_le] at c_18
      refine w_bipush (v := nI 100) dX7_calm_85 (by decide) ?_
      refine w_iload_n dX7_calm_87 rfl ?_
      refine wS2u dX7_calm_88 lk_X7_274 rfl (c_power (b := 100) (by omega) (by omega)) (Nat.le_of_ble_eq_true rfl) (Nat.le_of_ble_eq_true rfl) (Nat.le_of_ble_eq_true rfl) (Nat.le_of_ble_eq_true rfl) ?_
      refine w_lstore_7 dX7_calm_91 rfl ?_
      have h10 : 100 ^ n ≤ 1000000000000 := Nat.le_trans (Nat.pow_le_pow_right (by decide) hn) (by decide)
      have h1p : 0 < 100 ^ n := Nat.pow_pos (by decide)
      refine w_lload dX7_calm_93 rfl ?_
      refine w_lconst (v := lN 0) dX7_calm_95 rfl ?_
      refine w_lcmp dX7_calm_96 ?_
      refine w_ifN_le (tgt := 112) dX7_calm_97 (by decide) (fun c_97 => ?_) (fun c_97 => ?_)
      · try simp (disch := omega) only [nI_ltI, nI_leI, ge_iff_le, gt_iff_lt, Nat.not_lt, Nat.not_le] at c_97
        exfalso
        have h9 := (lg_cmp_le _ _).mp c_97
        rw [Int64.le_iff_toInt_le] at h9
        have e1 : (lN (100 ^ n)).toInt = ((100 ^ n : Nat) : Int) := lg_ofNat_toInt (by omega)
        have e2 : (lN 0).toInt = 0 := rfl
        omega
      · try simp (disch := omega) only [nI_ltI, nI_leI, ge_iff_le, gt_iff_lt, Nat.not_lt, Nat.not_le] at c_97
        refine w_lload_n dX7_calm_100 rfl ?_
        refine w_ldc2 dX7_calm_101 u_1099 ?_
        change Wp _ _ _ _ _ _ _ _ _ _ (.long (lN 10000) :: _)
        first | refine w_lmulN dX7_calm_104 ?_ | refine w_lmul dX7_calm_104 ?_
        refine w_lload dX7_calm_105 rfl ?_
        refine w_ldiv dX7_calm_107 (lN_ne0 h1p (by omega)) ?_
        have e : i = n + 1 := by omega
        subst e
        rw [lN_div (by omega) h1p (by omega)]
        refine w_l2i dX7_calm_108 ?_
        rw [lN_i]
        refine w_goto (tgt := 113) dX7_calm_109 (by decide) ?_
        refine w_iret dX7_calm_113 rfl (Nat.le_of_ble_eq_true rfl) (Nat.le_of_ble_eq_true rfl) ?_
        rw [calmV] at hQ
        exact hQ
    · try simp (disch := omega) only [nI_ltI, nI_leI, ge_iff_le, gt_iff_lt, Nat.not_lt, Nat.not_le] at c_18
      have hw := clW_le ⟨n, by omega⟩ ⟨i, by omega⟩
      have hwn : clW n i * (n - i) < 2 ^ 63 := by have := Nat.mul_le_mul hw (show n - i ≤ 6 by omega); simp only at this; omega
      refine w_iload dX7_calm_21 rfl ?_
      refine w_iload_n dX7_calm_23 rfl ?_
      refine w_icmp_lt (tgt := 63) dX7_calm_24 (by decide) (fun c_24 => ?_) (fun c_24 => ?_)
      · try simp (disch := omega) only [nI_ltI, nI_leI, ge_iff_le, gt_iff_lt, Nat.not_lt, Nat.not_le] at c_24
        refine w_lload dX7_calm_63 rfl ?_
        refine w_iload_n dX7_calm_65 rfl ?_
        refine w_iload dX7_calm_66 rfl ?_
        refine w_isubN (by omega) dX7_calm_68 ?_
        rw [show nI (n - i) = nI (n - i) from rfl]
        first | refine w_i2lN (by omega) dX7_calm_69 ?_ | refine w_i2l dX7_calm_69 ?_
        first | refine w_lmulN dX7_calm_70 ?_ | refine w_lmul dX7_calm_70 ?_
        refine w_iload dX7_calm_71 rfl ?_
        refine w_iconst (v := nI 1) dX7_calm_73 (by decide) ?_
        first | refine w_iaddN dX7_calm_74 ?_ | refine w_iadd dX7_calm_74 ?_
        first | refine w_i2lN (by omega) dX7_calm_75 ?_ | refine w_i2l dX7_calm_75 ?_
        refine w_ldiv dX7_calm_76 (lN_ne0 (by omega) (by omega)) ?_
        rw [lN_div hwn (by omega) (by omega)]
        refine w_lstore_5 dX7_calm_77 rfl ?_
        first | refine w_iinc_7 dX7_calm_79 (nI_inc _) rfl ?_ | refine w_iinc_7 dX7_calm_79 rfl rfl ?_
        refine w_goto (tgt := 15) dX7_calm_82 (by decide) ?_
        have hN := ih (i + 1) (by omega) (by omega) z
        rw [clF, clW] at hN
        first
          | (rw [if_pos c_24] at hN; exact hN)
          | (rw [if_neg c_24] at hN; exact hN)
      · try simp (disch := omega) only [nI_ltI, nI_leI, ge_iff_le, gt_iff_lt, Nat.not_lt, Nat.not_le] at c_24
        refine w_lload_n dX7_calm_27 rfl ?_
        refine w_lload dX7_calm_28 rfl ?_
        refine w_bipush (v := nI 100) dX7_calm_30 (by decide) ?_
        refine w_aload_n dX7_calm_32 rfl ?_
        refine w_getf dX7_calm_33 fl_X7_37 (by first | assumption | exact gs_at | (rw [gs_ne (by omega)]; (first | assumption | exact gs_at | (rw [gs_ne (by omega)]; (first | assumption | exact gs_at | (rw [gs_ne (by omega)]; (first | assumption | exact gs_at | (rw [gs_ne (by omega)]; (first | assumption | exact gs_at))))))))) rfl ?_
        refine w_getf dX7_calm_36 fl_X7_271 (by first | assumption | exact gs_at | (rw [gs_ne (by omega)]; (first | assumption | exact gs_at | (rw [gs_ne (by omega)]; (first | assumption | exact gs_at | (rw [gs_ne (by omega)]; (first | assumption | exact gs_at | (rw [gs_ne (by omega)]; (first | assumption | exact gs_at))))))))) rfl ?_
        refine w_isubN (by omega) dX7_calm_39 ?_
        refine w_iload dX7_calm_40 rfl ?_
        refine wS2u dX7_calm_42 lk_X7_274 rfl (c_power (by omega) (by omega)) (Nat.le_of_ble_eq_true rfl) (Nat.le_of_ble_eq_true rfl) (Nat.le_of_ble_eq_true rfl) (Nat.le_of_ble_eq_true rfl) ?_
        first | refine w_lmulN dX7_calm_45 ?_ | refine w_lmul dX7_calm_45 ?_
        refine w_aload_n dX7_calm_46 rfl ?_
        refine w_getf dX7_calm_47 fl_X7_37 (by first | assumption | exact gs_at | (rw [gs_ne (by omega)]; (first | assumption | exact gs_at | (rw [gs_ne (by omega)]; (first | assumption | exact gs_at | (rw [gs_ne (by omega)]; (first | assumption | exact gs_at | (rw [gs_ne (by omega)]; (first | assumption | exact gs_at))))))))) rfl ?_
        refine w_getf dX7_calm_50 fl_X7_271 (by first | assumption | exact gs_at | (rw [gs_ne (by omega)]; (first | assumption | exact gs_at | (rw [gs_ne (by omega)]; (first | assumption | exact gs_at | (rw [gs_ne (by omega)]; (first | assumption | exact gs_at | (rw [gs_ne (by omega)]; (first | assumption | exact gs_at))))))))) rfl ?_
        refine w_iload_n dX7_calm_53 rfl ?_
        refine w_iload dX7_calm_54 rfl ?_
        refine w_isubN (by omega) dX7_calm_56 ?_
        refine wS2u dX7_calm_57 lk_X7_274 rfl (c_power (by omega) (by omega)) (Nat.le_of_ble_eq_true rfl) (Nat.le_of_ble_eq_true rfl) (Nat.le_of_ble_eq_true rfl) (Nat.le_of_ble_eq_true rfl) ?_
        first | refine w_lmulN dX7_calm_60 ?_ | refine w_lmul dX7_calm_60 ?_
        first | refine w_laddN dX7_calm_61 ?_ | refine w_ladd dX7_calm_61 ?_
        refine w_lstore_3 dX7_calm_62 rfl ?_
        refine w_lload dX7_calm_63 rfl ?_
        refine w_iload_n dX7_calm_65 rfl ?_
        refine w_iload dX7_calm_66 rfl ?_
        refine w_isubN (by omega) dX7_calm_68 ?_
        rw [show nI (n - i) = nI (n - i) from rfl]
        first | refine w_i2lN (by omega) dX7_calm_69 ?_ | refine w_i2l dX7_calm_69 ?_
        first | refine w_lmulN dX7_calm_70 ?_ | refine w_lmul dX7_calm_70 ?_
        refine w_iload dX7_calm_71 rfl ?_
        refine w_iconst (v := nI 1) dX7_calm_73 (by decide) ?_
        first | refine w_iaddN dX7_calm_74 ?_ | refine w_iadd dX7_calm_74 ?_
        first | refine w_i2lN (by omega) dX7_calm_75 ?_ | refine w_i2l dX7_calm_75 ?_
        refine w_ldiv dX7_calm_76 (lN_ne0 (by omega) (by omega)) ?_
        rw [lN_div hwn (by omega) (by omega)]
        refine w_lstore_5 dX7_calm_77 rfl ?_
        first | refine w_iinc_7 dX7_calm_79 (nI_inc _) rfl ?_ | refine w_iinc_7 dX7_calm_79 rfl rfl ?_
        refine w_goto (tgt := 15) dX7_calm_82 (by decide) ?_
        have hN := ih (i + 1) (by omega) (by omega) z
        rw [clF, clW] at hN
        first
          | (rw [if_pos c_24] at hN; exact hN)
          | (rw [if_neg c_24] at hN; exact hN)
theorem c_calm {E : EV} {G : AH} {B tn im nw rm ru sp : Nat} {f : Nat → Nat} {wb sd si : Int32} {T Ti : ST} {D Di : LD} {P : Nat → ST × Int32} {x k : Int32} (hH : HI G B tn f wb T sd D im Ti si Di nw rm P ru sp)  : Ct E 10 1 6 kX7_calm [.ref B, .int x, .int k] G (fun o G1 => XOut ["java/lang/IllegalArgumentException"] (xk1 (okN 0 (nI 6) x)) (calmV T (ix x) k) o ∧ HI G1 B tn f wb T sd D im Ti si Di nw rm P ru sp ∧ FH G G1 B) := by
  obtain ⟨hB, ⟨htn, him, hnw, hrm⟩, hT, hRd, ⟨hI, hBd⟩, hS, ⟨hL, hD, hSp, hrs⟩, ⟨hIi, hBi, hLi, hDi⟩, ⟨hPa, hPi⟩, ⟨⟨we, hwe⟩, hSm, hSv, ⟨od, hod⟩⟩⟩ := id hH; obtain ⟨⟨_, _, _, _, _, _, gS0⟩, _⟩ := id hS; have hI0 := hI.1; have hIi0 := hIi.1; have hSm0 := hSm.1; have hSv0 := hSv.1
  obtain ⟨i0, i1, i2, i3, i4, i5, i6, i7, i8, i9, i10, i11, i12, i13⟩ := id hI
  obtain ⟨b0, b1, b2_, b3, b4, b5, b6, b7, b8, b9, b10, b11, b12, b13, b14, b15, b16, b17, b18, b19⟩ := id hBd
  have hls := HI.ls hH
  have hla : ru + 6 ≤ B + 9 ∨ B + 9 + 14 ≤ ru := by omega
  have hlb : ru + 6 ≤ B + 23 ∨ B + 23 + 14 ≤ ru := by omega
  refine Ct.intro rfl (by decide) [.ref B, .int x, .int k, .float 0, .float 0, .float 0, .float 0, .float 0, .float 0] (by simp [Value.category]) (Nat.le_of_ble_eq_true rfl) rfl ?_
  refine w_iload_n dX7_calm_0 rfl ?_
  refine w_iconst (v := nI 0) dX7_calm_1 (by decide) ?_
  refine w_bipush (v := nI 6) dX7_calm_2 (by decide) ?_
  refine wS3k dX7_calm_4 lk_X7_220 rfl rfl (c_checkNumber) (Nat.le_of_ble_eq_true rfl) (Nat.le_of_ble_eq_true rfl) (Nat.le_of_ble_eq_true rfl) (Nat.le_of_ble_eq_true rfl) ((fun h9 n9 h8 => ⟨XOut.no (j := 0) (by rw [xk1, if_neg h9]) rfl, hH.x, FH.x h8⟩)) (fun ok_4 => ?_)
  obtain ⟨n, hj8, hj9, rfl⟩ := in_L (by omega) (by omega) ok_4
  refine w_lconst (v := lN 0) dX7_calm_7 rfl ?_
  refine w_lstore_3 dX7_calm_8 rfl ?_
  refine w_lconst (v := lN 1) dX7_calm_9 rfl ?_
  refine w_lstore_5 dX7_calm_10 rfl ?_
  refine w_iconst (v := nI 0) dX7_calm_12 (by decide) ?_
  refine w_istore_7 dX7_calm_13 rfl ?_
  exact lp_calm hH (by omega) ⟨XOut.ok (by rw [xk1, if_pos ok_4]) (by rw [ix_nI (by omega)]), hH, FH.rf⟩ (n + 1 + 1) 0 (by omega) (by omega) (.float 0)
