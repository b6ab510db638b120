/-! sets: what saves most, what lightens, what parts evenly -/
def absd (a b : Nat) : Nat := if b ≤ a then a - b else b - a
def ptS (all : Nat) (v : Nat → Nat) : Nat → Nat × Nat | 0 => (0, all) | s + 1 => if s = 0 then ptS all v s else if absd all (2 * v s) < (ptS all v s).2 then (s, absd all (2 * v s)) else ptS all v s
theorem ptS_le (all : Nat) (v : Nat → Nat) : ∀ s, (ptS all v s).2 ≤ all ∧ (ptS all v s).1 ≤ s
  | 0 => ⟨Nat.le_refl _, Nat.le_refl _⟩
  | s + 1 => by have := ptS_le all v s; rw [ptS]; split; exact ⟨this.1, by omega⟩; split; exact ⟨by simp only; omega, by simp only; omega⟩; exact ⟨this.1, by omega⟩
def svS (ok : Nat → Prop) [DecidablePred ok] (v : Nat → Nat) : Nat → Nat × Nat | 0 => (0, 0) | s + 1 => if s = 0 then svS ok v s else if ok s ∧ (svS ok v s).2 < v s then (s, v s) else svS ok v s
theorem svS_le (ok : Nat → Prop) [DecidablePred ok] {v : Nat → Nat} {c : Nat} (hv : ∀ s, v s ≤ c) : ∀ s, (svS ok v s).2 ≤ c ∧ (svS ok v s).1 ≤ s
  | 0 => ⟨Nat.zero_le _, Nat.le_refl _⟩
  | s + 1 => by have := svS_le ok hv s; have h2 := hv s; rw [svS]; split; exact ⟨this.1, by omega⟩; split; exact ⟨h2, by simp only; omega⟩; exact ⟨this.1, by omega⟩
def ltS (due n : Nat) (w : Nat → Nat) : Nat → Int32 × Nat | 0 => (-1, 13) | s + 1 => if due ≤ w s + n ∧ cntN 12 s < (ltS due n w s).2 then (nI s, cntN 12 s) else ltS due n w s
theorem ltS_le (due n : Nat) (w : Nat → Nat) : ∀ s, (ltS due n w s).2 ≤ 13
  | 0 => Nat.le_refl _
  | s + 1 => by have := ltS_le due n w s; rw [ltS]; split; exact Nat.le_trans (cntN_le _ _) (by omega); exact this
theorem sb12_le {g : Nat → Nat} {c : Nat} (h : ∀ i, g i ≤ c) (s : Nat) : sb12 g s ≤ 12 * c := by
  have h1 := sbN_le (f := 0) (s := s % 64) h 6
  have h2 := sbN_le (f := 6) (s := s / 64 % 64) h 6
  unfold sb12
  omega
theorem sbN_cg {g h : Nat → Nat} {f s : Nat} : ∀ k, (∀ i, i < f + k → g i = h i) → sbN g f s k = sbN h f s k
  | 0, _ => rfl
  | k + 1, e => by rw [sbN, sbN, sbN_cg k (fun i hi => e i (by omega)), e (f + k) (by omega)]
theorem sb12_cg {g h : Nat → Nat} {s : Nat} (e : ∀ i, i < 12 → g i = h i) : sb12 g s = sb12 h s := by
  unfold sb12
  rw [sbN_cg 6 (fun i hi => e i (by omega)), sbN_cg 6 (fun i hi => e i (by omega))]
theorem wrk_0 {T : ST} (hB : Bd T) {i : Nat} (h : T 12 0 ≤ i) : wrkN T i = 0 := by
  have h9 := hB.2.2.2.2.2.2.2.2.2.2.2.2.2.2.2.2.2.2.2
  unfold wrkN worN stN
  rw [h9 1 i (by decide) h, h9 5 i (by decide) h, h9 2 i (by decide) h, h9 6 i (by decide) h]
  decide
theorem wrk_le {T : ST} (hB : Bd T) (i : Nat) : wrkN T i ≤ 23 := by
  have h2 := hB.2.2.2.1 i
  unfold wrkN worN stN
  omega
theorem owe_0 {T : ST} (hB : Bd T) {i : Nat} (h : T 12 0 ≤ i) : oweN T i = 0 := by
  have h9 := hB.2.2.2.2.2.2.2.2.2.2.2.2.2.2.2.2.2.2.2
  unfold oweN worN
  rw [h9 1 i (by decide) h, h9 5 i (by decide) h, h9 2 i (by decide) h, h9 6 i (by decide) h]
  rfl
theorem owe_le {T : ST} (hB : Bd T) (i : Nat) : oweN T i ≤ 198 := by
  have h2 := hB.2.2.2.1 i; have h3 := hB.2.2.2.2.1 i
  unfold oweN worN
  split <;> omega
theorem p2_12 {n : Nat} (h : n ≤ 12) : 1 * 2 ^ n ≤ 4096 := by
  have := Nat.pow_le_pow_right (n := 2) (by decide) h
  omega
theorem nI_ltS {a b c : Nat} (ha : a < 2 ^ 30) (hb : b < 2 ^ 30) (hc : c < 2 ^ 30) : (nI c < nI a - nI b) = (c + b < a) := by
  by_cases h : b ≤ a
  · rw [pk_sub h, nI_ltI (by omega) (by omega)]
    exact propext ⟨fun _ => by omega, fun _ => by omega⟩
  · have h1 := pk_sneg hb (show a < b by omega)
    refine propext ⟨fun h2 => ?_, fun h2 => by omega⟩
    have h3 := Int32.lt_trans h2 h1
    have h4 := (nI_leI (a := 0) (b := c) (by omega) (by omega)).mpr (Nat.zero_le _)
    exact absurd h3 (Int32.not_lt.mpr h4)
theorem row_N {G : AH} {a : Nat} {w : Nat → Int32} (h : G.1 a = some (aI 12 w)) : G.1 a = some (aI 12 (fun i => nI (nOf (w i)))) := by
  rw [h]
  congr 2
  funext i
  exact (nI_nOf _).symm
theorem HI.sumV {G G1 : AH} {B tn im nw rm ru sp : Nat} {f : Nat → Nat} {wb sd si : Int32} {T Ti : ST} {D Di : LD} {P : Nat → ST × Int32} (h : HI G B tn f wb T sd D im Ti si Di nw rm P ru sp) {g : Nat → Nat} (hS : SmF G1 (B + 74) g) (e : ∀ q, (q < B + 74 ∨ B + 77 ≤ q) → G1.1 q = G.1 q) : HI G1 B tn f wb T sd D im Ti si Di nw rm P ru sp := by
  obtain ⟨⟨w, h1⟩, h2, h3, o, h4⟩ := h.2.2.2.2.2.2.2.2.2
  exact h.misc ⟨⟨w, (e _ (by omega)).trans h1⟩, h2.same (fun q a b => e q (by omega)), hS.r, o, (e _ (by omega)).trans h4⟩ (fun q hq => e q (by omega))
theorem HI.sumW {G G1 : AH} {B tn im nw rm ru sp : Nat} {f : Nat → Nat} {wb sd si : Int32} {T Ti : ST} {D Di : LD} {P : Nat → ST × Int32} (h : HI G B tn f wb T sd D im Ti si Di nw rm P ru sp) (hS : SmR G1 (B + 71)) (e : ∀ q, (q < B + 71 ∨ B + 74 ≤ q) → G1.1 q = G.1 q) : HI G1 B tn f wb T sd D im Ti si Di nw rm P ru sp := by
  obtain ⟨⟨w, h1⟩, h2, h3, o, h4⟩ := h.2.2.2.2.2.2.2.2.2
  exact h.misc ⟨⟨w, (e _ (by omega)).trans h1⟩, hS, h3.same (fun q a b => e q (by omega)), o, (e _ (by omega)).trans h4⟩ (fun q hq => e q (by omega))
theorem HI.wts {G : AH} {B tn im nw rm ru sp : Nat} {f : Nat → Nat} {wb sd si : Int32} {T Ti : ST} {D Di : LD} {P : Nat → ST × Int32} (h : HI G B tn f wb T sd D im Ti si Di nw rm P ru sp) {w : Nat → Int32} : HI (gs G (B + 70) (aI 12 w)) B tn f wb T sd D im Ti si Di nw rm P ru sp := by
  obtain ⟨⟨w0, h1⟩, h2, h3, o, h4⟩ := h.2.2.2.2.2.2.2.2.2
  have e : ∀ q, q ≠ B + 70 → (gs G (B + 70) (aI 12 w)).1 q = G.1 q := fun q hq => gs_ne hq
  exact h.misc ⟨⟨w, gs_at⟩, h2.same (fun q a b => e q (by omega)), h3.same (fun q a b => e q (by omega)), o, (e _ (by omega)).trans h4⟩ (fun q hq => e q (by omega))
theorem HI.ordr {G : AH} {B tn im nw rm ru sp : Nat} {f : Nat → Nat} {wb sd si : Int32} {T Ti : ST} {D Di : LD} {P : Nat → ST × Int32} (h : HI G B tn f wb T sd D im Ti si Di nw rm P ru sp) {w : Nat → Int32} : HI (gs G (B + 77) (aI 6 w)) B tn f wb T sd D im Ti si Di nw rm P ru sp := by
  obtain ⟨⟨w0, h1⟩, h2, h3, o, h4⟩ := h.2.2.2.2.2.2.2.2.2
  have e : ∀ q, q ≠ B + 77 → (gs G (B + 77) (aI 6 w)).1 q = G.1 q := fun q hq => gs_ne hq
  exact h.misc ⟨⟨w0, (e _ (by omega)).trans h1⟩, h2.same (fun q a b => e q (by omega)), h3.same (fun q a b => e q (by omega)), w, gs_at⟩ (fun q hq => e q (by omega))
theorem lp_parted {E : EV} {Q : OC → AH → Prop} {G : AH} {pt all : Nat} {B tn im nw rm ru sp : Nat} {f : Nat → Nat} {wb sd si : Int32} {T Ti : ST} {D Di : LD} {P : Nat → ST × Int32} (hH : HI G B tn f wb T sd D im Ti si Di nw rm P ru sp) (hSF : SmF G (B + 74) (T 3)) (hpt : pt < 2 ^ 30) (hall : all ≤ 1188) (hQ : Q (.inl (some (.int (nI (if pt = 0 then (ptS all (sb12 (T 3)) (1 * 2 ^ T 12 0)).2 else (ptS all (sb12 (T 3)) (1 * 2 ^ T 12 0)).1))))) G) : ∀ (k i : Nat), 1 * 2 ^ T 12 0 - i < k → i ≤ 1 * 2 ^ T 12 0 → 1 ≤ i → ∀ z : Value, Wp E 4 0 0 kX7_parted Q G (0, 0) 40 [.ref B, .int (nI pt), .int (nI all), .int (nI (ptS all (sb12 (T 3)) i).1), .int (nI (ptS all (sb12 (T 3)) i).2), .int (nI i), z] [] := by
  obtain ⟨hB, ⟨htn, him, hnw, hrm⟩, hT, hRd, ⟨hI, hBd⟩, hS, ⟨hL, hD, hSp, hrs⟩, ⟨hIi, hBi, hLi, hDi⟩, ⟨hPa, hPi⟩, ⟨⟨we, hwe⟩, hSm, hSv, ⟨od, hod⟩⟩⟩ := id hH; obtain ⟨⟨_, _, _, _, _, _, gS0⟩, _⟩ := id hS; have hI0 := hI.1; have hIi0 := hIi.1; have hSm0 := hSm.1; have hSv0 := hSv.1
  obtain ⟨i0, i1, i2, i3, i4, i5, i6, i7, i8, i9, i10, i11, i12, i13⟩ := id hI
  obtain ⟨b0, b1, b2_, b3, b4, b5, b6, b7, b8, b9, b10, b11, b12, b13, b14, b15, b16, b17, b18, b19⟩ := id hBd
  have hls := HI.ls hH
  have hla : ru + 6 ≤ B + 9 ∨ B + 9 + 14 ≤ ru := by omega
  have hlb : ru + 6 ≤ B + 23 ∨ B + 23 + 14 ≤ ru := by omega
  have hp := p2_12 b0
  have hv : ∀ s, sb12 (T 3) s ≤ 1188 := fun s => Nat.le_trans (sb12_le b4 s) (by omega)
  intro k
  induction k with
  | zero => intro i h; exact absurd h (by omega)
  | succ k ih =>
    intro i hk hi
    intro hi1 z
    have hpl := ptS_le all (sb12 (T 3)) i
    have hvi := hv i
    refine w_iload dX7_parted_40 rfl ?_
    refine w_iconst (v := nI 1) dX7_parted_42 (by decide) ?_
    refine w_aload_n dX7_parted_43 rfl ?_
    refine w_getf dX7_parted_44 fl_X7_37 (by first | assumption | exact gs_at | (rw [gs_ne (by omega)]; (first | assumption | exact gs_at | (rw [gs_ne (by omega)]; (first | assumption | exact gs_at | (rw [gs_ne (by omega)]; (first | assumption | exact gs_at | (rw [gs_ne (by omega)]; (first | assumption | exact gs_at))))))))) rfl ?_
    refine w_getf dX7_parted_47 fl_X7_242 (by first | assumption | exact gs_at | (rw [gs_ne (by omega)]; (first | assumption | exact gs_at | (rw [gs_ne (by omega)]; (first | assumption | exact gs_at | (rw [gs_ne (by omega)]; (first | assumption | exact gs_at | (rw [gs_ne (by omega)]; (first | assumption | exact gs_at))))))))) rfl ?_
    refine w_ishlN (by omega) (by omega) dX7_parted_50 ?_
    refine w_icmp_ge (tgt := 92) dX7_parted_51 (by decide) (fun c_51 => ?_) (fun c_51 => ?_)
    · try simp (disch := omega) only [nI_b2, Decidable.not_not, nI_ltI, nI_leI, nI_eq, ge_iff_le, gt_iff_lt, ne_eq, Nat.not_lt, Nat.not_le] at c_51
      refine w_iload_n dX7_parted_92 rfl ?_
      refine w_ifN_eq (tgt := 100) dX7_parted_93 (by decide) (fun c_93 => ?_) (fun c_93 => ?_)
      · try simp (disch := omega) only [nI_b2, Decidable.not_not, nI_ltI, nI_leI, nI_eq, ge_iff_le, gt_iff_lt, ne_eq, Nat.not_lt, Nat.not_le] at c_93
        refine w_iload dX7_parted_100 rfl ?_
        refine w_iret dX7_parted_102 rfl (Nat.le_of_ble_eq_true rfl) (Nat.le_of_ble_eq_true rfl) ?_
        have e : i = 1 * 2 ^ T 12 0 := by omega
        subst e
        first
          | (rw [if_pos (by omega)] at hQ; exact hQ)
          | (rw [if_neg (by omega)] at hQ; exact hQ)
      · try simp (disch := omega) only [nI_b2, Decidable.not_not, nI_ltI, nI_leI, nI_eq, ge_iff_le, gt_iff_lt, ne_eq, Nat.not_lt, Nat.not_le] at c_93
        refine w_iload_n dX7_parted_96 rfl ?_
        refine w_goto (tgt := 102) dX7_parted_97 (by decide) ?_
        refine w_iret dX7_parted_102 rfl (Nat.le_of_ble_eq_true rfl) (Nat.le_of_ble_eq_true rfl) ?_
        have e : i = 1 * 2 ^ T 12 0 := by omega
        subst e
        first
          | (rw [if_pos (by omega)] at hQ; exact hQ)
          | (rw [if_neg (by omega)] at hQ; exact hQ)
    · try simp (disch := omega) only [nI_b2, Decidable.not_not, nI_ltI, nI_leI, nI_eq, ge_iff_le, gt_iff_lt, ne_eq, Nat.not_lt, Nat.not_le] at c_51
      refine w_iload_n dX7_parted_54 rfl ?_
      refine w_iconst (v := nI 2) dX7_parted_55 (by decide) ?_
      refine w_aload_n dX7_parted_56 rfl ?_
      refine w_getf dX7_parted_57 fl_X7_84 (by first | assumption | exact gs_at | (rw [gs_ne (by omega)]; (first | assumption | exact gs_at | (rw [gs_ne (by omega)]; (first | assumption | exact gs_at | (rw [gs_ne (by omega)]; (first | assumption | exact gs_at | (rw [gs_ne (by omega)]; (first | assumption | exact gs_at))))))))) rfl ?_
      refine w_iload dX7_parted_60 rfl ?_
      refine wV1u dX7_parted_62 lk_X7_259 rfl (by first | assumption | exact gs_at | (rw [gs_ne (by omega)]; (first | assumption | exact gs_at | (rw [gs_ne (by omega)]; (first | assumption | exact gs_at | (rw [gs_ne (by omega)]; (first | assumption | exact gs_at | (rw [gs_ne (by omega)]; (first | assumption | exact gs_at))))))))) rfl rfl (c_sumOf hSF (by omega)) (Nat.le_of_ble_eq_true rfl) (Nat.le_of_ble_eq_true rfl) (Nat.le_of_ble_eq_true rfl) (Nat.le_of_ble_eq_true rfl) ?_
      first | refine w_imulN dX7_parted_65 ?_ | refine w_imul dX7_parted_65 ?_
      refine w_isub dX7_parted_66 ?_
      refine wJ1u dX7_parted_67 lk_X7_307 rfl (c_abs) (Nat.le_of_ble_eq_true rfl) (Nat.le_of_ble_eq_true rfl) (Nat.le_of_ble_eq_true rfl) (Nat.le_of_ble_eq_true rfl) ?_
      rw [abs_sub (by omega) (by omega)]
      have had : absd all (2 * sb12 (T 3) i) < 2 ^ 30 := by unfold absd; split <;> omega
      change Wp _ _ _ _ _ _ _ _ _ _ (.int (nI (absd all (2 * sb12 (T 3) i))) :: _)
      refine w_istore_6 dX7_parted_70 rfl ?_
      refine w_iload dX7_parted_72 rfl ?_
      refine w_iload dX7_parted_74 rfl ?_
      refine w_icmp_ge (tgt := 86) dX7_parted_76 (by decide) (fun c_76 => ?_) (fun c_76 => ?_)
      · try simp (disch := omega) only [nI_b2, Decidable.not_not, nI_ltI, nI_leI, nI_eq, ge_iff_le, gt_iff_lt, ne_eq, Nat.not_lt, Nat.not_le] at c_76
        first | refine w_iinc_5 dX7_parted_86 (nI_inc _) rfl ?_ | refine w_iinc_5 dX7_parted_86 rfl rfl ?_
        refine w_goto (tgt := 40) dX7_parted_89 (by decide) ?_
        have hN := ih (i + 1) (by omega) (by omega) (by omega) (.int (nI (absd all (2 * sb12 (T 3) i))))
        rw [ptS, if_neg (by omega)] at hN
        first
          | (rw [if_pos c_76] at hN; exact hN)
          | (rw [if_neg (Nat.not_lt.mpr c_76)] at hN; exact hN)
      · try simp (disch := omega) only [nI_b2, Decidable.not_not, nI_ltI, nI_leI, nI_eq, ge_iff_le, gt_iff_lt, ne_eq, Nat.not_lt, Nat.not_le] at c_76
        refine w_iload dX7_parted_79 rfl ?_
        refine w_istore_3 dX7_parted_81 rfl ?_
        refine w_iload dX7_parted_82 rfl ?_
        refine w_istore_4 dX7_parted_84 rfl ?_
        first | refine w_iinc_5 dX7_parted_86 (nI_inc _) rfl ?_ | refine w_iinc_5 dX7_parted_86 rfl rfl ?_
        refine w_goto (tgt := 40) dX7_parted_89 (by decide) ?_
        have hN := ih (i + 1) (by omega) (by omega) (by omega) (.int (nI (absd all (2 * sb12 (T 3) i))))
        rw [ptS, if_neg (by omega)] at hN
        first
          | (rw [if_pos c_76] at hN; exact hN)
          | (rw [if_neg (Nat.not_lt.mpr c_76)] at hN; exact hN)
theorem c_parted {E : EV} {G : AH} {B tn im nw rm ru sp : Nat} {f : Nat → Nat} {wb sd si : Int32} {T Ti : ST} {D Di : LD} {P : Nat → ST × Int32} {pt : Nat} (hH : HI G B tn f wb T sd D im Ti si Di nw rm P ru sp) (hpt : pt < 2 ^ 30) : Ci E 4 kX7_parted [.ref B, .int (nI pt)] G (fun r G1 => r = nI (if pt = 0 then (ptS (sumN (T 12 0) (T 3)) (sb12 (T 3)) (1 * 2 ^ T 12 0)).2 else (ptS (sumN (T 12 0) (T 3)) (sb12 (T 3)) (1 * 2 ^ T 12 0)).1) ∧ HI G1 B tn f wb T sd D im Ti si Di nw rm P ru sp ∧ FH G G1 B) := by
  obtain ⟨hB, ⟨htn, him, hnw, hrm⟩, hT, hRd, ⟨hI, hBd⟩, hS, ⟨hL, hD, hSp, hrs⟩, ⟨hIi, hBi, hLi, hDi⟩, ⟨hPa, hPi⟩, ⟨⟨we, hwe⟩, hSm, hSv, ⟨od, hod⟩⟩⟩ := id hH; obtain ⟨⟨_, _, _, _, _, _, gS0⟩, _⟩ := id hS; have hI0 := hI.1; have hIi0 := hIi.1; have hSm0 := hSm.1; have hSv0 := hSv.1
  obtain ⟨i0, i1, i2, i3, i4, i5, i6, i7, i8, i9, i10, i11, i12, i13⟩ := id hI
  obtain ⟨b0, b1, b2_, b3, b4, b5, b6, b7, b8, b9, b10, b11, b12, b13, b14, b15, b16, b17, b18, b19⟩ := id hBd
  have hls := HI.ls hH
  have hla : ru + 6 ≤ B + 9 ∨ B + 9 + 14 ≤ ru := by omega
  have hlb : ru + 6 ≤ B + 23 ∨ B + 23 + 14 ≤ ru := by omega
  refine Ct.intro rfl (by decide) [.ref B, .int (nI pt), .float 0, .float 0, .float 0, .float 0, .float 0] (by simp [Value.category]) (Nat.le_of_ble_eq_true rfl) rfl ?_
  refine w_aload_n dX7_parted_0 rfl ?_
  refine w_getf dX7_parted_1 fl_X7_84 (by first | assumption | exact gs_at | (rw [gs_ne (by omega)]; (first | assumption | exact gs_at | (rw [gs_ne (by omega)]; (first | assumption | exact gs_at | (rw [gs_ne (by omega)]; (first | assumption | exact gs_at | (rw [gs_ne (by omega)]; (first | assumption | exact gs_at))))))))) rfl ?_
  refine w_aload_n dX7_parted_4 rfl ?_
  refine w_getf dX7_parted_5 fl_X7_37 (by first | assumption | exact gs_at | (rw [gs_ne (by omega)]; (first | assumption | exact gs_at | (rw [gs_ne (by omega)]; (first | assumption | exact gs_at | (rw [gs_ne (by omega)]; (first | assumption | exact gs_at | (rw [gs_ne (by omega)]; (first | assumption | exact gs_at))))))))) rfl ?_
  refine w_getf dX7_parted_8 fl_X7_147 (by first | assumption | exact gs_at | (rw [gs_ne (by omega)]; (first | assumption | exact gs_at | (rw [gs_ne (by omega)]; (first | assumption | exact gs_at | (rw [gs_ne (by omega)]; (first | assumption | exact gs_at | (rw [gs_ne (by omega)]; (first | assumption | exact gs_at))))))))) rfl ?_
  refine wV1d dX7_parted_11 lk_X7_255 rfl (by first | assumption | exact gs_at | (rw [gs_ne (by omega)]; (first | assumption | exact gs_at | (rw [gs_ne (by omega)]; (first | assumption | exact gs_at | (rw [gs_ne (by omega)]; (first | assumption | exact gs_at | (rw [gs_ne (by omega)]; (first | assumption | exact gs_at))))))))) rfl rfl (c_fill hSv i4 (by omega)) (Nat.le_of_ble_eq_true rfl) (Nat.le_of_ble_eq_true rfl) (Nat.le_of_ble_eq_true rfl) (Nat.le_of_ble_eq_true rfl) (fun G h_11 => ?_)
  obtain ⟨hSF, hsz, hFr⟩ := h_11
  have hH := hH.sumV hSF hFr
  have hFH : FH _ G B := ⟨Nat.le_of_eq hsz.symm, fun q hq => hFr q (by omega)⟩
  obtain ⟨hB, ⟨htn, him, hnw, hrm⟩, hT, hRd, ⟨hI, hBd⟩, hS, ⟨hL, hD, hSp, hrs⟩, ⟨hIi, hBi, hLi, hDi⟩, ⟨hPa, hPi⟩, ⟨⟨we, hwe⟩, hSm, hSv, ⟨od, hod⟩⟩⟩ := id hH; obtain ⟨⟨_, _, _, _, _, _, gS0⟩, _⟩ := id hS; have hI0 := hI.1; have hIi0 := hIi.1; have hSm0 := hSm.1; have hSv0 := hSv.1
  obtain ⟨i0, i1, i2, i3, i4, i5, i6, i7, i8, i9, i10, i11, i12, i13⟩ := id hI
  refine w_aload_n dX7_parted_14 rfl ?_
  refine w_getf dX7_parted_15 fl_X7_37 (by first | assumption | exact gs_at | (rw [gs_ne (by omega)]; (first | assumption | exact gs_at | (rw [gs_ne (by omega)]; (first | assumption | exact gs_at | (rw [gs_ne (by omega)]; (first | assumption | exact gs_at | (rw [gs_ne (by omega)]; (first | assumption | exact gs_at))))))))) rfl ?_
  refine w_getf dX7_parted_18 fl_X7_147 (by first | assumption | exact gs_at | (rw [gs_ne (by omega)]; (first | assumption | exact gs_at | (rw [gs_ne (by omega)]; (first | assumption | exact gs_at | (rw [gs_ne (by omega)]; (first | assumption | exact gs_at | (rw [gs_ne (by omega)]; (first | assumption | exact gs_at))))))))) rfl ?_
  refine w_aload_n dX7_parted_21 rfl ?_
  refine w_getf dX7_parted_22 fl_X7_37 (by first | assumption | exact gs_at | (rw [gs_ne (by omega)]; (first | assumption | exact gs_at | (rw [gs_ne (by omega)]; (first | assumption | exact gs_at | (rw [gs_ne (by omega)]; (first | assumption | exact gs_at | (rw [gs_ne (by omega)]; (first | assumption | exact gs_at))))))))) rfl ?_
  refine w_getf dX7_parted_25 fl_X7_242 (by first | assumption | exact gs_at | (rw [gs_ne (by omega)]; (first | assumption | exact gs_at | (rw [gs_ne (by omega)]; (first | assumption | exact gs_at | (rw [gs_ne (by omega)]; (first | assumption | exact gs_at | (rw [gs_ne (by omega)]; (first | assumption | exact gs_at))))))))) rfl ?_
  refine wS2u dX7_parted_28 lk_X7_304 rfl (c_total (f := T 3) i4 hBd.1 (by decide)) (Nat.le_of_ble_eq_true rfl) (Nat.le_of_ble_eq_true rfl) (Nat.le_of_ble_eq_true rfl) (Nat.le_of_ble_eq_true rfl) ?_
  have hall := sumN_le (f := T 3) (c := 99) b4 (T 12 0)
  refine w_istore_2 dX7_parted_31 rfl ?_
  refine w_iconst (v := nI 0) dX7_parted_32 (by decide) ?_
  refine w_istore_3 dX7_parted_33 rfl ?_
  refine w_iload_n dX7_parted_34 rfl ?_
  refine w_istore_4 dX7_parted_35 rfl ?_
  refine w_iconst (v := nI 1) dX7_parted_37 (by decide) ?_
  refine w_istore_5 dX7_parted_38 rfl ?_
  exact lp_parted hH hSF hpt (by omega) ⟨_, rfl, rfl, hH, hFH⟩ (1 * 2 ^ T 12 0 + 1) 1 (by omega) (by have := Nat.two_pow_pos (T 12 0); omega) (Nat.le_refl _) (.float 0)
theorem SmF.same {G G1 : AH} {a : Nat} {g : Nat → Nat} (h : SmF G a g) (e : ∀ q, a ≤ q → q < a + 3 → G1.1 q = G.1 q) : SmF G1 a g := by
  obtain ⟨h0, ⟨r, h1, h2⟩, r2, h3, h4⟩ := h
  exact ⟨(e _ (by omega) (by omega)).trans h0, ⟨r, (e _ (by omega) (by omega)).trans h1, h2⟩, r2, (e _ (by omega) (by omega)).trans h3, h4⟩
theorem wt_up {f : Nat → Nat} {w : Nat → Int32} {i : Nat} (h : ∀ j, j < i → w j = nI (f j)) : ∀ j, j < i + 1 → upd w i (nI (f i)) j = nI (f j) := fun j hj => by
  unfold upd
  by_cases e : j = i
  · rw [if_pos e, e]
  · rw [if_neg e]; exact h j (by omega)
theorem lp_sv44 {E : EV} {Q : OC → AH → Prop} {G : AH} {B tn im nw rm ru sp : Nat} {f : Nat → Nat} {wb sd si : Int32} {T Ti : ST} {D Di : LD} {P : Nat → ST × Int32} {wk mu s i x : Nat} {y z : Value} {w : Nat → Int32} (hH : HI G B tn f wb T sd D im Ti si Di nw rm P ru sp) (hi : i < 12) (hx : x = wrkN T i) (hw : G.1 (B + 70) = some (aI 12 w)) (hwi : ∀ j, j < i → w j = nI (wrkN T j)) (kk : ∀ (G1 : AH) (w1 : Nat → Int32), HI G1 B tn f wb T sd D im Ti si Di nw rm P ru sp → FH G G1 B → G1.1 (B + 70) = some (aI 12 w1) → (∀ j, j < i + 1 → w1 j = nI (wrkN T j)) → Wp E 10 1 6 kX7_saves Q G1 (1, 6) 12 [.ref B, .int (nI wk), .int (nI mu), .int (nI (if x = 0 then s ||| 1 * 2 ^ i else s)), .int (nI (i + 1)), .int (nI x), z] []) : Wp E 10 1 6 kX7_saves Q G (1, 6) 44 [.ref B, .int (nI wk), .int (nI mu), .int (nI s), .int (nI i), y, z] [.int (nI x)] := by
  obtain ⟨hB, ⟨htn, him, hnw, hrm⟩, hT, hRd, ⟨hI, hBd⟩, hS, ⟨hL, hD, hSp, hrs⟩, ⟨hIi, hBi, hLi, hDi⟩, ⟨hPa, hPi⟩, ⟨⟨we, hwe⟩, hSm, hSv, ⟨od, hod⟩⟩⟩ := id hH; obtain ⟨⟨_, _, _, _, _, _, gS0⟩, _⟩ := id hS; have hI0 := hI.1; have hIi0 := hIi.1; have hSm0 := hSm.1; have hSv0 := hSv.1
  obtain ⟨i0, i1, i2, i3, i4, i5, i6, i7, i8, i9, i10, i11, i12, i13⟩ := id hI
  obtain ⟨b0, b1, b2_, b3, b4, b5, b6, b7, b8, b9, b10, b11, b12, b13, b14, b15, b16, b17, b18, b19⟩ := id hBd
  have hls := HI.ls hH
  have hla : ru + 6 ≤ B + 9 ∨ B + 9 + 14 ≤ ru := by omega
  have hlb : ru + 6 ≤ B + 23 ∨ B + 23 + 14 ≤ ru := by omega
  have hwx := wrk_le hBd i
  refine w_istore_5 dX7_saves_44 rfl ?_
  refine w_aload_n dX7_saves_46 rfl ?_
  refine w_getf dX7_saves_47 fl_X7_74 (by first | assumption | exact gs_at | (rw [gs_ne (by omega)]; (first | assumption | exact gs_at | (rw [gs_ne (by omega)]; (first | assumption | exact gs_at | (rw [gs_ne (by omega)]; (first | assumption | exact gs_at | (rw [gs_ne (by omega)]; (first | assumption | exact gs_at))))))))) rfl ?_
  refine w_iload dX7_saves_50 rfl ?_
  refine w_iload dX7_saves_52 rfl ?_
  refine wS3n dX7_saves_54 lk_X7_211 rfl (c_putN hw hi (by decide)) (Nat.le_of_ble_eq_true rfl) (Nat.le_of_ble_eq_true rfl) (Nat.le_of_ble_eq_true rfl) (Nat.le_of_ble_eq_true rfl) ?_
  refine w_iload dX7_saves_57 rfl ?_
  refine w_ifN_ne (tgt := 69) dX7_saves_59 (by decide) (fun c_59 => ?_) (fun c_59 => ?_)
  · try simp (disch := omega) only [nI_b2, Decidable.not_not, nI_ltI, nI_leI, nI_eq, ge_iff_le, gt_iff_lt, ne_eq, Nat.not_lt, Nat.not_le] at c_59
    first | refine w_iinc_4 dX7_saves_69 (nI_inc _) rfl ?_ | refine w_iinc_4 dX7_saves_69 rfl rfl ?_
    refine w_goto (tgt := 12) dX7_saves_72 (by decide) ?_
    have hk := kk _ (upd w i (nI x)) hH.wts (FH.gs (by omega) (by omega)) gs_at (by rw [hx]; exact wt_up hwi)
    first
      | (rw [if_pos (by omega)] at hk; exact hk)
      | (rw [if_neg (by omega)] at hk; exact hk)
  · try simp (disch := omega) only [nI_b2, Decidable.not_not, nI_ltI, nI_leI, nI_eq, ge_iff_le, gt_iff_lt, ne_eq, Nat.not_lt, Nat.not_le] at c_59
    refine w_iload_n dX7_saves_62 rfl ?_
    refine w_iconst (v := nI 1) dX7_saves_63 (by decide) ?_
    refine w_iload dX7_saves_64 rfl ?_
    refine w_ishlN (by omega) (p2_lt (by omega)) dX7_saves_66 ?_
    first | refine w_iorN dX7_saves_67 ?_ | refine w_ior dX7_saves_67 ?_
    refine w_istore_3 dX7_saves_68 rfl ?_
    first | refine w_iinc_4 dX7_saves_69 (nI_inc _) rfl ?_ | refine w_iinc_4 dX7_saves_69 rfl rfl ?_
    refine w_goto (tgt := 12) dX7_saves_72 (by decide) ?_
    have hk := kk _ (upd w i (nI x)) hH.wts (FH.gs (by omega) (by omega)) gs_at (by rw [hx]; exact wt_up hwi)
    first
      | (rw [if_pos (by omega)] at hk; exact hk)
      | (rw [if_neg (by omega)] at hk; exact hk)
theorem lp_svw {E : EV} {Q : OC → AH → Prop} {G0 : AH} {B tn im nw rm ru sp : Nat} {f : Nat → Nat} {wb sd si : Int32} {T Ti : ST} {D Di : LD} {P : Nat → ST × Int32} {wk mu : Nat} {z : Value} (kk : ∀ (G1 : AH) (w1 : Nat → Int32) (y : Value), HI G1 B tn f wb T sd D im Ti si Di nw rm P ru sp → FH G0 G1 B → G1.1 (B + 70) = some (aI 12 w1) → (∀ j, j < 12 → w1 j = nI (wrkN T j)) → Wp E 10 1 6 kX7_saves Q G1 (1, 6) 75 [.ref B, .int (nI wk), .int (nI mu), .int (nI (bitN (fun j => wrkN T j = 0) 12)), .int (nI 12), y, z] []) : ∀ (k i : Nat) (G : AH) (w : Nat → Int32) (y : Value), 12 - i < k → i ≤ 12 → HI G B tn f wb T sd D im Ti si Di nw rm P ru sp → FH G0 G B → G.1 (B + 70) = some (aI 12 w) → (∀ j, j < i → w j = nI (wrkN T j)) → Wp E 10 1 6 kX7_saves Q G (1, 6) 12 [.ref B, .int (nI wk), .int (nI mu), .int (nI (bitN (fun j => wrkN T j = 0) i)), .int (nI i), y, z] [] := by
  intro k
  induction k with
  | zero => intro i G w y h; exact absurd h (by omega)
  | succ k ih =>
    intro i G w y hk hi hH hFH hw hwi
    obtain ⟨hB, ⟨htn, him, hnw, hrm⟩, hT, hRd, ⟨hI, hBd⟩, hS, ⟨hL, hD, hSp, hrs⟩, ⟨hIi, hBi, hLi, hDi⟩, ⟨hPa, hPi⟩, ⟨⟨we, hwe⟩, hSm, hSv, ⟨od, hod⟩⟩⟩ := id hH; obtain ⟨⟨_, _, _, _, _, _, gS0⟩, _⟩ := id hS; have hI0 := hI.1; have hIi0 := hIi.1; have hSm0 := hSm.1; have hSv0 := hSv.1
    obtain ⟨b0, b1, b2_, b3, b4, b5, b6, b7, b8, b9, b10, b11, b12, b13, b14, b15, b16, b17, b18, b19⟩ := id hBd
    have hn : ∀ (x : Nat), x = wrkN T i → ∀ (G1 : AH) (w1 : Nat → Int32), i < 12 → HI G1 B tn f wb T sd D im Ti si Di nw rm P ru sp → FH G G1 B → G1.1 (B + 70) = some (aI 12 w1) → (∀ j, j < i + 1 → w1 j = nI (wrkN T j)) → Wp E 10 1 6 kX7_saves Q G1 (1, 6) 12 [.ref B, .int (nI wk), .int (nI mu), .int (nI (if x = 0 then bitN (fun j => wrkN T j = 0) i ||| 1 * 2 ^ i else bitN (fun j => wrkN T j = 0) i)), .int (nI (i + 1)), .int (nI x), z] [] := by
      intro x hx G1 w1 hi2 a b c d
      have hN := ih (i + 1) G1 w1 (.int (nI x)) (by omega) (by omega) a (hFH.tr b) c d
      rw [hx] at hN ⊢
      rw [bitN] at hN
      exact hN
    refine w_iload dX7_saves_12 rfl ?_
    refine w_bipush (v := nI 12) dX7_saves_14 (by decide) ?_
    refine w_icmp_ge (tgt := 75) dX7_saves_16 (by decide) (fun c_16 => ?_) (fun c_16 => ?_)
    · try simp (disch := omega) only [nI_b2, Decidable.not_not, nI_ltI, nI_leI, nI_eq, ge_iff_le, gt_iff_lt, ne_eq, Nat.not_lt, Nat.not_le] at c_16
      have e : i = 12 := by omega
      subst e
      exact kk G w y hH hFH hw hwi
    · try simp (disch := omega) only [nI_b2, Decidable.not_not, nI_ltI, nI_leI, nI_eq, ge_iff_le, gt_iff_lt, ne_eq, Nat.not_lt, Nat.not_le] at c_16
      refine w_iload dX7_saves_19 rfl ?_
      refine w_aload_n dX7_saves_21 rfl ?_
      refine w_getf dX7_saves_22 fl_X7_37 (by first | assumption | exact gs_at | (rw [gs_ne (by omega)]; (first | assumption | exact gs_at | (rw [gs_ne (by omega)]; (first | assumption | exact gs_at | (rw [gs_ne (by omega)]; (first | assumption | exact gs_at | (rw [gs_ne (by omega)]; (first | assumption | exact gs_at))))))))) rfl ?_
      refine w_getf dX7_saves_25 fl_X7_242 (by first | assumption | exact gs_at | (rw [gs_ne (by omega)]; (first | assumption | exact gs_at | (rw [gs_ne (by omega)]; (first | assumption | exact gs_at | (rw [gs_ne (by omega)]; (first | assumption | exact gs_at | (rw [gs_ne (by omega)]; (first | assumption | exact gs_at))))))))) rfl ?_
      refine w_icmp_ge (tgt := 43) dX7_saves_28 (by decide) (fun c_28 => ?_) (fun c_28 => ?_)
      · try simp (disch := omega) only [nI_b2, Decidable.not_not, nI_ltI, nI_leI, nI_eq, ge_iff_le, gt_iff_lt, ne_eq, Nat.not_lt, Nat.not_le] at c_28
        refine w_iconst (v := nI 0) dX7_saves_43 (by decide) ?_
        first
          | exact lp_sv44 hH (by omega) rfl hw hwi (fun G1 w1 => hn _ rfl G1 w1 (by omega))
          | exact lp_sv44 hH (by omega) (wrk_0 hBd (by omega)).symm hw hwi (fun G1 w1 => hn _ (wrk_0 hBd (by omega)).symm G1 w1 (by omega))
      · try simp (disch := omega) only [nI_b2, Decidable.not_not, nI_ltI, nI_leI, nI_eq, ge_iff_le, gt_iff_lt, ne_eq, Nat.not_lt, Nat.not_le] at c_28
        refine w_aload_n dX7_saves_31 rfl ?_
        refine w_getf dX7_saves_32 fl_X7_37 (by first | assumption | exact gs_at | (rw [gs_ne (by omega)]; (first | assumption | exact gs_at | (rw [gs_ne (by omega)]; (first | assumption | exact gs_at | (rw [gs_ne (by omega)]; (first | assumption | exact gs_at | (rw [gs_ne (by omega)]; (first | assumption | exact gs_at))))))))) rfl ?_
        refine w_iload dX7_saves_35 rfl ?_
        refine wV1u dX7_saves_37 lk_X7_167 rfl (by first | assumption | exact gs_at | (rw [gs_ne (by omega)]; (first | assumption | exact gs_at | (rw [gs_ne (by omega)]; (first | assumption | exact gs_at | (rw [gs_ne (by omega)]; (first | assumption | exact gs_at | (rw [gs_ne (by omega)]; (first | assumption | exact gs_at))))))))) rfl rfl (c_workOf hI hBd (by omega)) (Nat.le_of_ble_eq_true rfl) (Nat.le_of_ble_eq_true rfl) (Nat.le_of_ble_eq_true rfl) (Nat.le_of_ble_eq_true rfl) ?_
        refine w_goto (tgt := 44) dX7_saves_40 (by decide) ?_
        first
          | exact lp_sv44 hH (by omega) rfl hw hwi (fun G1 w1 => hn _ rfl G1 w1 (by omega))
          | exact lp_sv44 hH (by omega) (wrk_0 hBd (by omega)).symm hw hwi (fun G1 w1 => hn _ (wrk_0 hBd (by omega)).symm G1 w1 (by omega))
abbrev svP (T : ST) (wk : Nat) (s : Nat) : Prop := s &&& bitN (fun j => wrkN T j = 0) 12 = 0 ∧ sb12 (wrkN T) s ≤ wk
def svR (T : ST) (wk : Nat) : Nat × Nat := svS (svP T wk) (sb12 (T 3)) (1 * 2 ^ T 12 0)
theorem lp_saves {E : EV} {Q : OC → AH → Prop} {G : AH} {wk mu : Nat} {g : Nat → Nat} {B tn im nw rm ru sp : Nat} {f : Nat → Nat} {wb sd si : Int32} {T Ti : ST} {D Di : LD} {P : Nat → ST × Int32} (hH : HI G B tn f wb T sd D im Ti si Di nw rm P ru sp) (hSF : SmF G (B + 74) (T 3)) (hSW : SmF G (B + 71) g) (hg : ∀ s, sb12 g s = sb12 (wrkN T) s) (hwk : wk < 2 ^ 30) (hmu : mu < 2 ^ 30) (hQ : Q (.inl (some (.int (nI (if mu = 0 then (svR T wk).1 else (svR T wk).2))))) G) : ∀ (k i : Nat), 1 * 2 ^ T 12 0 - i < k → i ≤ 1 * 2 ^ T 12 0 → 1 ≤ i → Wp E 10 1 6 kX7_saves Q G (1, 6) 109 [.ref B, .int (nI wk), .int (nI mu), .int (nI (bitN (fun j => wrkN T j = 0) 12)), .int (nI (svS (svP T wk) (sb12 (T 3)) i).1), .int (nI (svS (svP T wk) (sb12 (T 3)) i).2), .int (nI i)] [] := by
  obtain ⟨hB, ⟨htn, him, hnw, hrm⟩, hT, hRd, ⟨hI, hBd⟩, hS, ⟨hL, hD, hSp, hrs⟩, ⟨hIi, hBi, hLi, hDi⟩, ⟨hPa, hPi⟩, ⟨⟨we, hwe⟩, hSm, hSv, ⟨od, hod⟩⟩⟩ := id hH; obtain ⟨⟨_, _, _, _, _, _, gS0⟩, _⟩ := id hS; have hI0 := hI.1; have hIi0 := hIi.1; have hSm0 := hSm.1; have hSv0 := hSv.1
  obtain ⟨i0, i1, i2, i3, i4, i5, i6, i7, i8, i9, i10, i11, i12, i13⟩ := id hI
  obtain ⟨b0, b1, b2_, b3, b4, b5, b6, b7, b8, b9, b10, b11, b12, b13, b14, b15, b16, b17, b18, b19⟩ := id hBd
  have hls := HI.ls hH
  have hla : ru + 6 ≤ B + 9 ∨ B + 9 + 14 ≤ ru := by omega
  have hlb : ru + 6 ≤ B + 23 ∨ B + 23 + 14 ≤ ru := by omega
  have hp := p2_12 b0
  have hv : ∀ s, sb12 (T 3) s ≤ 1188 := fun s => Nat.le_trans (sb12_le b4 s) (by omega)
  have hwr : ∀ s, sb12 (wrkN T) s ≤ 276 := fun s => Nat.le_trans (sb12_le (wrk_le hBd) s) (by omega)
  intro k
  induction k with
  | zero => intro i h; exact absurd h (by omega)
  | succ k ih =>
    intro i hk hi
    intro hi1
    have hsl := svS_le (svP T wk) hv i
    have hvi := hv i; have hwi := hwr i
    refine w_iload dX7_saves_109 rfl ?_
    refine w_iconst (v := nI 1) dX7_saves_111 (by decide) ?_
    refine w_aload_n dX7_saves_112 rfl ?_
    refine w_getf dX7_saves_113 fl_X7_37 (by first | assumption | exact gs_at | (rw [gs_ne (by omega)]; (first | assumption | exact gs_at | (rw [gs_ne (by omega)]; (first | assumption | exact gs_at | (rw [gs_ne (by omega)]; (first | assumption | exact gs_at | (rw [gs_ne (by omega)]; (first | assumption | exact gs_at))))))))) rfl ?_
    refine w_getf dX7_saves_116 fl_X7_242 (by first | assumption | exact gs_at | (rw [gs_ne (by omega)]; (first | assumption | exact gs_at | (rw [gs_ne (by omega)]; (first | assumption | exact gs_at | (rw [gs_ne (by omega)]; (first | assumption | exact gs_at | (rw [gs_ne (by omega)]; (first | assumption | exact gs_at))))))))) rfl ?_
    refine w_ishlN (by omega) (by omega) dX7_saves_119 ?_
    refine w_icmp_ge (tgt := 178) dX7_saves_120 (by decide) (fun c_120 => ?_) (fun c_120 => ?_)
    · try simp (disch := omega) only [nI_b2, Decidable.not_not, nI_ltI, nI_leI, nI_eq, ge_iff_le, gt_iff_lt, ne_eq, Nat.not_lt, Nat.not_le] at c_120
      refine w_iload_n dX7_saves_178 rfl ?_
      refine w_ifN_eq (tgt := 187) dX7_saves_179 (by decide) (fun c_179 => ?_) (fun c_179 => ?_)
      · try simp (disch := omega) only [nI_b2, Decidable.not_not, nI_ltI, nI_leI, nI_eq, ge_iff_le, gt_iff_lt, ne_eq, Nat.not_lt, Nat.not_le] at c_179
        refine w_iload dX7_saves_187 rfl ?_
        refine w_iret dX7_saves_189 rfl (Nat.le_of_ble_eq_true rfl) (Nat.le_of_ble_eq_true rfl) ?_
        have e : i = 1 * 2 ^ T 12 0 := by omega
        subst e
        unfold svR at hQ
        first
          | (rw [if_pos (by omega)] at hQ; exact hQ)
          | (rw [if_neg (by omega)] at hQ; exact hQ)
      · try simp (disch := omega) only [nI_b2, Decidable.not_not, nI_ltI, nI_leI, nI_eq, ge_iff_le, gt_iff_lt, ne_eq, Nat.not_lt, Nat.not_le] at c_179
        refine w_iload dX7_saves_182 rfl ?_
        refine w_goto (tgt := 189) dX7_saves_184 (by decide) ?_
        refine w_iret dX7_saves_189 rfl (Nat.le_of_ble_eq_true rfl) (Nat.le_of_ble_eq_true rfl) ?_
        have e : i = 1 * 2 ^ T 12 0 := by omega
        subst e
        unfold svR at hQ
        first
          | (rw [if_pos (by omega)] at hQ; exact hQ)
          | (rw [if_neg (by omega)] at hQ; exact hQ)
    · try simp (disch := omega) only [nI_b2, Decidable.not_not, nI_ltI, nI_leI, nI_eq, ge_iff_le, gt_iff_lt, ne_eq, Nat.not_lt, Nat.not_le] at c_120
      refine w_iload dX7_saves_123 rfl ?_
      refine w_iload_n dX7_saves_125 rfl ?_
      first | refine w_iandN dX7_saves_126 ?_ | refine w_iand dX7_saves_126 ?_
      have hal := Nat.and_le_left (n := i) (m := bitN (fun j => wrkN T j = 0) 12)
      refine w_ifN_ne (tgt := 172) dX7_saves_127 (by decide) (fun c_127 => ?_) (fun c_127 => ?_)
      · try simp (disch := omega) only [nI_b2, Decidable.not_not, nI_ltI, nI_leI, nI_eq, ge_iff_le, gt_iff_lt, ne_eq, Nat.not_lt, Nat.not_le] at c_127
        first | refine w_iinc_6 dX7_saves_172 (nI_inc _) rfl ?_ | refine w_iinc_6 dX7_saves_172 rfl rfl ?_
        refine w_goto (tgt := 109) dX7_saves_175 (by decide) ?_
        have hN := ih (i + 1) (by omega) (by omega) (by omega)
        rw [svS, if_neg (by omega)] at hN
        first
          | (rw [if_pos (show svP T wk i ∧ _ from ⟨⟨c_127, c_140⟩, c_154⟩)] at hN; exact hN)
          | (rw [if_neg (fun h => c_127 h.1.1)] at hN; exact hN)
          | (rw [if_neg (fun h => by have h1 := h.1.2; omega)] at hN; exact hN)
          | (rw [if_neg (fun h => by have h1 := h.2; omega)] at hN; exact hN)
      · try simp (disch := omega) only [nI_b2, Decidable.not_not, nI_ltI, nI_leI, nI_eq, ge_iff_le, gt_iff_lt, ne_eq, Nat.not_lt, Nat.not_le] at c_127
        refine w_aload_n dX7_saves_130 rfl ?_
        refine w_getf dX7_saves_131 fl_X7_80 (by first | assumption | exact gs_at | (rw [gs_ne (by omega)]; (first | assumption | exact gs_at | (rw [gs_ne (by omega)]; (first | assumption | exact gs_at | (rw [gs_ne (by omega)]; (first | assumption | exact gs_at | (rw [gs_ne (by omega)]; (first | assumption | exact gs_at))))))))) rfl ?_
        refine w_iload dX7_saves_134 rfl ?_
        refine wV1u dX7_saves_136 lk_X7_259 rfl (by first | assumption | exact gs_at | (rw [gs_ne (by omega)]; (first | assumption | exact gs_at | (rw [gs_ne (by omega)]; (first | assumption | exact gs_at | (rw [gs_ne (by omega)]; (first | assumption | exact gs_at | (rw [gs_ne (by omega)]; (first | assumption | exact gs_at))))))))) rfl rfl (c_sumOf hSW (by omega)) (Nat.le_of_ble_eq_true rfl) (Nat.le_of_ble_eq_true rfl) (Nat.le_of_ble_eq_true rfl) (Nat.le_of_ble_eq_true rfl) ?_
        rw [hg]
        refine w_iload_n dX7_saves_139 rfl ?_
        refine w_icmp_gt (tgt := 172) dX7_saves_140 (by decide) (fun c_140 => ?_) (fun c_140 => ?_)
        · try simp (disch := omega) only [nI_b2, Decidable.not_not, nI_ltI, nI_leI, nI_eq, ge_iff_le, gt_iff_lt, ne_eq, Nat.not_lt, Nat.not_le] at c_140
          first | refine w_iinc_6 dX7_saves_172 (nI_inc _) rfl ?_ | refine w_iinc_6 dX7_saves_172 rfl rfl ?_
          refine w_goto (tgt := 109) dX7_saves_175 (by decide) ?_
          have hN := ih (i + 1) (by omega) (by omega) (by omega)
          rw [svS, if_neg (by omega)] at hN
          first
            | (rw [if_pos (show svP T wk i ∧ _ from ⟨⟨c_127, c_140⟩, c_154⟩)] at hN; exact hN)
            | (rw [if_neg (fun h => c_127 h.1.1)] at hN; exact hN)
            | (rw [if_neg (fun h => by have h1 := h.1.2; omega)] at hN; exact hN)
            | (rw [if_neg (fun h => by have h1 := h.2; omega)] at hN; exact hN)
        · try simp (disch := omega) only [nI_b2, Decidable.not_not, nI_ltI, nI_leI, nI_eq, ge_iff_le, gt_iff_lt, ne_eq, Nat.not_lt, Nat.not_le] at c_140
          refine w_aload_n dX7_saves_143 rfl ?_
          refine w_getf dX7_saves_144 fl_X7_84 (by first | assumption | exact gs_at | (rw [gs_ne (by omega)]; (first | assumption | exact gs_at | (rw [gs_ne (by omega)]; (first | assumption | exact gs_at | (rw [gs_ne (by omega)]; (first | assumption | exact gs_at | (rw [gs_ne (by omega)]; (first | assumption | exact gs_at))))))))) rfl ?_
          refine w_iload dX7_saves_147 rfl ?_
          refine wV1u dX7_saves_149 lk_X7_259 rfl (by first | assumption | exact gs_at | (rw [gs_ne (by omega)]; (first | assumption | exact gs_at | (rw [gs_ne (by omega)]; (first | assumption | exact gs_at | (rw [gs_ne (by omega)]; (first | assumption | exact gs_at | (rw [gs_ne (by omega)]; (first | assumption | exact gs_at))))))))) rfl rfl (c_sumOf hSF (by omega)) (Nat.le_of_ble_eq_true rfl) (Nat.le_of_ble_eq_true rfl) (Nat.le_of_ble_eq_true rfl) (Nat.le_of_ble_eq_true rfl) ?_
          refine w_iload dX7_saves_152 rfl ?_
          refine w_icmp_le (tgt := 172) dX7_saves_154 (by decide) (fun c_154 => ?_) (fun c_154 => ?_)
          · try simp (disch := omega) only [nI_b2, Decidable.not_not, nI_ltI, nI_leI, nI_eq, ge_iff_le, gt_iff_lt, ne_eq, Nat.not_lt, Nat.not_le] at c_154
            first | refine w_iinc_6 dX7_saves_172 (nI_inc _) rfl ?_ | refine w_iinc_6 dX7_saves_172 rfl rfl ?_
            refine w_goto (tgt := 109) dX7_saves_175 (by decide) ?_
            have hN := ih (i + 1) (by omega) (by omega) (by omega)
            rw [svS, if_neg (by omega)] at hN
            first
              | (rw [if_pos (show svP T wk i ∧ _ from ⟨⟨c_127, c_140⟩, c_154⟩)] at hN; exact hN)
              | (rw [if_neg (fun h => c_127 h.1.1)] at hN; exact hN)
              | (rw [if_neg (fun h => by have h1 := h.1.2; omega)] at hN; exact hN)
              | (rw [if_neg (fun h => by have h1 := h.2; omega)] at hN; exact hN)
          · try simp (disch := omega) only [nI_b2, Decidable.not_not, nI_ltI, nI_leI, nI_eq, ge_iff_le, gt_iff_lt, ne_eq, Nat.not_lt, Nat.not_le] at c_154
            refine w_iload dX7_saves_157 rfl ?_
            refine w_istore_4 dX7_saves_159 rfl ?_
            refine w_aload_n dX7_saves_161 rfl ?_
            refine w_getf dX7_saves_162 fl_X7_84 (by first | assumption | exact gs_at | (rw [gs_ne (by omega)]; (first | assumption | exact gs_at | (rw [gs_ne (by omega)]; (first | assumption | exact gs_at | (rw [gs_ne (by omega)]; (first | assumption | exact gs_at | (rw [gs_ne (by omega)]; (first | assumption | exact gs_at))))))))) rfl ?_
            refine w_iload dX7_saves_165 rfl ?_
            refine wV1u dX7_saves_167 lk_X7_259 rfl (by first | assumption | exact gs_at | (rw [gs_ne (by omega)]; (first | assumption | exact gs_at | (rw [gs_ne (by omega)]; (first | assumption | exact gs_at | (rw [gs_ne (by omega)]; (first | assumption | exact gs_at | (rw [gs_ne (by omega)]; (first | assumption | exact gs_at))))))))) rfl rfl (c_sumOf hSF (by omega)) (Nat.le_of_ble_eq_true rfl) (Nat.le_of_ble_eq_true rfl) (Nat.le_of_ble_eq_true rfl) (Nat.le_of_ble_eq_true rfl) ?_
            refine w_istore_5 dX7_saves_170 rfl ?_
            first | refine w_iinc_6 dX7_saves_172 (nI_inc _) rfl ?_ | refine w_iinc_6 dX7_saves_172 rfl rfl ?_
            refine w_goto (tgt := 109) dX7_saves_175 (by decide) ?_
            have hN := ih (i + 1) (by omega) (by omega) (by omega)
            rw [svS, if_neg (by omega)] at hN
            first
              | (rw [if_pos (show svP T wk i ∧ _ from ⟨⟨c_127, c_140⟩, c_154⟩)] at hN; exact hN)
              | (rw [if_neg (fun h => c_127 h.1.1)] at hN; exact hN)
              | (rw [if_neg (fun h => by have h1 := h.1.2; omega)] at hN; exact hN)
              | (rw [if_neg (fun h => by have h1 := h.2; omega)] at hN; exact hN)
theorem c_saves {E : EV} {G : AH} {B tn im nw rm ru sp : Nat} {f : Nat → Nat} {wb sd si : Int32} {T Ti : ST} {D Di : LD} {P : Nat → ST × Int32} {x : Int32} {mu : Nat} (hH : HI G B tn f wb T sd D im Ti si Di nw rm P ru sp) (hmu : mu < 2 ^ 30) : Ct E 10 1 6 kX7_saves [.ref B, .int x, .int (nI mu)] G (fun o G1 => XOut ["java/lang/IllegalArgumentException"] (xk1 (okN 0 (nI 99) x)) (nI (if mu = 0 then (svR T (ix x)).1 else (svR T (ix x)).2)) o ∧ HI G1 B tn f wb T sd D im Ti si Di nw rm P ru sp ∧ FH G G1 B) := by
  obtain ⟨hB, ⟨htn, him, hnw, hrm⟩, hT, hRd, ⟨hI, hBd⟩, hS, ⟨hL, hD, hSp, hrs⟩, ⟨hIi, hBi, hLi, hDi⟩, ⟨hPa, hPi⟩, ⟨⟨we, hwe⟩, hSm, hSv, ⟨od, hod⟩⟩⟩ := id hH; obtain ⟨⟨_, _, _, _, _, _, gS0⟩, _⟩ := id hS; have hI0 := hI.1; have hIi0 := hIi.1; have hSm0 := hSm.1; have hSv0 := hSv.1
  obtain ⟨i0, i1, i2, i3, i4, i5, i6, i7, i8, i9, i10, i11, i12, i13⟩ := id hI
  obtain ⟨b0, b1, b2_, b3, b4, b5, b6, b7, b8, b9, b10, b11, b12, b13, b14, b15, b16, b17, b18, b19⟩ := id hBd
  have hls := HI.ls hH
  have hla : ru + 6 ≤ B + 9 ∨ B + 9 + 14 ≤ ru := by omega
  have hlb : ru + 6 ≤ B + 23 ∨ B + 23 + 14 ≤ ru := by omega
  refine Ct.intro rfl (by decide) [.ref B, .int x, .int (nI mu), .float 0, .float 0, .float 0, .float 0] (by simp [Value.category]) (Nat.le_of_ble_eq_true rfl) rfl ?_
  refine w_iload_n dX7_saves_0 rfl ?_
  refine w_iconst (v := nI 0) dX7_saves_1 (by decide) ?_
  refine w_bipush (v := nI 99) dX7_saves_2 (by decide) ?_
  refine wS3k dX7_saves_4 lk_X7_220 rfl rfl (c_checkNumber) (Nat.le_of_ble_eq_true rfl) (Nat.le_of_ble_eq_true rfl) (Nat.le_of_ble_eq_true rfl) (Nat.le_of_ble_eq_true rfl) ((fun h9 n9 h8 => ⟨XOut.no (j := 0) (by rw [xk1, if_neg h9]) rfl, hH.x, FH.x h8⟩)) (fun ok_4 => ?_)
  obtain ⟨wk, hj8, hj9, rfl⟩ := in_L (by omega) (by omega) ok_4
  refine w_iconst (v := nI 0) dX7_saves_7 (by decide) ?_
  refine w_istore_3 dX7_saves_8 rfl ?_
  refine w_iconst (v := nI 0) dX7_saves_9 (by decide) ?_
  refine w_istore_4 dX7_saves_10 rfl ?_
  refine lp_svw (fun G w y hH hFH hw hwi => ?_) 13 0 G _ (.float 0) (by omega) (by omega) hH FH.rf hwe (fun j hj => absurd hj (by omega))
  obtain ⟨hB, ⟨htn, him, hnw, hrm⟩, hT, hRd, ⟨hI, hBd⟩, hS, ⟨hL, hD, hSp, hrs⟩, ⟨hIi, hBi, hLi, hDi⟩, ⟨hPa, hPi⟩, ⟨⟨we, hwe⟩, hSm, hSv, ⟨od, hod⟩⟩⟩ := id hH; obtain ⟨⟨_, _, _, _, _, _, gS0⟩, _⟩ := id hS; have hI0 := hI.1; have hIi0 := hIi.1; have hSm0 := hSm.1; have hSv0 := hSv.1
  obtain ⟨i0, i1, i2, i3, i4, i5, i6, i7, i8, i9, i10, i11, i12, i13⟩ := id hI
  refine w_aload_n dX7_saves_75 rfl ?_
  refine w_getf dX7_saves_76 fl_X7_80 (by first | assumption | exact gs_at | (rw [gs_ne (by omega)]; (first | assumption | exact gs_at | (rw [gs_ne (by omega)]; (first | assumption | exact gs_at | (rw [gs_ne (by omega)]; (first | assumption | exact gs_at | (rw [gs_ne (by omega)]; (first | assumption | exact gs_at))))))))) rfl ?_
  refine w_aload_n dX7_saves_79 rfl ?_
  refine w_getf dX7_saves_80 fl_X7_74 (by first | assumption | exact gs_at | (rw [gs_ne (by omega)]; (first | assumption | exact gs_at | (rw [gs_ne (by omega)]; (first | assumption | exact gs_at | (rw [gs_ne (by omega)]; (first | assumption | exact gs_at | (rw [gs_ne (by omega)]; (first | assumption | exact gs_at))))))))) rfl ?_
  refine wV1d dX7_saves_83 lk_X7_255 rfl (by first | assumption | exact gs_at | (rw [gs_ne (by omega)]; (first | assumption | exact gs_at | (rw [gs_ne (by omega)]; (first | assumption | exact gs_at | (rw [gs_ne (by omega)]; (first | assumption | exact gs_at | (rw [gs_ne (by omega)]; (first | assumption | exact gs_at))))))))) rfl rfl (c_fill hSm (row_N hw) (by omega)) (Nat.le_of_ble_eq_true rfl) (Nat.le_of_ble_eq_true rfl) (Nat.le_of_ble_eq_true rfl) (Nat.le_of_ble_eq_true rfl) (fun G h_83 => ?_)
  obtain ⟨hSW, hsz, hFr⟩ := h_83
  have hH := hH.sumW hSW.r hFr
  have hFH := hFH.tr ⟨Nat.le_of_eq hsz.symm, fun q hq => hFr q (by omega)⟩
  obtain ⟨hB, ⟨htn, him, hnw, hrm⟩, hT, hRd, ⟨hI, hBd⟩, hS, ⟨hL, hD, hSp, hrs⟩, ⟨hIi, hBi, hLi, hDi⟩, ⟨hPa, hPi⟩, ⟨⟨we, hwe⟩, hSm, hSv, ⟨od, hod⟩⟩⟩ := id hH; obtain ⟨⟨_, _, _, _, _, _, gS0⟩, _⟩ := id hS; have hI0 := hI.1; have hIi0 := hIi.1; have hSm0 := hSm.1; have hSv0 := hSv.1
  obtain ⟨i0, i1, i2, i3, i4, i5, i6, i7, i8, i9, i10, i11, i12, i13⟩ := id hI
  refine w_aload_n dX7_saves_86 rfl ?_
  refine w_getf dX7_saves_87 fl_X7_84 (by first | assumption | exact gs_at | (rw [gs_ne (by omega)]; (first | assumption | exact gs_at | (rw [gs_ne (by omega)]; (first | assumption | exact gs_at | (rw [gs_ne (by omega)]; (first | assumption | exact gs_at | (rw [gs_ne (by omega)]; (first | assumption | exact gs_at))))))))) rfl ?_
  refine w_aload_n dX7_saves_90 rfl ?_
  refine w_getf dX7_saves_91 fl_X7_37 (by first | assumption | exact gs_at | (rw [gs_ne (by omega)]; (first | assumption | exact gs_at | (rw [gs_ne (by omega)]; (first | assumption | exact gs_at | (rw [gs_ne (by omega)]; (first | assumption | exact gs_at | (rw [gs_ne (by omega)]; (first | assumption | exact gs_at))))))))) rfl ?_
  refine w_getf dX7_saves_94 fl_X7_147 (by first | assumption | exact gs_at | (rw [gs_ne (by omega)]; (first | assumption | exact gs_at | (rw [gs_ne (by omega)]; (first | assumption | exact gs_at | (rw [gs_ne (by omega)]; (first | assumption | exact gs_at | (rw [gs_ne (by omega)]; (first | assumption | exact gs_at))))))))) rfl ?_
  refine wV1d dX7_saves_97 lk_X7_255 rfl (by first | assumption | exact gs_at | (rw [gs_ne (by omega)]; (first | assumption | exact gs_at | (rw [gs_ne (by omega)]; (first | assumption | exact gs_at | (rw [gs_ne (by omega)]; (first | assumption | exact gs_at | (rw [gs_ne (by omega)]; (first | assumption | exact gs_at))))))))) rfl rfl (c_fill hSv i4 (by omega)) (Nat.le_of_ble_eq_true rfl) (Nat.le_of_ble_eq_true rfl) (Nat.le_of_ble_eq_true rfl) (Nat.le_of_ble_eq_true rfl) (fun G h_97 => ?_)
  obtain ⟨hSF, hsz2, hFr2⟩ := h_97
  have hH := hH.sumV hSF hFr2
  have hSW := SmF.same hSW (fun q a b => hFr2 q (by omega))
  have hFH := hFH.tr ⟨Nat.le_of_eq hsz2.symm, fun q hq => hFr2 q (by omega)⟩
  obtain ⟨hB, ⟨htn, him, hnw, hrm⟩, hT, hRd, ⟨hI, hBd⟩, hS, ⟨hL, hD, hSp, hrs⟩, ⟨hIi, hBi, hLi, hDi⟩, ⟨hPa, hPi⟩, ⟨⟨we, hwe⟩, hSm, hSv, ⟨od, hod⟩⟩⟩ := id hH; obtain ⟨⟨_, _, _, _, _, _, gS0⟩, _⟩ := id hS; have hI0 := hI.1; have hIi0 := hIi.1; have hSm0 := hSm.1; have hSv0 := hSv.1
  refine w_iconst (v := nI 0) dX7_saves_100 (by decide) ?_
  refine w_istore_4 dX7_saves_101 rfl ?_
  refine w_iconst (v := nI 0) dX7_saves_103 (by decide) ?_
  refine w_istore_5 dX7_saves_104 rfl ?_
  refine w_iconst (v := nI 1) dX7_saves_106 (by decide) ?_
  refine w_istore_6 dX7_saves_107 rfl ?_
  exact lp_saves hH hSF hSW (fun s => sb12_cg (fun i hi => by rw [hwi i hi]; exact nOf_nI (by have := wrk_le hBd i; omega))) (by omega) hmu ⟨XOut.ok (by rw [xk1, if_pos ok_4]) (by rw [ix_nI (by omega)]), hH, hFH⟩ (1 * 2 ^ T 12 0 + 1) 1 (by omega) (by have := Nat.two_pow_pos (T 12 0); omega) (Nat.le_refl _)

