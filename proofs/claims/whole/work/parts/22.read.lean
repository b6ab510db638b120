/-! the reader of a text: what it asks -/
def refW (p : Nat) (w : Int32) : Int32 := if w = -1 then nI p else w
def atW (y : Nat → Nat) (n p : Nat) (ws : List Nat) : Prop := tokE y n p = p + ws.length ∧ ∀ j, j < ws.length → ws.getD j 0 = y (p + j)
def atB (y : Nat → Nat) (n p : Nat) (ws : List Nat) : Bool := decide (tokE y n p = p + ws.length) && decide (∀ j, j < ws.length → ws.getD j 0 = y (p + j))
theorem atB_iff {y : Nat → Nat} {n p : Nat} {ws : List Nat} : atB y n p ws = true ↔ atW y n p ws := by unfold atB atW; simp only [Bool.and_eq_true, decide_eq_true_eq]
def digV (y : Nat → Nat) (p : Nat) : Nat → Nat | 0 => 0 | k + 1 => digV y p k * 10 + (y (p + k) - 48)
def isD (y : Nat → Nat) (n p : Nat) : Bool := decide (p < n) && decide (48 ≤ y p) && decide (y p ≤ 57)
def numF (y : Nat → Nat) (n p lo hi : Nat) : Option Nat := if isD y n p = true ∧ tokE y n p - p ≤ 3 ∧ lo ≤ digV y p (tokE y n p - p) ∧ digV y p (tokE y n p - p) < hi then some (digV y p (tokE y n p - p)) else none
abbrev RS : Type := Nat × Int32
def sTk (y : Nat → Nat) (n : Nat) (ws : List Nat) (s : RS) : RS := if atB y n s.1 ws = true then (nxt y n s.1, s.2) else s
def sRf (s : RS) : RS := (s.1, refW s.1 s.2)
def sNd (y : Nat → Nat) (n : Nat) (ws : List Nat) (s : RS) : RS := if atB y n s.1 ws = true then (nxt y n s.1, s.2) else sRf s
def sNum (y : Nat → Nat) (n lo hi : Nat) (s : RS) : RS := if (numF y n s.1 lo hi).isSome = true then (nxt y n s.1, s.2) else sRf s
def vNum (y : Nat → Nat) (n lo hi : Nat) (s : RS) : Int32 := match numF y n s.1 lo hi with | some v => nI v | none => -1
theorem isD_iff {y : Nat → Nat} {n p : Nat} : isD y n p = true ↔ p < n ∧ 48 ≤ y p ∧ y p ≤ 57 := by unfold isD; simp only [Bool.and_eq_true, decide_eq_true_eq, and_assoc]
theorem rnF_all {y : Nat → Nat} {n lo hi : Nat} : ∀ (f p j : Nat), p ≤ j → j < rnF y n lo hi f p → lo ≤ y j ∧ y j ≤ hi
  | 0, p, j, h1, h2 => by rw [rnF] at h2; omega
  | f + 1, p, j, h1, h2 => by
    rw [rnF] at h2
    split at h2
    · next h3 =>
      by_cases h : p = j
      · subst h; exact h3.2
      · exact rnF_all f (p + 1) j (by omega) h2
    · omega
theorem tok_dig {y : Nat → Nat} {n p : Nat} (h : isD y n p = true) : ∀ j, p ≤ j → j < tokE y n p → 48 ≤ y j ∧ y j ≤ 57 := by
  obtain ⟨h1, h2, h3⟩ := isD_iff.mp h
  intro j hj hj2
  unfold tokE at hj2
  rw [if_pos h1, if_neg (by omega), if_pos ⟨h2, h3⟩] at hj2
  exact rnF_all 400 p j hj hj2
theorem tok_gt {y : Nat → Nat} {n p : Nat} (h : isD y n p = true) : p < tokE y n p := by
  obtain ⟨h1, h2, h3⟩ := isD_iff.mp h
  unfold tokE
  rw [if_pos h1, if_neg (by omega), if_pos ⟨h2, h3⟩]
  unfold run
  rw [show (400 : Nat) = 399 + 1 from rfl, rnF, if_pos ⟨h1, h2, h3⟩]
  have := (rnF_le (y := y) (n := n) (lo := 48) (hi := 57) 399 (p + 1) (by omega)).1
  omega
theorem digV_le {y : Nat → Nat} {p : Nat} : ∀ k, (∀ j, p ≤ j → j < p + k → 48 ≤ y j ∧ y j ≤ 57) → digV y p k < 10 ^ k
  | 0, _ => by rw [digV]; decide
  | k + 1, h => by
    have h1 := digV_le (y := y) (p := p) k (fun j a b => h j a (by omega))
    have h2 := h (p + k) (by omega) (by omega)
    rw [digV, Nat.pow_succ]; omega
theorem hiL {v h : Nat} (hv : v < 2 ^ 30) (hh : h < 2 ^ 30) : nI v ≤ nI h - nI 1 ↔ v < h := by
  cases h with
  | zero => exact ⟨fun h9 => absurd h9 (by rw [show nI 0 - nI 1 = (-1 : Int32) from by decide]; intro h8; exact absurd (Int32.lt_of_le_of_lt h8 (by decide)) (nI_pos (n := v) (by omega))), fun h9 => absurd h9 (by omega)⟩
  | succ h =>
    rw [pk_sub (show 1 ≤ h + 1 by omega), show h + 1 - 1 = h from rfl]
    simp (disch := omega) only [nI_leI]
    omega
theorem Rd.fr {G G' : AH} {r r2 n : Nat} {y : Nat → Nat} {s : RS} (h : Rd G r y n s) (hF : FrR G G' r2) (h1 : r ≠ r2) (h2 : r + 1 ≠ r2) : Rd G' r y n s := ⟨(hF.2 _ h1).trans h.1, (hF.2 _ h2).trans h.2.1, h.2.2⟩
theorem c_open {E : EV} {r t n m e0 : Nat} {y : Nat → Nat} {w z : Int32} {f0 : Nat → Int32} {l0 : Int32} {e9 : Int32} {G : AH} (h0 : G.1 r = some (oB 5 [.ref (r + 1), .int l0, .int z, .int e9, .int w])) (h1 : G.1 (r + 1) = some (aI 400 f0)) (ht : G.1 t = some (aI 400 (fun i => nI (y i)))) (hn : n ≤ 400) (hy : ∀ i, y i < 256) : Cd E 3 kX5_open [.ref r, .ref t, .int (nI n)] G (fun G1 => Rd G1 r y n (skp y n 0, -1) ∧ G1.2 = G.2 ∧ ∀ q, q ≠ r → q ≠ r + 1 → G1.1 q = G.1 q) := by
  refine Ct.intro rfl (by decide) [.ref r, .ref t, .int (nI n)] (by simp [Value.category]) (Nat.le_of_ble_eq_true rfl) rfl ?_
  refine w_aload_n dX5_open_0 rfl ?_
  refine w_aload_n dX5_open_1 rfl ?_
  refine w_getf dX5_open_2 fl_X5_9 (by first | assumption | exact gs_at | (rw [gs_ne (by omega)]; (first | assumption | exact gs_at | (rw [gs_ne (by omega)]; (first | assumption | exact gs_at | (rw [gs_ne (by omega)]; (first | assumption | exact gs_at | (rw [gs_ne (by omega)]; (first | assumption | exact gs_at))))))))) rfl ?_
  refine wN2n dX5_open_5 lk_X5_28 rfl (c_copyRow ht h1 (by decide)) (Nat.le_of_ble_eq_true rfl) (Nat.le_of_ble_eq_true rfl) (Nat.le_of_ble_eq_true rfl) (Nat.le_of_ble_eq_true rfl) ?_
  have g0 := (gs_ne (G := G) (x := aI 400 (fun i => nI (y i))) (show r ≠ r + 1 by omega)).trans h0
  refine w_aload_n dX5_open_8 rfl ?_
  refine w_iload_n dX5_open_9 rfl ?_
  refine w_aload_n dX5_open_10 rfl ?_
  refine w_getf dX5_open_11 fl_X5_9 (by first | assumption | exact gs_at | (rw [gs_ne (by omega)]; (first | assumption | exact gs_at | (rw [gs_ne (by omega)]; (first | assumption | exact gs_at | (rw [gs_ne (by omega)]; (first | assumption | exact gs_at | (rw [gs_ne (by omega)]; (first | assumption | exact gs_at))))))))) rfl ?_
  refine w_alenI dX5_open_14 (by first | assumption | exact gs_at | (rw [gs_ne (by omega)]; (first | assumption | exact gs_at | (rw [gs_ne (by omega)]; (first | assumption | exact gs_at | (rw [gs_ne (by omega)]; (first | assumption | exact gs_at | (rw [gs_ne (by omega)]; (first | assumption | exact gs_at))))))))) ?_
  refine wJ2u dX5_open_15 lk_X5_32 rfl (c_min (by omega) (by decide)) (Nat.le_of_ble_eq_true rfl) (Nat.le_of_ble_eq_true rfl) (Nat.le_of_ble_eq_true rfl) (Nat.le_of_ble_eq_true rfl) ?_
  rw [show min n 400 = n from by omega]
  refine w_putf dX5_open_18 fl_X5_15 (by first | assumption | exact gs_at | (rw [gs_ne (by omega)]; (first | assumption | exact gs_at | (rw [gs_ne (by omega)]; (first | assumption | exact gs_at | (rw [gs_ne (by omega)]; (first | assumption | exact gs_at | (rw [gs_ne (by omega)]; (first | assumption | exact gs_at))))))))) (by simp) rfl rfl ?_
  refine w_aload_n dX5_open_21 rfl ?_
  refine w_iconst (v := nI 0) dX5_open_22 (by decide) ?_
  refine w_putf dX5_open_23 fl_X5_22 (by first | assumption | exact gs_at | (rw [gs_ne (by omega)]; (first | assumption | exact gs_at | (rw [gs_ne (by omega)]; (first | assumption | exact gs_at | (rw [gs_ne (by omega)]; (first | assumption | exact gs_at | (rw [gs_ne (by omega)]; (first | assumption | exact gs_at))))))))) (by simp) rfl rfl ?_
  refine w_aload_n dX5_open_26 rfl ?_
  refine w_iconst (v := (-1)) dX5_open_27 (by decide) ?_
  refine w_putf dX5_open_28 fl_X5_25 (by first | assumption | exact gs_at | (rw [gs_ne (by omega)]; (first | assumption | exact gs_at | (rw [gs_ne (by omega)]; (first | assumption | exact gs_at | (rw [gs_ne (by omega)]; (first | assumption | exact gs_at | (rw [gs_ne (by omega)]; (first | assumption | exact gs_at))))))))) (by simp) rfl rfl ?_
  refine w_aload_n dX5_open_31 rfl ?_
  refine wV0d dX5_open_32 lk_X5_38 rfl (by first | assumption | exact gs_at | (rw [gs_ne (by omega)]; (first | assumption | exact gs_at | (rw [gs_ne (by omega)]; (first | assumption | exact gs_at | (rw [gs_ne (by omega)]; (first | assumption | exact gs_at | (rw [gs_ne (by omega)]; (first | assumption | exact gs_at))))))))) rfl rfl (c_step (y := y) (n := n) (w := -1) (e0 := 0) (bb := 0) gs_at ((gs_ne (by omega)).trans ((gs_ne (by omega)).trans ((gs_ne (by omega)).trans gs_at))) hn hy (Nat.zero_le _)) (Nat.le_of_ble_eq_true rfl) (Nat.le_of_ble_eq_true rfl) (Nat.le_of_ble_eq_true rfl) (Nat.le_of_ble_eq_true rfl) (fun G h_32 => ?_)
  refine w_vret dX5_open_35 rfl (Nat.le_of_ble_eq_true rfl) (Nat.le_of_ble_eq_true rfl) ?_
  exact ⟨rfl, h_32.1, h_32.2.1, fun q h1 h2 => (h_32.2.2 q h1).trans ((gs_ne h1).trans ((gs_ne h1).trans ((gs_ne h1).trans (gs_ne h2))))⟩
theorem c_isEnd {E : EV} {r n : Nat} {y : Nat → Nat} {s : RS} {G : AH} (hR : Rd G r y n s) : Cu E 1 kX5_isEnd [.ref r] G (.int (nI (b2 (n ≤ s.1)))) G := by
  obtain ⟨r0, r1, hn, hs, hy, hsk⟩ := id hR
  have htk := tokE_le (y := y) hs
  refine Ct.intro rfl (by decide) [.ref r] (by simp [Value.category]) (Nat.le_of_ble_eq_true rfl) rfl ?_
  refine w_aload_n dX5_isEnd_0 rfl ?_
  refine w_getf dX5_isEnd_1 fl_X5_19 (by first | assumption | exact gs_at | (rw [gs_ne (by omega)]; (first | assumption | exact gs_at | (rw [gs_ne (by omega)]; (first | assumption | exact gs_at | (rw [gs_ne (by omega)]; (first | assumption | exact gs_at | (rw [gs_ne (by omega)]; (first | assumption | exact gs_at))))))))) rfl ?_
  refine w_aload_n dX5_isEnd_4 rfl ?_
  refine w_getf dX5_isEnd_5 fl_X5_15 (by first | assumption | exact gs_at | (rw [gs_ne (by omega)]; (first | assumption | exact gs_at | (rw [gs_ne (by omega)]; (first | assumption | exact gs_at | (rw [gs_ne (by omega)]; (first | assumption | exact gs_at | (rw [gs_ne (by omega)]; (first | assumption | exact gs_at))))))))) rfl ?_
  refine w_icmp_lt (tgt := 15) dX5_isEnd_8 (by decide) (fun c_8 => ?_) (fun c_8 => ?_)
  · try simp (disch := omega) only [nI_b2, nI_ltI, nI_leI, nI_eq, ge_iff_le, gt_iff_lt, Nat.not_lt, Nat.not_le, ne_eq, Decidable.not_not] at c_8
    refine w_iconst (v := nI 0) dX5_isEnd_15 (by decide) ?_
    refine w_zret dX5_isEnd_16 rfl rfl (Nat.le_of_ble_eq_true rfl) (Nat.le_of_ble_eq_true rfl) ?_
    refine ⟨?_, rfl⟩
    first | rw [show b2 (n ≤ s.1) = 1 from if_pos (by omega)] | rw [show b2 (n ≤ s.1) = 0 from if_neg (by omega)]
  · try simp (disch := omega) only [nI_b2, nI_ltI, nI_leI, nI_eq, ge_iff_le, gt_iff_lt, Nat.not_lt, Nat.not_le, ne_eq, Decidable.not_not] at c_8
    refine w_iconst (v := nI 1) dX5_isEnd_11 (by decide) ?_
    refine w_goto (tgt := 16) dX5_isEnd_12 (by decide) ?_
    refine w_zret dX5_isEnd_16 rfl rfl (Nat.le_of_ble_eq_true rfl) (Nat.le_of_ble_eq_true rfl) ?_
    refine ⟨?_, rfl⟩
    first | rw [show b2 (n ≤ s.1) = 1 from if_pos (by omega)] | rw [show b2 (n ≤ s.1) = 0 from if_neg (by omega)]
theorem c_isRight {E : EV} {r n : Nat} {y : Nat → Nat} {s : RS} {G : AH} (hR : Rd G r y n s) : Cu E 1 kX5_isRight [.ref r] G (.int (nI (b2 (s.2 = -1)))) G := by
  obtain ⟨r0, r1, hn, hs, hy, hsk⟩ := id hR
  have htk := tokE_le (y := y) hs
  refine Ct.intro rfl (by decide) [.ref r] (by simp [Value.category]) (Nat.le_of_ble_eq_true rfl) rfl ?_
  refine w_aload_n dX5_isRight_0 rfl ?_
  refine w_getf dX5_isRight_1 fl_X5_25 (by first | assumption | exact gs_at | (rw [gs_ne (by omega)]; (first | assumption | exact gs_at | (rw [gs_ne (by omega)]; (first | assumption | exact gs_at | (rw [gs_ne (by omega)]; (first | assumption | exact gs_at | (rw [gs_ne (by omega)]; (first | assumption | exact gs_at))))))))) rfl ?_
  refine w_iconst (v := (-1)) dX5_isRight_4 (by decide) ?_
  refine w_icmp_ne (tgt := 12) dX5_isRight_5 (by decide) (fun c_5 => ?_) (fun c_5 => ?_)
  · try simp only [ne_eq, Decidable.not_not] at c_5
    refine w_iconst (v := nI 0) dX5_isRight_12 (by decide) ?_
    refine w_zret dX5_isRight_13 rfl rfl (Nat.le_of_ble_eq_true rfl) (Nat.le_of_ble_eq_true rfl) ?_
    refine ⟨?_, rfl⟩
    first | rw [show b2 (s.2 = -1) = 1 from if_pos c_5] | rw [show b2 (s.2 = -1) = 0 from if_neg c_5]
  · try simp only [ne_eq, Decidable.not_not] at c_5
    refine w_iconst (v := nI 1) dX5_isRight_8 (by decide) ?_
    refine w_goto (tgt := 13) dX5_isRight_9 (by decide) ?_
    refine w_zret dX5_isRight_13 rfl rfl (Nat.le_of_ble_eq_true rfl) (Nat.le_of_ble_eq_true rfl) ?_
    refine ⟨?_, rfl⟩
    first | rw [show b2 (s.2 = -1) = 1 from if_pos c_5] | rw [show b2 (s.2 = -1) = 0 from if_neg c_5]
theorem c_refuse {E : EV} {r n : Nat} {y : Nat → Nat} {s : RS} {G : AH} (hR : Rd G r y n s) : Cd E 1 kX5_refuse [.ref r] G (fun G1 => Rd G1 r y n (sRf s) ∧ FrR G G1 r) := by
  obtain ⟨r0, r1, hn, hs, hy, hsk⟩ := id hR
  have htk := tokE_le (y := y) hs
  refine Ct.intro rfl (by decide) [.ref r] (by simp [Value.category]) (Nat.le_of_ble_eq_true rfl) rfl ?_
  refine w_aload_n dX5_refuse_0 rfl ?_
  refine w_getf dX5_refuse_1 fl_X5_25 (by first | assumption | exact gs_at | (rw [gs_ne (by omega)]; (first | assumption | exact gs_at | (rw [gs_ne (by omega)]; (first | assumption | exact gs_at | (rw [gs_ne (by omega)]; (first | assumption | exact gs_at | (rw [gs_ne (by omega)]; (first | assumption | exact gs_at))))))))) rfl ?_
  refine w_iconst (v := (-1)) dX5_refuse_4 (by decide) ?_
  refine w_icmp_ne (tgt := 16) dX5_refuse_5 (by decide) (fun c_5 => ?_) (fun c_5 => ?_)
  · try simp only [ne_eq, Decidable.not_not] at c_5
    refine w_vret dX5_refuse_16 rfl (Nat.le_of_ble_eq_true rfl) (Nat.le_of_ble_eq_true rfl) ?_
    first
      | exact ⟨rfl, ⟨by rw [sRf, refW, if_neg c_5]; exact r0, r1, hn, hs, hy, hsk⟩, FrR.rf⟩
      | exact ⟨rfl, ⟨by rw [sRf, refW, if_pos c_5]; exact gs_at, (gs_ne (by omega)).trans r1, hn, hs, hy, hsk⟩, FrR.gs⟩
  · try simp only [ne_eq, Decidable.not_not] at c_5
    refine w_aload_n dX5_refuse_8 rfl ?_
    refine w_aload_n dX5_refuse_9 rfl ?_
    refine w_getf dX5_refuse_10 fl_X5_19 (by first | assumption | exact gs_at | (rw [gs_ne (by omega)]; (first | assumption | exact gs_at | (rw [gs_ne (by omega)]; (first | assumption | exact gs_at | (rw [gs_ne (by omega)]; (first | assumption | exact gs_at | (rw [gs_ne (by omega)]; (first | assumption | exact gs_at))))))))) rfl ?_
    refine w_putf dX5_refuse_13 fl_X5_25 (by first | assumption | exact gs_at | (rw [gs_ne (by omega)]; (first | assumption | exact gs_at | (rw [gs_ne (by omega)]; (first | assumption | exact gs_at | (rw [gs_ne (by omega)]; (first | assumption | exact gs_at | (rw [gs_ne (by omega)]; (first | assumption | exact gs_at))))))))) (by simp) rfl rfl ?_
    refine w_vret dX5_refuse_16 rfl (Nat.le_of_ble_eq_true rfl) (Nat.le_of_ble_eq_true rfl) ?_
    first
      | exact ⟨rfl, ⟨by rw [sRf, refW, if_neg c_5]; exact r0, r1, hn, hs, hy, hsk⟩, FrR.rf⟩
      | exact ⟨rfl, ⟨by rw [sRf, refW, if_pos c_5]; exact gs_at, (gs_ne (by omega)).trans r1, hn, hs, hy, hsk⟩, FrR.gs⟩
theorem c_isNumber {E : EV} {r n : Nat} {y : Nat → Nat} {s : RS} {G : AH} (hR : Rd G r y n s) : Cu E 1 kX5_isNumber [.ref r] G (.int (nI (b2 (isD y n s.1 = true)))) G := by
  obtain ⟨r0, r1, hn, hs, hy, hsk⟩ := id hR
  have htk := tokE_le (y := y) hs
  have hys := hy s.1
  have htg : isD y n s.1 = true → s.1 < tokE y n s.1 := tok_gt
  have hte : ¬ s.1 < n → tokE y n s.1 = s.1 := fun h => if_neg h
  refine Ct.intro rfl (by decide) [.ref r] (by simp [Value.category]) (Nat.le_of_ble_eq_true rfl) rfl ?_
  refine w_aload_n dX5_isNumber_0 rfl ?_
  refine w_getf dX5_isNumber_1 fl_X5_19 (by first | assumption | exact gs_at | (rw [gs_ne (by omega)]; (first | assumption | exact gs_at | (rw [gs_ne (by omega)]; (first | assumption | exact gs_at | (rw [gs_ne (by omega)]; (first | assumption | exact gs_at | (rw [gs_ne (by omega)]; (first | assumption | exact gs_at))))))))) rfl ?_
  refine w_ifN_lt (tgt := 62) dX5_isNumber_4 (by decide) (fun c_4 => ?_) (fun c_4 => ?_)
  · try simp (disch := omega) only [nI_b2, nI_ltI, nI_leI, nI_eq, ge_iff_le, gt_iff_lt, Nat.not_lt, Nat.not_le, ne_eq, Decidable.not_not] at c_4
    exact absurd c_4 (by omega)
  · try simp (disch := omega) only [nI_b2, nI_ltI, nI_leI, nI_eq, ge_iff_le, gt_iff_lt, Nat.not_lt, Nat.not_le, ne_eq, Decidable.not_not] at c_4
    refine w_aload_n dX5_isNumber_7 rfl ?_
    refine w_getf dX5_isNumber_8 fl_X5_19 (by first | assumption | exact gs_at | (rw [gs_ne (by omega)]; (first | assumption | exact gs_at | (rw [gs_ne (by omega)]; (first | assumption | exact gs_at | (rw [gs_ne (by omega)]; (first | assumption | exact gs_at | (rw [gs_ne (by omega)]; (first | assumption | exact gs_at))))))))) rfl ?_
    refine w_aload_n dX5_isNumber_11 rfl ?_
    refine w_getf dX5_isNumber_12 fl_X5_22 (by first | assumption | exact gs_at | (rw [gs_ne (by omega)]; (first | assumption | exact gs_at | (rw [gs_ne (by omega)]; (first | assumption | exact gs_at | (rw [gs_ne (by omega)]; (first | assumption | exact gs_at | (rw [gs_ne (by omega)]; (first | assumption | exact gs_at))))))))) rfl ?_
    refine w_icmp_ge (tgt := 62) dX5_isNumber_15 (by decide) (fun c_15 => ?_) (fun c_15 => ?_)
    · try simp (disch := omega) only [nI_b2, nI_ltI, nI_leI, nI_eq, ge_iff_le, gt_iff_lt, Nat.not_lt, Nat.not_le, ne_eq, Decidable.not_not] at c_15
      refine w_iconst (v := nI 0) dX5_isNumber_62 (by decide) ?_
      refine w_zret dX5_isNumber_63 rfl rfl (Nat.le_of_ble_eq_true rfl) (Nat.le_of_ble_eq_true rfl) ?_
      refine ⟨?_, rfl⟩
      first
        | rw [show b2 (isD y n s.1 = true) = 1 from if_pos (isD_iff.mpr ⟨by omega, by omega, by omega⟩)]
        | rw [show b2 (isD y n s.1 = true) = 0 from if_neg (fun h => by have h8 := htg h; have h9 := isD_iff.mp h; omega)]
    · try simp (disch := omega) only [nI_b2, nI_ltI, nI_leI, nI_eq, ge_iff_le, gt_iff_lt, Nat.not_lt, Nat.not_le, ne_eq, Decidable.not_not] at c_15
      refine w_aload_n dX5_isNumber_18 rfl ?_
      refine w_getf dX5_isNumber_19 fl_X5_19 (by first | assumption | exact gs_at | (rw [gs_ne (by omega)]; (first | assumption | exact gs_at | (rw [gs_ne (by omega)]; (first | assumption | exact gs_at | (rw [gs_ne (by omega)]; (first | assumption | exact gs_at | (rw [gs_ne (by omega)]; (first | assumption | exact gs_at))))))))) rfl ?_
      refine w_aload_n dX5_isNumber_22 rfl ?_
      refine w_getf dX5_isNumber_23 fl_X5_9 (by first | assumption | exact gs_at | (rw [gs_ne (by omega)]; (first | assumption | exact gs_at | (rw [gs_ne (by omega)]; (first | assumption | exact gs_at | (rw [gs_ne (by omega)]; (first | assumption | exact gs_at | (rw [gs_ne (by omega)]; (first | assumption | exact gs_at))))))))) rfl ?_
      refine w_alenI dX5_isNumber_26 (by first | assumption | exact gs_at | (rw [gs_ne (by omega)]; (first | assumption | exact gs_at | (rw [gs_ne (by omega)]; (first | assumption | exact gs_at | (rw [gs_ne (by omega)]; (first | assumption | exact gs_at | (rw [gs_ne (by omega)]; (first | assumption | exact gs_at))))))))) ?_
      refine w_icmp_ge (tgt := 62) dX5_isNumber_27 (by decide) (fun c_27 => ?_) (fun c_27 => ?_)
      · try simp (disch := omega) only [nI_b2, nI_ltI, nI_leI, nI_eq, ge_iff_le, gt_iff_lt, Nat.not_lt, Nat.not_le, ne_eq, Decidable.not_not] at c_27
        exact absurd c_27 (by omega)
      · try simp (disch := omega) only [nI_b2, nI_ltI, nI_leI, nI_eq, ge_iff_le, gt_iff_lt, Nat.not_lt, Nat.not_le, ne_eq, Decidable.not_not] at c_27
        refine w_aload_n dX5_isNumber_30 rfl ?_
        refine w_getf dX5_isNumber_31 fl_X5_9 (by first | assumption | exact gs_at | (rw [gs_ne (by omega)]; (first | assumption | exact gs_at | (rw [gs_ne (by omega)]; (first | assumption | exact gs_at | (rw [gs_ne (by omega)]; (first | assumption | exact gs_at | (rw [gs_ne (by omega)]; (first | assumption | exact gs_at))))))))) rfl ?_
        refine w_aload_n dX5_isNumber_34 rfl ?_
        refine w_getf dX5_isNumber_35 fl_X5_19 (by first | assumption | exact gs_at | (rw [gs_ne (by omega)]; (first | assumption | exact gs_at | (rw [gs_ne (by omega)]; (first | assumption | exact gs_at | (rw [gs_ne (by omega)]; (first | assumption | exact gs_at | (rw [gs_ne (by omega)]; (first | assumption | exact gs_at))))))))) rfl ?_
        refine w_iaload dX5_isNumber_38 (by first | assumption | exact gs_at | (rw [gs_ne (by omega)]; (first | assumption | exact gs_at | (rw [gs_ne (by omega)]; (first | assumption | exact gs_at | (rw [gs_ne (by omega)]; (first | assumption | exact gs_at | (rw [gs_ne (by omega)]; (first | assumption | exact gs_at))))))))) (vp_in_nI (by omega) (by decide)) ?_
        rw [nI_clamp (show s.1 < 2 ^ 31 by omega)]
        refine w_bipush (v := nI 48) dX5_isNumber_39 (by decide) ?_
        refine w_icmp_lt (tgt := 62) dX5_isNumber_41 (by decide) (fun c_41 => ?_) (fun c_41 => ?_)
        · try simp (disch := omega) only [nI_b2, nI_ltI, nI_leI, nI_eq, ge_iff_le, gt_iff_lt, Nat.not_lt, Nat.not_le, ne_eq, Decidable.not_not] at c_41
          refine w_iconst (v := nI 0) dX5_isNumber_62 (by decide) ?_
          refine w_zret dX5_isNumber_63 rfl rfl (Nat.le_of_ble_eq_true rfl) (Nat.le_of_ble_eq_true rfl) ?_
          refine ⟨?_, rfl⟩
          first
            | rw [show b2 (isD y n s.1 = true) = 1 from if_pos (isD_iff.mpr ⟨by omega, by omega, by omega⟩)]
            | rw [show b2 (isD y n s.1 = true) = 0 from if_neg (fun h => by have h8 := htg h; have h9 := isD_iff.mp h; omega)]
        · try simp (disch := omega) only [nI_b2, nI_ltI, nI_leI, nI_eq, ge_iff_le, gt_iff_lt, Nat.not_lt, Nat.not_le, ne_eq, Decidable.not_not] at c_41
          refine w_aload_n dX5_isNumber_44 rfl ?_
          refine w_getf dX5_isNumber_45 fl_X5_9 (by first | assumption | exact gs_at | (rw [gs_ne (by omega)]; (first | assumption | exact gs_at | (rw [gs_ne (by omega)]; (first | assumption | exact gs_at | (rw [gs_ne (by omega)]; (first | assumption | exact gs_at | (rw [gs_ne (by omega)]; (first | assumption | exact gs_at))))))))) rfl ?_
          refine w_aload_n dX5_isNumber_48 rfl ?_
          refine w_getf dX5_isNumber_49 fl_X5_19 (by first | assumption | exact gs_at | (rw [gs_ne (by omega)]; (first | assumption | exact gs_at | (rw [gs_ne (by omega)]; (first | assumption | exact gs_at | (rw [gs_ne (by omega)]; (first | assumption | exact gs_at | (rw [gs_ne (by omega)]; (first | assumption | exact gs_at))))))))) rfl ?_
          refine w_iaload dX5_isNumber_52 (by first | assumption | exact gs_at | (rw [gs_ne (by omega)]; (first | assumption | exact gs_at | (rw [gs_ne (by omega)]; (first | assumption | exact gs_at | (rw [gs_ne (by omega)]; (first | assumption | exact gs_at | (rw [gs_ne (by omega)]; (first | assumption | exact gs_at))))))))) (vp_in_nI (by omega) (by decide)) ?_
          rw [nI_clamp (show s.1 < 2 ^ 31 by omega)]
          refine w_bipush (v := nI 57) dX5_isNumber_53 (by decide) ?_
          refine w_icmp_gt (tgt := 62) dX5_isNumber_55 (by decide) (fun c_55 => ?_) (fun c_55 => ?_)
          · try simp (disch := omega) only [nI_b2, nI_ltI, nI_leI, nI_eq, ge_iff_le, gt_iff_lt, Nat.not_lt, Nat.not_le, ne_eq, Decidable.not_not] at c_55
            refine w_iconst (v := nI 0) dX5_isNumber_62 (by decide) ?_
            refine w_zret dX5_isNumber_63 rfl rfl (Nat.le_of_ble_eq_true rfl) (Nat.le_of_ble_eq_true rfl) ?_
            refine ⟨?_, rfl⟩
            first
              | rw [show b2 (isD y n s.1 = true) = 1 from if_pos (isD_iff.mpr ⟨by omega, by omega, by omega⟩)]
              | rw [show b2 (isD y n s.1 = true) = 0 from if_neg (fun h => by have h8 := htg h; have h9 := isD_iff.mp h; omega)]
          · try simp (disch := omega) only [nI_b2, nI_ltI, nI_leI, nI_eq, ge_iff_le, gt_iff_lt, Nat.not_lt, Nat.not_le, ne_eq, Decidable.not_not] at c_55
            refine w_iconst (v := nI 1) dX5_isNumber_58 (by decide) ?_
            refine w_goto (tgt := 63) dX5_isNumber_59 (by decide) ?_
            refine w_zret dX5_isNumber_63 rfl rfl (Nat.le_of_ble_eq_true rfl) (Nat.le_of_ble_eq_true rfl) ?_
            refine ⟨?_, rfl⟩
            first
              | rw [show b2 (isD y n s.1 = true) = 1 from if_pos (isD_iff.mpr ⟨by omega, by omega, by omega⟩)]
              | rw [show b2 (isD y n s.1 = true) = 0 from if_neg (fun h => by have h8 := htg h; have h9 := isD_iff.mp h; omega)]
theorem lp_at0 {E : EV} {Q : OC → AH → Prop} {r n : Nat} {y : Nat → Nat} {s : RS} {G : AH} {i0 : Nat} {q : String × Nat × String × List Int32} {ws : List Nat} (hi : strT[i0]? = some q) (hq : q.2.2.2 = ws.map nI) (hw : ∀ j, j < ws.length → ws.getD j 0 < 128) (hl : ws.length < 2 ^ 20) (hR : Rd G r y n s) (hQ : Q (.inl (some (.int (nI (b2 (atB y n s.1 ws = true)))))) G) {x z : Value} (hno : ¬ atB y n s.1 ws = true) : Wp E 7 0 0 kX5_isAt Q G (0, 0) 24 [.ref r, .ref (eK E i0), .int (nI 0), x, z] [] := by
  rw [show b2 (atB y n s.1 ws = true) = 0 from if_neg hno] at hQ
  refine w_iload_n dX5_isAt_24 rfl ?_
  refine w_ifN_eq (tgt := 86) dX5_isAt_25 (by decide) (fun c_25 => ?_) (fun c9 => absurd (rfl) c9)
  refine w_iload_n dX5_isAt_86 rfl ?_
  refine w_zret dX5_isAt_87 rfl rfl (Nat.le_of_ble_eq_true rfl) (Nat.le_of_ble_eq_true rfl) ?_
  exact hQ
theorem lp_at79f {E : EV} {Q : OC → AH → Prop} {r n : Nat} {y : Nat → Nat} {s : RS} {G : AH} {i0 : Nat} {q : String × Nat × String × List Int32} {ws : List Nat} (hi : strT[i0]? = some q) (hq : q.2.2.2 = ws.map nI) (hw : ∀ j, j < ws.length → ws.getD j 0 < 128) (hl : ws.length < 2 ^ 20) (hR : Rd G r y n s) (hQ : Q (.inl (some (.int (nI (b2 (atB y n s.1 ws = true)))))) G) {x : Nat} {z v : Value} (hno : ¬ atB y n s.1 ws = true) : Wp E 7 0 0 kX5_isAt Q G (0, 0) 79 [.ref r, .ref (eK E i0), v, .int (nI x), z] [.int (nI 0)] := by
  refine w_istore_2 dX5_isAt_79 rfl ?_
  first | refine w_iinc_3 dX5_isAt_80 (nI_inc _) rfl ?_ | refine w_iinc_3 dX5_isAt_80 rfl rfl ?_
  refine w_goto (tgt := 24) dX5_isAt_83 (by decide) ?_
  exact lp_at0 hi hq hw hl hR hQ hno
theorem lp_at79t {E : EV} {Q : OC → AH → Prop} {r n : Nat} {y : Nat → Nat} {s : RS} {G : AH} {i0 : Nat} {q : String × Nat × String × List Int32} {ws : List Nat} (hi : strT[i0]? = some q) (hq : q.2.2.2 = ws.map nI) (hw : ∀ j, j < ws.length → ws.getD j 0 < 128) (hl : ws.length < 2 ^ 20) (hR : Rd G r y n s) {x : Nat} {z v : Value} (kk : Wp E 7 0 0 kX5_isAt Q G (0, 0) 24 [.ref r, .ref (eK E i0), .int (nI 1), .int (nI (x + 1)), z] []) : Wp E 7 0 0 kX5_isAt Q G (0, 0) 79 [.ref r, .ref (eK E i0), v, .int (nI x), z] [.int (nI 1)] := by
  refine w_istore_2 dX5_isAt_79 rfl ?_
  first | refine w_iinc_3 dX5_isAt_80 (nI_inc _) rfl ?_ | refine w_iinc_3 dX5_isAt_80 rfl rfl ?_
  refine w_goto (tgt := 24) dX5_isAt_83 (by decide) ?_
  exact kk
theorem lp_at {E : EV} {Q : OC → AH → Prop} {r n : Nat} {y : Nat → Nat} {s : RS} {G : AH} {i0 : Nat} {q : String × Nat × String × List Int32} {ws : List Nat} (hi : strT[i0]? = some q) (hq : q.2.2.2 = ws.map nI) (hw : ∀ j, j < ws.length → ws.getD j 0 < 128) (hl : ws.length < 2 ^ 20) (hR : Rd G r y n s) (hQ : Q (.inl (some (.int (nI (b2 (atB y n s.1 ws = true)))))) G) (hlen : tokE y n s.1 = s.1 + ws.length) : ∀ (k i : Nat), ws.length - i < k → i ≤ ws.length → (∀ j, j < i → ws.getD j 0 = y (s.1 + j)) → ∀ z : Value, Wp E 7 0 0 kX5_isAt Q G (0, 0) 24 [.ref r, .ref (eK E i0), .int (nI 1), .int (nI i), z] [] := by
  obtain ⟨r0, r1, hn, hs, hy, hsk⟩ := id hR
  have htk := tokE_le (y := y) hs
  have hql : q.2.2.2.length = ws.length := by rw [hq, List.length_map]
  intro k
  induction k with
  | zero => intro i h; exact absurd h (by omega)
  | succ k ih =>
    intro i hk hil hpre z
    have hyi := hy (s.1 + i)
    refine w_iload_n dX5_isAt_24 rfl ?_
    refine w_ifN_eq (tgt := 86) dX5_isAt_25 (by decide) (fun c9 => absurd c9 (by decide)) (fun c_25 => ?_)
    refine w_iload_n dX5_isAt_28 rfl ?_
    refine w_aload_n dX5_isAt_29 rfl ?_
    refine wc_O hi dX5_isAt_30 lkO_44 rfl (As := []) rfl rfl (Nat.le_of_ble_eq_true rfl) (c_length hi) rfl (Nat.le_of_ble_eq_true rfl) (Nat.le_of_ble_eq_true rfl) (Nat.le_of_ble_eq_true rfl) ?_
    rw [hql]
    refine w_icmp_ge (tgt := 86) dX5_isAt_33 (by decide) (fun c_33 => ?_) (fun c_33 => ?_)
    · try simp (disch := omega) only [nI_b2, nI_ltI, nI_leI, nI_eq, ge_iff_le, gt_iff_lt, Nat.not_lt, Nat.not_le, ne_eq, Decidable.not_not] at c_33
      refine w_iload_n dX5_isAt_86 rfl ?_
      refine w_zret dX5_isAt_87 rfl rfl (Nat.le_of_ble_eq_true rfl) (Nat.le_of_ble_eq_true rfl) ?_
      rw [show b2 (atB y n s.1 ws = true) = 1 from if_pos (atB_iff.mpr ⟨hlen, fun j hj => hpre j (by omega)⟩)] at hQ
      exact hQ
    · try simp (disch := omega) only [nI_b2, nI_ltI, nI_leI, nI_eq, ge_iff_le, gt_iff_lt, Nat.not_lt, Nat.not_le, ne_eq, Decidable.not_not] at c_33
      refine w_aload_n dX5_isAt_36 rfl ?_
      refine w_getf dX5_isAt_37 fl_X5_19 (by first | assumption | exact gs_at | (rw [gs_ne (by omega)]; (first | assumption | exact gs_at | (rw [gs_ne (by omega)]; (first | assumption | exact gs_at | (rw [gs_ne (by omega)]; (first | assumption | exact gs_at | (rw [gs_ne (by omega)]; (first | assumption | exact gs_at))))))))) rfl ?_
      refine w_iload_n dX5_isAt_40 rfl ?_
      first | refine w_iaddN dX5_isAt_41 ?_ | refine w_iadd dX5_isAt_41 ?_
      refine w_istore_4 dX5_isAt_42 rfl ?_
      refine w_iload dX5_isAt_44 rfl ?_
      refine w_ifN_lt (tgt := 78) dX5_isAt_46 (by decide) (fun c_46 => ?_) (fun c_46 => ?_)
      · try simp (disch := omega) only [nI_b2, nI_ltI, nI_leI, nI_eq, ge_iff_le, gt_iff_lt, Nat.not_lt, Nat.not_le, ne_eq, Decidable.not_not] at c_46
        exact absurd c_46 (by omega)
      · try simp (disch := omega) only [nI_b2, nI_ltI, nI_leI, nI_eq, ge_iff_le, gt_iff_lt, Nat.not_lt, Nat.not_le, ne_eq, Decidable.not_not] at c_46
        refine w_iload dX5_isAt_49 rfl ?_
        refine w_aload_n dX5_isAt_51 rfl ?_
        refine w_getf dX5_isAt_52 fl_X5_9 (by first | assumption | exact gs_at | (rw [gs_ne (by omega)]; (first | assumption | exact gs_at | (rw [gs_ne (by omega)]; (first | assumption | exact gs_at | (rw [gs_ne (by omega)]; (first | assumption | exact gs_at | (rw [gs_ne (by omega)]; (first | assumption | exact gs_at))))))))) rfl ?_
        refine w_alenI dX5_isAt_55 (by first | assumption | exact gs_at | (rw [gs_ne (by omega)]; (first | assumption | exact gs_at | (rw [gs_ne (by omega)]; (first | assumption | exact gs_at | (rw [gs_ne (by omega)]; (first | assumption | exact gs_at | (rw [gs_ne (by omega)]; (first | assumption | exact gs_at))))))))) ?_
        refine w_icmp_ge (tgt := 78) dX5_isAt_56 (by decide) (fun c_56 => ?_) (fun c_56 => ?_)
        · try simp (disch := omega) only [nI_b2, nI_ltI, nI_leI, nI_eq, ge_iff_le, gt_iff_lt, Nat.not_lt, Nat.not_le, ne_eq, Decidable.not_not] at c_56
          exact absurd c_56 (by omega)
        · try simp (disch := omega) only [nI_b2, nI_ltI, nI_leI, nI_eq, ge_iff_le, gt_iff_lt, Nat.not_lt, Nat.not_le, ne_eq, Decidable.not_not] at c_56
          refine w_aload_n dX5_isAt_59 rfl ?_
          refine w_getf dX5_isAt_60 fl_X5_9 (by first | assumption | exact gs_at | (rw [gs_ne (by omega)]; (first | assumption | exact gs_at | (rw [gs_ne (by omega)]; (first | assumption | exact gs_at | (rw [gs_ne (by omega)]; (first | assumption | exact gs_at | (rw [gs_ne (by omega)]; (first | assumption | exact gs_at))))))))) rfl ?_
          refine w_iload dX5_isAt_63 rfl ?_
          refine w_iaload dX5_isAt_65 (by first | assumption | exact gs_at | (rw [gs_ne (by omega)]; (first | assumption | exact gs_at | (rw [gs_ne (by omega)]; (first | assumption | exact gs_at | (rw [gs_ne (by omega)]; (first | assumption | exact gs_at | (rw [gs_ne (by omega)]; (first | assumption | exact gs_at))))))))) (vp_in_nI (by omega) (by decide)) ?_
          rw [nI_clamp (show s.1 + i < 2 ^ 31 by omega)]
          refine w_aload_n dX5_isAt_66 rfl ?_
          refine w_iload_n dX5_isAt_67 rfl ?_
          refine wc_O hi dX5_isAt_68 lkO_49 rfl (As := [.int (nI i)]) rfl rfl (Nat.le_of_ble_eq_true rfl) (c_charAt hi (j := i) (t := ws.getD i 0) (by rw [hq, List.getElem?_map, List.getElem?_eq_getElem (by omega), Option.map_some, List.getD_eq_getElem?_getD, List.getElem?_eq_getElem (by omega)]; rfl) (hw i (by omega)) (by omega)) rfl (Nat.le_of_ble_eq_true rfl) (Nat.le_of_ble_eq_true rfl) (Nat.le_of_ble_eq_true rfl) ?_
          have hwi := hw i (by omega)
          refine w_icmp_ne (tgt := 78) dX5_isAt_71 (by decide) (fun c_71 => ?_) (fun c_71 => ?_)
          · try simp (disch := omega) only [nI_b2, nI_ltI, nI_leI, nI_eq, ge_iff_le, gt_iff_lt, Nat.not_lt, Nat.not_le, ne_eq, Decidable.not_not] at c_71
            refine w_iconst (v := nI 0) dX5_isAt_78 (by decide) ?_
            first
              | exact lp_at79f hi hq hw hl hR hQ (fun h => c_71 ((atB_iff.mp h).2 i (by omega)).symm)
              | exact lp_at79t hi hq hw hl hR (ih (i + 1) (by omega) (by omega) (fun j hj => by rcases Nat.lt_succ_iff_lt_or_eq.mp hj with h | h; exact hpre j h; subst h; exact c_71.symm) _)
          · try simp (disch := omega) only [nI_b2, nI_ltI, nI_leI, nI_eq, ge_iff_le, gt_iff_lt, Nat.not_lt, Nat.not_le, ne_eq, Decidable.not_not] at c_71
            refine w_iconst (v := nI 1) dX5_isAt_74 (by decide) ?_
            refine w_goto (tgt := 79) dX5_isAt_75 (by decide) ?_
            first
              | exact lp_at79f hi hq hw hl hR hQ (fun h => c_71 ((atB_iff.mp h).2 i (by omega)).symm)
              | exact lp_at79t hi hq hw hl hR (ih (i + 1) (by omega) (by omega) (fun j hj => by rcases Nat.lt_succ_iff_lt_or_eq.mp hj with h | h; exact hpre j h; subst h; exact c_71.symm) _)
theorem c_isAt {E : EV} {r n : Nat} {y : Nat → Nat} {s : RS} {G : AH} {i0 : Nat} {q : String × Nat × String × List Int32} {ws : List Nat} (hi : strT[i0]? = some q) (hq : q.2.2.2 = ws.map nI) (hw : ∀ j, j < ws.length → ws.getD j 0 < 128) (hl : ws.length < 2 ^ 20) (hR : Rd G r y n s) : Cu E 7 kX5_isAt [.ref r, .ref (eK E i0)] G (.int (nI (b2 (atB y n s.1 ws = true)))) G := by
  obtain ⟨r0, r1, hn, hs, hy, hsk⟩ := id hR
  have htk := tokE_le (y := y) hs
  have hql : q.2.2.2.length = ws.length := by rw [hq, List.length_map]
  refine Ct.intro rfl (by decide) [.ref r, .ref (eK E i0), .float 0, .float 0, .float 0] (by simp [Value.category]) (Nat.le_of_ble_eq_true rfl) rfl ?_
  refine w_aload_n dX5_isAt_0 rfl ?_
  refine w_getf dX5_isAt_1 fl_X5_22 (by first | assumption | exact gs_at | (rw [gs_ne (by omega)]; (first | assumption | exact gs_at | (rw [gs_ne (by omega)]; (first | assumption | exact gs_at | (rw [gs_ne (by omega)]; (first | assumption | exact gs_at | (rw [gs_ne (by omega)]; (first | assumption | exact gs_at))))))))) rfl ?_
  refine w_aload_n dX5_isAt_4 rfl ?_
  refine w_getf dX5_isAt_5 fl_X5_19 (by first | assumption | exact gs_at | (rw [gs_ne (by omega)]; (first | assumption | exact gs_at | (rw [gs_ne (by omega)]; (first | assumption | exact gs_at | (rw [gs_ne (by omega)]; (first | assumption | exact gs_at | (rw [gs_ne (by omega)]; (first | assumption | exact gs_at))))))))) rfl ?_
  refine w_isubN (by omega) dX5_isAt_8 ?_
  refine w_aload_n dX5_isAt_9 rfl ?_
  refine wc_O hi dX5_isAt_10 lkO_44 rfl (As := []) rfl rfl (Nat.le_of_ble_eq_true rfl) (c_length hi) rfl (Nat.le_of_ble_eq_true rfl) (Nat.le_of_ble_eq_true rfl) (Nat.le_of_ble_eq_true rfl) ?_
  rw [hql]
  refine w_icmp_ne (tgt := 20) dX5_isAt_13 (by decide) (fun c_13 => ?_) (fun c_13 => ?_)
  · try simp (disch := omega) only [nI_b2, nI_ltI, nI_leI, nI_eq, ge_iff_le, gt_iff_lt, Nat.not_lt, Nat.not_le, ne_eq, Decidable.not_not] at c_13
    refine w_iconst (v := nI 0) dX5_isAt_20 (by decide) ?_
    refine w_istore_2 dX5_isAt_21 rfl ?_
    refine w_iconst (v := nI 0) dX5_isAt_22 (by decide) ?_
    refine w_istore_3 dX5_isAt_23 rfl ?_
    first
      | exact lp_at hi hq hw hl hR ⟨rfl, rfl⟩ (by omega) (ws.length + 1) 0 (by omega) (by omega) (fun j h => absurd h (by omega)) _
      | exact lp_at0 hi hq hw hl hR ⟨rfl, rfl⟩ (fun h => c_13 (by have := (atB_iff.mp h).1; omega))
  · try simp (disch := omega) only [nI_b2, nI_ltI, nI_leI, nI_eq, ge_iff_le, gt_iff_lt, Nat.not_lt, Nat.not_le, ne_eq, Decidable.not_not] at c_13
    refine w_iconst (v := nI 1) dX5_isAt_16 (by decide) ?_
    refine w_goto (tgt := 21) dX5_isAt_17 (by decide) ?_
    refine w_istore_2 dX5_isAt_21 rfl ?_
    refine w_iconst (v := nI 0) dX5_isAt_22 (by decide) ?_
    refine w_istore_3 dX5_isAt_23 rfl ?_
    first
      | exact lp_at hi hq hw hl hR ⟨rfl, rfl⟩ (by omega) (ws.length + 1) 0 (by omega) (by omega) (fun j h => absurd h (by omega)) _
      | exact lp_at0 hi hq hw hl hR ⟨rfl, rfl⟩ (fun h => c_13 (by have := (atB_iff.mp h).1; omega))
theorem Rd.tk {r n : Nat} {y : Nat → Nat} {G G1 : AH} {p : Nat} {w : Int32} (h : Rd G1 r y n (skp y n (tokE y n p), w)) : Rd G1 r y n (nxt y n p, w) := h
theorem c_takes {E : EV} {r n : Nat} {y : Nat → Nat} {s : RS} {G : AH} {i0 : Nat} {q : String × Nat × String × List Int32} {ws : List Nat} (hi : strT[i0]? = some q) (hq : q.2.2.2 = ws.map nI) (hw : ∀ j, j < ws.length → ws.getD j 0 < 128) (hl : ws.length < 2 ^ 20) (hR : Rd G r y n s) : Ci E 8 kX5_takes [.ref r, .ref (eK E i0)] G (fun v G1 => v = nI (b2 (atB y n s.1 ws = true)) ∧ Rd G1 r y n (sTk y n ws s) ∧ FrR G G1 r) := by
  obtain ⟨r0, r1, hn, hs, hy, hsk⟩ := id hR
  have htk := tokE_le (y := y) hs
  have hql : q.2.2.2.length = ws.length := by rw [hq, List.length_map]
  refine Ct.intro rfl (by decide) [.ref r, .ref (eK E i0)] (by simp [Value.category]) (Nat.le_of_ble_eq_true rfl) rfl ?_
  refine w_aload_n dX5_takes_0 rfl ?_
  refine w_aload_n dX5_takes_1 rfl ?_
  refine wV1u dX5_takes_2 lk_X5_53 rfl (by first | assumption | exact gs_at | (rw [gs_ne (by omega)]; (first | assumption | exact gs_at | (rw [gs_ne (by omega)]; (first | assumption | exact gs_at | (rw [gs_ne (by omega)]; (first | assumption | exact gs_at | (rw [gs_ne (by omega)]; (first | assumption | exact gs_at))))))))) rfl rfl (c_isAt hi hq hw hl hR) (Nat.le_of_ble_eq_true rfl) (Nat.le_of_ble_eq_true rfl) (Nat.le_of_ble_eq_true rfl) (Nat.le_of_ble_eq_true rfl) ?_
  refine w_ifN_ne (tgt := 10) dX5_takes_5 (by decide) (fun c_5 => ?_) (fun c_5 => ?_)
  · try simp only [nI_b2, ne_eq, Decidable.not_not] at c_5
    refine w_aload_n dX5_takes_10 rfl ?_
    refine wV0d dX5_takes_11 lk_X5_38 rfl (by first | assumption | exact gs_at | (rw [gs_ne (by omega)]; (first | assumption | exact gs_at | (rw [gs_ne (by omega)]; (first | assumption | exact gs_at | (rw [gs_ne (by omega)]; (first | assumption | exact gs_at | (rw [gs_ne (by omega)]; (first | assumption | exact gs_at))))))))) rfl rfl (c_step (y := y) (n := n) (w := s.2) (e0 := tokE y n s.1) (bb := 0) r0 r1 hn hy htk.2) (Nat.le_of_ble_eq_true rfl) (Nat.le_of_ble_eq_true rfl) (Nat.le_of_ble_eq_true rfl) (Nat.le_of_ble_eq_true rfl) (fun G h_11 => ?_)
    refine w_iconst (v := nI 1) dX5_takes_14 (by decide) ?_
    refine w_zret dX5_takes_15 rfl rfl (Nat.le_of_ble_eq_true rfl) (Nat.le_of_ble_eq_true rfl) ?_
    exact ⟨_, rfl, by rw [show b2 (atB y n s.1 ws = true) = 1 from if_pos c_5], by rw [sTk, if_pos c_5]; exact h_11.1, h_11.2⟩
  · try simp only [nI_b2, ne_eq, Decidable.not_not] at c_5
    refine w_iconst (v := nI 0) dX5_takes_8 (by decide) ?_
    refine w_zret dX5_takes_9 rfl rfl (Nat.le_of_ble_eq_true rfl) (Nat.le_of_ble_eq_true rfl) ?_
    exact ⟨_, rfl, by rw [show b2 (atB y n s.1 ws = true) = 0 from if_neg c_5], by rw [sTk, if_neg c_5]; exact hR, FrR.rf⟩
theorem c_needs {E : EV} {r n : Nat} {y : Nat → Nat} {s : RS} {G : AH} {i0 : Nat} {q : String × Nat × String × List Int32} {ws : List Nat} (hi : strT[i0]? = some q) (hq : q.2.2.2 = ws.map nI) (hw : ∀ j, j < ws.length → ws.getD j 0 < 128) (hl : ws.length < 2 ^ 20) (hR : Rd G r y n s) : Cd E 9 kX5_needs [.ref r, .ref (eK E i0)] G (fun G1 => Rd G1 r y n (sNd y n ws s) ∧ FrR G G1 r) := by
  obtain ⟨r0, r1, hn, hs, hy, hsk⟩ := id hR
  have htk := tokE_le (y := y) hs
  have hql : q.2.2.2.length = ws.length := by rw [hq, List.length_map]
  refine Ct.intro rfl (by decide) [.ref r, .ref (eK E i0)] (by simp [Value.category]) (Nat.le_of_ble_eq_true rfl) rfl ?_
  refine w_aload_n dX5_needs_0 rfl ?_
  refine w_aload_n dX5_needs_1 rfl ?_
  refine wV1i dX5_needs_2 lk_X5_57 rfl (by first | assumption | exact gs_at | (rw [gs_ne (by omega)]; (first | assumption | exact gs_at | (rw [gs_ne (by omega)]; (first | assumption | exact gs_at | (rw [gs_ne (by omega)]; (first | assumption | exact gs_at | (rw [gs_ne (by omega)]; (first | assumption | exact gs_at))))))))) rfl rfl (c_takes hi hq hw hl hR) (Nat.le_of_ble_eq_true rfl) (Nat.le_of_ble_eq_true rfl) (Nat.le_of_ble_eq_true rfl) (Nat.le_of_ble_eq_true rfl) (fun r_2 G1 h_2 => ?_)
  obtain ⟨rfl, hR1, hF1⟩ := h_2
  obtain ⟨q0, q1, -⟩ := id hR1
  refine w_ifN_ne (tgt := 12) dX5_needs_5 (by decide) (fun c_5 => ?_) (fun c_5 => ?_)
  · try simp only [nI_b2, ne_eq, Decidable.not_not] at c_5
    refine w_vret dX5_needs_12 rfl (Nat.le_of_ble_eq_true rfl) (Nat.le_of_ble_eq_true rfl) ?_
    first
      | exact ⟨rfl, by rw [sNd, if_pos c_5]; rw [sTk, if_pos c_5] at hR1; exact hR1, hF1⟩
      | exact ⟨rfl, by rw [sNd, if_neg c_5]; rw [sTk, if_neg c_5] at h_9; exact h_9.1, hF1.tr h_9.2⟩
  · try simp only [nI_b2, ne_eq, Decidable.not_not] at c_5
    refine w_aload_n dX5_needs_8 rfl ?_
    refine wV0d dX5_needs_9 lk_X5_60 rfl (by first | assumption | exact gs_at | (rw [gs_ne (by omega)]; (first | assumption | exact gs_at | (rw [gs_ne (by omega)]; (first | assumption | exact gs_at | (rw [gs_ne (by omega)]; (first | assumption | exact gs_at | (rw [gs_ne (by omega)]; (first | assumption | exact gs_at))))))))) rfl rfl (c_refuse hR1) (Nat.le_of_ble_eq_true rfl) (Nat.le_of_ble_eq_true rfl) (Nat.le_of_ble_eq_true rfl) (Nat.le_of_ble_eq_true rfl) (fun G2 h_9 => ?_)
    refine w_vret dX5_needs_12 rfl (Nat.le_of_ble_eq_true rfl) (Nat.le_of_ble_eq_true rfl) ?_
    first
      | exact ⟨rfl, by rw [sNd, if_pos c_5]; rw [sTk, if_pos c_5] at hR1; exact hR1, hF1⟩
      | exact ⟨rfl, by rw [sNd, if_neg c_5]; rw [sTk, if_neg c_5] at h_9; exact h_9.1, hF1.tr h_9.2⟩
theorem lp_nBad {E : EV} {Q : OC → AH → Prop} {r n : Nat} {y : Nat → Nat} {s : RS} {G : AH} {lo hi1 : Nat} {hv : Int32} (hh : hv = nI hi1 - nI 1) (hlo : lo < 2 ^ 20) (hhi : hi1 < 2 ^ 20) (hR : Rd G r y n s) (hQ : ∀ G1, Rd G1 r y n (sNum y n lo hi1 s) → FrR G G1 r → Q (.inl (some (.int (vNum y n lo hi1 s)))) G1) {L : List Value} {v1 v2 v3 v4 v5 : Value} (hno : numF y n s.1 lo hi1 = none) : Wp E 3 0 0 kX5_number Q G (0, 0) 103 [.ref r, v1, v2, v3, v4, v5] [] := by
  obtain ⟨r0, r1, hn, hs, hy, hsk⟩ := id hR
  have htk := tokE_le (y := y) hs
  have e1 : sNum y n lo hi1 s = sRf s := by rw [sNum, hno]; rfl
  have e2 : vNum y n lo hi1 s = -1 := by rw [vNum, hno]
  rw [e1, e2] at hQ
  refine w_aload_n dX5_number_103 rfl ?_
  refine wV0d dX5_number_104 lk_X5_60 rfl (by first | assumption | exact gs_at | (rw [gs_ne (by omega)]; (first | assumption | exact gs_at | (rw [gs_ne (by omega)]; (first | assumption | exact gs_at | (rw [gs_ne (by omega)]; (first | assumption | exact gs_at | (rw [gs_ne (by omega)]; (first | assumption | exact gs_at))))))))) rfl rfl (c_refuse hR) (Nat.le_of_ble_eq_true rfl) (Nat.le_of_ble_eq_true rfl) (Nat.le_of_ble_eq_true rfl) (Nat.le_of_ble_eq_true rfl) (fun G1 h_104 => ?_)
  refine w_iconst (v := (-1)) dX5_number_107 (by decide) ?_
  refine w_iret dX5_number_108 rfl (Nat.le_of_ble_eq_true rfl) (Nat.le_of_ble_eq_true rfl) ?_
  exact hQ _ h_104.1 h_104.2
theorem lp_n0 {E : EV} {Q : OC → AH → Prop} {r n : Nat} {y : Nat → Nat} {s : RS} {G : AH} {lo hi1 : Nat} {hv : Int32} (hh : hv = nI hi1 - nI 1) (hlo : lo < 2 ^ 20) (hhi : hi1 < 2 ^ 20) (hR : Rd G r y n s) (hQ : ∀ G1, Rd G1 r y n (sNum y n lo hi1 s) → FrR G G1 r → Q (.inl (some (.int (vNum y n lo hi1 s)))) G1) {v p : Int32} (hno : numF y n s.1 lo hi1 = none) : Wp E 3 0 0 kX5_number Q G (0, 0) 35 [.ref r, .int (nI lo), .int hv, .int (nI 0), .int (v), .int (p)] [] := by
  refine w_iload_n dX5_number_35 rfl ?_
  refine w_ifN_eq (tgt := 87) dX5_number_36 (by decide) (fun c_36 => ?_) (fun c9 => absurd (rfl) c9)
  refine w_iload_n dX5_number_87 rfl ?_
  refine w_ifN_eq (tgt := 103) dX5_number_88 (by decide) (fun c_88 => ?_) (fun c9 => absurd (rfl) c9)
  exact lp_nBad hh hlo hhi hR hQ (L := []) hno
theorem lp_n1 {E : EV} {Q : OC → AH → Prop} {r n : Nat} {y : Nat → Nat} {s : RS} {G : AH} {lo hi1 : Nat} {hv : Int32} (hh : hv = nI hi1 - nI 1) (hlo : lo < 2 ^ 20) (hhi : hi1 < 2 ^ 20) (hR : Rd G r y n s) (hQ : ∀ G1, Rd G1 r y n (sNum y n lo hi1 s) → FrR G G1 r → Q (.inl (some (.int (vNum y n lo hi1 s)))) G1) (hd : isD y n s.1 = true) (h3 : tokE y n s.1 - s.1 ≤ 3) : ∀ (k i : Nat), 3 - i < k → s.1 + i ≤ tokE y n s.1 → Wp E 3 0 0 kX5_number Q G (0, 0) 35 [.ref r, .int (nI lo), .int hv, .int (nI 1), .int (nI (digV y s.1 i)), .int (nI (s.1 + i))] [] := by
  obtain ⟨r0, r1, hn, hs, hy, hsk⟩ := id hR
  have htk := tokE_le (y := y) hs
  intro k
  induction k with
  | zero => intro i h; exact absurd h (by omega)
  | succ k ih =>
    intro i hk hil
    have hyi := hy (s.1 + i)
    have hdg := tok_dig hd (s.1 + i) (by omega)
    have hdv : digV y s.1 i < 1000 := by
      have h8 := digV_le (y := y) (p := s.1) i (fun j a b => tok_dig hd j a (by omega))
      have h9 : 10 ^ i ≤ 10 ^ 3 := Nat.pow_le_pow_right (by decide) (by omega)
      omega
    have htg := tok_gt hd
    have hlv : nI (digV y s.1 i) ≤ nI hi1 - nI 1 ↔ digV y s.1 i < hi1 := hiL (by omega) (by omega)
    refine w_iload_n dX5_number_35 rfl ?_
    refine w_ifN_eq (tgt := 87) dX5_number_36 (by decide) (fun c9 => absurd c9 (by decide)) (fun c_36 => ?_)
    refine w_iload dX5_number_39 rfl ?_
    refine w_ifN_lt (tgt := 87) dX5_number_41 (by decide) (fun c_41 => ?_) (fun c_41 => ?_)
    · try simp (disch := omega) only [nI_b2, nI_ltI, nI_leI, nI_eq, ge_iff_le, gt_iff_lt, Nat.not_lt, Nat.not_le, ne_eq, Decidable.not_not] at c_41
      exact absurd c_41 (by omega)
    · try simp (disch := omega) only [nI_b2, nI_ltI, nI_leI, nI_eq, ge_iff_le, gt_iff_lt, Nat.not_lt, Nat.not_le, ne_eq, Decidable.not_not] at c_41
      refine w_iload dX5_number_44 rfl ?_
      refine w_aload_n dX5_number_46 rfl ?_
      refine w_getf dX5_number_47 fl_X5_22 (by first | assumption | exact gs_at | (rw [gs_ne (by omega)]; (first | assumption | exact gs_at | (rw [gs_ne (by omega)]; (first | assumption | exact gs_at | (rw [gs_ne (by omega)]; (first | assumption | exact gs_at | (rw [gs_ne (by omega)]; (first | assumption | exact gs_at))))))))) rfl ?_
      refine w_icmp_ge (tgt := 87) dX5_number_50 (by decide) (fun c_50 => ?_) (fun c_50 => ?_)
      · try simp (disch := omega) only [nI_b2, nI_ltI, nI_leI, nI_eq, ge_iff_le, gt_iff_lt, Nat.not_lt, Nat.not_le, ne_eq, Decidable.not_not] at c_50
        refine w_iload_n dX5_number_87 rfl ?_
        refine w_ifN_eq (tgt := 103) dX5_number_88 (by decide) (fun c9 => absurd c9 (by decide)) (fun c_88 => ?_)
        refine w_iload dX5_number_91 rfl ?_
        refine w_iload_n dX5_number_93 rfl ?_
        refine w_icmp_lt (tgt := 103) dX5_number_94 (by decide) (fun c_94 => ?_) (fun c_94 => ?_)
        · try simp (disch := omega) only [nI_b2, nI_ltI, nI_leI, nI_eq, ge_iff_le, gt_iff_lt, Nat.not_lt, Nat.not_le, ne_eq, Decidable.not_not] at c_94
          have hei : i = tokE y n s.1 - s.1 := by omega
          refine lp_nBad hh hlo hhi hR hQ (L := []) (if_neg (fun h8 => ?_))
          rw [← hei] at h8
          first
            | omega
            | exact c_100 (by rw [hh]; exact hlv.mpr h8.2.2.2)
            | exact absurd (by rw [hh]; exact hlv.mpr h8.2.2.2) c_100
        · try simp (disch := omega) only [nI_b2, nI_ltI, nI_leI, nI_eq, ge_iff_le, gt_iff_lt, Nat.not_lt, Nat.not_le, ne_eq, Decidable.not_not] at c_94
          refine w_iload dX5_number_97 rfl ?_
          refine w_iload_n dX5_number_99 rfl ?_
          refine w_icmp_le (tgt := 109) dX5_number_100 (by decide) (fun c_100 => ?_) (fun c_100 => ?_)
          · try simp (disch := omega) only [nI_b2, nI_ltI, nI_leI, nI_eq, ge_iff_le, gt_iff_lt, Nat.not_lt, Nat.not_le, ne_eq, Decidable.not_not] at c_100
            refine w_aload_n dX5_number_109 rfl ?_
            refine wV0d dX5_number_110 lk_X5_38 rfl (by first | assumption | exact gs_at | (rw [gs_ne (by omega)]; (first | assumption | exact gs_at | (rw [gs_ne (by omega)]; (first | assumption | exact gs_at | (rw [gs_ne (by omega)]; (first | assumption | exact gs_at | (rw [gs_ne (by omega)]; (first | assumption | exact gs_at))))))))) rfl rfl (c_step (y := y) (n := n) (w := s.2) (e0 := tokE y n s.1) (bb := 0) r0 r1 hn hy htk.2) (Nat.le_of_ble_eq_true rfl) (Nat.le_of_ble_eq_true rfl) (Nat.le_of_ble_eq_true rfl) (Nat.le_of_ble_eq_true rfl) (fun G1 h_110 => ?_)
            refine w_iload dX5_number_113 rfl ?_
            refine w_iret dX5_number_115 rfl (Nat.le_of_ble_eq_true rfl) (Nat.le_of_ble_eq_true rfl) ?_
            have hei : i = tokE y n s.1 - s.1 := by omega
            have hnf : numF y n s.1 lo hi1 = some (digV y s.1 i) := by
              rw [numF, ← hei]
              refine if_pos ⟨hd, by omega, by omega, hlv.mp ?_⟩
              rw [← hh]
              first | exact c_100 | exact Int32.not_lt.mp c_100
            have e1 : sNum y n lo hi1 s = (nxt y n s.1, s.2) := by rw [sNum, hnf]; rfl
            have e2 : vNum y n lo hi1 s = nI (digV y s.1 i) := by rw [vNum, hnf]
            rw [e1, e2] at hQ
            exact hQ _ h_110.1 h_110.2
          · try simp (disch := omega) only [nI_b2, nI_ltI, nI_leI, nI_eq, ge_iff_le, gt_iff_lt, Nat.not_lt, Nat.not_le, ne_eq, Decidable.not_not] at c_100
            have hei : i = tokE y n s.1 - s.1 := by omega
            refine lp_nBad hh hlo hhi hR hQ (L := []) (if_neg (fun h8 => ?_))
            rw [← hei] at h8
            first
              | omega
              | exact c_100 (by rw [hh]; exact hlv.mpr h8.2.2.2)
              | exact absurd (by rw [hh]; exact hlv.mpr h8.2.2.2) c_100
      · try simp (disch := omega) only [nI_b2, nI_ltI, nI_leI, nI_eq, ge_iff_le, gt_iff_lt, Nat.not_lt, Nat.not_le, ne_eq, Decidable.not_not] at c_50
        refine w_iload dX5_number_53 rfl ?_
        refine w_aload_n dX5_number_55 rfl ?_
        refine w_getf dX5_number_56 fl_X5_9 (by first | assumption | exact gs_at | (rw [gs_ne (by omega)]; (first | assumption | exact gs_at | (rw [gs_ne (by omega)]; (first | assumption | exact gs_at | (rw [gs_ne (by omega)]; (first | assumption | exact gs_at | (rw [gs_ne (by omega)]; (first | assumption | exact gs_at))))))))) rfl ?_
        refine w_alenI dX5_number_59 (by first | assumption | exact gs_at | (rw [gs_ne (by omega)]; (first | assumption | exact gs_at | (rw [gs_ne (by omega)]; (first | assumption | exact gs_at | (rw [gs_ne (by omega)]; (first | assumption | exact gs_at | (rw [gs_ne (by omega)]; (first | assumption | exact gs_at))))))))) ?_
        refine w_icmp_ge (tgt := 87) dX5_number_60 (by decide) (fun c_60 => ?_) (fun c_60 => ?_)
        · try simp (disch := omega) only [nI_b2, nI_ltI, nI_leI, nI_eq, ge_iff_le, gt_iff_lt, Nat.not_lt, Nat.not_le, ne_eq, Decidable.not_not] at c_60
          exact absurd c_60 (by omega)
        · try simp (disch := omega) only [nI_b2, nI_ltI, nI_leI, nI_eq, ge_iff_le, gt_iff_lt, Nat.not_lt, Nat.not_le, ne_eq, Decidable.not_not] at c_60
          refine w_iload dX5_number_63 rfl ?_
          refine w_bipush (v := nI 10) dX5_number_65 (by decide) ?_
          first | refine w_imulN dX5_number_67 ?_ | refine w_imul dX5_number_67 ?_
          refine w_aload_n dX5_number_68 rfl ?_
          refine w_getf dX5_number_69 fl_X5_9 (by first | assumption | exact gs_at | (rw [gs_ne (by omega)]; (first | assumption | exact gs_at | (rw [gs_ne (by omega)]; (first | assumption | exact gs_at | (rw [gs_ne (by omega)]; (first | assumption | exact gs_at | (rw [gs_ne (by omega)]; (first | assumption | exact gs_at))))))))) rfl ?_
          refine w_iload dX5_number_72 rfl ?_
          refine w_iaload dX5_number_74 (by first | assumption | exact gs_at | (rw [gs_ne (by omega)]; (first | assumption | exact gs_at | (rw [gs_ne (by omega)]; (first | assumption | exact gs_at | (rw [gs_ne (by omega)]; (first | assumption | exact gs_at | (rw [gs_ne (by omega)]; (first | assumption | exact gs_at))))))))) (vp_in_nI (by omega) (by decide)) ?_
          rw [nI_clamp (show s.1 + i < 2 ^ 31 by omega)]
          first | refine w_iaddN dX5_number_75 ?_ | refine w_iadd dX5_number_75 ?_
          refine w_bipush (v := nI 48) dX5_number_76 (by decide) ?_
          refine w_isubN (by omega) dX5_number_78 ?_
          refine w_istore_4 dX5_number_79 rfl ?_
          first | refine w_iinc_5 dX5_number_81 (nI_inc _) rfl ?_ | refine w_iinc_5 dX5_number_81 rfl rfl ?_
          refine w_goto (tgt := 35) dX5_number_84 (by decide) ?_
          have h9 := ih (i + 1) (by omega) (by omega)
          rw [show digV y s.1 (i + 1) = digV y s.1 i * 10 + y (s.1 + i) - 48 from by rw [digV]; omega] at h9
          exact h9
theorem c_number {E : EV} {r n : Nat} {y : Nat → Nat} {s : RS} {G : AH} {lo hi1 : Nat} {hv : Int32} (hR : Rd G r y n s) (hh : hv = nI hi1 - nI 1) (hlo : lo < 2 ^ 20) (hhi : hi1 < 2 ^ 20) : Ci E 3 kX5_number [.ref r, .int (nI lo), .int hv] G (fun v G1 => v = vNum y n lo hi1 s ∧ Rd G1 r y n (sNum y n lo hi1 s) ∧ FrR G G1 r) := by
  obtain ⟨r0, r1, hn, hs, hy, hsk⟩ := id hR
  have htk := tokE_le (y := y) hs
  refine Ct.intro rfl (by decide) [.ref r, .int (nI lo), .int hv, .float 0, .float 0, .float 0] (by simp [Value.category]) (Nat.le_of_ble_eq_true rfl) rfl ?_
  refine w_aload_n dX5_number_0 rfl ?_
  refine wV0u dX5_number_1 lk_X5_63 rfl (by first | assumption | exact gs_at | (rw [gs_ne (by omega)]; (first | assumption | exact gs_at | (rw [gs_ne (by omega)]; (first | assumption | exact gs_at | (rw [gs_ne (by omega)]; (first | assumption | exact gs_at | (rw [gs_ne (by omega)]; (first | assumption | exact gs_at))))))))) rfl rfl (c_isNumber hR) (Nat.le_of_ble_eq_true rfl) (Nat.le_of_ble_eq_true rfl) (Nat.le_of_ble_eq_true rfl) (Nat.le_of_ble_eq_true rfl) ?_
  refine w_ifN_eq (tgt := 24) dX5_number_4 (by decide) (fun c_4 => ?_) (fun c_4 => ?_)
  · try simp (disch := omega) only [nI_b2, nI_ltI, nI_leI, nI_eq, ge_iff_le, gt_iff_lt, Nat.not_lt, Nat.not_le, ne_eq, Decidable.not_not] at c_4
    refine w_iconst (v := nI 0) dX5_number_24 (by decide) ?_
    refine w_istore_3 dX5_number_25 rfl ?_
    refine w_iconst (v := nI 0) dX5_number_26 (by decide) ?_
    refine w_istore_4 dX5_number_27 rfl ?_
    refine w_aload_n dX5_number_29 rfl ?_
    refine w_getf dX5_number_30 fl_X5_19 (by first | assumption | exact gs_at | (rw [gs_ne (by omega)]; (first | assumption | exact gs_at | (rw [gs_ne (by omega)]; (first | assumption | exact gs_at | (rw [gs_ne (by omega)]; (first | assumption | exact gs_at | (rw [gs_ne (by omega)]; (first | assumption | exact gs_at))))))))) rfl ?_
    refine w_istore_5 dX5_number_33 rfl ?_
    first
      | exact lp_n1 hh hlo hhi hR (fun G1 a b => ⟨_, rfl, rfl, a, b⟩) c_4 (by omega) 4 0 (by omega) (by omega)
      | exact lp_n0 hh hlo hhi hR (fun G1 a b => ⟨_, rfl, rfl, a, b⟩) (if_neg (fun h => by have h1 := h.1; have h2 := h.2.1; first | exact c_4 h1 | omega))
  · try simp (disch := omega) only [nI_b2, nI_ltI, nI_leI, nI_eq, ge_iff_le, gt_iff_lt, Nat.not_lt, Nat.not_le, ne_eq, Decidable.not_not] at c_4
    refine w_aload_n dX5_number_7 rfl ?_
    refine w_getf dX5_number_8 fl_X5_22 (by first | assumption | exact gs_at | (rw [gs_ne (by omega)]; (first | assumption | exact gs_at | (rw [gs_ne (by omega)]; (first | assumption | exact gs_at | (rw [gs_ne (by omega)]; (first | assumption | exact gs_at | (rw [gs_ne (by omega)]; (first | assumption | exact gs_at))))))))) rfl ?_
    refine w_aload_n dX5_number_11 rfl ?_
    refine w_getf dX5_number_12 fl_X5_19 (by first | assumption | exact gs_at | (rw [gs_ne (by omega)]; (first | assumption | exact gs_at | (rw [gs_ne (by omega)]; (first | assumption | exact gs_at | (rw [gs_ne (by omega)]; (first | assumption | exact gs_at | (rw [gs_ne (by omega)]; (first | assumption | exact gs_at))))))))) rfl ?_
    refine w_isubN htk.1 dX5_number_15 ?_
    refine w_iconst (v := nI 3) dX5_number_16 (by decide) ?_
    refine w_icmp_gt (tgt := 24) dX5_number_17 (by decide) (fun c_17 => ?_) (fun c_17 => ?_)
    · try simp (disch := omega) only [nI_b2, nI_ltI, nI_leI, nI_eq, ge_iff_le, gt_iff_lt, Nat.not_lt, Nat.not_le, ne_eq, Decidable.not_not] at c_17
      refine w_iconst (v := nI 0) dX5_number_24 (by decide) ?_
      refine w_istore_3 dX5_number_25 rfl ?_
      refine w_iconst (v := nI 0) dX5_number_26 (by decide) ?_
      refine w_istore_4 dX5_number_27 rfl ?_
      refine w_aload_n dX5_number_29 rfl ?_
      refine w_getf dX5_number_30 fl_X5_19 (by first | assumption | exact gs_at | (rw [gs_ne (by omega)]; (first | assumption | exact gs_at | (rw [gs_ne (by omega)]; (first | assumption | exact gs_at | (rw [gs_ne (by omega)]; (first | assumption | exact gs_at | (rw [gs_ne (by omega)]; (first | assumption | exact gs_at))))))))) rfl ?_
      refine w_istore_5 dX5_number_33 rfl ?_
      first
        | exact lp_n1 hh hlo hhi hR (fun G1 a b => ⟨_, rfl, rfl, a, b⟩) c_4 (by omega) 4 0 (by omega) (by omega)
        | exact lp_n0 hh hlo hhi hR (fun G1 a b => ⟨_, rfl, rfl, a, b⟩) (if_neg (fun h => by have h1 := h.1; have h2 := h.2.1; first | exact c_4 h1 | omega))
    · try simp (disch := omega) only [nI_b2, nI_ltI, nI_leI, nI_eq, ge_iff_le, gt_iff_lt, Nat.not_lt, Nat.not_le, ne_eq, Decidable.not_not] at c_17
      refine w_iconst (v := nI 1) dX5_number_20 (by decide) ?_
      refine w_goto (tgt := 25) dX5_number_21 (by decide) ?_
      refine w_istore_3 dX5_number_25 rfl ?_
      refine w_iconst (v := nI 0) dX5_number_26 (by decide) ?_
      refine w_istore_4 dX5_number_27 rfl ?_
      refine w_aload_n dX5_number_29 rfl ?_
      refine w_getf dX5_number_30 fl_X5_19 (by first | assumption | exact gs_at | (rw [gs_ne (by omega)]; (first | assumption | exact gs_at | (rw [gs_ne (by omega)]; (first | assumption | exact gs_at | (rw [gs_ne (by omega)]; (first | assumption | exact gs_at | (rw [gs_ne (by omega)]; (first | assumption | exact gs_at))))))))) rfl ?_
      refine w_istore_5 dX5_number_33 rfl ?_
      first
        | exact lp_n1 hh hlo hhi hR (fun G1 a b => ⟨_, rfl, rfl, a, b⟩) c_4 (by omega) 4 0 (by omega) (by omega)
        | exact lp_n0 hh hlo hhi hR (fun G1 a b => ⟨_, rfl, rfl, a, b⟩) (if_neg (fun h => by have h1 := h.1; have h2 := h.2.1; first | exact c_4 h1 | omega))
