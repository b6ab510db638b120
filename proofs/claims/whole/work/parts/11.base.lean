theorem dJ9_min_0 : decode kJ9_min.2.1 0 = .ok (.iload_n 0, 1) := by decide +kernel
theorem dJ9_min_1 : decode kJ9_min.2.1 1 = .ok (.iload_n 1, 1) := by decide +kernel
theorem dJ9_min_2 : decode kJ9_min.2.1 2 = .ok (.if_icmp .gt 7, 3) := by decide +kernel
theorem dJ9_min_5 : decode kJ9_min.2.1 5 = .ok (.iload_n 0, 1) := by decide +kernel
theorem dJ9_min_6 : decode kJ9_min.2.1 6 = .ok (.goto 4, 3) := by decide +kernel
theorem dJ9_min_9 : decode kJ9_min.2.1 9 = .ok (.iload_n 1, 1) := by decide +kernel
theorem dJ9_min_10 : decode kJ9_min.2.1 10 = .ok (.ireturn, 1) := by decide +kernel
theorem dJ9_max_0 : decode kJ9_max.2.1 0 = .ok (.iload_n 0, 1) := by decide +kernel
theorem dJ9_max_1 : decode kJ9_max.2.1 1 = .ok (.iload_n 1, 1) := by decide +kernel
theorem dJ9_max_2 : decode kJ9_max.2.1 2 = .ok (.if_icmp .lt 7, 3) := by decide +kernel
theorem dJ9_max_5 : decode kJ9_max.2.1 5 = .ok (.iload_n 0, 1) := by decide +kernel
theorem dJ9_max_6 : decode kJ9_max.2.1 6 = .ok (.goto 4, 3) := by decide +kernel
theorem dJ9_max_9 : decode kJ9_max.2.1 9 = .ok (.iload_n 1, 1) := by decide +kernel
theorem dJ9_max_10 : decode kJ9_max.2.1 10 = .ok (.ireturn, 1) := by decide +kernel
theorem dJ9_abs_0 : decode kJ9_abs.2.1 0 = .ok (.iload_n 0, 1) := by decide +kernel
theorem dJ9_abs_1 : decode kJ9_abs.2.1 1 = .ok (.ifCond .ge 8, 3) := by decide +kernel
theorem dJ9_abs_4 : decode kJ9_abs.2.1 4 = .ok (.iload_n 0, 1) := by decide +kernel
theorem dJ9_abs_5 : decode kJ9_abs.2.1 5 = .ok (.ineg, 1) := by decide +kernel
theorem dJ9_abs_6 : decode kJ9_abs.2.1 6 = .ok (.goto 4, 3) := by decide +kernel
theorem dJ9_abs_9 : decode kJ9_abs.2.1 9 = .ok (.iload_n 0, 1) := by decide +kernel
theorem dJ9_abs_10 : decode kJ9_abs.2.1 10 = .ok (.ireturn, 1) := by decide +kernel
theorem c_min {E : EV} {a b : Nat} {G : AH} (ha : a < 2 ^ 31) (hb : b < 2 ^ 31) : Cu E 1 kJ9_min [.int (nI a), .int (nI b)] G (.int (nI (min a b))) G := by
  refine Ct.introF rfl (Jvm.Free.JP.mathPlain rfl (by decide +kernel)) [.int (nI a), .int (nI b)] (by simp [Value.category]) (Nat.le_of_ble_eq_true rfl) rfl ?_
  refine w_iload_n dJ9_min_0 rfl ?_
  refine w_iload_n dJ9_min_1 rfl ?_
  refine w_icmp_gt (tgt := 9) dJ9_min_2 (by decide) (fun c_2 => ?_) (fun c_2 => ?_)
  · try simp (disch := omega) only [nI_ltI, nI_leI, nI_eq, ge_iff_le, gt_iff_lt, ne_eq, Nat.not_lt, Nat.not_le] at c_2
    refine w_iload_n dJ9_min_9 rfl ?_
    refine w_iret dJ9_min_10 rfl (Nat.le_of_ble_eq_true rfl) (Nat.le_of_ble_eq_true rfl) ?_
    exact ⟨by first | (rw [Nat.min_eq_left (by omega)]; done) | rw [Nat.min_eq_right (by omega)], rfl⟩
  · try simp (disch := omega) only [nI_ltI, nI_leI, nI_eq, ge_iff_le, gt_iff_lt, ne_eq, Nat.not_lt, Nat.not_le] at c_2
    refine w_iload_n dJ9_min_5 rfl ?_
    refine w_goto (tgt := 10) dJ9_min_6 (by decide) ?_
    refine w_iret dJ9_min_10 rfl (Nat.le_of_ble_eq_true rfl) (Nat.le_of_ble_eq_true rfl) ?_
    exact ⟨by first | (rw [Nat.min_eq_left (by omega)]; done) | rw [Nat.min_eq_right (by omega)], rfl⟩
theorem c_max {E : EV} {a b : Nat} {G : AH} (ha : a < 2 ^ 31) (hb : b < 2 ^ 31) : Cu E 1 kJ9_max [.int (nI a), .int (nI b)] G (.int (nI (max a b))) G := by
  refine Ct.introF rfl (Jvm.Free.JP.mathPlain rfl (by decide +kernel)) [.int (nI a), .int (nI b)] (by simp [Value.category]) (Nat.le_of_ble_eq_true rfl) rfl ?_
  refine w_iload_n dJ9_max_0 rfl ?_
  refine w_iload_n dJ9_max_1 rfl ?_
  refine w_icmp_lt (tgt := 9) dJ9_max_2 (by decide) (fun c_2 => ?_) (fun c_2 => ?_)
  · try simp (disch := omega) only [nI_ltI, nI_leI, nI_eq, ge_iff_le, gt_iff_lt, ne_eq, Nat.not_lt, Nat.not_le] at c_2
    refine w_iload_n dJ9_max_9 rfl ?_
    refine w_iret dJ9_max_10 rfl (Nat.le_of_ble_eq_true rfl) (Nat.le_of_ble_eq_true rfl) ?_
    exact ⟨by first | (rw [Nat.max_eq_left (by omega)]; done) | rw [Nat.max_eq_right (by omega)], rfl⟩
  · try simp (disch := omega) only [nI_ltI, nI_leI, nI_eq, ge_iff_le, gt_iff_lt, ne_eq, Nat.not_lt, Nat.not_le] at c_2
    refine w_iload_n dJ9_max_5 rfl ?_
    refine w_goto (tgt := 10) dJ9_max_6 (by decide) ?_
    refine w_iret dJ9_max_10 rfl (Nat.le_of_ble_eq_true rfl) (Nat.le_of_ble_eq_true rfl) ?_
    exact ⟨by first | (rw [Nat.max_eq_left (by omega)]; done) | rw [Nat.max_eq_right (by omega)], rfl⟩
def mx0 (x : Int32) : Int32 := if nI 0 < x then x else nI 0
theorem c_max0 {E : EV} {x : Int32} {G : AH}  : Cu E 1 kJ9_max [.int (nI 0), .int x] G (.int (if nI 0 < x then x else nI 0)) G := by
  refine Ct.introF rfl (Jvm.Free.JP.mathPlain rfl (by decide +kernel)) [.int (nI 0), .int x] (by simp [Value.category]) (Nat.le_of_ble_eq_true rfl) rfl ?_
  refine w_iload_n dJ9_max_0 rfl ?_
  refine w_iload_n dJ9_max_1 rfl ?_
  refine w_icmp_lt (tgt := 9) dJ9_max_2 (by decide) (fun c_2 => ?_) (fun c_2 => ?_)
  · skip
    refine w_iload_n dJ9_max_9 rfl ?_
    refine w_iret dJ9_max_10 rfl (Nat.le_of_ble_eq_true rfl) (Nat.le_of_ble_eq_true rfl) ?_
    exact ⟨by simp [c_2], rfl⟩
  · skip
    refine w_iload_n dJ9_max_5 rfl ?_
    refine w_goto (tgt := 10) dJ9_max_6 (by decide) ?_
    refine w_iret dJ9_max_10 rfl (Nat.le_of_ble_eq_true rfl) (Nat.le_of_ble_eq_true rfl) ?_
    exact ⟨by simp [c_2], rfl⟩
theorem c_abs {E : EV} {x : Int32} {G : AH}  : Cu E 1 kJ9_abs [.int x] G (.int (if nI 0 ≤ x then x else -x)) G := by
  refine Ct.introF rfl (Jvm.Free.JP.mathPlain rfl (by decide +kernel)) [.int x] (by simp [Value.category]) (Nat.le_of_ble_eq_true rfl) rfl ?_
  refine w_iload_n dJ9_abs_0 rfl ?_
  refine w_ifN_ge (tgt := 9) dJ9_abs_1 (by decide) (fun c_1 => ?_) (fun c_1 => ?_)
  · skip
    refine w_iload_n dJ9_abs_9 rfl ?_
    refine w_iret dJ9_abs_10 rfl (Nat.le_of_ble_eq_true rfl) (Nat.le_of_ble_eq_true rfl) ?_
    exact ⟨by simp [c_1], rfl⟩
  · skip
    refine w_iload_n dJ9_abs_4 rfl ?_
    refine w_ineg dJ9_abs_5 ?_
    refine w_goto (tgt := 10) dJ9_abs_6 (by decide) ?_
    refine w_iret dJ9_abs_10 rfl (Nat.le_of_ble_eq_true rfl) (Nat.le_of_ble_eq_true rfl) ?_
    exact ⟨by simp [c_1], rfl⟩
theorem c_minI {E : EV} {x y : Int32} {G : AH}  : Cu E 1 kJ9_min [.int x, .int y] G (.int (if y < x then y else x)) G := by
  refine Ct.introF rfl (Jvm.Free.JP.mathPlain rfl (by decide +kernel)) [.int x, .int y] (by simp [Value.category]) (Nat.le_of_ble_eq_true rfl) rfl ?_
  refine w_iload_n dJ9_min_0 rfl ?_
  refine w_iload_n dJ9_min_1 rfl ?_
  refine w_icmp_gt (tgt := 9) dJ9_min_2 (by decide) (fun c_2 => ?_) (fun c_2 => ?_)
  · skip
    refine w_iload_n dJ9_min_9 rfl ?_
    refine w_iret dJ9_min_10 rfl (Nat.le_of_ble_eq_true rfl) (Nat.le_of_ble_eq_true rfl) ?_
    exact ⟨by first | (rw [if_pos c_2]; done) | rw [if_neg c_2], rfl⟩
  · skip
    refine w_iload_n dJ9_min_5 rfl ?_
    refine w_goto (tgt := 10) dJ9_min_6 (by decide) ?_
    refine w_iret dJ9_min_10 rfl (Nat.le_of_ble_eq_true rfl) (Nat.le_of_ble_eq_true rfl) ?_
    exact ⟨by first | (rw [if_pos c_2]; done) | rw [if_neg c_2], rfl⟩
def atV (n : Nat) (f : Nat → Int32) (i : Int32) : Int32 := if i < nI 0 then nI 0 else if nI n ≤ i then nI 0 else f i.toNatClampNeg
theorem c_at {E : EV} {a n : Nat} {f : Nat → Int32} {i : Int32} {G : AH} (hG : G.1 a = some (aI n f)) (hn : n < 2 ^ 31) : Cu E 1 kX7_at [.ref a, .int i] G (.int (atV n f i)) G := by
  refine Ct.intro rfl (by decide) [.ref a, .int i] (by simp [Value.category]) (Nat.le_of_ble_eq_true rfl) rfl ?_
  refine w_aload_n dX7_at_0 rfl ?_
  refine w_ifnull dX7_at_1 ?_
  refine w_iload_n dX7_at_4 rfl ?_
  refine w_ifN_lt (tgt := 20) dX7_at_5 (by decide) (fun c_5 => ?_) (fun c_5 => ?_)
  · skip
    refine w_iconst (v := nI 0) dX7_at_20 (by decide) ?_
    refine w_iret dX7_at_21 rfl (Nat.le_of_ble_eq_true rfl) (Nat.le_of_ble_eq_true rfl) ?_
    refine ⟨?_, rfl⟩
    first | simp only [atV, c_5, c_11, if_true, if_false] | simp only [atV, c_5, if_true, if_false]
  · skip
    refine w_iload_n dX7_at_8 rfl ?_
    refine w_aload_n dX7_at_9 rfl ?_
    refine w_alenI dX7_at_10 (by first | assumption | exact gs_at | (rw [gs_ne (by omega)]; (first | assumption | exact gs_at | (rw [gs_ne (by omega)]; (first | assumption | exact gs_at | (rw [gs_ne (by omega)]; (first | assumption | exact gs_at | (rw [gs_ne (by omega)]; (first | assumption | exact gs_at))))))))) ?_
    refine w_icmp_ge (tgt := 20) dX7_at_11 (by decide) (fun c_11 => ?_) (fun c_11 => ?_)
    · skip
      refine w_iconst (v := nI 0) dX7_at_20 (by decide) ?_
      refine w_iret dX7_at_21 rfl (Nat.le_of_ble_eq_true rfl) (Nat.le_of_ble_eq_true rfl) ?_
      refine ⟨?_, rfl⟩
      first | simp only [atV, c_5, c_11, if_true, if_false] | simp only [atV, c_5, if_true, if_false]
    · skip
      refine w_aload_n dX7_at_14 rfl ?_
      refine w_iload_n dX7_at_15 rfl ?_
      refine w_iaload dX7_at_16 (by first | assumption | exact gs_at | (rw [gs_ne (by omega)]; (first | assumption | exact gs_at | (rw [gs_ne (by omega)]; (first | assumption | exact gs_at | (rw [gs_ne (by omega)]; (first | assumption | exact gs_at | (rw [gs_ne (by omega)]; (first | assumption | exact gs_at))))))))) (by intro h; rcases h with h | h; exact c_5 h; exact c_11 (by rcases pk_ix i hn with h2 | h2 | ⟨j, h2, rfl⟩; exact absurd h2 c_5; exact h2; rw [nI_clamp (by omega)] at h; omega)) ?_
      refine w_goto (tgt := 21) dX7_at_17 (by decide) ?_
      refine w_iret dX7_at_21 rfl (Nat.le_of_ble_eq_true rfl) (Nat.le_of_ble_eq_true rfl) ?_
      refine ⟨?_, rfl⟩
      first | simp only [atV, c_5, c_11, if_true, if_false] | simp only [atV, c_5, if_true, if_false]
theorem atV_in {n k : Nat} {f : Nat → Int32} (hk : k < n) (hn : n < 2 ^ 31) : atV n f (nI k) = f k := by
  unfold atV
  rw [if_neg (nI_nlt (Nat.zero_le _) (by omega)), if_neg (nI_ge hk hn), nI_clamp (by omega)]
theorem atV_neg {n : Nat} {f : Nat → Int32} {i : Int32} (h : i < nI 0) : atV n f i = nI 0 := by rw [atV, if_pos h]
theorem atV_out {n : Nat} {f : Nat → Int32} {i : Int32} (h : nI n ≤ i) : atV n f i = nI 0 := by
  unfold atV
  by_cases h0 : i < nI 0
  · rw [if_pos h0]
  · rw [if_neg h0, if_pos h]
theorem Cu.v {E : EV} {d : Nat} {K : MR} {args : List Value} {G G' : AH} {v w : Value} (h : Cu E d K args G v G') (e : v = w) : Cu E d K args G w G' := e ▸ h
/-- at, in its row, over numbers -/
theorem c_atN {E : EV} {a n k : Nat} {f : Nat → Int32} {G : AH} (hG : G.1 a = some (aI n f)) (hk : k < n) (hn : n < 2 ^ 31) : Cu E 1 kX7_at [.ref a, .int (nI k)] G (.int (f k)) G := (c_at hG hn).v (by rw [atV_in hk hn])
def puV (n : Nat) (f : Nat → Int32) (i x : Int32) : Nat → Int32 := if i < nI 0 then f else if nI n ≤ i then f else upd f i.toNatClampNeg x
theorem c_put {E : EV} {a n : Nat} {f : Nat → Int32} {i x : Int32} {G : AH} (hG : G.1 a = some (aI n f)) (hn : n < 2 ^ 31) : Cn E 1 kX7_put [.ref a, .int i, .int x] G (gs G a (aI n (puV n f i x))) := by
  refine Ct.intro rfl (by decide) [.ref a, .int i, .int x] (by simp [Value.category]) (Nat.le_of_ble_eq_true rfl) rfl ?_
  refine w_aload_n dX7_put_0 rfl ?_
  refine w_ifnull dX7_put_1 ?_
  refine w_iload_n dX7_put_4 rfl ?_
  refine w_ifN_lt (tgt := 18) dX7_put_5 (by decide) (fun c_5 => ?_) (fun c_5 => ?_)
  · skip
    refine w_vret dX7_put_18 rfl (Nat.le_of_ble_eq_true rfl) (Nat.le_of_ble_eq_true rfl) ?_
    refine ⟨rfl, ?_⟩
    first | simp only [puV, c_5, c_11, if_true, if_false] | simp only [puV, c_5, if_true, if_false]
    try exact (gs_id hG).symm
  · skip
    refine w_iload_n dX7_put_8 rfl ?_
    refine w_aload_n dX7_put_9 rfl ?_
    refine w_alenI dX7_put_10 (by first | assumption | exact gs_at | (rw [gs_ne (by omega)]; (first | assumption | exact gs_at | (rw [gs_ne (by omega)]; (first | assumption | exact gs_at | (rw [gs_ne (by omega)]; (first | assumption | exact gs_at | (rw [gs_ne (by omega)]; (first | assumption | exact gs_at))))))))) ?_
    refine w_icmp_ge (tgt := 18) dX7_put_11 (by decide) (fun c_11 => ?_) (fun c_11 => ?_)
    · skip
      refine w_vret dX7_put_18 rfl (Nat.le_of_ble_eq_true rfl) (Nat.le_of_ble_eq_true rfl) ?_
      refine ⟨rfl, ?_⟩
      first | simp only [puV, c_5, c_11, if_true, if_false] | simp only [puV, c_5, if_true, if_false]
      try exact (gs_id hG).symm
    · skip
      refine w_aload_n dX7_put_14 rfl ?_
      refine w_iload_n dX7_put_15 rfl ?_
      refine w_iload_n dX7_put_16 rfl ?_
      refine w_iastore dX7_put_17 (by first | assumption | exact gs_at | (rw [gs_ne (by omega)]; (first | assumption | exact gs_at | (rw [gs_ne (by omega)]; (first | assumption | exact gs_at | (rw [gs_ne (by omega)]; (first | assumption | exact gs_at | (rw [gs_ne (by omega)]; (first | assumption | exact gs_at))))))))) (by intro h; rcases h with h | h; exact c_5 h; exact c_11 (by rcases pk_ix i hn with h2 | h2 | ⟨j, h2, rfl⟩; exact absurd h2 c_5; exact h2; rw [nI_clamp (by omega)] at h; omega)) ?_
      refine w_vret dX7_put_18 rfl (Nat.le_of_ble_eq_true rfl) (Nat.le_of_ble_eq_true rfl) ?_
      refine ⟨rfl, ?_⟩
      first | simp only [puV, c_5, c_11, if_true, if_false] | simp only [puV, c_5, if_true, if_false]
      try exact (gs_id hG).symm
theorem puV_in {n k : Nat} {f : Nat → Int32} {x : Int32} (hk : k < n) (hn : n < 2 ^ 31) : puV n f (nI k) x = upd f k x := by
  unfold puV
  rw [if_neg (nI_nlt (Nat.zero_le _) (by omega)), if_neg (nI_ge hk hn), nI_clamp (by omega)]
theorem puV_neg {n : Nat} {f : Nat → Int32} {i x : Int32} (h : i < nI 0) : puV n f i x = f := by rw [puV, if_pos h]
theorem puV_out {n : Nat} {f : Nat → Int32} {i x : Int32} (h : nI n ≤ i) : puV n f i x = f := by
  unfold puV
  by_cases h0 : i < nI 0
  · rw [if_pos h0]
  · rw [if_neg h0, if_pos h]
theorem Cn.g {E : EV} {d : Nat} {K : MR} {args : List Value} {G G' G2 : AH} (h : Cn E d K args G G') (e : G' = G2) : Cn E d K args G G2 := e ▸ h
/-- put, in its row, over numbers -/
theorem c_putN {E : EV} {a n k : Nat} {f : Nat → Int32} {x : Int32} {G : AH} (hG : G.1 a = some (aI n f)) (hk : k < n) (hn : n < 2 ^ 31) : Cn E 1 kX7_put [.ref a, .int (nI k), .int x] G (gs G a (aI n (upd f k x))) := (c_put hG hn).g (by rw [puV_in hk hn])
theorem cpy_all {f g : Nat → Int32} {n : Nat} : ∀ k, k < n → va_cpy f g (nI 0).toNatClampNeg (nI 0).toNatClampNeg n k = f k := by
  intro k h
  rw [show (nI 0).toNatClampNeg = 0 from nI_clamp (by decide)]
  unfold va_cpy
  rw [if_pos ⟨Nat.zero_le _, by omega⟩]
  congr 1; omega
theorem vp_row {c : ClassId} {n : Nat} {f g : Nat → Int32} (h : ∀ k, k < n → f k = g k) : vp_cell c (n, .inl f) = vp_cell c (n, .inl g) := by
  rw [vp_cell_i, vp_cell_i]
  unfold arrV
  congr 2
  funext j
  show Value.int (f j.val) = Value.int (g j.val)
  rw [h j.val j.isLt]
/-- what a row holds beyond its length is nobody's business -/
theorem Wp.row {E : EV} {d mc ms : Nat} {K : MR} {Q : OC → AH → Prop} {G : AH} {cs : Nat × Nat} {pc : Nat} {L st : List Value} {b n : Nat} {f g : Nat → Int32} (h : ∀ k, k < n → f k = g k) (k : Wp E d mc ms K Q (gs G b (aI n g)) cs pc L st) : Wp E d mc ms K Q (gs G b (aI n f)) cs pc L st := by
  intro p e s m args below meth c H locs ls C Rp S hl
  refine k p e s m args below meth c H locs ls C ⟨Rp.1, fun a x hx => ?_⟩ S hl
  by_cases hab : a = b
  · subst hab
    rw [gs_at] at hx
    cases hx
    have h9 := Rp.2 a _ gs_at
    refine ⟨h9.1, ?_⟩
    have h8 : H[a]? = some (vp_cell (eY E 0) (n, .inl f)) := h9.2
    show H[a]? = some (vp_cell (eY E 0) (n, .inl g))
    rw [← vp_row h]; exact h8
  · exact Rp.2 a x (by rw [gs_ne hab] at hx ⊢; exact hx)
theorem c_copyRow {E : EV} {a b n : Nat} {f g : Nat → Int32} {G : AH} (hA : G.1 a = some (aI n f)) (hB : G.1 b = some (aI n g)) (hn : n < 2 ^ 31) : Cn E 2 kX7_copyRow [.ref a, .ref b] G (gs G b (aI n f)) := by
  refine Ct.intro rfl (by decide) [.ref a, .ref b] (by simp [Value.category]) (Nat.le_of_ble_eq_true rfl) rfl ?_
  refine w_aload_n dX7_copyRow_0 rfl ?_
  refine w_iconst (v := nI 0) dX7_copyRow_1 (by decide) ?_
  refine w_aload_n dX7_copyRow_2 rfl ?_
  refine w_iconst (v := nI 0) dX7_copyRow_3 (by decide) ?_
  refine w_aload_n dX7_copyRow_4 rfl ?_
  refine w_alenI dX7_copyRow_5 (by first | assumption | exact gs_at | (rw [gs_ne (by omega)]; (first | assumption | exact gs_at | (rw [gs_ne (by omega)]; (first | assumption | exact gs_at | (rw [gs_ne (by omega)]; (first | assumption | exact gs_at | (rw [gs_ne (by omega)]; (first | assumption | exact gs_at))))))))) ?_
  refine w_aload_n dX7_copyRow_6 rfl ?_
  refine w_alenI dX7_copyRow_7 (by first | assumption | exact gs_at | (rw [gs_ne (by omega)]; (first | assumption | exact gs_at | (rw [gs_ne (by omega)]; (first | assumption | exact gs_at | (rw [gs_ne (by omega)]; (first | assumption | exact gs_at | (rw [gs_ne (by omega)]; (first | assumption | exact gs_at))))))))) ?_
  refine wJ2u dX7_copyRow_8 lk_X7_332 rfl (c_min hn hn) (Nat.le_of_ble_eq_true rfl) (Nat.le_of_ble_eq_true rfl) (Nat.le_of_ble_eq_true rfl) (Nat.le_of_ble_eq_true rfl) ?_
  refine w_copy (n := nI (min n n)) dX7_copyRow_11 u_338 nat_copy sta_copy ini_sys hA hB (nI_pos (by decide)) (nI_pos (by decide)) (nI_pos (by rw [Nat.min_self]; exact hn)) (by rw [Nat.min_self, nI_clamp hn, nI_clamp (by decide)]; omega) (by rw [Nat.min_self, nI_clamp hn, nI_clamp (by decide)]; omega) (by decide) (by decide) (Wp.row (by rw [Nat.min_self, nI_clamp hn]; exact cpy_all) ?_)
  refine w_vret dX7_copyRow_14 rfl (Nat.le_of_ble_eq_true rfl) (Nat.le_of_ble_eq_true rfl) ?_
  exact ⟨rfl, rfl⟩
theorem c_roundedUp {E : EV} {a b : Nat} {G : AH} (ha : a < 2 ^ 30) (hb : b < 2 ^ 30) (h0 : 0 < b) : Cu E 1 kX7_roundedUp [.int (nI a), .int (nI b)] G (.int (nI ((a + b - 1) / b))) G := by
  refine Ct.intro rfl (by decide) [.int (nI a), .int (nI b)] (by simp [Value.category]) (Nat.le_of_ble_eq_true rfl) rfl ?_
  refine w_iload_n dX7_roundedUp_0 rfl ?_
  refine w_ifN_le (tgt := 14) dX7_roundedUp_1 (by decide) (fun c_1 => ?_) (fun c_1 => ?_)
  · try simp (disch := omega) only [nI_ltI, nI_leI, nI_eq, ge_iff_le, gt_iff_lt, ne_eq, Nat.not_lt, Nat.not_le] at c_1
    exact absurd c_1 (by omega)
  · try simp (disch := omega) only [nI_ltI, nI_leI, nI_eq, ge_iff_le, gt_iff_lt, ne_eq, Nat.not_lt, Nat.not_le] at c_1
    refine w_iload_n dX7_roundedUp_4 rfl ?_
    refine w_iload_n dX7_roundedUp_5 rfl ?_
    first | refine w_iaddN dX7_roundedUp_6 ?_ | refine w_iadd dX7_roundedUp_6 ?_
    refine w_iconst (v := nI 1) dX7_roundedUp_7 (by decide) ?_
    refine w_isubN (by omega) dX7_roundedUp_8 ?_
    refine w_iload_n dX7_roundedUp_9 rfl ?_
    first | refine w_idivN (by omega) (by omega) (by omega) dX7_roundedUp_10 ?_ | refine w_idiv dX7_roundedUp_10 (by decide) ?_
    refine w_goto (tgt := 15) dX7_roundedUp_11 (by decide) ?_
    refine w_iret dX7_roundedUp_15 rfl (Nat.le_of_ble_eq_true rfl) (Nat.le_of_ble_eq_true rfl) ?_
    exact ⟨rfl, rfl⟩
def stN (a b : Nat) : Nat := min (if b ≤ a then a - b else b - a) (6 - (if b ≤ a then a - b else b - a))
theorem abs_sub {a b : Nat} (ha : a < 2 ^ 30) (hb : b < 2 ^ 30) : (if nI 0 ≤ nI a - nI b then nI a - nI b else -(nI a - nI b)) = nI (if b ≤ a then a - b else b - a) := by
  by_cases h : b ≤ a
  · rw [pk_sub h, if_pos (nI_le (Nat.zero_le _) (by omega)), if_pos h]
  · have h1 : ¬ nI 0 ≤ nI a - nI b := Int32.not_le.mpr (pk_sneg hb (show a < b by omega))
    rw [if_neg h1, if_neg h, ← pk_sub (show a ≤ b by omega)]
    apply Int32.toBitVec_inj.mp
    simp [Int32.toBitVec_sub, Int32.toBitVec_neg]
theorem c_steps {E : EV} {a b : Nat} {G : AH} (ha : a < 6) (hb : b < 6) : Cu E 2 kX7_stepsBetween [.int (nI a), .int (nI b)] G (.int (nI (stN a b))) G := by
  refine Ct.intro rfl (by decide) [.int (nI a), .int (nI b), .float 0] (by simp [Value.category]) (Nat.le_of_ble_eq_true rfl) rfl ?_
  refine w_iload_n dX7_stepsBetween_0 rfl ?_
  refine w_iload_n dX7_stepsBetween_1 rfl ?_
  refine w_isub dX7_stepsBetween_2 ?_
  refine wJ1u dX7_stepsBetween_3 lk_X7_307 rfl (c_abs) (Nat.le_of_ble_eq_true rfl) (Nat.le_of_ble_eq_true rfl) (Nat.le_of_ble_eq_true rfl) (Nat.le_of_ble_eq_true rfl) ?_
  rw [abs_sub (by omega) (by omega)]
  refine w_istore_2 dX7_stepsBetween_6 rfl ?_
  refine w_iload_n dX7_stepsBetween_7 rfl ?_
  refine w_bipush (v := nI 6) dX7_stepsBetween_8 (by decide) ?_
  refine w_iload_n dX7_stepsBetween_10 rfl ?_
  refine w_isubN (by split <;> omega) dX7_stepsBetween_11 ?_
  refine wJ2u dX7_stepsBetween_12 lk_X7_332 rfl (c_min (by split <;> omega) (by omega)) (Nat.le_of_ble_eq_true rfl) (Nat.le_of_ble_eq_true rfl) (Nat.le_of_ble_eq_true rfl) (Nat.le_of_ble_eq_true rfl) ?_
  refine w_iret dX7_stepsBetween_15 rfl (Nat.le_of_ble_eq_true rfl) (Nat.le_of_ble_eq_true rfl) ?_
  exact ⟨rfl, rfl⟩
theorem Cn.imp {E : EV} {d : Nat} {K : MR} {args : List Value} {G G' : AH} {P : AH → Prop} (h : Cn E d K args G G') (hp : ∀ G1, G1 = G' → P G1) : Cd E d K args G P := MetFree.mono h (fun _ _ h => h) (fun _ _ _ _ _ h => h) (fun a s o t _ hq => by
  rcases hq with ⟨⟨⟨v, G1, e1, ⟨e2, e3⟩, e4⟩, e5⟩, e6⟩ | ⟨q, e1, X, ce, L, ⟨⟨G1, ⟨e2, _⟩, _⟩, _⟩, _⟩
  · exact Or.inl ⟨⟨⟨v, G1, e1, ⟨e2, hp G1 e3⟩, e4⟩, e5⟩, e6⟩
  · cases e2)
