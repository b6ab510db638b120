/-! the law's body: its steps -/
def QL : OC → AH → Prop := fun o _ => o = .inl (some (.int (nI 1)))
abbrev WL (E : EV) (G : AH) (cs : Nat × Nat) (pc : Nat) (L st : List Value) : Prop := Wp E 62 601024 7293034 KL QL G cs pc L st
abbrev LL (E : EV) (j : Nat) (v5 v6 : Value) : List Value := [.ref (eX E).1, .ref (eB E), .ref (eB E + 246), .ref (eB E + 255), .int (nI j), v5, v6]
/-- the script's int at j -/
def sc (E : EV) (j : Nat) : Int32 := (eX E).2.2 (nI j).toNatClampNeg
def bz (E : EV) (j : Nat) : Nat := if sc E j = nI 0 then 0 else 1
theorem bz_le {E : EV} {j : Nat} : bz E j ≤ 1 := by unfold bz; split <;> omega
theorem bz_lt {E : EV} {j : Nat} : bz E j < 2 ^ 30 := Nat.lt_of_le_of_lt bz_le (by decide)
section LAW
variable {E : EV} {G : AH} {cs : Nat × Nat} {v5 v6 : Value} {st : List Value} {j : Nat}
theorem w_arg {pc p1 p2 p3 p4 q : Nat} {n : Int} (hL : (eX E).2.1 ≤ 3072) (hj : j + 6 ≤ (eX E).2.1) (h1 : decode code pc = .ok (.aload_n 0, 1)) (h2 : decode code p1 = .ok (.iload 4, 2)) (h3 : decode code p2 = .ok (.iconst n, 1)) (h4 : decode code p3 = .ok (.iadd, 1)) (h5 : decode code p4 = .ok (.iaload, 1))
    (e : p1 = pc + 1 ∧ p2 = p1 + 2 ∧ p3 = p2 + 1 ∧ p4 = p3 + 1) (hn : Int32.ofInt n = nI q) (hq : q < 6) (k : WL E G cs (pc + 6) (LL E j v5 v6) (.int (sc E (j + q)) :: st)) : WL E G cs pc (LL E j v5 v6) st := by
  obtain ⟨rfl, rfl, rfl, rfl⟩ := e
  refine w_aload_n h1 rfl ?_
  refine w_iload h2 rfl ?_
  refine w_iconst (v := nI q) h3 hn ?_
  refine w_iaddN h4 ?_
  exact w_scr h5 (vp_in_nI (by omega) (by omega)) k
theorem w_argB {pc p1 p2 p3 p4 p5 p6 p7 p8 q : Nat} {n : Int} (hL : (eX E).2.1 ≤ 3072) (hj : j + 6 ≤ (eX E).2.1) (h1 : decode code pc = .ok (.aload_n 0, 1)) (h2 : decode code p1 = .ok (.iload 4, 2)) (h3 : decode code p2 = .ok (.iconst n, 1)) (h4 : decode code p3 = .ok (.iadd, 1)) (h5 : decode code p4 = .ok (.iaload, 1))
    (h6 : decode code p5 = .ok (.ifCond .eq 7, 3)) (h7 : decode code p6 = .ok (.iconst 1, 1)) (h8 : decode code p7 = .ok (.goto 4, 3)) (h9 : decode code p8 = .ok (.iconst 0, 1))
    (e : p1 = pc + 1 ∧ p2 = p1 + 2 ∧ p3 = p2 + 1 ∧ p4 = p3 + 1 ∧ p5 = p4 + 1 ∧ p6 = p5 + 3 ∧ p7 = p6 + 1 ∧ p8 = p7 + 3) (hn : Int32.ofInt n = nI q) (hq : q < 6) (k : WL E G cs (pc + 14) (LL E j v5 v6) (.int (nI (bz E (j + q))) :: st)) : WL E G cs pc (LL E j v5 v6) st := by
  obtain ⟨e1, e2, e3, e4, rfl, rfl, rfl, rfl⟩ := e
  refine w_arg hL hj h1 h2 h3 h4 h5 ⟨e1, e2, e3, e4⟩ hn hq ?_
  obtain rfl : p4 = pc + 5 := by omega
  refine w_ifN_eq (tgt := pc + 13) h6 (by omega) (fun c => ?_) (fun c => ?_)
  · rw [bz, if_pos c] at k
    exact w_iconst (v := nI 0) h9 (by decide) k
  · rw [bz, if_neg c] at k
    refine w_iconst (v := nI 1) h7 (by decide) ?_
    exact w_goto (tgt := pc + 14) h8 (by omega) k
theorem lg_cmp_rf {z : Int64} : lg_cmp z z = nI 0 := by
  simp [lg_cmp, nI]
/-- after both calls: what was thrown is the same, and what was told -/
theorem law_tail {p p1 p2 p3 p4 p5 p6 p7 p8 p9 q1 q2 q3 q4 k : Nat} {off : Int} {v r : Int32} (hk : k < 4) (hr : r = if k = 0 then v else nI 0) (hJ : JT E G (nI k)) (hov : k = 0 → ∃ ov : Nat → Int64, ov 0 = v.toInt64 ∧ G.1 (eB E + 255) = some (aJ 1 ov)) (hc1 : cs.1 ≤ 601024) (hc2 : cs.2 ≤ 7293034)
    (h1 : decode code p = .ok (.aload_n 2, 1)) (h2 : decode code p1 = .ok (.invokevirtual 130, 3)) (h3 : decode code p2 = .ok (.iload 5, 2)) (h4 : decode code p3 = .ok (.if_icmp .eq 5, 3)) (h5 : decode code p4 = .ok (.iload 5, 2)) (h6 : decode code p5 = .ok (.ifCond .ne 15, 3))
    (h7 : decode code p6 = .ok (.aload_n 3, 1)) (h8 : decode code p7 = .ok (.iconst 0, 1)) (h9 : decode code p8 = .ok (.laload, 1)) (h10 : decode code p9 = .ok (.iload 6, 2)) (h11 : decode code q1 = .ok (.i2l, 1)) (h12 : decode code q2 = .ok (.lcmp, 1)) (h13 : decode code q3 = .ok (.ifCond .eq 5, 3)) (h14 : decode code q4 = .ok (.goto off, 3))
    (e : p1 = p + 1 ∧ p2 = p + 4 ∧ p3 = p + 6 ∧ p4 = p + 11 ∧ p5 = p + 13 ∧ p6 = p + 16 ∧ p7 = p + 17 ∧ p8 = p + 18 ∧ p9 = p + 19 ∧ q1 = p + 21 ∧ q2 = p + 22 ∧ q3 = p + 23 ∧ q4 = p + 28) (ht : (q4 : Int) + off = (2655 : Nat))
    (kN : ∀ G9, JJ E G9 → WL E G9 cs 2655 (LL E j (.int (nI k)) (.int r)) []) : WL E G cs p (LL E j (.int (nI k)) (.int r)) [] := by
  obtain ⟨rfl, rfl, rfl, rfl, rfl, rfl, rfl, rfl, rfl, rfl, rfl, rfl, rfl⟩ := e
  have hJJ : JJ E G := ⟨_, hJ⟩
  obtain ⟨tn, f, wb, T, sd, D, im, Ti, si, Di, nw, rm, P, ru, sp, hH, hM, ov, hO⟩ := hJ
  obtain ⟨ba, en, at_, dp, io, hm_, we, sh, so, h0⟩ := hM.1
  refine w_aload_n h1 rfl ?_
  refine wc_V (rest := []) (As := []) h2 lk_L_130 rfl (by rfl) h0 rfl rfl (Nat.le_of_ble_eq_true rfl) (m_thrown h0) rfl (by simp) (by simpa using hc1) (by simpa using hc2) ?_ (fun X G9 h => by cases h.1)
  rintro o G9 ⟨ho, rfl⟩
  cases ho
  refine w_iload h3 rfl ?_
  refine w_icmp_eq (tgt := p + 11) h4 (by omega) (fun _ => ?_) (fun c => absurd rfl c)
  refine w_iload h5 rfl ?_
  refine w_ifN_ne (tgt := p + 28) h6 (by omega) (fun c => ?_) (fun c => ?_)
  · exact w_goto (tgt := 2655) h14 ht (kN _ hJJ)
  · have hk0 : k = 0 := by
      rcases k with _ | _ | _ | _ | k
      · rfl
      · exact absurd c (by decide)
      · exact absurd c (by decide)
      · exact absurd c (by decide)
      · omega
    obtain ⟨ov2, g1, g2⟩ := hov hk0
    rw [if_pos hk0] at hr
    refine w_aload_n h7 rfl ?_
    refine w_iconst (v := nI 0) h8 (by decide) ?_
    refine w_laload h9 g2 (vp_in_nI (by omega) (by omega)) ?_
    refine w_iload h10 rfl ?_
    refine w_i2l h11 ?_
    refine w_lcmp h12 ?_
    have e9 : lg_cmp (ov2 (nI 0).toNatClampNeg) r.toInt64 = nI 0 := by
      have e8 : (nI 0).toNatClampNeg = 0 := by decide
      rw [e8, g1, hr]
      exact lg_cmp_rf
    refine w_ifN_eq (tgt := p + 28) h13 (by omega) (fun _ => ?_) (fun c2 => absurd e9 c2)
    exact w_goto (tgt := 2655) h14 ht (kN _ hJJ)
end LAW
