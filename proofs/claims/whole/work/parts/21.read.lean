/-! the reader of a text: its things, one after another -/
def skF (y : Nat → Nat) (n : Nat) : Nat → Nat → Nat | 0, p => p | k + 1, p => if p < n ∧ y p = 32 then skF y n k (p + 1) else p
def rnF (y : Nat → Nat) (n lo hi : Nat) : Nat → Nat → Nat | 0, p => p | k + 1, p => if p < n ∧ lo ≤ y p ∧ y p ≤ hi then rnF y n lo hi k (p + 1) else p
def skp (y : Nat → Nat) (n p : Nat) : Nat := skF y n 400 p
def run (y : Nat → Nat) (n lo hi p : Nat) : Nat := rnF y n lo hi 400 p
theorem skF_fuel (y : Nat → Nat) (n : Nat) : ∀ (f g p : Nat), n ≤ p + f → n ≤ p + g → skF y n f p = skF y n g p
  | 0, 0, _, _, _ => rfl
  | 0, g + 1, p, h, _ => by rw [skF, skF, if_neg (by omega)]
  | f + 1, 0, p, _, h => by rw [skF, skF, if_neg (by omega)]
  | f + 1, g + 1, p, h1, h2 => by
    rw [skF, skF]
    split
    · exact skF_fuel y n f g (p + 1) (by omega) (by omega)
    · rfl
theorem rnF_fuel (y : Nat → Nat) (n lo hi : Nat) : ∀ (f g p : Nat), n ≤ p + f → n ≤ p + g → rnF y n lo hi f p = rnF y n lo hi g p
  | 0, 0, _, _, _ => rfl
  | 0, g + 1, p, h, _ => by rw [rnF, rnF, if_neg (by omega)]
  | f + 1, 0, p, _, h => by rw [rnF, rnF, if_neg (by omega)]
  | f + 1, g + 1, p, h1, h2 => by
    rw [rnF, rnF]
    split
    · exact rnF_fuel y n lo hi f g (p + 1) (by omega) (by omega)
    · rfl
theorem skp_in {y : Nat → Nat} {n p : Nat} (hn : n ≤ 400) (h : p < n) (h2 : y p = 32) : skp y n p = skp y n (p + 1) := by
  unfold skp
  rw [show (400 : Nat) = 399 + 1 from rfl, skF, if_pos ⟨h, h2⟩]
  exact skF_fuel y n _ _ _ (by omega) (by omega)
theorem skp_out {y : Nat → Nat} {n p : Nat} (h : ¬ (p < n ∧ y p = 32)) : skp y n p = p := by
  unfold skp
  rw [show (400 : Nat) = 399 + 1 from rfl, skF, if_neg h]
theorem run_in {y : Nat → Nat} {n lo hi p : Nat} (hn : n ≤ 400) (h : p < n) (h1 : lo ≤ y p) (h2 : y p ≤ hi) : run y n lo hi p = run y n lo hi (p + 1) := by
  unfold run
  rw [show (400 : Nat) = 399 + 1 from rfl, rnF, if_pos ⟨h, h1, h2⟩]
  exact rnF_fuel y n lo hi _ _ _ (by omega) (by omega)
theorem run_out {y : Nat → Nat} {n lo hi p : Nat} (h : ¬ (p < n ∧ lo ≤ y p ∧ y p ≤ hi)) : run y n lo hi p = p := by
  unfold run
  rw [show (400 : Nat) = 399 + 1 from rfl, rnF, if_neg h]
theorem skF_le {y : Nat → Nat} {n : Nat} : ∀ (f p : Nat), p ≤ n → p ≤ skF y n f p ∧ skF y n f p ≤ n
  | 0, p, h => ⟨Nat.le_refl _, h⟩
  | f + 1, p, h => by
    rw [skF]
    split
    · next h2 => have := skF_le (y := y) (n := n) f (p + 1) (by omega); omega
    · exact ⟨Nat.le_refl _, h⟩
theorem rnF_le {y : Nat → Nat} {n lo hi : Nat} : ∀ (f p : Nat), p ≤ n → p ≤ rnF y n lo hi f p ∧ rnF y n lo hi f p ≤ n
  | 0, p, h => ⟨Nat.le_refl _, h⟩
  | f + 1, p, h => by
    rw [rnF]
    split
    · next h2 => have := rnF_le (y := y) (n := n) (lo := lo) (hi := hi) f (p + 1) (by omega); omega
    · exact ⟨Nat.le_refl _, h⟩
theorem skp_le {y : Nat → Nat} {n p : Nat} (h : p ≤ n) : p ≤ skp y n p ∧ skp y n p ≤ n := skF_le 400 p h
theorem run_le {y : Nat → Nat} {n lo hi p : Nat} (h : p ≤ n) : p ≤ run y n lo hi p ∧ run y n lo hi p ≤ n := rnF_le 400 p h
theorem skF_stop {y : Nat → Nat} {n : Nat} : ∀ (f p : Nat), n ≤ p + f → ¬ (skF y n f p < n ∧ y (skF y n f p) = 32)
  | 0, p, h => by rw [skF]; omega
  | f + 1, p, h => by
    rw [skF]
    split
    · exact skF_stop f (p + 1) (by omega)
    · next h2 => exact h2
theorem skp_stop {y : Nat → Nat} {n p : Nat} (hn : n ≤ 400) : ¬ (skp y n p < n ∧ y (skp y n p) = 32) := skF_stop 400 p (by omega)
/-- where the thing at p ends -/
def tokE (y : Nat → Nat) (n p : Nat) : Nat := if p < n then (if 97 ≤ y p ∧ y p ≤ 122 then run y n 97 122 p else if 48 ≤ y p ∧ y p ≤ 57 then run y n 48 57 p else p + 1) else p
theorem tokE_le {y : Nat → Nat} {n p : Nat} (h : p ≤ n) : p ≤ tokE y n p ∧ tokE y n p ≤ n := by
  unfold tokE
  split
  · split
    · exact run_le h
    · split
      · exact run_le h
      · omega
  · omega
def nxt (y : Nat → Nat) (n p : Nat) : Nat := skp y n (tokE y n p)
theorem nxt_le {y : Nat → Nat} {n p : Nat} (h : p ≤ n) : nxt y n p ≤ n := (skp_le (tokE_le h).2).2
abbrev rdO (r n b e : Nat) (w : Int32) : HC := oB 5 [.ref (r + 1), .int (nI n), .int (nI b), .int (nI e), .int w]
def Rd (G : AH) (r : Nat) (y : Nat → Nat) (n : Nat) (s : Nat × Int32) : Prop := G.1 r = some (rdO r n s.1 (tokE y n s.1) s.2) ∧ G.1 (r + 1) = some (aI 400 (fun i => nI (y i))) ∧ n ≤ 400 ∧ s.1 ≤ n ∧ (∀ i, y i < 256) ∧ ¬ (s.1 < n ∧ y s.1 = 32)
def FrR (G G' : AH) (r : Nat) : Prop := G'.2 = G.2 ∧ ∀ q, q ≠ r → G'.1 q = G.1 q
theorem FrR.rf {G : AH} {r : Nat} : FrR G G r := ⟨rfl, fun _ _ => rfl⟩
theorem FrR.tr {G G1 G2 : AH} {r : Nat} (h1 : FrR G G1 r) (h2 : FrR G1 G2 r) : FrR G G2 r := ⟨h2.1.trans h1.1, fun q h => (h2.2 q h).trans (h1.2 q h)⟩
theorem FrR.gs {G : AH} {r : Nat} {x : HC} : FrR G (gs G r x) r := ⟨rfl, fun q hq => gs_ne hq⟩
theorem lp_st201 {E : EV} {Q : OC → AH → Prop} {G : AH} {r n : Nat} {w : Int32} {b p e0 c2 c3 c4 c5 : Nat} {x : Int32} (hR : G.1 r = some (rdO r n b e0 w)) (hQ : Q (.inl none) (gs G r (rdO r n b p w))) : Wp E 2 0 0 kX5_step Q G (0, 0) 201 [.ref r, .int (nI (p)), .int (x), .int (nI c2), .int (nI c3), .int (nI c4), .int (nI c5)] [] := by
  refine w_aload_n dX5_step_201 rfl ?_
  refine w_iload_n dX5_step_202 rfl ?_
  refine w_putf dX5_step_203 fl_X5_22 (by first | assumption | exact gs_at | (rw [gs_ne (by omega)]; (first | assumption | exact gs_at | (rw [gs_ne (by omega)]; (first | assumption | exact gs_at | (rw [gs_ne (by omega)]; (first | assumption | exact gs_at | (rw [gs_ne (by omega)]; (first | assumption | exact gs_at))))))))) (by simp) rfl rfl ?_
  refine w_vret dX5_step_206 rfl (Nat.le_of_ble_eq_true rfl) (Nat.le_of_ble_eq_true rfl) ?_
  exact hQ
theorem lp_stRun {E : EV} {Q : OC → AH → Prop} {G : AH} {r n : Nat} {y : Nat → Nat} {w : Int32} {b e0 c2 c3 lo hi : Nat} {x : Int32} (hR : G.1 r = some (rdO r n b e0 w)) (hB : G.1 (r + 1) = some (aI 400 (fun i => nI (y i)))) (hn : n ≤ 400) (hy : ∀ i, y i < 256) (hcl : (c2 = 1 ∨ c3 = 1) ∧ c2 ≤ 1 ∧ c3 ≤ 1) (hlo : lo ≤ 255) (hhi : hi ≤ 255) (hb : b < n → lo ≤ y b ∧ y b ≤ hi) (hQ : Q (.inl none) (gs G r (rdO r n b (run y n lo hi b) w))) : ∀ (k p : Nat), n - p < k → b ≤ p → p ≤ n → run y n lo hi p = run y n lo hi b → Wp E 2 0 0 kX5_step Q G (0, 0) 139 [.ref r, .int (nI (p)), .int (x), .int (nI c2), .int (nI c3), .int (nI lo), .int (nI hi)] [] := by
  intro k
  induction k with
  | zero => intro p h; exact absurd h (by omega)
  | succ k ih =>
    intro p hk hbp hpn he
    have hyp := hy p
    refine w_iload_n dX5_step_139 rfl ?_
    refine w_aload_n dX5_step_140 rfl ?_
    refine w_getf dX5_step_141 fl_X5_15 (by first | assumption | exact gs_at | (rw [gs_ne (by omega)]; (first | assumption | exact gs_at | (rw [gs_ne (by omega)]; (first | assumption | exact gs_at | (rw [gs_ne (by omega)]; (first | assumption | exact gs_at | (rw [gs_ne (by omega)]; (first | assumption | exact gs_at))))))))) rfl ?_
    refine w_icmp_ge (tgt := 201) dX5_step_144 (by decide) (fun c_144 => ?_) (fun c_144 => ?_)
    · try simp (disch := omega) only [nI_ltI, nI_leI, nI_eq, ge_iff_le, gt_iff_lt, Nat.not_lt, Nat.not_le, ne_eq, Decidable.not_not] at c_144
      rw [run_out (by omega)] at he
      rw [← he] at hQ
      exact lp_st201 hR hQ
    · try simp (disch := omega) only [nI_ltI, nI_leI, nI_eq, ge_iff_le, gt_iff_lt, Nat.not_lt, Nat.not_le, ne_eq, Decidable.not_not] at c_144
      refine w_iload_n dX5_step_147 rfl ?_
      refine w_aload_n dX5_step_148 rfl ?_
      refine w_getf dX5_step_149 fl_X5_9 (by first | assumption | exact gs_at | (rw [gs_ne (by omega)]; (first | assumption | exact gs_at | (rw [gs_ne (by omega)]; (first | assumption | exact gs_at | (rw [gs_ne (by omega)]; (first | assumption | exact gs_at | (rw [gs_ne (by omega)]; (first | assumption | exact gs_at))))))))) rfl ?_
      refine w_alenI dX5_step_152 (by first | assumption | exact gs_at | (rw [gs_ne (by omega)]; (first | assumption | exact gs_at | (rw [gs_ne (by omega)]; (first | assumption | exact gs_at | (rw [gs_ne (by omega)]; (first | assumption | exact gs_at | (rw [gs_ne (by omega)]; (first | assumption | exact gs_at))))))))) ?_
      refine w_icmp_ge (tgt := 201) dX5_step_153 (by decide) (fun c_153 => ?_) (fun c_153 => ?_)
      · try simp (disch := omega) only [nI_ltI, nI_leI, nI_eq, ge_iff_le, gt_iff_lt, Nat.not_lt, Nat.not_le, ne_eq, Decidable.not_not] at c_153
        exact absurd c_153 (by omega)
      · try simp (disch := omega) only [nI_ltI, nI_leI, nI_eq, ge_iff_le, gt_iff_lt, Nat.not_lt, Nat.not_le, ne_eq, Decidable.not_not] at c_153
        refine w_iload_n dX5_step_156 rfl ?_
        refine w_aload_n dX5_step_157 rfl ?_
        refine w_getf dX5_step_158 fl_X5_19 (by first | assumption | exact gs_at | (rw [gs_ne (by omega)]; (first | assumption | exact gs_at | (rw [gs_ne (by omega)]; (first | assumption | exact gs_at | (rw [gs_ne (by omega)]; (first | assumption | exact gs_at | (rw [gs_ne (by omega)]; (first | assumption | exact gs_at))))))))) rfl ?_
        refine w_icmp_eq (tgt := 195) dX5_step_161 (by decide) (fun c_161 => ?_) (fun c_161 => ?_)
        · try simp (disch := omega) only [nI_ltI, nI_leI, nI_eq, ge_iff_le, gt_iff_lt, Nat.not_lt, Nat.not_le, ne_eq, Decidable.not_not] at c_161
          first | refine w_iinc_1 dX5_step_195 (nI_inc _) rfl ?_ | refine w_iinc_1 dX5_step_195 rfl rfl ?_
          refine w_goto (tgt := 139) dX5_step_198 (by decide) ?_
          first
            | (rw [run_in hn (by omega) (by omega) (by omega)] at he; exact ih (p + 1) (by omega) (by omega) (by omega) he)
            | (obtain ⟨h1, h2⟩ := hb (by omega); subst c_161; rw [run_in hn (by omega) h1 h2] at he; exact ih (p + 1) (by omega) (by omega) (by omega) (he.trans (run_in hn (by omega) h1 h2).symm))
        · try simp (disch := omega) only [nI_ltI, nI_leI, nI_eq, ge_iff_le, gt_iff_lt, Nat.not_lt, Nat.not_le, ne_eq, Decidable.not_not] at c_161
          refine w_iload_n dX5_step_164 rfl ?_
          refine w_ifN_ne (tgt := 173) dX5_step_165 (by decide) (fun c_165 => ?_) (fun c_165 => ?_)
          · try simp (disch := omega) only [nI_ltI, nI_leI, nI_eq, ge_iff_le, gt_iff_lt, Nat.not_lt, Nat.not_le, ne_eq, Decidable.not_not] at c_165
            refine w_aload_n dX5_step_173 rfl ?_
            refine w_getf dX5_step_174 fl_X5_9 (by first | assumption | exact gs_at | (rw [gs_ne (by omega)]; (first | assumption | exact gs_at | (rw [gs_ne (by omega)]; (first | assumption | exact gs_at | (rw [gs_ne (by omega)]; (first | assumption | exact gs_at | (rw [gs_ne (by omega)]; (first | assumption | exact gs_at))))))))) rfl ?_
            refine w_iload_n dX5_step_177 rfl ?_
            refine w_iaload dX5_step_178 (by first | assumption | exact gs_at | (rw [gs_ne (by omega)]; (first | assumption | exact gs_at | (rw [gs_ne (by omega)]; (first | assumption | exact gs_at | (rw [gs_ne (by omega)]; (first | assumption | exact gs_at | (rw [gs_ne (by omega)]; (first | assumption | exact gs_at))))))))) (vp_in_nI (by omega) (by decide)) ?_
            rw [nI_clamp (show p < 2 ^ 31 by omega)]
            refine w_iload dX5_step_179 rfl ?_
            refine w_icmp_lt (tgt := 201) dX5_step_181 (by decide) (fun c_181 => ?_) (fun c_181 => ?_)
            · try simp (disch := omega) only [nI_ltI, nI_leI, nI_eq, ge_iff_le, gt_iff_lt, Nat.not_lt, Nat.not_le, ne_eq, Decidable.not_not] at c_181
              rw [run_out (by omega)] at he
              rw [← he] at hQ
              exact lp_st201 hR hQ
            · try simp (disch := omega) only [nI_ltI, nI_leI, nI_eq, ge_iff_le, gt_iff_lt, Nat.not_lt, Nat.not_le, ne_eq, Decidable.not_not] at c_181
              refine w_aload_n dX5_step_184 rfl ?_
              refine w_getf dX5_step_185 fl_X5_9 (by first | assumption | exact gs_at | (rw [gs_ne (by omega)]; (first | assumption | exact gs_at | (rw [gs_ne (by omega)]; (first | assumption | exact gs_at | (rw [gs_ne (by omega)]; (first | assumption | exact gs_at | (rw [gs_ne (by omega)]; (first | assumption | exact gs_at))))))))) rfl ?_
              refine w_iload_n dX5_step_188 rfl ?_
              refine w_iaload dX5_step_189 (by first | assumption | exact gs_at | (rw [gs_ne (by omega)]; (first | assumption | exact gs_at | (rw [gs_ne (by omega)]; (first | assumption | exact gs_at | (rw [gs_ne (by omega)]; (first | assumption | exact gs_at | (rw [gs_ne (by omega)]; (first | assumption | exact gs_at))))))))) (vp_in_nI (by omega) (by decide)) ?_
              rw [nI_clamp (show p < 2 ^ 31 by omega)]
              refine w_iload dX5_step_190 rfl ?_
              refine w_icmp_gt (tgt := 201) dX5_step_192 (by decide) (fun c_192 => ?_) (fun c_192 => ?_)
              · try simp (disch := omega) only [nI_ltI, nI_leI, nI_eq, ge_iff_le, gt_iff_lt, Nat.not_lt, Nat.not_le, ne_eq, Decidable.not_not] at c_192
                rw [run_out (by omega)] at he
                rw [← he] at hQ
                exact lp_st201 hR hQ
              · try simp (disch := omega) only [nI_ltI, nI_leI, nI_eq, ge_iff_le, gt_iff_lt, Nat.not_lt, Nat.not_le, ne_eq, Decidable.not_not] at c_192
                first | refine w_iinc_1 dX5_step_195 (nI_inc _) rfl ?_ | refine w_iinc_1 dX5_step_195 rfl rfl ?_
                refine w_goto (tgt := 139) dX5_step_198 (by decide) ?_
                first
                  | (rw [run_in hn (by omega) (by omega) (by omega)] at he; exact ih (p + 1) (by omega) (by omega) (by omega) he)
                  | (obtain ⟨h1, h2⟩ := hb (by omega); subst c_161; rw [run_in hn (by omega) h1 h2] at he; exact ih (p + 1) (by omega) (by omega) (by omega) (he.trans (run_in hn (by omega) h1 h2).symm))
          · try simp (disch := omega) only [nI_ltI, nI_leI, nI_eq, ge_iff_le, gt_iff_lt, Nat.not_lt, Nat.not_le, ne_eq, Decidable.not_not] at c_165
            refine w_iload dX5_step_168 rfl ?_
            refine w_ifN_eq (tgt := 201) dX5_step_170 (by decide) (fun c_170 => ?_) (fun c_170 => ?_)
            · try simp (disch := omega) only [nI_ltI, nI_leI, nI_eq, ge_iff_le, gt_iff_lt, Nat.not_lt, Nat.not_le, ne_eq, Decidable.not_not] at c_170
              exact absurd c_170 (by omega)
            · try simp (disch := omega) only [nI_ltI, nI_leI, nI_eq, ge_iff_le, gt_iff_lt, Nat.not_lt, Nat.not_le, ne_eq, Decidable.not_not] at c_170
              refine w_aload_n dX5_step_173 rfl ?_
              refine w_getf dX5_step_174 fl_X5_9 (by first | assumption | exact gs_at | (rw [gs_ne (by omega)]; (first | assumption | exact gs_at | (rw [gs_ne (by omega)]; (first | assumption | exact gs_at | (rw [gs_ne (by omega)]; (first | assumption | exact gs_at | (rw [gs_ne (by omega)]; (first | assumption | exact gs_at))))))))) rfl ?_
              refine w_iload_n dX5_step_177 rfl ?_
              refine w_iaload dX5_step_178 (by first | assumption | exact gs_at | (rw [gs_ne (by omega)]; (first | assumption | exact gs_at | (rw [gs_ne (by omega)]; (first | assumption | exact gs_at | (rw [gs_ne (by omega)]; (first | assumption | exact gs_at | (rw [gs_ne (by omega)]; (first | assumption | exact gs_at))))))))) (vp_in_nI (by omega) (by decide)) ?_
              rw [nI_clamp (show p < 2 ^ 31 by omega)]
              refine w_iload dX5_step_179 rfl ?_
              refine w_icmp_lt (tgt := 201) dX5_step_181 (by decide) (fun c_181 => ?_) (fun c_181 => ?_)
              · try simp (disch := omega) only [nI_ltI, nI_leI, nI_eq, ge_iff_le, gt_iff_lt, Nat.not_lt, Nat.not_le, ne_eq, Decidable.not_not] at c_181
                rw [run_out (by omega)] at he
                rw [← he] at hQ
                exact lp_st201 hR hQ
              · try simp (disch := omega) only [nI_ltI, nI_leI, nI_eq, ge_iff_le, gt_iff_lt, Nat.not_lt, Nat.not_le, ne_eq, Decidable.not_not] at c_181
                refine w_aload_n dX5_step_184 rfl ?_
                refine w_getf dX5_step_185 fl_X5_9 (by first | assumption | exact gs_at | (rw [gs_ne (by omega)]; (first | assumption | exact gs_at | (rw [gs_ne (by omega)]; (first | assumption | exact gs_at | (rw [gs_ne (by omega)]; (first | assumption | exact gs_at | (rw [gs_ne (by omega)]; (first | assumption | exact gs_at))))))))) rfl ?_
                refine w_iload_n dX5_step_188 rfl ?_
                refine w_iaload dX5_step_189 (by first | assumption | exact gs_at | (rw [gs_ne (by omega)]; (first | assumption | exact gs_at | (rw [gs_ne (by omega)]; (first | assumption | exact gs_at | (rw [gs_ne (by omega)]; (first | assumption | exact gs_at | (rw [gs_ne (by omega)]; (first | assumption | exact gs_at))))))))) (vp_in_nI (by omega) (by decide)) ?_
                rw [nI_clamp (show p < 2 ^ 31 by omega)]
                refine w_iload dX5_step_190 rfl ?_
                refine w_icmp_gt (tgt := 201) dX5_step_192 (by decide) (fun c_192 => ?_) (fun c_192 => ?_)
                · try simp (disch := omega) only [nI_ltI, nI_leI, nI_eq, ge_iff_le, gt_iff_lt, Nat.not_lt, Nat.not_le, ne_eq, Decidable.not_not] at c_192
                  rw [run_out (by omega)] at he
                  rw [← he] at hQ
                  exact lp_st201 hR hQ
                · try simp (disch := omega) only [nI_ltI, nI_leI, nI_eq, ge_iff_le, gt_iff_lt, Nat.not_lt, Nat.not_le, ne_eq, Decidable.not_not] at c_192
                  first | refine w_iinc_1 dX5_step_195 (nI_inc _) rfl ?_ | refine w_iinc_1 dX5_step_195 rfl rfl ?_
                  refine w_goto (tgt := 139) dX5_step_198 (by decide) ?_
                  first
                    | (rw [run_in hn (by omega) (by omega) (by omega)] at he; exact ih (p + 1) (by omega) (by omega) (by omega) he)
                    | (obtain ⟨h1, h2⟩ := hb (by omega); subst c_161; rw [run_in hn (by omega) h1 h2] at he; exact ih (p + 1) (by omega) (by omega) (by omega) (he.trans (run_in hn (by omega) h1 h2).symm))
theorem lp_stOne {E : EV} {Q : OC → AH → Prop} {G : AH} {r n : Nat} {y : Nat → Nat} {w : Int32} {b e0 lo hi : Nat} {x : Int32} (hR : G.1 r = some (rdO r n b e0 w)) (hB : G.1 (r + 1) = some (aI 400 (fun i => nI (y i)))) (hn : n ≤ 400) (hy : ∀ i, y i < 256) (hQ : Q (.inl none) (gs G r (rdO r n b (if b < n then b + 1 else b) w))) : ∀ (p : Nat), (p = b + 1 ∨ p = n) → b ≤ p → p ≤ n → p = (if b < n then b + 1 else b) → Wp E 2 0 0 kX5_step Q G (0, 0) 139 [.ref r, .int (nI (p)), .int (x), .int (nI 0), .int (nI 0), .int (nI lo), .int (nI hi)] [] := by
  intro p hp hbp hpn he
  rw [← he] at hQ
  have hne : p < n → ¬ p = b := by intro h; split at he <;> omega
  refine w_iload_n dX5_step_139 rfl ?_
  refine w_aload_n dX5_step_140 rfl ?_
  refine w_getf dX5_step_141 fl_X5_15 (by first | assumption | exact gs_at | (rw [gs_ne (by omega)]; (first | assumption | exact gs_at | (rw [gs_ne (by omega)]; (first | assumption | exact gs_at | (rw [gs_ne (by omega)]; (first | assumption | exact gs_at | (rw [gs_ne (by omega)]; (first | assumption | exact gs_at))))))))) rfl ?_
  refine w_icmp_ge (tgt := 201) dX5_step_144 (by decide) (fun c_144 => ?_) (fun c_144 => ?_)
  · try simp (disch := omega) only [nI_ltI, nI_leI, nI_eq, ge_iff_le, gt_iff_lt, Nat.not_lt, Nat.not_le, ne_eq, Decidable.not_not] at c_144
    exact lp_st201 hR hQ
  · try simp (disch := omega) only [nI_ltI, nI_leI, nI_eq, ge_iff_le, gt_iff_lt, Nat.not_lt, Nat.not_le, ne_eq, Decidable.not_not] at c_144
    refine w_iload_n dX5_step_147 rfl ?_
    refine w_aload_n dX5_step_148 rfl ?_
    refine w_getf dX5_step_149 fl_X5_9 (by first | assumption | exact gs_at | (rw [gs_ne (by omega)]; (first | assumption | exact gs_at | (rw [gs_ne (by omega)]; (first | assumption | exact gs_at | (rw [gs_ne (by omega)]; (first | assumption | exact gs_at | (rw [gs_ne (by omega)]; (first | assumption | exact gs_at))))))))) rfl ?_
    refine w_alenI dX5_step_152 (by first | assumption | exact gs_at | (rw [gs_ne (by omega)]; (first | assumption | exact gs_at | (rw [gs_ne (by omega)]; (first | assumption | exact gs_at | (rw [gs_ne (by omega)]; (first | assumption | exact gs_at | (rw [gs_ne (by omega)]; (first | assumption | exact gs_at))))))))) ?_
    refine w_icmp_ge (tgt := 201) dX5_step_153 (by decide) (fun c_153 => ?_) (fun c_153 => ?_)
    · try simp (disch := omega) only [nI_ltI, nI_leI, nI_eq, ge_iff_le, gt_iff_lt, Nat.not_lt, Nat.not_le, ne_eq, Decidable.not_not] at c_153
      exact absurd c_153 (by omega)
    · try simp (disch := omega) only [nI_ltI, nI_leI, nI_eq, ge_iff_le, gt_iff_lt, Nat.not_lt, Nat.not_le, ne_eq, Decidable.not_not] at c_153
      refine w_iload_n dX5_step_156 rfl ?_
      refine w_aload_n dX5_step_157 rfl ?_
      refine w_getf dX5_step_158 fl_X5_19 (by first | assumption | exact gs_at | (rw [gs_ne (by omega)]; (first | assumption | exact gs_at | (rw [gs_ne (by omega)]; (first | assumption | exact gs_at | (rw [gs_ne (by omega)]; (first | assumption | exact gs_at | (rw [gs_ne (by omega)]; (first | assumption | exact gs_at))))))))) rfl ?_
      refine w_icmp_eq (tgt := 195) dX5_step_161 (by decide) (fun c_161 => ?_) (fun c_161 => ?_)
      · try simp (disch := omega) only [nI_ltI, nI_leI, nI_eq, ge_iff_le, gt_iff_lt, Nat.not_lt, Nat.not_le, ne_eq, Decidable.not_not] at c_161
        exact absurd c_161 (hne (by omega))
      · try simp (disch := omega) only [nI_ltI, nI_leI, nI_eq, ge_iff_le, gt_iff_lt, Nat.not_lt, Nat.not_le, ne_eq, Decidable.not_not] at c_161
        refine w_iload_n dX5_step_164 rfl ?_
        refine w_ifN_ne (tgt := 173) dX5_step_165 (by decide) (fun c9 => absurd c9 ((fun h => h rfl))) (fun c_165 => ?_)
        refine w_iload dX5_step_168 rfl ?_
        refine w_ifN_eq (tgt := 201) dX5_step_170 (by decide) (fun c_170 => ?_) (fun c9 => absurd (rfl) c9)
        exact lp_st201 hR hQ
theorem lp_stSign {E : EV} {Q : OC → AH → Prop} {G : AH} {r n : Nat} {y : Nat → Nat} {w : Int32} {b e0 lo hi : Nat} {x : Int32} (hR : G.1 r = some (rdO r n b e0 w)) (hB : G.1 (r + 1) = some (aI 400 (fun i => nI (y i)))) (hn : n ≤ 400) (hy : ∀ i, y i < 256) (hb : b ≤ n) (hQ : Q (.inl none) (gs G r (rdO r n b (if b < n then b + 1 else b) w))) : Wp E 2 0 0 kX5_step Q G (0, 0) 139 [.ref r, .int (nI (b)), .int (x), .int (nI 0), .int (nI 0), .int (nI lo), .int (nI hi)] [] := by
  refine w_iload_n dX5_step_139 rfl ?_
  refine w_aload_n dX5_step_140 rfl ?_
  refine w_getf dX5_step_141 fl_X5_15 (by first | assumption | exact gs_at | (rw [gs_ne (by omega)]; (first | assumption | exact gs_at | (rw [gs_ne (by omega)]; (first | assumption | exact gs_at | (rw [gs_ne (by omega)]; (first | assumption | exact gs_at | (rw [gs_ne (by omega)]; (first | assumption | exact gs_at))))))))) rfl ?_
  refine w_icmp_ge (tgt := 201) dX5_step_144 (by decide) (fun c_144 => ?_) (fun c_144 => ?_)
  · try simp (disch := omega) only [nI_ltI, nI_leI, nI_eq, ge_iff_le, gt_iff_lt, Nat.not_lt, Nat.not_le, ne_eq, Decidable.not_not] at c_144
    rw [if_neg (by omega)] at hQ
    exact lp_st201 hR hQ
  · try simp (disch := omega) only [nI_ltI, nI_leI, nI_eq, ge_iff_le, gt_iff_lt, Nat.not_lt, Nat.not_le, ne_eq, Decidable.not_not] at c_144
    refine w_iload_n dX5_step_147 rfl ?_
    refine w_aload_n dX5_step_148 rfl ?_
    refine w_getf dX5_step_149 fl_X5_9 (by first | assumption | exact gs_at | (rw [gs_ne (by omega)]; (first | assumption | exact gs_at | (rw [gs_ne (by omega)]; (first | assumption | exact gs_at | (rw [gs_ne (by omega)]; (first | assumption | exact gs_at | (rw [gs_ne (by omega)]; (first | assumption | exact gs_at))))))))) rfl ?_
    refine w_alenI dX5_step_152 (by first | assumption | exact gs_at | (rw [gs_ne (by omega)]; (first | assumption | exact gs_at | (rw [gs_ne (by omega)]; (first | assumption | exact gs_at | (rw [gs_ne (by omega)]; (first | assumption | exact gs_at | (rw [gs_ne (by omega)]; (first | assumption | exact gs_at))))))))) ?_
    refine w_icmp_ge (tgt := 201) dX5_step_153 (by decide) (fun c_153 => ?_) (fun c_153 => ?_)
    · try simp (disch := omega) only [nI_ltI, nI_leI, nI_eq, ge_iff_le, gt_iff_lt, Nat.not_lt, Nat.not_le, ne_eq, Decidable.not_not] at c_153
      exact absurd c_153 (by omega)
    · try simp (disch := omega) only [nI_ltI, nI_leI, nI_eq, ge_iff_le, gt_iff_lt, Nat.not_lt, Nat.not_le, ne_eq, Decidable.not_not] at c_153
      refine w_iload_n dX5_step_156 rfl ?_
      refine w_aload_n dX5_step_157 rfl ?_
      refine w_getf dX5_step_158 fl_X5_19 (by first | assumption | exact gs_at | (rw [gs_ne (by omega)]; (first | assumption | exact gs_at | (rw [gs_ne (by omega)]; (first | assumption | exact gs_at | (rw [gs_ne (by omega)]; (first | assumption | exact gs_at | (rw [gs_ne (by omega)]; (first | assumption | exact gs_at))))))))) rfl ?_
      refine w_icmp_eq (tgt := 195) dX5_step_161 (by decide) (fun c_161 => ?_) (fun c9 => absurd (rfl) c9)
      first | refine w_iinc_1 dX5_step_195 (nI_inc _) rfl ?_ | refine w_iinc_1 dX5_step_195 rfl rfl ?_
      refine w_goto (tgt := 139) dX5_step_198 (by decide) ?_
      exact lp_stOne hR hB hn hy hQ (b + 1) (Or.inl rfl) (by omega) (by omega) (by rw [if_pos (by omega)])
theorem lp_sL {E : EV} {Q : OC → AH → Prop} {G : AH} {r n : Nat} {y : Nat → Nat} {w : Int32} {b e0 : Nat} (hR : G.1 r = some (rdO r n b e0 w)) (hB : G.1 (r + 1) = some (aI 400 (fun i => nI (y i)))) (hn : n ≤ 400) (hy : ∀ i, y i < 256) (hQ : Q (.inl none) (gs G r (rdO r n b (tokE y n b) w))) {x : Int32} (hbn : b < n) (h1 : 97 ≤ y b) (h2 : y b ≤ 122) : Wp E 2 0 0 kX5_step Q G (0, 0) 111 [.ref r, .int (nI b), .int x, .int (nI 1), .float 0, .float 0, .float 0] [.int (nI 0)] := by
  refine w_istore_4 dX5_step_111 rfl ?_
  refine w_iload_n dX5_step_113 rfl ?_
  refine w_ifN_eq (tgt := 122) dX5_step_114 (by decide) (fun c9 => absurd c9 (by decide)) (fun c_114 => ?_)
  refine w_bipush (v := nI 97) dX5_step_117 (by decide) ?_
  refine w_goto (tgt := 124) dX5_step_119 (by decide) ?_
  refine w_istore_5 dX5_step_124 rfl ?_
  refine w_iload_n dX5_step_126 rfl ?_
  refine w_ifN_eq (tgt := 135) dX5_step_127 (by decide) (fun c9 => absurd c9 (by decide)) (fun c_127 => ?_)
  refine w_bipush (v := nI 122) dX5_step_130 (by decide) ?_
  refine w_goto (tgt := 137) dX5_step_132 (by decide) ?_
  refine w_istore_6 dX5_step_137 rfl ?_
  refine lp_stRun hR hB hn hy (by decide) (by decide) (by decide) (fun _ => ⟨h1, h2⟩) ?_ (n - b + 1) b (by omega) (by omega) (by omega) rfl
  rw [tokE, if_pos hbn, if_pos ⟨h1, h2⟩] at hQ
  exact hQ
theorem lp_sD {E : EV} {Q : OC → AH → Prop} {G : AH} {r n : Nat} {y : Nat → Nat} {w : Int32} {b e0 : Nat} (hR : G.1 r = some (rdO r n b e0 w)) (hB : G.1 (r + 1) = some (aI 400 (fun i => nI (y i)))) (hn : n ≤ 400) (hy : ∀ i, y i < 256) (hQ : Q (.inl none) (gs G r (rdO r n b (tokE y n b) w))) {x : Int32} (hbn : b < n) (h1 : 48 ≤ y b) (h2 : y b ≤ 57) : Wp E 2 0 0 kX5_step Q G (0, 0) 111 [.ref r, .int (nI b), .int x, .int (nI 0), .float 0, .float 0, .float 0] [.int (nI 1)] := by
  refine w_istore_4 dX5_step_111 rfl ?_
  refine w_iload_n dX5_step_113 rfl ?_
  refine w_ifN_eq (tgt := 122) dX5_step_114 (by decide) (fun c_114 => ?_) (fun c9 => absurd (rfl) c9)
  refine w_bipush (v := nI 48) dX5_step_122 (by decide) ?_
  refine w_istore_5 dX5_step_124 rfl ?_
  refine w_iload_n dX5_step_126 rfl ?_
  refine w_ifN_eq (tgt := 135) dX5_step_127 (by decide) (fun c_127 => ?_) (fun c9 => absurd (rfl) c9)
  refine w_bipush (v := nI 57) dX5_step_135 (by decide) ?_
  refine w_istore_6 dX5_step_137 rfl ?_
  refine lp_stRun hR hB hn hy (by decide) (by decide) (by decide) (fun _ => ⟨h1, h2⟩) ?_ (n - b + 1) b (by omega) (by omega) (by omega) rfl
  rw [tokE, if_pos hbn, if_neg (by omega), if_pos ⟨h1, h2⟩] at hQ
  exact hQ
theorem lp_sS {E : EV} {Q : OC → AH → Prop} {G : AH} {r n : Nat} {y : Nat → Nat} {w : Int32} {b e0 : Nat} (hR : G.1 r = some (rdO r n b e0 w)) (hB : G.1 (r + 1) = some (aI 400 (fun i => nI (y i)))) (hn : n ≤ 400) (hy : ∀ i, y i < 256) (hQ : Q (.inl none) (gs G r (rdO r n b (tokE y n b) w))) {x : Int32} (hbn : b ≤ n) (h1 : b < n → ¬ (97 ≤ y b ∧ y b ≤ 122) ∧ ¬ (48 ≤ y b ∧ y b ≤ 57)) : Wp E 2 0 0 kX5_step Q G (0, 0) 111 [.ref r, .int (nI b), .int x, .int (nI 0), .float 0, .float 0, .float 0] [.int (nI 0)] := by
  refine w_istore_4 dX5_step_111 rfl ?_
  refine w_iload_n dX5_step_113 rfl ?_
  refine w_ifN_eq (tgt := 122) dX5_step_114 (by decide) (fun c_114 => ?_) (fun c9 => absurd (rfl) c9)
  refine w_bipush (v := nI 48) dX5_step_122 (by decide) ?_
  refine w_istore_5 dX5_step_124 rfl ?_
  refine w_iload_n dX5_step_126 rfl ?_
  refine w_ifN_eq (tgt := 135) dX5_step_127 (by decide) (fun c_127 => ?_) (fun c9 => absurd (rfl) c9)
  refine w_bipush (v := nI 57) dX5_step_135 (by decide) ?_
  refine w_istore_6 dX5_step_137 rfl ?_
  refine lp_stSign hR hB hn hy hbn ?_
  unfold tokE at hQ
  by_cases h : b < n
  · rw [if_pos h, if_neg (h1 h).1, if_neg (h1 h).2] at hQ
    rw [if_pos h]
    exact hQ
  · rw [if_neg h] at hQ
    rw [if_neg h]
    exact hQ
theorem lp_t1 {E : EV} {Q : OC → AH → Prop} {G : AH} {r n : Nat} {y : Nat → Nat} {w : Int32} {b e0 : Nat} (hR : G.1 r = some (rdO r n b e0 w)) (hB : G.1 (r + 1) = some (aI 400 (fun i => nI (y i)))) (hn : n ≤ 400) (hy : ∀ i, y i < 256) (hQ : Q (.inl none) (gs G r (rdO r n b (tokE y n b) w))) (hbn : b < n) (h1 : 97 ≤ y b) (h2 : y b ≤ 122) : Wp E 2 0 0 kX5_step Q G (0, 0) 93 [.ref r, .int (nI b), .int (nI (y b)), .float 0, .float 0, .float 0, .float 0] [.int (nI 1)] := by
  have hyb := hy b
  refine w_istore_3 dX5_step_93 rfl ?_
  refine w_iload_n dX5_step_94 rfl ?_
  refine w_bipush (v := nI 48) dX5_step_95 (by decide) ?_
  refine w_icmp_lt (tgt := 110) dX5_step_97 (by decide) (fun c_97 => ?_) (fun c_97 => ?_)
  · try simp (disch := omega) only [nI_ltI, nI_leI, nI_eq, ge_iff_le, gt_iff_lt, Nat.not_lt, Nat.not_le, ne_eq, Decidable.not_not] at c_97
    exact absurd c_97 (by omega)
  · try simp (disch := omega) only [nI_ltI, nI_leI, nI_eq, ge_iff_le, gt_iff_lt, Nat.not_lt, Nat.not_le, ne_eq, Decidable.not_not] at c_97
    refine w_iload_n dX5_step_100 rfl ?_
    refine w_bipush (v := nI 57) dX5_step_101 (by decide) ?_
    refine w_icmp_gt (tgt := 110) dX5_step_103 (by decide) (fun c_103 => ?_) (fun c_103 => ?_)
    · try simp (disch := omega) only [nI_ltI, nI_leI, nI_eq, ge_iff_le, gt_iff_lt, Nat.not_lt, Nat.not_le, ne_eq, Decidable.not_not] at c_103
      refine w_iconst (v := nI 0) dX5_step_110 (by decide) ?_
      exact lp_sL hR hB hn hy hQ hbn h1 h2
    · try simp (disch := omega) only [nI_ltI, nI_leI, nI_eq, ge_iff_le, gt_iff_lt, Nat.not_lt, Nat.not_le, ne_eq, Decidable.not_not] at c_103
      exact absurd c_103 (by omega)
theorem lp_t0 {E : EV} {Q : OC → AH → Prop} {G : AH} {r n : Nat} {y : Nat → Nat} {w : Int32} {b e0 : Nat} (hR : G.1 r = some (rdO r n b e0 w)) (hB : G.1 (r + 1) = some (aI 400 (fun i => nI (y i)))) (hn : n ≤ 400) (hy : ∀ i, y i < 256) (hQ : Q (.inl none) (gs G r (rdO r n b (tokE y n b) w))) (hbn : b < n) (h1 : ¬ (97 ≤ y b ∧ y b ≤ 122)) : Wp E 2 0 0 kX5_step Q G (0, 0) 93 [.ref r, .int (nI b), .int (nI (y b)), .float 0, .float 0, .float 0, .float 0] [.int (nI 0)] := by
  have hyb := hy b
  refine w_istore_3 dX5_step_93 rfl ?_
  refine w_iload_n dX5_step_94 rfl ?_
  refine w_bipush (v := nI 48) dX5_step_95 (by decide) ?_
  refine w_icmp_lt (tgt := 110) dX5_step_97 (by decide) (fun c_97 => ?_) (fun c_97 => ?_)
  · try simp (disch := omega) only [nI_ltI, nI_leI, nI_eq, ge_iff_le, gt_iff_lt, Nat.not_lt, Nat.not_le, ne_eq, Decidable.not_not] at c_97
    refine w_iconst (v := nI 0) dX5_step_110 (by decide) ?_
    first
      | exact lp_sD hR hB hn hy hQ hbn (by omega) (by omega)
      | exact lp_sS hR hB hn hy hQ (by omega) (fun _ => ⟨h1, by omega⟩)
  · try simp (disch := omega) only [nI_ltI, nI_leI, nI_eq, ge_iff_le, gt_iff_lt, Nat.not_lt, Nat.not_le, ne_eq, Decidable.not_not] at c_97
    refine w_iload_n dX5_step_100 rfl ?_
    refine w_bipush (v := nI 57) dX5_step_101 (by decide) ?_
    refine w_icmp_gt (tgt := 110) dX5_step_103 (by decide) (fun c_103 => ?_) (fun c_103 => ?_)
    · try simp (disch := omega) only [nI_ltI, nI_leI, nI_eq, ge_iff_le, gt_iff_lt, Nat.not_lt, Nat.not_le, ne_eq, Decidable.not_not] at c_103
      refine w_iconst (v := nI 0) dX5_step_110 (by decide) ?_
      first
        | exact lp_sD hR hB hn hy hQ hbn (by omega) (by omega)
        | exact lp_sS hR hB hn hy hQ (by omega) (fun _ => ⟨h1, by omega⟩)
    · try simp (disch := omega) only [nI_ltI, nI_leI, nI_eq, ge_iff_le, gt_iff_lt, Nat.not_lt, Nat.not_le, ne_eq, Decidable.not_not] at c_103
      refine w_iconst (v := nI 1) dX5_step_106 (by decide) ?_
      refine w_goto (tgt := 111) dX5_step_107 (by decide) ?_
      first
        | exact lp_sD hR hB hn hy hQ hbn (by omega) (by omega)
        | exact lp_sS hR hB hn hy hQ (by omega) (fun _ => ⟨h1, by omega⟩)
theorem lp_tE {E : EV} {Q : OC → AH → Prop} {G : AH} {r n : Nat} {y : Nat → Nat} {w : Int32} {b e0 : Nat} (hR : G.1 r = some (rdO r n b e0 w)) (hB : G.1 (r + 1) = some (aI 400 (fun i => nI (y i)))) (hn : n ≤ 400) (hy : ∀ i, y i < 256) (hQ : Q (.inl none) (gs G r (rdO r n b (tokE y n b) w))) (hbn : b = n) : Wp E 2 0 0 kX5_step Q G (0, 0) 93 [.ref r, .int (nI b), .int (-1), .float 0, .float 0, .float 0, .float 0] [.int (nI 0)] := by
  have hyb := hy b
  refine w_istore_3 dX5_step_93 rfl ?_
  refine w_iload_n dX5_step_94 rfl ?_
  refine w_bipush (v := nI 48) dX5_step_95 (by decide) ?_
  refine w_icmp_lt (tgt := 110) dX5_step_97 (by decide) (fun c_97 => ?_) (fun c9 => absurd (by decide) c9)
  refine w_iconst (v := nI 0) dX5_step_110 (by decide) ?_
  exact lp_sS hR hB hn hy hQ (by omega) (fun h => absurd h (by omega))
theorem lp_uB {E : EV} {Q : OC → AH → Prop} {G : AH} {r n : Nat} {y : Nat → Nat} {w : Int32} {b e0 : Nat} (hR : G.1 r = some (rdO r n b e0 w)) (hB : G.1 (r + 1) = some (aI 400 (fun i => nI (y i)))) (hn : n ≤ 400) (hy : ∀ i, y i < 256) (hQ : Q (.inl none) (gs G r (rdO r n b (tokE y n b) w))) (hbn : b < n) : Wp E 2 0 0 kX5_step Q G (0, 0) 75 [.ref r, .int (nI b), .float 0, .float 0, .float 0, .float 0, .float 0] [.int (nI (y b))] := by
  have hyb := hy b
  refine w_istore_2 dX5_step_75 rfl ?_
  refine w_iload_n dX5_step_76 rfl ?_
  refine w_bipush (v := nI 97) dX5_step_77 (by decide) ?_
  refine w_icmp_lt (tgt := 92) dX5_step_79 (by decide) (fun c_79 => ?_) (fun c_79 => ?_)
  · try simp (disch := omega) only [nI_ltI, nI_leI, nI_eq, ge_iff_le, gt_iff_lt, Nat.not_lt, Nat.not_le, ne_eq, Decidable.not_not] at c_79
    refine w_iconst (v := nI 0) dX5_step_92 (by decide) ?_
    first
      | exact lp_t1 hR hB hn hy hQ hbn (by omega) (by omega)
      | exact lp_t0 hR hB hn hy hQ hbn (by omega)
  · try simp (disch := omega) only [nI_ltI, nI_leI, nI_eq, ge_iff_le, gt_iff_lt, Nat.not_lt, Nat.not_le, ne_eq, Decidable.not_not] at c_79
    refine w_iload_n dX5_step_82 rfl ?_
    refine w_bipush (v := nI 122) dX5_step_83 (by decide) ?_
    refine w_icmp_gt (tgt := 92) dX5_step_85 (by decide) (fun c_85 => ?_) (fun c_85 => ?_)
    · try simp (disch := omega) only [nI_ltI, nI_leI, nI_eq, ge_iff_le, gt_iff_lt, Nat.not_lt, Nat.not_le, ne_eq, Decidable.not_not] at c_85
      refine w_iconst (v := nI 0) dX5_step_92 (by decide) ?_
      first
        | exact lp_t1 hR hB hn hy hQ hbn (by omega) (by omega)
        | exact lp_t0 hR hB hn hy hQ hbn (by omega)
    · try simp (disch := omega) only [nI_ltI, nI_leI, nI_eq, ge_iff_le, gt_iff_lt, Nat.not_lt, Nat.not_le, ne_eq, Decidable.not_not] at c_85
      refine w_iconst (v := nI 1) dX5_step_88 (by decide) ?_
      refine w_goto (tgt := 93) dX5_step_89 (by decide) ?_
      first
        | exact lp_t1 hR hB hn hy hQ hbn (by omega) (by omega)
        | exact lp_t0 hR hB hn hy hQ hbn (by omega)
theorem lp_uE {E : EV} {Q : OC → AH → Prop} {G : AH} {r n : Nat} {y : Nat → Nat} {w : Int32} {b e0 : Nat} (hR : G.1 r = some (rdO r n b e0 w)) (hB : G.1 (r + 1) = some (aI 400 (fun i => nI (y i)))) (hn : n ≤ 400) (hy : ∀ i, y i < 256) (hQ : Q (.inl none) (gs G r (rdO r n b (tokE y n b) w))) (hbn : b = n) : Wp E 2 0 0 kX5_step Q G (0, 0) 75 [.ref r, .int (nI b), .float 0, .float 0, .float 0, .float 0, .float 0] [.int (-1)] := by
  have hyb := hy b
  refine w_istore_2 dX5_step_75 rfl ?_
  refine w_iload_n dX5_step_76 rfl ?_
  refine w_bipush (v := nI 97) dX5_step_77 (by decide) ?_
  refine w_icmp_lt (tgt := 92) dX5_step_79 (by decide) (fun c_79 => ?_) (fun c9 => absurd (by decide) c9)
  refine w_iconst (v := nI 0) dX5_step_92 (by decide) ?_
  exact lp_tE hR hB hn hy hQ hbn
theorem lp_43 {E : EV} {Q : OC → AH → Prop} {G : AH} {r n : Nat} {y : Nat → Nat} {w : Int32} {b bb e0 : Nat} {z : Int32} (hR : G.1 r = some (oB 5 [.ref (r + 1), .int (nI n), .int z, .int (nI e0), .int w])) (hB : G.1 (r + 1) = some (aI 400 (fun i => nI (y i)))) (hn : n ≤ 400) (hy : ∀ i, y i < 256) (hb : b ≤ n) (hQ : Q (.inl none) (gs G r (rdO r n b (tokE y n b) w))) : Wp E 2 0 0 kX5_step Q G (0, 0) 43 [.ref r, .int (nI b), .float 0, .float 0, .float 0, .float 0, .float 0] [] := by
  refine w_aload_n dX5_step_43 rfl ?_
  refine w_iload_n dX5_step_44 rfl ?_
  refine w_putf dX5_step_45 fl_X5_19 (by first | assumption | exact gs_at | (rw [gs_ne (by omega)]; (first | assumption | exact gs_at | (rw [gs_ne (by omega)]; (first | assumption | exact gs_at | (rw [gs_ne (by omega)]; (first | assumption | exact gs_at | (rw [gs_ne (by omega)]; (first | assumption | exact gs_at))))))))) (by simp) rfl rfl ?_
  have hB1 := (gs_ne (G := G) (x := rdO r n b e0 w) (show r + 1 ≠ r by omega)).trans hB
  rw [← gs_gs (x := rdO r n b e0 w)] at hQ
  refine w_iload_n dX5_step_48 rfl ?_
  refine w_aload_n dX5_step_49 rfl ?_
  refine w_getf dX5_step_50 fl_X5_15 (by first | assumption | exact gs_at | (rw [gs_ne (by omega)]; (first | assumption | exact gs_at | (rw [gs_ne (by omega)]; (first | assumption | exact gs_at | (rw [gs_ne (by omega)]; (first | assumption | exact gs_at | (rw [gs_ne (by omega)]; (first | assumption | exact gs_at))))))))) rfl ?_
  refine w_icmp_ge (tgt := 74) dX5_step_53 (by decide) (fun c_53 => ?_) (fun c_53 => ?_)
  · try simp (disch := omega) only [nI_ltI, nI_leI, nI_eq, ge_iff_le, gt_iff_lt, Nat.not_lt, Nat.not_le, ne_eq, Decidable.not_not] at c_53
    refine w_iconst (v := (-1)) dX5_step_74 (by decide) ?_
    first
      | exact lp_uB gs_at hB1 hn hy hQ (by omega)
      | exact lp_uE gs_at hB1 hn hy hQ (by omega)
  · try simp (disch := omega) only [nI_ltI, nI_leI, nI_eq, ge_iff_le, gt_iff_lt, Nat.not_lt, Nat.not_le, ne_eq, Decidable.not_not] at c_53
    refine w_iload_n dX5_step_56 rfl ?_
    refine w_aload_n dX5_step_57 rfl ?_
    refine w_getf dX5_step_58 fl_X5_9 (by first | assumption | exact gs_at | (rw [gs_ne (by omega)]; (first | assumption | exact gs_at | (rw [gs_ne (by omega)]; (first | assumption | exact gs_at | (rw [gs_ne (by omega)]; (first | assumption | exact gs_at | (rw [gs_ne (by omega)]; (first | assumption | exact gs_at))))))))) rfl ?_
    refine w_alenI dX5_step_61 (by first | assumption | exact gs_at | (rw [gs_ne (by omega)]; (first | assumption | exact gs_at | (rw [gs_ne (by omega)]; (first | assumption | exact gs_at | (rw [gs_ne (by omega)]; (first | assumption | exact gs_at | (rw [gs_ne (by omega)]; (first | assumption | exact gs_at))))))))) ?_
    refine w_icmp_ge (tgt := 74) dX5_step_62 (by decide) (fun c_62 => ?_) (fun c_62 => ?_)
    · try simp (disch := omega) only [nI_ltI, nI_leI, nI_eq, ge_iff_le, gt_iff_lt, Nat.not_lt, Nat.not_le, ne_eq, Decidable.not_not] at c_62
      exact absurd c_62 (by omega)
    · try simp (disch := omega) only [nI_ltI, nI_leI, nI_eq, ge_iff_le, gt_iff_lt, Nat.not_lt, Nat.not_le, ne_eq, Decidable.not_not] at c_62
      refine w_aload_n dX5_step_65 rfl ?_
      refine w_getf dX5_step_66 fl_X5_9 (by first | assumption | exact gs_at | (rw [gs_ne (by omega)]; (first | assumption | exact gs_at | (rw [gs_ne (by omega)]; (first | assumption | exact gs_at | (rw [gs_ne (by omega)]; (first | assumption | exact gs_at | (rw [gs_ne (by omega)]; (first | assumption | exact gs_at))))))))) rfl ?_
      refine w_iload_n dX5_step_69 rfl ?_
      refine w_iaload dX5_step_70 (by first | assumption | exact gs_at | (rw [gs_ne (by omega)]; (first | assumption | exact gs_at | (rw [gs_ne (by omega)]; (first | assumption | exact gs_at | (rw [gs_ne (by omega)]; (first | assumption | exact gs_at | (rw [gs_ne (by omega)]; (first | assumption | exact gs_at))))))))) (vp_in_nI (by omega) (by decide)) ?_
      rw [nI_clamp (show b < 2 ^ 31 by omega)]
      refine w_goto (tgt := 75) dX5_step_71 (by decide) ?_
      first
        | exact lp_uB gs_at hB1 hn hy hQ (by omega)
        | exact lp_uE gs_at hB1 hn hy hQ (by omega)
theorem lp_blank {E : EV} {Q : OC → AH → Prop} {G : AH} {r n : Nat} {y : Nat → Nat} {w : Int32} {bb e0 b : Nat} {z : Int32} (hR : G.1 r = some (oB 5 [.ref (r + 1), .int (nI n), .int z, .int (nI e0), .int w])) (hB : G.1 (r + 1) = some (aI 400 (fun i => nI (y i)))) (hn : n ≤ 400) (hy : ∀ i, y i < 256) (hQ : Q (.inl none) (gs G r (rdO r n b (tokE y n b) w))) : ∀ (k p : Nat), n - p < k → p ≤ n → skp y n p = b → Wp E 2 0 0 kX5_step Q G (0, 0) 9 [.ref r, .int (nI p), .float 0, .float 0, .float 0, .float 0, .float 0] [] := by
  intro k
  induction k with
  | zero => intro p h; exact absurd h (by omega)
  | succ k ih =>
    intro p hk hpn he
    have hyp := hy p
    refine w_iload_n dX5_step_9 rfl ?_
    refine w_aload_n dX5_step_10 rfl ?_
    refine w_getf dX5_step_11 fl_X5_15 (by first | assumption | exact gs_at | (rw [gs_ne (by omega)]; (first | assumption | exact gs_at | (rw [gs_ne (by omega)]; (first | assumption | exact gs_at | (rw [gs_ne (by omega)]; (first | assumption | exact gs_at | (rw [gs_ne (by omega)]; (first | assumption | exact gs_at))))))))) rfl ?_
    refine w_icmp_ge (tgt := 43) dX5_step_14 (by decide) (fun c_14 => ?_) (fun c_14 => ?_)
    · try simp (disch := omega) only [nI_ltI, nI_leI, nI_eq, ge_iff_le, gt_iff_lt, Nat.not_lt, Nat.not_le, ne_eq, Decidable.not_not] at c_14
      rw [skp_out (by omega)] at he
      subst he
      exact lp_43 (bb := 0) hR hB hn hy hpn hQ
    · try simp (disch := omega) only [nI_ltI, nI_leI, nI_eq, ge_iff_le, gt_iff_lt, Nat.not_lt, Nat.not_le, ne_eq, Decidable.not_not] at c_14
      refine w_iload_n dX5_step_17 rfl ?_
      refine w_aload_n dX5_step_18 rfl ?_
      refine w_getf dX5_step_19 fl_X5_9 (by first | assumption | exact gs_at | (rw [gs_ne (by omega)]; (first | assumption | exact gs_at | (rw [gs_ne (by omega)]; (first | assumption | exact gs_at | (rw [gs_ne (by omega)]; (first | assumption | exact gs_at | (rw [gs_ne (by omega)]; (first | assumption | exact gs_at))))))))) rfl ?_
      refine w_alenI dX5_step_22 (by first | assumption | exact gs_at | (rw [gs_ne (by omega)]; (first | assumption | exact gs_at | (rw [gs_ne (by omega)]; (first | assumption | exact gs_at | (rw [gs_ne (by omega)]; (first | assumption | exact gs_at | (rw [gs_ne (by omega)]; (first | assumption | exact gs_at))))))))) ?_
      refine w_icmp_ge (tgt := 43) dX5_step_23 (by decide) (fun c_23 => ?_) (fun c_23 => ?_)
      · try simp (disch := omega) only [nI_ltI, nI_leI, nI_eq, ge_iff_le, gt_iff_lt, Nat.not_lt, Nat.not_le, ne_eq, Decidable.not_not] at c_23
        exact absurd c_23 (by omega)
      · try simp (disch := omega) only [nI_ltI, nI_leI, nI_eq, ge_iff_le, gt_iff_lt, Nat.not_lt, Nat.not_le, ne_eq, Decidable.not_not] at c_23
        refine w_aload_n dX5_step_26 rfl ?_
        refine w_getf dX5_step_27 fl_X5_9 (by first | assumption | exact gs_at | (rw [gs_ne (by omega)]; (first | assumption | exact gs_at | (rw [gs_ne (by omega)]; (first | assumption | exact gs_at | (rw [gs_ne (by omega)]; (first | assumption | exact gs_at | (rw [gs_ne (by omega)]; (first | assumption | exact gs_at))))))))) rfl ?_
        refine w_iload_n dX5_step_30 rfl ?_
        refine w_iaload dX5_step_31 (by first | assumption | exact gs_at | (rw [gs_ne (by omega)]; (first | assumption | exact gs_at | (rw [gs_ne (by omega)]; (first | assumption | exact gs_at | (rw [gs_ne (by omega)]; (first | assumption | exact gs_at | (rw [gs_ne (by omega)]; (first | assumption | exact gs_at))))))))) (vp_in_nI (by omega) (by decide)) ?_
        rw [nI_clamp (show p < 2 ^ 31 by omega)]
        refine w_bipush (v := nI 32) dX5_step_32 (by decide) ?_
        refine w_icmp_ne (tgt := 43) dX5_step_34 (by decide) (fun c_34 => ?_) (fun c_34 => ?_)
        · try simp (disch := omega) only [nI_ltI, nI_leI, nI_eq, ge_iff_le, gt_iff_lt, Nat.not_lt, Nat.not_le, ne_eq, Decidable.not_not] at c_34
          rw [skp_out (by omega)] at he
          subst he
          exact lp_43 (bb := 0) hR hB hn hy hpn hQ
        · try simp (disch := omega) only [nI_ltI, nI_leI, nI_eq, ge_iff_le, gt_iff_lt, Nat.not_lt, Nat.not_le, ne_eq, Decidable.not_not] at c_34
          first | refine w_iinc_1 dX5_step_37 (nI_inc _) rfl ?_ | refine w_iinc_1 dX5_step_37 rfl rfl ?_
          refine w_goto (tgt := 9) dX5_step_40 (by decide) ?_
          rw [skp_in hn (by omega) c_34] at he
          exact ih (p + 1) (by omega) (by omega) he
theorem c_step {E : EV} {G : AH} {r n : Nat} {y : Nat → Nat} {w : Int32} {bb e0 : Nat} {z : Int32} (hR : G.1 r = some (oB 5 [.ref (r + 1), .int (nI n), .int z, .int (nI e0), .int w])) (hB : G.1 (r + 1) = some (aI 400 (fun i => nI (y i)))) (hn : n ≤ 400) (hy : ∀ i, y i < 256) (he : e0 ≤ n) : Cd E 2 kX5_step [.ref r] G (fun G1 => Rd G1 r y n (skp y n e0, w) ∧ FrR G G1 r) := by
  refine Ct.intro rfl (by decide) [.ref r, .float 0, .float 0, .float 0, .float 0, .float 0, .float 0] (by simp [Value.category]) (Nat.le_of_ble_eq_true rfl) rfl ?_
  refine w_iconst (v := nI 0) dX5_step_0 (by decide) ?_
  refine w_aload_n dX5_step_1 rfl ?_
  refine w_getf dX5_step_2 fl_X5_22 (by first | assumption | exact gs_at | (rw [gs_ne (by omega)]; (first | assumption | exact gs_at | (rw [gs_ne (by omega)]; (first | assumption | exact gs_at | (rw [gs_ne (by omega)]; (first | assumption | exact gs_at | (rw [gs_ne (by omega)]; (first | assumption | exact gs_at))))))))) rfl ?_
  refine wJ2u dX5_step_5 lk_X5_41 rfl (c_max (by decide) (by omega)) (Nat.le_of_ble_eq_true rfl) (Nat.le_of_ble_eq_true rfl) (Nat.le_of_ble_eq_true rfl) (Nat.le_of_ble_eq_true rfl) ?_
  rw [show max 0 e0 = e0 from by omega]
  refine w_istore_1 dX5_step_8 rfl ?_
  refine lp_blank (bb := 0) hR hB hn hy ⟨rfl, ⟨gs_at, (gs_ne (by omega)).trans hB, hn, (skp_le he).2, hy, skp_stop hn⟩, FrR.gs⟩ (n - e0 + 1) e0 (by omega) he rfl
