/-! the model: a law's sums and comparisons -/
theorem w_zretN {E : EV} {d mc ms : Nat} {K : MR} {Q : OC → AH → Prop} {G : AH} {cs : Nat × Nat} {pc : Nat} {L : List Value} {v w : Int32} (hd : decode K.2.1 pc = .ok (.ireturn, 1)) (hr : K.2.2.2.1 = some .boolean) (hn : narrow .boolean (.int v) = .int w) (h1 : cs.1 ≤ mc) (h2 : cs.2 ≤ ms) (h : Q (.inl (some (.int w))) G) : Wp E d mc ms K Q G cs pc L [.int v] := fun p e s m args below meth c H locs ls C Rp S hl =>
  W.widen h1 h2 (vx_ret (by
    intro T hT X
    have hlocks : meth.locks = false := C.2.2.2.2.2.2.1
    have hr2 : meth.sig.returnType = some .boolean := C.2.2.1.trans hr
    obtain ⟨fs, hret, hrun, hended, hW, hframe⟩ := X.leave (v := some (.int w)) (fun h9 => by rw [hr2] at h9; cases h9)
    have hmeth' : T.vm.method? m = some meth := X.method'
    have hT2 : (T.setFrames fs).heap = H := hT
    refine ⟨T.setFrames fs, ?_, .returned (some (.int w)), hrun, hended, ⟨⟨_, G, rfl, h, by rw [hT2]; exact Rp⟩, S.F hT2⟩, locs, ⟨⟨_, rfl⟩, hW, hframe⟩, S.2.2⟩
    jvm_step X.here [X.here.top, C.1, C.2.1, hd, hmeth', hr2, hn]
    (try refine ⟨rfl, ?_⟩); (try refine ⟨rfl, ?_⟩)
    first | (intro acts; rw [hret _ acts rfl rfl rfl]) | rw [hret _ _ rfl rfl rfl]
    exact Steps.refl _))
abbrev Bo (r : Int32) : Prop := narrow .boolean (.int r) = .int r
theorem Bo.of (v : Int32) : Bo (v &&& 1) := by
  show Value.int (v &&& 1 &&& 1) = Value.int (v &&& 1)
  rw [Int32.and_assoc, Int32.and_self]
theorem Bo.b2 {p : Prop} [Decidable p] : Bo (nI (b2 p)) := b2_bool p
theorem Bo.v {v : Nat} (h : v ≤ 1) : nI v &&& 1 = nI v := by
  rcases Nat.le_one_iff_eq_zero_or_eq_one.mp h with h | h <;> subst h <;> decide
/-- the facts that a law is asked by -/
def FOK (T : ST) (k : Nat) (F : Nat → Int32) (io hm_ : Int32) : Prop := F 0 = nI k ∧ F 1 = nI (T 1 k) ∧ F 2 = nI (T 2 k) ∧ F 3 = nI (T 3 k) ∧ F 4 = nI (thereN T) ∧ F 5 = nI (T 12 3 % 182) ∧ F 6 = nI (T 7 (T 1 k)) ∧ io = nI (b2 (T 4 k = thereN T)) ∧ hm_ = nI (b2 (T 1 k = T 0 k)) ∧ k < 12 ∧ Bd T
def cdJ : Nat → Int32 | 0 => -1 | 1 => -2 | 2 => -3 | 3 => -4 | 4 => -5 | 5 => -6 | _ => -7
theorem thereN_le (T : ST) : thereN T ≤ 1 := by unfold thereN; first | (split <;> omega) | exact b2_le _
theorem FOK.at {T : ST} {k : Nat} {F : Nat → Int32} {io hm_ : Int32} (h : FOK T k F io hm_) : ∀ j, j < 7 → ∃ a, a ≤ 999 ∧ F j = nI a ∧ SmV T k [cdJ j] a := by
  obtain ⟨f0, f1, f2, f3, f4, f5, f6, -, -, hk, hB⟩ := h
  have b1 := hB.2.1 k; have b2_ := hB.2.2.1 k; have b3 := hB.2.2.2.1 k; have b5 := hB.2.2.2.2.1 k; have b6 := hB.2.2.2.2.2.1 k; have b8 := hB.2.2.2.2.2.2.2.2.1 (T 1 k)
  have b0 := thereN_le T
  intro j hj
  match j, hj with
  | 0, _ => exact ⟨_, by omega, f0, SmV.one (by decide) (by rw [cdJ, if_pos (by decide), partV, if_pos rfl])⟩
  | 1, _ => exact ⟨_, by omega, f1, SmV.one (by decide) (by rw [cdJ, if_pos (by decide), partV, if_neg (by decide), if_pos rfl])⟩
  | 2, _ => exact ⟨_, by omega, f2, SmV.one (by decide) (by rw [cdJ, if_pos (by decide), partV, if_neg (by decide), if_neg (by decide), if_pos rfl])⟩
  | 3, _ => exact ⟨_, by omega, f3, SmV.one (by decide) (by rw [cdJ, if_pos (by decide), partV, if_neg (by decide), if_neg (by decide), if_neg (by decide), if_pos rfl])⟩
  | 4, _ => exact ⟨_, by omega, f4, SmV.one (by decide) (by rw [cdJ, if_pos (by decide), partV, if_neg (by decide), if_neg (by decide), if_neg (by decide), if_neg (by decide), if_pos rfl])⟩
  | 5, _ => exact ⟨_, by omega, f5, SmV.one (by decide) (by rw [cdJ, if_pos (by decide), partV, if_neg (by decide), if_neg (by decide), if_neg (by decide), if_neg (by decide), if_neg (by decide), if_pos rfl])⟩
  | 6, _ => exact ⟨_, by omega, f6, SmV.one (by decide) (by show (if (-7 : Int32) < nI 0 then partV T k (-7) else -7) = _; rw [if_pos (by decide), partV, if_neg (by decide), if_neg (by decide), if_neg (by decide), if_neg (by decide), if_neg (by decide), if_neg (by decide)])⟩
  | j + 7, h => exact absurd h (by omega)
theorem SmV.num {T : ST} {k v : Nat} (hv : v < 2 ^ 30) : SmV T k [nI v] v := by
  have h0 : ¬ nI v < nI 0 := by rw [nI_ltI (by omega) (by omega)]; omega
  exact SmV.one (fun h => h0 (Int32.lt_of_lt_of_le h (by decide))) (if_neg h0)
/-- what is read, at R -/
def LPo (G : AH) (V n : Nat) (th hi ac tp ba dp io hm_ we sh so : Int32) (y : Nat → Nat) (N : Nat) (R : RS) (G1 : AH) : Prop := ∃ p2 dp2, p2 ≤ N ∧ G1 = gs G V (mO V th hi ac tp ba (nI n) (nI (p2)) (R.2) dp2 io hm_ we sh so) ∧ (R.2 = -1 → p2 ≤ n ∧ skp y n p2 = R.1 ∧ dp2 = dp)
theorem pC_dig {y : Nat → Nat} {n p : Nat} (h : isD y n p = true) : pC y n p = 0 := by
  have hd := isD_iff.mp h
  have key : ∀ {c : Nat} {ws : List Nat}, 97 ≤ c → ¬ atB y n p (c :: ws) = true := fun {c ws} hc h9 => by
    have h1 := (atB_iff.mp h9).2 0 (by rw [List.length_cons]; omega)
    have h2 : c = y (p + 0) := h1
    rw [Nat.add_zero] at h2
    omega
  unfold pC
  rw [if_neg (key (by decide)), if_neg (key (by decide)), if_neg (key (by decide)), if_neg (key (by decide)), if_neg (key (by decide)), if_neg (key (by decide)), if_neg (key (by decide))]
theorem ml_part145 {E : EV} {Q : OC → AH → Prop} {V n p : Nat} {th hi ac tp ba dp io hm_ we sh so : Int32} {G : AH} {F : Nat → Int32} {j : Nat} {z : Value} (hj : j < 7) (hV : G.1 V = some (mO V th hi ac tp ba (nI n) (nI (p)) (-1) dp io hm_ we sh so)) (hF : G.1 (V + 6) = some (aI 7 F)) (hQ : Q (.inl (some (.int (F j)))) G) : Wp E 8 0 0 kX8_part Q G (0, 0) 145 [.ref V, z] [.int (nI j)] := by
  refine w_istore_1 dX8_part_145 rfl ?_
  refine w_iload_n dX8_part_146 rfl ?_
  refine w_iconst (v := (-1)) dX8_part_147 (by decide) ?_
  refine w_icmp_ne (tgt := 161) dX8_part_148 (by decide) (fun c_148 => ?_) (fun c_148 => ?_)
  · skip
    refine w_aload_n dX8_part_161 rfl ?_
    refine w_getf dX8_part_162 fl_X8_29 (by first | assumption | exact gs_at | (rw [gs_ne (by omega)]; (first | assumption | exact gs_at | (rw [gs_ne (by omega)]; (first | assumption | exact gs_at | (rw [gs_ne (by omega)]; (first | assumption | exact gs_at | (rw [gs_ne (by omega)]; (first | assumption | exact gs_at))))))))) rfl ?_
    refine w_iload_n dX8_part_165 rfl ?_
    refine w_iaload dX8_part_166 (by first | assumption | exact gs_at | (rw [gs_ne (by omega)]; (first | assumption | exact gs_at | (rw [gs_ne (by omega)]; (first | assumption | exact gs_at | (rw [gs_ne (by omega)]; (first | assumption | exact gs_at | (rw [gs_ne (by omega)]; (first | assumption | exact gs_at))))))))) (vp_in_nI hj (by decide)) ?_
    rw [nI_clamp (by omega)]
    first | rw [r3] | rw [r4] | rw [r5] | rw [r6] | rw [r0] | rw [r11] | rw [r12] | rw [r7 _ (by omega)] | rw [r9 _ (by omega)] | rw [r14 _ (by omega)] | rw [r20 _ (by omega)] | rw [r26 _ _ (by omega) (by omega)] | skip
    refine w_iret dX8_part_167 rfl (Nat.le_of_ble_eq_true rfl) (Nat.le_of_ble_eq_true rfl) ?_
    exact hQ
  · skip
    exact absurd c_148 (nI_nm1 (by omega))
theorem ml_partNo {E : EV} {Q : OC → AH → Prop} {V n p : Nat} {th hi ac tp ba dp io hm_ we sh so : Int32} {G : AH} {z : Value} (hV : G.1 V = some (mO V th hi ac tp ba (nI n) (nI (p)) (-1) dp io hm_ we sh so)) (hQ : Q (.inl (some (.int (nI 0)))) (gs G V (mO V th hi ac tp ba (nI n) (nI (p)) (nI p) dp io hm_ we sh so))) : Wp E 8 0 0 kX8_part Q G (0, 0) 145 [.ref V, z] [.int (-1)] := by
  refine w_istore_1 dX8_part_145 rfl ?_
  refine w_iload_n dX8_part_146 rfl ?_
  refine w_iconst (v := (-1)) dX8_part_147 (by decide) ?_
  refine w_icmp_ne (tgt := 161) dX8_part_148 (by decide) (fun c_148 => ?_) (fun c_148 => ?_)
  · skip
    exact absurd rfl c_148
  · skip
    refine w_aload_n dX8_part_151 rfl ?_
    refine w_aload_n dX8_part_152 rfl ?_
    refine w_getf dX8_part_153 fl_X8_56 (by first | assumption | exact gs_at | (rw [gs_ne (by omega)]; (first | assumption | exact gs_at | (rw [gs_ne (by omega)]; (first | assumption | exact gs_at | (rw [gs_ne (by omega)]; (first | assumption | exact gs_at | (rw [gs_ne (by omega)]; (first | assumption | exact gs_at))))))))) rfl ?_
    refine wV1n dX8_part_156 lk_X8_82 rfl (by first | assumption | exact gs_at | (rw [gs_ne (by omega)]; (first | assumption | exact gs_at | (rw [gs_ne (by omega)]; (first | assumption | exact gs_at | (rw [gs_ne (by omega)]; (first | assumption | exact gs_at | (rw [gs_ne (by omega)]; (first | assumption | exact gs_at))))))))) rfl rfl (m_wrongF hV) (Nat.le_of_ble_eq_true rfl) (Nat.le_of_ble_eq_true rfl) (Nat.le_of_ble_eq_true rfl) (Nat.le_of_ble_eq_true rfl) ?_
    refine w_iconst (v := nI 0) dX8_part_159 (by decide) ?_
    refine w_iret dX8_part_160 rfl (Nat.le_of_ble_eq_true rfl) (Nat.le_of_ble_eq_true rfl) ?_
    exact hQ
theorem ml_part52 {E : EV} {Q : OC → AH → Prop} {V n b : Nat} {th hi ac tp ba dp io hm_ we sh so : Int32} {y : Nat → Nat} {G : AH} {F : Nat → Int32} {z : Value} (hT : TxP G V ba y n) (hn : n ≤ 400) (hy : ∀ i, y i < 256) (hb0 : b ≤ n) (hbb : skp y n b = b) (hF : G.1 (V + 6) = some (aI 7 F)) (hyes : ∀ j, j < 7 → pC y n b = cdJ j → Q (.inl (some (.int (F j)))) (gs G V (mO V th hi ac tp ba (nI n) (nI (tokE y n b)) (-1) dp io hm_ we sh so))) (hno : pC y n b = 0 → Q (.inl (some (.int (nI 0)))) (gs G V (mO V th hi ac tp ba (nI n) (nI (b)) (nI b) dp io hm_ we sh so))) : Wp E 8 0 0 kX8_part Q (gs G V (mO V th hi ac tp ba (nI n) (nI (b)) (-1) dp io hm_ we sh so)) (0, 0) 52 [.ref V, z] [] := by
  refine w_aload_n dX8_part_52 rfl ?_
  refine w_ldcS (i := 49) rfl rfl dX8_part_53 ?_
  refine wV1i dX8_part_55 lk_X8_86 rfl (by first | assumption | exact gs_at | (rw [gs_ne (by omega)]; (first | assumption | exact gs_at | (rw [gs_ne (by omega)]; (first | assumption | exact gs_at | (rw [gs_ne (by omega)]; (first | assumption | exact gs_at | (rw [gs_ne (by omega)]; (first | assumption | exact gs_at))))))))) rfl rfl (m_has (ws := [105, 116, 101, 109]) rfl rfl (by decide) (by decide) (by decide) (by decide) gs_at hT.gs hn hy hb0) (Nat.le_of_ble_eq_true rfl) (Nat.le_of_ble_eq_true rfl) (Nat.le_of_ble_eq_true rfl) (Nat.le_of_ble_eq_true rfl) (fun r_55 G_55 h_55 => ?_)
  obtain ⟨k2_55, k3_55⟩ := h_55
  rw [hbb, gs_gs] at k3_55
  rw [hbb] at k2_55
  subst k2_55
  refine w_ifN_eq (tgt := 65) dX8_part_58 (by decide) (fun c_58 => ?_) (fun c_58 => ?_)
  · try simp (disch := omega) only [nI_b2, Decidable.not_not, nI_ltI, nI_leI, nI_eq, ge_iff_le, gt_iff_lt, ne_eq, Nat.not_lt, Nat.not_le] at c_58
    rw [if_neg c_58] at k3_55
    subst k3_55
    refine w_aload_n dX8_part_65 rfl ?_
    refine w_ldcS (i := 50) rfl rfl dX8_part_66 ?_
    refine wV1i dX8_part_68 lk_X8_86 rfl (by first | assumption | exact gs_at | (rw [gs_ne (by omega)]; (first | assumption | exact gs_at | (rw [gs_ne (by omega)]; (first | assumption | exact gs_at | (rw [gs_ne (by omega)]; (first | assumption | exact gs_at | (rw [gs_ne (by omega)]; (first | assumption | exact gs_at))))))))) rfl rfl (m_has (ws := [114, 111, 111, 109]) rfl rfl (by decide) (by decide) (by decide) (by decide) gs_at hT.gs hn hy hb0) (Nat.le_of_ble_eq_true rfl) (Nat.le_of_ble_eq_true rfl) (Nat.le_of_ble_eq_true rfl) (Nat.le_of_ble_eq_true rfl) (fun r_68 G_68 h_68 => ?_)
    obtain ⟨k2_68, k3_68⟩ := h_68
    rw [hbb, gs_gs] at k3_68
    rw [hbb] at k2_68
    subst k2_68
    refine w_ifN_eq (tgt := 78) dX8_part_71 (by decide) (fun c_71 => ?_) (fun c_71 => ?_)
    · try simp (disch := omega) only [nI_b2, Decidable.not_not, nI_ltI, nI_leI, nI_eq, ge_iff_le, gt_iff_lt, ne_eq, Nat.not_lt, Nat.not_le] at c_71
      rw [if_neg c_71] at k3_68
      subst k3_68
      refine w_aload_n dX8_part_78 rfl ?_
      refine w_ldcS (i := 51) rfl rfl dX8_part_79 ?_
      refine wV1i dX8_part_81 lk_X8_86 rfl (by first | assumption | exact gs_at | (rw [gs_ne (by omega)]; (first | assumption | exact gs_at | (rw [gs_ne (by omega)]; (first | assumption | exact gs_at | (rw [gs_ne (by omega)]; (first | assumption | exact gs_at | (rw [gs_ne (by omega)]; (first | assumption | exact gs_at))))))))) rfl rfl (m_has (ws := [119, 111, 114, 110]) rfl rfl (by decide) (by decide) (by decide) (by decide) gs_at hT.gs hn hy hb0) (Nat.le_of_ble_eq_true rfl) (Nat.le_of_ble_eq_true rfl) (Nat.le_of_ble_eq_true rfl) (Nat.le_of_ble_eq_true rfl) (fun r_81 G_81 h_81 => ?_)
      obtain ⟨k2_81, k3_81⟩ := h_81
      rw [hbb, gs_gs] at k3_81
      rw [hbb] at k2_81
      subst k2_81
      refine w_ifN_eq (tgt := 91) dX8_part_84 (by decide) (fun c_84 => ?_) (fun c_84 => ?_)
      · try simp (disch := omega) only [nI_b2, Decidable.not_not, nI_ltI, nI_leI, nI_eq, ge_iff_le, gt_iff_lt, ne_eq, Nat.not_lt, Nat.not_le] at c_84
        rw [if_neg c_84] at k3_81
        subst k3_81
        refine w_aload_n dX8_part_91 rfl ?_
        refine w_ldcS (i := 52) rfl rfl dX8_part_92 ?_
        refine wV1i dX8_part_94 lk_X8_86 rfl (by first | assumption | exact gs_at | (rw [gs_ne (by omega)]; (first | assumption | exact gs_at | (rw [gs_ne (by omega)]; (first | assumption | exact gs_at | (rw [gs_ne (by omega)]; (first | assumption | exact gs_at | (rw [gs_ne (by omega)]; (first | assumption | exact gs_at))))))))) rfl rfl (m_has (ws := [118, 97, 108, 117, 101]) rfl rfl (by decide) (by decide) (by decide) (by decide) gs_at hT.gs hn hy hb0) (Nat.le_of_ble_eq_true rfl) (Nat.le_of_ble_eq_true rfl) (Nat.le_of_ble_eq_true rfl) (Nat.le_of_ble_eq_true rfl) (fun r_94 G_94 h_94 => ?_)
        obtain ⟨k2_94, k3_94⟩ := h_94
        rw [hbb, gs_gs] at k3_94
        rw [hbb] at k2_94
        subst k2_94
        refine w_ifN_eq (tgt := 104) dX8_part_97 (by decide) (fun c_97 => ?_) (fun c_97 => ?_)
        · try simp (disch := omega) only [nI_b2, Decidable.not_not, nI_ltI, nI_leI, nI_eq, ge_iff_le, gt_iff_lt, ne_eq, Nat.not_lt, Nat.not_le] at c_97
          rw [if_neg c_97] at k3_94
          subst k3_94
          refine w_aload_n dX8_part_104 rfl ?_
          refine w_ldcS (i := 53) rfl rfl dX8_part_105 ?_
          refine wV1i dX8_part_107 lk_X8_86 rfl (by first | assumption | exact gs_at | (rw [gs_ne (by omega)]; (first | assumption | exact gs_at | (rw [gs_ne (by omega)]; (first | assumption | exact gs_at | (rw [gs_ne (by omega)]; (first | assumption | exact gs_at | (rw [gs_ne (by omega)]; (first | assumption | exact gs_at))))))))) rfl rfl (m_has (ws := [115, 105, 100, 101]) rfl rfl (by decide) (by decide) (by decide) (by decide) gs_at hT.gs hn hy hb0) (Nat.le_of_ble_eq_true rfl) (Nat.le_of_ble_eq_true rfl) (Nat.le_of_ble_eq_true rfl) (Nat.le_of_ble_eq_true rfl) (fun r_107 G_107 h_107 => ?_)
          obtain ⟨k2_107, k3_107⟩ := h_107
          rw [hbb, gs_gs] at k3_107
          rw [hbb] at k2_107
          subst k2_107
          refine w_ifN_eq (tgt := 117) dX8_part_110 (by decide) (fun c_110 => ?_) (fun c_110 => ?_)
          · try simp (disch := omega) only [nI_b2, Decidable.not_not, nI_ltI, nI_leI, nI_eq, ge_iff_le, gt_iff_lt, ne_eq, Nat.not_lt, Nat.not_le] at c_110
            rw [if_neg c_110] at k3_107
            subst k3_107
            refine w_aload_n dX8_part_117 rfl ?_
            refine w_ldcS (i := 54) rfl rfl dX8_part_118 ?_
            refine wV1i dX8_part_120 lk_X8_86 rfl (by first | assumption | exact gs_at | (rw [gs_ne (by omega)]; (first | assumption | exact gs_at | (rw [gs_ne (by omega)]; (first | assumption | exact gs_at | (rw [gs_ne (by omega)]; (first | assumption | exact gs_at | (rw [gs_ne (by omega)]; (first | assumption | exact gs_at))))))))) rfl rfl (m_has (ws := [100, 97, 121]) rfl rfl (by decide) (by decide) (by decide) (by decide) gs_at hT.gs hn hy hb0) (Nat.le_of_ble_eq_true rfl) (Nat.le_of_ble_eq_true rfl) (Nat.le_of_ble_eq_true rfl) (Nat.le_of_ble_eq_true rfl) (fun r_120 G_120 h_120 => ?_)
            obtain ⟨k2_120, k3_120⟩ := h_120
            rw [hbb, gs_gs] at k3_120
            rw [hbb] at k2_120
            subst k2_120
            refine w_ifN_eq (tgt := 130) dX8_part_123 (by decide) (fun c_123 => ?_) (fun c_123 => ?_)
            · try simp (disch := omega) only [nI_b2, Decidable.not_not, nI_ltI, nI_leI, nI_eq, ge_iff_le, gt_iff_lt, ne_eq, Nat.not_lt, Nat.not_le] at c_123
              rw [if_neg c_123] at k3_120
              subst k3_120
              refine w_aload_n dX8_part_130 rfl ?_
              refine w_ldcS (i := 55) rfl rfl dX8_part_131 ?_
              refine wV1i dX8_part_133 lk_X8_86 rfl (by first | assumption | exact gs_at | (rw [gs_ne (by omega)]; (first | assumption | exact gs_at | (rw [gs_ne (by omega)]; (first | assumption | exact gs_at | (rw [gs_ne (by omega)]; (first | assumption | exact gs_at | (rw [gs_ne (by omega)]; (first | assumption | exact gs_at))))))))) rfl rfl (m_has (ws := [115, 111, 105, 108, 101, 100]) rfl rfl (by decide) (by decide) (by decide) (by decide) gs_at hT.gs hn hy hb0) (Nat.le_of_ble_eq_true rfl) (Nat.le_of_ble_eq_true rfl) (Nat.le_of_ble_eq_true rfl) (Nat.le_of_ble_eq_true rfl) (fun r_133 G_133 h_133 => ?_)
              obtain ⟨k2_133, k3_133⟩ := h_133
              rw [hbb, gs_gs] at k3_133
              rw [hbb] at k2_133
              subst k2_133
              refine w_ifN_eq (tgt := 144) dX8_part_136 (by decide) (fun c_136 => ?_) (fun c_136 => ?_)
              · try simp (disch := omega) only [nI_b2, Decidable.not_not, nI_ltI, nI_leI, nI_eq, ge_iff_le, gt_iff_lt, ne_eq, Nat.not_lt, Nat.not_le] at c_136
                rw [if_neg c_136] at k3_133
                subst k3_133
                refine w_iconst (v := (-1)) dX8_part_144 (by decide) ?_
                first
                  | exact ml_part145 (j := 0) (by decide) gs_at ((gs_ne (by omega)).trans hF) (hyes 0 (by decide) (by rw [pC, if_pos c_58]; rfl))
                  | exact ml_part145 (j := 1) (by decide) gs_at ((gs_ne (by omega)).trans hF) (hyes 1 (by decide) (by rw [pC, if_neg c_58, if_pos c_71]; rfl))
                  | exact ml_part145 (j := 2) (by decide) gs_at ((gs_ne (by omega)).trans hF) (hyes 2 (by decide) (by rw [pC, if_neg c_58, if_neg c_71, if_pos c_84]; rfl))
                  | exact ml_part145 (j := 3) (by decide) gs_at ((gs_ne (by omega)).trans hF) (hyes 3 (by decide) (by rw [pC, if_neg c_58, if_neg c_71, if_neg c_84, if_pos c_97]; rfl))
                  | exact ml_part145 (j := 4) (by decide) gs_at ((gs_ne (by omega)).trans hF) (hyes 4 (by decide) (by rw [pC, if_neg c_58, if_neg c_71, if_neg c_84, if_neg c_97, if_pos c_110]; rfl))
                  | exact ml_part145 (j := 5) (by decide) gs_at ((gs_ne (by omega)).trans hF) (hyes 5 (by decide) (by rw [pC, if_neg c_58, if_neg c_71, if_neg c_84, if_neg c_97, if_neg c_110, if_pos c_123]; rfl))
                  | exact ml_part145 (j := 6) (by decide) gs_at ((gs_ne (by omega)).trans hF) (hyes 6 (by decide) (by rw [pC, if_neg c_58, if_neg c_71, if_neg c_84, if_neg c_97, if_neg c_110, if_neg c_123, if_pos c_136]; rfl))
                  | exact ml_partNo gs_at (by rw [gs_gs]; exact hno (by rw [pC, if_neg c_58, if_neg c_71, if_neg c_84, if_neg c_97, if_neg c_110, if_neg c_123, if_neg c_136]))
              · try simp (disch := omega) only [nI_b2, Decidable.not_not, nI_ltI, nI_leI, nI_eq, ge_iff_le, gt_iff_lt, ne_eq, Nat.not_lt, Nat.not_le] at c_136
                rw [if_pos c_136] at k3_133
                subst k3_133
                refine w_bipush (v := nI 6) dX8_part_139 (by decide) ?_
                refine w_goto (tgt := 145) dX8_part_141 (by decide) ?_
                first
                  | exact ml_part145 (j := 0) (by decide) gs_at ((gs_ne (by omega)).trans hF) (hyes 0 (by decide) (by rw [pC, if_pos c_58]; rfl))
                  | exact ml_part145 (j := 1) (by decide) gs_at ((gs_ne (by omega)).trans hF) (hyes 1 (by decide) (by rw [pC, if_neg c_58, if_pos c_71]; rfl))
                  | exact ml_part145 (j := 2) (by decide) gs_at ((gs_ne (by omega)).trans hF) (hyes 2 (by decide) (by rw [pC, if_neg c_58, if_neg c_71, if_pos c_84]; rfl))
                  | exact ml_part145 (j := 3) (by decide) gs_at ((gs_ne (by omega)).trans hF) (hyes 3 (by decide) (by rw [pC, if_neg c_58, if_neg c_71, if_neg c_84, if_pos c_97]; rfl))
                  | exact ml_part145 (j := 4) (by decide) gs_at ((gs_ne (by omega)).trans hF) (hyes 4 (by decide) (by rw [pC, if_neg c_58, if_neg c_71, if_neg c_84, if_neg c_97, if_pos c_110]; rfl))
                  | exact ml_part145 (j := 5) (by decide) gs_at ((gs_ne (by omega)).trans hF) (hyes 5 (by decide) (by rw [pC, if_neg c_58, if_neg c_71, if_neg c_84, if_neg c_97, if_neg c_110, if_pos c_123]; rfl))
                  | exact ml_part145 (j := 6) (by decide) gs_at ((gs_ne (by omega)).trans hF) (hyes 6 (by decide) (by rw [pC, if_neg c_58, if_neg c_71, if_neg c_84, if_neg c_97, if_neg c_110, if_neg c_123, if_pos c_136]; rfl))
                  | exact ml_partNo gs_at (by rw [gs_gs]; exact hno (by rw [pC, if_neg c_58, if_neg c_71, if_neg c_84, if_neg c_97, if_neg c_110, if_neg c_123, if_neg c_136]))
            · try simp (disch := omega) only [nI_b2, Decidable.not_not, nI_ltI, nI_leI, nI_eq, ge_iff_le, gt_iff_lt, ne_eq, Nat.not_lt, Nat.not_le] at c_123
              rw [if_pos c_123] at k3_120
              subst k3_120
              refine w_iconst (v := nI 5) dX8_part_126 (by decide) ?_
              refine w_goto (tgt := 145) dX8_part_127 (by decide) ?_
              first
                | exact ml_part145 (j := 0) (by decide) gs_at ((gs_ne (by omega)).trans hF) (hyes 0 (by decide) (by rw [pC, if_pos c_58]; rfl))
                | exact ml_part145 (j := 1) (by decide) gs_at ((gs_ne (by omega)).trans hF) (hyes 1 (by decide) (by rw [pC, if_neg c_58, if_pos c_71]; rfl))
                | exact ml_part145 (j := 2) (by decide) gs_at ((gs_ne (by omega)).trans hF) (hyes 2 (by decide) (by rw [pC, if_neg c_58, if_neg c_71, if_pos c_84]; rfl))
                | exact ml_part145 (j := 3) (by decide) gs_at ((gs_ne (by omega)).trans hF) (hyes 3 (by decide) (by rw [pC, if_neg c_58, if_neg c_71, if_neg c_84, if_pos c_97]; rfl))
                | exact ml_part145 (j := 4) (by decide) gs_at ((gs_ne (by omega)).trans hF) (hyes 4 (by decide) (by rw [pC, if_neg c_58, if_neg c_71, if_neg c_84, if_neg c_97, if_pos c_110]; rfl))
                | exact ml_part145 (j := 5) (by decide) gs_at ((gs_ne (by omega)).trans hF) (hyes 5 (by decide) (by rw [pC, if_neg c_58, if_neg c_71, if_neg c_84, if_neg c_97, if_neg c_110, if_pos c_123]; rfl))
                | exact ml_part145 (j := 6) (by decide) gs_at ((gs_ne (by omega)).trans hF) (hyes 6 (by decide) (by rw [pC, if_neg c_58, if_neg c_71, if_neg c_84, if_neg c_97, if_neg c_110, if_neg c_123, if_pos c_136]; rfl))
                | exact ml_partNo gs_at (by rw [gs_gs]; exact hno (by rw [pC, if_neg c_58, if_neg c_71, if_neg c_84, if_neg c_97, if_neg c_110, if_neg c_123, if_neg c_136]))
          · try simp (disch := omega) only [nI_b2, Decidable.not_not, nI_ltI, nI_leI, nI_eq, ge_iff_le, gt_iff_lt, ne_eq, Nat.not_lt, Nat.not_le] at c_110
            rw [if_pos c_110] at k3_107
            subst k3_107
            refine w_iconst (v := nI 4) dX8_part_113 (by decide) ?_
            refine w_goto (tgt := 145) dX8_part_114 (by decide) ?_
            first
              | exact ml_part145 (j := 0) (by decide) gs_at ((gs_ne (by omega)).trans hF) (hyes 0 (by decide) (by rw [pC, if_pos c_58]; rfl))
              | exact ml_part145 (j := 1) (by decide) gs_at ((gs_ne (by omega)).trans hF) (hyes 1 (by decide) (by rw [pC, if_neg c_58, if_pos c_71]; rfl))
              | exact ml_part145 (j := 2) (by decide) gs_at ((gs_ne (by omega)).trans hF) (hyes 2 (by decide) (by rw [pC, if_neg c_58, if_neg c_71, if_pos c_84]; rfl))
              | exact ml_part145 (j := 3) (by decide) gs_at ((gs_ne (by omega)).trans hF) (hyes 3 (by decide) (by rw [pC, if_neg c_58, if_neg c_71, if_neg c_84, if_pos c_97]; rfl))
              | exact ml_part145 (j := 4) (by decide) gs_at ((gs_ne (by omega)).trans hF) (hyes 4 (by decide) (by rw [pC, if_neg c_58, if_neg c_71, if_neg c_84, if_neg c_97, if_pos c_110]; rfl))
              | exact ml_part145 (j := 5) (by decide) gs_at ((gs_ne (by omega)).trans hF) (hyes 5 (by decide) (by rw [pC, if_neg c_58, if_neg c_71, if_neg c_84, if_neg c_97, if_neg c_110, if_pos c_123]; rfl))
              | exact ml_part145 (j := 6) (by decide) gs_at ((gs_ne (by omega)).trans hF) (hyes 6 (by decide) (by rw [pC, if_neg c_58, if_neg c_71, if_neg c_84, if_neg c_97, if_neg c_110, if_neg c_123, if_pos c_136]; rfl))
              | exact ml_partNo gs_at (by rw [gs_gs]; exact hno (by rw [pC, if_neg c_58, if_neg c_71, if_neg c_84, if_neg c_97, if_neg c_110, if_neg c_123, if_neg c_136]))
        · try simp (disch := omega) only [nI_b2, Decidable.not_not, nI_ltI, nI_leI, nI_eq, ge_iff_le, gt_iff_lt, ne_eq, Nat.not_lt, Nat.not_le] at c_97
          rw [if_pos c_97] at k3_94
          subst k3_94
          refine w_iconst (v := nI 3) dX8_part_100 (by decide) ?_
          refine w_goto (tgt := 145) dX8_part_101 (by decide) ?_
          first
            | exact ml_part145 (j := 0) (by decide) gs_at ((gs_ne (by omega)).trans hF) (hyes 0 (by decide) (by rw [pC, if_pos c_58]; rfl))
            | exact ml_part145 (j := 1) (by decide) gs_at ((gs_ne (by omega)).trans hF) (hyes 1 (by decide) (by rw [pC, if_neg c_58, if_pos c_71]; rfl))
            | exact ml_part145 (j := 2) (by decide) gs_at ((gs_ne (by omega)).trans hF) (hyes 2 (by decide) (by rw [pC, if_neg c_58, if_neg c_71, if_pos c_84]; rfl))
            | exact ml_part145 (j := 3) (by decide) gs_at ((gs_ne (by omega)).trans hF) (hyes 3 (by decide) (by rw [pC, if_neg c_58, if_neg c_71, if_neg c_84, if_pos c_97]; rfl))
            | exact ml_part145 (j := 4) (by decide) gs_at ((gs_ne (by omega)).trans hF) (hyes 4 (by decide) (by rw [pC, if_neg c_58, if_neg c_71, if_neg c_84, if_neg c_97, if_pos c_110]; rfl))
            | exact ml_part145 (j := 5) (by decide) gs_at ((gs_ne (by omega)).trans hF) (hyes 5 (by decide) (by rw [pC, if_neg c_58, if_neg c_71, if_neg c_84, if_neg c_97, if_neg c_110, if_pos c_123]; rfl))
            | exact ml_part145 (j := 6) (by decide) gs_at ((gs_ne (by omega)).trans hF) (hyes 6 (by decide) (by rw [pC, if_neg c_58, if_neg c_71, if_neg c_84, if_neg c_97, if_neg c_110, if_neg c_123, if_pos c_136]; rfl))
            | exact ml_partNo gs_at (by rw [gs_gs]; exact hno (by rw [pC, if_neg c_58, if_neg c_71, if_neg c_84, if_neg c_97, if_neg c_110, if_neg c_123, if_neg c_136]))
      · try simp (disch := omega) only [nI_b2, Decidable.not_not, nI_ltI, nI_leI, nI_eq, ge_iff_le, gt_iff_lt, ne_eq, Nat.not_lt, Nat.not_le] at c_84
        rw [if_pos c_84] at k3_81
        subst k3_81
        refine w_iconst (v := nI 2) dX8_part_87 (by decide) ?_
        refine w_goto (tgt := 145) dX8_part_88 (by decide) ?_
        first
          | exact ml_part145 (j := 0) (by decide) gs_at ((gs_ne (by omega)).trans hF) (hyes 0 (by decide) (by rw [pC, if_pos c_58]; rfl))
          | exact ml_part145 (j := 1) (by decide) gs_at ((gs_ne (by omega)).trans hF) (hyes 1 (by decide) (by rw [pC, if_neg c_58, if_pos c_71]; rfl))
          | exact ml_part145 (j := 2) (by decide) gs_at ((gs_ne (by omega)).trans hF) (hyes 2 (by decide) (by rw [pC, if_neg c_58, if_neg c_71, if_pos c_84]; rfl))
          | exact ml_part145 (j := 3) (by decide) gs_at ((gs_ne (by omega)).trans hF) (hyes 3 (by decide) (by rw [pC, if_neg c_58, if_neg c_71, if_neg c_84, if_pos c_97]; rfl))
          | exact ml_part145 (j := 4) (by decide) gs_at ((gs_ne (by omega)).trans hF) (hyes 4 (by decide) (by rw [pC, if_neg c_58, if_neg c_71, if_neg c_84, if_neg c_97, if_pos c_110]; rfl))
          | exact ml_part145 (j := 5) (by decide) gs_at ((gs_ne (by omega)).trans hF) (hyes 5 (by decide) (by rw [pC, if_neg c_58, if_neg c_71, if_neg c_84, if_neg c_97, if_neg c_110, if_pos c_123]; rfl))
          | exact ml_part145 (j := 6) (by decide) gs_at ((gs_ne (by omega)).trans hF) (hyes 6 (by decide) (by rw [pC, if_neg c_58, if_neg c_71, if_neg c_84, if_neg c_97, if_neg c_110, if_neg c_123, if_pos c_136]; rfl))
          | exact ml_partNo gs_at (by rw [gs_gs]; exact hno (by rw [pC, if_neg c_58, if_neg c_71, if_neg c_84, if_neg c_97, if_neg c_110, if_neg c_123, if_neg c_136]))
    · try simp (disch := omega) only [nI_b2, Decidable.not_not, nI_ltI, nI_leI, nI_eq, ge_iff_le, gt_iff_lt, ne_eq, Nat.not_lt, Nat.not_le] at c_71
      rw [if_pos c_71] at k3_68
      subst k3_68
      refine w_iconst (v := nI 1) dX8_part_74 (by decide) ?_
      refine w_goto (tgt := 145) dX8_part_75 (by decide) ?_
      first
        | exact ml_part145 (j := 0) (by decide) gs_at ((gs_ne (by omega)).trans hF) (hyes 0 (by decide) (by rw [pC, if_pos c_58]; rfl))
        | exact ml_part145 (j := 1) (by decide) gs_at ((gs_ne (by omega)).trans hF) (hyes 1 (by decide) (by rw [pC, if_neg c_58, if_pos c_71]; rfl))
        | exact ml_part145 (j := 2) (by decide) gs_at ((gs_ne (by omega)).trans hF) (hyes 2 (by decide) (by rw [pC, if_neg c_58, if_neg c_71, if_pos c_84]; rfl))
        | exact ml_part145 (j := 3) (by decide) gs_at ((gs_ne (by omega)).trans hF) (hyes 3 (by decide) (by rw [pC, if_neg c_58, if_neg c_71, if_neg c_84, if_pos c_97]; rfl))
        | exact ml_part145 (j := 4) (by decide) gs_at ((gs_ne (by omega)).trans hF) (hyes 4 (by decide) (by rw [pC, if_neg c_58, if_neg c_71, if_neg c_84, if_neg c_97, if_pos c_110]; rfl))
        | exact ml_part145 (j := 5) (by decide) gs_at ((gs_ne (by omega)).trans hF) (hyes 5 (by decide) (by rw [pC, if_neg c_58, if_neg c_71, if_neg c_84, if_neg c_97, if_neg c_110, if_pos c_123]; rfl))
        | exact ml_part145 (j := 6) (by decide) gs_at ((gs_ne (by omega)).trans hF) (hyes 6 (by decide) (by rw [pC, if_neg c_58, if_neg c_71, if_neg c_84, if_neg c_97, if_neg c_110, if_neg c_123, if_pos c_136]; rfl))
        | exact ml_partNo gs_at (by rw [gs_gs]; exact hno (by rw [pC, if_neg c_58, if_neg c_71, if_neg c_84, if_neg c_97, if_neg c_110, if_neg c_123, if_neg c_136]))
  · try simp (disch := omega) only [nI_b2, Decidable.not_not, nI_ltI, nI_leI, nI_eq, ge_iff_le, gt_iff_lt, ne_eq, Nat.not_lt, Nat.not_le] at c_58
    rw [if_pos c_58] at k3_55
    subst k3_55
    refine w_iconst (v := nI 0) dX8_part_61 (by decide) ?_
    refine w_goto (tgt := 145) dX8_part_62 (by decide) ?_
    first
      | exact ml_part145 (j := 0) (by decide) gs_at ((gs_ne (by omega)).trans hF) (hyes 0 (by decide) (by rw [pC, if_pos c_58]; rfl))
      | exact ml_part145 (j := 1) (by decide) gs_at ((gs_ne (by omega)).trans hF) (hyes 1 (by decide) (by rw [pC, if_neg c_58, if_pos c_71]; rfl))
      | exact ml_part145 (j := 2) (by decide) gs_at ((gs_ne (by omega)).trans hF) (hyes 2 (by decide) (by rw [pC, if_neg c_58, if_neg c_71, if_pos c_84]; rfl))
      | exact ml_part145 (j := 3) (by decide) gs_at ((gs_ne (by omega)).trans hF) (hyes 3 (by decide) (by rw [pC, if_neg c_58, if_neg c_71, if_neg c_84, if_pos c_97]; rfl))
      | exact ml_part145 (j := 4) (by decide) gs_at ((gs_ne (by omega)).trans hF) (hyes 4 (by decide) (by rw [pC, if_neg c_58, if_neg c_71, if_neg c_84, if_neg c_97, if_pos c_110]; rfl))
      | exact ml_part145 (j := 5) (by decide) gs_at ((gs_ne (by omega)).trans hF) (hyes 5 (by decide) (by rw [pC, if_neg c_58, if_neg c_71, if_neg c_84, if_neg c_97, if_neg c_110, if_pos c_123]; rfl))
      | exact ml_part145 (j := 6) (by decide) gs_at ((gs_ne (by omega)).trans hF) (hyes 6 (by decide) (by rw [pC, if_neg c_58, if_neg c_71, if_neg c_84, if_neg c_97, if_neg c_110, if_neg c_123, if_pos c_136]; rfl))
      | exact ml_partNo gs_at (by rw [gs_gs]; exact hno (by rw [pC, if_neg c_58, if_neg c_71, if_neg c_84, if_neg c_97, if_neg c_110, if_neg c_123, if_neg c_136]))
theorem m_part {E : EV} {V n p : Nat} {th hi ac tp ba dp io hm_ we sh so : Int32} {y : Nat → Nat} {G : AH} {F : Nat → Int32} (hV : G.1 V = some (mO V th hi ac tp ba (nI n) (nI (p)) (-1) dp io hm_ we sh so)) (hT : TxP G V ba y n) (hn : n ≤ 400) (hy : ∀ i, y i < 256) (hp : p ≤ n) (hF : G.1 (V + 6) = some (aI 7 F)) : Ci E 8 kX8_part [.ref V] G (fun r G1 => LPo G V n th hi ac tp ba dp io hm_ we sh so y n (pPart y n (skp y n p, -1)).1 G1 ∧ ((pPart y n (skp y n p, -1)).1.2 = -1 → ∀ T k, FOK T k F io hm_ → ∃ a, a ≤ 999 ∧ r = nI a ∧ SmV T k [(pPart y n (skp y n p, -1)).2] a)) := by
  have hb0 : skp y n p ≤ n := (skp_le (y := y) hp).2
  obtain ⟨b, hb⟩ : ∃ b, b = skp y n p := ⟨_, rfl⟩
  have hbb : skp y n b = b := by rw [hb]; exact skp_skp hn
  have h52 : ∀ z : Value, ¬ isD y n b = true → Wp E 8 0 0 kX8_part (fun o G1 => ∃ r : Int32, o = .inl (some (.int r)) ∧ LPo G V n th hi ac tp ba dp io hm_ we sh so y n (pPart y n (skp y n p, -1)).1 G1 ∧ ((pPart y n (skp y n p, -1)).1.2 = -1 → ∀ T k, FOK T k F io hm_ → ∃ a, a ≤ 999 ∧ r = nI a ∧ SmV T k [(pPart y n (skp y n p, -1)).2] a)) (gs G V (mO V th hi ac tp ba (nI n) (nI (skp y n p)) (-1) dp io hm_ we sh so)) (0, 0) 52 [.ref V, z] [] := by
    intro z hnd
    rw [← hb] at hb0 ⊢
    have htb := (tokE_le (y := y) hb0).2
    refine ml_part52 hT hn hy hb0 hbb hF (fun j hj e => ?_) (fun e => ?_)
    · have e0 : ¬ pC y n b = 0 := by rw [e]; intro h; match j, hj with | 0, _ => exact absurd h (by decide) | 1, _ => exact absurd h (by decide) | 2, _ => exact absurd h (by decide) | 3, _ => exact absurd h (by decide) | 4, _ => exact absurd h (by decide) | 5, _ => exact absurd h (by decide) | 6, _ => exact absurd h (by decide) | j + 7, h9 => exact absurd h9 (by omega)
      have ep : pPart y n (b, -1) = (tkS y n (b, -1), cdJ j) := by unfold pPart; rw [if_neg e0, e]
      rw [ep]
      exact ⟨_, rfl, ⟨_, dp, htb, rfl, fun _ => ⟨htb, rfl, rfl⟩⟩, fun _ T k hf => hf.at j hj⟩
    · have hnf : numF y n b 0 1000 = none := by unfold numF; rw [if_neg (fun h => hnd h.1)]
      have ep : (pPart y n (b, -1)).1 = (b, nI b) := by unfold pPart; rw [if_pos e]; exact num_no hnf
      rw [ep]
      exact ⟨_, rfl, ⟨_, dp, hb0, rfl, fun h => absurd h (nI_nm1 (show b < 2 ^ 31 by omega))⟩, fun h => absurd h (nI_nm1 (show b < 2 ^ 31 by omega))⟩
  rw [← hb] at hb0 h52 ⊢
  refine Ct.intro rfl (by decide) [.ref V, .float 0] (by simp [Value.category]) (Nat.le_of_ble_eq_true rfl) rfl ?_
  refine w_aload_n dX8_part_0 rfl ?_
  refine w_getf dX8_part_1 fl_X8_25 (by first | assumption | exact gs_at | (rw [gs_ne (by omega)]; (first | assumption | exact gs_at | (rw [gs_ne (by omega)]; (first | assumption | exact gs_at | (rw [gs_ne (by omega)]; (first | assumption | exact gs_at | (rw [gs_ne (by omega)]; (first | assumption | exact gs_at))))))))) rfl ?_
  refine w_iconst (v := (-1)) dX8_part_4 (by decide) ?_
  refine w_icmp_eq (tgt := 10) dX8_part_5 (by decide) (fun c_5 => ?_) (fun c_5 => ?_)
  · try simp (disch := omega) only [nI_b2, Decidable.not_not, nI_ltI, nI_leI, nI_eq, ge_iff_le, gt_iff_lt, ne_eq, Nat.not_lt, Nat.not_le] at c_5
    refine w_aload_n dX8_part_10 rfl ?_
    refine wV0n dX8_part_11 lk_X8_66 rfl (by first | assumption | exact gs_at | (rw [gs_ne (by omega)]; (first | assumption | exact gs_at | (rw [gs_ne (by omega)]; (first | assumption | exact gs_at | (rw [gs_ne (by omega)]; (first | assumption | exact gs_at | (rw [gs_ne (by omega)]; (first | assumption | exact gs_at))))))))) rfl rfl (m_skip hV hT hn hy hp) (Nat.le_of_ble_eq_true rfl) (Nat.le_of_ble_eq_true rfl) (Nat.le_of_ble_eq_true rfl) (Nat.le_of_ble_eq_true rfl) ?_
    rw [← hb]
    refine w_aload_n dX8_part_14 rfl ?_
    refine w_getf dX8_part_15 fl_X8_56 (by first | assumption | exact gs_at | (rw [gs_ne (by omega)]; (first | assumption | exact gs_at | (rw [gs_ne (by omega)]; (first | assumption | exact gs_at | (rw [gs_ne (by omega)]; (first | assumption | exact gs_at | (rw [gs_ne (by omega)]; (first | assumption | exact gs_at))))))))) rfl ?_
    refine w_aload_n dX8_part_18 rfl ?_
    refine w_getf dX8_part_19 fl_X8_59 (by first | assumption | exact gs_at | (rw [gs_ne (by omega)]; (first | assumption | exact gs_at | (rw [gs_ne (by omega)]; (first | assumption | exact gs_at | (rw [gs_ne (by omega)]; (first | assumption | exact gs_at | (rw [gs_ne (by omega)]; (first | assumption | exact gs_at))))))))) rfl ?_
    refine w_icmp_ge (tgt := 52) dX8_part_22 (by decide) (fun c_22 => ?_) (fun c_22 => ?_)
    · try simp (disch := omega) only [nI_b2, Decidable.not_not, nI_ltI, nI_leI, nI_eq, ge_iff_le, gt_iff_lt, ne_eq, Nat.not_lt, Nat.not_le] at c_22
      first
        | exact h52 _ (fun h => by have := (isD_iff.mp h).1; omega)
        | (refine h52 _ (fun h => c_40 ?_); have h9 := isD_iff.mp h; exact h9.2)
    · try simp (disch := omega) only [nI_b2, Decidable.not_not, nI_ltI, nI_leI, nI_eq, ge_iff_le, gt_iff_lt, ne_eq, Nat.not_lt, Nat.not_le] at c_22
      refine w_aload_n dX8_part_25 rfl ?_
      refine w_aload_n dX8_part_26 rfl ?_
      refine w_getf dX8_part_27 fl_X8_56 (by first | assumption | exact gs_at | (rw [gs_ne (by omega)]; (first | assumption | exact gs_at | (rw [gs_ne (by omega)]; (first | assumption | exact gs_at | (rw [gs_ne (by omega)]; (first | assumption | exact gs_at | (rw [gs_ne (by omega)]; (first | assumption | exact gs_at))))))))) rfl ?_
      refine wV1u dX8_part_30 lk_X8_62 rfl (by first | assumption | exact gs_at | (rw [gs_ne (by omega)]; (first | assumption | exact gs_at | (rw [gs_ne (by omega)]; (first | assumption | exact gs_at | (rw [gs_ne (by omega)]; (first | assumption | exact gs_at | (rw [gs_ne (by omega)]; (first | assumption | exact gs_at))))))))) rfl rfl (m_letter (p := b) gs_at hT.gs hn hy hb0 (by omega)) (Nat.le_of_ble_eq_true rfl) (Nat.le_of_ble_eq_true rfl) (Nat.le_of_ble_eq_true rfl) (Nat.le_of_ble_eq_true rfl) ?_
      have hyb := hy b
      refine w_bipush (v := nI 48) dX8_part_33 (by decide) ?_
      refine w_bipush (v := nI 57) dX8_part_35 (by decide) ?_
      refine wS3u dX8_part_37 lk_X8_42 rfl (m_isIn) (Nat.le_of_ble_eq_true rfl) (Nat.le_of_ble_eq_true rfl) (Nat.le_of_ble_eq_true rfl) (Nat.le_of_ble_eq_true rfl) ?_
      rw [inN_eq (by omega)]
      refine w_ifN_eq (tgt := 52) dX8_part_40 (by decide) (fun c_40 => ?_) (fun c_40 => ?_)
      · try simp (disch := omega) only [nI_b2, Decidable.not_not, nI_ltI, nI_leI, nI_eq, ge_iff_le, gt_iff_lt, ne_eq, Nat.not_lt, Nat.not_le] at c_40
        first
          | exact h52 _ (fun h => by have := (isD_iff.mp h).1; omega)
          | (refine h52 _ (fun h => c_40 ?_); have h9 := isD_iff.mp h; exact h9.2)
      · try simp (disch := omega) only [nI_b2, Decidable.not_not, nI_ltI, nI_leI, nI_eq, ge_iff_le, gt_iff_lt, ne_eq, Nat.not_lt, Nat.not_le] at c_40
        have hdd : isD y n b = true := isD_iff.mpr (by exact ⟨by omega, c_40⟩)
        refine w_aload_n dX8_part_43 rfl ?_
        refine w_iconst (v := nI 0) dX8_part_44 (by decide) ?_
        refine w_sipush (v := nI 999) dX8_part_45 (by decide) ?_
        refine wV2i dX8_part_48 lk_X8_90 rfl (by first | assumption | exact gs_at | (rw [gs_ne (by omega)]; (first | assumption | exact gs_at | (rw [gs_ne (by omega)]; (first | assumption | exact gs_at | (rw [gs_ne (by omega)]; (first | assumption | exact gs_at | (rw [gs_ne (by omega)]; (first | assumption | exact gs_at))))))))) rfl rfl (m_fig (p := b) (lo := 0) (h9 := 1000) gs_at hT.gs hn hy hb0 (by decide) (by decide) rfl) (Nat.le_of_ble_eq_true rfl) (Nat.le_of_ble_eq_true rfl) (Nat.le_of_ble_eq_true rfl) (Nat.le_of_ble_eq_true rfl) (fun r_48 G_48 h_48 => ?_)
        refine w_iret dX8_part_51 rfl (Nat.le_of_ble_eq_true rfl) (Nat.le_of_ble_eq_true rfl) ?_
        rw [hbb] at h_48
        have hp0 := pC_dig hdd
        rcases h_48 with ⟨v, e1, rfl, e3⟩ | ⟨e1, p2, v, hp2, rfl, e3⟩
        · rw [gs_gs] at e3
          have hv := numF_lt e1
          have ep : pPart y n (b, -1) = ((nxt y n b, -1), nI v) := by unfold pPart; rw [if_pos hp0, (num_yes e1).1, (num_yes e1).2]
          rw [ep]
          exact ⟨_, rfl, ⟨_, dp, (tokE_le hb0).2, e3, fun _ => ⟨(tokE_le hb0).2, rfl, rfl⟩⟩, fun _ T k hf => ⟨v, by omega, rfl, SmV.num (by omega)⟩⟩
        · rw [gs_gs] at e3
          have ep : (pPart y n (b, -1)).1 = (b, nI b) := by unfold pPart; rw [if_pos hp0]; exact num_no e1
          rw [ep]
          exact ⟨_, rfl, ⟨p2, dp, hp2, e3, fun h => absurd h (nI_nm1 (show b < 2 ^ 31 by omega))⟩, fun h => absurd h (nI_nm1 (show b < 2 ^ 31 by omega))⟩
  · try simp (disch := omega) only [nI_b2, Decidable.not_not, nI_ltI, nI_leI, nI_eq, ge_iff_le, gt_iff_lt, ne_eq, Nat.not_lt, Nat.not_le] at c_5
    exact absurd trivial c_5
theorem ml_sum {E : EV} {Q : OC → AH → Prop} {V n : Nat} {th hi ac tp ba dp io hm_ we sh so : Int32} {y : Nat → Nat} {G : AH} {F : Nat → Int32} {R : PR} (hT : TxP G V ba y n) (hn : n ≤ 400) (hy : ∀ i, y i < 256) (hF : G.1 (V + 6) = some (aI 7 F)) (hQ : ∀ (r : Int32) (G1 : AH), LPo G V n th hi ac tp ba dp io hm_ we sh so y n R.1 G1 → (R.1.2 = -1 → ∀ T k, FOK T k F io hm_ → ∃ a, a ≤ 999 * R.2.length ∧ r = nI a ∧ SmV T k R.2 a) → Q (.inl (some (.int r))) G1) : ∀ (f : Nat) (s : RS) (p5 : Nat) (dp5 r5 : Int32) (acc : List Int32), s.1 ≤ n → s.2 = -1 → n - s.1 < 2 * f → p5 ≤ n → ((pPart y n s).1.2 = -1 → skp y n p5 = (pPart y n s).1.1 ∧ dp5 = dp) → ((pPart y n s).1.2 = -1 → ∀ T k, FOK T k F io hm_ → ∃ a, a ≤ 999 * (acc.length + 1) ∧ r5 = nI a ∧ SmV T k (acc ++ [(pPart y n s).2]) a) → ((pSm y n f s).1, acc ++ (pSm y n f s).2) = R → Wp E 9 0 0 kX8_sum Q (gs G V (mO V th hi ac tp ba (nI n) (nI (p5)) ((pPart y n s).1.2) (dp5) io hm_ we sh so)) (0, 0) 5 [.ref V, .int r5] [] := by
  intro f
  induction f with
  | zero => intro s p5 dp5 r5 acc h1 h2 h; exact absurd h (by omega)
  | succ f ih =>
    intro s p5 dp5 r5 acc h1 h2 hf hp5 hps hv hR
    have hg := pPart_g (y := y) hn h1
    rw [pSm] at hR
    have hexit : ∀ p6, p6 ≤ n → skp y n p6 = skp y n p5 → ¬ ((pPart y n s).1.2 = -1 ∧ atB y n (pPart y n s).1.1 [43] = true) → Q (.inl (some (.int r5))) (gs G V (mO V th hi ac tp ba (nI n) (nI (p6)) ((pPart y n s).1.2) (dp5) io hm_ we sh so)) := by
      intro p6 h6 h7 h8
      rw [if_neg h8] at hR
      subst hR
      refine hQ _ _ ⟨p6, dp5, h6, rfl, fun h => ⟨h6, h7.trans (hps h).1, (hps h).2⟩⟩ (fun h T k hf => ?_)
      obtain ⟨a, a1, a2, a3⟩ := hv h T k hf
      exact ⟨a, by simp only [List.length_append, List.length_cons, List.length_nil]; omega, a2, a3⟩
    refine w_aload_n dX8_sum_5 rfl ?_
    refine w_getf dX8_sum_6 fl_X8_25 (by first | assumption | exact gs_at | (rw [gs_ne (by omega)]; (first | assumption | exact gs_at | (rw [gs_ne (by omega)]; (first | assumption | exact gs_at | (rw [gs_ne (by omega)]; (first | assumption | exact gs_at | (rw [gs_ne (by omega)]; (first | assumption | exact gs_at))))))))) rfl ?_
    refine w_iconst (v := (-1)) dX8_sum_9 (by decide) ?_
    refine w_icmp_ne (tgt := 42) dX8_sum_10 (by decide) (fun c_10 => ?_) (fun c_10 => ?_)
    · try simp only [nI_b2, Decidable.not_not, ne_eq] at c_10
      refine w_iload_n dX8_sum_42 rfl ?_
      refine w_iret dX8_sum_43 rfl (Nat.le_of_ble_eq_true rfl) (Nat.le_of_ble_eq_true rfl) ?_
      exact hexit p5 hp5 rfl (fun h => c_10 h.1)
    · try simp only [nI_b2, Decidable.not_not, ne_eq] at c_10
      obtain ⟨hs1, hs2⟩ := hps c_10
      have hs3 := hs2.symm
      subst hs3
      have etk : tkS y n (pPart y n s).1 = (nxt y n (pPart y n s).1.1, -1) := Prod.ext rfl c_10
      rw [c_10]
      have hs0 := (skp_le (y := y) hp5).2
      refine w_aload_n dX8_sum_13 rfl ?_
      refine w_bipush (v := nI 43) dX8_sum_14 (by decide) ?_
      refine wV1i dX8_sum_16 lk_X8_141 rfl (by first | assumption | exact gs_at | (rw [gs_ne (by omega)]; (first | assumption | exact gs_at | (rw [gs_ne (by omega)]; (first | assumption | exact gs_at | (rw [gs_ne (by omega)]; (first | assumption | exact gs_at | (rw [gs_ne (by omega)]; (first | assumption | exact gs_at))))))))) rfl rfl (m_isSign (c := 43) gs_at hT.gs hn hy hp5 (by decide)) (Nat.le_of_ble_eq_true rfl) (Nat.le_of_ble_eq_true rfl) (Nat.le_of_ble_eq_true rfl) (Nat.le_of_ble_eq_true rfl) (fun r_16 G_16 h_16 => ?_)
      obtain ⟨k2, k3⟩ := h_16
      rw [gs_gs] at k3
      subst k2
      subst k3
      refine w_ifN_eq (tgt := 42) dX8_sum_19 (by decide) (fun c_19 => ?_) (fun c_19 => ?_)
      · try simp only [nI_b2, Decidable.not_not, ne_eq] at c_19
        refine w_iload_n dX8_sum_42 rfl ?_
        refine w_iret dX8_sum_43 rfl (Nat.le_of_ble_eq_true rfl) (Nat.le_of_ble_eq_true rfl) ?_
        (have h9 := hexit (skp y n p5) hs0 (skp_skp hn) (fun h => c_19 (by rw [hs1]; exact (sign_eq hn (by decide)).mp h.2)); rw [c_10] at h9; exact h9)
      · try simp only [nI_b2, Decidable.not_not, ne_eq] at c_19
        have hat : atB y n (pPart y n s).1.1 [43] = true := (sign_eq hn (by decide)).mpr (by rw [← hs1]; exact c_19)
        obtain ⟨a1, a2⟩ := at_nxt hg.1 hat
        simp only [List.length_cons, List.length_nil] at a1
        have htk := sign_tok hat
        rw [← hs1] at htk
        obtain ⟨-, hlt⟩ := hg.2 c_10
        refine w_aload_n dX8_sum_22 rfl ?_
        refine w_dup dX8_sum_23 rfl ?_
        refine w_getf dX8_sum_24 fl_X8_56 (by first | assumption | exact gs_at | (rw [gs_ne (by omega)]; (first | assumption | exact gs_at | (rw [gs_ne (by omega)]; (first | assumption | exact gs_at | (rw [gs_ne (by omega)]; (first | assumption | exact gs_at | (rw [gs_ne (by omega)]; (first | assumption | exact gs_at))))))))) rfl ?_
        refine w_iconst (v := nI 1) dX8_sum_27 (by decide) ?_
        first | refine w_iaddN dX8_sum_28 ?_ | refine w_iadd dX8_sum_28 ?_
        refine w_putf dX8_sum_29 fl_X8_56 (by first | assumption | exact gs_at | (rw [gs_ne (by omega)]; (first | assumption | exact gs_at | (rw [gs_ne (by omega)]; (first | assumption | exact gs_at | (rw [gs_ne (by omega)]; (first | assumption | exact gs_at | (rw [gs_ne (by omega)]; (first | assumption | exact gs_at))))))))) (by simp) rfl rfl ?_
        rw [gs_gs]
        refine (show Wp E 9 0 0 kX8_sum Q (gs G V (mO V th hi ac tp ba (nI n) (nI (skp y n p5 + 1)) (-1) (dp) io hm_ we sh so)) (0, 0) 32 [.ref V, .int r5] [] from ?_)
        refine w_iload_n dX8_sum_32 rfl ?_
        refine w_aload_n dX8_sum_33 rfl ?_
        refine wV0i dX8_sum_34 lk_X8_167 rfl (by first | assumption | exact gs_at | (rw [gs_ne (by omega)]; (first | assumption | exact gs_at | (rw [gs_ne (by omega)]; (first | assumption | exact gs_at | (rw [gs_ne (by omega)]; (first | assumption | exact gs_at | (rw [gs_ne (by omega)]; (first | assumption | exact gs_at))))))))) rfl rfl (m_part (p := skp y n p5 + 1) (F := F) gs_at hT.gs hn hy (by rw [← htk]; exact (tokE_le hs0).2) ((gs_ne (by omega)).trans hF)) (Nat.le_of_ble_eq_true rfl) (Nat.le_of_ble_eq_true rfl) (Nat.le_of_ble_eq_true rfl) (Nat.le_of_ble_eq_true rfl) (fun r_34 G_34 h_34 => ?_)
        have ex : skp y n (skp y n p5 + 1) = nxt y n (pPart y n s).1.1 := by rw [← htk, ← hs1]; rfl
        rw [ex, ← etk] at h_34
        obtain ⟨⟨p7, dp7, g1, g2, g3⟩, g4⟩ := h_34
        rw [gs_gs] at g2
        subst g2
        first | refine w_iaddN dX8_sum_37 ?_ | refine w_iadd dX8_sum_37 ?_
        refine w_istore_1 dX8_sum_38 rfl ?_
        refine w_goto (tgt := 5) dX8_sum_39 (by decide) ?_
        refine ih (tkS y n (pPart y n s).1) p7 dp7 (r5 + r_34) (acc ++ [(pPart y n s).2]) a2 c_10 (by show n - nxt y n _ < _; omega) g1 (fun h => (g3 h).2) (fun h T k hf => ?_) ?_
        · obtain ⟨a, b1, b2, b3⟩ := hv c_10 T k hf
          obtain ⟨b, d1, d2, d3⟩ := g4 h T k hf
          exact ⟨a + b, by simp only [List.length_append, List.length_cons, List.length_nil]; omega, by rw [b2, d2, nI_add], b3.app d3⟩
        · rw [if_pos ⟨c_10, hat⟩] at hR
          rw [← hR, List.append_assoc]; rfl
theorem m_sum {E : EV} {V n p : Nat} {th hi ac tp ba dp io hm_ we sh so : Int32} {y : Nat → Nat} {G : AH} {F : Nat → Int32} (hV : G.1 V = some (mO V th hi ac tp ba (nI n) (nI (p)) (-1) dp io hm_ we sh so)) (hT : TxP G V ba y n) (hn : n ≤ 400) (hy : ∀ i, y i < 256) (hp : p ≤ n) (hF : G.1 (V + 6) = some (aI 7 F)) : Ci E 9 kX8_sum [.ref V] G (fun r G1 => LPo G V n th hi ac tp ba dp io hm_ we sh so y n (pSum y n (skp y n p, -1)).1 G1 ∧ ((pSum y n (skp y n p, -1)).1.2 = -1 → ∀ T k, FOK T k F io hm_ → ∃ a, a ≤ 999 * (pSum y n (skp y n p, -1)).2.length ∧ r = nI a ∧ SmV T k (pSum y n (skp y n p, -1)).2 a)) := by
  have hb0 : skp y n p ≤ n := (skp_le (y := y) hp).2
  have hg := pPart_g (y := y) hn (s := (skp y n p, -1)) hb0
  refine Ct.intro rfl (by decide) [.ref V, .float 0] (by simp [Value.category]) (Nat.le_of_ble_eq_true rfl) rfl ?_
  refine w_aload_n dX8_sum_0 rfl ?_
  refine wV0i dX8_sum_1 lk_X8_167 rfl (by first | assumption | exact gs_at | (rw [gs_ne (by omega)]; (first | assumption | exact gs_at | (rw [gs_ne (by omega)]; (first | assumption | exact gs_at | (rw [gs_ne (by omega)]; (first | assumption | exact gs_at | (rw [gs_ne (by omega)]; (first | assumption | exact gs_at))))))))) rfl rfl (m_part hV hT hn hy hp hF) (Nat.le_of_ble_eq_true rfl) (Nat.le_of_ble_eq_true rfl) (Nat.le_of_ble_eq_true rfl) (Nat.le_of_ble_eq_true rfl) (fun r_1 G_1 h_1 => ?_)
  obtain ⟨⟨p7, dp7, g1, g2, g3⟩, g4⟩ := h_1
  subst g2
  refine w_istore_1 dX8_sum_4 rfl ?_
  refine ml_sum (R := pSum y n (skp y n p, -1)) hT hn hy hF (fun r G1 h1 h2 => ⟨r, rfl, h1, h2⟩) 400 (skp y n p, -1) p7 dp7 r_1 [] hb0 rfl (by simp only; omega) g1 (fun h => (g3 h).2) (fun h T k hf => ?_) rfl
  obtain ⟨a, b1, b2, b3⟩ := g4 h T k hf
  exact ⟨a, by simp only [List.length_nil]; omega, b2, b3⟩
