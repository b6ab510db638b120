/-! a law being read: lines, the text -/
def abF (y : Nat → Nat) (n p : Nat) : Nat := if atB y n p [119, 101, 97, 114] = true then 0 else if atB y n p [115, 104, 105, 102, 116] = true then 1 else if atB y n p [115, 111, 105, 108] = true then 2 else 3
def uNum (y : Nat → Nat) (n k : Nat) (u : US) : US := (sNum y n 0 21 (nxt y n u.1.1, u.1.2), begX u.2.1 k (nI (abF y n u.1.1)) (vNum y n 0 21 (nxt y n u.1.1, u.1.2)), u.2.2)
def uIf (y : Nat → Nat) (n : Nat) (u : US) : US := if atB y n u.1.1 [105, 102] = true then uCond y n (tkU y n u) else u
def enU (k : Nat) (u : US) : US := (u.1, endX u.2.1 k, u.2.2)
def uLine (y : Nat → Nat) (n k : Nat) (u : US) : US := if abF y n u.1.1 = 3 then rfU u else enU k (uIf y n (uNum y n k u))
theorem rel_1 (w : Nat → Int32) (lo : Int32) : ∀ (k : Nat) (X : LX) (d : Int32), (rel w lo k X d).1.1 = X.1
  | 0, X, d => rfl
  | k + 1, X, d => by
    rw [rel]
    split
    · rfl
    · rw [rel_1 w lo k, emX_1]
theorem uRel_1 (lo : Int32) (u : US) : (uRel lo u).2.1.1 = u.2.1.1 := rel_1 _ _ _ _ _
theorem uCl_1 (y : Nat → Nat) (n : Nat) : ∀ (k : Nat) (u : US), (uCl y n k u).2.1.1 = u.2.1.1
  | 0, u => rfl
  | k + 1, u => by
    rw [uCl]
    split
    · split
      · exact uRel_1 _ u
      · rw [uCl_1 y n k, uRel_1]; exact uRel_1 _ u
    · rfl
theorem uJoin_1 (y : Nat → Nat) (n : Nat) (u : US) : (uJoin y n u).2.2.1.1 = u.2.1.1 := by
  unfold uJoin
  split
  · exact uRel_1 _ (tkU y n u)
  · split
    · exact uRel_1 _ (tkU y n u)
    · rfl
theorem uPart_1 (y : Nat → Nat) (n : Nat) (u : US) : (uPart y n u).2.1.1 = u.2.1.1 := by
  unfold uPart
  split
  · exact emX_1 _ _
  · exact emX_1 _ _
theorem uSm_1 (y : Nat → Nat) (n : Nat) : ∀ (k : Nat) (u : US), (uSm y n k u).2.1.1 = u.2.1.1
  | 0, u => rfl
  | k + 1, u => by
    rw [uSm]
    split
    · split
      · rw [uSm_1 y n k]; exact uPart_1 y n u
      · exact uPart_1 y n u
    · exact uPart_1 y n u
theorem uSum_1 (y : Nat → Nat) (n : Nat) (u : US) : (uSum y n u).2.1.1 = u.2.1.1 := by
  unfold uSum
  split
  · exact uSm_1 y n 400 u
  · rfl
theorem emU_1 (c : Int32) (u : US) : (emU c u).2.1.1 = u.2.1.1 := emX_1 _ _
theorem uAtomE_1 (y : Nat → Nat) (n : Nat) (u : US) : (uAtomE y n u).2.1.1 = u.2.1.1 := by
  unfold uAtomE
  split
  · rw [emU_1, uSum_1, emU_1]; rfl
  · rw [emU_1, uSum_1, emU_1]
theorem uAtomT_1 (y : Nat → Nat) (n : Nat) (u : US) : (uAtomT y n u).2.1.1 = u.2.1.1 := by
  unfold uAtomT
  split
  · rw [emU_1]; rfl
  · split
    · rw [emU_1]; rfl
    · rw [uAtomE_1, uSum_1]
theorem uPre_1 (y : Nat → Nat) (n : Nat) : ∀ (k : Nat) (u : US), (uPre y n k u).2.2.1.1 = u.2.1.1
  | 0, u => rfl
  | k + 1, u => by
    rw [uPre]
    split
    · split
      · rfl
      · rw [uPre_1 y n k]; rfl
    · rfl
theorem uAtom_1 (y : Nat → Nat) (n : Nat) (u : US) : (uAtom y n u).2.1.1 = u.2.1.1 := by
  unfold uAtom
  split
  · rw [uAtomT_1, uPre_1]
  · exact uPre_1 y n 7 u
theorem uClose_1 (y : Nat → Nat) (n : Nat) (u : US) : (uClose y n u).2.1.1 = u.2.1.1 := by
  unfold uClose
  rw [uCl_1, uRel_1]
theorem uCn_1 (y : Nat → Nat) (n : Nat) : ∀ (k : Nat) (u : US), (uCn y n k u).2.1.1 = u.2.1.1
  | 0, u => rfl
  | k + 1, u => by
    rw [uCn]
    split
    · split
      · rw [uCn_1 y n k, uJoin_1, uClose_1, uAtom_1]
      · rw [uJoin_1, uClose_1, uAtom_1]
    · rw [uClose_1, uAtom_1]
theorem uCd_1 (u : US) : (uCd u).2.1.1 = u.2.1.1 := by
  unfold uCd
  split
  · exact uRel_1 _ u
  · exact uRel_1 _ u
theorem uCond_1 (y : Nat → Nat) (n : Nat) (u : US) : (uCond y n u).2.1.1 = u.2.1.1 := by
  unfold uCond
  rw [uCd_1, uCn_1]
theorem uIf_1 (y : Nat → Nat) (n : Nat) (u : US) : (uIf y n u).2.1.1 = u.2.1.1 := by
  unfold uIf
  split
  · rw [uCond_1]; rfl
  · rfl
theorem abF_le (y : Nat → Nat) (n p : Nat) : abF y n p ≤ 3 := by
  unfold abF
  split
  · omega
  · split
    · omega
    · split <;> omega
theorem refW_ne {p : Nat} {w : Int32} (hp : p < 2 ^ 31) : refW p w ≠ -1 := by
  unfold refW
  split
  · intro h
    exact absurd (show nI p < 0 from by rw [h]; decide) (nI_pos hp)
  · next h => exact h
theorem uLine_1 {y : Nat → Nat} {n k : Nat} {u : US} (hp : u.1.1 ≤ 400) (h : (uLine y n k u).1.2 = -1) : (uLine y n k u).2.1.1 = nI (k + 1) := by
  unfold uLine at h ⊢
  split
  · next h2 =>
    rw [if_pos h2] at h
    exact absurd h (refW_ne (by omega))
  · rfl
theorem lp_ln49n {E : EV} {Q : OC → AH → Prop} {v l n : Nat} {y : Nat → Nat} {G0 : AH} {u1 : US} (hd : l + 6 ≤ v ∨ v + 4 ≤ l) (hQ : ∀ G1, Lx G1 v l y n u1 → FrV G0 G1 v l → Q (.inl none) G1) {u : US} {G : AH} {z : Value} (he : rfU u = u1) (hX : Lx G v l y n u) (hFF : FrV G0 G v l) : Wp E 12 0 0 kX3_readLine Q G (0, 0) 49 [.ref v, .ref l, z] [.int (-1)] := by
  obtain ⟨v0, v3, hR, hL, hu, hw⟩ := id hX
  obtain ⟨r0, r1, -⟩ := id hR
  obtain ⟨l0, -⟩ := id hL
  refine w_istore_2 dX3_readLine_49 rfl ?_
  refine w_iload_n dX3_readLine_50 rfl ?_
  refine w_iconst (v := (-1)) dX3_readLine_51 (by decide) ?_
  refine w_icmp_ne (tgt := 63) dX3_readLine_52 (by decide) (fun c_52 => ?_) (fun c_52 => ?_)
  · try simp only [nI_b2, ne_eq, Decidable.not_not] at c_52
    exact absurd trivial c_52
  · try simp only [nI_b2, ne_eq, Decidable.not_not] at c_52
    refine w_aload_n dX3_readLine_55 rfl ?_
    refine w_getf dX3_readLine_56 fl_X3_12 (by first | assumption | exact gs_at | (rw [gs_ne (by omega)]; (first | assumption | exact gs_at | (rw [gs_ne (by omega)]; (first | assumption | exact gs_at | (rw [gs_ne (by omega)]; (first | assumption | exact gs_at | (rw [gs_ne (by omega)]; (first | assumption | exact gs_at))))))))) rfl ?_
    refine wV0d dX3_readLine_59 lk_X3_42 rfl (by first | assumption | exact gs_at | (rw [gs_ne (by omega)]; (first | assumption | exact gs_at | (rw [gs_ne (by omega)]; (first | assumption | exact gs_at | (rw [gs_ne (by omega)]; (first | assumption | exact gs_at | (rw [gs_ne (by omega)]; (first | assumption | exact gs_at))))))))) rfl rfl (c_refuse hR) (Nat.le_of_ble_eq_true rfl) (Nat.le_of_ble_eq_true rfl) (Nat.le_of_ble_eq_true rfl) (Nat.le_of_ble_eq_true rfl) (fun G h_59 => ?_)
    obtain ⟨hR9, hF1⟩ := h_59
    have hX := hX.rd hR9 hF1 hd
    have hFF := FrV.tr hFF hF1.toV
    obtain ⟨v0, v3, hR, hL, hu, hw⟩ := id hX
    obtain ⟨r0, r1, -⟩ := id hR
    obtain ⟨l0, -⟩ := id hL
    refine w_vret dX3_readLine_62 rfl (Nat.le_of_ble_eq_true rfl) (Nat.le_of_ble_eq_true rfl) ?_
    subst he
    exact hQ _ hX hFF
theorem lp_ln49 {E : EV} {Q : OC → AH → Prop} {v l n : Nat} {y : Nat → Nat} {G0 : AH} {u1 : US} (hd : l + 6 ≤ v ∨ v + 4 ≤ l) (hQ : ∀ G1, Lx G1 v l y n u1 → FrV G0 G1 v l → Q (.inl none) G1) {u : US} {G : AH} {z : Value} {j k : Nat} (hj : abF y n u.1.1 = j) (hj3 : j ≤ 2) (hk : u.2.1.1 = nI k) (hk12 : k < 12) (he : enU k (uIf y n (uNum y n k u)) = u1) (hX : Lx G v l y n u) (hFF : FrV G0 G v l) : Wp E 12 0 0 kX3_readLine Q G (0, 0) 49 [.ref v, .ref l, z] [.int (nI j)] := by
  subst hj
  obtain ⟨v0, v3, hR, hL, hu, hw⟩ := id hX
  obtain ⟨r0, r1, -⟩ := id hR
  obtain ⟨l0, -⟩ := id hL
  refine w_istore_2 dX3_readLine_49 rfl ?_
  refine w_iload_n dX3_readLine_50 rfl ?_
  refine w_iconst (v := (-1)) dX3_readLine_51 (by decide) ?_
  refine w_icmp_ne (tgt := 63) dX3_readLine_52 (by decide) (fun c_52 => ?_) (fun c_52 => ?_)
  · try simp only [nI_b2, ne_eq, Decidable.not_not] at c_52
    refine w_aload_n dX3_readLine_63 rfl ?_
    refine w_getf dX3_readLine_64 fl_X3_12 (by first | assumption | exact gs_at | (rw [gs_ne (by omega)]; (first | assumption | exact gs_at | (rw [gs_ne (by omega)]; (first | assumption | exact gs_at | (rw [gs_ne (by omega)]; (first | assumption | exact gs_at | (rw [gs_ne (by omega)]; (first | assumption | exact gs_at))))))))) rfl ?_
    refine wV0d dX3_readLine_67 lk_X3_70 rfl (by first | assumption | exact gs_at | (rw [gs_ne (by omega)]; (first | assumption | exact gs_at | (rw [gs_ne (by omega)]; (first | assumption | exact gs_at | (rw [gs_ne (by omega)]; (first | assumption | exact gs_at | (rw [gs_ne (by omega)]; (first | assumption | exact gs_at))))))))) rfl rfl (c_step (y := y) (n := n) (w := _) (e0 := tokE y n _) (bb := 0) r0 r1 hR.2.2.1 hR.2.2.2.2.1 (tokE_le hR.2.2.2.1).2) (Nat.le_of_ble_eq_true rfl) (Nat.le_of_ble_eq_true rfl) (Nat.le_of_ble_eq_true rfl) (Nat.le_of_ble_eq_true rfl) (fun G h_67 => ?_)
    obtain ⟨hR9, hF1⟩ := h_67
    have hX := hX.rd hR9 hF1 hd
    have hFF := FrV.tr hFF hF1.toV
    obtain ⟨v0, v3, hR, hL, hu, hw⟩ := id hX
    obtain ⟨r0, r1, -⟩ := id hR
    obtain ⟨l0, -⟩ := id hL
    refine w_aload_n dX3_readLine_70 rfl ?_
    refine w_iload_n dX3_readLine_71 rfl ?_
    refine w_aload_n dX3_readLine_72 rfl ?_
    refine w_getf dX3_readLine_73 fl_X3_12 (by first | assumption | exact gs_at | (rw [gs_ne (by omega)]; (first | assumption | exact gs_at | (rw [gs_ne (by omega)]; (first | assumption | exact gs_at | (rw [gs_ne (by omega)]; (first | assumption | exact gs_at | (rw [gs_ne (by omega)]; (first | assumption | exact gs_at))))))))) rfl ?_
    refine w_iconst (v := nI 0) dX3_readLine_76 (by decide) ?_
    refine w_bipush (v := nI 20) dX3_readLine_77 (by decide) ?_
    refine wV2i dX3_readLine_79 lk_X3_73 rfl (by first | assumption | exact gs_at | (rw [gs_ne (by omega)]; (first | assumption | exact gs_at | (rw [gs_ne (by omega)]; (first | assumption | exact gs_at | (rw [gs_ne (by omega)]; (first | assumption | exact gs_at | (rw [gs_ne (by omega)]; (first | assumption | exact gs_at))))))))) rfl rfl (c_number (hi1 := 21) hR (by decide) (by decide) (by decide)) (Nat.le_of_ble_eq_true rfl) (Nat.le_of_ble_eq_true rfl) (Nat.le_of_ble_eq_true rfl) (Nat.le_of_ble_eq_true rfl) (fun r_79 G h_79 => ?_)
    obtain ⟨rfl, hR9, hF1⟩ := h_79
    have hX := hX.rd hR9 hF1 hd
    have hFF := FrV.tr hFF hF1.toV
    obtain ⟨v0, v3, hR, hL, hu, hw⟩ := id hX
    obtain ⟨r0, r1, -⟩ := id hR
    obtain ⟨l0, -⟩ := id hL
    refine wV2d dX3_readLine_82 lk_X3_77 rfl (by first | assumption | exact gs_at | (rw [gs_ne (by omega)]; (first | assumption | exact gs_at | (rw [gs_ne (by omega)]; (first | assumption | exact gs_at | (rw [gs_ne (by omega)]; (first | assumption | exact gs_at | (rw [gs_ne (by omega)]; (first | assumption | exact gs_at))))))))) rfl rfl (c_beginLine hL hk hk12) (Nat.le_of_ble_eq_true rfl) (Nat.le_of_ble_eq_true rfl) (Nat.le_of_ble_eq_true rfl) (Nat.le_of_ble_eq_true rfl) (fun G h_82 => ?_)
    obtain ⟨hL9, hF1⟩ := h_82
    have hX := hX.lg hL9 hF1 hd hu
    have hFF := FrV.tr hFF hF1.toV
    obtain ⟨v0, v3, hR, hL, hu, hw⟩ := id hX
    obtain ⟨r0, r1, -⟩ := id hR
    obtain ⟨l0, -⟩ := id hL
    have hX : Lx G v l y n (uNum y n k u) := hX
    refine w_aload_n dX3_readLine_85 rfl ?_
    refine w_getf dX3_readLine_86 fl_X3_12 (by first | assumption | exact gs_at | (rw [gs_ne (by omega)]; (first | assumption | exact gs_at | (rw [gs_ne (by omega)]; (first | assumption | exact gs_at | (rw [gs_ne (by omega)]; (first | assumption | exact gs_at | (rw [gs_ne (by omega)]; (first | assumption | exact gs_at))))))))) rfl ?_
    refine w_ldcS (i := 16) rfl rfl dX3_readLine_89 ?_
    refine wV1i dX3_readLine_91 lk_X3_54 rfl (by first | assumption | exact gs_at | (rw [gs_ne (by omega)]; (first | assumption | exact gs_at | (rw [gs_ne (by omega)]; (first | assumption | exact gs_at | (rw [gs_ne (by omega)]; (first | assumption | exact gs_at | (rw [gs_ne (by omega)]; (first | assumption | exact gs_at))))))))) rfl rfl (c_takes (ws := [105, 102]) rfl rfl (by decide) (by decide) hR) (Nat.le_of_ble_eq_true rfl) (Nat.le_of_ble_eq_true rfl) (Nat.le_of_ble_eq_true rfl) (Nat.le_of_ble_eq_true rfl) (fun r_91 G h_91 => ?_)
    obtain ⟨rfl, hR9, hF1⟩ := h_91
    have hX := hX.rd hR9 hF1 hd
    have hFF := FrV.tr hFF hF1.toV
    obtain ⟨v0, v3, hR, hL, hu, hw⟩ := id hX
    obtain ⟨r0, r1, -⟩ := id hR
    obtain ⟨l0, -⟩ := id hL
    refine w_ifN_eq (tgt := 102) dX3_readLine_94 (by decide) (fun c_94 => ?_) (fun c_94 => ?_)
    · try simp only [nI_b2, ne_eq, Decidable.not_not] at c_94
      have hX : Lx G v l y n (uIf y n (uNum y n k u)) := by
        unfold uIf
        first
          | (rw [if_pos (show atB y n (uNum y n k u).1.1 [105, 102] = true from c_94)]; exact hX)
          | (rw [if_neg (show ¬ atB y n (uNum y n k u).1.1 [105, 102] = true from c_94)]; rw [sTk, if_neg c_94] at hX; exact hX)
      obtain ⟨v0, v3, hR, hL, hu, hw⟩ := id hX
      obtain ⟨r0, r1, -⟩ := id hR
      obtain ⟨l0, -⟩ := id hL
      refine w_aload_n dX3_readLine_102 rfl ?_
      refine wV0d dX3_readLine_103 lk_X3_86 rfl (by first | assumption | exact gs_at | (rw [gs_ne (by omega)]; (first | assumption | exact gs_at | (rw [gs_ne (by omega)]; (first | assumption | exact gs_at | (rw [gs_ne (by omega)]; (first | assumption | exact gs_at | (rw [gs_ne (by omega)]; (first | assumption | exact gs_at))))))))) rfl rfl (c_endLine (k := k) hL ((uIf_1 y n (uNum y n k u)).trans hk) hk12) (Nat.le_of_ble_eq_true rfl) (Nat.le_of_ble_eq_true rfl) (Nat.le_of_ble_eq_true rfl) (Nat.le_of_ble_eq_true rfl) (fun G h_103 => ?_)
      obtain ⟨hL9, hF1⟩ := h_103
      have hX := hX.lg hL9 hF1 hd hu
      have hFF := FrV.tr hFF hF1.toV
      refine w_vret dX3_readLine_106 rfl (Nat.le_of_ble_eq_true rfl) (Nat.le_of_ble_eq_true rfl) ?_
      subst he
      exact hQ _ hX hFF
    · try simp only [nI_b2, ne_eq, Decidable.not_not] at c_94
      have hX : Lx G v l y n (tkU y n (uNum y n k u)) := by rw [sTk, if_pos c_94] at hX; exact hX
      obtain ⟨v0, v3, hR, hL, hu, hw⟩ := id hX
      obtain ⟨r0, r1, -⟩ := id hR
      obtain ⟨l0, -⟩ := id hL
      refine w_aload_n dX3_readLine_97 rfl ?_
      refine w_aload_n dX3_readLine_98 rfl ?_
      refine wV1d dX3_readLine_99 lk_X3_83 rfl (by first | assumption | exact gs_at | (rw [gs_ne (by omega)]; (first | assumption | exact gs_at | (rw [gs_ne (by omega)]; (first | assumption | exact gs_at | (rw [gs_ne (by omega)]; (first | assumption | exact gs_at | (rw [gs_ne (by omega)]; (first | assumption | exact gs_at))))))))) rfl rfl (c_readCondition hX hd) (Nat.le_of_ble_eq_true rfl) (Nat.le_of_ble_eq_true rfl) (Nat.le_of_ble_eq_true rfl) (Nat.le_of_ble_eq_true rfl) (fun G h_99 => ?_)
      obtain ⟨hX, hF1⟩ := h_99
      have hFF := FrV.tr hFF hF1
      obtain ⟨v0, v3, hR, hL, hu, hw⟩ := id hX
      obtain ⟨r0, r1, -⟩ := id hR
      obtain ⟨l0, -⟩ := id hL
      have hX : Lx G v l y n (uIf y n (uNum y n k u)) := by
        unfold uIf
        first
          | (rw [if_pos (show atB y n (uNum y n k u).1.1 [105, 102] = true from c_94)]; exact hX)
          | (rw [if_neg (show ¬ atB y n (uNum y n k u).1.1 [105, 102] = true from c_94)]; rw [sTk, if_neg c_94] at hX; exact hX)
      obtain ⟨v0, v3, hR, hL, hu, hw⟩ := id hX
      obtain ⟨r0, r1, -⟩ := id hR
      obtain ⟨l0, -⟩ := id hL
      refine w_aload_n dX3_readLine_102 rfl ?_
      refine wV0d dX3_readLine_103 lk_X3_86 rfl (by first | assumption | exact gs_at | (rw [gs_ne (by omega)]; (first | assumption | exact gs_at | (rw [gs_ne (by omega)]; (first | assumption | exact gs_at | (rw [gs_ne (by omega)]; (first | assumption | exact gs_at | (rw [gs_ne (by omega)]; (first | assumption | exact gs_at))))))))) rfl rfl (c_endLine (k := k) hL ((uIf_1 y n (uNum y n k u)).trans hk) hk12) (Nat.le_of_ble_eq_true rfl) (Nat.le_of_ble_eq_true rfl) (Nat.le_of_ble_eq_true rfl) (Nat.le_of_ble_eq_true rfl) (fun G h_103 => ?_)
      obtain ⟨hL9, hF1⟩ := h_103
      have hX := hX.lg hL9 hF1 hd hu
      have hFF := FrV.tr hFF hF1.toV
      refine w_vret dX3_readLine_106 rfl (Nat.le_of_ble_eq_true rfl) (Nat.le_of_ble_eq_true rfl) ?_
      subst he
      exact hQ _ hX hFF
  · try simp only [nI_b2, ne_eq, Decidable.not_not] at c_52
    exact absurd (show nI (abF y n u.1.1) < 0 from by rw [c_52]; decide) (nI_pos (by omega))
theorem c_readLawLine {E : EV} {v l n : Nat} {y : Nat → Nat} {u : US} {G : AH} {k : Nat} (hX : Lx G v l y n u) (hd : l + 6 ≤ v ∨ v + 4 ≤ l) (hk : u.2.1.1 = nI k) (hk12 : k < 12) : Cd E 12 kX3_readLine [.ref v, .ref l] G (fun G1 => Lx G1 v l y n (uLine y n k u) ∧ FrV G G1 v l) := by
  obtain ⟨v0, v3, hR, hL, hu, hw⟩ := id hX
  obtain ⟨r0, r1, -⟩ := id hR
  obtain ⟨l0, -⟩ := id hL
  refine Ct.intro rfl (by decide) [.ref v, .ref l, .float 0] (by simp [Value.category]) (Nat.le_of_ble_eq_true rfl) rfl ?_
  refine w_aload_n dX3_readLine_0 rfl ?_
  refine w_getf dX3_readLine_1 fl_X3_12 (by first | assumption | exact gs_at | (rw [gs_ne (by omega)]; (first | assumption | exact gs_at | (rw [gs_ne (by omega)]; (first | assumption | exact gs_at | (rw [gs_ne (by omega)]; (first | assumption | exact gs_at | (rw [gs_ne (by omega)]; (first | assumption | exact gs_at))))))))) rfl ?_
  refine w_ldcS (i := 13) rfl rfl dX3_readLine_4 ?_
  refine wV1u dX3_readLine_6 lk_X3_63 rfl (by first | assumption | exact gs_at | (rw [gs_ne (by omega)]; (first | assumption | exact gs_at | (rw [gs_ne (by omega)]; (first | assumption | exact gs_at | (rw [gs_ne (by omega)]; (first | assumption | exact gs_at | (rw [gs_ne (by omega)]; (first | assumption | exact gs_at))))))))) rfl rfl (c_isAt (ws := [119, 101, 97, 114]) rfl rfl (by decide) (by decide) hR) (Nat.le_of_ble_eq_true rfl) (Nat.le_of_ble_eq_true rfl) (Nat.le_of_ble_eq_true rfl) (Nat.le_of_ble_eq_true rfl) ?_
  refine w_ifN_eq (tgt := 16) dX3_readLine_9 (by decide) (fun c_9 => ?_) (fun c_9 => ?_)
  · try simp only [nI_b2, ne_eq, Decidable.not_not] at c_9
    refine w_aload_n dX3_readLine_16 rfl ?_
    refine w_getf dX3_readLine_17 fl_X3_12 (by first | assumption | exact gs_at | (rw [gs_ne (by omega)]; (first | assumption | exact gs_at | (rw [gs_ne (by omega)]; (first | assumption | exact gs_at | (rw [gs_ne (by omega)]; (first | assumption | exact gs_at | (rw [gs_ne (by omega)]; (first | assumption | exact gs_at))))))))) rfl ?_
    refine w_ldcS (i := 14) rfl rfl dX3_readLine_20 ?_
    refine wV1u dX3_readLine_22 lk_X3_63 rfl (by first | assumption | exact gs_at | (rw [gs_ne (by omega)]; (first | assumption | exact gs_at | (rw [gs_ne (by omega)]; (first | assumption | exact gs_at | (rw [gs_ne (by omega)]; (first | assumption | exact gs_at | (rw [gs_ne (by omega)]; (first | assumption | exact gs_at))))))))) rfl rfl (c_isAt (ws := [115, 104, 105, 102, 116]) rfl rfl (by decide) (by decide) hR) (Nat.le_of_ble_eq_true rfl) (Nat.le_of_ble_eq_true rfl) (Nat.le_of_ble_eq_true rfl) (Nat.le_of_ble_eq_true rfl) ?_
    refine w_ifN_eq (tgt := 32) dX3_readLine_25 (by decide) (fun c_25 => ?_) (fun c_25 => ?_)
    · try simp only [nI_b2, ne_eq, Decidable.not_not] at c_25
      refine w_aload_n dX3_readLine_32 rfl ?_
      refine w_getf dX3_readLine_33 fl_X3_12 (by first | assumption | exact gs_at | (rw [gs_ne (by omega)]; (first | assumption | exact gs_at | (rw [gs_ne (by omega)]; (first | assumption | exact gs_at | (rw [gs_ne (by omega)]; (first | assumption | exact gs_at | (rw [gs_ne (by omega)]; (first | assumption | exact gs_at))))))))) rfl ?_
      refine w_ldcS (i := 15) rfl rfl dX3_readLine_36 ?_
      refine wV1u dX3_readLine_38 lk_X3_63 rfl (by first | assumption | exact gs_at | (rw [gs_ne (by omega)]; (first | assumption | exact gs_at | (rw [gs_ne (by omega)]; (first | assumption | exact gs_at | (rw [gs_ne (by omega)]; (first | assumption | exact gs_at | (rw [gs_ne (by omega)]; (first | assumption | exact gs_at))))))))) rfl rfl (c_isAt (ws := [115, 111, 105, 108]) rfl rfl (by decide) (by decide) hR) (Nat.le_of_ble_eq_true rfl) (Nat.le_of_ble_eq_true rfl) (Nat.le_of_ble_eq_true rfl) (Nat.le_of_ble_eq_true rfl) ?_
      refine w_ifN_eq (tgt := 48) dX3_readLine_41 (by decide) (fun c_41 => ?_) (fun c_41 => ?_)
      · try simp only [nI_b2, ne_eq, Decidable.not_not] at c_41
        refine w_iconst (v := (-1)) dX3_readLine_48 (by decide) ?_
        first
          | (have e3 : abF y n u.1.1 = 0 := by unfold abF; rw [if_pos c_9]
             exact lp_ln49 hd (u1 := uLine y n k u) (fun G1 a b => ⟨rfl, a, b⟩) e3 (by decide) hk hk12 (by rw [uLine, if_neg (by omega)]) hX FrV.rf)
          | (have e3 : abF y n u.1.1 = 1 := by unfold abF; rw [if_neg c_9, if_pos c_25]
             exact lp_ln49 hd (u1 := uLine y n k u) (fun G1 a b => ⟨rfl, a, b⟩) e3 (by decide) hk hk12 (by rw [uLine, if_neg (by omega)]) hX FrV.rf)
          | (have e3 : abF y n u.1.1 = 2 := by unfold abF; rw [if_neg c_9, if_neg c_25, if_pos c_41]
             exact lp_ln49 hd (u1 := uLine y n k u) (fun G1 a b => ⟨rfl, a, b⟩) e3 (by decide) hk hk12 (by rw [uLine, if_neg (by omega)]) hX FrV.rf)
          | (have e3 : abF y n u.1.1 = 3 := by unfold abF; rw [if_neg c_9, if_neg c_25, if_neg c_41]
             exact lp_ln49n hd (u1 := uLine y n k u) (fun G1 a b => ⟨rfl, a, b⟩) (by rw [uLine, if_pos e3]) hX FrV.rf)
      · try simp only [nI_b2, ne_eq, Decidable.not_not] at c_41
        refine w_iconst (v := nI 2) dX3_readLine_44 (by decide) ?_
        refine w_goto (tgt := 49) dX3_readLine_45 (by decide) ?_
        first
          | (have e3 : abF y n u.1.1 = 0 := by unfold abF; rw [if_pos c_9]
             exact lp_ln49 hd (u1 := uLine y n k u) (fun G1 a b => ⟨rfl, a, b⟩) e3 (by decide) hk hk12 (by rw [uLine, if_neg (by omega)]) hX FrV.rf)
          | (have e3 : abF y n u.1.1 = 1 := by unfold abF; rw [if_neg c_9, if_pos c_25]
             exact lp_ln49 hd (u1 := uLine y n k u) (fun G1 a b => ⟨rfl, a, b⟩) e3 (by decide) hk hk12 (by rw [uLine, if_neg (by omega)]) hX FrV.rf)
          | (have e3 : abF y n u.1.1 = 2 := by unfold abF; rw [if_neg c_9, if_neg c_25, if_pos c_41]
             exact lp_ln49 hd (u1 := uLine y n k u) (fun G1 a b => ⟨rfl, a, b⟩) e3 (by decide) hk hk12 (by rw [uLine, if_neg (by omega)]) hX FrV.rf)
          | (have e3 : abF y n u.1.1 = 3 := by unfold abF; rw [if_neg c_9, if_neg c_25, if_neg c_41]
             exact lp_ln49n hd (u1 := uLine y n k u) (fun G1 a b => ⟨rfl, a, b⟩) (by rw [uLine, if_pos e3]) hX FrV.rf)
    · try simp only [nI_b2, ne_eq, Decidable.not_not] at c_25
      refine w_iconst (v := nI 1) dX3_readLine_28 (by decide) ?_
      refine w_goto (tgt := 49) dX3_readLine_29 (by decide) ?_
      first
        | (have e3 : abF y n u.1.1 = 0 := by unfold abF; rw [if_pos c_9]
           exact lp_ln49 hd (u1 := uLine y n k u) (fun G1 a b => ⟨rfl, a, b⟩) e3 (by decide) hk hk12 (by rw [uLine, if_neg (by omega)]) hX FrV.rf)
        | (have e3 : abF y n u.1.1 = 1 := by unfold abF; rw [if_neg c_9, if_pos c_25]
           exact lp_ln49 hd (u1 := uLine y n k u) (fun G1 a b => ⟨rfl, a, b⟩) e3 (by decide) hk hk12 (by rw [uLine, if_neg (by omega)]) hX FrV.rf)
        | (have e3 : abF y n u.1.1 = 2 := by unfold abF; rw [if_neg c_9, if_neg c_25, if_pos c_41]
           exact lp_ln49 hd (u1 := uLine y n k u) (fun G1 a b => ⟨rfl, a, b⟩) e3 (by decide) hk hk12 (by rw [uLine, if_neg (by omega)]) hX FrV.rf)
        | (have e3 : abF y n u.1.1 = 3 := by unfold abF; rw [if_neg c_9, if_neg c_25, if_neg c_41]
           exact lp_ln49n hd (u1 := uLine y n k u) (fun G1 a b => ⟨rfl, a, b⟩) (by rw [uLine, if_pos e3]) hX FrV.rf)
  · try simp only [nI_b2, ne_eq, Decidable.not_not] at c_9
    refine w_iconst (v := nI 0) dX3_readLine_12 (by decide) ?_
    refine w_goto (tgt := 49) dX3_readLine_13 (by decide) ?_
    first
      | (have e3 : abF y n u.1.1 = 0 := by unfold abF; rw [if_pos c_9]
         exact lp_ln49 hd (u1 := uLine y n k u) (fun G1 a b => ⟨rfl, a, b⟩) e3 (by decide) hk hk12 (by rw [uLine, if_neg (by omega)]) hX FrV.rf)
      | (have e3 : abF y n u.1.1 = 1 := by unfold abF; rw [if_neg c_9, if_pos c_25]
         exact lp_ln49 hd (u1 := uLine y n k u) (fun G1 a b => ⟨rfl, a, b⟩) e3 (by decide) hk hk12 (by rw [uLine, if_neg (by omega)]) hX FrV.rf)
      | (have e3 : abF y n u.1.1 = 2 := by unfold abF; rw [if_neg c_9, if_neg c_25, if_pos c_41]
         exact lp_ln49 hd (u1 := uLine y n k u) (fun G1 a b => ⟨rfl, a, b⟩) e3 (by decide) hk hk12 (by rw [uLine, if_neg (by omega)]) hX FrV.rf)
      | (have e3 : abF y n u.1.1 = 3 := by unfold abF; rw [if_neg c_9, if_neg c_25, if_neg c_41]
         exact lp_ln49n hd (u1 := uLine y n k u) (fun G1 a b => ⟨rfl, a, b⟩) (by rw [uLine, if_pos e3]) hX FrV.rf)
def uStep (y : Nat → Nat) (n i : Nat) (u : US) : US := if i = 12 then rfU u else uLine y n i u
def uGo (y : Nat → Nat) (n : Nat) : Nat → Nat → US → US
  | 0, _, u => u
  | k + 1, i, u => if (uStep y n i u).1.2 = -1 then (if atB y n (uStep y n i u).1.1 [59] = true then uGo y n k (i + 1) (tkU y n (uStep y n i u)) else uStep y n i u) else uStep y n i u
def uText (y : Nat → Nat) (n : Nat) (u : US) : US := if n ≤ u.1.1 then u else uGo y n 13 0 u
def uEnd (n : Nat) (u : US) : US := if n ≤ u.1.1 then u else rfU u
theorem uStep_1 {y : Nat → Nat} {n i : Nat} {u : US} (hp : u.1.1 ≤ 400) (h : (uStep y n i u).1.2 = -1) : (uStep y n i u).2.1.1 = nI (i + 1) := by
  unfold uStep at h ⊢
  split
  · next h2 =>
    rw [if_pos h2] at h
    exact absurd h (refW_ne (by omega))
  · next h2 =>
    rw [if_neg h2] at h
    exact uLine_1 hp h
theorem lp_lt102 {E : EV} {Q : OC → AH → Prop} {v l n : Nat} {y : Nat → Nat} {G0 : AH} {u1 : US} {vt vn : Value} (hd : l + 6 ≤ v ∨ v + 4 ≤ l) (hQ : ∀ G1, Lx G1 v l y n (uEnd n u1) → FrV G0 G1 v l → Q (.inl (some (.int (uEnd n u1).1.2))) G1) {G : AH} {z1 z2 : Value} (hX : Lx G v l y n u1) (hFF : FrV G0 G v l) : Wp E 13 0 0 kX3_readText Q G (0, 0) 102 [.ref v, vt, vn, .ref l, z1, z2] [] := by
  obtain ⟨v0, v3, hR, hL, hu, hw⟩ := id hX
  obtain ⟨r0, r1, -⟩ := id hR
  obtain ⟨l0, -⟩ := id hL
  refine w_aload_n dX3_readText_102 rfl ?_
  refine w_getf dX3_readText_103 fl_X3_12 (by first | assumption | exact gs_at | (rw [gs_ne (by omega)]; (first | assumption | exact gs_at | (rw [gs_ne (by omega)]; (first | assumption | exact gs_at | (rw [gs_ne (by omega)]; (first | assumption | exact gs_at | (rw [gs_ne (by omega)]; (first | assumption | exact gs_at))))))))) rfl ?_
  refine wV0u dX3_readText_106 lk_X3_38 rfl (by first | assumption | exact gs_at | (rw [gs_ne (by omega)]; (first | assumption | exact gs_at | (rw [gs_ne (by omega)]; (first | assumption | exact gs_at | (rw [gs_ne (by omega)]; (first | assumption | exact gs_at | (rw [gs_ne (by omega)]; (first | assumption | exact gs_at))))))))) rfl rfl (c_isEnd hR) (Nat.le_of_ble_eq_true rfl) (Nat.le_of_ble_eq_true rfl) (Nat.le_of_ble_eq_true rfl) (Nat.le_of_ble_eq_true rfl) ?_
  refine w_ifN_ne (tgt := 119) dX3_readText_109 (by decide) (fun c_109 => ?_) (fun c_109 => ?_)
  · try simp only [nI_b2, ne_eq, Decidable.not_not] at c_109
    refine w_aload_n dX3_readText_119 rfl ?_
    refine w_getf dX3_readText_120 fl_X3_12 (by first | assumption | exact gs_at | (rw [gs_ne (by omega)]; (first | assumption | exact gs_at | (rw [gs_ne (by omega)]; (first | assumption | exact gs_at | (rw [gs_ne (by omega)]; (first | assumption | exact gs_at | (rw [gs_ne (by omega)]; (first | assumption | exact gs_at))))))))) rfl ?_
    refine w_getf dX3_readText_123 fl_X3_58 (by first | assumption | exact gs_at | (rw [gs_ne (by omega)]; (first | assumption | exact gs_at | (rw [gs_ne (by omega)]; (first | assumption | exact gs_at | (rw [gs_ne (by omega)]; (first | assumption | exact gs_at | (rw [gs_ne (by omega)]; (first | assumption | exact gs_at))))))))) rfl ?_
    refine w_iret dX3_readText_126 rfl (Nat.le_of_ble_eq_true rfl) (Nat.le_of_ble_eq_true rfl) ?_
    have h9 := hQ G
    unfold uEnd at h9
    first
      | (rw [if_pos c_109] at h9; exact h9 hX hFF)
      | (rw [if_neg c_109] at h9; exact h9 hX hFF)
  · try simp only [nI_b2, ne_eq, Decidable.not_not] at c_109
    refine w_aload_n dX3_readText_112 rfl ?_
    refine w_getf dX3_readText_113 fl_X3_12 (by first | assumption | exact gs_at | (rw [gs_ne (by omega)]; (first | assumption | exact gs_at | (rw [gs_ne (by omega)]; (first | assumption | exact gs_at | (rw [gs_ne (by omega)]; (first | assumption | exact gs_at | (rw [gs_ne (by omega)]; (first | assumption | exact gs_at))))))))) rfl ?_
    refine wV0d dX3_readText_116 lk_X3_42 rfl (by first | assumption | exact gs_at | (rw [gs_ne (by omega)]; (first | assumption | exact gs_at | (rw [gs_ne (by omega)]; (first | assumption | exact gs_at | (rw [gs_ne (by omega)]; (first | assumption | exact gs_at | (rw [gs_ne (by omega)]; (first | assumption | exact gs_at))))))))) rfl rfl (c_refuse hR) (Nat.le_of_ble_eq_true rfl) (Nat.le_of_ble_eq_true rfl) (Nat.le_of_ble_eq_true rfl) (Nat.le_of_ble_eq_true rfl) (fun G h_116 => ?_)
    obtain ⟨hR9, hF1⟩ := h_116
    have hX := hX.rd hR9 hF1 hd
    have hFF := FrV.tr hFF hF1.toV
    obtain ⟨v0, v3, hR, hL, hu, hw⟩ := id hX
    obtain ⟨r0, r1, -⟩ := id hR
    obtain ⟨l0, -⟩ := id hL
    refine w_aload_n dX3_readText_119 rfl ?_
    refine w_getf dX3_readText_120 fl_X3_12 (by first | assumption | exact gs_at | (rw [gs_ne (by omega)]; (first | assumption | exact gs_at | (rw [gs_ne (by omega)]; (first | assumption | exact gs_at | (rw [gs_ne (by omega)]; (first | assumption | exact gs_at | (rw [gs_ne (by omega)]; (first | assumption | exact gs_at))))))))) rfl ?_
    refine w_getf dX3_readText_123 fl_X3_58 (by first | assumption | exact gs_at | (rw [gs_ne (by omega)]; (first | assumption | exact gs_at | (rw [gs_ne (by omega)]; (first | assumption | exact gs_at | (rw [gs_ne (by omega)]; (first | assumption | exact gs_at | (rw [gs_ne (by omega)]; (first | assumption | exact gs_at))))))))) rfl ?_
    refine w_iret dX3_readText_126 rfl (Nat.le_of_ble_eq_true rfl) (Nat.le_of_ble_eq_true rfl) ?_
    have h9 := hQ G
    unfold uEnd at h9
    first
      | (rw [if_pos c_109] at h9; exact h9 hX hFF)
      | (rw [if_neg c_109] at h9; exact h9 hX hFF)
theorem lp_lt94f {E : EV} {Q : OC → AH → Prop} {v l n : Nat} {y : Nat → Nat} {G0 : AH} {u1 : US} {vt vn : Value} (hd : l + 6 ≤ v ∨ v + 4 ≤ l) (hQ : ∀ G1, Lx G1 v l y n (uEnd n u1) → FrV G0 G1 v l → Q (.inl (some (.int (uEnd n u1).1.2))) G1) {G : AH} {z1 : Value} {i : Nat} (hX : Lx G v l y n u1) (hFF : FrV G0 G v l) : Wp E 13 0 0 kX3_readText Q G (0, 0) 94 [.ref v, vt, vn, .ref l, z1, .int (nI i)] [.int (nI 0)] := by
  refine w_istore_4 dX3_readText_94 rfl ?_
  first | refine w_iinc_5 dX3_readText_96 (nI_inc _) rfl ?_ | refine w_iinc_5 dX3_readText_96 rfl rfl ?_
  refine w_goto (tgt := 33) dX3_readText_99 (by decide) ?_
  refine w_iload dX3_readText_33 rfl ?_
  refine w_ifN_eq (tgt := 102) dX3_readText_35 (by decide) (fun c_35 => ?_) (fun c9 => absurd (rfl) c9)
  exact lp_lt102 hd hQ hX hFF
theorem lp_lgo {E : EV} {Q : OC → AH → Prop} {v l n : Nat} {y : Nat → Nat} {G0 : AH} {u1 : US} {vt vn : Value} (hd : l + 6 ≤ v ∨ v + 4 ≤ l) (hQ : ∀ G1, Lx G1 v l y n (uEnd n u1) → FrV G0 G1 v l → Q (.inl (some (.int (uEnd n u1).1.2))) G1) : ∀ (k i : Nat) (u : US) (G : AH), i + k = 13 → u.2.1.1 = nI i → uGo y n k i u = u1 → Lx G v l y n u → FrV G0 G v l → Wp E 13 0 0 kX3_readText Q G (0, 0) 33 [.ref v, vt, vn, .ref l, .int (nI 1), .int (nI i)] [] := by
  intro k
  induction k with
  | zero =>
    intro i u G hk hli he hX hFF
    rw [uGo] at he
    subst he
    refine w_iload dX3_readText_33 rfl ?_
    refine w_ifN_eq (tgt := 102) dX3_readText_35 (by decide) (fun c9 => absurd c9 (by decide)) (fun c_35 => ?_)
    refine w_iload dX3_readText_38 rfl ?_
    refine w_bipush (v := nI 12) dX3_readText_40 (by decide) ?_
    refine w_icmp_gt (tgt := 102) dX3_readText_42 (by decide) (fun c_42 => ?_) (fun c_42 => ?_)
    · try simp (disch := omega) only [nI_b2, nI_ltI, nI_leI, nI_eq, ge_iff_le, gt_iff_lt, Nat.not_lt, Nat.not_le, ne_eq, Decidable.not_not] at c_42
      exact lp_lt102 hd hQ hX hFF
    · try simp (disch := omega) only [nI_b2, nI_ltI, nI_leI, nI_eq, ge_iff_le, gt_iff_lt, Nat.not_lt, Nat.not_le, ne_eq, Decidable.not_not] at c_42
      exact absurd c_42 (by omega)
  | succ k ih =>
    intro i u G hk hli he hX hFF
    rw [uGo] at he
    obtain ⟨v0, v3, hR, hL, hu, hw⟩ := id hX
    obtain ⟨r0, r1, -⟩ := id hR
    obtain ⟨l0, -⟩ := id hL
    have hp400 : u.1.1 ≤ 400 := by have h1 := hR.2.2.1; have h2 := hR.2.2.2.1; omega
    refine w_iload dX3_readText_33 rfl ?_
    refine w_ifN_eq (tgt := 102) dX3_readText_35 (by decide) (fun c9 => absurd c9 (by decide)) (fun c_35 => ?_)
    refine w_iload dX3_readText_38 rfl ?_
    refine w_bipush (v := nI 12) dX3_readText_40 (by decide) ?_
    refine w_icmp_gt (tgt := 102) dX3_readText_42 (by decide) (fun c_42 => ?_) (fun c_42 => ?_)
    · try simp (disch := omega) only [nI_b2, nI_ltI, nI_leI, nI_eq, ge_iff_le, gt_iff_lt, Nat.not_lt, Nat.not_le, ne_eq, Decidable.not_not] at c_42
      exact absurd c_42 (by omega)
    · try simp (disch := omega) only [nI_b2, nI_ltI, nI_leI, nI_eq, ge_iff_le, gt_iff_lt, Nat.not_lt, Nat.not_le, ne_eq, Decidable.not_not] at c_42
      refine w_iload dX3_readText_45 rfl ?_
      refine w_bipush (v := nI 12) dX3_readText_47 (by decide) ?_
      refine w_icmp_ne (tgt := 62) dX3_readText_49 (by decide) (fun c_49 => ?_) (fun c_49 => ?_)
      · try simp (disch := omega) only [nI_b2, nI_ltI, nI_leI, nI_eq, ge_iff_le, gt_iff_lt, Nat.not_lt, Nat.not_le, ne_eq, Decidable.not_not] at c_49
        refine w_aload_n dX3_readText_62 rfl ?_
        refine w_aload_n dX3_readText_63 rfl ?_
        refine wV1d dX3_readText_64 lk_X3_45 rfl (by first | assumption | exact gs_at | (rw [gs_ne (by omega)]; (first | assumption | exact gs_at | (rw [gs_ne (by omega)]; (first | assumption | exact gs_at | (rw [gs_ne (by omega)]; (first | assumption | exact gs_at | (rw [gs_ne (by omega)]; (first | assumption | exact gs_at))))))))) rfl rfl (c_readLawLine hX hd hli (by omega)) (Nat.le_of_ble_eq_true rfl) (Nat.le_of_ble_eq_true rfl) (Nat.le_of_ble_eq_true rfl) (Nat.le_of_ble_eq_true rfl) (fun G h_64 => ?_)
        obtain ⟨hX, hF1⟩ := h_64
        have hFF := FrV.tr hFF hF1
        obtain ⟨v0, v3, hR, hL, hu, hw⟩ := id hX
        obtain ⟨r0, r1, -⟩ := id hR
        obtain ⟨l0, -⟩ := id hL
        have hX : Lx G v l y n (uStep y n i u) := by unfold uStep; first | (rw [if_pos c_49]; exact hX) | (rw [if_neg c_49]; exact hX)
        obtain ⟨v0, v3, hR, hL, hu, hw⟩ := id hX
        obtain ⟨r0, r1, -⟩ := id hR
        obtain ⟨l0, -⟩ := id hL
        refine w_aload_n dX3_readText_67 rfl ?_
        refine w_getf dX3_readText_68 fl_X3_12 (by first | assumption | exact gs_at | (rw [gs_ne (by omega)]; (first | assumption | exact gs_at | (rw [gs_ne (by omega)]; (first | assumption | exact gs_at | (rw [gs_ne (by omega)]; (first | assumption | exact gs_at | (rw [gs_ne (by omega)]; (first | assumption | exact gs_at))))))))) rfl ?_
        refine wV0u dX3_readText_71 lk_X3_49 rfl (by first | assumption | exact gs_at | (rw [gs_ne (by omega)]; (first | assumption | exact gs_at | (rw [gs_ne (by omega)]; (first | assumption | exact gs_at | (rw [gs_ne (by omega)]; (first | assumption | exact gs_at | (rw [gs_ne (by omega)]; (first | assumption | exact gs_at))))))))) rfl rfl (c_isRight hR) (Nat.le_of_ble_eq_true rfl) (Nat.le_of_ble_eq_true rfl) (Nat.le_of_ble_eq_true rfl) (Nat.le_of_ble_eq_true rfl) ?_
        refine w_ifN_eq (tgt := 93) dX3_readText_74 (by decide) (fun c_74 => ?_) (fun c_74 => ?_)
        · try simp (disch := omega) only [nI_b2, nI_ltI, nI_leI, nI_eq, ge_iff_le, gt_iff_lt, Nat.not_lt, Nat.not_le, ne_eq, Decidable.not_not] at c_74
          refine w_iconst (v := nI 0) dX3_readText_93 (by decide) ?_
          first
            | (rw [if_neg c_74] at he; subst he; exact lp_lt94f hd hQ hX hFF)
            | (rw [if_pos c_74, if_neg c_86] at he; subst he; rw [sTk, if_neg c_86] at hX; exact lp_lt94f hd hQ hX hFF)
            | (rw [if_pos c_74, if_pos c_86] at he; rw [sTk, if_pos c_86] at hX; refine w_istore_4 dX3_readText_94 rfl ?_; refine w_iinc_5 dX3_readText_96 (nI_inc _) rfl ?_; refine w_goto (tgt := 33) dX3_readText_99 (by decide) ?_; exact ih (i + 1) (tkU y n (uStep y n i u)) G (by omega) (uStep_1 hp400 c_74) he hX hFF)
        · try simp (disch := omega) only [nI_b2, nI_ltI, nI_leI, nI_eq, ge_iff_le, gt_iff_lt, Nat.not_lt, Nat.not_le, ne_eq, Decidable.not_not] at c_74
          refine w_aload_n dX3_readText_77 rfl ?_
          refine w_getf dX3_readText_78 fl_X3_12 (by first | assumption | exact gs_at | (rw [gs_ne (by omega)]; (first | assumption | exact gs_at | (rw [gs_ne (by omega)]; (first | assumption | exact gs_at | (rw [gs_ne (by omega)]; (first | assumption | exact gs_at | (rw [gs_ne (by omega)]; (first | assumption | exact gs_at))))))))) rfl ?_
          refine w_ldcS (i := 34) rfl rfl dX3_readText_81 ?_
          refine wV1i dX3_readText_83 lk_X3_54 rfl (by first | assumption | exact gs_at | (rw [gs_ne (by omega)]; (first | assumption | exact gs_at | (rw [gs_ne (by omega)]; (first | assumption | exact gs_at | (rw [gs_ne (by omega)]; (first | assumption | exact gs_at | (rw [gs_ne (by omega)]; (first | assumption | exact gs_at))))))))) rfl rfl (c_takes (ws := [59]) rfl rfl (by decide) (by decide) hR) (Nat.le_of_ble_eq_true rfl) (Nat.le_of_ble_eq_true rfl) (Nat.le_of_ble_eq_true rfl) (Nat.le_of_ble_eq_true rfl) (fun r_83 G h_83 => ?_)
          obtain ⟨rfl, hR9, hF1⟩ := h_83
          have hX := hX.rd hR9 hF1 hd
          have hFF := FrV.tr hFF hF1.toV
          obtain ⟨v0, v3, hR, hL, hu, hw⟩ := id hX
          obtain ⟨r0, r1, -⟩ := id hR
          obtain ⟨l0, -⟩ := id hL
          refine w_ifN_eq (tgt := 93) dX3_readText_86 (by decide) (fun c_86 => ?_) (fun c_86 => ?_)
          · try simp (disch := omega) only [nI_b2, nI_ltI, nI_leI, nI_eq, ge_iff_le, gt_iff_lt, Nat.not_lt, Nat.not_le, ne_eq, Decidable.not_not] at c_86
            refine w_iconst (v := nI 0) dX3_readText_93 (by decide) ?_
            first
              | (rw [if_neg c_74] at he; subst he; exact lp_lt94f hd hQ hX hFF)
              | (rw [if_pos c_74, if_neg c_86] at he; subst he; rw [sTk, if_neg c_86] at hX; exact lp_lt94f hd hQ hX hFF)
              | (rw [if_pos c_74, if_pos c_86] at he; rw [sTk, if_pos c_86] at hX; refine w_istore_4 dX3_readText_94 rfl ?_; refine w_iinc_5 dX3_readText_96 (nI_inc _) rfl ?_; refine w_goto (tgt := 33) dX3_readText_99 (by decide) ?_; exact ih (i + 1) (tkU y n (uStep y n i u)) G (by omega) (uStep_1 hp400 c_74) he hX hFF)
          · try simp (disch := omega) only [nI_b2, nI_ltI, nI_leI, nI_eq, ge_iff_le, gt_iff_lt, Nat.not_lt, Nat.not_le, ne_eq, Decidable.not_not] at c_86
            refine w_iconst (v := nI 1) dX3_readText_89 (by decide) ?_
            refine w_goto (tgt := 94) dX3_readText_90 (by decide) ?_
            first
              | (rw [if_neg c_74] at he; subst he; exact lp_lt94f hd hQ hX hFF)
              | (rw [if_pos c_74, if_neg c_86] at he; subst he; rw [sTk, if_neg c_86] at hX; exact lp_lt94f hd hQ hX hFF)
              | (rw [if_pos c_74, if_pos c_86] at he; rw [sTk, if_pos c_86] at hX; refine w_istore_4 dX3_readText_94 rfl ?_; refine w_iinc_5 dX3_readText_96 (nI_inc _) rfl ?_; refine w_goto (tgt := 33) dX3_readText_99 (by decide) ?_; exact ih (i + 1) (tkU y n (uStep y n i u)) G (by omega) (uStep_1 hp400 c_74) he hX hFF)
      · try simp (disch := omega) only [nI_b2, nI_ltI, nI_leI, nI_eq, ge_iff_le, gt_iff_lt, Nat.not_lt, Nat.not_le, ne_eq, Decidable.not_not] at c_49
        refine w_aload_n dX3_readText_52 rfl ?_
        refine w_getf dX3_readText_53 fl_X3_12 (by first | assumption | exact gs_at | (rw [gs_ne (by omega)]; (first | assumption | exact gs_at | (rw [gs_ne (by omega)]; (first | assumption | exact gs_at | (rw [gs_ne (by omega)]; (first | assumption | exact gs_at | (rw [gs_ne (by omega)]; (first | assumption | exact gs_at))))))))) rfl ?_
        refine wV0d dX3_readText_56 lk_X3_42 rfl (by first | assumption | exact gs_at | (rw [gs_ne (by omega)]; (first | assumption | exact gs_at | (rw [gs_ne (by omega)]; (first | assumption | exact gs_at | (rw [gs_ne (by omega)]; (first | assumption | exact gs_at | (rw [gs_ne (by omega)]; (first | assumption | exact gs_at))))))))) rfl rfl (c_refuse hR) (Nat.le_of_ble_eq_true rfl) (Nat.le_of_ble_eq_true rfl) (Nat.le_of_ble_eq_true rfl) (Nat.le_of_ble_eq_true rfl) (fun G h_56 => ?_)
        obtain ⟨hR9, hF1⟩ := h_56
        have hX := hX.rd hR9 hF1 hd
        have hFF := FrV.tr hFF hF1.toV
        obtain ⟨v0, v3, hR, hL, hu, hw⟩ := id hX
        obtain ⟨r0, r1, -⟩ := id hR
        obtain ⟨l0, -⟩ := id hL
        refine w_goto (tgt := 67) dX3_readText_59 (by decide) ?_
        have hX : Lx G v l y n (uStep y n i u) := by unfold uStep; first | (rw [if_pos c_49]; exact hX) | (rw [if_neg c_49]; exact hX)
        obtain ⟨v0, v3, hR, hL, hu, hw⟩ := id hX
        obtain ⟨r0, r1, -⟩ := id hR
        obtain ⟨l0, -⟩ := id hL
        refine w_aload_n dX3_readText_67 rfl ?_
        refine w_getf dX3_readText_68 fl_X3_12 (by first | assumption | exact gs_at | (rw [gs_ne (by omega)]; (first | assumption | exact gs_at | (rw [gs_ne (by omega)]; (first | assumption | exact gs_at | (rw [gs_ne (by omega)]; (first | assumption | exact gs_at | (rw [gs_ne (by omega)]; (first | assumption | exact gs_at))))))))) rfl ?_
        refine wV0u dX3_readText_71 lk_X3_49 rfl (by first | assumption | exact gs_at | (rw [gs_ne (by omega)]; (first | assumption | exact gs_at | (rw [gs_ne (by omega)]; (first | assumption | exact gs_at | (rw [gs_ne (by omega)]; (first | assumption | exact gs_at | (rw [gs_ne (by omega)]; (first | assumption | exact gs_at))))))))) rfl rfl (c_isRight hR) (Nat.le_of_ble_eq_true rfl) (Nat.le_of_ble_eq_true rfl) (Nat.le_of_ble_eq_true rfl) (Nat.le_of_ble_eq_true rfl) ?_
        refine w_ifN_eq (tgt := 93) dX3_readText_74 (by decide) (fun c_74 => ?_) (fun c_74 => ?_)
        · try simp (disch := omega) only [nI_b2, nI_ltI, nI_leI, nI_eq, ge_iff_le, gt_iff_lt, Nat.not_lt, Nat.not_le, ne_eq, Decidable.not_not] at c_74
          refine w_iconst (v := nI 0) dX3_readText_93 (by decide) ?_
          first
            | (rw [if_neg c_74] at he; subst he; exact lp_lt94f hd hQ hX hFF)
            | (rw [if_pos c_74, if_neg c_86] at he; subst he; rw [sTk, if_neg c_86] at hX; exact lp_lt94f hd hQ hX hFF)
            | (rw [if_pos c_74, if_pos c_86] at he; rw [sTk, if_pos c_86] at hX; refine w_istore_4 dX3_readText_94 rfl ?_; refine w_iinc_5 dX3_readText_96 (nI_inc _) rfl ?_; refine w_goto (tgt := 33) dX3_readText_99 (by decide) ?_; exact ih (i + 1) (tkU y n (uStep y n i u)) G (by omega) (uStep_1 hp400 c_74) he hX hFF)
        · try simp (disch := omega) only [nI_b2, nI_ltI, nI_leI, nI_eq, ge_iff_le, gt_iff_lt, Nat.not_lt, Nat.not_le, ne_eq, Decidable.not_not] at c_74
          refine w_aload_n dX3_readText_77 rfl ?_
          refine w_getf dX3_readText_78 fl_X3_12 (by first | assumption | exact gs_at | (rw [gs_ne (by omega)]; (first | assumption | exact gs_at | (rw [gs_ne (by omega)]; (first | assumption | exact gs_at | (rw [gs_ne (by omega)]; (first | assumption | exact gs_at | (rw [gs_ne (by omega)]; (first | assumption | exact gs_at))))))))) rfl ?_
          refine w_ldcS (i := 34) rfl rfl dX3_readText_81 ?_
          refine wV1i dX3_readText_83 lk_X3_54 rfl (by first | assumption | exact gs_at | (rw [gs_ne (by omega)]; (first | assumption | exact gs_at | (rw [gs_ne (by omega)]; (first | assumption | exact gs_at | (rw [gs_ne (by omega)]; (first | assumption | exact gs_at | (rw [gs_ne (by omega)]; (first | assumption | exact gs_at))))))))) rfl rfl (c_takes (ws := [59]) rfl rfl (by decide) (by decide) hR) (Nat.le_of_ble_eq_true rfl) (Nat.le_of_ble_eq_true rfl) (Nat.le_of_ble_eq_true rfl) (Nat.le_of_ble_eq_true rfl) (fun r_83 G h_83 => ?_)
          obtain ⟨rfl, hR9, hF1⟩ := h_83
          have hX := hX.rd hR9 hF1 hd
          have hFF := FrV.tr hFF hF1.toV
          obtain ⟨v0, v3, hR, hL, hu, hw⟩ := id hX
          obtain ⟨r0, r1, -⟩ := id hR
          obtain ⟨l0, -⟩ := id hL
          refine w_ifN_eq (tgt := 93) dX3_readText_86 (by decide) (fun c_86 => ?_) (fun c_86 => ?_)
          · try simp (disch := omega) only [nI_b2, nI_ltI, nI_leI, nI_eq, ge_iff_le, gt_iff_lt, Nat.not_lt, Nat.not_le, ne_eq, Decidable.not_not] at c_86
            refine w_iconst (v := nI 0) dX3_readText_93 (by decide) ?_
            first
              | (rw [if_neg c_74] at he; subst he; exact lp_lt94f hd hQ hX hFF)
              | (rw [if_pos c_74, if_neg c_86] at he; subst he; rw [sTk, if_neg c_86] at hX; exact lp_lt94f hd hQ hX hFF)
              | (rw [if_pos c_74, if_pos c_86] at he; rw [sTk, if_pos c_86] at hX; refine w_istore_4 dX3_readText_94 rfl ?_; refine w_iinc_5 dX3_readText_96 (nI_inc _) rfl ?_; refine w_goto (tgt := 33) dX3_readText_99 (by decide) ?_; exact ih (i + 1) (tkU y n (uStep y n i u)) G (by omega) (uStep_1 hp400 c_74) he hX hFF)
          · try simp (disch := omega) only [nI_b2, nI_ltI, nI_leI, nI_eq, ge_iff_le, gt_iff_lt, Nat.not_lt, Nat.not_le, ne_eq, Decidable.not_not] at c_86
            refine w_iconst (v := nI 1) dX3_readText_89 (by decide) ?_
            refine w_goto (tgt := 94) dX3_readText_90 (by decide) ?_
            first
              | (rw [if_neg c_74] at he; subst he; exact lp_lt94f hd hQ hX hFF)
              | (rw [if_pos c_74, if_neg c_86] at he; subst he; rw [sTk, if_neg c_86] at hX; exact lp_lt94f hd hQ hX hFF)
              | (rw [if_pos c_74, if_pos c_86] at he; rw [sTk, if_pos c_86] at hX; refine w_istore_4 dX3_readText_94 rfl ?_; refine w_iinc_5 dX3_readText_96 (nI_inc _) rfl ?_; refine w_goto (tgt := 33) dX3_readText_99 (by decide) ?_; exact ih (i + 1) (tkU y n (uStep y n i u)) G (by omega) (uStep_1 hp400 c_74) he hX hFF)
theorem c_lawText {E : EV} {v l n t e9 : Nat} {y : Nat → Nat} {w z l0 : Int32} {f0 : Nat → Int32} {X : LX} {ww : Nat → Int32} {wn : Nat} {dp : Int32} {G : AH} (hd : l + 6 ≤ v ∨ v + 4 ≤ l) (hv : G.1 v = some (oB 3 [.ref (v + 1), .ref (v + 3), .int (nI wn), .int dp])) (hv3 : G.1 (v + 3) = some (aI 32 ww)) (hwn : wn < 2 ^ 20) (h0 : G.1 (v + 1) = some (oB 5 [.ref (v + 1 + 1), .int l0, .int z, .int (nI e9), .int w])) (h1 : G.1 (v + 1 + 1) = some (aI 400 f0)) (ht : G.1 t = some (aI 400 (fun i => nI (y i)))) (hn : n ≤ 400) (hy : ∀ i, y i < 256) (hL : Lg G l X) (hu : X.2.2.2.2.2 ≤ 400) : Ci E 13 kX3_readText [.ref v, .ref t, .int (nI n), .ref l] G (fun r G1 => r = (uEnd n (uText y n ((skp y n 0, -1), clrX X, ww, wn, dp))).1.2 ∧ Lx G1 v l y n (uEnd n (uText y n ((skp y n 0, -1), clrX X, ww, wn, dp))) ∧ FrV G G1 v l) := by
  refine Ct.intro rfl (by decide) [.ref v, .ref t, .int (nI n), .ref l, .float 0, .float 0] (by simp [Value.category]) (Nat.le_of_ble_eq_true rfl) rfl ?_
  refine w_aload_n dX3_readText_0 rfl ?_
  refine w_getf dX3_readText_1 fl_X3_12 (by first | assumption | exact gs_at | (rw [gs_ne (by omega)]; (first | assumption | exact gs_at | (rw [gs_ne (by omega)]; (first | assumption | exact gs_at | (rw [gs_ne (by omega)]; (first | assumption | exact gs_at | (rw [gs_ne (by omega)]; (first | assumption | exact gs_at))))))))) rfl ?_
  refine w_aload_n dX3_readText_4 rfl ?_
  refine w_iload_n dX3_readText_5 rfl ?_
  refine wV2d dX3_readText_6 lk_X3_29 rfl (by first | assumption | exact gs_at | (rw [gs_ne (by omega)]; (first | assumption | exact gs_at | (rw [gs_ne (by omega)]; (first | assumption | exact gs_at | (rw [gs_ne (by omega)]; (first | assumption | exact gs_at | (rw [gs_ne (by omega)]; (first | assumption | exact gs_at))))))))) rfl rfl (c_open (m := 0) (e0 := 0) h0 h1 ht hn hy) (Nat.le_of_ble_eq_true rfl) (Nat.le_of_ble_eq_true rfl) (Nat.le_of_ble_eq_true rfl) (Nat.le_of_ble_eq_true rfl) (fun G1 h_6 => ?_)
  obtain ⟨hR, hG2, hGG⟩ := h_6
  have hL := hL.fr (G1 := G1) (fun q a b => hGG q (by omega) (by omega))
  have hv := (hGG v (by omega) (by omega)).trans hv
  have hv3 := (hGG (v + 3) (by omega) (by omega)).trans hv3
  have hX : Lx G1 v l y n ((skp y n 0, -1), X, ww, wn, dp) := ⟨hv, hv3, hR, hL, hu, hwn⟩
  have hFF : FrV G G1 v l := ⟨hG2, fun q a b => hGG q (by omega) (by omega)⟩
  obtain ⟨l0, -⟩ := id hL
  refine w_aload_n dX3_readText_9 rfl ?_
  refine wV0d dX3_readText_10 lk_X3_33 rfl (by first | assumption | exact gs_at | (rw [gs_ne (by omega)]; (first | assumption | exact gs_at | (rw [gs_ne (by omega)]; (first | assumption | exact gs_at | (rw [gs_ne (by omega)]; (first | assumption | exact gs_at | (rw [gs_ne (by omega)]; (first | assumption | exact gs_at))))))))) rfl rfl (c_clear hL) (Nat.le_of_ble_eq_true rfl) (Nat.le_of_ble_eq_true rfl) (Nat.le_of_ble_eq_true rfl) (Nat.le_of_ble_eq_true rfl) (fun G h_10 => ?_)
  obtain ⟨hL9, hF1⟩ := h_10
  have hX := hX.lg hL9 hF1 hd (Nat.zero_le _)
  have hFF := FrV.tr hFF hF1.toV
  obtain ⟨v0, v3, hR, hL, hu, hw⟩ := id hX
  obtain ⟨r0, r1, -⟩ := id hR
  obtain ⟨l0, -⟩ := id hL
  refine w_aload_n dX3_readText_13 rfl ?_
  refine w_getf dX3_readText_14 fl_X3_12 (by first | assumption | exact gs_at | (rw [gs_ne (by omega)]; (first | assumption | exact gs_at | (rw [gs_ne (by omega)]; (first | assumption | exact gs_at | (rw [gs_ne (by omega)]; (first | assumption | exact gs_at | (rw [gs_ne (by omega)]; (first | assumption | exact gs_at))))))))) rfl ?_
  refine wV0u dX3_readText_17 lk_X3_38 rfl (by first | assumption | exact gs_at | (rw [gs_ne (by omega)]; (first | assumption | exact gs_at | (rw [gs_ne (by omega)]; (first | assumption | exact gs_at | (rw [gs_ne (by omega)]; (first | assumption | exact gs_at | (rw [gs_ne (by omega)]; (first | assumption | exact gs_at))))))))) rfl rfl (c_isEnd hR) (Nat.le_of_ble_eq_true rfl) (Nat.le_of_ble_eq_true rfl) (Nat.le_of_ble_eq_true rfl) (Nat.le_of_ble_eq_true rfl) ?_
  refine w_ifN_ne (tgt := 27) dX3_readText_20 (by decide) (fun c_20 => ?_) (fun c_20 => ?_)
  · try simp only [nI_b2, ne_eq, Decidable.not_not] at c_20
    refine w_iconst (v := nI 0) dX3_readText_27 (by decide) ?_
    refine w_istore_4 dX3_readText_28 rfl ?_
    refine w_iconst (v := nI 0) dX3_readText_30 (by decide) ?_
    refine w_istore_5 dX3_readText_31 rfl ?_
    clear hv hv3
    first
      | (refine lp_lgo hd (u1 := uText y n ((skp y n 0, -1), clrX X, ww, wn, dp)) (fun G2 a b => ⟨_, rfl, rfl, a, b⟩) 13 0 ((skp y n 0, -1), clrX X, ww, wn, dp) _ rfl rfl (by rw [uText, if_neg c_20]) hX hFF; done)
      | (refine w_iload dX3_readText_33 rfl ?_; refine w_ifN_eq (tgt := 102) dX3_readText_35 (by decide) (fun _ => ?_) (fun c9 => absurd rfl c9); exact lp_lt102 hd (u1 := uText y n ((skp y n 0, -1), clrX X, ww, wn, dp)) (fun G2 a b => ⟨_, rfl, rfl, a, b⟩) (by rw [uText, if_pos c_20]; exact hX) hFF)
  · try simp only [nI_b2, ne_eq, Decidable.not_not] at c_20
    refine w_iconst (v := nI 1) dX3_readText_23 (by decide) ?_
    refine w_goto (tgt := 28) dX3_readText_24 (by decide) ?_
    refine w_istore_4 dX3_readText_28 rfl ?_
    refine w_iconst (v := nI 0) dX3_readText_30 (by decide) ?_
    refine w_istore_5 dX3_readText_31 rfl ?_
    clear hv hv3
    first
      | (refine lp_lgo hd (u1 := uText y n ((skp y n 0, -1), clrX X, ww, wn, dp)) (fun G2 a b => ⟨_, rfl, rfl, a, b⟩) 13 0 ((skp y n 0, -1), clrX X, ww, wn, dp) _ rfl rfl (by rw [uText, if_neg c_20]) hX hFF; done)
      | (refine w_iload dX3_readText_33 rfl ?_; refine w_ifN_eq (tgt := 102) dX3_readText_35 (by decide) (fun _ => ?_) (fun c9 => absurd rfl c9); exact lp_lt102 hd (u1 := uText y n ((skp y n 0, -1), clrX X, ww, wn, dp)) (fun G2 a b => ⟨_, rfl, rfl, a, b⟩) (by rw [uText, if_pos c_20]; exact hX) hFF)
theorem c_copyLaw {E : EV} {l k : Nat} {X Y : LX} {G : AH} (hL : Lg G l Y) (hK : Lg G k X) (hd : l + 6 ≤ k ∨ k + 6 ≤ l) : Cd E 3 kX2_copyFrom [.ref l, .ref k] G (fun G1 => Lg G1 l X ∧ FrW G G1 l) := by
  obtain ⟨l0, l1, l2, l3, l4, t0, l5⟩ := id hL
  obtain ⟨k0, k1, k2, k3, k4, t1, k5⟩ := id hK
  refine Ct.intro rfl (by decide) [.ref l, .ref k] (by simp [Value.category]) (Nat.le_of_ble_eq_true rfl) rfl ?_
  refine w_aload_n dX2_copyFrom_0 rfl ?_
  refine w_getf dX2_copyFrom_1 fl_X2_9 (by first | assumption | exact gs_at | (rw [gs_ne (by omega)]; (first | assumption | exact gs_at | (rw [gs_ne (by omega)]; (first | assumption | exact gs_at | (rw [gs_ne (by omega)]; (first | assumption | exact gs_at | (rw [gs_ne (by omega)]; (first | assumption | exact gs_at))))))))) rfl ?_
  refine w_aload_n dX2_copyFrom_4 rfl ?_
  refine w_getf dX2_copyFrom_5 fl_X2_9 (by first | assumption | exact gs_at | (rw [gs_ne (by omega)]; (first | assumption | exact gs_at | (rw [gs_ne (by omega)]; (first | assumption | exact gs_at | (rw [gs_ne (by omega)]; (first | assumption | exact gs_at | (rw [gs_ne (by omega)]; (first | assumption | exact gs_at))))))))) rfl ?_
  refine wN2n dX2_copyFrom_8 lk_X2_34 rfl (c_copyRow (by first | assumption | exact gs_at | (rw [gs_ne (by omega)]; (first | assumption | exact gs_at | (rw [gs_ne (by omega)]; (first | assumption | exact gs_at | (rw [gs_ne (by omega)]; (first | assumption | exact gs_at | (rw [gs_ne (by omega)]; (first | assumption | exact gs_at))))))))) (by first | assumption | exact gs_at | (rw [gs_ne (by omega)]; (first | assumption | exact gs_at | (rw [gs_ne (by omega)]; (first | assumption | exact gs_at | (rw [gs_ne (by omega)]; (first | assumption | exact gs_at | (rw [gs_ne (by omega)]; (first | assumption | exact gs_at))))))))) (by decide)) (Nat.le_of_ble_eq_true rfl) (Nat.le_of_ble_eq_true rfl) (Nat.le_of_ble_eq_true rfl) (Nat.le_of_ble_eq_true rfl) ?_
  refine w_aload_n dX2_copyFrom_11 rfl ?_
  refine w_getf dX2_copyFrom_12 fl_X2_15 (by first | assumption | exact gs_at | (rw [gs_ne (by omega)]; (first | assumption | exact gs_at | (rw [gs_ne (by omega)]; (first | assumption | exact gs_at | (rw [gs_ne (by omega)]; (first | assumption | exact gs_at | (rw [gs_ne (by omega)]; (first | assumption | exact gs_at))))))))) rfl ?_
  refine w_aload_n dX2_copyFrom_15 rfl ?_
  refine w_getf dX2_copyFrom_16 fl_X2_15 (by first | assumption | exact gs_at | (rw [gs_ne (by omega)]; (first | assumption | exact gs_at | (rw [gs_ne (by omega)]; (first | assumption | exact gs_at | (rw [gs_ne (by omega)]; (first | assumption | exact gs_at | (rw [gs_ne (by omega)]; (first | assumption | exact gs_at))))))))) rfl ?_
  refine wN2n dX2_copyFrom_19 lk_X2_34 rfl (c_copyRow (by first | assumption | exact gs_at | (rw [gs_ne (by omega)]; (first | assumption | exact gs_at | (rw [gs_ne (by omega)]; (first | assumption | exact gs_at | (rw [gs_ne (by omega)]; (first | assumption | exact gs_at | (rw [gs_ne (by omega)]; (first | assumption | exact gs_at))))))))) (by first | assumption | exact gs_at | (rw [gs_ne (by omega)]; (first | assumption | exact gs_at | (rw [gs_ne (by omega)]; (first | assumption | exact gs_at | (rw [gs_ne (by omega)]; (first | assumption | exact gs_at | (rw [gs_ne (by omega)]; (first | assumption | exact gs_at))))))))) (by decide)) (Nat.le_of_ble_eq_true rfl) (Nat.le_of_ble_eq_true rfl) (Nat.le_of_ble_eq_true rfl) (Nat.le_of_ble_eq_true rfl) ?_
  refine w_aload_n dX2_copyFrom_22 rfl ?_
  refine w_getf dX2_copyFrom_23 fl_X2_18 (by first | assumption | exact gs_at | (rw [gs_ne (by omega)]; (first | assumption | exact gs_at | (rw [gs_ne (by omega)]; (first | assumption | exact gs_at | (rw [gs_ne (by omega)]; (first | assumption | exact gs_at | (rw [gs_ne (by omega)]; (first | assumption | exact gs_at))))))))) rfl ?_
  refine w_aload_n dX2_copyFrom_26 rfl ?_
  refine w_getf dX2_copyFrom_27 fl_X2_18 (by first | assumption | exact gs_at | (rw [gs_ne (by omega)]; (first | assumption | exact gs_at | (rw [gs_ne (by omega)]; (first | assumption | exact gs_at | (rw [gs_ne (by omega)]; (first | assumption | exact gs_at | (rw [gs_ne (by omega)]; (first | assumption | exact gs_at))))))))) rfl ?_
  refine wN2n dX2_copyFrom_30 lk_X2_34 rfl (c_copyRow (by first | assumption | exact gs_at | (rw [gs_ne (by omega)]; (first | assumption | exact gs_at | (rw [gs_ne (by omega)]; (first | assumption | exact gs_at | (rw [gs_ne (by omega)]; (first | assumption | exact gs_at | (rw [gs_ne (by omega)]; (first | assumption | exact gs_at))))))))) (by first | assumption | exact gs_at | (rw [gs_ne (by omega)]; (first | assumption | exact gs_at | (rw [gs_ne (by omega)]; (first | assumption | exact gs_at | (rw [gs_ne (by omega)]; (first | assumption | exact gs_at | (rw [gs_ne (by omega)]; (first | assumption | exact gs_at))))))))) (by decide)) (Nat.le_of_ble_eq_true rfl) (Nat.le_of_ble_eq_true rfl) (Nat.le_of_ble_eq_true rfl) (Nat.le_of_ble_eq_true rfl) ?_
  refine w_aload_n dX2_copyFrom_33 rfl ?_
  refine w_getf dX2_copyFrom_34 fl_X2_21 (by first | assumption | exact gs_at | (rw [gs_ne (by omega)]; (first | assumption | exact gs_at | (rw [gs_ne (by omega)]; (first | assumption | exact gs_at | (rw [gs_ne (by omega)]; (first | assumption | exact gs_at | (rw [gs_ne (by omega)]; (first | assumption | exact gs_at))))))))) rfl ?_
  refine w_aload_n dX2_copyFrom_37 rfl ?_
  refine w_getf dX2_copyFrom_38 fl_X2_21 (by first | assumption | exact gs_at | (rw [gs_ne (by omega)]; (first | assumption | exact gs_at | (rw [gs_ne (by omega)]; (first | assumption | exact gs_at | (rw [gs_ne (by omega)]; (first | assumption | exact gs_at | (rw [gs_ne (by omega)]; (first | assumption | exact gs_at))))))))) rfl ?_
  refine wN2n dX2_copyFrom_41 lk_X2_34 rfl (c_copyRow (by first | assumption | exact gs_at | (rw [gs_ne (by omega)]; (first | assumption | exact gs_at | (rw [gs_ne (by omega)]; (first | assumption | exact gs_at | (rw [gs_ne (by omega)]; (first | assumption | exact gs_at | (rw [gs_ne (by omega)]; (first | assumption | exact gs_at))))))))) (by first | assumption | exact gs_at | (rw [gs_ne (by omega)]; (first | assumption | exact gs_at | (rw [gs_ne (by omega)]; (first | assumption | exact gs_at | (rw [gs_ne (by omega)]; (first | assumption | exact gs_at | (rw [gs_ne (by omega)]; (first | assumption | exact gs_at))))))))) (by decide)) (Nat.le_of_ble_eq_true rfl) (Nat.le_of_ble_eq_true rfl) (Nat.le_of_ble_eq_true rfl) (Nat.le_of_ble_eq_true rfl) ?_
  refine w_aload_n dX2_copyFrom_44 rfl ?_
  refine w_aload_n dX2_copyFrom_45 rfl ?_
  refine w_getf dX2_copyFrom_46 fl_X2_24 (by first | assumption | exact gs_at | (rw [gs_ne (by omega)]; (first | assumption | exact gs_at | (rw [gs_ne (by omega)]; (first | assumption | exact gs_at | (rw [gs_ne (by omega)]; (first | assumption | exact gs_at | (rw [gs_ne (by omega)]; (first | assumption | exact gs_at))))))))) rfl ?_
  refine w_putf dX2_copyFrom_49 fl_X2_24 (by first | assumption | exact gs_at | (rw [gs_ne (by omega)]; (first | assumption | exact gs_at | (rw [gs_ne (by omega)]; (first | assumption | exact gs_at | (rw [gs_ne (by omega)]; (first | assumption | exact gs_at | (rw [gs_ne (by omega)]; (first | assumption | exact gs_at))))))))) (by simp) rfl rfl ?_
  refine w_aload_n dX2_copyFrom_52 rfl ?_
  refine w_aload_n dX2_copyFrom_53 rfl ?_
  refine w_getf dX2_copyFrom_54 fl_X2_28 ((gs_ne (by omega)).trans ((gs_ne (by omega)).trans ((gs_ne (by omega)).trans ((gs_ne (by omega)).trans ((gs_ne (by omega)).trans k0))))) rfl ?_
  refine w_putf dX2_copyFrom_57 fl_X2_28 (by first | assumption | exact gs_at | (rw [gs_ne (by omega)]; (first | assumption | exact gs_at | (rw [gs_ne (by omega)]; (first | assumption | exact gs_at | (rw [gs_ne (by omega)]; (first | assumption | exact gs_at | (rw [gs_ne (by omega)]; (first | assumption | exact gs_at))))))))) (by simp) rfl rfl ?_
  refine w_vret dX2_copyFrom_60 rfl (Nat.le_of_ble_eq_true rfl) (Nat.le_of_ble_eq_true rfl) ?_
  refine ⟨rfl, ⟨gs_at, ?_, ?_, ?_, ?_, t0, ?_⟩, FrW.tr (FrW.tr (FrW.tr (FrW.tr (FrW.tr (FrW.gs (by omega) (by omega)) (FrW.gs (by omega) (by omega))) (FrW.gs (by omega) (by omega))) (FrW.gs (by omega) (by omega))) (FrW.gs (by omega) (by omega))) (FrW.gs (by omega) (by omega))⟩
  all_goals (repeat (first | exact gs_at | assumption | refine (gs_ne (by omega)).trans ?_))
