/-! a law being read: atoms, conditions -/
def depU (u : US) : US := (u.1, u.2.1, u.2.2.1, u.2.2.2.1, u.2.2.2.2 + nI 1)
def opC (y : Nat → Nat) (n p : Nat) : Int32 := if atB y n p [40] = true then -16 else -13
def uPre (y : Nat → Nat) (n : Nat) : Nat → US → Bool × US
  | 0, u => (true, u)
  | k + 1, u => if atB y n u.1.1 [110, 111, 116] = true ∨ atB y n u.1.1 [40] = true then (if ¬ u.2.2.2.2 < nI 6 then (false, rfU u) else uPre y n k (tkU y n (depU (uHold (opC y n u.1.1) u)))) else (true, u)
def uAtomE (y : Nat → Nat) (n : Nat) (u : US) : US := if atB y n u.1.1 [60] = true then emU (-11) (uSum y n (emU (-10) (tkU y n u))) else emU (-12) (uSum y n (emU (-10) (sNd y n [62] u.1, u.2)))
def uAtomT (y : Nat → Nat) (n : Nat) (u : US) : US := if atB y n u.1.1 [111, 119, 110] = true then emU (-8) (tkU y n u) else if atB y n u.1.1 [104, 111, 109, 101] = true then emU (-9) (tkU y n u) else uAtomE y n (uSum y n u)
def uAtom (y : Nat → Nat) (n : Nat) (u : US) : US := if (uPre y n 7 u).1 = true then uAtomT y n (uPre y n 7 u).2 else (uPre y n 7 u).2
theorem uPart_w (y : Nat → Nat) (n : Nat) (u : US) : (uPart y n u).2.2 = u.2.2 := by
  unfold uPart
  split <;> rfl
theorem uSm_w (y : Nat → Nat) (n : Nat) : ∀ (k : Nat) (u : US), (uSm y n k u).2.2 = u.2.2
  | 0, u => rfl
  | k + 1, u => by
    rw [uSm]
    split
    · split
      · rw [uSm_w y n k]; exact uPart_w y n u
      · exact uPart_w y n u
    · exact uPart_w y n u
theorem uSum_w (y : Nat → Nat) (n : Nat) (u : US) : (uSum y n u).2.2 = u.2.2 := by
  unfold uSum
  split
  · exact uSm_w y n 400 u
  · rfl
theorem uAtomE_w (y : Nat → Nat) (n : Nat) (u : US) : (uAtomE y n u).2.2 = u.2.2 := by
  unfold uAtomE
  split
  · show (uSum y n (emU (-10) (tkU y n u))).2.2 = _
    rw [uSum_w]; rfl
  · show (uSum y n (emU (-10) (sNd y n [62] u.1, u.2))).2.2 = _
    rw [uSum_w]; rfl
theorem uAtomT_w (y : Nat → Nat) (n : Nat) (u : US) : (uAtomT y n u).2.2 = u.2.2 := by
  unfold uAtomT
  split
  · rfl
  · split
    · rfl
    · rw [uAtomE_w, uSum_w]
theorem uPre_le (y : Nat → Nat) (n : Nat) : ∀ (k : Nat) (u : US), (uPre y n k u).2.2.2.2.1 ≤ u.2.2.2.1 + k
  | 0, u => Nat.le_refl _
  | k + 1, u => by
    rw [uPre]
    split
    · split
      · exact Nat.le_add_right _ _
      · refine Nat.le_trans (uPre_le y n k _) ?_
        show u.2.2.2.1 + 1 + k ≤ _
        omega
    · exact Nat.le_add_right _ _
theorem uAtom_le (y : Nat → Nat) (n : Nat) (u : US) : (uAtom y n u).2.2.2.1 ≤ u.2.2.2.1 + 7 := by
  unfold uAtom
  split
  · rw [uAtomT_w]; exact uPre_le y n 7 u
  · exact uPre_le y n 7 u
theorem lp_at161t {E : EV} {Q : OC → AH → Prop} {v l n : Nat} {y : Nat → Nat} {G0 : AH} {u1 : US} (hd : l + 6 ≤ v ∨ v + 4 ≤ l) (hQ : ∀ G1, Lx G1 v l y n u1 → FrV G0 G1 v l → Q (.inl none) G1) {u : US} {G : AH} {z : Value} (hc : atB y n u.1.1 [60] = true) (he : uAtomE y n u = u1) (hX : Lx G v l y n u) (hFF : FrV G0 G v l) : Wp E 10 0 0 kX3_readAtom Q G (0, 0) 161 [.ref v, .ref l, z] [.int (-11)] := by
  rw [uAtomE, if_pos hc] at he
  obtain ⟨v0, v3, hR, hL, hu, hw⟩ := id hX
  obtain ⟨r0, r1, -⟩ := id hR
  obtain ⟨l0, -⟩ := id hL
  refine w_istore_2 dX3_readAtom_161 rfl ?_
  refine w_aload_n dX3_readAtom_162 rfl ?_
  refine w_getf dX3_readAtom_163 fl_X3_12 (by first | assumption | exact gs_at | (rw [gs_ne (by omega)]; (first | assumption | exact gs_at | (rw [gs_ne (by omega)]; (first | assumption | exact gs_at | (rw [gs_ne (by omega)]; (first | assumption | exact gs_at | (rw [gs_ne (by omega)]; (first | assumption | exact gs_at))))))))) rfl ?_
  refine w_ldcS (i := 29) rfl rfl dX3_readAtom_166 ?_
  refine wV1i dX3_readAtom_168 lk_X3_54 rfl (by first | assumption | exact gs_at | (rw [gs_ne (by omega)]; (first | assumption | exact gs_at | (rw [gs_ne (by omega)]; (first | assumption | exact gs_at | (rw [gs_ne (by omega)]; (first | assumption | exact gs_at | (rw [gs_ne (by omega)]; (first | assumption | exact gs_at))))))))) rfl rfl (c_takes (ws := [60]) rfl rfl (by decide) (by decide) hR) (Nat.le_of_ble_eq_true rfl) (Nat.le_of_ble_eq_true rfl) (Nat.le_of_ble_eq_true rfl) (Nat.le_of_ble_eq_true rfl) (fun r_168 G h_168 => ?_)
  obtain ⟨rfl, hR9, hF1⟩ := h_168
  have hX := hX.rd hR9 hF1 hd
  have hFF := FrV.tr hFF hF1.toV
  obtain ⟨v0, v3, hR, hL, hu, hw⟩ := id hX
  obtain ⟨r0, r1, -⟩ := id hR
  obtain ⟨l0, -⟩ := id hL
  refine w_ifN_ne (tgt := 183) dX3_readAtom_171 (by decide) (fun c_171 => ?_) (fun c_171 => ?_)
  · try simp only [nI_b2, ne_eq, Decidable.not_not] at c_171
    rw [sTk, if_pos hc] at hX
    obtain ⟨v0, v3, hR, hL, hu, hw⟩ := id hX
    obtain ⟨r0, r1, -⟩ := id hR
    obtain ⟨l0, -⟩ := id hL
    refine w_aload_n dX3_readAtom_183 rfl ?_
    refine w_bipush (v := (-10)) dX3_readAtom_184 (by decide) ?_
    refine wV1d dX3_readAtom_186 lk_X3_113 rfl (by first | assumption | exact gs_at | (rw [gs_ne (by omega)]; (first | assumption | exact gs_at | (rw [gs_ne (by omega)]; (first | assumption | exact gs_at | (rw [gs_ne (by omega)]; (first | assumption | exact gs_at | (rw [gs_ne (by omega)]; (first | assumption | exact gs_at))))))))) rfl rfl (c_emit hL hu) (Nat.le_of_ble_eq_true rfl) (Nat.le_of_ble_eq_true rfl) (Nat.le_of_ble_eq_true rfl) (Nat.le_of_ble_eq_true rfl) (fun G h_186 => ?_)
    obtain ⟨hL9, hF1⟩ := h_186
    have hX := hX.lg hL9 hF1 hd (emX_le hu)
    have hFF := FrV.tr hFF hF1.toV
    obtain ⟨v0, v3, hR, hL, hu, hw⟩ := id hX
    obtain ⟨r0, r1, -⟩ := id hR
    obtain ⟨l0, -⟩ := id hL
    refine w_aload_n dX3_readAtom_189 rfl ?_
    refine w_aload_n dX3_readAtom_190 rfl ?_
    refine wV1d dX3_readAtom_191 lk_X3_118 rfl (by first | assumption | exact gs_at | (rw [gs_ne (by omega)]; (first | assumption | exact gs_at | (rw [gs_ne (by omega)]; (first | assumption | exact gs_at | (rw [gs_ne (by omega)]; (first | assumption | exact gs_at | (rw [gs_ne (by omega)]; (first | assumption | exact gs_at))))))))) rfl rfl (c_readSum hX hd) (Nat.le_of_ble_eq_true rfl) (Nat.le_of_ble_eq_true rfl) (Nat.le_of_ble_eq_true rfl) (Nat.le_of_ble_eq_true rfl) (fun G h_191 => ?_)
    obtain ⟨hX, hF1⟩ := h_191
    have hFF := FrV.tr hFF hF1
    obtain ⟨v0, v3, hR, hL, hu, hw⟩ := id hX
    obtain ⟨r0, r1, -⟩ := id hR
    obtain ⟨l0, -⟩ := id hL
    refine w_aload_n dX3_readAtom_194 rfl ?_
    refine w_iload_n dX3_readAtom_195 rfl ?_
    refine wV1d dX3_readAtom_196 lk_X3_113 rfl (by first | assumption | exact gs_at | (rw [gs_ne (by omega)]; (first | assumption | exact gs_at | (rw [gs_ne (by omega)]; (first | assumption | exact gs_at | (rw [gs_ne (by omega)]; (first | assumption | exact gs_at | (rw [gs_ne (by omega)]; (first | assumption | exact gs_at))))))))) rfl rfl (c_emit hL hu) (Nat.le_of_ble_eq_true rfl) (Nat.le_of_ble_eq_true rfl) (Nat.le_of_ble_eq_true rfl) (Nat.le_of_ble_eq_true rfl) (fun G h_196 => ?_)
    obtain ⟨hL9, hF1⟩ := h_196
    have hX := hX.lg hL9 hF1 hd (emX_le hu)
    have hFF := FrV.tr hFF hF1.toV
    obtain ⟨v0, v3, hR, hL, hu, hw⟩ := id hX
    obtain ⟨r0, r1, -⟩ := id hR
    obtain ⟨l0, -⟩ := id hL
    refine w_vret dX3_readAtom_199 rfl (Nat.le_of_ble_eq_true rfl) (Nat.le_of_ble_eq_true rfl) ?_
    subst he
    exact hQ _ hX hFF
  · try simp only [nI_b2, ne_eq, Decidable.not_not] at c_171
    exact absurd hc c_171
theorem lp_at161f {E : EV} {Q : OC → AH → Prop} {v l n : Nat} {y : Nat → Nat} {G0 : AH} {u1 : US} (hd : l + 6 ≤ v ∨ v + 4 ≤ l) (hQ : ∀ G1, Lx G1 v l y n u1 → FrV G0 G1 v l → Q (.inl none) G1) {u : US} {G : AH} {z : Value} (hc : ¬ atB y n u.1.1 [60] = true) (he : uAtomE y n u = u1) (hX : Lx G v l y n u) (hFF : FrV G0 G v l) : Wp E 10 0 0 kX3_readAtom Q G (0, 0) 161 [.ref v, .ref l, z] [.int (-12)] := by
  rw [uAtomE, if_neg hc] at he
  obtain ⟨v0, v3, hR, hL, hu, hw⟩ := id hX
  obtain ⟨r0, r1, -⟩ := id hR
  obtain ⟨l0, -⟩ := id hL
  refine w_istore_2 dX3_readAtom_161 rfl ?_
  refine w_aload_n dX3_readAtom_162 rfl ?_
  refine w_getf dX3_readAtom_163 fl_X3_12 (by first | assumption | exact gs_at | (rw [gs_ne (by omega)]; (first | assumption | exact gs_at | (rw [gs_ne (by omega)]; (first | assumption | exact gs_at | (rw [gs_ne (by omega)]; (first | assumption | exact gs_at | (rw [gs_ne (by omega)]; (first | assumption | exact gs_at))))))))) rfl ?_
  refine w_ldcS (i := 29) rfl rfl dX3_readAtom_166 ?_
  refine wV1i dX3_readAtom_168 lk_X3_54 rfl (by first | assumption | exact gs_at | (rw [gs_ne (by omega)]; (first | assumption | exact gs_at | (rw [gs_ne (by omega)]; (first | assumption | exact gs_at | (rw [gs_ne (by omega)]; (first | assumption | exact gs_at | (rw [gs_ne (by omega)]; (first | assumption | exact gs_at))))))))) rfl rfl (c_takes (ws := [60]) rfl rfl (by decide) (by decide) hR) (Nat.le_of_ble_eq_true rfl) (Nat.le_of_ble_eq_true rfl) (Nat.le_of_ble_eq_true rfl) (Nat.le_of_ble_eq_true rfl) (fun r_168 G h_168 => ?_)
  obtain ⟨rfl, hR9, hF1⟩ := h_168
  have hX := hX.rd hR9 hF1 hd
  have hFF := FrV.tr hFF hF1.toV
  obtain ⟨v0, v3, hR, hL, hu, hw⟩ := id hX
  obtain ⟨r0, r1, -⟩ := id hR
  obtain ⟨l0, -⟩ := id hL
  refine w_ifN_ne (tgt := 183) dX3_readAtom_171 (by decide) (fun c_171 => ?_) (fun c_171 => ?_)
  · try simp only [nI_b2, ne_eq, Decidable.not_not] at c_171
    exact absurd c_171 hc
  · try simp only [nI_b2, ne_eq, Decidable.not_not] at c_171
    rw [sTk, if_neg hc] at hX
    obtain ⟨v0, v3, hR, hL, hu, hw⟩ := id hX
    obtain ⟨r0, r1, -⟩ := id hR
    obtain ⟨l0, -⟩ := id hL
    refine w_aload_n dX3_readAtom_174 rfl ?_
    refine w_getf dX3_readAtom_175 fl_X3_12 (by first | assumption | exact gs_at | (rw [gs_ne (by omega)]; (first | assumption | exact gs_at | (rw [gs_ne (by omega)]; (first | assumption | exact gs_at | (rw [gs_ne (by omega)]; (first | assumption | exact gs_at | (rw [gs_ne (by omega)]; (first | assumption | exact gs_at))))))))) rfl ?_
    refine w_ldcS (i := 30) rfl rfl dX3_readAtom_178 ?_
    refine wV1d dX3_readAtom_180 lk_X3_125 rfl (by first | assumption | exact gs_at | (rw [gs_ne (by omega)]; (first | assumption | exact gs_at | (rw [gs_ne (by omega)]; (first | assumption | exact gs_at | (rw [gs_ne (by omega)]; (first | assumption | exact gs_at | (rw [gs_ne (by omega)]; (first | assumption | exact gs_at))))))))) rfl rfl (c_needs (ws := [62]) rfl rfl (by decide) (by decide) hR) (Nat.le_of_ble_eq_true rfl) (Nat.le_of_ble_eq_true rfl) (Nat.le_of_ble_eq_true rfl) (Nat.le_of_ble_eq_true rfl) (fun G h_180 => ?_)
    obtain ⟨hR9, hF1⟩ := h_180
    have hX := hX.rd hR9 hF1 hd
    have hFF := FrV.tr hFF hF1.toV
    obtain ⟨v0, v3, hR, hL, hu, hw⟩ := id hX
    obtain ⟨r0, r1, -⟩ := id hR
    obtain ⟨l0, -⟩ := id hL
    refine w_aload_n dX3_readAtom_183 rfl ?_
    refine w_bipush (v := (-10)) dX3_readAtom_184 (by decide) ?_
    refine wV1d dX3_readAtom_186 lk_X3_113 rfl (by first | assumption | exact gs_at | (rw [gs_ne (by omega)]; (first | assumption | exact gs_at | (rw [gs_ne (by omega)]; (first | assumption | exact gs_at | (rw [gs_ne (by omega)]; (first | assumption | exact gs_at | (rw [gs_ne (by omega)]; (first | assumption | exact gs_at))))))))) rfl rfl (c_emit hL hu) (Nat.le_of_ble_eq_true rfl) (Nat.le_of_ble_eq_true rfl) (Nat.le_of_ble_eq_true rfl) (Nat.le_of_ble_eq_true rfl) (fun G h_186 => ?_)
    obtain ⟨hL9, hF1⟩ := h_186
    have hX := hX.lg hL9 hF1 hd (emX_le hu)
    have hFF := FrV.tr hFF hF1.toV
    obtain ⟨v0, v3, hR, hL, hu, hw⟩ := id hX
    obtain ⟨r0, r1, -⟩ := id hR
    obtain ⟨l0, -⟩ := id hL
    refine w_aload_n dX3_readAtom_189 rfl ?_
    refine w_aload_n dX3_readAtom_190 rfl ?_
    refine wV1d dX3_readAtom_191 lk_X3_118 rfl (by first | assumption | exact gs_at | (rw [gs_ne (by omega)]; (first | assumption | exact gs_at | (rw [gs_ne (by omega)]; (first | assumption | exact gs_at | (rw [gs_ne (by omega)]; (first | assumption | exact gs_at | (rw [gs_ne (by omega)]; (first | assumption | exact gs_at))))))))) rfl rfl (c_readSum hX hd) (Nat.le_of_ble_eq_true rfl) (Nat.le_of_ble_eq_true rfl) (Nat.le_of_ble_eq_true rfl) (Nat.le_of_ble_eq_true rfl) (fun G h_191 => ?_)
    obtain ⟨hX, hF1⟩ := h_191
    have hFF := FrV.tr hFF hF1
    obtain ⟨v0, v3, hR, hL, hu, hw⟩ := id hX
    obtain ⟨r0, r1, -⟩ := id hR
    obtain ⟨l0, -⟩ := id hL
    refine w_aload_n dX3_readAtom_194 rfl ?_
    refine w_iload_n dX3_readAtom_195 rfl ?_
    refine wV1d dX3_readAtom_196 lk_X3_113 rfl (by first | assumption | exact gs_at | (rw [gs_ne (by omega)]; (first | assumption | exact gs_at | (rw [gs_ne (by omega)]; (first | assumption | exact gs_at | (rw [gs_ne (by omega)]; (first | assumption | exact gs_at | (rw [gs_ne (by omega)]; (first | assumption | exact gs_at))))))))) rfl rfl (c_emit hL hu) (Nat.le_of_ble_eq_true rfl) (Nat.le_of_ble_eq_true rfl) (Nat.le_of_ble_eq_true rfl) (Nat.le_of_ble_eq_true rfl) (fun G h_196 => ?_)
    obtain ⟨hL9, hF1⟩ := h_196
    have hX := hX.lg hL9 hF1 hd (emX_le hu)
    have hFF := FrV.tr hFF hF1.toV
    obtain ⟨v0, v3, hR, hL, hu, hw⟩ := id hX
    obtain ⟨r0, r1, -⟩ := id hR
    obtain ⟨l0, -⟩ := id hL
    refine w_vret dX3_readAtom_199 rfl (Nat.le_of_ble_eq_true rfl) (Nat.le_of_ble_eq_true rfl) ?_
    subst he
    exact hQ _ hX hFF
theorem lp_atomT {E : EV} {Q : OC → AH → Prop} {v l n : Nat} {y : Nat → Nat} {G0 : AH} {u1 : US} (hd : l + 6 ≤ v ∨ v + 4 ≤ l) (hQ : ∀ G1, Lx G1 v l y n u1 → FrV G0 G1 v l → Q (.inl none) G1) {u : US} {G : AH} {z : Value} (he : uAtomT y n u = u1) (hX : Lx G v l y n u) (hFF : FrV G0 G v l) : Wp E 10 0 0 kX3_readAtom Q G (0, 0) 95 [.ref v, .ref l, z] [] := by
  rw [uAtomT] at he
  obtain ⟨v0, v3, hR, hL, hu, hw⟩ := id hX
  obtain ⟨r0, r1, -⟩ := id hR
  obtain ⟨l0, -⟩ := id hL
  refine w_aload_n dX3_readAtom_95 rfl ?_
  refine w_getf dX3_readAtom_96 fl_X3_12 (by first | assumption | exact gs_at | (rw [gs_ne (by omega)]; (first | assumption | exact gs_at | (rw [gs_ne (by omega)]; (first | assumption | exact gs_at | (rw [gs_ne (by omega)]; (first | assumption | exact gs_at | (rw [gs_ne (by omega)]; (first | assumption | exact gs_at))))))))) rfl ?_
  refine w_ldcS (i := 19) rfl rfl dX3_readAtom_99 ?_
  refine wV1i dX3_readAtom_101 lk_X3_54 rfl (by first | assumption | exact gs_at | (rw [gs_ne (by omega)]; (first | assumption | exact gs_at | (rw [gs_ne (by omega)]; (first | assumption | exact gs_at | (rw [gs_ne (by omega)]; (first | assumption | exact gs_at | (rw [gs_ne (by omega)]; (first | assumption | exact gs_at))))))))) rfl rfl (c_takes (ws := [111, 119, 110]) rfl rfl (by decide) (by decide) hR) (Nat.le_of_ble_eq_true rfl) (Nat.le_of_ble_eq_true rfl) (Nat.le_of_ble_eq_true rfl) (Nat.le_of_ble_eq_true rfl) (fun r_101 G h_101 => ?_)
  obtain ⟨rfl, hR9, hF1⟩ := h_101
  have hX := hX.rd hR9 hF1 hd
  have hFF := FrV.tr hFF hF1.toV
  obtain ⟨v0, v3, hR, hL, hu, hw⟩ := id hX
  obtain ⟨r0, r1, -⟩ := id hR
  obtain ⟨l0, -⟩ := id hL
  refine w_ifN_eq (tgt := 116) dX3_readAtom_104 (by decide) (fun c_104 => ?_) (fun c_104 => ?_)
  · try simp only [nI_b2, ne_eq, Decidable.not_not] at c_104
    rw [sTk, if_neg c_104] at hX
    rw [if_neg c_104] at he
    obtain ⟨v0, v3, hR, hL, hu, hw⟩ := id hX
    obtain ⟨r0, r1, -⟩ := id hR
    obtain ⟨l0, -⟩ := id hL
    refine w_aload_n dX3_readAtom_116 rfl ?_
    refine w_getf dX3_readAtom_117 fl_X3_12 (by first | assumption | exact gs_at | (rw [gs_ne (by omega)]; (first | assumption | exact gs_at | (rw [gs_ne (by omega)]; (first | assumption | exact gs_at | (rw [gs_ne (by omega)]; (first | assumption | exact gs_at | (rw [gs_ne (by omega)]; (first | assumption | exact gs_at))))))))) rfl ?_
    refine w_ldcS (i := 20) rfl rfl dX3_readAtom_120 ?_
    refine wV1i dX3_readAtom_122 lk_X3_54 rfl (by first | assumption | exact gs_at | (rw [gs_ne (by omega)]; (first | assumption | exact gs_at | (rw [gs_ne (by omega)]; (first | assumption | exact gs_at | (rw [gs_ne (by omega)]; (first | assumption | exact gs_at | (rw [gs_ne (by omega)]; (first | assumption | exact gs_at))))))))) rfl rfl (c_takes (ws := [104, 111, 109, 101]) rfl rfl (by decide) (by decide) hR) (Nat.le_of_ble_eq_true rfl) (Nat.le_of_ble_eq_true rfl) (Nat.le_of_ble_eq_true rfl) (Nat.le_of_ble_eq_true rfl) (fun r_122 G h_122 => ?_)
    obtain ⟨rfl, hR9, hF1⟩ := h_122
    have hX := hX.rd hR9 hF1 hd
    have hFF := FrV.tr hFF hF1.toV
    obtain ⟨v0, v3, hR, hL, hu, hw⟩ := id hX
    obtain ⟨r0, r1, -⟩ := id hR
    obtain ⟨l0, -⟩ := id hL
    refine w_ifN_eq (tgt := 137) dX3_readAtom_125 (by decide) (fun c_125 => ?_) (fun c_125 => ?_)
    · try simp only [nI_b2, ne_eq, Decidable.not_not] at c_125
      rw [sTk, if_neg c_125] at hX
      rw [if_neg c_125] at he
      obtain ⟨v0, v3, hR, hL, hu, hw⟩ := id hX
      obtain ⟨r0, r1, -⟩ := id hR
      obtain ⟨l0, -⟩ := id hL
      refine w_aload_n dX3_readAtom_137 rfl ?_
      refine w_aload_n dX3_readAtom_138 rfl ?_
      refine wV1d dX3_readAtom_139 lk_X3_118 rfl (by first | assumption | exact gs_at | (rw [gs_ne (by omega)]; (first | assumption | exact gs_at | (rw [gs_ne (by omega)]; (first | assumption | exact gs_at | (rw [gs_ne (by omega)]; (first | assumption | exact gs_at | (rw [gs_ne (by omega)]; (first | assumption | exact gs_at))))))))) rfl rfl (c_readSum hX hd) (Nat.le_of_ble_eq_true rfl) (Nat.le_of_ble_eq_true rfl) (Nat.le_of_ble_eq_true rfl) (Nat.le_of_ble_eq_true rfl) (fun G h_139 => ?_)
      obtain ⟨hX, hF1⟩ := h_139
      have hFF := FrV.tr hFF hF1
      obtain ⟨v0, v3, hR, hL, hu, hw⟩ := id hX
      obtain ⟨r0, r1, -⟩ := id hR
      obtain ⟨l0, -⟩ := id hL
      refine w_aload_n dX3_readAtom_142 rfl ?_
      refine w_getf dX3_readAtom_143 fl_X3_12 (by first | assumption | exact gs_at | (rw [gs_ne (by omega)]; (first | assumption | exact gs_at | (rw [gs_ne (by omega)]; (first | assumption | exact gs_at | (rw [gs_ne (by omega)]; (first | assumption | exact gs_at | (rw [gs_ne (by omega)]; (first | assumption | exact gs_at))))))))) rfl ?_
      refine w_ldcS (i := 29) rfl rfl dX3_readAtom_146 ?_
      refine wV1u dX3_readAtom_148 lk_X3_63 rfl (by first | assumption | exact gs_at | (rw [gs_ne (by omega)]; (first | assumption | exact gs_at | (rw [gs_ne (by omega)]; (first | assumption | exact gs_at | (rw [gs_ne (by omega)]; (first | assumption | exact gs_at | (rw [gs_ne (by omega)]; (first | assumption | exact gs_at))))))))) rfl rfl (c_isAt (ws := [60]) rfl rfl (by decide) (by decide) hR) (Nat.le_of_ble_eq_true rfl) (Nat.le_of_ble_eq_true rfl) (Nat.le_of_ble_eq_true rfl) (Nat.le_of_ble_eq_true rfl) ?_
      refine w_ifN_eq (tgt := 159) dX3_readAtom_151 (by decide) (fun c_151 => ?_) (fun c_151 => ?_)
      · try simp only [nI_b2, ne_eq, Decidable.not_not] at c_151
        refine w_bipush (v := (-12)) dX3_readAtom_159 (by decide) ?_
        first
          | exact lp_at161t hd hQ c_151 he hX hFF
          | exact lp_at161f hd hQ c_151 he hX hFF
      · try simp only [nI_b2, ne_eq, Decidable.not_not] at c_151
        refine w_bipush (v := (-11)) dX3_readAtom_154 (by decide) ?_
        refine w_goto (tgt := 161) dX3_readAtom_156 (by decide) ?_
        first
          | exact lp_at161t hd hQ c_151 he hX hFF
          | exact lp_at161f hd hQ c_151 he hX hFF
    · try simp only [nI_b2, ne_eq, Decidable.not_not] at c_125
      rw [sTk, if_pos c_125] at hX
      rw [if_pos c_125] at he
      obtain ⟨v0, v3, hR, hL, hu, hw⟩ := id hX
      obtain ⟨r0, r1, -⟩ := id hR
      obtain ⟨l0, -⟩ := id hL
      refine w_aload_n dX3_readAtom_128 rfl ?_
      refine w_bipush (v := (-9)) dX3_readAtom_129 (by decide) ?_
      refine wV1d dX3_readAtom_131 lk_X3_113 rfl (by first | assumption | exact gs_at | (rw [gs_ne (by omega)]; (first | assumption | exact gs_at | (rw [gs_ne (by omega)]; (first | assumption | exact gs_at | (rw [gs_ne (by omega)]; (first | assumption | exact gs_at | (rw [gs_ne (by omega)]; (first | assumption | exact gs_at))))))))) rfl rfl (c_emit hL hu) (Nat.le_of_ble_eq_true rfl) (Nat.le_of_ble_eq_true rfl) (Nat.le_of_ble_eq_true rfl) (Nat.le_of_ble_eq_true rfl) (fun G h_131 => ?_)
      obtain ⟨hL9, hF1⟩ := h_131
      have hX := hX.lg hL9 hF1 hd (emX_le hu)
      have hFF := FrV.tr hFF hF1.toV
      obtain ⟨v0, v3, hR, hL, hu, hw⟩ := id hX
      obtain ⟨r0, r1, -⟩ := id hR
      obtain ⟨l0, -⟩ := id hL
      refine w_goto (tgt := 199) dX3_readAtom_134 (by decide) ?_
      refine w_vret dX3_readAtom_199 rfl (Nat.le_of_ble_eq_true rfl) (Nat.le_of_ble_eq_true rfl) ?_
      subst he
      exact hQ _ hX hFF
  · try simp only [nI_b2, ne_eq, Decidable.not_not] at c_104
    rw [sTk, if_pos c_104] at hX
    rw [if_pos c_104] at he
    obtain ⟨v0, v3, hR, hL, hu, hw⟩ := id hX
    obtain ⟨r0, r1, -⟩ := id hR
    obtain ⟨l0, -⟩ := id hL
    refine w_aload_n dX3_readAtom_107 rfl ?_
    refine w_bipush (v := (-8)) dX3_readAtom_108 (by decide) ?_
    refine wV1d dX3_readAtom_110 lk_X3_113 rfl (by first | assumption | exact gs_at | (rw [gs_ne (by omega)]; (first | assumption | exact gs_at | (rw [gs_ne (by omega)]; (first | assumption | exact gs_at | (rw [gs_ne (by omega)]; (first | assumption | exact gs_at | (rw [gs_ne (by omega)]; (first | assumption | exact gs_at))))))))) rfl rfl (c_emit hL hu) (Nat.le_of_ble_eq_true rfl) (Nat.le_of_ble_eq_true rfl) (Nat.le_of_ble_eq_true rfl) (Nat.le_of_ble_eq_true rfl) (fun G h_110 => ?_)
    obtain ⟨hL9, hF1⟩ := h_110
    have hX := hX.lg hL9 hF1 hd (emX_le hu)
    have hFF := FrV.tr hFF hF1.toV
    obtain ⟨v0, v3, hR, hL, hu, hw⟩ := id hX
    obtain ⟨r0, r1, -⟩ := id hR
    obtain ⟨l0, -⟩ := id hL
    refine w_goto (tgt := 199) dX3_readAtom_113 (by decide) ?_
    refine w_vret dX3_readAtom_199 rfl (Nat.le_of_ble_eq_true rfl) (Nat.le_of_ble_eq_true rfl) ?_
    subst he
    exact hQ _ hX hFF
theorem lp_pre {E : EV} {Q : OC → AH → Prop} {v l n : Nat} {y : Nat → Nat} {G0 : AH} {u1 : US} (hd : l + 6 ≤ v ∨ v + 4 ≤ l) (hQ : ∀ G1, Lx G1 v l y n u1 → FrV G0 G1 v l → Q (.inl none) G1) : ∀ (k i : Nat) (u : US) (G : AH), i + k = 7 → u.2.2.2.1 + k < 2 ^ 19 → (if (uPre y n k u).1 = true then uAtomT y n (uPre y n k u).2 else (uPre y n k u).2) = u1 → Lx G v l y n u → FrV G0 G v l → Wp E 10 0 0 kX3_readAtom Q G (0, 0) 2 [.ref v, .ref l, .int (nI i)] [] := by
  intro k
  induction k with
  | zero =>
    intro i u G hk hwb he hX hFF
    rw [uPre, if_pos rfl] at he
    refine w_iload_n dX3_readAtom_2 rfl ?_
    refine w_bipush (v := nI 6) dX3_readAtom_3 (by decide) ?_
    refine w_icmp_gt (tgt := 95) dX3_readAtom_5 (by decide) (fun c_5 => ?_) (fun c_5 => ?_)
    · try simp (disch := omega) only [nI_b2, nI_ltI, nI_leI, nI_eq, ge_iff_le, gt_iff_lt, Nat.not_lt, Nat.not_le, ne_eq, Decidable.not_not] at c_5
      exact lp_atomT hd hQ he hX hFF
    · try simp (disch := omega) only [nI_b2, nI_ltI, nI_leI, nI_eq, ge_iff_le, gt_iff_lt, Nat.not_lt, Nat.not_le, ne_eq, Decidable.not_not] at c_5
      exact absurd c_5 (by omega)
  | succ k ih =>
    intro i u G hk hwb he hX hFF
    rw [uPre] at he
    obtain ⟨v0, v3, hR, hL, hu, hw⟩ := id hX
    obtain ⟨r0, r1, -⟩ := id hR
    obtain ⟨l0, -⟩ := id hL
    refine w_iload_n dX3_readAtom_2 rfl ?_
    refine w_bipush (v := nI 6) dX3_readAtom_3 (by decide) ?_
    refine w_icmp_gt (tgt := 95) dX3_readAtom_5 (by decide) (fun c_5 => ?_) (fun c_5 => ?_)
    · try simp (disch := omega) only [nI_b2, nI_ltI, nI_leI, nI_eq, ge_iff_le, gt_iff_lt, Nat.not_lt, Nat.not_le, ne_eq, Decidable.not_not] at c_5
      exact absurd c_5 (by omega)
    · try simp (disch := omega) only [nI_b2, nI_ltI, nI_leI, nI_eq, ge_iff_le, gt_iff_lt, Nat.not_lt, Nat.not_le, ne_eq, Decidable.not_not] at c_5
      refine w_aload_n dX3_readAtom_8 rfl ?_
      refine w_getf dX3_readAtom_9 fl_X3_12 (by first | assumption | exact gs_at | (rw [gs_ne (by omega)]; (first | assumption | exact gs_at | (rw [gs_ne (by omega)]; (first | assumption | exact gs_at | (rw [gs_ne (by omega)]; (first | assumption | exact gs_at | (rw [gs_ne (by omega)]; (first | assumption | exact gs_at))))))))) rfl ?_
      refine w_ldcS (i := 17) rfl rfl dX3_readAtom_12 ?_
      refine wV1u dX3_readAtom_14 lk_X3_63 rfl (by first | assumption | exact gs_at | (rw [gs_ne (by omega)]; (first | assumption | exact gs_at | (rw [gs_ne (by omega)]; (first | assumption | exact gs_at | (rw [gs_ne (by omega)]; (first | assumption | exact gs_at | (rw [gs_ne (by omega)]; (first | assumption | exact gs_at))))))))) rfl rfl (c_isAt (ws := [110, 111, 116]) rfl rfl (by decide) (by decide) hR) (Nat.le_of_ble_eq_true rfl) (Nat.le_of_ble_eq_true rfl) (Nat.le_of_ble_eq_true rfl) (Nat.le_of_ble_eq_true rfl) ?_
      refine w_ifN_ne (tgt := 32) dX3_readAtom_17 (by decide) (fun c_17 => ?_) (fun c_17 => ?_)
      · try simp (disch := omega) only [nI_b2, nI_ltI, nI_leI, nI_eq, ge_iff_le, gt_iff_lt, Nat.not_lt, Nat.not_le, ne_eq, Decidable.not_not] at c_17
        have hor : atB y n u.1.1 [110, 111, 116] = true ∨ atB y n u.1.1 [40] = true := by first | exact Or.inl c_17 | exact Or.inr c_29
        rw [if_pos hor] at he
        refine w_aload_n dX3_readAtom_32 rfl ?_
        refine w_getf dX3_readAtom_33 fl_X3_26 (by first | assumption | exact gs_at | (rw [gs_ne (by omega)]; (first | assumption | exact gs_at | (rw [gs_ne (by omega)]; (first | assumption | exact gs_at | (rw [gs_ne (by omega)]; (first | assumption | exact gs_at | (rw [gs_ne (by omega)]; (first | assumption | exact gs_at))))))))) rfl ?_
        refine w_bipush (v := nI 6) dX3_readAtom_36 (by decide) ?_
        refine w_icmp_lt (tgt := 49) dX3_readAtom_38 (by decide) (fun c_38 => ?_) (fun c_38 => ?_)
        · try simp (disch := omega) only [nI_b2, nI_ltI, nI_leI, nI_eq, ge_iff_le, gt_iff_lt, Nat.not_lt, Nat.not_le, ne_eq, Decidable.not_not] at c_38
          refine w_aload_n dX3_readAtom_49 rfl ?_
          refine w_aload_n dX3_readAtom_50 rfl ?_
          refine w_getf dX3_readAtom_51 fl_X3_12 (by first | assumption | exact gs_at | (rw [gs_ne (by omega)]; (first | assumption | exact gs_at | (rw [gs_ne (by omega)]; (first | assumption | exact gs_at | (rw [gs_ne (by omega)]; (first | assumption | exact gs_at | (rw [gs_ne (by omega)]; (first | assumption | exact gs_at))))))))) rfl ?_
          refine w_ldcS (i := 18) rfl rfl dX3_readAtom_54 ?_
          refine wV1u dX3_readAtom_56 lk_X3_63 rfl (by first | assumption | exact gs_at | (rw [gs_ne (by omega)]; (first | assumption | exact gs_at | (rw [gs_ne (by omega)]; (first | assumption | exact gs_at | (rw [gs_ne (by omega)]; (first | assumption | exact gs_at | (rw [gs_ne (by omega)]; (first | assumption | exact gs_at))))))))) rfl rfl (c_isAt (ws := [40]) rfl rfl (by decide) (by decide) hR) (Nat.le_of_ble_eq_true rfl) (Nat.le_of_ble_eq_true rfl) (Nat.le_of_ble_eq_true rfl) (Nat.le_of_ble_eq_true rfl) ?_
          refine w_ifN_eq (tgt := 67) dX3_readAtom_59 (by decide) (fun c_59 => ?_) (fun c_59 => ?_)
          · try simp (disch := omega) only [nI_b2, nI_ltI, nI_leI, nI_eq, ge_iff_le, gt_iff_lt, Nat.not_lt, Nat.not_le, ne_eq, Decidable.not_not] at c_59
            refine w_bipush (v := (-13)) dX3_readAtom_67 (by decide) ?_
            refine wV1d dX3_readAtom_69 lk_X3_107 rfl (by first | assumption | exact gs_at | (rw [gs_ne (by omega)]; (first | assumption | exact gs_at | (rw [gs_ne (by omega)]; (first | assumption | exact gs_at | (rw [gs_ne (by omega)]; (first | assumption | exact gs_at | (rw [gs_ne (by omega)]; (first | assumption | exact gs_at))))))))) rfl rfl (c_hold hX hd (by omega)) (Nat.le_of_ble_eq_true rfl) (Nat.le_of_ble_eq_true rfl) (Nat.le_of_ble_eq_true rfl) (Nat.le_of_ble_eq_true rfl) (fun G h_69 => ?_)
            obtain ⟨hX, hF1⟩ := h_69
            have hFF := FrV.tr hFF hF1
            obtain ⟨v0, v3, hR, hL, hu, hw⟩ := id hX
            obtain ⟨r0, r1, -⟩ := id hR
            obtain ⟨l0, -⟩ := id hL
            refine w_aload_n dX3_readAtom_72 rfl ?_
            refine w_dup dX3_readAtom_73 rfl ?_
            refine w_getf dX3_readAtom_74 fl_X3_26 (by first | assumption | exact gs_at | (rw [gs_ne (by omega)]; (first | assumption | exact gs_at | (rw [gs_ne (by omega)]; (first | assumption | exact gs_at | (rw [gs_ne (by omega)]; (first | assumption | exact gs_at | (rw [gs_ne (by omega)]; (first | assumption | exact gs_at))))))))) rfl ?_
            refine w_iconst (v := nI 1) dX3_readAtom_77 (by decide) ?_
            refine w_iadd dX3_readAtom_78 ?_
            refine w_putf dX3_readAtom_79 fl_X3_26 (by first | assumption | exact gs_at | (rw [gs_ne (by omega)]; (first | assumption | exact gs_at | (rw [gs_ne (by omega)]; (first | assumption | exact gs_at | (rw [gs_ne (by omega)]; (first | assumption | exact gs_at | (rw [gs_ne (by omega)]; (first | assumption | exact gs_at))))))))) (by simp) rfl rfl ?_
            have hX := hX.ob (k := u.2.2.2.1 + 1) (e := u.2.2.2.2 + nI 1) hd (by omega)
            have hFF := FrV.tr hFF (FrV.gs (q := v) (x := oB 3 [.ref (v + 1), .ref (v + 3), .int (nI (u.2.2.2.1 + 1)), .int (u.2.2.2.2 + nI 1)]) (by omega) (by omega))
            obtain ⟨v0, v3, hR, hL, hu, hw⟩ := id hX
            obtain ⟨r0, r1, -⟩ := id hR
            obtain ⟨l0, -⟩ := id hL
            refine w_aload_n dX3_readAtom_82 rfl ?_
            refine w_getf dX3_readAtom_83 fl_X3_12 (by first | assumption | exact gs_at | (rw [gs_ne (by omega)]; (first | assumption | exact gs_at | (rw [gs_ne (by omega)]; (first | assumption | exact gs_at | (rw [gs_ne (by omega)]; (first | assumption | exact gs_at | (rw [gs_ne (by omega)]; (first | assumption | exact gs_at))))))))) rfl ?_
            refine wV0d dX3_readAtom_86 lk_X3_70 rfl (by first | assumption | exact gs_at | (rw [gs_ne (by omega)]; (first | assumption | exact gs_at | (rw [gs_ne (by omega)]; (first | assumption | exact gs_at | (rw [gs_ne (by omega)]; (first | assumption | exact gs_at | (rw [gs_ne (by omega)]; (first | assumption | exact gs_at))))))))) rfl rfl (c_step (y := y) (n := n) (w := _) (e0 := tokE y n _) (bb := 0) r0 r1 hR.2.2.1 hR.2.2.2.2.1 (tokE_le hR.2.2.2.1).2) (Nat.le_of_ble_eq_true rfl) (Nat.le_of_ble_eq_true rfl) (Nat.le_of_ble_eq_true rfl) (Nat.le_of_ble_eq_true rfl) (fun G h_86 => ?_)
            obtain ⟨hR9, hF1⟩ := h_86
            have hX := hX.rd hR9 hF1 hd
            have hFF := FrV.tr hFF hF1.toV
            obtain ⟨v0, v3, hR, hL, hu, hw⟩ := id hX
            obtain ⟨r0, r1, -⟩ := id hR
            obtain ⟨l0, -⟩ := id hL
            first | refine w_iinc_2 dX3_readAtom_89 (nI_inc _) rfl ?_ | refine w_iinc_2 dX3_readAtom_89 rfl rfl ?_
            refine w_goto (tgt := 2) dX3_readAtom_92 (by decide) ?_
            have hn8 : ¬ ¬ u.2.2.2.2 < nI 6 := fun h => h c_38
            rw [if_neg hn8] at he
            first | rw [show opC y n u.1.1 = -16 from if_pos c_59] at he | rw [show opC y n u.1.1 = -13 from if_neg c_59] at he
            exact ih (i + 1) _ G (by omega) (by show u.2.2.2.1 + 1 + k < 2 ^ 19; omega) he hX hFF
          · try simp (disch := omega) only [nI_b2, nI_ltI, nI_leI, nI_eq, ge_iff_le, gt_iff_lt, Nat.not_lt, Nat.not_le, ne_eq, Decidable.not_not] at c_59
            refine w_bipush (v := (-16)) dX3_readAtom_62 (by decide) ?_
            refine w_goto (tgt := 69) dX3_readAtom_64 (by decide) ?_
            refine wV1d dX3_readAtom_69 lk_X3_107 rfl (by first | assumption | exact gs_at | (rw [gs_ne (by omega)]; (first | assumption | exact gs_at | (rw [gs_ne (by omega)]; (first | assumption | exact gs_at | (rw [gs_ne (by omega)]; (first | assumption | exact gs_at | (rw [gs_ne (by omega)]; (first | assumption | exact gs_at))))))))) rfl rfl (c_hold hX hd (by omega)) (Nat.le_of_ble_eq_true rfl) (Nat.le_of_ble_eq_true rfl) (Nat.le_of_ble_eq_true rfl) (Nat.le_of_ble_eq_true rfl) (fun G h_69 => ?_)
            obtain ⟨hX, hF1⟩ := h_69
            have hFF := FrV.tr hFF hF1
            obtain ⟨v0, v3, hR, hL, hu, hw⟩ := id hX
            obtain ⟨r0, r1, -⟩ := id hR
            obtain ⟨l0, -⟩ := id hL
            refine w_aload_n dX3_readAtom_72 rfl ?_
            refine w_dup dX3_readAtom_73 rfl ?_
            refine w_getf dX3_readAtom_74 fl_X3_26 (by first | assumption | exact gs_at | (rw [gs_ne (by omega)]; (first | assumption | exact gs_at | (rw [gs_ne (by omega)]; (first | assumption | exact gs_at | (rw [gs_ne (by omega)]; (first | assumption | exact gs_at | (rw [gs_ne (by omega)]; (first | assumption | exact gs_at))))))))) rfl ?_
            refine w_iconst (v := nI 1) dX3_readAtom_77 (by decide) ?_
            refine w_iadd dX3_readAtom_78 ?_
            refine w_putf dX3_readAtom_79 fl_X3_26 (by first | assumption | exact gs_at | (rw [gs_ne (by omega)]; (first | assumption | exact gs_at | (rw [gs_ne (by omega)]; (first | assumption | exact gs_at | (rw [gs_ne (by omega)]; (first | assumption | exact gs_at | (rw [gs_ne (by omega)]; (first | assumption | exact gs_at))))))))) (by simp) rfl rfl ?_
            have hX := hX.ob (k := u.2.2.2.1 + 1) (e := u.2.2.2.2 + nI 1) hd (by omega)
            have hFF := FrV.tr hFF (FrV.gs (q := v) (x := oB 3 [.ref (v + 1), .ref (v + 3), .int (nI (u.2.2.2.1 + 1)), .int (u.2.2.2.2 + nI 1)]) (by omega) (by omega))
            obtain ⟨v0, v3, hR, hL, hu, hw⟩ := id hX
            obtain ⟨r0, r1, -⟩ := id hR
            obtain ⟨l0, -⟩ := id hL
            refine w_aload_n dX3_readAtom_82 rfl ?_
            refine w_getf dX3_readAtom_83 fl_X3_12 (by first | assumption | exact gs_at | (rw [gs_ne (by omega)]; (first | assumption | exact gs_at | (rw [gs_ne (by omega)]; (first | assumption | exact gs_at | (rw [gs_ne (by omega)]; (first | assumption | exact gs_at | (rw [gs_ne (by omega)]; (first | assumption | exact gs_at))))))))) rfl ?_
            refine wV0d dX3_readAtom_86 lk_X3_70 rfl (by first | assumption | exact gs_at | (rw [gs_ne (by omega)]; (first | assumption | exact gs_at | (rw [gs_ne (by omega)]; (first | assumption | exact gs_at | (rw [gs_ne (by omega)]; (first | assumption | exact gs_at | (rw [gs_ne (by omega)]; (first | assumption | exact gs_at))))))))) rfl rfl (c_step (y := y) (n := n) (w := _) (e0 := tokE y n _) (bb := 0) r0 r1 hR.2.2.1 hR.2.2.2.2.1 (tokE_le hR.2.2.2.1).2) (Nat.le_of_ble_eq_true rfl) (Nat.le_of_ble_eq_true rfl) (Nat.le_of_ble_eq_true rfl) (Nat.le_of_ble_eq_true rfl) (fun G h_86 => ?_)
            obtain ⟨hR9, hF1⟩ := h_86
            have hX := hX.rd hR9 hF1 hd
            have hFF := FrV.tr hFF hF1.toV
            obtain ⟨v0, v3, hR, hL, hu, hw⟩ := id hX
            obtain ⟨r0, r1, -⟩ := id hR
            obtain ⟨l0, -⟩ := id hL
            first | refine w_iinc_2 dX3_readAtom_89 (nI_inc _) rfl ?_ | refine w_iinc_2 dX3_readAtom_89 rfl rfl ?_
            refine w_goto (tgt := 2) dX3_readAtom_92 (by decide) ?_
            have hn8 : ¬ ¬ u.2.2.2.2 < nI 6 := fun h => h c_38
            rw [if_neg hn8] at he
            first | rw [show opC y n u.1.1 = -16 from if_pos c_59] at he | rw [show opC y n u.1.1 = -13 from if_neg c_59] at he
            exact ih (i + 1) _ G (by omega) (by show u.2.2.2.1 + 1 + k < 2 ^ 19; omega) he hX hFF
        · try simp (disch := omega) only [nI_b2, nI_ltI, nI_leI, nI_eq, ge_iff_le, gt_iff_lt, Nat.not_lt, Nat.not_le, ne_eq, Decidable.not_not] at c_38
          refine w_aload_n dX3_readAtom_41 rfl ?_
          refine w_getf dX3_readAtom_42 fl_X3_12 (by first | assumption | exact gs_at | (rw [gs_ne (by omega)]; (first | assumption | exact gs_at | (rw [gs_ne (by omega)]; (first | assumption | exact gs_at | (rw [gs_ne (by omega)]; (first | assumption | exact gs_at | (rw [gs_ne (by omega)]; (first | assumption | exact gs_at))))))))) rfl ?_
          refine wV0d dX3_readAtom_45 lk_X3_42 rfl (by first | assumption | exact gs_at | (rw [gs_ne (by omega)]; (first | assumption | exact gs_at | (rw [gs_ne (by omega)]; (first | assumption | exact gs_at | (rw [gs_ne (by omega)]; (first | assumption | exact gs_at | (rw [gs_ne (by omega)]; (first | assumption | exact gs_at))))))))) rfl rfl (c_refuse hR) (Nat.le_of_ble_eq_true rfl) (Nat.le_of_ble_eq_true rfl) (Nat.le_of_ble_eq_true rfl) (Nat.le_of_ble_eq_true rfl) (fun G h_45 => ?_)
          obtain ⟨hR9, hF1⟩ := h_45
          have hX := hX.rd hR9 hF1 hd
          have hFF := FrV.tr hFF hF1.toV
          obtain ⟨v0, v3, hR, hL, hu, hw⟩ := id hX
          obtain ⟨r0, r1, -⟩ := id hR
          obtain ⟨l0, -⟩ := id hL
          refine w_vret dX3_readAtom_48 rfl (Nat.le_of_ble_eq_true rfl) (Nat.le_of_ble_eq_true rfl) ?_
          rw [if_pos c_38] at he
          have he : rfU u = u1 := he
          subst he
          exact hQ _ hX hFF
      · try simp (disch := omega) only [nI_b2, nI_ltI, nI_leI, nI_eq, ge_iff_le, gt_iff_lt, Nat.not_lt, Nat.not_le, ne_eq, Decidable.not_not] at c_17
        refine w_aload_n dX3_readAtom_20 rfl ?_
        refine w_getf dX3_readAtom_21 fl_X3_12 (by first | assumption | exact gs_at | (rw [gs_ne (by omega)]; (first | assumption | exact gs_at | (rw [gs_ne (by omega)]; (first | assumption | exact gs_at | (rw [gs_ne (by omega)]; (first | assumption | exact gs_at | (rw [gs_ne (by omega)]; (first | assumption | exact gs_at))))))))) rfl ?_
        refine w_ldcS (i := 18) rfl rfl dX3_readAtom_24 ?_
        refine wV1u dX3_readAtom_26 lk_X3_63 rfl (by first | assumption | exact gs_at | (rw [gs_ne (by omega)]; (first | assumption | exact gs_at | (rw [gs_ne (by omega)]; (first | assumption | exact gs_at | (rw [gs_ne (by omega)]; (first | assumption | exact gs_at | (rw [gs_ne (by omega)]; (first | assumption | exact gs_at))))))))) rfl rfl (c_isAt (ws := [40]) rfl rfl (by decide) (by decide) hR) (Nat.le_of_ble_eq_true rfl) (Nat.le_of_ble_eq_true rfl) (Nat.le_of_ble_eq_true rfl) (Nat.le_of_ble_eq_true rfl) ?_
        refine w_ifN_eq (tgt := 95) dX3_readAtom_29 (by decide) (fun c_29 => ?_) (fun c_29 => ?_)
        · try simp (disch := omega) only [nI_b2, nI_ltI, nI_leI, nI_eq, ge_iff_le, gt_iff_lt, Nat.not_lt, Nat.not_le, ne_eq, Decidable.not_not] at c_29
          have hno : ¬ (atB y n u.1.1 [110, 111, 116] = true ∨ atB y n u.1.1 [40] = true) := fun h => by rcases h with h | h; exact c_17 h; exact c_29 h
          rw [if_neg hno] at he
          have he : uAtomT y n u = u1 := he
          exact lp_atomT hd hQ he hX hFF
        · try simp (disch := omega) only [nI_b2, nI_ltI, nI_leI, nI_eq, ge_iff_le, gt_iff_lt, Nat.not_lt, Nat.not_le, ne_eq, Decidable.not_not] at c_29
          have hor : atB y n u.1.1 [110, 111, 116] = true ∨ atB y n u.1.1 [40] = true := by first | exact Or.inl c_17 | exact Or.inr c_29
          rw [if_pos hor] at he
          refine w_aload_n dX3_readAtom_32 rfl ?_
          refine w_getf dX3_readAtom_33 fl_X3_26 (by first | assumption | exact gs_at | (rw [gs_ne (by omega)]; (first | assumption | exact gs_at | (rw [gs_ne (by omega)]; (first | assumption | exact gs_at | (rw [gs_ne (by omega)]; (first | assumption | exact gs_at | (rw [gs_ne (by omega)]; (first | assumption | exact gs_at))))))))) rfl ?_
          refine w_bipush (v := nI 6) dX3_readAtom_36 (by decide) ?_
          refine w_icmp_lt (tgt := 49) dX3_readAtom_38 (by decide) (fun c_38 => ?_) (fun c_38 => ?_)
          · try simp (disch := omega) only [nI_b2, nI_ltI, nI_leI, nI_eq, ge_iff_le, gt_iff_lt, Nat.not_lt, Nat.not_le, ne_eq, Decidable.not_not] at c_38
            refine w_aload_n dX3_readAtom_49 rfl ?_
            refine w_aload_n dX3_readAtom_50 rfl ?_
            refine w_getf dX3_readAtom_51 fl_X3_12 (by first | assumption | exact gs_at | (rw [gs_ne (by omega)]; (first | assumption | exact gs_at | (rw [gs_ne (by omega)]; (first | assumption | exact gs_at | (rw [gs_ne (by omega)]; (first | assumption | exact gs_at | (rw [gs_ne (by omega)]; (first | assumption | exact gs_at))))))))) rfl ?_
            refine w_ldcS (i := 18) rfl rfl dX3_readAtom_54 ?_
            refine wV1u dX3_readAtom_56 lk_X3_63 rfl (by first | assumption | exact gs_at | (rw [gs_ne (by omega)]; (first | assumption | exact gs_at | (rw [gs_ne (by omega)]; (first | assumption | exact gs_at | (rw [gs_ne (by omega)]; (first | assumption | exact gs_at | (rw [gs_ne (by omega)]; (first | assumption | exact gs_at))))))))) rfl rfl (c_isAt (ws := [40]) rfl rfl (by decide) (by decide) hR) (Nat.le_of_ble_eq_true rfl) (Nat.le_of_ble_eq_true rfl) (Nat.le_of_ble_eq_true rfl) (Nat.le_of_ble_eq_true rfl) ?_
            refine w_ifN_eq (tgt := 67) dX3_readAtom_59 (by decide) (fun c_59 => ?_) (fun c_59 => ?_)
            · try simp (disch := omega) only [nI_b2, nI_ltI, nI_leI, nI_eq, ge_iff_le, gt_iff_lt, Nat.not_lt, Nat.not_le, ne_eq, Decidable.not_not] at c_59
              refine w_bipush (v := (-13)) dX3_readAtom_67 (by decide) ?_
              refine wV1d dX3_readAtom_69 lk_X3_107 rfl (by first | assumption | exact gs_at | (rw [gs_ne (by omega)]; (first | assumption | exact gs_at | (rw [gs_ne (by omega)]; (first | assumption | exact gs_at | (rw [gs_ne (by omega)]; (first | assumption | exact gs_at | (rw [gs_ne (by omega)]; (first | assumption | exact gs_at))))))))) rfl rfl (c_hold hX hd (by omega)) (Nat.le_of_ble_eq_true rfl) (Nat.le_of_ble_eq_true rfl) (Nat.le_of_ble_eq_true rfl) (Nat.le_of_ble_eq_true rfl) (fun G h_69 => ?_)
              obtain ⟨hX, hF1⟩ := h_69
              have hFF := FrV.tr hFF hF1
              obtain ⟨v0, v3, hR, hL, hu, hw⟩ := id hX
              obtain ⟨r0, r1, -⟩ := id hR
              obtain ⟨l0, -⟩ := id hL
              refine w_aload_n dX3_readAtom_72 rfl ?_
              refine w_dup dX3_readAtom_73 rfl ?_
              refine w_getf dX3_readAtom_74 fl_X3_26 (by first | assumption | exact gs_at | (rw [gs_ne (by omega)]; (first | assumption | exact gs_at | (rw [gs_ne (by omega)]; (first | assumption | exact gs_at | (rw [gs_ne (by omega)]; (first | assumption | exact gs_at | (rw [gs_ne (by omega)]; (first | assumption | exact gs_at))))))))) rfl ?_
              refine w_iconst (v := nI 1) dX3_readAtom_77 (by decide) ?_
              refine w_iadd dX3_readAtom_78 ?_
              refine w_putf dX3_readAtom_79 fl_X3_26 (by first | assumption | exact gs_at | (rw [gs_ne (by omega)]; (first | assumption | exact gs_at | (rw [gs_ne (by omega)]; (first | assumption | exact gs_at | (rw [gs_ne (by omega)]; (first | assumption | exact gs_at | (rw [gs_ne (by omega)]; (first | assumption | exact gs_at))))))))) (by simp) rfl rfl ?_
              have hX := hX.ob (k := u.2.2.2.1 + 1) (e := u.2.2.2.2 + nI 1) hd (by omega)
              have hFF := FrV.tr hFF (FrV.gs (q := v) (x := oB 3 [.ref (v + 1), .ref (v + 3), .int (nI (u.2.2.2.1 + 1)), .int (u.2.2.2.2 + nI 1)]) (by omega) (by omega))
              obtain ⟨v0, v3, hR, hL, hu, hw⟩ := id hX
              obtain ⟨r0, r1, -⟩ := id hR
              obtain ⟨l0, -⟩ := id hL
              refine w_aload_n dX3_readAtom_82 rfl ?_
              refine w_getf dX3_readAtom_83 fl_X3_12 (by first | assumption | exact gs_at | (rw [gs_ne (by omega)]; (first | assumption | exact gs_at | (rw [gs_ne (by omega)]; (first | assumption | exact gs_at | (rw [gs_ne (by omega)]; (first | assumption | exact gs_at | (rw [gs_ne (by omega)]; (first | assumption | exact gs_at))))))))) rfl ?_
              refine wV0d dX3_readAtom_86 lk_X3_70 rfl (by first | assumption | exact gs_at | (rw [gs_ne (by omega)]; (first | assumption | exact gs_at | (rw [gs_ne (by omega)]; (first | assumption | exact gs_at | (rw [gs_ne (by omega)]; (first | assumption | exact gs_at | (rw [gs_ne (by omega)]; (first | assumption | exact gs_at))))))))) rfl rfl (c_step (y := y) (n := n) (w := _) (e0 := tokE y n _) (bb := 0) r0 r1 hR.2.2.1 hR.2.2.2.2.1 (tokE_le hR.2.2.2.1).2) (Nat.le_of_ble_eq_true rfl) (Nat.le_of_ble_eq_true rfl) (Nat.le_of_ble_eq_true rfl) (Nat.le_of_ble_eq_true rfl) (fun G h_86 => ?_)
              obtain ⟨hR9, hF1⟩ := h_86
              have hX := hX.rd hR9 hF1 hd
              have hFF := FrV.tr hFF hF1.toV
              obtain ⟨v0, v3, hR, hL, hu, hw⟩ := id hX
              obtain ⟨r0, r1, -⟩ := id hR
              obtain ⟨l0, -⟩ := id hL
              first | refine w_iinc_2 dX3_readAtom_89 (nI_inc _) rfl ?_ | refine w_iinc_2 dX3_readAtom_89 rfl rfl ?_
              refine w_goto (tgt := 2) dX3_readAtom_92 (by decide) ?_
              have hn8 : ¬ ¬ u.2.2.2.2 < nI 6 := fun h => h c_38
              rw [if_neg hn8] at he
              first | rw [show opC y n u.1.1 = -16 from if_pos c_59] at he | rw [show opC y n u.1.1 = -13 from if_neg c_59] at he
              exact ih (i + 1) _ G (by omega) (by show u.2.2.2.1 + 1 + k < 2 ^ 19; omega) he hX hFF
            · try simp (disch := omega) only [nI_b2, nI_ltI, nI_leI, nI_eq, ge_iff_le, gt_iff_lt, Nat.not_lt, Nat.not_le, ne_eq, Decidable.not_not] at c_59
              refine w_bipush (v := (-16)) dX3_readAtom_62 (by decide) ?_
              refine w_goto (tgt := 69) dX3_readAtom_64 (by decide) ?_
              refine wV1d dX3_readAtom_69 lk_X3_107 rfl (by first | assumption | exact gs_at | (rw [gs_ne (by omega)]; (first | assumption | exact gs_at | (rw [gs_ne (by omega)]; (first | assumption | exact gs_at | (rw [gs_ne (by omega)]; (first | assumption | exact gs_at | (rw [gs_ne (by omega)]; (first | assumption | exact gs_at))))))))) rfl rfl (c_hold hX hd (by omega)) (Nat.le_of_ble_eq_true rfl) (Nat.le_of_ble_eq_true rfl) (Nat.le_of_ble_eq_true rfl) (Nat.le_of_ble_eq_true rfl) (fun G h_69 => ?_)
              obtain ⟨hX, hF1⟩ := h_69
              have hFF := FrV.tr hFF hF1
              obtain ⟨v0, v3, hR, hL, hu, hw⟩ := id hX
              obtain ⟨r0, r1, -⟩ := id hR
              obtain ⟨l0, -⟩ := id hL
              refine w_aload_n dX3_readAtom_72 rfl ?_
              refine w_dup dX3_readAtom_73 rfl ?_
              refine w_getf dX3_readAtom_74 fl_X3_26 (by first | assumption | exact gs_at | (rw [gs_ne (by omega)]; (first | assumption | exact gs_at | (rw [gs_ne (by omega)]; (first | assumption | exact gs_at | (rw [gs_ne (by omega)]; (first | assumption | exact gs_at | (rw [gs_ne (by omega)]; (first | assumption | exact gs_at))))))))) rfl ?_
              refine w_iconst (v := nI 1) dX3_readAtom_77 (by decide) ?_
              refine w_iadd dX3_readAtom_78 ?_
              refine w_putf dX3_readAtom_79 fl_X3_26 (by first | assumption | exact gs_at | (rw [gs_ne (by omega)]; (first | assumption | exact gs_at | (rw [gs_ne (by omega)]; (first | assumption | exact gs_at | (rw [gs_ne (by omega)]; (first | assumption | exact gs_at | (rw [gs_ne (by omega)]; (first | assumption | exact gs_at))))))))) (by simp) rfl rfl ?_
              have hX := hX.ob (k := u.2.2.2.1 + 1) (e := u.2.2.2.2 + nI 1) hd (by omega)
              have hFF := FrV.tr hFF (FrV.gs (q := v) (x := oB 3 [.ref (v + 1), .ref (v + 3), .int (nI (u.2.2.2.1 + 1)), .int (u.2.2.2.2 + nI 1)]) (by omega) (by omega))
              obtain ⟨v0, v3, hR, hL, hu, hw⟩ := id hX
              obtain ⟨r0, r1, -⟩ := id hR
              obtain ⟨l0, -⟩ := id hL
              refine w_aload_n dX3_readAtom_82 rfl ?_
              refine w_getf dX3_readAtom_83 fl_X3_12 (by first | assumption | exact gs_at | (rw [gs_ne (by omega)]; (first | assumption | exact gs_at | (rw [gs_ne (by omega)]; (first | assumption | exact gs_at | (rw [gs_ne (by omega)]; (first | assumption | exact gs_at | (rw [gs_ne (by omega)]; (first | assumption | exact gs_at))))))))) rfl ?_
              refine wV0d dX3_readAtom_86 lk_X3_70 rfl (by first | assumption | exact gs_at | (rw [gs_ne (by omega)]; (first | assumption | exact gs_at | (rw [gs_ne (by omega)]; (first | assumption | exact gs_at | (rw [gs_ne (by omega)]; (first | assumption | exact gs_at | (rw [gs_ne (by omega)]; (first | assumption | exact gs_at))))))))) rfl rfl (c_step (y := y) (n := n) (w := _) (e0 := tokE y n _) (bb := 0) r0 r1 hR.2.2.1 hR.2.2.2.2.1 (tokE_le hR.2.2.2.1).2) (Nat.le_of_ble_eq_true rfl) (Nat.le_of_ble_eq_true rfl) (Nat.le_of_ble_eq_true rfl) (Nat.le_of_ble_eq_true rfl) (fun G h_86 => ?_)
              obtain ⟨hR9, hF1⟩ := h_86
              have hX := hX.rd hR9 hF1 hd
              have hFF := FrV.tr hFF hF1.toV
              obtain ⟨v0, v3, hR, hL, hu, hw⟩ := id hX
              obtain ⟨r0, r1, -⟩ := id hR
              obtain ⟨l0, -⟩ := id hL
              first | refine w_iinc_2 dX3_readAtom_89 (nI_inc _) rfl ?_ | refine w_iinc_2 dX3_readAtom_89 rfl rfl ?_
              refine w_goto (tgt := 2) dX3_readAtom_92 (by decide) ?_
              have hn8 : ¬ ¬ u.2.2.2.2 < nI 6 := fun h => h c_38
              rw [if_neg hn8] at he
              first | rw [show opC y n u.1.1 = -16 from if_pos c_59] at he | rw [show opC y n u.1.1 = -13 from if_neg c_59] at he
              exact ih (i + 1) _ G (by omega) (by show u.2.2.2.1 + 1 + k < 2 ^ 19; omega) he hX hFF
          · try simp (disch := omega) only [nI_b2, nI_ltI, nI_leI, nI_eq, ge_iff_le, gt_iff_lt, Nat.not_lt, Nat.not_le, ne_eq, Decidable.not_not] at c_38
            refine w_aload_n dX3_readAtom_41 rfl ?_
            refine w_getf dX3_readAtom_42 fl_X3_12 (by first | assumption | exact gs_at | (rw [gs_ne (by omega)]; (first | assumption | exact gs_at | (rw [gs_ne (by omega)]; (first | assumption | exact gs_at | (rw [gs_ne (by omega)]; (first | assumption | exact gs_at | (rw [gs_ne (by omega)]; (first | assumption | exact gs_at))))))))) rfl ?_
            refine wV0d dX3_readAtom_45 lk_X3_42 rfl (by first | assumption | exact gs_at | (rw [gs_ne (by omega)]; (first | assumption | exact gs_at | (rw [gs_ne (by omega)]; (first | assumption | exact gs_at | (rw [gs_ne (by omega)]; (first | assumption | exact gs_at | (rw [gs_ne (by omega)]; (first | assumption | exact gs_at))))))))) rfl rfl (c_refuse hR) (Nat.le_of_ble_eq_true rfl) (Nat.le_of_ble_eq_true rfl) (Nat.le_of_ble_eq_true rfl) (Nat.le_of_ble_eq_true rfl) (fun G h_45 => ?_)
            obtain ⟨hR9, hF1⟩ := h_45
            have hX := hX.rd hR9 hF1 hd
            have hFF := FrV.tr hFF hF1.toV
            obtain ⟨v0, v3, hR, hL, hu, hw⟩ := id hX
            obtain ⟨r0, r1, -⟩ := id hR
            obtain ⟨l0, -⟩ := id hL
            refine w_vret dX3_readAtom_48 rfl (Nat.le_of_ble_eq_true rfl) (Nat.le_of_ble_eq_true rfl) ?_
            rw [if_pos c_38] at he
            have he : rfU u = u1 := he
            subst he
            exact hQ _ hX hFF
theorem c_readAtom {E : EV} {v l n : Nat} {y : Nat → Nat} {u : US} {G : AH} (hX : Lx G v l y n u) (hd : l + 6 ≤ v ∨ v + 4 ≤ l) (hwb : u.2.2.2.1 + 7 < 2 ^ 19) : Cd E 10 kX3_readAtom [.ref v, .ref l] G (fun G1 => Lx G1 v l y n (uAtom y n u) ∧ FrV G G1 v l) := by
  refine Ct.intro rfl (by decide) [.ref v, .ref l, .float 0] (by simp [Value.category]) (Nat.le_of_ble_eq_true rfl) rfl ?_
  refine w_iconst (v := nI 0) dX3_readAtom_0 (by decide) ?_
  refine w_istore_2 dX3_readAtom_1 rfl ?_
  exact lp_pre hd (u1 := uAtom y n u) (fun G1 a b => ⟨rfl, a, b⟩) 7 0 u G rfl hwb rfl hX FrV.rf
def uCn (y : Nat → Nat) (n : Nat) : Nat → US → US
  | 0, u => u
  | k + 1, u => if (uClose y n (uAtom y n u)).1.2 = -1 then (if (uJoin y n (uClose y n (uAtom y n u))).1 = 1 then uCn y n k (uJoin y n (uClose y n (uAtom y n u))).2 else (uJoin y n (uClose y n (uAtom y n u))).2) else uClose y n (uAtom y n u)
def uCd (u : US) : US := if 0 < (uRel (-15) u).2.2.2.1 then rfU (uRel (-15) u) else uRel (-15) u
def uCond (y : Nat → Nat) (n : Nat) (u : US) : US := uCd (uCn y n 400 (u.1, u.2.1, u.2.2.1, 0, nI 0))
theorem uJoin_01 (y : Nat → Nat) (n : Nat) (u : US) : (uJoin y n u).1 = 0 ∨ (uJoin y n u).1 = 1 := by
  unfold uJoin
  split
  · exact Or.inr rfl
  · split
    · exact Or.inr rfl
    · exact Or.inl rfl
theorem lp_cd65 {E : EV} {Q : OC → AH → Prop} {v l n : Nat} {y : Nat → Nat} {G0 : AH} {u1 : US} (hd : l + 6 ≤ v ∨ v + 4 ≤ l) (hQ : ∀ G1, Lx G1 v l y n u1 → FrV G0 G1 v l → Q (.inl none) G1) {u : US} {G : AH} {z1 z2 : Value} (he : uCd u = u1) (hX : Lx G v l y n u) (hFF : FrV G0 G v l) : Wp E 11 0 0 kX3_readCondition Q G (0, 0) 65 [.ref v, .ref l, z1, z2] [] := by
  rw [uCd] at he
  obtain ⟨v0, v3, hR, hL, hu, hw⟩ := id hX
  obtain ⟨r0, r1, -⟩ := id hR
  obtain ⟨l0, -⟩ := id hL
  refine w_aload_n dX3_readCondition_65 rfl ?_
  refine w_aload_n dX3_readCondition_66 rfl ?_
  refine w_bipush (v := (-15)) dX3_readCondition_67 (by decide) ?_
  refine wV2d dX3_readCondition_69 lk_X3_99 rfl (by first | assumption | exact gs_at | (rw [gs_ne (by omega)]; (first | assumption | exact gs_at | (rw [gs_ne (by omega)]; (first | assumption | exact gs_at | (rw [gs_ne (by omega)]; (first | assumption | exact gs_at | (rw [gs_ne (by omega)]; (first | assumption | exact gs_at))))))))) rfl rfl (c_release hX hd) (Nat.le_of_ble_eq_true rfl) (Nat.le_of_ble_eq_true rfl) (Nat.le_of_ble_eq_true rfl) (Nat.le_of_ble_eq_true rfl) (fun G h_69 => ?_)
  obtain ⟨hX, hF1⟩ := h_69
  have hFF := FrV.tr hFF hF1
  obtain ⟨v0, v3, hR, hL, hu, hw⟩ := id hX
  obtain ⟨r0, r1, -⟩ := id hR
  obtain ⟨l0, -⟩ := id hL
  refine w_aload_n dX3_readCondition_72 rfl ?_
  refine w_getf dX3_readCondition_73 fl_X3_22 (by first | assumption | exact gs_at | (rw [gs_ne (by omega)]; (first | assumption | exact gs_at | (rw [gs_ne (by omega)]; (first | assumption | exact gs_at | (rw [gs_ne (by omega)]; (first | assumption | exact gs_at | (rw [gs_ne (by omega)]; (first | assumption | exact gs_at))))))))) rfl ?_
  refine w_ifN_le (tgt := 86) dX3_readCondition_76 (by decide) (fun c_76 => ?_) (fun c_76 => ?_)
  · try simp (disch := omega) only [nI_b2, nI_ltI, nI_leI, nI_eq, ge_iff_le, gt_iff_lt, Nat.not_lt, Nat.not_le, ne_eq, Decidable.not_not] at c_76
    refine w_vret dX3_readCondition_86 rfl (Nat.le_of_ble_eq_true rfl) (Nat.le_of_ble_eq_true rfl) ?_
    first
      | (rw [if_pos (by omega)] at he; subst he; exact hQ _ hX hFF)
      | (rw [if_neg (by omega)] at he; subst he; exact hQ _ hX hFF)
  · try simp (disch := omega) only [nI_b2, nI_ltI, nI_leI, nI_eq, ge_iff_le, gt_iff_lt, Nat.not_lt, Nat.not_le, ne_eq, Decidable.not_not] at c_76
    refine w_aload_n dX3_readCondition_79 rfl ?_
    refine w_getf dX3_readCondition_80 fl_X3_12 (by first | assumption | exact gs_at | (rw [gs_ne (by omega)]; (first | assumption | exact gs_at | (rw [gs_ne (by omega)]; (first | assumption | exact gs_at | (rw [gs_ne (by omega)]; (first | assumption | exact gs_at | (rw [gs_ne (by omega)]; (first | assumption | exact gs_at))))))))) rfl ?_
    refine wV0d dX3_readCondition_83 lk_X3_42 rfl (by first | assumption | exact gs_at | (rw [gs_ne (by omega)]; (first | assumption | exact gs_at | (rw [gs_ne (by omega)]; (first | assumption | exact gs_at | (rw [gs_ne (by omega)]; (first | assumption | exact gs_at | (rw [gs_ne (by omega)]; (first | assumption | exact gs_at))))))))) rfl rfl (c_refuse hR) (Nat.le_of_ble_eq_true rfl) (Nat.le_of_ble_eq_true rfl) (Nat.le_of_ble_eq_true rfl) (Nat.le_of_ble_eq_true rfl) (fun G h_83 => ?_)
    obtain ⟨hR9, hF1⟩ := h_83
    have hX := hX.rd hR9 hF1 hd
    have hFF := FrV.tr hFF hF1.toV
    obtain ⟨v0, v3, hR, hL, hu, hw⟩ := id hX
    obtain ⟨r0, r1, -⟩ := id hR
    obtain ⟨l0, -⟩ := id hL
    refine w_vret dX3_readCondition_86 rfl (Nat.le_of_ble_eq_true rfl) (Nat.le_of_ble_eq_true rfl) ?_
    first
      | (rw [if_pos (by omega)] at he; subst he; exact hQ _ hX hFF)
      | (rw [if_neg (by omega)] at he; subst he; exact hQ _ hX hFF)
theorem lp_cd58f {E : EV} {Q : OC → AH → Prop} {v l n : Nat} {y : Nat → Nat} {G0 : AH} {u1 : US} (hd : l + 6 ≤ v ∨ v + 4 ≤ l) (hQ : ∀ G1, Lx G1 v l y n u1 → FrV G0 G1 v l → Q (.inl none) G1) {u : US} {G : AH} {i : Nat} {z1 : Value} (he : uCd u = u1) (hX : Lx G v l y n u) (hFF : FrV G0 G v l) : Wp E 11 0 0 kX3_readCondition Q G (0, 0) 58 [.ref v, .ref l, z1, .int (nI i)] [.int (nI 0)] := by
  refine w_istore_2 dX3_readCondition_58 rfl ?_
  first | refine w_iinc_3 dX3_readCondition_59 (nI_inc _) rfl ?_ | refine w_iinc_3 dX3_readCondition_59 rfl rfl ?_
  refine w_goto (tgt := 14) dX3_readCondition_62 (by decide) ?_
  refine w_iload_n dX3_readCondition_14 rfl ?_
  refine w_ifN_eq (tgt := 65) dX3_readCondition_15 (by decide) (fun c_15 => ?_) (fun c9 => absurd (rfl) c9)
  exact lp_cd65 hd hQ he hX hFF
theorem lp_cn {E : EV} {Q : OC → AH → Prop} {v l n : Nat} {y : Nat → Nat} {G0 : AH} {u1 : US} (hd : l + 6 ≤ v ∨ v + 4 ≤ l) (hQ : ∀ G1, Lx G1 v l y n u1 → FrV G0 G1 v l → Q (.inl none) G1) : ∀ (k i : Nat) (u : US) (G : AH), i + k = 400 → u.2.2.2.1 ≤ 8 * i → uCd (uCn y n k u) = u1 → Lx G v l y n u → FrV G0 G v l → Wp E 11 0 0 kX3_readCondition Q G (0, 0) 14 [.ref v, .ref l, .int (nI 1), .int (nI i)] [] := by
  intro k
  induction k with
  | zero =>
    intro i u G hk hwb he hX hFF
    rw [uCn] at he
    refine w_iload_n dX3_readCondition_14 rfl ?_
    refine w_ifN_eq (tgt := 65) dX3_readCondition_15 (by decide) (fun c9 => absurd c9 (by decide)) (fun c_15 => ?_)
    refine w_iload_n dX3_readCondition_18 rfl ?_
    refine w_sipush (v := nI 400) dX3_readCondition_19 (by decide) ?_
    refine w_icmp_ge (tgt := 65) dX3_readCondition_22 (by decide) (fun c_22 => ?_) (fun c_22 => ?_)
    · try simp (disch := omega) only [nI_b2, nI_ltI, nI_leI, nI_eq, ge_iff_le, gt_iff_lt, Nat.not_lt, Nat.not_le, ne_eq, Decidable.not_not] at c_22
      exact lp_cd65 hd hQ he hX hFF
    · try simp (disch := omega) only [nI_b2, nI_ltI, nI_leI, nI_eq, ge_iff_le, gt_iff_lt, Nat.not_lt, Nat.not_le, ne_eq, Decidable.not_not] at c_22
      exact absurd c_22 (by omega)
  | succ k ih =>
    intro i u G hk hwb he hX hFF
    rw [uCn] at he
    have b1 := uAtom_le y n u
    have b2 := uClose_le y n (uAtom y n u)
    have b3 := uJoin_le y n (uClose y n (uAtom y n u))
    have b4 := uJoin_01 y n (uClose y n (uAtom y n u))
    obtain ⟨v0, v3, hR, hL, hu, hw⟩ := id hX
    obtain ⟨r0, r1, -⟩ := id hR
    obtain ⟨l0, -⟩ := id hL
    refine w_iload_n dX3_readCondition_14 rfl ?_
    refine w_ifN_eq (tgt := 65) dX3_readCondition_15 (by decide) (fun c9 => absurd c9 (by decide)) (fun c_15 => ?_)
    refine w_iload_n dX3_readCondition_18 rfl ?_
    refine w_sipush (v := nI 400) dX3_readCondition_19 (by decide) ?_
    refine w_icmp_ge (tgt := 65) dX3_readCondition_22 (by decide) (fun c_22 => ?_) (fun c_22 => ?_)
    · try simp (disch := omega) only [nI_b2, nI_ltI, nI_leI, nI_eq, ge_iff_le, gt_iff_lt, Nat.not_lt, Nat.not_le, ne_eq, Decidable.not_not] at c_22
      exact absurd c_22 (by omega)
    · try simp (disch := omega) only [nI_b2, nI_ltI, nI_leI, nI_eq, ge_iff_le, gt_iff_lt, Nat.not_lt, Nat.not_le, ne_eq, Decidable.not_not] at c_22
      refine w_aload_n dX3_readCondition_25 rfl ?_
      refine w_aload_n dX3_readCondition_26 rfl ?_
      refine wV1d dX3_readCondition_27 lk_X3_89 rfl (by first | assumption | exact gs_at | (rw [gs_ne (by omega)]; (first | assumption | exact gs_at | (rw [gs_ne (by omega)]; (first | assumption | exact gs_at | (rw [gs_ne (by omega)]; (first | assumption | exact gs_at | (rw [gs_ne (by omega)]; (first | assumption | exact gs_at))))))))) rfl rfl (c_readAtom hX hd (by omega)) (Nat.le_of_ble_eq_true rfl) (Nat.le_of_ble_eq_true rfl) (Nat.le_of_ble_eq_true rfl) (Nat.le_of_ble_eq_true rfl) (fun G h_27 => ?_)
      obtain ⟨hX, hF1⟩ := h_27
      have hFF := FrV.tr hFF hF1
      obtain ⟨v0, v3, hR, hL, hu, hw⟩ := id hX
      obtain ⟨r0, r1, -⟩ := id hR
      obtain ⟨l0, -⟩ := id hL
      refine w_aload_n dX3_readCondition_30 rfl ?_
      refine w_aload_n dX3_readCondition_31 rfl ?_
      refine wV1d dX3_readCondition_32 lk_X3_92 rfl (by first | assumption | exact gs_at | (rw [gs_ne (by omega)]; (first | assumption | exact gs_at | (rw [gs_ne (by omega)]; (first | assumption | exact gs_at | (rw [gs_ne (by omega)]; (first | assumption | exact gs_at | (rw [gs_ne (by omega)]; (first | assumption | exact gs_at))))))))) rfl rfl (c_closeAtom hX hd) (Nat.le_of_ble_eq_true rfl) (Nat.le_of_ble_eq_true rfl) (Nat.le_of_ble_eq_true rfl) (Nat.le_of_ble_eq_true rfl) (fun G h_32 => ?_)
      obtain ⟨hX, hF1⟩ := h_32
      have hFF := FrV.tr hFF hF1
      obtain ⟨v0, v3, hR, hL, hu, hw⟩ := id hX
      obtain ⟨r0, r1, -⟩ := id hR
      obtain ⟨l0, -⟩ := id hL
      refine w_aload_n dX3_readCondition_35 rfl ?_
      refine w_getf dX3_readCondition_36 fl_X3_12 (by first | assumption | exact gs_at | (rw [gs_ne (by omega)]; (first | assumption | exact gs_at | (rw [gs_ne (by omega)]; (first | assumption | exact gs_at | (rw [gs_ne (by omega)]; (first | assumption | exact gs_at | (rw [gs_ne (by omega)]; (first | assumption | exact gs_at))))))))) rfl ?_
      refine wV0u dX3_readCondition_39 lk_X3_49 rfl (by first | assumption | exact gs_at | (rw [gs_ne (by omega)]; (first | assumption | exact gs_at | (rw [gs_ne (by omega)]; (first | assumption | exact gs_at | (rw [gs_ne (by omega)]; (first | assumption | exact gs_at | (rw [gs_ne (by omega)]; (first | assumption | exact gs_at))))))))) rfl rfl (c_isRight hR) (Nat.le_of_ble_eq_true rfl) (Nat.le_of_ble_eq_true rfl) (Nat.le_of_ble_eq_true rfl) (Nat.le_of_ble_eq_true rfl) ?_
      refine w_ifN_eq (tgt := 57) dX3_readCondition_42 (by decide) (fun c_42 => ?_) (fun c_42 => ?_)
      · try simp (disch := omega) only [nI_b2, nI_ltI, nI_leI, nI_eq, ge_iff_le, gt_iff_lt, Nat.not_lt, Nat.not_le, ne_eq, Decidable.not_not] at c_42
        refine w_iconst (v := nI 0) dX3_readCondition_57 (by decide) ?_
        first
          | (rw [if_neg c_42] at he; exact lp_cd58f hd hQ he hX hFF)
          | (rw [if_pos c_42, if_neg (by omega)] at he; exact lp_cd58f hd hQ he hX hFF)
          | (rw [if_pos c_42, if_pos (by omega)] at he; refine w_istore_2 dX3_readCondition_58 rfl ?_; refine w_iinc_3 dX3_readCondition_59 (nI_inc _) rfl ?_; refine w_goto (tgt := 14) dX3_readCondition_62 (by decide) ?_; exact ih (i + 1) _ G (by omega) (by omega) he hX hFF)
      · try simp (disch := omega) only [nI_b2, nI_ltI, nI_leI, nI_eq, ge_iff_le, gt_iff_lt, Nat.not_lt, Nat.not_le, ne_eq, Decidable.not_not] at c_42
        refine w_aload_n dX3_readCondition_45 rfl ?_
        refine w_aload_n dX3_readCondition_46 rfl ?_
        refine wV1i dX3_readCondition_47 lk_X3_95 rfl (by first | assumption | exact gs_at | (rw [gs_ne (by omega)]; (first | assumption | exact gs_at | (rw [gs_ne (by omega)]; (first | assumption | exact gs_at | (rw [gs_ne (by omega)]; (first | assumption | exact gs_at | (rw [gs_ne (by omega)]; (first | assumption | exact gs_at))))))))) rfl rfl (c_joins hX hd (by omega)) (Nat.le_of_ble_eq_true rfl) (Nat.le_of_ble_eq_true rfl) (Nat.le_of_ble_eq_true rfl) (Nat.le_of_ble_eq_true rfl) (fun r_47 G h_47 => ?_)
        obtain ⟨rfl, hX, hF1⟩ := h_47
        have hFF := FrV.tr hFF hF1
        refine w_ifN_eq (tgt := 57) dX3_readCondition_50 (by decide) (fun c_50 => ?_) (fun c_50 => ?_)
        · try simp (disch := omega) only [nI_b2, nI_ltI, nI_leI, nI_eq, ge_iff_le, gt_iff_lt, Nat.not_lt, Nat.not_le, ne_eq, Decidable.not_not] at c_50
          refine w_iconst (v := nI 0) dX3_readCondition_57 (by decide) ?_
          first
            | (rw [if_neg c_42] at he; exact lp_cd58f hd hQ he hX hFF)
            | (rw [if_pos c_42, if_neg (by omega)] at he; exact lp_cd58f hd hQ he hX hFF)
            | (rw [if_pos c_42, if_pos (by omega)] at he; refine w_istore_2 dX3_readCondition_58 rfl ?_; refine w_iinc_3 dX3_readCondition_59 (nI_inc _) rfl ?_; refine w_goto (tgt := 14) dX3_readCondition_62 (by decide) ?_; exact ih (i + 1) _ G (by omega) (by omega) he hX hFF)
        · try simp (disch := omega) only [nI_b2, nI_ltI, nI_leI, nI_eq, ge_iff_le, gt_iff_lt, Nat.not_lt, Nat.not_le, ne_eq, Decidable.not_not] at c_50
          refine w_iconst (v := nI 1) dX3_readCondition_53 (by decide) ?_
          refine w_goto (tgt := 58) dX3_readCondition_54 (by decide) ?_
          first
            | (rw [if_neg c_42] at he; exact lp_cd58f hd hQ he hX hFF)
            | (rw [if_pos c_42, if_neg (by omega)] at he; exact lp_cd58f hd hQ he hX hFF)
            | (rw [if_pos c_42, if_pos (by omega)] at he; refine w_istore_2 dX3_readCondition_58 rfl ?_; refine w_iinc_3 dX3_readCondition_59 (nI_inc _) rfl ?_; refine w_goto (tgt := 14) dX3_readCondition_62 (by decide) ?_; exact ih (i + 1) _ G (by omega) (by omega) he hX hFF)
theorem c_readCondition {E : EV} {v l n : Nat} {y : Nat → Nat} {u : US} {G : AH} (hX : Lx G v l y n u) (hd : l + 6 ≤ v ∨ v + 4 ≤ l) : Cd E 11 kX3_readCondition [.ref v, .ref l] G (fun G1 => Lx G1 v l y n (uCond y n u) ∧ FrV G G1 v l) := by
  obtain ⟨v0, v3, hR, hL, hu, hw⟩ := id hX
  obtain ⟨r0, r1, -⟩ := id hR
  obtain ⟨l0, -⟩ := id hL
  refine Ct.intro rfl (by decide) [.ref v, .ref l, .float 0, .float 0] (by simp [Value.category]) (Nat.le_of_ble_eq_true rfl) rfl ?_
  refine w_aload_n dX3_readCondition_0 rfl ?_
  refine w_iconst (v := nI 0) dX3_readCondition_1 (by decide) ?_
  refine w_putf dX3_readCondition_2 fl_X3_22 (by first | assumption | exact gs_at | (rw [gs_ne (by omega)]; (first | assumption | exact gs_at | (rw [gs_ne (by omega)]; (first | assumption | exact gs_at | (rw [gs_ne (by omega)]; (first | assumption | exact gs_at | (rw [gs_ne (by omega)]; (first | assumption | exact gs_at))))))))) (by simp) rfl rfl ?_
  refine w_aload_n dX3_readCondition_5 rfl ?_
  refine w_iconst (v := nI 0) dX3_readCondition_6 (by decide) ?_
  refine w_putf dX3_readCondition_7 fl_X3_26 (by first | assumption | exact gs_at | (rw [gs_ne (by omega)]; (first | assumption | exact gs_at | (rw [gs_ne (by omega)]; (first | assumption | exact gs_at | (rw [gs_ne (by omega)]; (first | assumption | exact gs_at | (rw [gs_ne (by omega)]; (first | assumption | exact gs_at))))))))) (by simp) rfl rfl ?_
  have hX := (hX.ob (k := 0) (e := u.2.2.2.2) hd (by decide)).ob (k := 0) (e := nI 0) hd (by decide)
  have hFF := FrV.tr (FrV.gs (G := G) (v := v) (l := l) (q := v) (x := oB 3 [.ref (v + 1), .ref (v + 3), .int (nI 0), .int u.2.2.2.2]) (by omega) (by omega)) (FrV.gs (q := v) (x := oB 3 [.ref (v + 1), .ref (v + 3), .int (nI 0), .int (nI 0)]) (by omega) (by omega))
  refine w_iconst (v := nI 1) dX3_readCondition_10 (by decide) ?_
  refine w_istore_2 dX3_readCondition_11 rfl ?_
  refine w_iconst (v := nI 0) dX3_readCondition_12 (by decide) ?_
  refine w_istore_3 dX3_readCondition_13 rfl ?_
  exact lp_cn hd (u1 := uCond y n u) (fun G1 a b => ⟨rfl, a, b⟩) 400 0 _ _ rfl (Nat.le_refl _) rfl hX hFF
