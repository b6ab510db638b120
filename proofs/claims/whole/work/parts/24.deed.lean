/-! deeds: a line, the text -/
def rdCell (y : Nat → Nat) (n f N hi1 mo1 : Nat) (s : RS) (T : ST) : RS × ST := (sNum y n 0 mo1 (sNum y n 0 hi1 s), cellT T f N (vNum y n 0 hi1 s) (vNum y n 0 mo1 (sNum y n 0 hi1 s)))
def rdLine (y : Nat → Nat) (n : Nat) (s : RS) (T : ST) : RS × ST :=
  if atB y n s.1 [105, 116, 101, 109] = true then rdItem y n s T
  else if atB y n s.1 [104, 97, 110, 100, 115] = true then rdCell y n 9 2 2 21 (nxt y n s.1, s.2) T
  else if atB y n s.1 [115, 111, 105, 108] = true then rdCell y n 7 6 6 100 (nxt y n s.1, s.2) T
  else if atB y n s.1 [112, 108, 97, 99, 101, 115] = true then rdCell y n 8 6 6 13 (nxt y n s.1, s.2) T
  else if atB y n s.1 [119, 111, 114, 110] = true then rdCell y n 2 12 (T 12 0) 100 (nxt y n s.1, s.2) T
  else if atB y n s.1 [115, 116, 111, 114, 109] = true then (sNum y n 0 101 (nxt y n s.1, s.2), tu T 12 2 (nOf (vNum y n 0 101 (nxt y n s.1, s.2))))
  else if atB y n s.1 [100, 97, 121] = true then (sNum y n 0 1000 (nxt y n s.1, s.2), tu T 12 3 (nOf (vNum y n 0 1000 (nxt y n s.1, s.2))))
  else (sRf s, T)
theorem c_readLine {E : EV} {d r n : Nat} {y : Nat → Nat} {s : RS} {G : AH} {a : Nat} {T : ST} {sd : Int32} (hd : G.1 d = some (oB 0 [.ref r])) (hdr : d ≠ r) (hR : Rd G r y n s) (hI : Isl G a T sd) (h12 : T 12 0 ≤ 12) (hra : r < a ∨ a + 14 ≤ r) (hr2 : r + 1 < a ∨ a + 14 ≤ r + 1) (hda : d < a ∨ a + 14 ≤ d) : Cd E 11 kX0_readLine [.ref d, .ref a] G (fun G1 => Rd G1 r y n (rdLine y n s T).1 ∧ Isl G1 a (rdLine y n s T).2 sd ∧ Fr4 G G1 a r) := by
  obtain ⟨r0, r1, -⟩ := id hR
  obtain ⟨i0, i1, i2, i3, i4, i5, i6, i7, i8, i9, i10, i11, i12, i13⟩ := id hI
  have hFF : Fr4 G G a r := Fr4.rf
  refine Ct.intro rfl (by decide) [.ref d, .ref a] (by simp [Value.category]) (Nat.le_of_ble_eq_true rfl) rfl ?_
  refine w_aload_n dX0_readLine_0 rfl ?_
  refine w_getf dX0_readLine_1 fl_X0_12 (by first | assumption | exact gs_at | (rw [gs_ne (by omega)]; (first | assumption | exact gs_at | (rw [gs_ne (by omega)]; (first | assumption | exact gs_at | (rw [gs_ne (by omega)]; (first | assumption | exact gs_at | (rw [gs_ne (by omega)]; (first | assumption | exact gs_at))))))))) rfl ?_
  refine w_ldcS (i := 0) rfl rfl dX0_readLine_4 ?_
  refine wV1u dX0_readLine_6 lk_X0_48 rfl (by first | assumption | exact gs_at | (rw [gs_ne (by omega)]; (first | assumption | exact gs_at | (rw [gs_ne (by omega)]; (first | assumption | exact gs_at | (rw [gs_ne (by omega)]; (first | assumption | exact gs_at | (rw [gs_ne (by omega)]; (first | assumption | exact gs_at))))))))) rfl rfl (c_isAt (ws := [105, 116, 101, 109]) rfl rfl (by decide) (by decide) hR) (Nat.le_of_ble_eq_true rfl) (Nat.le_of_ble_eq_true rfl) (Nat.le_of_ble_eq_true rfl) (Nat.le_of_ble_eq_true rfl) ?_
  refine w_ifN_eq (tgt := 20) dX0_readLine_9 (by decide) (fun c_9 => ?_) (fun c_9 => ?_)
  · try simp only [nI_b2, ne_eq, Decidable.not_not] at c_9
    refine w_aload_n dX0_readLine_20 rfl ?_
    refine w_getf dX0_readLine_21 fl_X0_12 (by first | assumption | exact gs_at | (rw [gs_ne (by omega)]; (first | assumption | exact gs_at | (rw [gs_ne (by omega)]; (first | assumption | exact gs_at | (rw [gs_ne (by omega)]; (first | assumption | exact gs_at | (rw [gs_ne (by omega)]; (first | assumption | exact gs_at))))))))) rfl ?_
    refine w_ldcS (i := 4) rfl rfl dX0_readLine_24 ?_
    refine wV1i dX0_readLine_26 lk_X0_38 rfl (by first | assumption | exact gs_at | (rw [gs_ne (by omega)]; (first | assumption | exact gs_at | (rw [gs_ne (by omega)]; (first | assumption | exact gs_at | (rw [gs_ne (by omega)]; (first | assumption | exact gs_at | (rw [gs_ne (by omega)]; (first | assumption | exact gs_at))))))))) rfl rfl (c_takes (ws := [104, 97, 110, 100, 115]) rfl rfl (by decide) (by decide) hR) (Nat.le_of_ble_eq_true rfl) (Nat.le_of_ble_eq_true rfl) (Nat.le_of_ble_eq_true rfl) (Nat.le_of_ble_eq_true rfl) (fun r_26 G h_26 => ?_)
    obtain ⟨rfl, hR, hF1⟩ := h_26
    obtain ⟨r0, r1, -⟩ := id hR
    have hd := (hF1.2 _ hdr).trans hd
    have hI := hI.frR hF1 hra
    have hFF := hFF.tr hF1.to4
    obtain ⟨i0, i1, i2, i3, i4, i5, i6, i7, i8, i9, i10, i11, i12, i13⟩ := id hI
    refine w_ifN_eq (tgt := 46) dX0_readLine_29 (by decide) (fun c_29 => ?_) (fun c_29 => ?_)
    · try simp only [nI_b2, ne_eq, Decidable.not_not] at c_29
      rw [sTk, if_neg c_29] at hR
      obtain ⟨r0, r1, -⟩ := id hR
      refine w_aload_n dX0_readLine_46 rfl ?_
      refine w_getf dX0_readLine_47 fl_X0_12 (by first | assumption | exact gs_at | (rw [gs_ne (by omega)]; (first | assumption | exact gs_at | (rw [gs_ne (by omega)]; (first | assumption | exact gs_at | (rw [gs_ne (by omega)]; (first | assumption | exact gs_at | (rw [gs_ne (by omega)]; (first | assumption | exact gs_at))))))))) rfl ?_
      refine w_ldcS (i := 5) rfl rfl dX0_readLine_50 ?_
      refine wV1i dX0_readLine_52 lk_X0_38 rfl (by first | assumption | exact gs_at | (rw [gs_ne (by omega)]; (first | assumption | exact gs_at | (rw [gs_ne (by omega)]; (first | assumption | exact gs_at | (rw [gs_ne (by omega)]; (first | assumption | exact gs_at | (rw [gs_ne (by omega)]; (first | assumption | exact gs_at))))))))) rfl rfl (c_takes (ws := [115, 111, 105, 108]) rfl rfl (by decide) (by decide) hR) (Nat.le_of_ble_eq_true rfl) (Nat.le_of_ble_eq_true rfl) (Nat.le_of_ble_eq_true rfl) (Nat.le_of_ble_eq_true rfl) (fun r_52 G h_52 => ?_)
      obtain ⟨rfl, hR, hF1⟩ := h_52
      obtain ⟨r0, r1, -⟩ := id hR
      have hd := (hF1.2 _ hdr).trans hd
      have hI := hI.frR hF1 hra
      have hFF := hFF.tr hF1.to4
      obtain ⟨i0, i1, i2, i3, i4, i5, i6, i7, i8, i9, i10, i11, i12, i13⟩ := id hI
      refine w_ifN_eq (tgt := 73) dX0_readLine_55 (by decide) (fun c_55 => ?_) (fun c_55 => ?_)
      · try simp only [nI_b2, ne_eq, Decidable.not_not] at c_55
        rw [sTk, if_neg c_55] at hR
        obtain ⟨r0, r1, -⟩ := id hR
        refine w_aload_n dX0_readLine_73 rfl ?_
        refine w_getf dX0_readLine_74 fl_X0_12 (by first | assumption | exact gs_at | (rw [gs_ne (by omega)]; (first | assumption | exact gs_at | (rw [gs_ne (by omega)]; (first | assumption | exact gs_at | (rw [gs_ne (by omega)]; (first | assumption | exact gs_at | (rw [gs_ne (by omega)]; (first | assumption | exact gs_at))))))))) rfl ?_
        refine w_ldcS (i := 6) rfl rfl dX0_readLine_77 ?_
        refine wV1i dX0_readLine_79 lk_X0_38 rfl (by first | assumption | exact gs_at | (rw [gs_ne (by omega)]; (first | assumption | exact gs_at | (rw [gs_ne (by omega)]; (first | assumption | exact gs_at | (rw [gs_ne (by omega)]; (first | assumption | exact gs_at | (rw [gs_ne (by omega)]; (first | assumption | exact gs_at))))))))) rfl rfl (c_takes (ws := [112, 108, 97, 99, 101, 115]) rfl rfl (by decide) (by decide) hR) (Nat.le_of_ble_eq_true rfl) (Nat.le_of_ble_eq_true rfl) (Nat.le_of_ble_eq_true rfl) (Nat.le_of_ble_eq_true rfl) (fun r_79 G h_79 => ?_)
        obtain ⟨rfl, hR, hF1⟩ := h_79
        obtain ⟨r0, r1, -⟩ := id hR
        have hd := (hF1.2 _ hdr).trans hd
        have hI := hI.frR hF1 hra
        have hFF := hFF.tr hF1.to4
        obtain ⟨i0, i1, i2, i3, i4, i5, i6, i7, i8, i9, i10, i11, i12, i13⟩ := id hI
        refine w_ifN_eq (tgt := 100) dX0_readLine_82 (by decide) (fun c_82 => ?_) (fun c_82 => ?_)
        · try simp only [nI_b2, ne_eq, Decidable.not_not] at c_82
          rw [sTk, if_neg c_82] at hR
          obtain ⟨r0, r1, -⟩ := id hR
          refine w_aload_n dX0_readLine_100 rfl ?_
          refine w_getf dX0_readLine_101 fl_X0_12 (by first | assumption | exact gs_at | (rw [gs_ne (by omega)]; (first | assumption | exact gs_at | (rw [gs_ne (by omega)]; (first | assumption | exact gs_at | (rw [gs_ne (by omega)]; (first | assumption | exact gs_at | (rw [gs_ne (by omega)]; (first | assumption | exact gs_at))))))))) rfl ?_
          refine w_ldcS (i := 7) rfl rfl dX0_readLine_104 ?_
          refine wV1i dX0_readLine_106 lk_X0_38 rfl (by first | assumption | exact gs_at | (rw [gs_ne (by omega)]; (first | assumption | exact gs_at | (rw [gs_ne (by omega)]; (first | assumption | exact gs_at | (rw [gs_ne (by omega)]; (first | assumption | exact gs_at | (rw [gs_ne (by omega)]; (first | assumption | exact gs_at))))))))) rfl rfl (c_takes (ws := [119, 111, 114, 110]) rfl rfl (by decide) (by decide) hR) (Nat.le_of_ble_eq_true rfl) (Nat.le_of_ble_eq_true rfl) (Nat.le_of_ble_eq_true rfl) (Nat.le_of_ble_eq_true rfl) (fun r_106 G h_106 => ?_)
          obtain ⟨rfl, hR, hF1⟩ := h_106
          obtain ⟨r0, r1, -⟩ := id hR
          have hd := (hF1.2 _ hdr).trans hd
          have hI := hI.frR hF1 hra
          have hFF := hFF.tr hF1.to4
          obtain ⟨i0, i1, i2, i3, i4, i5, i6, i7, i8, i9, i10, i11, i12, i13⟩ := id hI
          refine w_ifN_eq (tgt := 129) dX0_readLine_109 (by decide) (fun c_109 => ?_) (fun c_109 => ?_)
          · try simp only [nI_b2, ne_eq, Decidable.not_not] at c_109
            rw [sTk, if_neg c_109] at hR
            obtain ⟨r0, r1, -⟩ := id hR
            refine w_aload_n dX0_readLine_129 rfl ?_
            refine w_getf dX0_readLine_130 fl_X0_12 (by first | assumption | exact gs_at | (rw [gs_ne (by omega)]; (first | assumption | exact gs_at | (rw [gs_ne (by omega)]; (first | assumption | exact gs_at | (rw [gs_ne (by omega)]; (first | assumption | exact gs_at | (rw [gs_ne (by omega)]; (first | assumption | exact gs_at))))))))) rfl ?_
            refine w_ldcS (i := 8) rfl rfl dX0_readLine_133 ?_
            refine wV1i dX0_readLine_135 lk_X0_38 rfl (by first | assumption | exact gs_at | (rw [gs_ne (by omega)]; (first | assumption | exact gs_at | (rw [gs_ne (by omega)]; (first | assumption | exact gs_at | (rw [gs_ne (by omega)]; (first | assumption | exact gs_at | (rw [gs_ne (by omega)]; (first | assumption | exact gs_at))))))))) rfl rfl (c_takes (ws := [115, 116, 111, 114, 109]) rfl rfl (by decide) (by decide) hR) (Nat.le_of_ble_eq_true rfl) (Nat.le_of_ble_eq_true rfl) (Nat.le_of_ble_eq_true rfl) (Nat.le_of_ble_eq_true rfl) (fun r_135 G h_135 => ?_)
            obtain ⟨rfl, hR, hF1⟩ := h_135
            obtain ⟨r0, r1, -⟩ := id hR
            have hd := (hF1.2 _ hdr).trans hd
            have hI := hI.frR hF1 hra
            have hFF := hFF.tr hF1.to4
            obtain ⟨i0, i1, i2, i3, i4, i5, i6, i7, i8, i9, i10, i11, i12, i13⟩ := id hI
            refine w_ifN_eq (tgt := 158) dX0_readLine_138 (by decide) (fun c_138 => ?_) (fun c_138 => ?_)
            · try simp only [nI_b2, ne_eq, Decidable.not_not] at c_138
              rw [sTk, if_neg c_138] at hR
              obtain ⟨r0, r1, -⟩ := id hR
              refine w_aload_n dX0_readLine_158 rfl ?_
              refine w_getf dX0_readLine_159 fl_X0_12 (by first | assumption | exact gs_at | (rw [gs_ne (by omega)]; (first | assumption | exact gs_at | (rw [gs_ne (by omega)]; (first | assumption | exact gs_at | (rw [gs_ne (by omega)]; (first | assumption | exact gs_at | (rw [gs_ne (by omega)]; (first | assumption | exact gs_at))))))))) rfl ?_
              refine w_ldcS (i := 9) rfl rfl dX0_readLine_162 ?_
              refine wV1i dX0_readLine_164 lk_X0_38 rfl (by first | assumption | exact gs_at | (rw [gs_ne (by omega)]; (first | assumption | exact gs_at | (rw [gs_ne (by omega)]; (first | assumption | exact gs_at | (rw [gs_ne (by omega)]; (first | assumption | exact gs_at | (rw [gs_ne (by omega)]; (first | assumption | exact gs_at))))))))) rfl rfl (c_takes (ws := [100, 97, 121]) rfl rfl (by decide) (by decide) hR) (Nat.le_of_ble_eq_true rfl) (Nat.le_of_ble_eq_true rfl) (Nat.le_of_ble_eq_true rfl) (Nat.le_of_ble_eq_true rfl) (fun r_164 G h_164 => ?_)
              obtain ⟨rfl, hR, hF1⟩ := h_164
              obtain ⟨r0, r1, -⟩ := id hR
              have hd := (hF1.2 _ hdr).trans hd
              have hI := hI.frR hF1 hra
              have hFF := hFF.tr hF1.to4
              obtain ⟨i0, i1, i2, i3, i4, i5, i6, i7, i8, i9, i10, i11, i12, i13⟩ := id hI
              refine w_ifN_eq (tgt := 188) dX0_readLine_167 (by decide) (fun c_167 => ?_) (fun c_167 => ?_)
              · try simp only [nI_b2, ne_eq, Decidable.not_not] at c_167
                rw [sTk, if_neg c_167] at hR
                obtain ⟨r0, r1, -⟩ := id hR
                refine w_aload_n dX0_readLine_188 rfl ?_
                refine w_getf dX0_readLine_189 fl_X0_12 (by first | assumption | exact gs_at | (rw [gs_ne (by omega)]; (first | assumption | exact gs_at | (rw [gs_ne (by omega)]; (first | assumption | exact gs_at | (rw [gs_ne (by omega)]; (first | assumption | exact gs_at | (rw [gs_ne (by omega)]; (first | assumption | exact gs_at))))))))) rfl ?_
                refine wV0d dX0_readLine_192 lk_X0_26 rfl (by first | assumption | exact gs_at | (rw [gs_ne (by omega)]; (first | assumption | exact gs_at | (rw [gs_ne (by omega)]; (first | assumption | exact gs_at | (rw [gs_ne (by omega)]; (first | assumption | exact gs_at | (rw [gs_ne (by omega)]; (first | assumption | exact gs_at))))))))) rfl rfl (c_refuse hR) (Nat.le_of_ble_eq_true rfl) (Nat.le_of_ble_eq_true rfl) (Nat.le_of_ble_eq_true rfl) (Nat.le_of_ble_eq_true rfl) (fun G h_192 => ?_)
                obtain ⟨hR, hF1⟩ := h_192
                refine w_vret dX0_readLine_195 rfl (Nat.le_of_ble_eq_true rfl) (Nat.le_of_ble_eq_true rfl) ?_
                refine ⟨rfl, ?_⟩
                first
                  | (rw [rdLine, if_pos c_9]; first | exact h_14 | exact ⟨hR, hI, hFF⟩ | exact ⟨hR.frI hF9 hra hr2, hI9, hFF.tr hF9.to4⟩ | exact ⟨hR, hI.frR hF1 hra, hFF.tr hF1.to4⟩)
                  | (rw [rdLine, if_neg c_9, if_pos c_29]; first | exact h_14 | exact ⟨hR, hI, hFF⟩ | exact ⟨hR.frI hF9 hra hr2, hI9, hFF.tr hF9.to4⟩ | exact ⟨hR, hI.frR hF1 hra, hFF.tr hF1.to4⟩)
                  | (rw [rdLine, if_neg c_9, if_neg c_29, if_pos c_55]; first | exact h_14 | exact ⟨hR, hI, hFF⟩ | exact ⟨hR.frI hF9 hra hr2, hI9, hFF.tr hF9.to4⟩ | exact ⟨hR, hI.frR hF1 hra, hFF.tr hF1.to4⟩)
                  | (rw [rdLine, if_neg c_9, if_neg c_29, if_neg c_55, if_pos c_82]; first | exact h_14 | exact ⟨hR, hI, hFF⟩ | exact ⟨hR.frI hF9 hra hr2, hI9, hFF.tr hF9.to4⟩ | exact ⟨hR, hI.frR hF1 hra, hFF.tr hF1.to4⟩)
                  | (rw [rdLine, if_neg c_9, if_neg c_29, if_neg c_55, if_neg c_82, if_pos c_109]; first | exact h_14 | exact ⟨hR, hI, hFF⟩ | exact ⟨hR.frI hF9 hra hr2, hI9, hFF.tr hF9.to4⟩ | exact ⟨hR, hI.frR hF1 hra, hFF.tr hF1.to4⟩)
                  | (rw [rdLine, if_neg c_9, if_neg c_29, if_neg c_55, if_neg c_82, if_neg c_109, if_pos c_138]; first | exact h_14 | exact ⟨hR, hI, hFF⟩ | exact ⟨hR.frI hF9 hra hr2, hI9, hFF.tr hF9.to4⟩ | exact ⟨hR, hI.frR hF1 hra, hFF.tr hF1.to4⟩)
                  | (rw [rdLine, if_neg c_9, if_neg c_29, if_neg c_55, if_neg c_82, if_neg c_109, if_neg c_138, if_pos c_167]; first | exact h_14 | exact ⟨hR, hI, hFF⟩ | exact ⟨hR.frI hF9 hra hr2, hI9, hFF.tr hF9.to4⟩ | exact ⟨hR, hI.frR hF1 hra, hFF.tr hF1.to4⟩)
                  | (rw [rdLine, if_neg c_9, if_neg c_29, if_neg c_55, if_neg c_82, if_neg c_109, if_neg c_138, if_neg c_167]; first | exact h_14 | exact ⟨hR, hI, hFF⟩ | exact ⟨hR.frI hF9 hra hr2, hI9, hFF.tr hF9.to4⟩ | exact ⟨hR, hI.frR hF1 hra, hFF.tr hF1.to4⟩)
              · try simp only [nI_b2, ne_eq, Decidable.not_not] at c_167
                rw [sTk, if_pos c_167] at hR
                obtain ⟨r0, r1, -⟩ := id hR
                refine w_aload_n dX0_readLine_170 rfl ?_
                refine w_aload_n dX0_readLine_171 rfl ?_
                refine w_getf dX0_readLine_172 fl_X0_12 (by first | assumption | exact gs_at | (rw [gs_ne (by omega)]; (first | assumption | exact gs_at | (rw [gs_ne (by omega)]; (first | assumption | exact gs_at | (rw [gs_ne (by omega)]; (first | assumption | exact gs_at | (rw [gs_ne (by omega)]; (first | assumption | exact gs_at))))))))) rfl ?_
                refine w_iconst (v := nI 0) dX0_readLine_175 (by decide) ?_
                refine w_sipush (v := nI 999) dX0_readLine_176 (by decide) ?_
                refine wV2i dX0_readLine_179 lk_X0_82 rfl (by first | assumption | exact gs_at | (rw [gs_ne (by omega)]; (first | assumption | exact gs_at | (rw [gs_ne (by omega)]; (first | assumption | exact gs_at | (rw [gs_ne (by omega)]; (first | assumption | exact gs_at | (rw [gs_ne (by omega)]; (first | assumption | exact gs_at))))))))) rfl rfl (c_number (hi1 := 1000) hR (by decide) (by decide) (by decide)) (Nat.le_of_ble_eq_true rfl) (Nat.le_of_ble_eq_true rfl) (Nat.le_of_ble_eq_true rfl) (Nat.le_of_ble_eq_true rfl) (fun r_179 G h_179 => ?_)
                obtain ⟨rfl, hR, hF1⟩ := h_179
                obtain ⟨r0, r1, -⟩ := id hR
                have hd := (hF1.2 _ hdr).trans hd
                have hI := hI.frR hF1 hra
                have hFF := hFF.tr hF1.to4
                obtain ⟨i0, i1, i2, i3, i4, i5, i6, i7, i8, i9, i10, i11, i12, i13⟩ := id hI
                rw [← nI_nOf (vNum y n 0 1000 _)]
                refine w_pis15 hI dX0_readLine_182 fl_X0_90 (fun G9 hI9 hF9 => ?_)
                refine w_goto (tgt := 195) dX0_readLine_185 (by decide) ?_
                refine w_vret dX0_readLine_195 rfl (Nat.le_of_ble_eq_true rfl) (Nat.le_of_ble_eq_true rfl) ?_
                refine ⟨rfl, ?_⟩
                first
                  | (rw [rdLine, if_pos c_9]; first | exact h_14 | exact ⟨hR, hI, hFF⟩ | exact ⟨hR.frI hF9 hra hr2, hI9, hFF.tr hF9.to4⟩ | exact ⟨hR, hI.frR hF1 hra, hFF.tr hF1.to4⟩)
                  | (rw [rdLine, if_neg c_9, if_pos c_29]; first | exact h_14 | exact ⟨hR, hI, hFF⟩ | exact ⟨hR.frI hF9 hra hr2, hI9, hFF.tr hF9.to4⟩ | exact ⟨hR, hI.frR hF1 hra, hFF.tr hF1.to4⟩)
                  | (rw [rdLine, if_neg c_9, if_neg c_29, if_pos c_55]; first | exact h_14 | exact ⟨hR, hI, hFF⟩ | exact ⟨hR.frI hF9 hra hr2, hI9, hFF.tr hF9.to4⟩ | exact ⟨hR, hI.frR hF1 hra, hFF.tr hF1.to4⟩)
                  | (rw [rdLine, if_neg c_9, if_neg c_29, if_neg c_55, if_pos c_82]; first | exact h_14 | exact ⟨hR, hI, hFF⟩ | exact ⟨hR.frI hF9 hra hr2, hI9, hFF.tr hF9.to4⟩ | exact ⟨hR, hI.frR hF1 hra, hFF.tr hF1.to4⟩)
                  | (rw [rdLine, if_neg c_9, if_neg c_29, if_neg c_55, if_neg c_82, if_pos c_109]; first | exact h_14 | exact ⟨hR, hI, hFF⟩ | exact ⟨hR.frI hF9 hra hr2, hI9, hFF.tr hF9.to4⟩ | exact ⟨hR, hI.frR hF1 hra, hFF.tr hF1.to4⟩)
                  | (rw [rdLine, if_neg c_9, if_neg c_29, if_neg c_55, if_neg c_82, if_neg c_109, if_pos c_138]; first | exact h_14 | exact ⟨hR, hI, hFF⟩ | exact ⟨hR.frI hF9 hra hr2, hI9, hFF.tr hF9.to4⟩ | exact ⟨hR, hI.frR hF1 hra, hFF.tr hF1.to4⟩)
                  | (rw [rdLine, if_neg c_9, if_neg c_29, if_neg c_55, if_neg c_82, if_neg c_109, if_neg c_138, if_pos c_167]; first | exact h_14 | exact ⟨hR, hI, hFF⟩ | exact ⟨hR.frI hF9 hra hr2, hI9, hFF.tr hF9.to4⟩ | exact ⟨hR, hI.frR hF1 hra, hFF.tr hF1.to4⟩)
                  | (rw [rdLine, if_neg c_9, if_neg c_29, if_neg c_55, if_neg c_82, if_neg c_109, if_neg c_138, if_neg c_167]; first | exact h_14 | exact ⟨hR, hI, hFF⟩ | exact ⟨hR.frI hF9 hra hr2, hI9, hFF.tr hF9.to4⟩ | exact ⟨hR, hI.frR hF1 hra, hFF.tr hF1.to4⟩)
            · try simp only [nI_b2, ne_eq, Decidable.not_not] at c_138
              rw [sTk, if_pos c_138] at hR
              obtain ⟨r0, r1, -⟩ := id hR
              refine w_aload_n dX0_readLine_141 rfl ?_
              refine w_aload_n dX0_readLine_142 rfl ?_
              refine w_getf dX0_readLine_143 fl_X0_12 (by first | assumption | exact gs_at | (rw [gs_ne (by omega)]; (first | assumption | exact gs_at | (rw [gs_ne (by omega)]; (first | assumption | exact gs_at | (rw [gs_ne (by omega)]; (first | assumption | exact gs_at | (rw [gs_ne (by omega)]; (first | assumption | exact gs_at))))))))) rfl ?_
              refine w_iconst (v := nI 0) dX0_readLine_146 (by decide) ?_
              refine w_bipush (v := nI 100) dX0_readLine_147 (by decide) ?_
              refine wV2i dX0_readLine_149 lk_X0_82 rfl (by first | assumption | exact gs_at | (rw [gs_ne (by omega)]; (first | assumption | exact gs_at | (rw [gs_ne (by omega)]; (first | assumption | exact gs_at | (rw [gs_ne (by omega)]; (first | assumption | exact gs_at | (rw [gs_ne (by omega)]; (first | assumption | exact gs_at))))))))) rfl rfl (c_number (hi1 := 101) hR (by decide) (by decide) (by decide)) (Nat.le_of_ble_eq_true rfl) (Nat.le_of_ble_eq_true rfl) (Nat.le_of_ble_eq_true rfl) (Nat.le_of_ble_eq_true rfl) (fun r_149 G h_149 => ?_)
              obtain ⟨rfl, hR, hF1⟩ := h_149
              obtain ⟨r0, r1, -⟩ := id hR
              have hd := (hF1.2 _ hdr).trans hd
              have hI := hI.frR hF1 hra
              have hFF := hFF.tr hF1.to4
              obtain ⟨i0, i1, i2, i3, i4, i5, i6, i7, i8, i9, i10, i11, i12, i13⟩ := id hI
              rw [← nI_nOf (vNum y n 0 101 _)]
              refine w_pis14 hI dX0_readLine_152 fl_X0_86 (fun G9 hI9 hF9 => ?_)
              refine w_goto (tgt := 195) dX0_readLine_155 (by decide) ?_
              refine w_vret dX0_readLine_195 rfl (Nat.le_of_ble_eq_true rfl) (Nat.le_of_ble_eq_true rfl) ?_
              refine ⟨rfl, ?_⟩
              first
                | (rw [rdLine, if_pos c_9]; first | exact h_14 | exact ⟨hR, hI, hFF⟩ | exact ⟨hR.frI hF9 hra hr2, hI9, hFF.tr hF9.to4⟩ | exact ⟨hR, hI.frR hF1 hra, hFF.tr hF1.to4⟩)
                | (rw [rdLine, if_neg c_9, if_pos c_29]; first | exact h_14 | exact ⟨hR, hI, hFF⟩ | exact ⟨hR.frI hF9 hra hr2, hI9, hFF.tr hF9.to4⟩ | exact ⟨hR, hI.frR hF1 hra, hFF.tr hF1.to4⟩)
                | (rw [rdLine, if_neg c_9, if_neg c_29, if_pos c_55]; first | exact h_14 | exact ⟨hR, hI, hFF⟩ | exact ⟨hR.frI hF9 hra hr2, hI9, hFF.tr hF9.to4⟩ | exact ⟨hR, hI.frR hF1 hra, hFF.tr hF1.to4⟩)
                | (rw [rdLine, if_neg c_9, if_neg c_29, if_neg c_55, if_pos c_82]; first | exact h_14 | exact ⟨hR, hI, hFF⟩ | exact ⟨hR.frI hF9 hra hr2, hI9, hFF.tr hF9.to4⟩ | exact ⟨hR, hI.frR hF1 hra, hFF.tr hF1.to4⟩)
                | (rw [rdLine, if_neg c_9, if_neg c_29, if_neg c_55, if_neg c_82, if_pos c_109]; first | exact h_14 | exact ⟨hR, hI, hFF⟩ | exact ⟨hR.frI hF9 hra hr2, hI9, hFF.tr hF9.to4⟩ | exact ⟨hR, hI.frR hF1 hra, hFF.tr hF1.to4⟩)
                | (rw [rdLine, if_neg c_9, if_neg c_29, if_neg c_55, if_neg c_82, if_neg c_109, if_pos c_138]; first | exact h_14 | exact ⟨hR, hI, hFF⟩ | exact ⟨hR.frI hF9 hra hr2, hI9, hFF.tr hF9.to4⟩ | exact ⟨hR, hI.frR hF1 hra, hFF.tr hF1.to4⟩)
                | (rw [rdLine, if_neg c_9, if_neg c_29, if_neg c_55, if_neg c_82, if_neg c_109, if_neg c_138, if_pos c_167]; first | exact h_14 | exact ⟨hR, hI, hFF⟩ | exact ⟨hR.frI hF9 hra hr2, hI9, hFF.tr hF9.to4⟩ | exact ⟨hR, hI.frR hF1 hra, hFF.tr hF1.to4⟩)
                | (rw [rdLine, if_neg c_9, if_neg c_29, if_neg c_55, if_neg c_82, if_neg c_109, if_neg c_138, if_neg c_167]; first | exact h_14 | exact ⟨hR, hI, hFF⟩ | exact ⟨hR.frI hF9 hra hr2, hI9, hFF.tr hF9.to4⟩ | exact ⟨hR, hI.frR hF1 hra, hFF.tr hF1.to4⟩)
          · try simp only [nI_b2, ne_eq, Decidable.not_not] at c_109
            rw [sTk, if_pos c_109] at hR
            obtain ⟨r0, r1, -⟩ := id hR
            refine w_aload_n dX0_readLine_112 rfl ?_
            refine w_aload_n dX0_readLine_113 rfl ?_
            refine w_getf dX0_readLine_114 fl_X0_75 (by first | assumption | exact gs_at | (rw [gs_ne (by omega)]; (first | assumption | exact gs_at | (rw [gs_ne (by omega)]; (first | assumption | exact gs_at | (rw [gs_ne (by omega)]; (first | assumption | exact gs_at | (rw [gs_ne (by omega)]; (first | assumption | exact gs_at))))))))) rfl ?_
            refine w_aload_n dX0_readLine_117 rfl ?_
            refine w_getf dX0_readLine_118 fl_X0_77 (by first | assumption | exact gs_at | (rw [gs_ne (by omega)]; (first | assumption | exact gs_at | (rw [gs_ne (by omega)]; (first | assumption | exact gs_at | (rw [gs_ne (by omega)]; (first | assumption | exact gs_at | (rw [gs_ne (by omega)]; (first | assumption | exact gs_at))))))))) rfl ?_
            refine w_bipush (v := nI 99) dX0_readLine_121 (by decide) ?_
            refine wV3d dX0_readLine_123 lk_X0_61 rfl (by first | assumption | exact gs_at | (rw [gs_ne (by omega)]; (first | assumption | exact gs_at | (rw [gs_ne (by omega)]; (first | assumption | exact gs_at | (rw [gs_ne (by omega)]; (first | assumption | exact gs_at | (rw [gs_ne (by omega)]; (first | assumption | exact gs_at))))))))) rfl rfl (c_readCell (hi1 := T 12 0) (mo1 := 100) hd hdr hR i3 (by omega) (by decide) (by omega) rfl (by decide) (by first | decide | omega) (by decide)) (Nat.le_of_ble_eq_true rfl) (Nat.le_of_ble_eq_true rfl) (Nat.le_of_ble_eq_true rfl) (Nat.le_of_ble_eq_true rfl) (fun G h_123 => ?_)
            obtain ⟨hR, hC, hG2, hGG⟩ := h_123
            have hI := hI.cell2 (r := r) hC hGG hra
            have hFF := hFF.tr ⟨hG2, fun q h1 h2 => hGG q h1 (by omega)⟩
            refine w_goto (tgt := 195) dX0_readLine_126 (by decide) ?_
            refine w_vret dX0_readLine_195 rfl (Nat.le_of_ble_eq_true rfl) (Nat.le_of_ble_eq_true rfl) ?_
            refine ⟨rfl, ?_⟩
            first
              | (rw [rdLine, if_pos c_9]; first | exact h_14 | exact ⟨hR, hI, hFF⟩ | exact ⟨hR.frI hF9 hra hr2, hI9, hFF.tr hF9.to4⟩ | exact ⟨hR, hI.frR hF1 hra, hFF.tr hF1.to4⟩)
              | (rw [rdLine, if_neg c_9, if_pos c_29]; first | exact h_14 | exact ⟨hR, hI, hFF⟩ | exact ⟨hR.frI hF9 hra hr2, hI9, hFF.tr hF9.to4⟩ | exact ⟨hR, hI.frR hF1 hra, hFF.tr hF1.to4⟩)
              | (rw [rdLine, if_neg c_9, if_neg c_29, if_pos c_55]; first | exact h_14 | exact ⟨hR, hI, hFF⟩ | exact ⟨hR.frI hF9 hra hr2, hI9, hFF.tr hF9.to4⟩ | exact ⟨hR, hI.frR hF1 hra, hFF.tr hF1.to4⟩)
              | (rw [rdLine, if_neg c_9, if_neg c_29, if_neg c_55, if_pos c_82]; first | exact h_14 | exact ⟨hR, hI, hFF⟩ | exact ⟨hR.frI hF9 hra hr2, hI9, hFF.tr hF9.to4⟩ | exact ⟨hR, hI.frR hF1 hra, hFF.tr hF1.to4⟩)
              | (rw [rdLine, if_neg c_9, if_neg c_29, if_neg c_55, if_neg c_82, if_pos c_109]; first | exact h_14 | exact ⟨hR, hI, hFF⟩ | exact ⟨hR.frI hF9 hra hr2, hI9, hFF.tr hF9.to4⟩ | exact ⟨hR, hI.frR hF1 hra, hFF.tr hF1.to4⟩)
              | (rw [rdLine, if_neg c_9, if_neg c_29, if_neg c_55, if_neg c_82, if_neg c_109, if_pos c_138]; first | exact h_14 | exact ⟨hR, hI, hFF⟩ | exact ⟨hR.frI hF9 hra hr2, hI9, hFF.tr hF9.to4⟩ | exact ⟨hR, hI.frR hF1 hra, hFF.tr hF1.to4⟩)
              | (rw [rdLine, if_neg c_9, if_neg c_29, if_neg c_55, if_neg c_82, if_neg c_109, if_neg c_138, if_pos c_167]; first | exact h_14 | exact ⟨hR, hI, hFF⟩ | exact ⟨hR.frI hF9 hra hr2, hI9, hFF.tr hF9.to4⟩ | exact ⟨hR, hI.frR hF1 hra, hFF.tr hF1.to4⟩)
              | (rw [rdLine, if_neg c_9, if_neg c_29, if_neg c_55, if_neg c_82, if_neg c_109, if_neg c_138, if_neg c_167]; first | exact h_14 | exact ⟨hR, hI, hFF⟩ | exact ⟨hR.frI hF9 hra hr2, hI9, hFF.tr hF9.to4⟩ | exact ⟨hR, hI.frR hF1 hra, hFF.tr hF1.to4⟩)
        · try simp only [nI_b2, ne_eq, Decidable.not_not] at c_82
          rw [sTk, if_pos c_82] at hR
          obtain ⟨r0, r1, -⟩ := id hR
          refine w_aload_n dX0_readLine_85 rfl ?_
          refine w_aload_n dX0_readLine_86 rfl ?_
          refine w_getf dX0_readLine_87 fl_X0_71 (by first | assumption | exact gs_at | (rw [gs_ne (by omega)]; (first | assumption | exact gs_at | (rw [gs_ne (by omega)]; (first | assumption | exact gs_at | (rw [gs_ne (by omega)]; (first | assumption | exact gs_at | (rw [gs_ne (by omega)]; (first | assumption | exact gs_at))))))))) rfl ?_
          refine w_bipush (v := nI 6) dX0_readLine_90 (by decide) ?_
          refine w_bipush (v := nI 12) dX0_readLine_92 (by decide) ?_
          refine wV3d dX0_readLine_94 lk_X0_61 rfl (by first | assumption | exact gs_at | (rw [gs_ne (by omega)]; (first | assumption | exact gs_at | (rw [gs_ne (by omega)]; (first | assumption | exact gs_at | (rw [gs_ne (by omega)]; (first | assumption | exact gs_at | (rw [gs_ne (by omega)]; (first | assumption | exact gs_at))))))))) rfl rfl (c_readCell (hi1 := 6) (mo1 := 13) hd hdr hR i9 (by omega) (by decide) (by omega) rfl (by decide) (by first | decide | omega) (by decide)) (Nat.le_of_ble_eq_true rfl) (Nat.le_of_ble_eq_true rfl) (Nat.le_of_ble_eq_true rfl) (Nat.le_of_ble_eq_true rfl) (fun G h_94 => ?_)
          obtain ⟨hR, hC, hG2, hGG⟩ := h_94
          have hI := hI.cell8 (r := r) hC hGG hra
          have hFF := hFF.tr ⟨hG2, fun q h1 h2 => hGG q h1 (by omega)⟩
          refine w_goto (tgt := 195) dX0_readLine_97 (by decide) ?_
          refine w_vret dX0_readLine_195 rfl (Nat.le_of_ble_eq_true rfl) (Nat.le_of_ble_eq_true rfl) ?_
          refine ⟨rfl, ?_⟩
          first
            | (rw [rdLine, if_pos c_9]; first | exact h_14 | exact ⟨hR, hI, hFF⟩ | exact ⟨hR.frI hF9 hra hr2, hI9, hFF.tr hF9.to4⟩ | exact ⟨hR, hI.frR hF1 hra, hFF.tr hF1.to4⟩)
            | (rw [rdLine, if_neg c_9, if_pos c_29]; first | exact h_14 | exact ⟨hR, hI, hFF⟩ | exact ⟨hR.frI hF9 hra hr2, hI9, hFF.tr hF9.to4⟩ | exact ⟨hR, hI.frR hF1 hra, hFF.tr hF1.to4⟩)
            | (rw [rdLine, if_neg c_9, if_neg c_29, if_pos c_55]; first | exact h_14 | exact ⟨hR, hI, hFF⟩ | exact ⟨hR.frI hF9 hra hr2, hI9, hFF.tr hF9.to4⟩ | exact ⟨hR, hI.frR hF1 hra, hFF.tr hF1.to4⟩)
            | (rw [rdLine, if_neg c_9, if_neg c_29, if_neg c_55, if_pos c_82]; first | exact h_14 | exact ⟨hR, hI, hFF⟩ | exact ⟨hR.frI hF9 hra hr2, hI9, hFF.tr hF9.to4⟩ | exact ⟨hR, hI.frR hF1 hra, hFF.tr hF1.to4⟩)
            | (rw [rdLine, if_neg c_9, if_neg c_29, if_neg c_55, if_neg c_82, if_pos c_109]; first | exact h_14 | exact ⟨hR, hI, hFF⟩ | exact ⟨hR.frI hF9 hra hr2, hI9, hFF.tr hF9.to4⟩ | exact ⟨hR, hI.frR hF1 hra, hFF.tr hF1.to4⟩)
            | (rw [rdLine, if_neg c_9, if_neg c_29, if_neg c_55, if_neg c_82, if_neg c_109, if_pos c_138]; first | exact h_14 | exact ⟨hR, hI, hFF⟩ | exact ⟨hR.frI hF9 hra hr2, hI9, hFF.tr hF9.to4⟩ | exact ⟨hR, hI.frR hF1 hra, hFF.tr hF1.to4⟩)
            | (rw [rdLine, if_neg c_9, if_neg c_29, if_neg c_55, if_neg c_82, if_neg c_109, if_neg c_138, if_pos c_167]; first | exact h_14 | exact ⟨hR, hI, hFF⟩ | exact ⟨hR.frI hF9 hra hr2, hI9, hFF.tr hF9.to4⟩ | exact ⟨hR, hI.frR hF1 hra, hFF.tr hF1.to4⟩)
            | (rw [rdLine, if_neg c_9, if_neg c_29, if_neg c_55, if_neg c_82, if_neg c_109, if_neg c_138, if_neg c_167]; first | exact h_14 | exact ⟨hR, hI, hFF⟩ | exact ⟨hR.frI hF9 hra hr2, hI9, hFF.tr hF9.to4⟩ | exact ⟨hR, hI.frR hF1 hra, hFF.tr hF1.to4⟩)
      · try simp only [nI_b2, ne_eq, Decidable.not_not] at c_55
        rw [sTk, if_pos c_55] at hR
        obtain ⟨r0, r1, -⟩ := id hR
        refine w_aload_n dX0_readLine_58 rfl ?_
        refine w_aload_n dX0_readLine_59 rfl ?_
        refine w_getf dX0_readLine_60 fl_X0_67 (by first | assumption | exact gs_at | (rw [gs_ne (by omega)]; (first | assumption | exact gs_at | (rw [gs_ne (by omega)]; (first | assumption | exact gs_at | (rw [gs_ne (by omega)]; (first | assumption | exact gs_at | (rw [gs_ne (by omega)]; (first | assumption | exact gs_at))))))))) rfl ?_
        refine w_bipush (v := nI 6) dX0_readLine_63 (by decide) ?_
        refine w_bipush (v := nI 99) dX0_readLine_65 (by decide) ?_
        refine wV3d dX0_readLine_67 lk_X0_61 rfl (by first | assumption | exact gs_at | (rw [gs_ne (by omega)]; (first | assumption | exact gs_at | (rw [gs_ne (by omega)]; (first | assumption | exact gs_at | (rw [gs_ne (by omega)]; (first | assumption | exact gs_at | (rw [gs_ne (by omega)]; (first | assumption | exact gs_at))))))))) rfl rfl (c_readCell (hi1 := 6) (mo1 := 100) hd hdr hR i8 (by omega) (by decide) (by omega) rfl (by decide) (by first | decide | omega) (by decide)) (Nat.le_of_ble_eq_true rfl) (Nat.le_of_ble_eq_true rfl) (Nat.le_of_ble_eq_true rfl) (Nat.le_of_ble_eq_true rfl) (fun G h_67 => ?_)
        obtain ⟨hR, hC, hG2, hGG⟩ := h_67
        have hI := hI.cell7 (r := r) hC hGG hra
        have hFF := hFF.tr ⟨hG2, fun q h1 h2 => hGG q h1 (by omega)⟩
        refine w_goto (tgt := 195) dX0_readLine_70 (by decide) ?_
        refine w_vret dX0_readLine_195 rfl (Nat.le_of_ble_eq_true rfl) (Nat.le_of_ble_eq_true rfl) ?_
        refine ⟨rfl, ?_⟩
        first
          | (rw [rdLine, if_pos c_9]; first | exact h_14 | exact ⟨hR, hI, hFF⟩ | exact ⟨hR.frI hF9 hra hr2, hI9, hFF.tr hF9.to4⟩ | exact ⟨hR, hI.frR hF1 hra, hFF.tr hF1.to4⟩)
          | (rw [rdLine, if_neg c_9, if_pos c_29]; first | exact h_14 | exact ⟨hR, hI, hFF⟩ | exact ⟨hR.frI hF9 hra hr2, hI9, hFF.tr hF9.to4⟩ | exact ⟨hR, hI.frR hF1 hra, hFF.tr hF1.to4⟩)
          | (rw [rdLine, if_neg c_9, if_neg c_29, if_pos c_55]; first | exact h_14 | exact ⟨hR, hI, hFF⟩ | exact ⟨hR.frI hF9 hra hr2, hI9, hFF.tr hF9.to4⟩ | exact ⟨hR, hI.frR hF1 hra, hFF.tr hF1.to4⟩)
          | (rw [rdLine, if_neg c_9, if_neg c_29, if_neg c_55, if_pos c_82]; first | exact h_14 | exact ⟨hR, hI, hFF⟩ | exact ⟨hR.frI hF9 hra hr2, hI9, hFF.tr hF9.to4⟩ | exact ⟨hR, hI.frR hF1 hra, hFF.tr hF1.to4⟩)
          | (rw [rdLine, if_neg c_9, if_neg c_29, if_neg c_55, if_neg c_82, if_pos c_109]; first | exact h_14 | exact ⟨hR, hI, hFF⟩ | exact ⟨hR.frI hF9 hra hr2, hI9, hFF.tr hF9.to4⟩ | exact ⟨hR, hI.frR hF1 hra, hFF.tr hF1.to4⟩)
          | (rw [rdLine, if_neg c_9, if_neg c_29, if_neg c_55, if_neg c_82, if_neg c_109, if_pos c_138]; first | exact h_14 | exact ⟨hR, hI, hFF⟩ | exact ⟨hR.frI hF9 hra hr2, hI9, hFF.tr hF9.to4⟩ | exact ⟨hR, hI.frR hF1 hra, hFF.tr hF1.to4⟩)
          | (rw [rdLine, if_neg c_9, if_neg c_29, if_neg c_55, if_neg c_82, if_neg c_109, if_neg c_138, if_pos c_167]; first | exact h_14 | exact ⟨hR, hI, hFF⟩ | exact ⟨hR.frI hF9 hra hr2, hI9, hFF.tr hF9.to4⟩ | exact ⟨hR, hI.frR hF1 hra, hFF.tr hF1.to4⟩)
          | (rw [rdLine, if_neg c_9, if_neg c_29, if_neg c_55, if_neg c_82, if_neg c_109, if_neg c_138, if_neg c_167]; first | exact h_14 | exact ⟨hR, hI, hFF⟩ | exact ⟨hR.frI hF9 hra hr2, hI9, hFF.tr hF9.to4⟩ | exact ⟨hR, hI.frR hF1 hra, hFF.tr hF1.to4⟩)
    · try simp only [nI_b2, ne_eq, Decidable.not_not] at c_29
      rw [sTk, if_pos c_29] at hR
      obtain ⟨r0, r1, -⟩ := id hR
      refine w_aload_n dX0_readLine_32 rfl ?_
      refine w_aload_n dX0_readLine_33 rfl ?_
      refine w_getf dX0_readLine_34 fl_X0_56 (by first | assumption | exact gs_at | (rw [gs_ne (by omega)]; (first | assumption | exact gs_at | (rw [gs_ne (by omega)]; (first | assumption | exact gs_at | (rw [gs_ne (by omega)]; (first | assumption | exact gs_at | (rw [gs_ne (by omega)]; (first | assumption | exact gs_at))))))))) rfl ?_
      refine w_iconst (v := nI 2) dX0_readLine_37 (by decide) ?_
      refine w_bipush (v := nI 20) dX0_readLine_38 (by decide) ?_
      refine wV3d dX0_readLine_40 lk_X0_61 rfl (by first | assumption | exact gs_at | (rw [gs_ne (by omega)]; (first | assumption | exact gs_at | (rw [gs_ne (by omega)]; (first | assumption | exact gs_at | (rw [gs_ne (by omega)]; (first | assumption | exact gs_at | (rw [gs_ne (by omega)]; (first | assumption | exact gs_at))))))))) rfl rfl (c_readCell (hi1 := 2) (mo1 := 21) hd hdr hR i10 (by omega) (by decide) (by omega) rfl (by decide) (by first | decide | omega) (by decide)) (Nat.le_of_ble_eq_true rfl) (Nat.le_of_ble_eq_true rfl) (Nat.le_of_ble_eq_true rfl) (Nat.le_of_ble_eq_true rfl) (fun G h_40 => ?_)
      obtain ⟨hR, hC, hG2, hGG⟩ := h_40
      have hI := hI.cell9 (r := r) hC hGG hra
      have hFF := hFF.tr ⟨hG2, fun q h1 h2 => hGG q h1 (by omega)⟩
      refine w_goto (tgt := 195) dX0_readLine_43 (by decide) ?_
      refine w_vret dX0_readLine_195 rfl (Nat.le_of_ble_eq_true rfl) (Nat.le_of_ble_eq_true rfl) ?_
      refine ⟨rfl, ?_⟩
      first
        | (rw [rdLine, if_pos c_9]; first | exact h_14 | exact ⟨hR, hI, hFF⟩ | exact ⟨hR.frI hF9 hra hr2, hI9, hFF.tr hF9.to4⟩ | exact ⟨hR, hI.frR hF1 hra, hFF.tr hF1.to4⟩)
        | (rw [rdLine, if_neg c_9, if_pos c_29]; first | exact h_14 | exact ⟨hR, hI, hFF⟩ | exact ⟨hR.frI hF9 hra hr2, hI9, hFF.tr hF9.to4⟩ | exact ⟨hR, hI.frR hF1 hra, hFF.tr hF1.to4⟩)
        | (rw [rdLine, if_neg c_9, if_neg c_29, if_pos c_55]; first | exact h_14 | exact ⟨hR, hI, hFF⟩ | exact ⟨hR.frI hF9 hra hr2, hI9, hFF.tr hF9.to4⟩ | exact ⟨hR, hI.frR hF1 hra, hFF.tr hF1.to4⟩)
        | (rw [rdLine, if_neg c_9, if_neg c_29, if_neg c_55, if_pos c_82]; first | exact h_14 | exact ⟨hR, hI, hFF⟩ | exact ⟨hR.frI hF9 hra hr2, hI9, hFF.tr hF9.to4⟩ | exact ⟨hR, hI.frR hF1 hra, hFF.tr hF1.to4⟩)
        | (rw [rdLine, if_neg c_9, if_neg c_29, if_neg c_55, if_neg c_82, if_pos c_109]; first | exact h_14 | exact ⟨hR, hI, hFF⟩ | exact ⟨hR.frI hF9 hra hr2, hI9, hFF.tr hF9.to4⟩ | exact ⟨hR, hI.frR hF1 hra, hFF.tr hF1.to4⟩)
        | (rw [rdLine, if_neg c_9, if_neg c_29, if_neg c_55, if_neg c_82, if_neg c_109, if_pos c_138]; first | exact h_14 | exact ⟨hR, hI, hFF⟩ | exact ⟨hR.frI hF9 hra hr2, hI9, hFF.tr hF9.to4⟩ | exact ⟨hR, hI.frR hF1 hra, hFF.tr hF1.to4⟩)
        | (rw [rdLine, if_neg c_9, if_neg c_29, if_neg c_55, if_neg c_82, if_neg c_109, if_neg c_138, if_pos c_167]; first | exact h_14 | exact ⟨hR, hI, hFF⟩ | exact ⟨hR.frI hF9 hra hr2, hI9, hFF.tr hF9.to4⟩ | exact ⟨hR, hI.frR hF1 hra, hFF.tr hF1.to4⟩)
        | (rw [rdLine, if_neg c_9, if_neg c_29, if_neg c_55, if_neg c_82, if_neg c_109, if_neg c_138, if_neg c_167]; first | exact h_14 | exact ⟨hR, hI, hFF⟩ | exact ⟨hR.frI hF9 hra hr2, hI9, hFF.tr hF9.to4⟩ | exact ⟨hR, hI.frR hF1 hra, hFF.tr hF1.to4⟩)
  · try simp only [nI_b2, ne_eq, Decidable.not_not] at c_9
    refine w_aload_n dX0_readLine_12 rfl ?_
    refine w_aload_n dX0_readLine_13 rfl ?_
    refine wV1d dX0_readLine_14 lk_X0_51 rfl (by first | assumption | exact gs_at | (rw [gs_ne (by omega)]; (first | assumption | exact gs_at | (rw [gs_ne (by omega)]; (first | assumption | exact gs_at | (rw [gs_ne (by omega)]; (first | assumption | exact gs_at | (rw [gs_ne (by omega)]; (first | assumption | exact gs_at))))))))) rfl rfl (c_readItem hd hdr hR hI h12 hra hr2 hda) (Nat.le_of_ble_eq_true rfl) (Nat.le_of_ble_eq_true rfl) (Nat.le_of_ble_eq_true rfl) (Nat.le_of_ble_eq_true rfl) (fun G9 h_14 => ?_)
    refine w_goto (tgt := 195) dX0_readLine_17 (by decide) ?_
    refine w_vret dX0_readLine_195 rfl (Nat.le_of_ble_eq_true rfl) (Nat.le_of_ble_eq_true rfl) ?_
    refine ⟨rfl, ?_⟩
    first
      | (rw [rdLine, if_pos c_9]; first | exact h_14 | exact ⟨hR, hI, hFF⟩ | exact ⟨hR.frI hF9 hra hr2, hI9, hFF.tr hF9.to4⟩ | exact ⟨hR, hI.frR hF1 hra, hFF.tr hF1.to4⟩)
      | (rw [rdLine, if_neg c_9, if_pos c_29]; first | exact h_14 | exact ⟨hR, hI, hFF⟩ | exact ⟨hR.frI hF9 hra hr2, hI9, hFF.tr hF9.to4⟩ | exact ⟨hR, hI.frR hF1 hra, hFF.tr hF1.to4⟩)
      | (rw [rdLine, if_neg c_9, if_neg c_29, if_pos c_55]; first | exact h_14 | exact ⟨hR, hI, hFF⟩ | exact ⟨hR.frI hF9 hra hr2, hI9, hFF.tr hF9.to4⟩ | exact ⟨hR, hI.frR hF1 hra, hFF.tr hF1.to4⟩)
      | (rw [rdLine, if_neg c_9, if_neg c_29, if_neg c_55, if_pos c_82]; first | exact h_14 | exact ⟨hR, hI, hFF⟩ | exact ⟨hR.frI hF9 hra hr2, hI9, hFF.tr hF9.to4⟩ | exact ⟨hR, hI.frR hF1 hra, hFF.tr hF1.to4⟩)
      | (rw [rdLine, if_neg c_9, if_neg c_29, if_neg c_55, if_neg c_82, if_pos c_109]; first | exact h_14 | exact ⟨hR, hI, hFF⟩ | exact ⟨hR.frI hF9 hra hr2, hI9, hFF.tr hF9.to4⟩ | exact ⟨hR, hI.frR hF1 hra, hFF.tr hF1.to4⟩)
      | (rw [rdLine, if_neg c_9, if_neg c_29, if_neg c_55, if_neg c_82, if_neg c_109, if_pos c_138]; first | exact h_14 | exact ⟨hR, hI, hFF⟩ | exact ⟨hR.frI hF9 hra hr2, hI9, hFF.tr hF9.to4⟩ | exact ⟨hR, hI.frR hF1 hra, hFF.tr hF1.to4⟩)
      | (rw [rdLine, if_neg c_9, if_neg c_29, if_neg c_55, if_neg c_82, if_neg c_109, if_neg c_138, if_pos c_167]; first | exact h_14 | exact ⟨hR, hI, hFF⟩ | exact ⟨hR.frI hF9 hra hr2, hI9, hFF.tr hF9.to4⟩ | exact ⟨hR, hI.frR hF1 hra, hFF.tr hF1.to4⟩)
      | (rw [rdLine, if_neg c_9, if_neg c_29, if_neg c_55, if_neg c_82, if_neg c_109, if_neg c_138, if_neg c_167]; first | exact h_14 | exact ⟨hR, hI, hFF⟩ | exact ⟨hR.frI hF9 hra hr2, hI9, hFF.tr hF9.to4⟩ | exact ⟨hR, hI.frR hF1 hra, hFF.tr hF1.to4⟩)
theorem cellT_12 (T : ST) {f : Nat} (N : Nat) (c x : Int32) (h : f ≠ 12) (j : Nat) : cellT T f N c x 12 j = T 12 j := by
  unfold cellT
  split
  · rfl
  · split
    · rfl
    · exact tu_ne1 _ _ _ _ (Ne.symm h)
theorem itemT_12 (T : ST) (v h o r : Nat) : itemT T v h o r 12 0 = T 12 0 + 1 := by
  unfold itemT
  rw [tu, if_pos ⟨rfl, rfl⟩]
theorem rdItem_12 {y : Nat → Nat} {n : Nat} {s : RS} {T : ST} (h : T 12 0 ≤ 12) : (rdItem y n s T).2 12 0 ≤ 12 := by
  unfold rdItem
  split
  · exact h
  · next h1 =>
    dsimp only
    split
    · dsimp only
      rw [itemT_12]; omega
    · dsimp only
      rw [itemT_12]; omega
theorem rdLine_12 {y : Nat → Nat} {n : Nat} {s : RS} {T : ST} (h : T 12 0 ≤ 12) : (rdLine y n s T).2 12 0 ≤ 12 := by
  unfold rdLine
  split
  · exact rdItem_12 h
  · split
    · exact Nat.le_trans (Nat.le_of_eq (cellT_12 T 2 _ _ (by decide) 0)) h
    · split
      · exact Nat.le_trans (Nat.le_of_eq (cellT_12 T 6 _ _ (by decide) 0)) h
      · split
        · exact Nat.le_trans (Nat.le_of_eq (cellT_12 T 6 _ _ (by decide) 0)) h
        · split
          · exact Nat.le_trans (Nat.le_of_eq (cellT_12 T 12 _ _ (by decide) 0)) h
          · split
            · (dsimp only; rw [tu_nk _ _ _ _ (show (0 : Nat) ≠ 2 by decide)]; exact h)
            · split
              · (dsimp only; rw [tu_nk _ _ _ _ (show (0 : Nat) ≠ 3 by decide)]; exact h)
              · exact h
def rdStep (y : Nat → Nat) (n i : Nat) (u : RS × ST) : RS × ST := if i = 14 then (sRf u.1, u.2) else rdLine y n u.1 u.2
theorem rdStep_12 {y : Nat → Nat} {n i : Nat} {u : RS × ST} (h : u.2 12 0 ≤ 12) : (rdStep y n i u).2 12 0 ≤ 12 := by
  unfold rdStep
  split
  · exact h
  · exact rdLine_12 h
def rdGo (y : Nat → Nat) (n : Nat) : Nat → Nat → RS × ST → RS × ST
  | 0, _, u => u
  | k + 1, i, u => if (rdStep y n i u).1.2 = -1 then (if atB y n (rdStep y n i u).1.1 [59] = true then rdGo y n k (i + 1) ((nxt y n (rdStep y n i u).1.1, (rdStep y n i u).1.2), (rdStep y n i u).2) else rdStep y n i u) else rdStep y n i u
def rdText (y : Nat → Nat) (n : Nat) (T : ST) : RS × ST := if n ≤ skp y n 0 then ((skp y n 0, -1), T) else rdGo y n 15 0 ((skp y n 0, -1), T)
def rdWrong (y : Nat → Nat) (n : Nat) (u : RS × ST) : Int32 := if n ≤ u.1.1 then u.1.2 else refW u.1.1 u.1.2
theorem lp_rd98 {E : EV} {Q : OC → AH → Prop} {G0 : AH} {d r n a : Nat} {y : Nat → Nat} {sd : Int32} {vt vn : Value} {u : RS × ST} (hdr : d ≠ r) (hra : r < a ∨ a + 14 ≤ r) (hr2 : r + 1 < a ∨ a + 14 ≤ r + 1) (hda : d < a ∨ a + 14 ≤ d) (hQ : ∀ G1 s1, Rd G1 r y n s1 → Isl G1 a u.2 sd → Fr4 G0 G1 a r → Q (.inl (some (.int (rdWrong y n u)))) G1) {v1 v2 : Value} {G : AH} (hd : G.1 d = some (oB 0 [.ref r])) (hR : Rd G r y n u.1) (hI : Isl G a u.2 sd) (hFF : Fr4 G0 G a r) : Wp E 12 0 0 kX0_readText Q G (0, 0) 98 [.ref d, vt, vn, .ref a, v1, v2] [] := by
  obtain ⟨r0, r1, -⟩ := id hR
  refine w_aload_n dX0_readText_98 rfl ?_
  refine w_getf dX0_readText_99 fl_X0_12 (by first | assumption | exact gs_at | (rw [gs_ne (by omega)]; (first | assumption | exact gs_at | (rw [gs_ne (by omega)]; (first | assumption | exact gs_at | (rw [gs_ne (by omega)]; (first | assumption | exact gs_at | (rw [gs_ne (by omega)]; (first | assumption | exact gs_at))))))))) rfl ?_
  refine wV0u dX0_readText_102 lk_X0_22 rfl (by first | assumption | exact gs_at | (rw [gs_ne (by omega)]; (first | assumption | exact gs_at | (rw [gs_ne (by omega)]; (first | assumption | exact gs_at | (rw [gs_ne (by omega)]; (first | assumption | exact gs_at | (rw [gs_ne (by omega)]; (first | assumption | exact gs_at))))))))) rfl rfl (c_isEnd hR) (Nat.le_of_ble_eq_true rfl) (Nat.le_of_ble_eq_true rfl) (Nat.le_of_ble_eq_true rfl) (Nat.le_of_ble_eq_true rfl) ?_
  refine w_ifN_ne (tgt := 115) dX0_readText_105 (by decide) (fun c_105 => ?_) (fun c_105 => ?_)
  · try simp only [nI_b2, ne_eq, Decidable.not_not] at c_105
    refine w_aload_n dX0_readText_115 rfl ?_
    refine w_getf dX0_readText_116 fl_X0_12 (by first | assumption | exact gs_at | (rw [gs_ne (by omega)]; (first | assumption | exact gs_at | (rw [gs_ne (by omega)]; (first | assumption | exact gs_at | (rw [gs_ne (by omega)]; (first | assumption | exact gs_at | (rw [gs_ne (by omega)]; (first | assumption | exact gs_at))))))))) rfl ?_
    refine w_getf dX0_readText_119 fl_X0_42 (by first | assumption | exact gs_at | (rw [gs_ne (by omega)]; (first | assumption | exact gs_at | (rw [gs_ne (by omega)]; (first | assumption | exact gs_at | (rw [gs_ne (by omega)]; (first | assumption | exact gs_at | (rw [gs_ne (by omega)]; (first | assumption | exact gs_at))))))))) rfl ?_
    refine w_iret dX0_readText_122 rfl (Nat.le_of_ble_eq_true rfl) (Nat.le_of_ble_eq_true rfl) ?_
    first
      | (have h9 := hQ _ _ hR hI hFF; rw [rdWrong, if_pos c_105] at h9; exact h9)
      | (have h9 := hQ _ _ hR1 (hI.frR hF1 hra) (hFF.tr hF1.to4); rw [rdWrong, if_neg c_105] at h9; exact h9)
  · try simp only [nI_b2, ne_eq, Decidable.not_not] at c_105
    refine w_aload_n dX0_readText_108 rfl ?_
    refine w_getf dX0_readText_109 fl_X0_12 (by first | assumption | exact gs_at | (rw [gs_ne (by omega)]; (first | assumption | exact gs_at | (rw [gs_ne (by omega)]; (first | assumption | exact gs_at | (rw [gs_ne (by omega)]; (first | assumption | exact gs_at | (rw [gs_ne (by omega)]; (first | assumption | exact gs_at))))))))) rfl ?_
    refine wV0d dX0_readText_112 lk_X0_26 rfl (by first | assumption | exact gs_at | (rw [gs_ne (by omega)]; (first | assumption | exact gs_at | (rw [gs_ne (by omega)]; (first | assumption | exact gs_at | (rw [gs_ne (by omega)]; (first | assumption | exact gs_at | (rw [gs_ne (by omega)]; (first | assumption | exact gs_at))))))))) rfl rfl (c_refuse hR) (Nat.le_of_ble_eq_true rfl) (Nat.le_of_ble_eq_true rfl) (Nat.le_of_ble_eq_true rfl) (Nat.le_of_ble_eq_true rfl) (fun G1 h_112 => ?_)
    obtain ⟨hR1, hF1⟩ := h_112
    obtain ⟨q0, q1, -⟩ := id hR1
    have hd := (hF1.2 _ hdr).trans hd
    refine w_aload_n dX0_readText_115 rfl ?_
    refine w_getf dX0_readText_116 fl_X0_12 (by first | assumption | exact gs_at | (rw [gs_ne (by omega)]; (first | assumption | exact gs_at | (rw [gs_ne (by omega)]; (first | assumption | exact gs_at | (rw [gs_ne (by omega)]; (first | assumption | exact gs_at | (rw [gs_ne (by omega)]; (first | assumption | exact gs_at))))))))) rfl ?_
    refine w_getf dX0_readText_119 fl_X0_42 (by first | assumption | exact gs_at | (rw [gs_ne (by omega)]; (first | assumption | exact gs_at | (rw [gs_ne (by omega)]; (first | assumption | exact gs_at | (rw [gs_ne (by omega)]; (first | assumption | exact gs_at | (rw [gs_ne (by omega)]; (first | assumption | exact gs_at))))))))) rfl ?_
    refine w_iret dX0_readText_122 rfl (Nat.le_of_ble_eq_true rfl) (Nat.le_of_ble_eq_true rfl) ?_
    first
      | (have h9 := hQ _ _ hR hI hFF; rw [rdWrong, if_pos c_105] at h9; exact h9)
      | (have h9 := hQ _ _ hR1 (hI.frR hF1 hra) (hFF.tr hF1.to4); rw [rdWrong, if_neg c_105] at h9; exact h9)
theorem lp_rd90f {E : EV} {Q : OC → AH → Prop} {G0 : AH} {d r n a : Nat} {y : Nat → Nat} {sd : Int32} {vt vn : Value} {u : RS × ST} (hdr : d ≠ r) (hra : r < a ∨ a + 14 ≤ r) (hr2 : r + 1 < a ∨ a + 14 ≤ r + 1) (hda : d < a ∨ a + 14 ≤ d) (hQ : ∀ G1 s1, Rd G1 r y n s1 → Isl G1 a u.2 sd → Fr4 G0 G1 a r → Q (.inl (some (.int (rdWrong y n u)))) G1) {v1 : Value} {i : Nat} {G : AH} (hd : G.1 d = some (oB 0 [.ref r])) (hR : Rd G r y n u.1) (hI : Isl G a u.2 sd) (hFF : Fr4 G0 G a r) : Wp E 12 0 0 kX0_readText Q G (0, 0) 90 [.ref d, vt, vn, .ref a, v1, .int (nI i)] [.int (nI 0)] := by
  refine w_istore_4 dX0_readText_90 rfl ?_
  first | refine w_iinc_5 dX0_readText_92 (nI_inc _) rfl ?_ | refine w_iinc_5 dX0_readText_92 rfl rfl ?_
  refine w_goto (tgt := 29) dX0_readText_95 (by decide) ?_
  refine w_iload dX0_readText_29 rfl ?_
  refine w_ifN_eq (tgt := 98) dX0_readText_31 (by decide) (fun c_31 => ?_) (fun c9 => absurd (rfl) c9)
  exact lp_rd98 hdr hra hr2 hda hQ hd hR hI hFF
theorem lp_rdGo {E : EV} {Q : OC → AH → Prop} {G0 : AH} {d r n a : Nat} {y : Nat → Nat} {sd : Int32} {vt vn : Value} (hdr : d ≠ r) (hra : r < a ∨ a + 14 ≤ r) (hr2 : r + 1 < a ∨ a + 14 ≤ r + 1) (hda : d < a ∨ a + 14 ≤ d) : ∀ (k i : Nat) (u : RS × ST) (G : AH) (v : RS × ST), i + k = 15 → u.2 12 0 ≤ 12 → rdGo y n k i u = v → (∀ G1 s1, Rd G1 r y n s1 → Isl G1 a v.2 sd → Fr4 G0 G1 a r → Q (.inl (some (.int (rdWrong y n v)))) G1) → (G.1 d = some (oB 0 [.ref r])) → (Rd G r y n u.1) → (Isl G a u.2 sd) → (Fr4 G0 G a r) → Wp E 12 0 0 kX0_readText Q G (0, 0) 29 [.ref d, vt, vn, .ref a, .int (nI 1), .int (nI i)] [] := by
  intro k
  induction k with
  | zero =>
    intro i u G v hk h12 he hQ hd hR hI hFF
    rw [rdGo] at he
    subst he
    refine w_iload dX0_readText_29 rfl ?_
    refine w_ifN_eq (tgt := 98) dX0_readText_31 (by decide) (fun c9 => absurd c9 (by decide)) (fun c_31 => ?_)
    refine w_iload dX0_readText_34 rfl ?_
    refine w_bipush (v := nI 14) dX0_readText_36 (by decide) ?_
    refine w_icmp_gt (tgt := 98) dX0_readText_38 (by decide) (fun c_38 => ?_) (fun c_38 => ?_)
    · try simp (disch := omega) only [nI_b2, nI_ltI, nI_leI, nI_eq, ge_iff_le, gt_iff_lt, Nat.not_lt, Nat.not_le, ne_eq, Decidable.not_not] at c_38
      exact lp_rd98 hdr hra hr2 hda hQ hd hR hI hFF
    · try simp (disch := omega) only [nI_b2, nI_ltI, nI_leI, nI_eq, ge_iff_le, gt_iff_lt, Nat.not_lt, Nat.not_le, ne_eq, Decidable.not_not] at c_38
      exact absurd c_38 (by omega)
  | succ k ih =>
    intro i u G v hk h12 he hQ hd hR hI hFF
    rw [rdGo] at he
    obtain ⟨r0, r1, -⟩ := id hR
    refine w_iload dX0_readText_29 rfl ?_
    refine w_ifN_eq (tgt := 98) dX0_readText_31 (by decide) (fun c9 => absurd c9 (by decide)) (fun c_31 => ?_)
    refine w_iload dX0_readText_34 rfl ?_
    refine w_bipush (v := nI 14) dX0_readText_36 (by decide) ?_
    refine w_icmp_gt (tgt := 98) dX0_readText_38 (by decide) (fun c_38 => ?_) (fun c_38 => ?_)
    · try simp (disch := omega) only [nI_b2, nI_ltI, nI_leI, nI_eq, ge_iff_le, gt_iff_lt, Nat.not_lt, Nat.not_le, ne_eq, Decidable.not_not] at c_38
      exact absurd c_38 (by omega)
    · try simp (disch := omega) only [nI_b2, nI_ltI, nI_leI, nI_eq, ge_iff_le, gt_iff_lt, Nat.not_lt, Nat.not_le, ne_eq, Decidable.not_not] at c_38
      refine w_iload dX0_readText_41 rfl ?_
      refine w_bipush (v := nI 14) dX0_readText_43 (by decide) ?_
      refine w_icmp_ne (tgt := 58) dX0_readText_45 (by decide) (fun c_45 => ?_) (fun c_45 => ?_)
      · try simp (disch := omega) only [nI_b2, nI_ltI, nI_leI, nI_eq, ge_iff_le, gt_iff_lt, Nat.not_lt, Nat.not_le, ne_eq, Decidable.not_not] at c_45
        refine w_aload_n dX0_readText_58 rfl ?_
        refine w_aload_n dX0_readText_59 rfl ?_
        refine wV1d dX0_readText_60 lk_X0_29 rfl (by first | assumption | exact gs_at | (rw [gs_ne (by omega)]; (first | assumption | exact gs_at | (rw [gs_ne (by omega)]; (first | assumption | exact gs_at | (rw [gs_ne (by omega)]; (first | assumption | exact gs_at | (rw [gs_ne (by omega)]; (first | assumption | exact gs_at))))))))) rfl rfl (c_readLine hd hdr hR hI h12 hra hr2 hda) (Nat.le_of_ble_eq_true rfl) (Nat.le_of_ble_eq_true rfl) (Nat.le_of_ble_eq_true rfl) (Nat.le_of_ble_eq_true rfl) (fun G1 h_60 => ?_)
        obtain ⟨hR1, hI1, hF2⟩ := h_60
        have hR2 : Rd G1 r y n (rdStep y n i u).1 := by rw [rdStep, if_neg c_45]; exact hR1
        have hI2 : Isl G1 a (rdStep y n i u).2 sd := by rw [rdStep, if_neg c_45]; exact hI1
        have hd1 := (hF2.2 _ hdr hda).trans hd
        obtain ⟨q0, q1, -⟩ := id hR2
        refine w_aload_n dX0_readText_63 rfl ?_
        refine w_getf dX0_readText_64 fl_X0_12 (by first | assumption | exact gs_at | (rw [gs_ne (by omega)]; (first | assumption | exact gs_at | (rw [gs_ne (by omega)]; (first | assumption | exact gs_at | (rw [gs_ne (by omega)]; (first | assumption | exact gs_at | (rw [gs_ne (by omega)]; (first | assumption | exact gs_at))))))))) rfl ?_
        refine wV0u dX0_readText_67 lk_X0_33 rfl (by first | assumption | exact gs_at | (rw [gs_ne (by omega)]; (first | assumption | exact gs_at | (rw [gs_ne (by omega)]; (first | assumption | exact gs_at | (rw [gs_ne (by omega)]; (first | assumption | exact gs_at | (rw [gs_ne (by omega)]; (first | assumption | exact gs_at))))))))) rfl rfl (c_isRight hR2) (Nat.le_of_ble_eq_true rfl) (Nat.le_of_ble_eq_true rfl) (Nat.le_of_ble_eq_true rfl) (Nat.le_of_ble_eq_true rfl) ?_
        refine w_ifN_eq (tgt := 89) dX0_readText_70 (by decide) (fun c_70 => ?_) (fun c_70 => ?_)
        · try simp (disch := omega) only [nI_b2, nI_ltI, nI_leI, nI_eq, ge_iff_le, gt_iff_lt, Nat.not_lt, Nat.not_le, ne_eq, Decidable.not_not] at c_70
          refine w_iconst (v := nI 0) dX0_readText_89 (by decide) ?_
          first
            | (rw [if_neg c_70] at he; subst he; exact lp_rd90f hdr hra hr2 hda hQ hd1 hR2 hI2 (hFF.tr hF2))
            | (rw [if_pos c_70, if_neg c_82] at he; subst he; rw [sTk, if_neg c_82] at hR3; exact lp_rd90f hdr hra hr2 hda hQ hd3 hR3 hI3 hFF3)
            | (rw [if_pos c_70, if_pos c_82] at he; rw [sTk, if_pos c_82] at hR3; refine w_istore_4 dX0_readText_90 rfl ?_; refine w_iinc_5 dX0_readText_92 (nI_inc _) rfl ?_; refine w_goto (tgt := 29) dX0_readText_95 (by decide) ?_; exact ih (i + 1) ((nxt y n (rdStep y n i u).1.1, (rdStep y n i u).1.2), (rdStep y n i u).2) G3 v (by omega) (rdStep_12 h12) he hQ hd3 hR3 hI3 hFF3)
        · try simp (disch := omega) only [nI_b2, nI_ltI, nI_leI, nI_eq, ge_iff_le, gt_iff_lt, Nat.not_lt, Nat.not_le, ne_eq, Decidable.not_not] at c_70
          refine w_aload_n dX0_readText_73 rfl ?_
          refine w_getf dX0_readText_74 fl_X0_12 (by first | assumption | exact gs_at | (rw [gs_ne (by omega)]; (first | assumption | exact gs_at | (rw [gs_ne (by omega)]; (first | assumption | exact gs_at | (rw [gs_ne (by omega)]; (first | assumption | exact gs_at | (rw [gs_ne (by omega)]; (first | assumption | exact gs_at))))))))) rfl ?_
          refine w_ldcS (i := 10) rfl rfl dX0_readText_77 ?_
          refine wV1i dX0_readText_79 lk_X0_38 rfl (by first | assumption | exact gs_at | (rw [gs_ne (by omega)]; (first | assumption | exact gs_at | (rw [gs_ne (by omega)]; (first | assumption | exact gs_at | (rw [gs_ne (by omega)]; (first | assumption | exact gs_at | (rw [gs_ne (by omega)]; (first | assumption | exact gs_at))))))))) rfl rfl (c_takes (ws := [59]) rfl rfl (by decide) (by decide) hR2) (Nat.le_of_ble_eq_true rfl) (Nat.le_of_ble_eq_true rfl) (Nat.le_of_ble_eq_true rfl) (Nat.le_of_ble_eq_true rfl) (fun r_79 G3 h_79 => ?_)
          obtain ⟨rfl, hR3, hF3⟩ := h_79
          have hI3 := hI2.frR hF3 hra
          have hd3 := (hF3.2 _ hdr).trans hd1
          have hFF3 := (hFF.tr hF2).tr hF3.to4
          refine w_ifN_eq (tgt := 89) dX0_readText_82 (by decide) (fun c_82 => ?_) (fun c_82 => ?_)
          · try simp (disch := omega) only [nI_b2, nI_ltI, nI_leI, nI_eq, ge_iff_le, gt_iff_lt, Nat.not_lt, Nat.not_le, ne_eq, Decidable.not_not] at c_82
            refine w_iconst (v := nI 0) dX0_readText_89 (by decide) ?_
            first
              | (rw [if_neg c_70] at he; subst he; exact lp_rd90f hdr hra hr2 hda hQ hd1 hR2 hI2 (hFF.tr hF2))
              | (rw [if_pos c_70, if_neg c_82] at he; subst he; rw [sTk, if_neg c_82] at hR3; exact lp_rd90f hdr hra hr2 hda hQ hd3 hR3 hI3 hFF3)
              | (rw [if_pos c_70, if_pos c_82] at he; rw [sTk, if_pos c_82] at hR3; refine w_istore_4 dX0_readText_90 rfl ?_; refine w_iinc_5 dX0_readText_92 (nI_inc _) rfl ?_; refine w_goto (tgt := 29) dX0_readText_95 (by decide) ?_; exact ih (i + 1) ((nxt y n (rdStep y n i u).1.1, (rdStep y n i u).1.2), (rdStep y n i u).2) G3 v (by omega) (rdStep_12 h12) he hQ hd3 hR3 hI3 hFF3)
          · try simp (disch := omega) only [nI_b2, nI_ltI, nI_leI, nI_eq, ge_iff_le, gt_iff_lt, Nat.not_lt, Nat.not_le, ne_eq, Decidable.not_not] at c_82
            refine w_iconst (v := nI 1) dX0_readText_85 (by decide) ?_
            refine w_goto (tgt := 90) dX0_readText_86 (by decide) ?_
            first
              | (rw [if_neg c_70] at he; subst he; exact lp_rd90f hdr hra hr2 hda hQ hd1 hR2 hI2 (hFF.tr hF2))
              | (rw [if_pos c_70, if_neg c_82] at he; subst he; rw [sTk, if_neg c_82] at hR3; exact lp_rd90f hdr hra hr2 hda hQ hd3 hR3 hI3 hFF3)
              | (rw [if_pos c_70, if_pos c_82] at he; rw [sTk, if_pos c_82] at hR3; refine w_istore_4 dX0_readText_90 rfl ?_; refine w_iinc_5 dX0_readText_92 (nI_inc _) rfl ?_; refine w_goto (tgt := 29) dX0_readText_95 (by decide) ?_; exact ih (i + 1) ((nxt y n (rdStep y n i u).1.1, (rdStep y n i u).1.2), (rdStep y n i u).2) G3 v (by omega) (rdStep_12 h12) he hQ hd3 hR3 hI3 hFF3)
      · try simp (disch := omega) only [nI_b2, nI_ltI, nI_leI, nI_eq, ge_iff_le, gt_iff_lt, Nat.not_lt, Nat.not_le, ne_eq, Decidable.not_not] at c_45
        refine w_aload_n dX0_readText_48 rfl ?_
        refine w_getf dX0_readText_49 fl_X0_12 (by first | assumption | exact gs_at | (rw [gs_ne (by omega)]; (first | assumption | exact gs_at | (rw [gs_ne (by omega)]; (first | assumption | exact gs_at | (rw [gs_ne (by omega)]; (first | assumption | exact gs_at | (rw [gs_ne (by omega)]; (first | assumption | exact gs_at))))))))) rfl ?_
        refine wV0d dX0_readText_52 lk_X0_26 rfl (by first | assumption | exact gs_at | (rw [gs_ne (by omega)]; (first | assumption | exact gs_at | (rw [gs_ne (by omega)]; (first | assumption | exact gs_at | (rw [gs_ne (by omega)]; (first | assumption | exact gs_at | (rw [gs_ne (by omega)]; (first | assumption | exact gs_at))))))))) rfl rfl (c_refuse hR) (Nat.le_of_ble_eq_true rfl) (Nat.le_of_ble_eq_true rfl) (Nat.le_of_ble_eq_true rfl) (Nat.le_of_ble_eq_true rfl) (fun G1 h_52 => ?_)
        obtain ⟨hR1, hF1⟩ := h_52
        have hR2 : Rd G1 r y n (rdStep y n i u).1 := by rw [rdStep, if_pos c_45]; exact hR1
        have hI2 : Isl G1 a (rdStep y n i u).2 sd := by rw [rdStep, if_pos c_45]; exact hI.frR hF1 hra
        have hF2 : Fr4 G G1 a r := hF1.to4
        have hd1 := (hF2.2 _ hdr hda).trans hd
        refine w_goto (tgt := 63) dX0_readText_55 (by decide) ?_
        obtain ⟨q0, q1, -⟩ := id hR2
        refine w_aload_n dX0_readText_63 rfl ?_
        refine w_getf dX0_readText_64 fl_X0_12 (by first | assumption | exact gs_at | (rw [gs_ne (by omega)]; (first | assumption | exact gs_at | (rw [gs_ne (by omega)]; (first | assumption | exact gs_at | (rw [gs_ne (by omega)]; (first | assumption | exact gs_at | (rw [gs_ne (by omega)]; (first | assumption | exact gs_at))))))))) rfl ?_
        refine wV0u dX0_readText_67 lk_X0_33 rfl (by first | assumption | exact gs_at | (rw [gs_ne (by omega)]; (first | assumption | exact gs_at | (rw [gs_ne (by omega)]; (first | assumption | exact gs_at | (rw [gs_ne (by omega)]; (first | assumption | exact gs_at | (rw [gs_ne (by omega)]; (first | assumption | exact gs_at))))))))) rfl rfl (c_isRight hR2) (Nat.le_of_ble_eq_true rfl) (Nat.le_of_ble_eq_true rfl) (Nat.le_of_ble_eq_true rfl) (Nat.le_of_ble_eq_true rfl) ?_
        refine w_ifN_eq (tgt := 89) dX0_readText_70 (by decide) (fun c_70 => ?_) (fun c_70 => ?_)
        · try simp (disch := omega) only [nI_b2, nI_ltI, nI_leI, nI_eq, ge_iff_le, gt_iff_lt, Nat.not_lt, Nat.not_le, ne_eq, Decidable.not_not] at c_70
          refine w_iconst (v := nI 0) dX0_readText_89 (by decide) ?_
          first
            | (rw [if_neg c_70] at he; subst he; exact lp_rd90f hdr hra hr2 hda hQ hd1 hR2 hI2 (hFF.tr hF2))
            | (rw [if_pos c_70, if_neg c_82] at he; subst he; rw [sTk, if_neg c_82] at hR3; exact lp_rd90f hdr hra hr2 hda hQ hd3 hR3 hI3 hFF3)
            | (rw [if_pos c_70, if_pos c_82] at he; rw [sTk, if_pos c_82] at hR3; refine w_istore_4 dX0_readText_90 rfl ?_; refine w_iinc_5 dX0_readText_92 (nI_inc _) rfl ?_; refine w_goto (tgt := 29) dX0_readText_95 (by decide) ?_; exact ih (i + 1) ((nxt y n (rdStep y n i u).1.1, (rdStep y n i u).1.2), (rdStep y n i u).2) G3 v (by omega) (rdStep_12 h12) he hQ hd3 hR3 hI3 hFF3)
        · try simp (disch := omega) only [nI_b2, nI_ltI, nI_leI, nI_eq, ge_iff_le, gt_iff_lt, Nat.not_lt, Nat.not_le, ne_eq, Decidable.not_not] at c_70
          refine w_aload_n dX0_readText_73 rfl ?_
          refine w_getf dX0_readText_74 fl_X0_12 (by first | assumption | exact gs_at | (rw [gs_ne (by omega)]; (first | assumption | exact gs_at | (rw [gs_ne (by omega)]; (first | assumption | exact gs_at | (rw [gs_ne (by omega)]; (first | assumption | exact gs_at | (rw [gs_ne (by omega)]; (first | assumption | exact gs_at))))))))) rfl ?_
          refine w_ldcS (i := 10) rfl rfl dX0_readText_77 ?_
          refine wV1i dX0_readText_79 lk_X0_38 rfl (by first | assumption | exact gs_at | (rw [gs_ne (by omega)]; (first | assumption | exact gs_at | (rw [gs_ne (by omega)]; (first | assumption | exact gs_at | (rw [gs_ne (by omega)]; (first | assumption | exact gs_at | (rw [gs_ne (by omega)]; (first | assumption | exact gs_at))))))))) rfl rfl (c_takes (ws := [59]) rfl rfl (by decide) (by decide) hR2) (Nat.le_of_ble_eq_true rfl) (Nat.le_of_ble_eq_true rfl) (Nat.le_of_ble_eq_true rfl) (Nat.le_of_ble_eq_true rfl) (fun r_79 G3 h_79 => ?_)
          obtain ⟨rfl, hR3, hF3⟩ := h_79
          have hI3 := hI2.frR hF3 hra
          have hd3 := (hF3.2 _ hdr).trans hd1
          have hFF3 := (hFF.tr hF2).tr hF3.to4
          refine w_ifN_eq (tgt := 89) dX0_readText_82 (by decide) (fun c_82 => ?_) (fun c_82 => ?_)
          · try simp (disch := omega) only [nI_b2, nI_ltI, nI_leI, nI_eq, ge_iff_le, gt_iff_lt, Nat.not_lt, Nat.not_le, ne_eq, Decidable.not_not] at c_82
            refine w_iconst (v := nI 0) dX0_readText_89 (by decide) ?_
            first
              | (rw [if_neg c_70] at he; subst he; exact lp_rd90f hdr hra hr2 hda hQ hd1 hR2 hI2 (hFF.tr hF2))
              | (rw [if_pos c_70, if_neg c_82] at he; subst he; rw [sTk, if_neg c_82] at hR3; exact lp_rd90f hdr hra hr2 hda hQ hd3 hR3 hI3 hFF3)
              | (rw [if_pos c_70, if_pos c_82] at he; rw [sTk, if_pos c_82] at hR3; refine w_istore_4 dX0_readText_90 rfl ?_; refine w_iinc_5 dX0_readText_92 (nI_inc _) rfl ?_; refine w_goto (tgt := 29) dX0_readText_95 (by decide) ?_; exact ih (i + 1) ((nxt y n (rdStep y n i u).1.1, (rdStep y n i u).1.2), (rdStep y n i u).2) G3 v (by omega) (rdStep_12 h12) he hQ hd3 hR3 hI3 hFF3)
          · try simp (disch := omega) only [nI_b2, nI_ltI, nI_leI, nI_eq, ge_iff_le, gt_iff_lt, Nat.not_lt, Nat.not_le, ne_eq, Decidable.not_not] at c_82
            refine w_iconst (v := nI 1) dX0_readText_85 (by decide) ?_
            refine w_goto (tgt := 90) dX0_readText_86 (by decide) ?_
            first
              | (rw [if_neg c_70] at he; subst he; exact lp_rd90f hdr hra hr2 hda hQ hd1 hR2 hI2 (hFF.tr hF2))
              | (rw [if_pos c_70, if_neg c_82] at he; subst he; rw [sTk, if_neg c_82] at hR3; exact lp_rd90f hdr hra hr2 hda hQ hd3 hR3 hI3 hFF3)
              | (rw [if_pos c_70, if_pos c_82] at he; rw [sTk, if_pos c_82] at hR3; refine w_istore_4 dX0_readText_90 rfl ?_; refine w_iinc_5 dX0_readText_92 (nI_inc _) rfl ?_; refine w_goto (tgt := 29) dX0_readText_95 (by decide) ?_; exact ih (i + 1) ((nxt y n (rdStep y n i u).1.1, (rdStep y n i u).1.2), (rdStep y n i u).2) G3 v (by omega) (rdStep_12 h12) he hQ hd3 hR3 hI3 hFF3)
theorem c_deedText {E : EV} {d r n a t e9 : Nat} {y : Nat → Nat} {w z l0 : Int32} {f0 : Nat → Int32} {T : ST} {sd : Int32} {G : AH} (hd : G.1 d = some (oB 0 [.ref r])) (hdr : d ≠ r) (hra : r < a ∨ a + 14 ≤ r) (hr2 : r + 1 < a ∨ a + 14 ≤ r + 1) (hda : d < a ∨ a + 14 ≤ d) (h0 : G.1 r = some (oB 5 [.ref (r + 1), .int l0, .int z, .int (nI e9), .int w])) (h1 : G.1 (r + 1) = some (aI 400 f0)) (ht : G.1 t = some (aI 400 (fun i => nI (y i)))) (hn : n ≤ 400) (hy : ∀ i, y i < 256) (hI : Isl G a T sd) (h12 : T 12 0 ≤ 12) (hd2 : d ≠ r + 1) (hr3 : r + 1 ≠ r) : Ci E 12 kX0_readText [.ref d, .ref t, .int (nI n), .ref a] G (fun v G1 => v = rdWrong y n (rdText y n T) ∧ (∃ s1, Rd G1 r y n s1) ∧ Isl G1 a (rdText y n T).2 sd ∧ G1.2 = G.2 ∧ ∀ q, q ≠ r → q ≠ r + 1 → (q < a ∨ a + 14 ≤ q) → G1.1 q = G.1 q) := by
  refine Ct.intro rfl (by decide) [.ref d, .ref t, .int (nI n), .ref a, .float 0, .float 0] (by simp [Value.category]) (Nat.le_of_ble_eq_true rfl) rfl ?_
  refine w_aload_n dX0_readText_0 rfl ?_
  refine w_getf dX0_readText_1 fl_X0_12 (by first | assumption | exact gs_at | (rw [gs_ne (by omega)]; (first | assumption | exact gs_at | (rw [gs_ne (by omega)]; (first | assumption | exact gs_at | (rw [gs_ne (by omega)]; (first | assumption | exact gs_at | (rw [gs_ne (by omega)]; (first | assumption | exact gs_at))))))))) rfl ?_
  refine w_aload_n dX0_readText_4 rfl ?_
  refine w_iload_n dX0_readText_5 rfl ?_
  refine wV2d dX0_readText_6 lk_X0_18 rfl (by first | assumption | exact gs_at | (rw [gs_ne (by omega)]; (first | assumption | exact gs_at | (rw [gs_ne (by omega)]; (first | assumption | exact gs_at | (rw [gs_ne (by omega)]; (first | assumption | exact gs_at | (rw [gs_ne (by omega)]; (first | assumption | exact gs_at))))))))) rfl rfl (c_open (m := 0) (e0 := 0) h0 h1 ht hn hy) (Nat.le_of_ble_eq_true rfl) (Nat.le_of_ble_eq_true rfl) (Nat.le_of_ble_eq_true rfl) (Nat.le_of_ble_eq_true rfl) (fun G1 h_6 => ?_)
  obtain ⟨hR, hG2, hGG⟩ := h_6
  obtain ⟨r0, r1, -⟩ := id hR
  have hd := (hGG _ hdr hd2).trans hd
  have hI := hI.same (G' := G1) (fun q a b => hGG q (by omega) (by omega))
  have hQ : ∀ (u : RS × ST), rdText y n T = u → ∀ G2 s1, Rd G2 r y n s1 → Isl G2 a u.2 sd → Fr4 G1 G2 a r → (fun (o : OC) (G9 : AH) => ∃ v : Int32, o = Sum.inl (some (.int v)) ∧ v = rdWrong y n (rdText y n T) ∧ (∃ s1, Rd G9 r y n s1) ∧ Isl G9 a (rdText y n T).2 sd ∧ G9.2 = G.2 ∧ ∀ q, q ≠ r → q ≠ r + 1 → (q < a ∨ a + 14 ≤ q) → G9.1 q = G.1 q) (Sum.inl (some (Value.int (rdWrong y n u)))) G2 := by
    intro u hu G2 s1 a1 a2 a3
    rw [hu]
    exact ⟨_, rfl, rfl, ⟨s1, a1⟩, a2, a3.1.trans hG2, fun q b1 b2 b3 => (a3.2 q b1 b3).trans (hGG q b1 b2)⟩
  refine w_aload_n dX0_readText_9 rfl ?_
  refine w_getf dX0_readText_10 fl_X0_12 (by first | assumption | exact gs_at | (rw [gs_ne (by omega)]; (first | assumption | exact gs_at | (rw [gs_ne (by omega)]; (first | assumption | exact gs_at | (rw [gs_ne (by omega)]; (first | assumption | exact gs_at | (rw [gs_ne (by omega)]; (first | assumption | exact gs_at))))))))) rfl ?_
  refine wV0u dX0_readText_13 lk_X0_22 rfl (by first | assumption | exact gs_at | (rw [gs_ne (by omega)]; (first | assumption | exact gs_at | (rw [gs_ne (by omega)]; (first | assumption | exact gs_at | (rw [gs_ne (by omega)]; (first | assumption | exact gs_at | (rw [gs_ne (by omega)]; (first | assumption | exact gs_at))))))))) rfl rfl (c_isEnd hR) (Nat.le_of_ble_eq_true rfl) (Nat.le_of_ble_eq_true rfl) (Nat.le_of_ble_eq_true rfl) (Nat.le_of_ble_eq_true rfl) ?_
  refine w_ifN_ne (tgt := 23) dX0_readText_16 (by decide) (fun c_16 => ?_) (fun c_16 => ?_)
  · try simp only [nI_b2, ne_eq, Decidable.not_not] at c_16
    refine w_iconst (v := nI 0) dX0_readText_23 (by decide) ?_
    refine w_istore_4 dX0_readText_24 rfl ?_
    refine w_iconst (v := nI 0) dX0_readText_26 (by decide) ?_
    refine w_istore_5 dX0_readText_27 rfl ?_
    first
      | (refine lp_rdGo hdr hra hr2 hda 15 0 ((skp y n 0, -1), T) _ _ rfl h12 rfl (fun G2 s1 a1 a2 a3 => hQ _ (by rw [rdText, if_neg c_16]) G2 s1 a1 a2 a3) hd hR hI Fr4.rf; done)
      | (refine w_iload dX0_readText_29 rfl ?_; refine w_ifN_eq (tgt := 98) dX0_readText_31 (by decide) (fun _ => ?_) (fun c9 => absurd rfl c9); exact lp_rd98 hdr hra hr2 hda (fun G2 s1 a1 a2 a3 => hQ _ (by rw [rdText, if_pos c_16]) G2 s1 a1 a2 a3) hd (u := ((skp y n 0, -1), T)) hR hI Fr4.rf)
  · try simp only [nI_b2, ne_eq, Decidable.not_not] at c_16
    refine w_iconst (v := nI 1) dX0_readText_19 (by decide) ?_
    refine w_goto (tgt := 24) dX0_readText_20 (by decide) ?_
    refine w_istore_4 dX0_readText_24 rfl ?_
    refine w_iconst (v := nI 0) dX0_readText_26 (by decide) ?_
    refine w_istore_5 dX0_readText_27 rfl ?_
    first
      | (refine lp_rdGo hdr hra hr2 hda 15 0 ((skp y n 0, -1), T) _ _ rfl h12 rfl (fun G2 s1 a1 a2 a3 => hQ _ (by rw [rdText, if_neg c_16]) G2 s1 a1 a2 a3) hd hR hI Fr4.rf; done)
      | (refine w_iload dX0_readText_29 rfl ?_; refine w_ifN_eq (tgt := 98) dX0_readText_31 (by decide) (fun _ => ?_) (fun c9 => absurd rfl c9); exact lp_rd98 hdr hra hr2 hda (fun G2 s1 a1 a2 a3 => hQ _ (by rw [rdText, if_pos c_16]) G2 s1 a1 a2 a3) hd (u := ((skp y n 0, -1), T)) hR hI Fr4.rf)
