/-! traces: bits and ways -/
theorem bit63 {t b : Nat} : (t &&& 63).testBit b = (t.testBit b && decide (b < 6)) := by
  rw [Nat.testBit_and, show (63 : Nat) = 2 ^ 6 - 1 from rfl, Nat.testBit_two_pow_sub_one]
theorem rms_hi {w b : Nat} (hw : w < 36) (hb : 6 ≤ b) : (rmsN w).testBit b = false := Nat.testBit_lt_two_pow (Nat.lt_of_lt_of_le (rms_lt ⟨w, hw⟩) (Nat.pow_le_pow_right (n := 2) (by decide) hb))
theorem ft_bits {w t : Nat} (hw : w < 36) : ftP w t ↔ ∀ b, b < 6 → (t.testBit b = true → (rmsN w).testBit b = true) ∧ (t.testBit (b + 6) = true → ¬ (rmsN w).testBit b = true) := by
  constructor
  · intro ⟨h1, h2⟩ b hb
    constructor
    · intro h3
      have h4 : (rmsN w &&& (t &&& 63)).testBit b = (t &&& 63).testBit b := by rw [h1]
      rw [Nat.testBit_and, bit63, h3] at h4
      simp [hb] at h4
      exact h4
    · intro h3 h5
      have h4 : (rmsN w &&& (t / 2 ^ 6 &&& 63)).testBit b = false := by rw [h2]; exact Nat.zero_testBit b
      rw [Nat.testBit_and, bit63, Nat.testBit_div_two_pow, h3, h5] at h4
      simp [hb] at h4
  · intro h
    constructor
    · apply Nat.eq_of_testBit_eq
      intro b
      rw [Nat.testBit_and, bit63]
      by_cases hb : b < 6
      · cases h3 : t.testBit b
        · simp
        · simp [hb, (h b hb).1 h3]
      · simp [hb]
    · apply Nat.eq_of_testBit_eq
      intro b
      rw [Nat.testBit_and, bit63, Nat.testBit_div_two_pow, Nat.zero_testBit]
      by_cases hb : b < 6
      · cases h3 : t.testBit (b + 6)
        · simp
        · have h4 := (h b hb).2 h3
          simp [h4]
      · simp [hb]
abbrev paP (w r : Nat) : Prop := (r + 6 - w / 6) % 6 ≤ (w % 6 + 6 - w / 6) % 6
theorem pa_dec : ∀ w : Fin 36, ∀ r : Fin 6, decide ((r.1 + 6 - w.1 / 6) % 6 ≤ (w.1 % 6 + 6 - w.1 / 6) % 6) = (rmsN w.1).testBit r.1 := by decide +kernel
theorem pa_bit {w r : Nat} (hw : w < 36) (hr : r < 6) : paP w r ↔ (rmsN w).testBit r = true := by
  have h := pa_dec ⟨w, hw⟩ ⟨r, hr⟩
  unfold paP
  simp only at h
  rw [← h, decide_eq_true_eq]
theorem ft_step {y : Nat → Nat} {w m : Nat} (hw : w < 36) (hy : y (2 * m) < 6) : ftP w (trT y (m + 1)) ↔ ftP w (trT y m) ∧ (paP w (y (2 * m)) ↔ y (2 * m + 1) = 1) := by
  rw [ft_bits hw, ft_bits hw, pa_bit hw hy, trT, Nat.one_mul]
  have hb : ∀ c b, (trT y m ||| 2 ^ c).testBit b = ((trT y m).testBit b || decide (c = b)) := fun c b => by rw [Nat.testBit_or, Nat.testBit_two_pow]
  by_cases h1 : y (2 * m + 1) = 1
  · rw [if_pos h1]
    constructor
    · intro h
      refine ⟨fun b hb6 => ⟨fun h2 => (h b hb6).1 (by rw [hb, h2]; rfl), fun h2 => (h b hb6).2 (by rw [hb, h2]; rfl)⟩, fun _ => h1, fun _ => ?_⟩
      exact (h _ hy).1 (by rw [hb]; simp)
    · intro ⟨h, h2⟩ b hb6
      refine ⟨fun h3 => ?_, fun h3 => ?_⟩
      · rw [hb] at h3
        by_cases e : y (2 * m) = b
        · subst e; exact h2.mpr h1
        · simp [e] at h3; exact (h b hb6).1 h3
      · rw [hb] at h3
        have e : ¬ y (2 * m) = b + 6 := by omega
        simp [e] at h3; exact (h b hb6).2 h3
  · rw [if_neg h1]
    constructor
    · intro h
      refine ⟨fun b hb6 => ⟨fun h2 => (h b hb6).1 (by rw [hb, h2]; rfl), fun h2 => (h b hb6).2 (by rw [hb, h2]; rfl)⟩, fun h3 => absurd h3 ?_, fun h3 => absurd h3 h1⟩
      exact (h _ hy).2 (by rw [hb]; simp)
    · intro ⟨h, h2⟩ b hb6
      refine ⟨fun h3 => ?_, fun h3 => ?_⟩
      · rw [hb] at h3
        have e : ¬ y (2 * m) + 6 = b := by omega
        simp [e] at h3; exact (h b hb6).1 h3
      · rw [hb] at h3
        by_cases e : y (2 * m) = b
        · subst e; exact fun h4 => h1 (h2.mp h4)
        · simp [e] at h3; exact (h b hb6).2 h3
theorem ft_mono {y : Nat → Nat} {w m : Nat} (hw : w < 36) : ∀ j, (∀ i, i < m + j → y (2 * i) < 6) → ftP w (trT y (m + j)) → ftP w (trT y m)
  | 0, _, h => h
  | j + 1, hy, h => ft_mono hw j (fun i hi => hy i (by omega)) ((ft_step hw (hy (m + j) (by omega))).mp h).1
theorem bit_one {s r : Nat} : (s &&& 1 * 2 ^ r = 1 * 2 ^ r) ↔ s.testBit r = true := by
  rw [Nat.one_mul]
  constructor
  · intro h
    have h2 : (s &&& 2 ^ r).testBit r = (2 ^ r).testBit r := by rw [h]
    rw [Nat.testBit_and, Nat.testBit_two_pow] at h2
    simpa using h2
  · intro h
    apply Nat.eq_of_testBit_eq
    intro i
    rw [Nat.testBit_and, Nat.testBit_two_pow]
    by_cases e : r = i
    · subst e; simp [h]
    · simp [e]
theorem wy_all {t r : Nat} : ∀ W, W ≤ 36 → (wyN t (1 * 2 ^ r) W = wyN t 0 W ↔ ∀ w, w < W → ftP w t → (rmsN w).testBit r = true)
  | 0, _ => ⟨fun _ w h => absurd h (Nat.not_lt_zero w), fun _ => rfl⟩
  | W + 1, hW => by
    have ih := wy_all (t := t) (r := r) W (by omega)
    have hle := wyN_le t (1 * 2 ^ r) W
    rw [wyN, wyN]
    by_cases hf : ftP W t
    · rw [if_pos (show ftP W t ∧ rmsN W &&& 0 = 0 from ⟨hf, Nat.and_zero _⟩)]
      by_cases hb : (rmsN W).testBit r = true
      · rw [if_pos ⟨hf, bit_one.mpr hb⟩]
        constructor
        · intro h w hw hfw
          by_cases e : w = W
          · subst e; exact hb
          · exact (ih.mp (by omega)) w (by omega) hfw
        · intro h
          have := ih.mpr (fun w hw => h w (by omega))
          omega
      · rw [if_neg (fun h => hb (bit_one.mp h.2))]
        constructor
        · intro h; omega
        · intro h; exact absurd (h W (by omega) hf) hb
    · rw [if_neg (fun h => hf h.1), if_neg (fun h => hf h.1)]
      constructor
      · intro h w hw hfw
        by_cases e : w = W
        · subst e; exact absurd hfw hf
        · exact (ih.mp (by omega)) w (by omega) hfw
      · intro h
        have := ih.mpr (fun w hw => h w (by omega))
        omega
theorem ts_bit {t : Nat} : ∀ W r, W ≤ 36 → ((tsN t W).testBit r = true ↔ r < 6 ∧ ∀ w, w < W → ftP w t → (rmsN w).testBit r = true)
  | 0, r, _ => by
    rw [tsN, show (63 : Nat) = 2 ^ 6 - 1 from rfl, Nat.testBit_two_pow_sub_one, decide_eq_true_eq]
    exact ⟨fun h => ⟨h, fun w h2 => absurd h2 (Nat.not_lt_zero w)⟩, fun h => h.1⟩
  | W + 1, r, hW => by
    have ih := ts_bit (t := t) W r (by omega)
    rw [tsN]
    by_cases hf : ftP W t
    · rw [if_pos hf, Nat.testBit_and, Bool.and_eq_true, ih]
      constructor
      · intro ⟨⟨h1, h2⟩, h3⟩
        refine ⟨h1, fun w hw hfw => ?_⟩
        by_cases e : w = W
        · subst e; exact h3
        · exact h2 w (by omega) hfw
      · intro ⟨h1, h2⟩
        exact ⟨⟨h1, fun w hw => h2 w (by omega)⟩, h2 W (by omega) hf⟩
    · rw [if_neg hf, ih]
      constructor
      · intro ⟨h1, h2⟩
        refine ⟨h1, fun w hw hfw => ?_⟩
        by_cases e : w = W
        · subst e; exact absurd hfw hf
        · exact h2 w (by omega) hfw
      · intro ⟨h1, h2⟩
        exact ⟨h1, fun w hw => h2 w (by omega)⟩
/-- the model's set is the class's -/
theorem ts_eq {t : Nat} (h0 : ¬ wyN t 0 36 = 0) : bitN (fun r => 0 < wyN t 0 36 ∧ wyN t (1 * 2 ^ r) 36 = wyN t 0 36) 6 = tsN t 36 := by
  apply Nat.eq_of_testBit_eq
  intro r
  rw [bitN_bit]
  have h1 := ts_bit (t := t) 36 r (Nat.le_refl _)
  have h2 := wy_all (t := t) (r := r) 36 (Nat.le_refl _)
  by_cases hh : (tsN t 36).testBit r = true
  · rw [hh]
    have h3 := h1.mp hh
    simp only [decide_eq_true_eq]
    exact ⟨h3.1, by omega, h2.mpr h3.2⟩
  · have hf : (tsN t 36).testBit r = false := by simpa using hh
    rw [hf, decide_eq_false_iff_not]
    intro h3
    exact hh (h1.mpr ⟨h3.1, h2.mp h3.2.2⟩)
