/-! the order of rooms: by the least of all orders, and by the ratio -/
abbrev inD (D r : Nat) : Prop := D / 2 ^ r % 2 = 1
def cfN (T : ST) (s : Nat) : Nat := sumN 6 (fun r => if inD s r then lcN T r else 0)
def byV (T : ST) (L : Nat → Nat) (D r : Nat) : Nat := lkN T r * cfN T (D ||| 1 * 2 ^ r) + L (D ||| 1 * 2 ^ r)
def mnV (T : ST) (L : Nat → Nat) (D : Nat) : Nat → Nat
  | 0 => 2000000000
  | k + 1 => if inD D k then mnV T L D k else min (mnV T L D k) (byV T L D k)
def LsOK (T : ST) (L : Nat → Nat) (j : Nat) : Prop := L 63 = 0 ∧ ∀ D, j ≤ D → D < 63 → L D = mnV T L D 6
theorem or_F1 : ∀ D : Fin 64, ∀ r i : Fin 6, (inD (D.1 ||| 1 * 2 ^ r.1) i.1 ↔ (i.1 = r.1 ∨ inD D.1 i.1)) := by decide +kernel
theorem or_F2 : ∀ D : Fin 64, ∀ r : Fin 6, (D.1 ||| 1 * 2 ^ r.1) < 64 ∧ D.1 ≤ (D.1 ||| 1 * 2 ^ r.1) ∧ (¬ inD D.1 r.1 → D.1 < (D.1 ||| 1 * 2 ^ r.1)) := by decide +kernel
theorem or_F3 : ∀ D : Fin 64, (∀ r : Fin 6, inD D.1 r.1) → D.1 = 63 := by decide +kernel
theorem or_F4 : ∀ r : Fin 6, inD 63 r.1 := by decide +kernel
theorem or_F5 : ∀ D : Fin 64, ∀ r s : Fin 6, (D.1 ||| 1 * 2 ^ r.1) ||| 1 * 2 ^ s.1 = (D.1 ||| 1 * 2 ^ s.1) ||| 1 * 2 ^ r.1 := by decide +kernel
theorem or_in {D r i : Nat} (hD : D < 64) (hr : r < 6) (hi : i < 6) : inD (D ||| 1 * 2 ^ r) i ↔ (i = r ∨ inD D i) := or_F1 ⟨D, hD⟩ ⟨r, hr⟩ ⟨i, hi⟩
theorem or_lt {D r : Nat} (hD : D < 64) (hr : r < 6) : (D ||| 1 * 2 ^ r) < 64 := (or_F2 ⟨D, hD⟩ ⟨r, hr⟩).1
theorem or_gt {D r : Nat} (hD : D < 64) (hr : r < 6) (h : ¬ inD D r) : D < (D ||| 1 * 2 ^ r) := (or_F2 ⟨D, hD⟩ ⟨r, hr⟩).2.2 h
theorem or_cm {D r s : Nat} (hD : D < 64) (hr : r < 6) (hs : s < 6) : (D ||| 1 * 2 ^ r) ||| 1 * 2 ^ s = (D ||| 1 * 2 ^ s) ||| 1 * 2 ^ r := or_F5 ⟨D, hD⟩ ⟨r, hr⟩ ⟨s, hs⟩
theorem in_63 {r : Nat} (hr : r < 6) : inD 63 r := or_F4 ⟨r, hr⟩
theorem ne_63 {D : Nat} (hD : D < 63) : ∃ r, r < 6 ∧ ¬ inD D r := by
  refine Classical.byContradiction fun h => ?_
  have h2 := or_F3 ⟨D, by omega⟩ (fun r => Classical.byContradiction fun h9 => h ⟨r.1, r.2, h9⟩)
  have h2 : D = 63 := h2
  omega
theorem sumN_one {f g : Nat → Nat} {r c : Nat} (hr : g r = f r + c) (he : ∀ i, i ≠ r → g i = f i) : ∀ n, sumN n g = sumN n f + (if r < n then c else 0)
  | 0 => rfl
  | n + 1 => by
    show sumN n g + g n = sumN n f + f n + _
    rw [sumN_one hr he n]
    by_cases h : n = r
    · subst h
      rw [hr, if_neg (Nat.lt_irrefl n), if_pos (Nat.lt_succ_self n)]; omega
    · rw [he n h]
      by_cases h2 : r < n
      · rw [if_pos h2, if_pos (by omega)]; omega
      · rw [if_neg h2, if_neg (by omega)]; omega
theorem cf_or {T : ST} {D r : Nat} (hD : D < 64) (hr : r < 6) (h : ¬ inD D r) : cfN T (D ||| 1 * 2 ^ r) = cfN T D + lcN T r := by
  unfold cfN
  have key : ∀ m, m ≤ 6 → sumN m (fun i => if inD (D ||| 1 * 2 ^ r) i then lcN T i else 0) = sumN m (fun i => if inD D i then lcN T i else 0) + (if r < m then lcN T r else 0) := by
    intro m
    induction m with
    | zero => intro _; rfl
    | succ m ih =>
      intro hm
      show sumN m _ + (if inD (D ||| 1 * 2 ^ r) m then lcN T m else 0) = sumN m _ + (if inD D m then lcN T m else 0) + _
      rw [ih (by omega)]
      have e := or_in hD hr (show m < 6 by omega)
      by_cases hmr : m = r
      · subst hmr
        rw [if_pos (e.mpr (Or.inl rfl)), if_neg h, if_neg (Nat.lt_irrefl m), if_pos (Nat.lt_succ_self m)]
      · have e2 : inD (D ||| 1 * 2 ^ r) m ↔ inD D m := ⟨fun h9 => (e.mp h9).resolve_left hmr, fun h9 => e.mpr (Or.inr h9)⟩
        by_cases hd : inD D m
        · rw [if_pos (e2.mpr hd), if_pos hd]
          by_cases h2 : r < m
          · rw [if_pos h2, if_pos (by omega)]; omega
          · rw [if_neg h2, if_neg (by omega)]; omega
        · rw [if_neg (fun h9 => hd (e2.mp h9)), if_neg hd]
          by_cases h2 : r < m
          · rw [if_pos h2, if_pos (by omega)]; omega
          · rw [if_neg h2, if_neg (by omega)]
  rw [key 6 (Nat.le_refl 6), if_pos hr]
theorem cf_le {T : ST} (hB : Bd T) (s : Nat) : cfN T s ≤ 600 := by
  unfold cfN
  have := sumN_le (f := fun r => if inD s r then lcN T r else 0) (c := 100) (fun i => by
    show (if inD s i then lcN T i else 0) ≤ 100
    have := lc_le hB i
    split <;> omega) 6
  omega
theorem mn_le (T : ST) (L : Nat → Nat) (D : Nat) : ∀ k, mnV T L D k ≤ 2000000000 ∧ ∀ r, r < k → ¬ inD D r → mnV T L D k ≤ byV T L D r
  | 0 => ⟨Nat.le_refl _, fun r h => absurd h (Nat.not_lt_zero r)⟩
  | k + 1 => by
    obtain ⟨h1, h2⟩ := mn_le T L D k
    rw [mnV]
    by_cases h : inD D k
    · rw [if_pos h]
      refine ⟨h1, fun r hr hd => h2 r ?_ hd⟩
      rcases Nat.lt_succ_iff_lt_or_eq.mp hr with h9 | h9
      · exact h9
      · subst h9; exact absurd h hd
    · rw [if_neg h]
      refine ⟨by omega, fun r hr hd => ?_⟩
      rcases Nat.lt_succ_iff_lt_or_eq.mp hr with h9 | h9
      · have := h2 r h9 hd; omega
      · subst h9; omega
theorem mn_at (T : ST) (L : Nat → Nat) (D : Nat) {c : Nat} (hc : c ≤ 2000000000) (h : ∀ r, r < 6 → ¬ inD D r → c ≤ byV T L D r) : ∀ k, k ≤ 6 → c ≤ mnV T L D k
  | 0, _ => hc
  | k + 1, hk => by
    have h1 := mn_at T L D hc h k (by omega)
    rw [mnV]
    by_cases h9 : inD D k
    · rw [if_pos h9]; exact h1
    · rw [if_neg h9]
      have := h k (by omega) h9
      omega
theorem mn_cg {T : ST} {L L2 : Nat → Nat} {D : Nat} (hD : D < 64) (h : ∀ i, D < i → L2 i = L i) : ∀ k, k ≤ 6 → mnV T L2 D k = mnV T L D k
  | 0, _ => rfl
  | k + 1, hk => by
    rw [mnV, mnV, mn_cg hD h k (by omega)]
    by_cases h9 : inD D k
    · rw [if_pos h9, if_pos h9]
    · rw [if_neg h9, if_neg h9]
      unfold byV
      rw [h _ (or_gt hD (by omega) h9)]
theorem ls_le {T : ST} (hB : Bd T) {L : Nat → Nat} {j : Nat} (hL : LsOK T L j) : ∀ (k D : Nat), 63 - D < k → j ≤ D → D < 64 → L D ≤ 7800 * (63 - D)
  | 0, _, h, _, _ => absurd h (Nat.not_lt_zero _)
  | k + 1, D, hk, hj, hD => by
    by_cases h63 : D = 63
    · subst h63; rw [hL.1]; exact Nat.zero_le _
    · obtain ⟨r, hr, hd⟩ := ne_63 (show D < 63 by omega)
      have h1 := (mn_le T L D 6).2 r hr hd
      rw [hL.2 D hj (by omega)]
      have h2 := or_gt hD hr hd
      have h3 := or_lt hD hr
      have h4 := ls_le hB hL k (D ||| 1 * 2 ^ r) (by omega) (by omega) h3
      have h5 := Nat.mul_le_mul (lk_le T r) (cf_le hB (D ||| 1 * 2 ^ r))
      unfold byV at h1
      omega
theorem by_le {T : ST} (hB : Bd T) {L : Nat → Nat} {D r : Nat} (hL : LsOK T L (D + 1)) (hD : D < 64) (hr : r < 6) (hd : ¬ inD D r) : byV T L D r ≤ 500000 := by
  have h2 := or_gt hD hr hd
  have h3 := or_lt hD hr
  have h4 := ls_le hB hL 64 (D ||| 1 * 2 ^ r) (by omega) (by omega) h3
  have h5 := Nat.mul_le_mul (lk_le T r) (cf_le hB (D ||| 1 * 2 ^ r))
  unfold byV
  omega
theorem LsOK.up {T : ST} {L : Nat → Nat} {i j : Nat} (h : LsOK T L i) (k : i ≤ j) : LsOK T L j := ⟨h.1, fun D h1 h2 => h.2 D (by omega) h2⟩
/-- of two rooms the one that is gone to ahead: its cost for each part of likelihood is less, or the same and its number less -/
def prc (T : ST) (r s : Nat) : Prop := lcN T r * lkN T s < lcN T s * lkN T r ∨ (lcN T r * lkN T s = lcN T s * lkN T r ∧ r < s)
theorem prc_le {T : ST} {r s : Nat} (h : prc T r s) : lcN T r * lkN T s ≤ lcN T s * lkN T r := by
  rcases h with h | h
  · exact Nat.le_of_lt h
  · exact Nat.le_of_eq h.1
theorem ex_le {a b lr ls cr cs c l : Nat} (ha : a = lr * (c + cr) + (ls * (c + cr + cs) + l)) (hb : b ≤ ls * (c + cs) + (lr * (c + cs + cr) + l)) (h : cs * lr ≤ cr * ls) : b + (cr * ls - cs * lr) ≤ a := by
  have e1 : lr * (c + cr) + ls * (c + cr + cs) = (lr * c + ls * c + lr * cr + ls * cs) + cr * ls := by
    simp only [Nat.mul_add]; rw [Nat.mul_comm cr ls]; omega
  have e2 : ls * (c + cs) + lr * (c + cs + cr) = (lr * c + ls * c + lr * cr + ls * cs) + cs * lr := by
    simp only [Nat.mul_add]; rw [Nat.mul_comm cs lr]; omega
  omega
/-- the first one by the ratio is the least of all -/
theorem ls_min {T : ST} (hB : Bd T) {L : Nat → Nat} (hL : LsOK T L 0) : ∀ (k D r : Nat), 63 - D < k → D < 64 → r < 6 → ¬ inD D r → (∀ s, s < 6 → ¬ inD D s → s = r ∨ prc T r s) → L D = byV T L D r ∧ ∀ s, s < 6 → ¬ inD D s → s ≠ r → byV T L D r + (lcN T s * lkN T r - lcN T r * lkN T s) ≤ byV T L D s
  | 0, _, _, h, _, _, _, _ => absurd h (Nat.not_lt_zero _)
  | k + 1, D, r, hk, hD, hr, hd, hm => by
    have hother : ∀ s, s < 6 → ¬ inD D s → s ≠ r → byV T L D r + (lcN T s * lkN T r - lcN T r * lkN T s) ≤ byV T L D s := by
      intro s hs hds hsr
      have hp := (hm s hs hds).resolve_left hsr
      have g1 := or_gt hD hs hds
      have g2 := or_lt hD hs
      have g3 := or_gt hD hr hd
      have g4 := or_lt hD hr
      have n1 : ¬ inD (D ||| 1 * 2 ^ s) r := fun h9 => ((or_in hD hs hr).mp h9).elim (fun h => hsr h.symm) hd
      have n2 : ¬ inD (D ||| 1 * 2 ^ r) s := fun h9 => ((or_in hD hr hs).mp h9).elim hsr hds
      obtain ⟨i1, -⟩ := ls_min hB hL k (D ||| 1 * 2 ^ s) r (by omega) g2 hr n1 (fun q hq hdq => hm q hq (fun h9 => hdq ((or_in hD hs hq).mpr (Or.inr h9))))
      have i2 := (mn_le T L (D ||| 1 * 2 ^ r) 6).2 s hs n2
      have h63 : (D ||| 1 * 2 ^ r) < 63 := by
        rcases Nat.lt_or_ge (D ||| 1 * 2 ^ r) 63 with h | h
        · exact h
        · have e : (D ||| 1 * 2 ^ r) = 63 := by omega
          rw [e] at n2; exact absurd (in_63 hs) n2
      rw [← hL.2 _ (Nat.zero_le _) h63] at i2
      have c1 := cf_or (T := T) hD hr hd
      have c2 := cf_or (T := T) hD hs hds
      have c3 := cf_or (T := T) g2 hr n1
      have c4 := cf_or (T := T) g4 hs n2
      have cm := or_cm hD hs hr
      refine ex_le (lr := lkN T s) (ls := lkN T r) (cr := lcN T s) (cs := lcN T r) (c := cfN T D) (l := L (D ||| 1 * 2 ^ s ||| 1 * 2 ^ r)) ?_ ?_ (prc_le hp)
      · show lkN T s * cfN T (D ||| 1 * 2 ^ s) + L (D ||| 1 * 2 ^ s) = _
        rw [i1, byV, c3, c2]
      · show lkN T r * cfN T (D ||| 1 * 2 ^ r) + L (D ||| 1 * 2 ^ r) ≤ _
        rw [byV, c4, c1, ← cm] at i2
        rw [c1]
        omega
    refine ⟨?_, hother⟩
    have h63 : D < 63 := by
      rcases Nat.lt_or_ge D 63 with h | h
      · exact h
      · have e : D = 63 := by omega
        rw [e] at hd; exact absurd (in_63 hr) hd
    have h1 := (mn_le T L D 6).2 r hr hd
    have h2 := mn_at T L D (c := byV T L D r) (by have := by_le hB (hL.up (Nat.zero_le _)) hD hr hd; omega) (fun s hs hds => by
      by_cases hsr : s = r
      · subst hsr; exact Nat.le_refl _
      · have := hother s hs hds hsr; omega) 6 (Nat.le_refl 6)
    rw [hL.2 D (Nat.zero_le _) h63]
    omega
theorem rat_tr {T : ST} {a b c : Nat} (h1 : lcN T a * lkN T b ≤ lcN T b * lkN T a) (h2 : lcN T b * lkN T c ≤ lcN T c * lkN T b) : lcN T a * lkN T c ≤ lcN T c * lkN T a := by
  have hb : 0 < lkN T b := by unfold lkN; omega
  have e1 := Nat.mul_le_mul_right (lkN T c) h1
  have e2 := Nat.mul_le_mul_right (lkN T a) h2
  refine Nat.le_of_mul_le_mul_right (c := lkN T b) ?_ hb
  have f1 : lcN T a * lkN T b * lkN T c = lcN T a * lkN T c * lkN T b := by rw [Nat.mul_assoc, Nat.mul_comm (lkN T b), ← Nat.mul_assoc]
  have f2 : lcN T b * lkN T a * lkN T c = lcN T b * lkN T c * lkN T a := by rw [Nat.mul_assoc, Nat.mul_comm (lkN T a), ← Nat.mul_assoc]
  have f3 : lcN T c * lkN T b * lkN T a = lcN T c * lkN T a * lkN T b := by rw [Nat.mul_assoc, Nat.mul_comm (lkN T b), ← Nat.mul_assoc]
  omega
/-- m rooms stand in their order -/
def OrdOK (T : ST) (o : Nat → Nat) (m : Nat) : Prop := (∀ i, i < m → o i < m) ∧ (∀ i j, i < j → j < m → prc T (o i) (o j)) ∧ ∀ r, r < m → ∃ i, i < m ∧ o i = r
/-- where the m-th is put: q -/
theorem insO_sp {T : ST} {m : Nat} : ∀ (p : Nat) (o : Nat → Nat), p ≤ m → ∃ q, q ≤ p ∧ (∀ i, i < q → insO T m p o i = o i) ∧ insO T m p o q = m ∧ (∀ i, q ≤ i → i < p → insO T m p o (i + 1) = o i) ∧ (∀ i, p < i → insO T m p o i = o i) ∧ (∀ i, q ≤ i → i < p → gaP T m (o i)) ∧ ∀ j, q = j + 1 → ¬ gaP T m (o j)
  | 0, o, _ => ⟨0, Nat.le_refl _, fun i h => absurd h (Nat.not_lt_zero i), (by show updF o 0 m 0 = m; exact if_pos rfl), fun i _ h => absurd h (Nat.not_lt_zero i), fun i h => (by show updF o 0 m i = o i; exact if_neg (by omega)), fun i _ h => absurd h (Nat.not_lt_zero i), fun j h => absurd h (by omega)⟩
  | p + 1, o, hp => by
    rw [insO]
    by_cases h : gaP T m (o p)
    · rw [if_pos h]
      obtain ⟨q, h1, h2, h3, h4, h5, h6, h7⟩ := insO_sp (T := T) (m := m) p (updF o (p + 1) (o p)) (by omega)
      have eu : ∀ i, i ≠ p + 1 → updF o (p + 1) (o p) i = o i := fun i hi => if_neg hi
      refine ⟨q, by omega, fun i hi => (h2 i hi).trans (eu i (by omega)), h3, fun i hi hip => ?_, fun i hi => (h5 i (by omega)).trans (eu i (by omega)), fun i hi hip => ?_, fun j hj => ?_⟩
      · by_cases hip2 : i = p
        · subst hip2; rw [h5 (i + 1) (by omega)]; exact if_pos rfl
        · rw [h4 i hi (by omega), eu i (by omega)]
      · by_cases hip2 : i = p
        · subst hip2; exact h
        · have := h6 i hi (by omega); rw [eu i (by omega)] at this; exact this
      · have := h7 j hj; rw [eu j (by omega)] at this; exact this
    · rw [if_neg h]
      exact ⟨p + 1, Nat.le_refl _, fun i hi => if_neg (by omega), if_pos rfl, fun i hi hip => absurd hip (by omega), fun i hi => if_neg (by omega), fun i hi hip => absurd hip (by omega), fun j hj => by rw [show j = p by omega]; exact h⟩
theorem OrdOK.step {T : ST} {o : Nat → Nat} {m : Nat} (h : OrdOK T o m) : OrdOK T (insO T m m o) (m + 1) := by
  obtain ⟨a1, a2, a3⟩ := h
  obtain ⟨q, h1, h2, h3, h4, h5, h6, h7⟩ := insO_sp (T := T) m o (Nat.le_refl m)
  have hlo : ∀ i, i < q → prc T (o i) m := by
    intro i hi
    obtain ⟨j, rfl⟩ : ∃ j, q = j + 1 := ⟨q - 1, by omega⟩
    have g := h7 j rfl
    have hle : lcN T (o j) * lkN T m ≤ lcN T m * lkN T (o j) := Nat.not_lt.mp g
    have hle2 : lcN T (o i) * lkN T m ≤ lcN T m * lkN T (o i) := by
      by_cases hij : i = j
      · rw [hij]; exact hle
      · exact rat_tr (prc_le (a2 i j (by omega) (by omega))) hle
    have := a1 i (by omega)
    rcases Nat.lt_or_ge (lcN T (o i) * lkN T m) (lcN T m * lkN T (o i)) with h9 | h9
    · exact Or.inl h9
    · exact Or.inr ⟨by omega, by omega⟩
  have hhi : ∀ i, q ≤ i → i < m → prc T m (o i) := fun i hi him => Or.inl (h6 i hi him)
  refine ⟨fun i hi => ?_, fun i j hij hj => ?_, fun r hr => ?_⟩
  · rcases Nat.lt_trichotomy i q with h | h | h
    · rw [h2 i h]; have := a1 i (by omega); omega
    · rw [h, h3]; omega
    · obtain ⟨k, rfl⟩ : ∃ k, i = k + 1 := ⟨i - 1, by omega⟩
      rw [h4 k (by omega) (by omega)]; have := a1 k (by omega); omega
  · rcases Nat.lt_trichotomy j q with h | h | h
    · rw [h2 j h, h2 i (by omega)]; exact a2 i j hij (by omega)
    · rw [h, h3, h2 i (by omega)]; exact hlo i (by omega)
    · obtain ⟨k, rfl⟩ : ∃ k, j = k + 1 := ⟨j - 1, by omega⟩
      rw [h4 k (by omega) (by omega)]
      rcases Nat.lt_trichotomy i q with h8 | h8 | h8
      · rw [h2 i h8]; exact a2 i k (by omega) (by omega)
      · rw [h8, h3]; exact hhi k (by omega) (by omega)
      · obtain ⟨l, rfl⟩ : ∃ l, i = l + 1 := ⟨i - 1, by omega⟩
        rw [h4 l (by omega) (by omega)]; exact a2 l k (by omega) (by omega)
  · by_cases hrm : r = m
    · exact ⟨q, by omega, by rw [h3, hrm]⟩
    · obtain ⟨i, hi, e⟩ := a3 r (by omega)
      by_cases hiq : i < q
      · exact ⟨i, by omega, by rw [h2 i hiq, e]⟩
      · exact ⟨i + 1, by omega, by rw [h4 i (by omega) hi, e]⟩
theorem ord_ok (T : ST) (o0 : Nat → Nat) : ∀ m, OrdOK T (ordO T o0 m) m
  | 0 => ⟨fun i h => absurd h (Nat.not_lt_zero i), fun i j _ h => absurd h (Nat.not_lt_zero j), fun r h => absurd h (Nat.not_lt_zero r)⟩
  | m + 1 => (ord_ok T o0 m).step
def doS (o : Nat → Nat) : Nat → Nat | 0 => 0 | i + 1 => doS o i ||| 1 * 2 ^ o i
theorem prc_ne {T : ST} {r s : Nat} (h : prc T r s) : r ≠ s := fun e => by
  subst e
  rcases h with h | h
  · exact absurd h (Nat.lt_irrefl _)
  · exact absurd h.2 (Nat.lt_irrefl _)
section DOS
variable {T : ST} {o : Nat → Nat}
theorem doS_in (hO : OrdOK T o 6) : ∀ i, i ≤ 6 → doS o i < 64 ∧ ∀ r, r < 6 → (inD (doS o i) r ↔ ∃ j, j < i ∧ o j = r)
  | 0, _ => ⟨by show (0 : Nat) < 64; decide, fun r hr => ⟨fun h => by unfold inD doS at h; rw [Nat.zero_div] at h; exact absurd h (by decide), fun ⟨j, h, _⟩ => absurd h (Nat.not_lt_zero j)⟩⟩
  | i + 1, hi => by
    obtain ⟨h1, h2⟩ := doS_in hO i (by omega)
    have ho := hO.1 i (by omega)
    refine ⟨or_lt h1 ho, fun r hr => ?_⟩
    show inD (doS o i ||| 1 * 2 ^ o i) r ↔ _
    rw [or_in h1 ho hr, h2 r hr]
    constructor
    · rintro (h | ⟨j, h, e⟩)
      · exact ⟨i, by omega, h.symm⟩
      · exact ⟨j, by omega, e⟩
    · rintro ⟨j, h, e⟩
      rcases Nat.lt_succ_iff_lt_or_eq.mp h with h9 | h9
      · exact Or.inr ⟨j, h9, e⟩
      · subst h9; exact Or.inl e.symm
theorem doS_no (hO : OrdOK T o 6) {i : Nat} (hi : i < 6) : ¬ inD (doS o i) (o i) := fun h => by
  obtain ⟨j, hj, e⟩ := ((doS_in hO i (by omega)).2 (o i) (hO.1 i hi)).mp h
  exact prc_ne (hO.2.1 j i hj hi) e
theorem doS_min (hO : OrdOK T o 6) {i : Nat} (hi : i < 6) : ∀ s, s < 6 → ¬ inD (doS o i) s → s = o i ∨ prc T (o i) s := by
  intro s hs hd
  obtain ⟨j, hj, e⟩ := hO.2.2 s hs
  have hji : ¬ j < i := fun h => hd (((doS_in hO i (by omega)).2 s hs).mpr ⟨j, h, e⟩)
  by_cases hij : i = j
  · subst hij; exact Or.inl e.symm
  · exact Or.inr (by rw [← e]; exact hO.2.1 i j (by omega) hj)
theorem doS_6 (hO : OrdOK T o 6) : doS o 6 = 63 := by
  obtain ⟨h1, h2⟩ := doS_in hO 6 (Nat.le_refl 6)
  exact or_F3 ⟨doS o 6, h1⟩ (fun r => (h2 r.1 r.2).mpr (hO.2.2 r.1 r.2))
theorem doS_cost (hB : Bd T) (hO : OrdOK T o 6) {L : Nat → Nat} (hL : LsOK T L 0) : ∀ i, i ≤ 6 → cfN T (doS o i) = (cosN T o i).1 ∧ L 0 = (cosN T o i).2 + L (doS o i)
  | 0, _ => ⟨by show cfN T 0 = 0; unfold cfN sumN inD; simp [sumN], by show L 0 = 0 + L 0; omega⟩
  | i + 1, hi => by
    obtain ⟨h1, h2⟩ := doS_cost hB hO hL i (by omega)
    have hd := (doS_in hO i (by omega)).1
    have ho := hO.1 i (by omega)
    have hn := doS_no hO (show i < 6 by omega)
    have e1 : cfN T (doS o (i + 1)) = cfN T (doS o i) + lcN T (o i) := cf_or hd ho hn
    obtain ⟨e2, -⟩ := ls_min hB hL 64 (doS o i) (o i) (by omega) hd ho hn (doS_min hO (by omega))
    have e3 : L (doS o i) = lkN T (o i) * cfN T (doS o (i + 1)) + L (doS o (i + 1)) := e2
    refine ⟨by rw [e1, h1]; rfl, ?_⟩
    show L 0 = (cosN T o i).2 + lkN T (o i) * ((cosN T o i).1 + lcN T (o i)) + L (doS o (i + 1))
    rw [← h1, ← e1]; omega
theorem costs_eq (hB : Bd T) (hO : OrdOK T o 6) {L : Nat → Nat} (hL : LsOK T L 0) : L 0 = (cosN T o 6).2 := by
  obtain ⟨-, h⟩ := doS_cost hB hO hL 6 (Nat.le_refl 6)
  rw [doS_6 hO, hL.1] at h; omega
theorem search_at (hB : Bd T) (hO : OrdOK T o 6) {L : Nat → Nat} (hL : LsOK T L 0) {i : Nat} (hi : i < 6) : byV T L (doS o i) (o i) = L (doS o i) ∧ ∀ r, r < o i → ¬ inD (doS o i) r → byV T L (doS o i) r ≠ L (doS o i) := by
  have ho := hO.1 i hi
  obtain ⟨e1, e2⟩ := ls_min hB hL 64 (doS o i) (o i) (by omega) (doS_in hO i (by omega)).1 ho (doS_no hO hi) (doS_min hO hi)
  refine ⟨e1.symm, fun r hr hd => ?_⟩
  have h1 := e2 r (by omega) hd (by omega)
  have h2 := (doS_min hO hi r (by omega) hd).resolve_left (by omega)
  rcases h2 with h2 | h2
  · rw [e1]; omega
  · exact absurd h2.2 (by omega)
end DOS
