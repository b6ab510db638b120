/-! the model: first -/
theorem bit_z {s i : Nat} (h : s % 2 ^ i = 0) (h2 : ¬ s / 2 ^ i % 2 = 1) : s % 2 ^ (i + 1) = 0 := by
  rw [Nat.mod_pow_succ, h, show s / 2 ^ i % 2 = 0 by omega]; rfl
theorem low_some {s : Nat} (h0 : s ≠ 0) (hs : s < 4096) : ∀ k i, i + k = 12 → s % 2 ^ i = 0 → ∃ j, j < 12 ∧ seekV (fun i => s / 2 ^ i % 2 = 1) nI k i = nI j
  | 0, i, h, h1 => by
    have e : i = 12 := by omega
    subst e
    exact absurd ((Nat.mod_eq_of_lt (show s < 2 ^ 12 from hs)).symm.trans h1) h0
  | k + 1, i, h, h1 => by
    rw [seekV]
    by_cases hp : s / 2 ^ i % 2 = 1
    · rw [if_pos hp]; exact ⟨i, by omega, rfl⟩
    · rw [if_neg hp]; exact low_some h0 hs k (i + 1) (by omega) (bit_z h1 hp)
theorem ml_least {E : EV} {Q : OC → AH → Prop} {G : AH} {s : Nat} (h0 : s ≠ 0) (hs : s < 4096) (hQ : Q (.inl (some (.int (lowV s)))) G) : ∀ (k i : Nat), 12 - i < k → i ≤ 12 → s % 2 ^ i = 0 → seekV (fun i => s / 2 ^ i % 2 = 1) nI (12 - i) i = lowV s → Wp E 2 0 0 kX8_leastOf Q G (0, 0) 2 [.int (nI s), .int (nI i)] [] := by
  intro k
  induction k with
  | zero => intro i h; exact absurd h (by omega)
  | succ k ih =>
    intro i hk hi h1 hv
    have hi12 : i < 12 := by
      refine Nat.lt_of_le_of_ne hi (fun e => ?_)
      subst e
      exact absurd ((Nat.mod_eq_of_lt (show s < 2 ^ 12 from hs)).symm.trans h1) h0
    rw [show 12 - i = (12 - (i + 1)) + 1 by omega, seekV] at hv
    refine w_iload_n dX8_leastOf_2 rfl ?_
    refine w_iload_n dX8_leastOf_3 rfl ?_
    refine wS2u dX8_leastOf_4 lk_X8_240 rfl (m_isOf (by omega) (by omega)) (Nat.le_of_ble_eq_true rfl) (Nat.le_of_ble_eq_true rfl) (Nat.le_of_ble_eq_true rfl) (Nat.le_of_ble_eq_true rfl) ?_
    refine w_ifN_ne (tgt := 16) dX8_leastOf_7 (by decide) (fun c_7 => ?_) (fun c_7 => ?_)
    · try simp (disch := omega) only [nI_b2, Decidable.not_not, nI_ltI, nI_leI, nI_eq, ge_iff_le, gt_iff_lt, ne_eq, Nat.not_lt, Nat.not_le] at c_7
      refine w_iload_n dX8_leastOf_16 rfl ?_
      refine w_iret dX8_leastOf_17 rfl (Nat.le_of_ble_eq_true rfl) (Nat.le_of_ble_eq_true rfl) ?_
      rw [if_pos c_7] at hv
      rw [hv]
      exact hQ
    · try simp (disch := omega) only [nI_b2, Decidable.not_not, nI_ltI, nI_leI, nI_eq, ge_iff_le, gt_iff_lt, ne_eq, Nat.not_lt, Nat.not_le] at c_7
      first | refine w_iinc_1 dX8_leastOf_10 (nI_inc _) rfl ?_ | refine w_iinc_1 dX8_leastOf_10 rfl rfl ?_
      refine w_goto (tgt := 2) dX8_leastOf_13 (by decide) ?_
      rw [if_neg c_7] at hv
      exact ih (i + 1) (by omega) (by omega) (bit_z h1 c_7) hv
theorem m_leastOf {E : EV} {s : Nat} {G : AH} (h0 : s ≠ 0) (hs : s < 4096) : Cu E 2 kX8_leastOf [.int (nI s)] G (.int (lowV s)) G := by
  refine Ct.intro rfl (by decide) [.int (nI s), .float 0] (by simp [Value.category]) (Nat.le_of_ble_eq_true rfl) rfl ?_
  refine w_iconst (v := nI 0) dX8_leastOf_0 (by decide) ?_
  refine w_istore_1 dX8_leastOf_1 rfl ?_
  exact ml_least h0 hs ⟨rfl, rfl⟩ 13 0 (by omega) (by omega) (Nat.mod_one s) rfl
