/-! what is read: never wrong means well bound -/
theorem nI_nm1 {p : Nat} (h : p < 2 ^ 31) : ¬ nI p = -1 := fun e => by
  have h1 := (nI_leI (a := 0) (b := 0) (by decide) (by decide)).mpr (Nat.le_refl _)
  have h2 : nI 0 ≤ nI p := nI_le (Nat.zero_le _) (by omega)
  rw [e] at h2
  exact absurd h2 (by decide)
theorem rf_no {s : RS} (hp : s.1 < 2 ^ 31) (h : (sRf s).2 = -1) : False := by
  unfold sRf refW at h
  by_cases e : s.2 = -1
  · simp only [e, if_true] at h; exact nI_nm1 hp h
  · simp only [e, if_false] at h
theorem num_ok {y : Nat → Nat} {n lo hi : Nat} {s : RS} (hp : s.1 < 2 ^ 31) (h : (sNum y n lo hi s).2 = -1) : s.2 = -1 ∧ ∃ v, lo ≤ v ∧ v < hi ∧ numF y n s.1 lo hi = some v ∧ vNum y n lo hi s = nI v ∧ sNum y n lo hi s = (nxt y n s.1, -1) := by
  unfold sNum at h ⊢
  split at h
  · rename_i h9
    refine ⟨h, ?_⟩
    obtain ⟨v, hv⟩ := Option.isSome_iff_exists.mp h9
    have hv2 := hv
    unfold numF at hv2
    split at hv2
    · rename_i h8
      cases hv2
      exact ⟨_, h8.2.2.1, h8.2.2.2, hv, by unfold vNum; rw [hv], by rw [if_pos h9, show s.2 = -1 from h]⟩
    · cases hv2
  · exact (rf_no hp h).elim
theorem nd_ok {y : Nat → Nat} {n : Nat} {ws : List Nat} {s : RS} (hp : s.1 < 2 ^ 31) (h : (sNd y n ws s).2 = -1) : s.2 = -1 ∧ atB y n s.1 ws = true ∧ sNd y n ws s = (nxt y n s.1, -1) := by
  unfold sNd at h ⊢
  split at h
  · rename_i h9
    simp only at h
    exact ⟨h, h9, by rw [if_pos h9, h]⟩
  · exact (rf_no hp h).elim
theorem tk_w {y : Nat → Nat} {n : Nat} {ws : List Nat} {s : RS} : (sTk y n ws s).2 = s.2 := by unfold sTk; split <;> rfl
theorem num_p {y : Nat → Nat} {n lo hi : Nat} {s : RS} (h : s.1 ≤ n) : (sNum y n lo hi s).1 ≤ n := by
  unfold sNum
  split
  · exact nxt_le h
  · exact h
theorem nd_p {y : Nat → Nat} {n : Nat} {ws : List Nat} {s : RS} (h : s.1 ≤ n) : (sNd y n ws s).1 ≤ n := by
  unfold sNd
  split
  · exact nxt_le h
  · exact h
theorem tk_p {y : Nat → Nat} {n : Nat} {ws : List Nat} {s : RS} (h : s.1 ≤ n) : (sTk y n ws s).1 ≤ n := by
  unfold sTk
  split
  · exact nxt_le h
  · exact h
theorem Bd.item {T : ST} (hB : Bd T) {v h o r : Nat} (hn : T 12 0 < 12) (hv : v ≤ 99) (hh : h < 6) (ho : o ≤ 1) (hr : r < 6) : Bd (itemT T v h o r) := by
  have e : itemT T v h o r = tu (tu (tu (tu (tu (tu (tu (tu T 12 0 (T 12 0 + 1)) 3 (T 12 0) v) 0 (T 12 0) h) 4 (T 12 0) o) 1 (T 12 0) r) 2 (T 12 0) 0) 5 (T 12 0) r) 6 (T 12 0) 0 := by
    funext g i
    unfold itemT tu
    by_cases h9 : g = 12 ∧ i = 0
    · rw [if_pos h9, if_neg (by omega), if_neg (by omega), if_neg (by omega), if_neg (by omega), if_neg (by omega), if_neg (by omega), if_neg (by omega), if_pos h9]
    · rw [if_neg h9]
      simp only [h9, if_false]
  rw [e]
  have h0 : Bd (tu T 12 0 (T 12 0 + 1)) := hB.ps0 (by omega) (by omega)
  have k0 : T 12 0 < tu T 12 0 (T 12 0 + 1) 12 0 := Nat.lt_succ_self _
  have h1 := h0.pu3 (k := T 12 0) k0 hv
  have h2 := h1.pu0 (k := T 12 0) k0 hh
  have h3 := h2.pu4 (k := T 12 0) k0 ho
  have h4 := h3.pu1 (k := T 12 0) k0 hr
  have h5 := h4.pu2 (k := T 12 0) (v := 0) k0 (by omega)
  have h6 := h5.pu5 (k := T 12 0) k0 hr
  exact h6.pu6 (k := T 12 0) (v := 0) k0 (by omega)
theorem cell_ok {y : Nat → Nat} {n f N hi1 mo1 : Nat} {s : RS} {T : ST} (hp : s.1 ≤ n) (hn : n ≤ 400) (hN : hi1 ≤ N) (hN2 : N < 2 ^ 20) (hm : mo1 < 2 ^ 20) (h : (rdCell y n f N hi1 mo1 s T).1.2 = -1) : s.2 = -1 ∧ ∃ a b, a < hi1 ∧ b < mo1 ∧ numF y n s.1 0 hi1 = some a ∧ numF y n (nxt y n s.1) 0 mo1 = some b ∧ rdCell y n f N hi1 mo1 s T = ((nxt y n (nxt y n s.1), -1), tu T f a b) := by
  unfold rdCell at h ⊢
  have hp1 : (sNum y n 0 hi1 s).1 ≤ n := num_p hp
  obtain ⟨h1, b, -, hb, e1, e2, e3⟩ := num_ok (by omega) h
  obtain ⟨h2, a, -, ha, e4, e5, e6⟩ := num_ok (by omega) h1
  refine ⟨h2, a, b, ha, hb, e4, by rw [e6] at e1; exact e1, ?_⟩
  rw [e3, e5, e2, e6]
  simp only
  congr 1
  unfold cellT
  rw [if_neg (nI_nlt (Nat.zero_le _) (by omega)), if_neg (Int32.not_le.mpr (nI_lt (show a < N by omega) (by omega))), nI_clamp (by omega), nOf_nI (by omega)]
theorem rdItem_ok {y : Nat → Nat} {n : Nat} {s : RS} {T : ST} (hp : s.1 ≤ n) (hn : n ≤ 400) (hB : Bd T) (h : (rdItem y n s T).1.2 = -1) : Bd (rdItem y n s T).2 := by
  unfold rdItem at h ⊢
  by_cases h12 : T 12 0 < 12
  · rw [if_neg (fun h9 => h9 h12)] at h ⊢
    simp only at h ⊢
    generalize e1 : sNd y n [105, 116, 101, 109] s = s1 at h ⊢
    generalize e2 : sNum y n 1 100 s1 = s2 at h ⊢
    generalize e3 : sNd y n [104, 111, 109, 101] s2 = s3 at h ⊢
    generalize e4 : sNum y n 0 6 s3 = s4 at h ⊢
    generalize e5 : sNd y n [115, 105, 100, 101] s4 = s5 at h ⊢
    generalize e6 : sNum y n 0 2 s5 = s6 at h ⊢
    have p1 : s1.1 ≤ n := by rw [← e1]; exact nd_p hp
    have p2 : s2.1 ≤ n := by rw [← e2]; exact num_p p1
    have p3 : s3.1 ≤ n := by rw [← e3]; exact nd_p p2
    have p4 : s4.1 ≤ n := by rw [← e4]; exact num_p p3
    have p5 : s5.1 ≤ n := by rw [← e5]; exact nd_p p4
    have p6 : s6.1 ≤ n := by rw [← e6]; exact num_p p5
    have go : s6.2 = -1 → ∃ v o hm, v ≤ 99 ∧ o ≤ 1 ∧ hm < 6 ∧ vNum y n 1 100 s1 = nI v ∧ vNum y n 0 6 s3 = nI hm ∧ vNum y n 0 2 s5 = nI o := by
      intro h6
      rw [← e6] at h6
      obtain ⟨h5, o, -, ho, -, eo, -⟩ := num_ok (by omega) h6
      rw [← e5] at h5
      obtain ⟨h4, -, -⟩ := nd_ok (by omega) h5
      rw [← e4] at h4
      obtain ⟨h3, hm, -, hh, -, eh, -⟩ := num_ok (by omega) h4
      rw [← e3] at h3
      obtain ⟨h2, -, -⟩ := nd_ok (by omega) h3
      rw [← e2] at h2
      obtain ⟨h1, v, hv0, hv, -, ev, -⟩ := num_ok (by omega) h2
      exact ⟨v, o, hm, by omega, by omega, hh, ev, eh, eo⟩
    by_cases hin : atB y n s6.1 [105, 110] = true
    · rw [if_pos hin] at h ⊢
      simp only at h ⊢
      have p7 : (sTk y n [105, 110] s6).1 ≤ n := tk_p p6
      obtain ⟨h7, r, -, hr, -, er, -⟩ := num_ok (by omega) h
      rw [tk_w] at h7
      obtain ⟨v, o, hm, a1, a2, a3, e7, e8, e9⟩ := go h7
      rw [e7, e8, e9, er, nOf_nI (by omega), nOf_nI (by omega), nOf_nI (by omega), nOf_nI (by omega)]
      exact hB.item h12 a1 a3 a2 hr
    · rw [if_neg hin] at h ⊢
      simp only at h ⊢
      rw [tk_w] at h
      obtain ⟨v, o, hm, a1, a2, a3, e7, e8, e9⟩ := go h
      rw [e7, e8, e9, nOf_nI (by omega), nOf_nI (by omega), nOf_nI (by omega)]
      exact hB.item h12 a1 a3 a2 a3
  · rw [if_pos h12] at h ⊢
    exact (rf_no (by omega) h).elim
theorem rdItem_p {y : Nat → Nat} {n : Nat} {s : RS} {T : ST} (hp : s.1 ≤ n) : (rdItem y n s T).1.1 ≤ n := by
  unfold rdItem
  split
  · exact hp
  · simp only
    split
    · exact num_p (tk_p (num_p (nd_p (num_p (nd_p (num_p (nd_p hp)))))))
    · exact tk_p (num_p (nd_p (num_p (nd_p (num_p (nd_p hp))))))
theorem rdLine_p {y : Nat → Nat} {n : Nat} {s : RS} {T : ST} (hp : s.1 ≤ n) : (rdLine y n s T).1.1 ≤ n := by
  have hx : nxt y n s.1 ≤ n := nxt_le hp
  unfold rdLine rdCell
  repeat' split
  all_goals first
    | exact rdItem_p hp
    | exact num_p (s := (nxt y n s.1, s.2)) hx
    | exact num_p (num_p (s := (nxt y n s.1, s.2)) hx)
    | exact hp
theorem rdLine_ok {y : Nat → Nat} {n : Nat} {s : RS} {T : ST} (hp : s.1 ≤ n) (hn : n ≤ 400) (hB : Bd T) (h : (rdLine y n s T).1.2 = -1) : Bd (rdLine y n s T).2 := by
  have hx : (nxt y n s.1, s.2).1 ≤ n := nxt_le hp
  have h12 := hB.1
  unfold rdLine at h ⊢
  by_cases c1 : atB y n s.1 [105, 116, 101, 109] = true
  · rw [if_pos c1] at h ⊢; exact rdItem_ok hp hn hB h
  rw [if_neg c1] at h ⊢
  by_cases c2 : atB y n s.1 [104, 97, 110, 100, 115] = true
  · rw [if_pos c2] at h ⊢
    obtain ⟨-, a, b, ha, hb, -, -, e⟩ := cell_ok hx hn (by decide) (by decide) (by decide) h
    rw [e]; exact hB.pu9 (by omega)
  rw [if_neg c2] at h ⊢
  by_cases c3 : atB y n s.1 [115, 111, 105, 108] = true
  · rw [if_pos c3] at h ⊢
    obtain ⟨-, a, b, ha, hb, -, -, e⟩ := cell_ok hx hn (by decide) (by decide) (by decide) h
    rw [e]; exact hB.pu7 (by omega)
  rw [if_neg c3] at h ⊢
  by_cases c4 : atB y n s.1 [112, 108, 97, 99, 101, 115] = true
  · rw [if_pos c4] at h ⊢
    obtain ⟨-, a, b, ha, hb, -, -, e⟩ := cell_ok hx hn (by decide) (by decide) (by decide) h
    rw [e]; exact hB.pu8 (by omega)
  rw [if_neg c4] at h ⊢
  by_cases c5 : atB y n s.1 [119, 111, 114, 110] = true
  · rw [if_pos c5] at h ⊢
    obtain ⟨-, a, b, ha, hb, -, -, e⟩ := cell_ok hx hn (by omega) (by decide) (by decide) h
    rw [e]; exact hB.pu2 (by omega) (by omega)
  rw [if_neg c5] at h ⊢
  by_cases c6 : atB y n s.1 [115, 116, 111, 114, 109] = true
  · rw [if_pos c6] at h ⊢
    obtain ⟨-, v, -, hv, -, e, -⟩ := num_ok (by omega) h
    simp only at e ⊢
    rw [e, nOf_nI (by omega)]; exact hB.ps2 (by omega)
  rw [if_neg c6] at h ⊢
  by_cases c7 : atB y n s.1 [100, 97, 121] = true
  · rw [if_pos c7] at h ⊢
    obtain ⟨-, v, -, hv, -, e, -⟩ := num_ok (by omega) h
    simp only at e ⊢
    rw [e, nOf_nI (by omega)]; exact hB.ps3 (by omega)
  rw [if_neg c7] at h
  exact (rf_no (by omega) h).elim
theorem rdStep_ok {y : Nat → Nat} {n i : Nat} {u : RS × ST} (hp : u.1.1 ≤ n) (hn : n ≤ 400) (hB : Bd u.2) : (rdStep y n i u).1.1 ≤ n ∧ ((rdStep y n i u).1.2 = -1 → Bd (rdStep y n i u).2) := by
  unfold rdStep
  split
  · exact ⟨hp, fun h => (rf_no (by omega) h).elim⟩
  · exact ⟨rdLine_p hp, rdLine_ok hp hn hB⟩
theorem rdGo_ok {y : Nat → Nat} {n : Nat} (hn : n ≤ 400) : ∀ (k i : Nat) (u : RS × ST), u.1.1 ≤ n → (u.1.2 = -1 → Bd u.2) → u.1.2 = -1 → (rdGo y n k i u).1.1 ≤ n ∧ ((rdGo y n k i u).1.2 = -1 → Bd (rdGo y n k i u).2)
  | 0, _, u, hp, hB, hw => ⟨hp, hB⟩
  | k + 1, i, u, hp, hB, hw => by
    have h1 := rdStep_ok (y := y) (i := i) hp hn (hB hw)
    rw [rdGo]
    split
    · rename_i h2
      split
      · exact rdGo_ok hn k (i + 1) _ (nxt_le h1.1) (fun _ => h1.2 h2) h2
      · exact h1
    · exact h1
theorem rdText_ok {y : Nat → Nat} {n : Nat} {T : ST} (hn : n ≤ 400) (hB : Bd T) : (rdText y n T).1.1 ≤ n ∧ (rdWrong y n (rdText y n T) = -1 → Bd (rdText y n T).2) := by
  have h0 : skp y n 0 ≤ n := (skp_le (Nat.zero_le n)).2
  have h1 : (rdText y n T).1.1 ≤ n ∧ ((rdText y n T).1.2 = -1 → Bd (rdText y n T).2) := by
    unfold rdText
    split
    · exact ⟨h0, fun _ => hB⟩
    · exact rdGo_ok hn 15 0 _ h0 (fun _ => hB) rfl
  refine ⟨h1.1, fun h => h1.2 ?_⟩
  unfold rdWrong at h
  split at h
  · exact h
  · exact (rf_no (s := (rdText y n T).1) (by omega) h).elim
