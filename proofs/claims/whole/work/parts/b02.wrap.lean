/-! the law's wrapped calls -/
theorem upd0 {f : Nat → Int64} {x : Int64} {i : Nat} (h : i = 0) : vp_updL f i x 0 = x := by subst h; simp [vp_updL]
section WRP
variable {E : EV} {G : AH} {B O : Nat} {R : Nat → Int32 → AH → Prop}
theorem w_deed (hB : ∃ vs, G.1 B = some (oB 7 vs)) (hO : ∃ ov : Nat → Int64, G.1 O = some (aJ 1 ov)) (hR : ∀ k v G1, R k v G1 → G1.1 O = G.1 O)
    (hc : Ct E 13 1 6 kX7_deed [.ref B] G (fun o G1 => ∃ k v, k ≤ 2 ∧ XOut ["java/lang/IllegalArgumentException", "java/lang/UnsupportedOperationException"] k v o ∧ R k v G1)) :
    Ct E 14 1 6 kL_deed [.ref B, .ref O] G (fun o G2 => ∃ k v G1, k < 4 ∧ o = .inl (some (.int (nI k))) ∧ R k v G1 ∧ (k = 0 → ∃ ov, ov 0 = v.toInt64 ∧ G2 = gs G1 O (aJ 1 ov)) ∧ (k ≠ 0 → G2 = G1)) := by
  obtain ⟨vs, hB⟩ := hB
  obtain ⟨ov, hO⟩ := hO
  refine Ct.introH rfl (by decide) [.ref B, .ref O, .float 0] (by simp [Value.category]) (Nat.le_of_ble_eq_true rfl) rfl ?_
  refine w_aload_n dL_deed_0 rfl ?_
  refine w_iconst (v := nI 0) dL_deed_1 (by decide) ?_
  refine w_aload_n dL_deed_2 rfl ?_
  refine wc_V (rest := [.int (nI 0), .ref O]) dL_deed_3 lk_L_7 rfl (by rfl) hB rfl rfl (Nat.le_refl _) hc rfl (by simp [Value.category]) (by simp) (by simp) ?_ ?_
  · intro v G1 hq
    obtain ⟨k, v9, hk, hx, hr⟩ := hq
    by_cases h0 : k = 0
    · have e := hx.1 h0
      cases e
      refine w_i2l dL_deed_6 ?_
      refine w_lastore dL_deed_7 ((hR _ _ _ hr).trans hO) (vp_in_nI (by omega) (by omega)) ?_
      refine w_goto (tgt := 17) dL_deed_8 (by decide) ?_
      refine w_iconst (v := nI 0) dL_deed_17 (by decide) ?_
      refine w_iret dL_deed_18 rfl (by simp) (by simp) ?_
      exact ⟨k, v9, G1, by omega, by rw [h0], hr, fun _ => ⟨_, upd0 rfl, rfl⟩, fun c => absurd h0 c⟩
    · exfalso
      match k, h0, hk, hx with
      | 1, _, _, hx => exact absurd (hx.2 0 _ rfl rfl) (by simp)
      | 2, _, _, hx => exact absurd (hx.2 1 _ rfl rfl) (by simp)
  · intro X G1 hq
    obtain ⟨k, v9, hk, hx, hr⟩ := hq
    match k, hk, hx, hr with
    | 0, _, hx, _ => exact absurd (hx.1 rfl) (by simp)
    | 1, _, hx, hr =>
      have e := hx.2 0 _ rfl rfl
      cases e
      refine wx_catch (pre := []) (suf := [(0, 8, 14, 15)]) (k := 2) rfl (by intro z hz; cases hz) (by decide) (by decide) u_609 un_747 (Or.inl ⟨2, rfl, rfl, dL_deed_11⟩) (by simp) (by intro w _ hw; simp at hw; subst hw; rfl) ?_
      refine w_iconst (v := nI 1) dL_deed_12 (by decide) ?_
      refine w_iret dL_deed_13 rfl (by simp) (by simp) ?_
      exact ⟨1, v9, G1, by decide, rfl, hr, fun c => absurd c (by decide), fun _ => rfl⟩
    | 2, _, hx, hr =>
      have e := hx.2 1 _ rfl rfl
      cases e
      refine wx_catch (pre := [(0, 8, 11, 13)]) (suf := []) (k := 2) rfl (by
        intro z hz
        simp only [List.mem_cons, List.not_mem_nil, or_false] at hz
        rcases hz with rfl
        · exact ⟨by decide, _, u_609, by decide⟩) (by decide) (by decide) u_610 un_816 (Or.inl ⟨2, rfl, rfl, dL_deed_14⟩) (by simp) (by intro w _ hw; simp at hw; subst hw; rfl) ?_
      refine w_iconst (v := nI 2) dL_deed_15 (by decide) ?_
      refine w_iret dL_deed_16 rfl (by simp) (by simp) ?_
      exact ⟨2, v9, G1, by decide, rfl, hr, fun c => absurd c (by decide), fun _ => rfl⟩
theorem w_law (hB : ∃ vs, G.1 B = some (oB 7 vs)) (hO : ∃ ov : Nat → Int64, G.1 O = some (aJ 1 ov)) (hR : ∀ k v G1, R k v G1 → G1.1 O = G.1 O)
    (hc : Ct E 14 1 6 kX7_law [.ref B] G (fun o G1 => ∃ k v, k ≤ 1 ∧ XOut ["java/lang/IllegalArgumentException"] k v o ∧ R k v G1)) :
    Ct E 15 1 6 kL_law [.ref B, .ref O] G (fun o G2 => ∃ k v G1, k < 4 ∧ o = .inl (some (.int (nI k))) ∧ R k v G1 ∧ (k = 0 → ∃ ov, ov 0 = v.toInt64 ∧ G2 = gs G1 O (aJ 1 ov)) ∧ (k ≠ 0 → G2 = G1)) := by
  obtain ⟨vs, hB⟩ := hB
  obtain ⟨ov, hO⟩ := hO
  refine Ct.introH rfl (by decide) [.ref B, .ref O, .float 0] (by simp [Value.category]) (Nat.le_of_ble_eq_true rfl) rfl ?_
  refine w_aload_n dL_law_0 rfl ?_
  refine w_iconst (v := nI 0) dL_law_1 (by decide) ?_
  refine w_aload_n dL_law_2 rfl ?_
  refine wc_V (rest := [.int (nI 0), .ref O]) dL_law_3 lk_L_17 rfl (by rfl) hB rfl rfl (Nat.le_refl _) hc rfl (by simp [Value.category]) (by simp) (by simp) ?_ ?_
  · intro v G1 hq
    obtain ⟨k, v9, hk, hx, hr⟩ := hq
    by_cases h0 : k = 0
    · have e := hx.1 h0
      cases e
      refine w_i2l dL_law_6 ?_
      refine w_lastore dL_law_7 ((hR _ _ _ hr).trans hO) (vp_in_nI (by omega) (by omega)) ?_
      refine w_goto (tgt := 14) dL_law_8 (by decide) ?_
      refine w_iconst (v := nI 0) dL_law_14 (by decide) ?_
      refine w_iret dL_law_15 rfl (by simp) (by simp) ?_
      exact ⟨k, v9, G1, by omega, by rw [h0], hr, fun _ => ⟨_, upd0 rfl, rfl⟩, fun c => absurd h0 c⟩
    · exfalso
      match k, h0, hk, hx with
      | 1, _, _, hx => exact absurd (hx.2 0 _ rfl rfl) (by simp)
  · intro X G1 hq
    obtain ⟨k, v9, hk, hx, hr⟩ := hq
    match k, hk, hx, hr with
    | 0, _, hx, _ => exact absurd (hx.1 rfl) (by simp)
    | 1, _, hx, hr =>
      have e := hx.2 0 _ rfl rfl
      cases e
      refine wx_catch (pre := []) (suf := []) (k := 2) rfl (by intro z hz; cases hz) (by decide) (by decide) u_609 un_747 (Or.inl ⟨2, rfl, rfl, dL_law_11⟩) (by simp) (by intro w _ hw; simp at hw; subst hw; rfl) ?_
      refine w_iconst (v := nI 1) dL_law_12 (by decide) ?_
      refine w_iret dL_law_13 rfl (by simp) (by simp) ?_
      exact ⟨1, v9, G1, by decide, rfl, hr, fun c => absurd c (by decide), fun _ => rfl⟩
theorem w_item {x y : Int32} (hB : ∃ vs, G.1 B = some (oB 7 vs)) (hO : ∃ ov : Nat → Int64, G.1 O = some (aJ 1 ov)) (hR : ∀ k v G1, R k v G1 → G1.1 O = G.1 O)
    (hc : Ct E 10 2 12 kX7_item [.ref B, .int x, .int y] G (fun o G1 => ∃ k v, k ≤ 2 ∧ XOut ["java/lang/IndexOutOfBoundsException", "java/util/NoSuchElementException"] k v o ∧ R k v G1)) :
    Ct E 11 2 12 kL_item [.ref B, .int x, .int y, .ref O] G (fun o G2 => ∃ k v G1, k < 4 ∧ o = .inl (some (.int (nI k))) ∧ R k v G1 ∧ (k = 0 → ∃ ov, ov 0 = v.toInt64 ∧ G2 = gs G1 O (aJ 1 ov)) ∧ (k ≠ 0 → G2 = G1)) := by
  obtain ⟨vs, hB⟩ := hB
  obtain ⟨ov, hO⟩ := hO
  refine Ct.introH rfl (by decide) [.ref B, .int x, .int y, .ref O, .float 0] (by simp [Value.category]) (Nat.le_of_ble_eq_true rfl) rfl ?_
  refine w_aload_n dL_item_0 rfl ?_
  refine w_iconst (v := nI 0) dL_item_1 (by decide) ?_
  refine w_aload_n dL_item_2 rfl ?_
  refine w_iload_n dL_item_3 rfl ?_
  refine w_iload_n dL_item_4 rfl ?_
  refine wc_V (rest := [.int (nI 0), .ref O]) dL_item_5 lk_L_20 rfl (by rfl) hB rfl rfl (Nat.le_refl _) hc rfl (by simp [Value.category]) (by simp) (by simp) ?_ ?_
  · intro v G1 hq
    obtain ⟨k, v9, hk, hx, hr⟩ := hq
    by_cases h0 : k = 0
    · have e := hx.1 h0
      cases e
      refine w_i2l dL_item_8 ?_
      refine w_lastore dL_item_9 ((hR _ _ _ hr).trans hO) (vp_in_nI (by omega) (by omega)) ?_
      refine w_goto (tgt := 21) dL_item_10 (by decide) ?_
      refine w_iconst (v := nI 0) dL_item_21 (by decide) ?_
      refine w_iret dL_item_22 rfl (by simp) (by simp) ?_
      exact ⟨k, v9, G1, by omega, by rw [h0], hr, fun _ => ⟨_, upd0 rfl, rfl⟩, fun c => absurd h0 c⟩
    · exfalso
      match k, h0, hk, hx with
      | 1, _, _, hx => exact absurd (hx.2 0 _ rfl rfl) (by simp)
      | 2, _, _, hx => exact absurd (hx.2 1 _ rfl rfl) (by simp)
  · intro X G1 hq
    obtain ⟨k, v9, hk, hx, hr⟩ := hq
    match k, hk, hx, hr with
    | 0, _, hx, _ => exact absurd (hx.1 rfl) (by simp)
    | 1, _, hx, hr =>
      have e := hx.2 0 _ rfl rfl
      cases e
      refine wx_catch (pre := []) (suf := [(0, 10, 17, 26)]) (k := 4) rfl (by intro z hz; cases hz) (by decide) (by decide) u_929 un_941 (Or.inr ⟨rfl, dL_item_13⟩) (by simp) (by intro w _ hw; simp at hw; subst hw; rfl) ?_
      refine w_iconst (v := nI 1) dL_item_15 (by decide) ?_
      refine w_iret dL_item_16 rfl (by simp) (by simp) ?_
      exact ⟨1, v9, G1, by decide, rfl, hr, fun c => absurd c (by decide), fun _ => rfl⟩
    | 2, _, hx, hr =>
      have e := hx.2 1 _ rfl rfl
      cases e
      refine wx_catch (pre := [(0, 10, 13, 24)]) (suf := []) (k := 4) rfl (by
        intro z hz
        simp only [List.mem_cons, List.not_mem_nil, or_false] at hz
        rcases hz with rfl
        · exact ⟨by decide, _, u_929, by decide⟩) (by decide) (by decide) u_930 un_960 (Or.inr ⟨rfl, dL_item_17⟩) (by simp) (by intro w _ hw; simp at hw; subst hw; rfl) ?_
      refine w_iconst (v := nI 2) dL_item_19 (by decide) ?_
      refine w_iret dL_item_20 rfl (by simp) (by simp) ?_
      exact ⟨2, v9, G1, by decide, rfl, hr, fun c => absurd c (by decide), fun _ => rfl⟩
theorem w_room {x y : Int32} (hB : ∃ vs, G.1 B = some (oB 7 vs)) (hO : ∃ ov : Nat → Int64, G.1 O = some (aJ 1 ov)) (hR : ∀ k v G1, R k v G1 → G1.1 O = G.1 O)
    (hc : Ct E 10 2 12 kX7_room [.ref B, .int x, .int y] G (fun o G1 => ∃ k v, k ≤ 2 ∧ XOut ["java/lang/IndexOutOfBoundsException", "java/util/NoSuchElementException"] k v o ∧ R k v G1)) :
    Ct E 11 2 12 kL_room [.ref B, .int x, .int y, .ref O] G (fun o G2 => ∃ k v G1, k < 4 ∧ o = .inl (some (.int (nI k))) ∧ R k v G1 ∧ (k = 0 → ∃ ov, ov 0 = v.toInt64 ∧ G2 = gs G1 O (aJ 1 ov)) ∧ (k ≠ 0 → G2 = G1)) := by
  obtain ⟨vs, hB⟩ := hB
  obtain ⟨ov, hO⟩ := hO
  refine Ct.introH rfl (by decide) [.ref B, .int x, .int y, .ref O, .float 0] (by simp [Value.category]) (Nat.le_of_ble_eq_true rfl) rfl ?_
  refine w_aload_n dL_room_0 rfl ?_
  refine w_iconst (v := nI 0) dL_room_1 (by decide) ?_
  refine w_aload_n dL_room_2 rfl ?_
  refine w_iload_n dL_room_3 rfl ?_
  refine w_iload_n dL_room_4 rfl ?_
  refine wc_V (rest := [.int (nI 0), .ref O]) dL_room_5 lk_L_28 rfl (by rfl) hB rfl rfl (Nat.le_refl _) hc rfl (by simp [Value.category]) (by simp) (by simp) ?_ ?_
  · intro v G1 hq
    obtain ⟨k, v9, hk, hx, hr⟩ := hq
    by_cases h0 : k = 0
    · have e := hx.1 h0
      cases e
      refine w_i2l dL_room_8 ?_
      refine w_lastore dL_room_9 ((hR _ _ _ hr).trans hO) (vp_in_nI (by omega) (by omega)) ?_
      refine w_goto (tgt := 21) dL_room_10 (by decide) ?_
      refine w_iconst (v := nI 0) dL_room_21 (by decide) ?_
      refine w_iret dL_room_22 rfl (by simp) (by simp) ?_
      exact ⟨k, v9, G1, by omega, by rw [h0], hr, fun _ => ⟨_, upd0 rfl, rfl⟩, fun c => absurd h0 c⟩
    · exfalso
      match k, h0, hk, hx with
      | 1, _, _, hx => exact absurd (hx.2 0 _ rfl rfl) (by simp)
      | 2, _, _, hx => exact absurd (hx.2 1 _ rfl rfl) (by simp)
  · intro X G1 hq
    obtain ⟨k, v9, hk, hx, hr⟩ := hq
    match k, hk, hx, hr with
    | 0, _, hx, _ => exact absurd (hx.1 rfl) (by simp)
    | 1, _, hx, hr =>
      have e := hx.2 0 _ rfl rfl
      cases e
      refine wx_catch (pre := []) (suf := [(0, 10, 17, 26)]) (k := 4) rfl (by intro z hz; cases hz) (by decide) (by decide) u_929 un_941 (Or.inr ⟨rfl, dL_room_13⟩) (by simp) (by intro w _ hw; simp at hw; subst hw; rfl) ?_
      refine w_iconst (v := nI 1) dL_room_15 (by decide) ?_
      refine w_iret dL_room_16 rfl (by simp) (by simp) ?_
      exact ⟨1, v9, G1, by decide, rfl, hr, fun c => absurd c (by decide), fun _ => rfl⟩
    | 2, _, hx, hr =>
      have e := hx.2 1 _ rfl rfl
      cases e
      refine wx_catch (pre := [(0, 10, 13, 24)]) (suf := []) (k := 4) rfl (by
        intro z hz
        simp only [List.mem_cons, List.not_mem_nil, or_false] at hz
        rcases hz with rfl
        · exact ⟨by decide, _, u_929, by decide⟩) (by decide) (by decide) u_930 un_960 (Or.inr ⟨rfl, dL_room_17⟩) (by simp) (by intro w _ hw; simp at hw; subst hw; rfl) ?_
      refine w_iconst (v := nI 2) dL_room_19 (by decide) ?_
      refine w_iret dL_room_20 rfl (by simp) (by simp) ?_
      exact ⟨2, v9, G1, by decide, rfl, hr, fun c => absurd c (by decide), fun _ => rfl⟩
theorem w_side {x y : Int32} (hB : ∃ vs, G.1 B = some (oB 7 vs)) (hO : ∃ ov : Nat → Int64, G.1 O = some (aJ 1 ov)) (hR : ∀ k v G1, R k v G1 → G1.1 O = G.1 O)
    (hc : Ct E 10 2 12 kX7_side [.ref B, .int x, .int y] G (fun o G1 => ∃ k v, k ≤ 2 ∧ XOut ["java/lang/IndexOutOfBoundsException", "java/util/NoSuchElementException"] k v o ∧ R k v G1)) :
    Ct E 11 2 12 kL_side [.ref B, .int x, .int y, .ref O] G (fun o G2 => ∃ k v G1, k < 4 ∧ o = .inl (some (.int (nI k))) ∧ R k v G1 ∧ (k = 0 → ∃ ov, ov 0 = v.toInt64 ∧ G2 = gs G1 O (aJ 1 ov)) ∧ (k ≠ 0 → G2 = G1)) := by
  obtain ⟨vs, hB⟩ := hB
  obtain ⟨ov, hO⟩ := hO
  refine Ct.introH rfl (by decide) [.ref B, .int x, .int y, .ref O, .float 0] (by simp [Value.category]) (Nat.le_of_ble_eq_true rfl) rfl ?_
  refine w_aload_n dL_side_0 rfl ?_
  refine w_iconst (v := nI 0) dL_side_1 (by decide) ?_
  refine w_aload_n dL_side_2 rfl ?_
  refine w_iload_n dL_side_3 rfl ?_
  refine w_iload_n dL_side_4 rfl ?_
  refine wc_V (rest := [.int (nI 0), .ref O]) dL_side_5 lk_L_31 rfl (by rfl) hB rfl rfl (Nat.le_refl _) hc rfl (by simp [Value.category]) (by simp) (by simp) ?_ ?_
  · intro v G1 hq
    obtain ⟨k, v9, hk, hx, hr⟩ := hq
    by_cases h0 : k = 0
    · have e := hx.1 h0
      cases e
      refine w_i2l dL_side_8 ?_
      refine w_lastore dL_side_9 ((hR _ _ _ hr).trans hO) (vp_in_nI (by omega) (by omega)) ?_
      refine w_goto (tgt := 21) dL_side_10 (by decide) ?_
      refine w_iconst (v := nI 0) dL_side_21 (by decide) ?_
      refine w_iret dL_side_22 rfl (by simp) (by simp) ?_
      exact ⟨k, v9, G1, by omega, by rw [h0], hr, fun _ => ⟨_, upd0 rfl, rfl⟩, fun c => absurd h0 c⟩
    · exfalso
      match k, h0, hk, hx with
      | 1, _, _, hx => exact absurd (hx.2 0 _ rfl rfl) (by simp)
      | 2, _, _, hx => exact absurd (hx.2 1 _ rfl rfl) (by simp)
  · intro X G1 hq
    obtain ⟨k, v9, hk, hx, hr⟩ := hq
    match k, hk, hx, hr with
    | 0, _, hx, _ => exact absurd (hx.1 rfl) (by simp)
    | 1, _, hx, hr =>
      have e := hx.2 0 _ rfl rfl
      cases e
      refine wx_catch (pre := []) (suf := [(0, 10, 17, 26)]) (k := 4) rfl (by intro z hz; cases hz) (by decide) (by decide) u_929 un_941 (Or.inr ⟨rfl, dL_side_13⟩) (by simp) (by intro w _ hw; simp at hw; subst hw; rfl) ?_
      refine w_iconst (v := nI 1) dL_side_15 (by decide) ?_
      refine w_iret dL_side_16 rfl (by simp) (by simp) ?_
      exact ⟨1, v9, G1, by decide, rfl, hr, fun c => absurd c (by decide), fun _ => rfl⟩
    | 2, _, hx, hr =>
      have e := hx.2 1 _ rfl rfl
      cases e
      refine wx_catch (pre := [(0, 10, 13, 24)]) (suf := []) (k := 4) rfl (by
        intro z hz
        simp only [List.mem_cons, List.not_mem_nil, or_false] at hz
        rcases hz with rfl
        · exact ⟨by decide, _, u_929, by decide⟩) (by decide) (by decide) u_930 un_960 (Or.inr ⟨rfl, dL_side_17⟩) (by simp) (by intro w _ hw; simp at hw; subst hw; rfl) ?_
      refine w_iconst (v := nI 2) dL_side_19 (by decide) ?_
      refine w_iret dL_side_20 rfl (by simp) (by simp) ?_
      exact ⟨2, v9, G1, by decide, rfl, hr, fun c => absurd c (by decide), fun _ => rfl⟩
theorem w_does {x y : Int32} (hB : ∃ vs, G.1 B = some (oB 7 vs)) (hO : ∃ ov : Nat → Int64, G.1 O = some (aJ 1 ov)) (hR : ∀ k v G1, R k v G1 → G1.1 O = G.1 O)
    (hc : Ct E 10 2 12 kX7_does [.ref B, .int x, .int y] G (fun o G1 => ∃ k v, k ≤ 2 ∧ XOut ["java/lang/IndexOutOfBoundsException", "java/util/NoSuchElementException"] k v o ∧ R k v G1)) :
    Ct E 11 2 12 kL_does [.ref B, .int x, .int y, .ref O] G (fun o G2 => ∃ k v G1, k < 4 ∧ o = .inl (some (.int (nI k))) ∧ R k v G1 ∧ (k = 0 → ∃ ov, ov 0 = v.toInt64 ∧ G2 = gs G1 O (aJ 1 ov)) ∧ (k ≠ 0 → G2 = G1)) := by
  obtain ⟨vs, hB⟩ := hB
  obtain ⟨ov, hO⟩ := hO
  refine Ct.introH rfl (by decide) [.ref B, .int x, .int y, .ref O, .float 0] (by simp [Value.category]) (Nat.le_of_ble_eq_true rfl) rfl ?_
  refine w_aload_n dL_does_0 rfl ?_
  refine w_iconst (v := nI 0) dL_does_1 (by decide) ?_
  refine w_aload_n dL_does_2 rfl ?_
  refine w_iload_n dL_does_3 rfl ?_
  refine w_iload_n dL_does_4 rfl ?_
  refine wc_V (rest := [.int (nI 0), .ref O]) dL_does_5 lk_L_34 rfl (by rfl) hB rfl rfl (Nat.le_refl _) hc rfl (by simp [Value.category]) (by simp) (by simp) ?_ ?_
  · intro v G1 hq
    obtain ⟨k, v9, hk, hx, hr⟩ := hq
    by_cases h0 : k = 0
    · have e := hx.1 h0
      cases e
      refine w_i2l dL_does_8 ?_
      refine w_lastore dL_does_9 ((hR _ _ _ hr).trans hO) (vp_in_nI (by omega) (by omega)) ?_
      refine w_goto (tgt := 21) dL_does_10 (by decide) ?_
      refine w_iconst (v := nI 0) dL_does_21 (by decide) ?_
      refine w_iret dL_does_22 rfl (by simp) (by simp) ?_
      exact ⟨k, v9, G1, by omega, by rw [h0], hr, fun _ => ⟨_, upd0 rfl, rfl⟩, fun c => absurd h0 c⟩
    · exfalso
      match k, h0, hk, hx with
      | 1, _, _, hx => exact absurd (hx.2 0 _ rfl rfl) (by simp)
      | 2, _, _, hx => exact absurd (hx.2 1 _ rfl rfl) (by simp)
  · intro X G1 hq
    obtain ⟨k, v9, hk, hx, hr⟩ := hq
    match k, hk, hx, hr with
    | 0, _, hx, _ => exact absurd (hx.1 rfl) (by simp)
    | 1, _, hx, hr =>
      have e := hx.2 0 _ rfl rfl
      cases e
      refine wx_catch (pre := []) (suf := [(0, 10, 17, 26)]) (k := 4) rfl (by intro z hz; cases hz) (by decide) (by decide) u_929 un_941 (Or.inr ⟨rfl, dL_does_13⟩) (by simp) (by intro w _ hw; simp at hw; subst hw; rfl) ?_
      refine w_iconst (v := nI 1) dL_does_15 (by decide) ?_
      refine w_iret dL_does_16 rfl (by simp) (by simp) ?_
      exact ⟨1, v9, G1, by decide, rfl, hr, fun c => absurd c (by decide), fun _ => rfl⟩
    | 2, _, hx, hr =>
      have e := hx.2 1 _ rfl rfl
      cases e
      refine wx_catch (pre := [(0, 10, 13, 24)]) (suf := []) (k := 4) rfl (by
        intro z hz
        simp only [List.mem_cons, List.not_mem_nil, or_false] at hz
        rcases hz with rfl
        · exact ⟨by decide, _, u_929, by decide⟩) (by decide) (by decide) u_930 un_960 (Or.inr ⟨rfl, dL_does_17⟩) (by simp) (by intro w _ hw; simp at hw; subst hw; rfl) ?_
      refine w_iconst (v := nI 2) dL_does_19 (by decide) ?_
      refine w_iret dL_does_20 rfl (by simp) (by simp) ?_
      exact ⟨2, v9, G1, by decide, rfl, hr, fun c => absurd c (by decide), fun _ => rfl⟩
theorem w_steps {x y : Int32} (hB : ∃ vs, G.1 B = some (oB 7 vs)) (hO : ∃ ov : Nat → Int64, G.1 O = some (aJ 1 ov)) (hR : ∀ k v G1, R k v G1 → G1.1 O = G.1 O)
    (hc : Ct E 10 2 12 kX7_steps [.ref B, .int x, .int y] G (fun o G1 => ∃ k v, k ≤ 1 ∧ XOut ["java/lang/IndexOutOfBoundsException"] k v o ∧ R k v G1)) :
    Ct E 11 2 12 kL_steps [.ref B, .int x, .int y, .ref O] G (fun o G2 => ∃ k v G1, k < 4 ∧ o = .inl (some (.int (nI k))) ∧ R k v G1 ∧ (k = 0 → ∃ ov, ov 0 = v.toInt64 ∧ G2 = gs G1 O (aJ 1 ov)) ∧ (k ≠ 0 → G2 = G1)) := by
  obtain ⟨vs, hB⟩ := hB
  obtain ⟨ov, hO⟩ := hO
  refine Ct.introH rfl (by decide) [.ref B, .int x, .int y, .ref O, .float 0] (by simp [Value.category]) (Nat.le_of_ble_eq_true rfl) rfl ?_
  refine w_aload_n dL_steps_0 rfl ?_
  refine w_iconst (v := nI 0) dL_steps_1 (by decide) ?_
  refine w_aload_n dL_steps_2 rfl ?_
  refine w_iload_n dL_steps_3 rfl ?_
  refine w_iload_n dL_steps_4 rfl ?_
  refine wc_V (rest := [.int (nI 0), .ref O]) dL_steps_5 lk_L_37 rfl (by rfl) hB rfl rfl (Nat.le_refl _) hc rfl (by simp [Value.category]) (by simp) (by simp) ?_ ?_
  · intro v G1 hq
    obtain ⟨k, v9, hk, hx, hr⟩ := hq
    by_cases h0 : k = 0
    · have e := hx.1 h0
      cases e
      refine w_i2l dL_steps_8 ?_
      refine w_lastore dL_steps_9 ((hR _ _ _ hr).trans hO) (vp_in_nI (by omega) (by omega)) ?_
      refine w_goto (tgt := 17) dL_steps_10 (by decide) ?_
      refine w_iconst (v := nI 0) dL_steps_17 (by decide) ?_
      refine w_iret dL_steps_18 rfl (by simp) (by simp) ?_
      exact ⟨k, v9, G1, by omega, by rw [h0], hr, fun _ => ⟨_, upd0 rfl, rfl⟩, fun c => absurd h0 c⟩
    · exfalso
      match k, h0, hk, hx with
      | 1, _, _, hx => exact absurd (hx.2 0 _ rfl rfl) (by simp)
  · intro X G1 hq
    obtain ⟨k, v9, hk, hx, hr⟩ := hq
    match k, hk, hx, hr with
    | 0, _, hx, _ => exact absurd (hx.1 rfl) (by simp)
    | 1, _, hx, hr =>
      have e := hx.2 0 _ rfl rfl
      cases e
      refine wx_catch (pre := []) (suf := []) (k := 4) rfl (by intro z hz; cases hz) (by decide) (by decide) u_929 un_941 (Or.inr ⟨rfl, dL_steps_13⟩) (by simp) (by intro w _ hw; simp at hw; subst hw; rfl) ?_
      refine w_iconst (v := nI 1) dL_steps_15 (by decide) ?_
      refine w_iret dL_steps_16 rfl (by simp) (by simp) ?_
      exact ⟨1, v9, G1, by decide, rfl, hr, fun c => absurd c (by decide), fun _ => rfl⟩
theorem w_carry {x y : Int32} (hB : ∃ vs, G.1 B = some (oB 7 vs)) (hO : ∃ ov : Nat → Int64, G.1 O = some (aJ 1 ov)) (hR : ∀ k v G1, R k v G1 → G1.1 O = G.1 O)
    (hc : Ct E 10 2 12 kX7_carry [.ref B, .int x, .int y] G (fun o G1 => ∃ k v, k ≤ 1 ∧ XOut ["java/lang/IndexOutOfBoundsException"] k v o ∧ R k v G1)) :
    Ct E 11 2 12 kL_carry [.ref B, .int x, .int y, .ref O] G (fun o G2 => ∃ k v G1, k < 4 ∧ o = .inl (some (.int (nI k))) ∧ R k v G1 ∧ (k = 0 → ∃ ov, ov 0 = v.toInt64 ∧ G2 = gs G1 O (aJ 1 ov)) ∧ (k ≠ 0 → G2 = G1)) := by
  obtain ⟨vs, hB⟩ := hB
  obtain ⟨ov, hO⟩ := hO
  refine Ct.introH rfl (by decide) [.ref B, .int x, .int y, .ref O, .float 0] (by simp [Value.category]) (Nat.le_of_ble_eq_true rfl) rfl ?_
  refine w_aload_n dL_carry_0 rfl ?_
  refine w_iconst (v := nI 0) dL_carry_1 (by decide) ?_
  refine w_aload_n dL_carry_2 rfl ?_
  refine w_iload_n dL_carry_3 rfl ?_
  refine w_iload_n dL_carry_4 rfl ?_
  refine wc_V (rest := [.int (nI 0), .ref O]) dL_carry_5 lk_L_40 rfl (by rfl) hB rfl rfl (Nat.le_refl _) hc rfl (by simp [Value.category]) (by simp) (by simp) ?_ ?_
  · intro v G1 hq
    obtain ⟨k, v9, hk, hx, hr⟩ := hq
    by_cases h0 : k = 0
    · have e := hx.1 h0
      cases e
      refine w_i2l dL_carry_8 ?_
      refine w_lastore dL_carry_9 ((hR _ _ _ hr).trans hO) (vp_in_nI (by omega) (by omega)) ?_
      refine w_goto (tgt := 17) dL_carry_10 (by decide) ?_
      refine w_iconst (v := nI 0) dL_carry_17 (by decide) ?_
      refine w_iret dL_carry_18 rfl (by simp) (by simp) ?_
      exact ⟨k, v9, G1, by omega, by rw [h0], hr, fun _ => ⟨_, upd0 rfl, rfl⟩, fun c => absurd h0 c⟩
    · exfalso
      match k, h0, hk, hx with
      | 1, _, _, hx => exact absurd (hx.2 0 _ rfl rfl) (by simp)
  · intro X G1 hq
    obtain ⟨k, v9, hk, hx, hr⟩ := hq
    match k, hk, hx, hr with
    | 0, _, hx, _ => exact absurd (hx.1 rfl) (by simp)
    | 1, _, hx, hr =>
      have e := hx.2 0 _ rfl rfl
      cases e
      refine wx_catch (pre := []) (suf := []) (k := 4) rfl (by intro z hz; cases hz) (by decide) (by decide) u_929 un_941 (Or.inr ⟨rfl, dL_carry_13⟩) (by simp) (by intro w _ hw; simp at hw; subst hw; rfl) ?_
      refine w_iconst (v := nI 1) dL_carry_15 (by decide) ?_
      refine w_iret dL_carry_16 rfl (by simp) (by simp) ?_
      exact ⟨1, v9, G1, by decide, rfl, hr, fun c => absurd c (by decide), fun _ => rfl⟩
theorem w_mend {x : Int32} (hB : ∃ vs, G.1 B = some (oB 7 vs)) (hO : ∃ ov : Nat → Int64, G.1 O = some (aJ 1 ov)) (hR : ∀ k v G1, R k v G1 → G1.1 O = G.1 O)
    (hc : Ct E 10 1 6 kX7_mend [.ref B, .int x] G (fun o G1 => ∃ k v, k ≤ 1 ∧ XOut ["java/lang/IndexOutOfBoundsException"] k v o ∧ R k v G1)) :
    Ct E 11 1 6 kL_mend [.ref B, .int x, .ref O] G (fun o G2 => ∃ k v G1, k < 4 ∧ o = .inl (some (.int (nI k))) ∧ R k v G1 ∧ (k = 0 → ∃ ov, ov 0 = v.toInt64 ∧ G2 = gs G1 O (aJ 1 ov)) ∧ (k ≠ 0 → G2 = G1)) := by
  obtain ⟨vs, hB⟩ := hB
  obtain ⟨ov, hO⟩ := hO
  refine Ct.introH rfl (by decide) [.ref B, .int x, .ref O, .float 0] (by simp [Value.category]) (Nat.le_of_ble_eq_true rfl) rfl ?_
  refine w_aload_n dL_mend_0 rfl ?_
  refine w_iconst (v := nI 0) dL_mend_1 (by decide) ?_
  refine w_aload_n dL_mend_2 rfl ?_
  refine w_iload_n dL_mend_3 rfl ?_
  refine wc_V (rest := [.int (nI 0), .ref O]) dL_mend_4 lk_L_43 rfl (by rfl) hB rfl rfl (Nat.le_refl _) hc rfl (by simp [Value.category]) (by simp) (by simp) ?_ ?_
  · intro v G1 hq
    obtain ⟨k, v9, hk, hx, hr⟩ := hq
    by_cases h0 : k = 0
    · have e := hx.1 h0
      cases e
      refine w_i2l dL_mend_7 ?_
      refine w_lastore dL_mend_8 ((hR _ _ _ hr).trans hO) (vp_in_nI (by omega) (by omega)) ?_
      refine w_goto (tgt := 15) dL_mend_9 (by decide) ?_
      refine w_iconst (v := nI 0) dL_mend_15 (by decide) ?_
      refine w_iret dL_mend_16 rfl (by simp) (by simp) ?_
      exact ⟨k, v9, G1, by omega, by rw [h0], hr, fun _ => ⟨_, upd0 rfl, rfl⟩, fun c => absurd h0 c⟩
    · exfalso
      match k, h0, hk, hx with
      | 1, _, _, hx => exact absurd (hx.2 0 _ rfl rfl) (by simp)
  · intro X G1 hq
    obtain ⟨k, v9, hk, hx, hr⟩ := hq
    match k, hk, hx, hr with
    | 0, _, hx, _ => exact absurd (hx.1 rfl) (by simp)
    | 1, _, hx, hr =>
      have e := hx.2 0 _ rfl rfl
      cases e
      refine wx_catch (pre := []) (suf := []) (k := 3) rfl (by intro z hz; cases hz) (by decide) (by decide) u_929 un_941 (Or.inl ⟨3, rfl, rfl, dL_mend_12⟩) (by simp) (by intro w _ hw; simp at hw; subst hw; rfl) ?_
      refine w_iconst (v := nI 1) dL_mend_13 (by decide) ?_
      refine w_iret dL_mend_14 rfl (by simp) (by simp) ?_
      exact ⟨1, v9, G1, by decide, rfl, hr, fun c => absurd c (by decide), fun _ => rfl⟩
theorem w_sweep {x : Int32} (hB : ∃ vs, G.1 B = some (oB 7 vs)) (hO : ∃ ov : Nat → Int64, G.1 O = some (aJ 1 ov)) (hR : ∀ k v G1, R k v G1 → G1.1 O = G.1 O)
    (hc : Ct E 10 1 6 kX7_sweep [.ref B, .int x] G (fun o G1 => ∃ k v, k ≤ 1 ∧ XOut ["java/lang/IndexOutOfBoundsException"] k v o ∧ R k v G1)) :
    Ct E 11 1 6 kL_sweep [.ref B, .int x, .ref O] G (fun o G2 => ∃ k v G1, k < 4 ∧ o = .inl (some (.int (nI k))) ∧ R k v G1 ∧ (k = 0 → ∃ ov, ov 0 = v.toInt64 ∧ G2 = gs G1 O (aJ 1 ov)) ∧ (k ≠ 0 → G2 = G1)) := by
  obtain ⟨vs, hB⟩ := hB
  obtain ⟨ov, hO⟩ := hO
  refine Ct.introH rfl (by decide) [.ref B, .int x, .ref O, .float 0] (by simp [Value.category]) (Nat.le_of_ble_eq_true rfl) rfl ?_
  refine w_aload_n dL_sweep_0 rfl ?_
  refine w_iconst (v := nI 0) dL_sweep_1 (by decide) ?_
  refine w_aload_n dL_sweep_2 rfl ?_
  refine w_iload_n dL_sweep_3 rfl ?_
  refine wc_V (rest := [.int (nI 0), .ref O]) dL_sweep_4 lk_L_47 rfl (by rfl) hB rfl rfl (Nat.le_refl _) hc rfl (by simp [Value.category]) (by simp) (by simp) ?_ ?_
  · intro v G1 hq
    obtain ⟨k, v9, hk, hx, hr⟩ := hq
    by_cases h0 : k = 0
    · have e := hx.1 h0
      cases e
      refine w_i2l dL_sweep_7 ?_
      refine w_lastore dL_sweep_8 ((hR _ _ _ hr).trans hO) (vp_in_nI (by omega) (by omega)) ?_
      refine w_goto (tgt := 15) dL_sweep_9 (by decide) ?_
      refine w_iconst (v := nI 0) dL_sweep_15 (by decide) ?_
      refine w_iret dL_sweep_16 rfl (by simp) (by simp) ?_
      exact ⟨k, v9, G1, by omega, by rw [h0], hr, fun _ => ⟨_, upd0 rfl, rfl⟩, fun c => absurd h0 c⟩
    · exfalso
      match k, h0, hk, hx with
      | 1, _, _, hx => exact absurd (hx.2 0 _ rfl rfl) (by simp)
  · intro X G1 hq
    obtain ⟨k, v9, hk, hx, hr⟩ := hq
    match k, hk, hx, hr with
    | 0, _, hx, _ => exact absurd (hx.1 rfl) (by simp)
    | 1, _, hx, hr =>
      have e := hx.2 0 _ rfl rfl
      cases e
      refine wx_catch (pre := []) (suf := []) (k := 3) rfl (by intro z hz; cases hz) (by decide) (by decide) u_929 un_941 (Or.inl ⟨3, rfl, rfl, dL_sweep_12⟩) (by simp) (by intro w _ hw; simp at hw; subst hw; rfl) ?_
      refine w_iconst (v := nI 1) dL_sweep_13 (by decide) ?_
      refine w_iret dL_sweep_14 rfl (by simp) (by simp) ?_
      exact ⟨1, v9, G1, by decide, rfl, hr, fun c => absurd c (by decide), fun _ => rfl⟩
theorem w_pay {x y : Int32} (hB : ∃ vs, G.1 B = some (oB 7 vs)) (hO : ∃ ov : Nat → Int64, G.1 O = some (aJ 1 ov)) (hR : ∀ k v G1, R k v G1 → G1.1 O = G.1 O)
    (hc : Ct E 10 2 12 kX7_pay [.ref B, .int x, .int y] G (fun o G1 => ∃ k v, k ≤ 2 ∧ XOut ["java/lang/IndexOutOfBoundsException", "java/lang/IllegalArgumentException"] k v o ∧ R k v G1)) :
    Ct E 11 2 12 kL_pay [.ref B, .int x, .int y, .ref O] G (fun o G2 => ∃ k v G1, k < 4 ∧ o = .inl (some (.int (nI k))) ∧ R k v G1 ∧ (k = 0 → ∃ ov, ov 0 = v.toInt64 ∧ G2 = gs G1 O (aJ 1 ov)) ∧ (k ≠ 0 → G2 = G1)) := by
  obtain ⟨vs, hB⟩ := hB
  obtain ⟨ov, hO⟩ := hO
  refine Ct.introH rfl (by decide) [.ref B, .int x, .int y, .ref O, .float 0] (by simp [Value.category]) (Nat.le_of_ble_eq_true rfl) rfl ?_
  refine w_aload_n dL_pay_0 rfl ?_
  refine w_iconst (v := nI 0) dL_pay_1 (by decide) ?_
  refine w_aload_n dL_pay_2 rfl ?_
  refine w_iload_n dL_pay_3 rfl ?_
  refine w_iload_n dL_pay_4 rfl ?_
  refine wc_V (rest := [.int (nI 0), .ref O]) dL_pay_5 lk_L_50 rfl (by rfl) hB rfl rfl (Nat.le_refl _) hc rfl (by simp [Value.category]) (by simp) (by simp) ?_ ?_
  · intro v G1 hq
    obtain ⟨k, v9, hk, hx, hr⟩ := hq
    by_cases h0 : k = 0
    · have e := hx.1 h0
      cases e
      refine w_i2l dL_pay_8 ?_
      refine w_lastore dL_pay_9 ((hR _ _ _ hr).trans hO) (vp_in_nI (by omega) (by omega)) ?_
      refine w_goto (tgt := 21) dL_pay_10 (by decide) ?_
      refine w_iconst (v := nI 0) dL_pay_21 (by decide) ?_
      refine w_iret dL_pay_22 rfl (by simp) (by simp) ?_
      exact ⟨k, v9, G1, by omega, by rw [h0], hr, fun _ => ⟨_, upd0 rfl, rfl⟩, fun c => absurd h0 c⟩
    · exfalso
      match k, h0, hk, hx with
      | 1, _, _, hx => exact absurd (hx.2 0 _ rfl rfl) (by simp)
      | 2, _, _, hx => exact absurd (hx.2 1 _ rfl rfl) (by simp)
  · intro X G1 hq
    obtain ⟨k, v9, hk, hx, hr⟩ := hq
    match k, hk, hx, hr with
    | 0, _, hx, _ => exact absurd (hx.1 rfl) (by simp)
    | 1, _, hx, hr =>
      have e := hx.2 0 _ rfl rfl
      cases e
      refine wx_catch (pre := []) (suf := [(0, 10, 17, 13)]) (k := 4) rfl (by intro z hz; cases hz) (by decide) (by decide) u_929 un_941 (Or.inr ⟨rfl, dL_pay_13⟩) (by simp) (by intro w _ hw; simp at hw; subst hw; rfl) ?_
      refine w_iconst (v := nI 1) dL_pay_15 (by decide) ?_
      refine w_iret dL_pay_16 rfl (by simp) (by simp) ?_
      exact ⟨1, v9, G1, by decide, rfl, hr, fun c => absurd c (by decide), fun _ => rfl⟩
    | 2, _, hx, hr =>
      have e := hx.2 1 _ rfl rfl
      cases e
      refine wx_catch (pre := [(0, 10, 13, 24)]) (suf := []) (k := 4) rfl (by
        intro z hz
        simp only [List.mem_cons, List.not_mem_nil, or_false] at hz
        rcases hz with rfl
        · exact ⟨by decide, _, u_929, by decide⟩) (by decide) (by decide) u_609 un_747 (Or.inr ⟨rfl, dL_pay_17⟩) (by simp) (by intro w _ hw; simp at hw; subst hw; rfl) ?_
      refine w_iconst (v := nI 2) dL_pay_19 (by decide) ?_
      refine w_iret dL_pay_20 rfl (by simp) (by simp) ?_
      exact ⟨2, v9, G1, by decide, rfl, hr, fun c => absurd c (by decide), fun _ => rfl⟩
theorem w_days {x : Int32} (hB : ∃ vs, G.1 B = some (oB 7 vs)) (hO : ∃ ov : Nat → Int64, G.1 O = some (aJ 1 ov)) (hR : ∀ k v G1, R k v G1 → G1.1 O = G.1 O)
    (hc : Ct E 10 1 6 kX7_days [.ref B, .int x] G (fun o G1 => ∃ k v, k ≤ 1 ∧ XOut ["java/lang/IllegalArgumentException"] k v o ∧ R k v G1)) :
    Ct E 11 1 6 kL_days [.ref B, .int x, .ref O] G (fun o G2 => ∃ k v G1, k < 4 ∧ o = .inl (some (.int (nI k))) ∧ R k v G1 ∧ (k = 0 → ∃ ov, ov 0 = v.toInt64 ∧ G2 = gs G1 O (aJ 1 ov)) ∧ (k ≠ 0 → G2 = G1)) := by
  obtain ⟨vs, hB⟩ := hB
  obtain ⟨ov, hO⟩ := hO
  refine Ct.introH rfl (by decide) [.ref B, .int x, .ref O, .float 0] (by simp [Value.category]) (Nat.le_of_ble_eq_true rfl) rfl ?_
  refine w_aload_n dL_days_0 rfl ?_
  refine w_iconst (v := nI 0) dL_days_1 (by decide) ?_
  refine w_aload_n dL_days_2 rfl ?_
  refine w_iload_n dL_days_3 rfl ?_
  refine wc_V (rest := [.int (nI 0), .ref O]) dL_days_4 lk_L_53 rfl (by rfl) hB rfl rfl (Nat.le_refl _) hc rfl (by simp [Value.category]) (by simp) (by simp) ?_ ?_
  · intro v G1 hq
    obtain ⟨k, v9, hk, hx, hr⟩ := hq
    by_cases h0 : k = 0
    · have e := hx.1 h0
      cases e
      refine w_i2l dL_days_7 ?_
      refine w_lastore dL_days_8 ((hR _ _ _ hr).trans hO) (vp_in_nI (by omega) (by omega)) ?_
      refine w_goto (tgt := 15) dL_days_9 (by decide) ?_
      refine w_iconst (v := nI 0) dL_days_15 (by decide) ?_
      refine w_iret dL_days_16 rfl (by simp) (by simp) ?_
      exact ⟨k, v9, G1, by omega, by rw [h0], hr, fun _ => ⟨_, upd0 rfl, rfl⟩, fun c => absurd h0 c⟩
    · exfalso
      match k, h0, hk, hx with
      | 1, _, _, hx => exact absurd (hx.2 0 _ rfl rfl) (by simp)
  · intro X G1 hq
    obtain ⟨k, v9, hk, hx, hr⟩ := hq
    match k, hk, hx, hr with
    | 0, _, hx, _ => exact absurd (hx.1 rfl) (by simp)
    | 1, _, hx, hr =>
      have e := hx.2 0 _ rfl rfl
      cases e
      refine wx_catch (pre := []) (suf := []) (k := 3) rfl (by intro z hz; cases hz) (by decide) (by decide) u_609 un_747 (Or.inl ⟨3, rfl, rfl, dL_days_12⟩) (by simp) (by intro w _ hw; simp at hw; subst hw; rfl) ?_
      refine w_iconst (v := nI 1) dL_days_13 (by decide) ?_
      refine w_iret dL_days_14 rfl (by simp) (by simp) ?_
      exact ⟨1, v9, G1, by decide, rfl, hr, fun c => absurd c (by decide), fun _ => rfl⟩
theorem w_ahead {x y z : Int32} (hB : ∃ vs, G.1 B = some (oB 7 vs)) (hO : ∃ ov : Nat → Int64, G.1 O = some (aJ 1 ov)) (hR : ∀ k v G1, R k v G1 → G1.1 O = G.1 O)
    (hc : Ct E 10 3 18 kX7_ahead [.ref B, .int x, .int y, .int z] G (fun o G1 => ∃ k v, k ≤ 3 ∧ XOut ["java/lang/IndexOutOfBoundsException", "java/lang/IllegalArgumentException", "java/util/NoSuchElementException"] k v o ∧ R k v G1)) :
    Ct E 11 3 18 kL_ahead [.ref B, .int x, .int y, .int z, .ref O] G (fun o G2 => ∃ k v G1, k < 4 ∧ o = .inl (some (.int (nI k))) ∧ R k v G1 ∧ (k = 0 → ∃ ov, ov 0 = v.toInt64 ∧ G2 = gs G1 O (aJ 1 ov)) ∧ (k ≠ 0 → G2 = G1)) := by
  obtain ⟨vs, hB⟩ := hB
  obtain ⟨ov, hO⟩ := hO
  refine Ct.introH rfl (by decide) [.ref B, .int x, .int y, .int z, .ref O, .float 0] (by simp [Value.category]) (Nat.le_of_ble_eq_true rfl) rfl ?_
  refine w_aload dL_ahead_0 rfl ?_
  refine w_iconst (v := nI 0) dL_ahead_2 (by decide) ?_
  refine w_aload_n dL_ahead_3 rfl ?_
  refine w_iload_n dL_ahead_4 rfl ?_
  refine w_iload_n dL_ahead_5 rfl ?_
  refine w_iload_n dL_ahead_6 rfl ?_
  refine wc_V (rest := [.int (nI 0), .ref O]) dL_ahead_7 lk_L_56 rfl (by rfl) hB rfl rfl (Nat.le_refl _) hc rfl (by simp [Value.category]) (by simp) (by simp) ?_ ?_
  · intro v G1 hq
    obtain ⟨k, v9, hk, hx, hr⟩ := hq
    by_cases h0 : k = 0
    · have e := hx.1 h0
      cases e
      refine w_i2l dL_ahead_10 ?_
      refine w_lastore dL_ahead_11 ((hR _ _ _ hr).trans hO) (vp_in_nI (by omega) (by omega)) ?_
      refine w_goto (tgt := 27) dL_ahead_12 (by decide) ?_
      refine w_iconst (v := nI 0) dL_ahead_27 (by decide) ?_
      refine w_iret dL_ahead_28 rfl (by simp) (by simp) ?_
      exact ⟨k, v9, G1, by omega, by rw [h0], hr, fun _ => ⟨_, upd0 rfl, rfl⟩, fun c => absurd h0 c⟩
    · exfalso
      match k, h0, hk, hx with
      | 1, _, _, hx => exact absurd (hx.2 0 _ rfl rfl) (by simp)
      | 2, _, _, hx => exact absurd (hx.2 1 _ rfl rfl) (by simp)
      | 3, _, _, hx => exact absurd (hx.2 2 _ rfl rfl) (by simp)
  · intro X G1 hq
    obtain ⟨k, v9, hk, hx, hr⟩ := hq
    match k, hk, hx, hr with
    | 0, _, hx, _ => exact absurd (hx.1 rfl) (by simp)
    | 1, _, hx, hr =>
      have e := hx.2 0 _ rfl rfl
      cases e
      refine wx_catch (pre := []) (suf := [(0, 12, 19, 13), (0, 12, 23, 26)]) (k := 5) rfl (by intro z hz; cases hz) (by decide) (by decide) u_929 un_941 (Or.inr ⟨rfl, dL_ahead_15⟩) (by simp) (by intro w _ hw; simp at hw; subst hw; rfl) ?_
      refine w_iconst (v := nI 1) dL_ahead_17 (by decide) ?_
      refine w_iret dL_ahead_18 rfl (by simp) (by simp) ?_
      exact ⟨1, v9, G1, by decide, rfl, hr, fun c => absurd c (by decide), fun _ => rfl⟩
    | 2, _, hx, hr =>
      have e := hx.2 1 _ rfl rfl
      cases e
      refine wx_catch (pre := [(0, 12, 15, 24)]) (suf := [(0, 12, 23, 26)]) (k := 5) rfl (by
        intro z hz
        simp only [List.mem_cons, List.not_mem_nil, or_false] at hz
        rcases hz with rfl
        · exact ⟨by decide, _, u_929, by decide⟩) (by decide) (by decide) u_609 un_747 (Or.inr ⟨rfl, dL_ahead_19⟩) (by simp) (by intro w _ hw; simp at hw; subst hw; rfl) ?_
      refine w_iconst (v := nI 2) dL_ahead_21 (by decide) ?_
      refine w_iret dL_ahead_22 rfl (by simp) (by simp) ?_
      exact ⟨2, v9, G1, by decide, rfl, hr, fun c => absurd c (by decide), fun _ => rfl⟩
    | 3, _, hx, hr =>
      have e := hx.2 2 _ rfl rfl
      cases e
      refine wx_catch (pre := [(0, 12, 15, 24), (0, 12, 19, 13)]) (suf := []) (k := 5) rfl (by
        intro z hz
        simp only [List.mem_cons, List.not_mem_nil, or_false] at hz
        rcases hz with rfl | rfl
        · exact ⟨by decide, _, u_929, by decide⟩
        · exact ⟨by decide, _, u_609, by decide⟩) (by decide) (by decide) u_930 un_960 (Or.inr ⟨rfl, dL_ahead_23⟩) (by simp) (by intro w _ hw; simp at hw; subst hw; rfl) ?_
      refine w_iconst (v := nI 3) dL_ahead_25 (by decide) ?_
      refine w_iret dL_ahead_26 rfl (by simp) (by simp) ?_
      exact ⟨3, v9, G1, by decide, rfl, hr, fun c => absurd c (by decide), fun _ => rfl⟩
theorem w_worst {x : Int32} (hB : ∃ vs, G.1 B = some (oB 7 vs)) (hO : ∃ ov : Nat → Int64, G.1 O = some (aJ 1 ov)) (hR : ∀ k v G1, R k v G1 → G1.1 O = G.1 O)
    (hc : Ct E 10 1 6 kX7_worst [.ref B, .int x] G (fun o G1 => ∃ k v, k ≤ 1 ∧ XOut ["java/lang/IllegalArgumentException"] k v o ∧ R k v G1)) :
    Ct E 11 1 6 kL_worst [.ref B, .int x, .ref O] G (fun o G2 => ∃ k v G1, k < 4 ∧ o = .inl (some (.int (nI k))) ∧ R k v G1 ∧ (k = 0 → ∃ ov, ov 0 = v.toInt64 ∧ G2 = gs G1 O (aJ 1 ov)) ∧ (k ≠ 0 → G2 = G1)) := by
  obtain ⟨vs, hB⟩ := hB
  obtain ⟨ov, hO⟩ := hO
  refine Ct.introH rfl (by decide) [.ref B, .int x, .ref O, .float 0] (by simp [Value.category]) (Nat.le_of_ble_eq_true rfl) rfl ?_
  refine w_aload_n dL_worst_0 rfl ?_
  refine w_iconst (v := nI 0) dL_worst_1 (by decide) ?_
  refine w_aload_n dL_worst_2 rfl ?_
  refine w_iload_n dL_worst_3 rfl ?_
  refine wc_V (rest := [.int (nI 0), .ref O]) dL_worst_4 lk_L_60 rfl (by rfl) hB rfl rfl (Nat.le_refl _) hc rfl (by simp [Value.category]) (by simp) (by simp) ?_ ?_
  · intro v G1 hq
    obtain ⟨k, v9, hk, hx, hr⟩ := hq
    by_cases h0 : k = 0
    · have e := hx.1 h0
      cases e
      refine w_i2l dL_worst_7 ?_
      refine w_lastore dL_worst_8 ((hR _ _ _ hr).trans hO) (vp_in_nI (by omega) (by omega)) ?_
      refine w_goto (tgt := 15) dL_worst_9 (by decide) ?_
      refine w_iconst (v := nI 0) dL_worst_15 (by decide) ?_
      refine w_iret dL_worst_16 rfl (by simp) (by simp) ?_
      exact ⟨k, v9, G1, by omega, by rw [h0], hr, fun _ => ⟨_, upd0 rfl, rfl⟩, fun c => absurd h0 c⟩
    · exfalso
      match k, h0, hk, hx with
      | 1, _, _, hx => exact absurd (hx.2 0 _ rfl rfl) (by simp)
  · intro X G1 hq
    obtain ⟨k, v9, hk, hx, hr⟩ := hq
    match k, hk, hx, hr with
    | 0, _, hx, _ => exact absurd (hx.1 rfl) (by simp)
    | 1, _, hx, hr =>
      have e := hx.2 0 _ rfl rfl
      cases e
      refine wx_catch (pre := []) (suf := []) (k := 3) rfl (by intro z hz; cases hz) (by decide) (by decide) u_609 un_747 (Or.inl ⟨3, rfl, rfl, dL_worst_12⟩) (by simp) (by intro w _ hw; simp at hw; subst hw; rfl) ?_
      refine w_iconst (v := nI 1) dL_worst_13 (by decide) ?_
      refine w_iret dL_worst_14 rfl (by simp) (by simp) ?_
      exact ⟨1, v9, G1, by decide, rfl, hr, fun c => absurd c (by decide), fun _ => rfl⟩
theorem w_saves {x y : Int32} (hB : ∃ vs, G.1 B = some (oB 7 vs)) (hO : ∃ ov : Nat → Int64, G.1 O = some (aJ 1 ov)) (hR : ∀ k v G1, R k v G1 → G1.1 O = G.1 O)
    (hc : Ct E 10 1 6 kX7_saves [.ref B, .int x, .int y] G (fun o G1 => ∃ k v, k ≤ 1 ∧ XOut ["java/lang/IllegalArgumentException"] k v o ∧ R k v G1)) :
    Ct E 11 1 6 kL_saves [.ref B, .int x, .int y, .ref O] G (fun o G2 => ∃ k v G1, k < 4 ∧ o = .inl (some (.int (nI k))) ∧ R k v G1 ∧ (k = 0 → ∃ ov, ov 0 = v.toInt64 ∧ G2 = gs G1 O (aJ 1 ov)) ∧ (k ≠ 0 → G2 = G1)) := by
  obtain ⟨vs, hB⟩ := hB
  obtain ⟨ov, hO⟩ := hO
  refine Ct.introH rfl (by decide) [.ref B, .int x, .int y, .ref O, .float 0] (by simp [Value.category]) (Nat.le_of_ble_eq_true rfl) rfl ?_
  refine w_aload_n dL_saves_0 rfl ?_
  refine w_iconst (v := nI 0) dL_saves_1 (by decide) ?_
  refine w_aload_n dL_saves_2 rfl ?_
  refine w_iload_n dL_saves_3 rfl ?_
  refine w_iload_n dL_saves_4 rfl ?_
  refine wc_V (rest := [.int (nI 0), .ref O]) dL_saves_5 lk_L_63 rfl (by rfl) hB rfl rfl (Nat.le_refl _) hc rfl (by simp [Value.category]) (by simp) (by simp) ?_ ?_
  · intro v G1 hq
    obtain ⟨k, v9, hk, hx, hr⟩ := hq
    by_cases h0 : k = 0
    · have e := hx.1 h0
      cases e
      refine w_i2l dL_saves_8 ?_
      refine w_lastore dL_saves_9 ((hR _ _ _ hr).trans hO) (vp_in_nI (by omega) (by omega)) ?_
      refine w_goto (tgt := 17) dL_saves_10 (by decide) ?_
      refine w_iconst (v := nI 0) dL_saves_17 (by decide) ?_
      refine w_iret dL_saves_18 rfl (by simp) (by simp) ?_
      exact ⟨k, v9, G1, by omega, by rw [h0], hr, fun _ => ⟨_, upd0 rfl, rfl⟩, fun c => absurd h0 c⟩
    · exfalso
      match k, h0, hk, hx with
      | 1, _, _, hx => exact absurd (hx.2 0 _ rfl rfl) (by simp)
  · intro X G1 hq
    obtain ⟨k, v9, hk, hx, hr⟩ := hq
    match k, hk, hx, hr with
    | 0, _, hx, _ => exact absurd (hx.1 rfl) (by simp)
    | 1, _, hx, hr =>
      have e := hx.2 0 _ rfl rfl
      cases e
      refine wx_catch (pre := []) (suf := []) (k := 4) rfl (by intro z hz; cases hz) (by decide) (by decide) u_609 un_747 (Or.inr ⟨rfl, dL_saves_13⟩) (by simp) (by intro w _ hw; simp at hw; subst hw; rfl) ?_
      refine w_iconst (v := nI 1) dL_saves_15 (by decide) ?_
      refine w_iret dL_saves_16 rfl (by simp) (by simp) ?_
      exact ⟨1, v9, G1, by decide, rfl, hr, fun c => absurd c (by decide), fun _ => rfl⟩
theorem w_calm {x y : Int32} (hB : ∃ vs, G.1 B = some (oB 7 vs)) (hO : ∃ ov : Nat → Int64, G.1 O = some (aJ 1 ov)) (hR : ∀ k v G1, R k v G1 → G1.1 O = G.1 O)
    (hc : Ct E 10 1 6 kX7_calm [.ref B, .int x, .int y] G (fun o G1 => ∃ k v, k ≤ 1 ∧ XOut ["java/lang/IllegalArgumentException"] k v o ∧ R k v G1)) :
    Ct E 11 1 6 kL_calm [.ref B, .int x, .int y, .ref O] G (fun o G2 => ∃ k v G1, k < 4 ∧ o = .inl (some (.int (nI k))) ∧ R k v G1 ∧ (k = 0 → ∃ ov, ov 0 = v.toInt64 ∧ G2 = gs G1 O (aJ 1 ov)) ∧ (k ≠ 0 → G2 = G1)) := by
  obtain ⟨vs, hB⟩ := hB
  obtain ⟨ov, hO⟩ := hO
  refine Ct.introH rfl (by decide) [.ref B, .int x, .int y, .ref O, .float 0] (by simp [Value.category]) (Nat.le_of_ble_eq_true rfl) rfl ?_
  refine w_aload_n dL_calm_0 rfl ?_
  refine w_iconst (v := nI 0) dL_calm_1 (by decide) ?_
  refine w_aload_n dL_calm_2 rfl ?_
  refine w_iload_n dL_calm_3 rfl ?_
  refine w_iload_n dL_calm_4 rfl ?_
  refine wc_V (rest := [.int (nI 0), .ref O]) dL_calm_5 lk_L_67 rfl (by rfl) hB rfl rfl (Nat.le_refl _) hc rfl (by simp [Value.category]) (by simp) (by simp) ?_ ?_
  · intro v G1 hq
    obtain ⟨k, v9, hk, hx, hr⟩ := hq
    by_cases h0 : k = 0
    · have e := hx.1 h0
      cases e
      refine w_i2l dL_calm_8 ?_
      refine w_lastore dL_calm_9 ((hR _ _ _ hr).trans hO) (vp_in_nI (by omega) (by omega)) ?_
      refine w_goto (tgt := 17) dL_calm_10 (by decide) ?_
      refine w_iconst (v := nI 0) dL_calm_17 (by decide) ?_
      refine w_iret dL_calm_18 rfl (by simp) (by simp) ?_
      exact ⟨k, v9, G1, by omega, by rw [h0], hr, fun _ => ⟨_, upd0 rfl, rfl⟩, fun c => absurd h0 c⟩
    · exfalso
      match k, h0, hk, hx with
      | 1, _, _, hx => exact absurd (hx.2 0 _ rfl rfl) (by simp)
  · intro X G1 hq
    obtain ⟨k, v9, hk, hx, hr⟩ := hq
    match k, hk, hx, hr with
    | 0, _, hx, _ => exact absurd (hx.1 rfl) (by simp)
    | 1, _, hx, hr =>
      have e := hx.2 0 _ rfl rfl
      cases e
      refine wx_catch (pre := []) (suf := []) (k := 4) rfl (by intro z hz; cases hz) (by decide) (by decide) u_609 un_747 (Or.inr ⟨rfl, dL_calm_13⟩) (by simp) (by intro w _ hw; simp at hw; subst hw; rfl) ?_
      refine w_iconst (v := nI 1) dL_calm_15 (by decide) ?_
      refine w_iret dL_calm_16 rfl (by simp) (by simp) ?_
      exact ⟨1, v9, G1, by decide, rfl, hr, fun c => absurd c (by decide), fun _ => rfl⟩
theorem w_boats {x y z : Int32} (hB : ∃ vs, G.1 B = some (oB 7 vs)) (hO : ∃ ov : Nat → Int64, G.1 O = some (aJ 1 ov)) (hR : ∀ k v G1, R k v G1 → G1.1 O = G.1 O)
    (hc : Ct E 10 3 18 kX7_boats [.ref B, .int x, .int y, .int z] G (fun o G1 => ∃ k v, k ≤ 1 ∧ XOut ["java/lang/IllegalArgumentException"] k v o ∧ R k v G1)) :
    Ct E 11 3 18 kL_boats [.ref B, .int x, .int y, .int z, .ref O] G (fun o G2 => ∃ k v G1, k < 4 ∧ o = .inl (some (.int (nI k))) ∧ R k v G1 ∧ (k = 0 → ∃ ov, ov 0 = v.toInt64 ∧ G2 = gs G1 O (aJ 1 ov)) ∧ (k ≠ 0 → G2 = G1)) := by
  obtain ⟨vs, hB⟩ := hB
  obtain ⟨ov, hO⟩ := hO
  refine Ct.introH rfl (by decide) [.ref B, .int x, .int y, .int z, .ref O, .float 0] (by simp [Value.category]) (Nat.le_of_ble_eq_true rfl) rfl ?_
  refine w_aload dL_boats_0 rfl ?_
  refine w_iconst (v := nI 0) dL_boats_2 (by decide) ?_
  refine w_aload_n dL_boats_3 rfl ?_
  refine w_iload_n dL_boats_4 rfl ?_
  refine w_iload_n dL_boats_5 rfl ?_
  refine w_iload_n dL_boats_6 rfl ?_
  refine wc_V (rest := [.int (nI 0), .ref O]) dL_boats_7 lk_L_70 rfl (by rfl) hB rfl rfl (Nat.le_refl _) hc rfl (by simp [Value.category]) (by simp) (by simp) ?_ ?_
  · intro v G1 hq
    obtain ⟨k, v9, hk, hx, hr⟩ := hq
    by_cases h0 : k = 0
    · have e := hx.1 h0
      cases e
      refine w_i2l dL_boats_10 ?_
      refine w_lastore dL_boats_11 ((hR _ _ _ hr).trans hO) (vp_in_nI (by omega) (by omega)) ?_
      refine w_goto (tgt := 19) dL_boats_12 (by decide) ?_
      refine w_iconst (v := nI 0) dL_boats_19 (by decide) ?_
      refine w_iret dL_boats_20 rfl (by simp) (by simp) ?_
      exact ⟨k, v9, G1, by omega, by rw [h0], hr, fun _ => ⟨_, upd0 rfl, rfl⟩, fun c => absurd h0 c⟩
    · exfalso
      match k, h0, hk, hx with
      | 1, _, _, hx => exact absurd (hx.2 0 _ rfl rfl) (by simp)
  · intro X G1 hq
    obtain ⟨k, v9, hk, hx, hr⟩ := hq
    match k, hk, hx, hr with
    | 0, _, hx, _ => exact absurd (hx.1 rfl) (by simp)
    | 1, _, hx, hr =>
      have e := hx.2 0 _ rfl rfl
      cases e
      refine wx_catch (pre := []) (suf := []) (k := 5) rfl (by intro z hz; cases hz) (by decide) (by decide) u_609 un_747 (Or.inr ⟨rfl, dL_boats_15⟩) (by simp) (by intro w _ hw; simp at hw; subst hw; rfl) ?_
      refine w_iconst (v := nI 1) dL_boats_17 (by decide) ?_
      refine w_iret dL_boats_18 rfl (by simp) (by simp) ?_
      exact ⟨1, v9, G1, by decide, rfl, hr, fun c => absurd c (by decide), fun _ => rfl⟩
theorem w_lighten {x : Int32} (hB : ∃ vs, G.1 B = some (oB 7 vs)) (hO : ∃ ov : Nat → Int64, G.1 O = some (aJ 1 ov)) (hR : ∀ k v G1, R k v G1 → G1.1 O = G.1 O)
    (hc : Ct E 10 1 6 kX7_lighten [.ref B, .int x] G (fun o G1 => ∃ k v, k ≤ 1 ∧ XOut ["java/lang/IllegalArgumentException"] k v o ∧ R k v G1)) :
    Ct E 11 1 6 kL_lighten [.ref B, .int x, .ref O] G (fun o G2 => ∃ k v G1, k < 4 ∧ o = .inl (some (.int (nI k))) ∧ R k v G1 ∧ (k = 0 → ∃ ov, ov 0 = v.toInt64 ∧ G2 = gs G1 O (aJ 1 ov)) ∧ (k ≠ 0 → G2 = G1)) := by
  obtain ⟨vs, hB⟩ := hB
  obtain ⟨ov, hO⟩ := hO
  refine Ct.introH rfl (by decide) [.ref B, .int x, .ref O, .float 0] (by simp [Value.category]) (Nat.le_of_ble_eq_true rfl) rfl ?_
  refine w_aload_n dL_lighten_0 rfl ?_
  refine w_iconst (v := nI 0) dL_lighten_1 (by decide) ?_
  refine w_aload_n dL_lighten_2 rfl ?_
  refine w_iload_n dL_lighten_3 rfl ?_
  refine wc_V (rest := [.int (nI 0), .ref O]) dL_lighten_4 lk_L_73 rfl (by rfl) hB rfl rfl (Nat.le_refl _) hc rfl (by simp [Value.category]) (by simp) (by simp) ?_ ?_
  · intro v G1 hq
    obtain ⟨k, v9, hk, hx, hr⟩ := hq
    by_cases h0 : k = 0
    · have e := hx.1 h0
      cases e
      refine w_i2l dL_lighten_7 ?_
      refine w_lastore dL_lighten_8 ((hR _ _ _ hr).trans hO) (vp_in_nI (by omega) (by omega)) ?_
      refine w_goto (tgt := 15) dL_lighten_9 (by decide) ?_
      refine w_iconst (v := nI 0) dL_lighten_15 (by decide) ?_
      refine w_iret dL_lighten_16 rfl (by simp) (by simp) ?_
      exact ⟨k, v9, G1, by omega, by rw [h0], hr, fun _ => ⟨_, upd0 rfl, rfl⟩, fun c => absurd h0 c⟩
    · exfalso
      match k, h0, hk, hx with
      | 1, _, _, hx => exact absurd (hx.2 0 _ rfl rfl) (by simp)
  · intro X G1 hq
    obtain ⟨k, v9, hk, hx, hr⟩ := hq
    match k, hk, hx, hr with
    | 0, _, hx, _ => exact absurd (hx.1 rfl) (by simp)
    | 1, _, hx, hr =>
      have e := hx.2 0 _ rfl rfl
      cases e
      refine wx_catch (pre := []) (suf := []) (k := 3) rfl (by intro z hz; cases hz) (by decide) (by decide) u_609 un_747 (Or.inl ⟨3, rfl, rfl, dL_lighten_12⟩) (by simp) (by intro w _ hw; simp at hw; subst hw; rfl) ?_
      refine w_iconst (v := nI 1) dL_lighten_13 (by decide) ?_
      refine w_iret dL_lighten_14 rfl (by simp) (by simp) ?_
      exact ⟨1, v9, G1, by decide, rfl, hr, fun c => absurd c (by decide), fun _ => rfl⟩
theorem w_wearing {x : Int32} (hB : ∃ vs, G.1 B = some (oB 7 vs)) (hO : ∃ ov : Nat → Int64, G.1 O = some (aJ 1 ov)) (hR : ∀ k v G1, R k v G1 → G1.1 O = G.1 O)
    (hc : Ct E 10 1 6 kX7_wearing [.ref B, .int x] G (fun o G1 => ∃ k v, k ≤ 1 ∧ XOut ["java/lang/IndexOutOfBoundsException"] k v o ∧ R k v G1)) :
    Ct E 11 1 6 kL_wearing [.ref B, .int x, .ref O] G (fun o G2 => ∃ k v G1, k < 4 ∧ o = .inl (some (.int (nI k))) ∧ R k v G1 ∧ (k = 0 → ∃ ov, ov 0 = v.toInt64 ∧ G2 = gs G1 O (aJ 1 ov)) ∧ (k ≠ 0 → G2 = G1)) := by
  obtain ⟨vs, hB⟩ := hB
  obtain ⟨ov, hO⟩ := hO
  refine Ct.introH rfl (by decide) [.ref B, .int x, .ref O, .float 0] (by simp [Value.category]) (Nat.le_of_ble_eq_true rfl) rfl ?_
  refine w_aload_n dL_wearing_0 rfl ?_
  refine w_iconst (v := nI 0) dL_wearing_1 (by decide) ?_
  refine w_aload_n dL_wearing_2 rfl ?_
  refine w_iload_n dL_wearing_3 rfl ?_
  refine wc_V (rest := [.int (nI 0), .ref O]) dL_wearing_4 lk_L_76 rfl (by rfl) hB rfl rfl (Nat.le_refl _) hc rfl (by simp [Value.category]) (by simp) (by simp) ?_ ?_
  · intro v G1 hq
    obtain ⟨k, v9, hk, hx, hr⟩ := hq
    by_cases h0 : k = 0
    · have e := hx.1 h0
      cases e
      refine w_i2l dL_wearing_7 ?_
      refine w_lastore dL_wearing_8 ((hR _ _ _ hr).trans hO) (vp_in_nI (by omega) (by omega)) ?_
      refine w_goto (tgt := 15) dL_wearing_9 (by decide) ?_
      refine w_iconst (v := nI 0) dL_wearing_15 (by decide) ?_
      refine w_iret dL_wearing_16 rfl (by simp) (by simp) ?_
      exact ⟨k, v9, G1, by omega, by rw [h0], hr, fun _ => ⟨_, upd0 rfl, rfl⟩, fun c => absurd h0 c⟩
    · exfalso
      match k, h0, hk, hx with
      | 1, _, _, hx => exact absurd (hx.2 0 _ rfl rfl) (by simp)
  · intro X G1 hq
    obtain ⟨k, v9, hk, hx, hr⟩ := hq
    match k, hk, hx, hr with
    | 0, _, hx, _ => exact absurd (hx.1 rfl) (by simp)
    | 1, _, hx, hr =>
      have e := hx.2 0 _ rfl rfl
      cases e
      refine wx_catch (pre := []) (suf := []) (k := 3) rfl (by intro z hz; cases hz) (by decide) (by decide) u_929 un_941 (Or.inl ⟨3, rfl, rfl, dL_wearing_12⟩) (by simp) (by intro w _ hw; simp at hw; subst hw; rfl) ?_
      refine w_iconst (v := nI 1) dL_wearing_13 (by decide) ?_
      refine w_iret dL_wearing_14 rfl (by simp) (by simp) ?_
      exact ⟨1, v9, G1, by decide, rfl, hr, fun c => absurd c (by decide), fun _ => rfl⟩
theorem w_meets {x y : Int32} (hB : ∃ vs, G.1 B = some (oB 7 vs)) (hO : ∃ ov : Nat → Int64, G.1 O = some (aJ 1 ov)) (hR : ∀ k v G1, R k v G1 → G1.1 O = G.1 O)
    (hc : Ct E 10 3 18 kX7_meets [.ref B, .int x, .int y] G (fun o G1 => ∃ k v, k ≤ 2 ∧ XOut ["java/lang/IndexOutOfBoundsException", "java/lang/IllegalArgumentException"] k v o ∧ R k v G1)) :
    Ct E 11 3 18 kL_meets [.ref B, .int x, .int y, .ref O] G (fun o G2 => ∃ k v G1, k < 4 ∧ o = .inl (some (.int (nI k))) ∧ R k v G1 ∧ (k = 0 → ∃ ov, ov 0 = v.toInt64 ∧ G2 = gs G1 O (aJ 1 ov)) ∧ (k ≠ 0 → G2 = G1)) := by
  obtain ⟨vs, hB⟩ := hB
  obtain ⟨ov, hO⟩ := hO
  refine Ct.introH rfl (by decide) [.ref B, .int x, .int y, .ref O, .float 0] (by simp [Value.category]) (Nat.le_of_ble_eq_true rfl) rfl ?_
  refine w_aload_n dL_meets_0 rfl ?_
  refine w_iconst (v := nI 0) dL_meets_1 (by decide) ?_
  refine w_aload_n dL_meets_2 rfl ?_
  refine w_iload_n dL_meets_3 rfl ?_
  refine w_iload_n dL_meets_4 rfl ?_
  refine wc_V (rest := [.int (nI 0), .ref O]) dL_meets_5 lk_L_79 rfl (by rfl) hB rfl rfl (Nat.le_refl _) hc rfl (by simp [Value.category]) (by simp) (by simp) ?_ ?_
  · intro v G1 hq
    obtain ⟨k, v9, hk, hx, hr⟩ := hq
    by_cases h0 : k = 0
    · have e := hx.1 h0
      cases e
      refine w_i2l dL_meets_8 ?_
      refine w_lastore dL_meets_9 ((hR _ _ _ hr).trans hO) (vp_in_nI (by omega) (by omega)) ?_
      refine w_goto (tgt := 21) dL_meets_10 (by decide) ?_
      refine w_iconst (v := nI 0) dL_meets_21 (by decide) ?_
      refine w_iret dL_meets_22 rfl (by simp) (by simp) ?_
      exact ⟨k, v9, G1, by omega, by rw [h0], hr, fun _ => ⟨_, upd0 rfl, rfl⟩, fun c => absurd h0 c⟩
    · exfalso
      match k, h0, hk, hx with
      | 1, _, _, hx => exact absurd (hx.2 0 _ rfl rfl) (by simp)
      | 2, _, _, hx => exact absurd (hx.2 1 _ rfl rfl) (by simp)
  · intro X G1 hq
    obtain ⟨k, v9, hk, hx, hr⟩ := hq
    match k, hk, hx, hr with
    | 0, _, hx, _ => exact absurd (hx.1 rfl) (by simp)
    | 1, _, hx, hr =>
      have e := hx.2 0 _ rfl rfl
      cases e
      refine wx_catch (pre := []) (suf := [(0, 10, 17, 13)]) (k := 4) rfl (by intro z hz; cases hz) (by decide) (by decide) u_929 un_941 (Or.inr ⟨rfl, dL_meets_13⟩) (by simp) (by intro w _ hw; simp at hw; subst hw; rfl) ?_
      refine w_iconst (v := nI 1) dL_meets_15 (by decide) ?_
      refine w_iret dL_meets_16 rfl (by simp) (by simp) ?_
      exact ⟨1, v9, G1, by decide, rfl, hr, fun c => absurd c (by decide), fun _ => rfl⟩
    | 2, _, hx, hr =>
      have e := hx.2 1 _ rfl rfl
      cases e
      refine wx_catch (pre := [(0, 10, 13, 24)]) (suf := []) (k := 4) rfl (by
        intro z hz
        simp only [List.mem_cons, List.not_mem_nil, or_false] at hz
        rcases hz with rfl
        · exact ⟨by decide, _, u_929, by decide⟩) (by decide) (by decide) u_609 un_747 (Or.inr ⟨rfl, dL_meets_17⟩) (by simp) (by intro w _ hw; simp at hw; subst hw; rfl) ?_
      refine w_iconst (v := nI 2) dL_meets_19 (by decide) ?_
      refine w_iret dL_meets_20 rfl (by simp) (by simp) ?_
      exact ⟨2, v9, G1, by decide, rfl, hr, fun c => absurd c (by decide), fun _ => rfl⟩
theorem w_visits {x y : Int32} (hB : ∃ vs, G.1 B = some (oB 7 vs)) (hO : ∃ ov : Nat → Int64, G.1 O = some (aJ 1 ov)) (hR : ∀ k v G1, R k v G1 → G1.1 O = G.1 O)
    (hc : Ct E 10 2 12 kX7_visits [.ref B, .int x, .int y] G (fun o G1 => ∃ k v, k ≤ 2 ∧ XOut ["java/lang/IndexOutOfBoundsException", "java/lang/IllegalArgumentException"] k v o ∧ R k v G1)) :
    Ct E 11 2 12 kL_visits [.ref B, .int x, .int y, .ref O] G (fun o G2 => ∃ k v G1, k < 4 ∧ o = .inl (some (.int (nI k))) ∧ R k v G1 ∧ (k = 0 → ∃ ov, ov 0 = v.toInt64 ∧ G2 = gs G1 O (aJ 1 ov)) ∧ (k ≠ 0 → G2 = G1)) := by
  obtain ⟨vs, hB⟩ := hB
  obtain ⟨ov, hO⟩ := hO
  refine Ct.introH rfl (by decide) [.ref B, .int x, .int y, .ref O, .float 0] (by simp [Value.category]) (Nat.le_of_ble_eq_true rfl) rfl ?_
  refine w_aload_n dL_visits_0 rfl ?_
  refine w_iconst (v := nI 0) dL_visits_1 (by decide) ?_
  refine w_aload_n dL_visits_2 rfl ?_
  refine w_iload_n dL_visits_3 rfl ?_
  refine w_iload_n dL_visits_4 rfl ?_
  refine wc_V (rest := [.int (nI 0), .ref O]) dL_visits_5 lk_L_82 rfl (by rfl) hB rfl rfl (Nat.le_refl _) hc rfl (by simp [Value.category]) (by simp) (by simp) ?_ ?_
  · intro v G1 hq
    obtain ⟨k, v9, hk, hx, hr⟩ := hq
    by_cases h0 : k = 0
    · have e := hx.1 h0
      cases e
      refine w_i2l dL_visits_8 ?_
      refine w_lastore dL_visits_9 ((hR _ _ _ hr).trans hO) (vp_in_nI (by omega) (by omega)) ?_
      refine w_goto (tgt := 21) dL_visits_10 (by decide) ?_
      refine w_iconst (v := nI 0) dL_visits_21 (by decide) ?_
      refine w_iret dL_visits_22 rfl (by simp) (by simp) ?_
      exact ⟨k, v9, G1, by omega, by rw [h0], hr, fun _ => ⟨_, upd0 rfl, rfl⟩, fun c => absurd h0 c⟩
    · exfalso
      match k, h0, hk, hx with
      | 1, _, _, hx => exact absurd (hx.2 0 _ rfl rfl) (by simp)
      | 2, _, _, hx => exact absurd (hx.2 1 _ rfl rfl) (by simp)
  · intro X G1 hq
    obtain ⟨k, v9, hk, hx, hr⟩ := hq
    match k, hk, hx, hr with
    | 0, _, hx, _ => exact absurd (hx.1 rfl) (by simp)
    | 1, _, hx, hr =>
      have e := hx.2 0 _ rfl rfl
      cases e
      refine wx_catch (pre := []) (suf := [(0, 10, 17, 13)]) (k := 4) rfl (by intro z hz; cases hz) (by decide) (by decide) u_929 un_941 (Or.inr ⟨rfl, dL_visits_13⟩) (by simp) (by intro w _ hw; simp at hw; subst hw; rfl) ?_
      refine w_iconst (v := nI 1) dL_visits_15 (by decide) ?_
      refine w_iret dL_visits_16 rfl (by simp) (by simp) ?_
      exact ⟨1, v9, G1, by decide, rfl, hr, fun c => absurd c (by decide), fun _ => rfl⟩
    | 2, _, hx, hr =>
      have e := hx.2 1 _ rfl rfl
      cases e
      refine wx_catch (pre := [(0, 10, 13, 24)]) (suf := []) (k := 4) rfl (by
        intro z hz
        simp only [List.mem_cons, List.not_mem_nil, or_false] at hz
        rcases hz with rfl
        · exact ⟨by decide, _, u_929, by decide⟩) (by decide) (by decide) u_609 un_747 (Or.inr ⟨rfl, dL_visits_17⟩) (by simp) (by intro w _ hw; simp at hw; subst hw; rfl) ?_
      refine w_iconst (v := nI 2) dL_visits_19 (by decide) ?_
      refine w_iret dL_visits_20 rfl (by simp) (by simp) ?_
      exact ⟨2, v9, G1, by decide, rfl, hr, fun c => absurd c (by decide), fun _ => rfl⟩
theorem w_crowd {x : Int32} (hB : ∃ vs, G.1 B = some (oB 7 vs)) (hO : ∃ ov : Nat → Int64, G.1 O = some (aJ 1 ov)) (hR : ∀ k v G1, R k v G1 → G1.1 O = G.1 O)
    (hc : Ct E 10 1 6 kX7_crowd [.ref B, .int x] G (fun o G1 => ∃ k v, k ≤ 1 ∧ XOut ["java/lang/IllegalArgumentException"] k v o ∧ R k v G1)) :
    Ct E 11 1 6 kL_crowd [.ref B, .int x, .ref O] G (fun o G2 => ∃ k v G1, k < 4 ∧ o = .inl (some (.int (nI k))) ∧ R k v G1 ∧ (k = 0 → ∃ ov, ov 0 = v.toInt64 ∧ G2 = gs G1 O (aJ 1 ov)) ∧ (k ≠ 0 → G2 = G1)) := by
  obtain ⟨vs, hB⟩ := hB
  obtain ⟨ov, hO⟩ := hO
  refine Ct.introH rfl (by decide) [.ref B, .int x, .ref O, .float 0] (by simp [Value.category]) (Nat.le_of_ble_eq_true rfl) rfl ?_
  refine w_aload_n dL_crowd_0 rfl ?_
  refine w_iconst (v := nI 0) dL_crowd_1 (by decide) ?_
  refine w_aload_n dL_crowd_2 rfl ?_
  refine w_iload_n dL_crowd_3 rfl ?_
  refine wc_V (rest := [.int (nI 0), .ref O]) dL_crowd_4 lk_L_85 rfl (by rfl) hB rfl rfl (Nat.le_refl _) hc rfl (by simp [Value.category]) (by simp) (by simp) ?_ ?_
  · intro v G1 hq
    obtain ⟨k, v9, hk, hx, hr⟩ := hq
    by_cases h0 : k = 0
    · have e := hx.1 h0
      cases e
      refine w_i2l dL_crowd_7 ?_
      refine w_lastore dL_crowd_8 ((hR _ _ _ hr).trans hO) (vp_in_nI (by omega) (by omega)) ?_
      refine w_goto (tgt := 15) dL_crowd_9 (by decide) ?_
      refine w_iconst (v := nI 0) dL_crowd_15 (by decide) ?_
      refine w_iret dL_crowd_16 rfl (by simp) (by simp) ?_
      exact ⟨k, v9, G1, by omega, by rw [h0], hr, fun _ => ⟨_, upd0 rfl, rfl⟩, fun c => absurd h0 c⟩
    · exfalso
      match k, h0, hk, hx with
      | 1, _, _, hx => exact absurd (hx.2 0 _ rfl rfl) (by simp)
  · intro X G1 hq
    obtain ⟨k, v9, hk, hx, hr⟩ := hq
    match k, hk, hx, hr with
    | 0, _, hx, _ => exact absurd (hx.1 rfl) (by simp)
    | 1, _, hx, hr =>
      have e := hx.2 0 _ rfl rfl
      cases e
      refine wx_catch (pre := []) (suf := []) (k := 3) rfl (by intro z hz; cases hz) (by decide) (by decide) u_609 un_747 (Or.inl ⟨3, rfl, rfl, dL_crowd_12⟩) (by simp) (by intro w _ hw; simp at hw; subst hw; rfl) ?_
      refine w_iconst (v := nI 1) dL_crowd_13 (by decide) ?_
      refine w_iret dL_crowd_14 rfl (by simp) (by simp) ?_
      exact ⟨1, v9, G1, by decide, rfl, hr, fun c => absurd c (by decide), fun _ => rfl⟩
theorem w_stays {x : Int32} (hB : ∃ vs, G.1 B = some (oB 7 vs)) (hO : ∃ ov : Nat → Int64, G.1 O = some (aJ 1 ov)) (hR : ∀ k v G1, R k v G1 → G1.1 O = G.1 O)
    (hc : Ct E 10 1 6 kX7_stays [.ref B, .int x] G (fun o G1 => ∃ k v, k ≤ 1 ∧ XOut ["java/lang/IndexOutOfBoundsException"] k v o ∧ R k v G1)) :
    Ct E 11 1 6 kL_stays [.ref B, .int x, .ref O] G (fun o G2 => ∃ k v G1, k < 4 ∧ o = .inl (some (.int (nI k))) ∧ R k v G1 ∧ (k = 0 → ∃ ov, ov 0 = v.toInt64 ∧ G2 = gs G1 O (aJ 1 ov)) ∧ (k ≠ 0 → G2 = G1)) := by
  obtain ⟨vs, hB⟩ := hB
  obtain ⟨ov, hO⟩ := hO
  refine Ct.introH rfl (by decide) [.ref B, .int x, .ref O, .float 0] (by simp [Value.category]) (Nat.le_of_ble_eq_true rfl) rfl ?_
  refine w_aload_n dL_stays_0 rfl ?_
  refine w_iconst (v := nI 0) dL_stays_1 (by decide) ?_
  refine w_aload_n dL_stays_2 rfl ?_
  refine w_iload_n dL_stays_3 rfl ?_
  refine wc_V (rest := [.int (nI 0), .ref O]) dL_stays_4 lk_L_88 rfl (by rfl) hB rfl rfl (Nat.le_refl _) hc rfl (by simp [Value.category]) (by simp) (by simp) ?_ ?_
  · intro v G1 hq
    obtain ⟨k, v9, hk, hx, hr⟩ := hq
    by_cases h0 : k = 0
    · have e := hx.1 h0
      cases e
      refine w_i2l dL_stays_7 ?_
      refine w_lastore dL_stays_8 ((hR _ _ _ hr).trans hO) (vp_in_nI (by omega) (by omega)) ?_
      refine w_goto (tgt := 15) dL_stays_9 (by decide) ?_
      refine w_iconst (v := nI 0) dL_stays_15 (by decide) ?_
      refine w_iret dL_stays_16 rfl (by simp) (by simp) ?_
      exact ⟨k, v9, G1, by omega, by rw [h0], hr, fun _ => ⟨_, upd0 rfl, rfl⟩, fun c => absurd h0 c⟩
    · exfalso
      match k, h0, hk, hx with
      | 1, _, _, hx => exact absurd (hx.2 0 _ rfl rfl) (by simp)
  · intro X G1 hq
    obtain ⟨k, v9, hk, hx, hr⟩ := hq
    match k, hk, hx, hr with
    | 0, _, hx, _ => exact absurd (hx.1 rfl) (by simp)
    | 1, _, hx, hr =>
      have e := hx.2 0 _ rfl rfl
      cases e
      refine wx_catch (pre := []) (suf := []) (k := 3) rfl (by intro z hz; cases hz) (by decide) (by decide) u_929 un_941 (Or.inl ⟨3, rfl, rfl, dL_stays_12⟩) (by simp) (by intro w _ hw; simp at hw; subst hw; rfl) ?_
      refine w_iconst (v := nI 1) dL_stays_13 (by decide) ?_
      refine w_iret dL_stays_14 rfl (by simp) (by simp) ?_
      exact ⟨1, v9, G1, by decide, rfl, hr, fun c => absurd c (by decide), fun _ => rfl⟩
theorem w_traces {x : Int32} (hB : ∃ vs, G.1 B = some (oB 7 vs)) (hO : ∃ ov : Nat → Int64, G.1 O = some (aJ 1 ov)) (hR : ∀ k v G1, R k v G1 → G1.1 O = G.1 O)
    (hc : Ct E 10 1 6 kX7_traces [.ref B, .int x] G (fun o G1 => ∃ k v, k ≤ 1 ∧ XOut ["java/lang/IllegalArgumentException"] k v o ∧ R k v G1)) :
    Ct E 11 1 6 kL_traces [.ref B, .int x, .ref O] G (fun o G2 => ∃ k v G1, k < 4 ∧ o = .inl (some (.int (nI k))) ∧ R k v G1 ∧ (k = 0 → ∃ ov, ov 0 = v.toInt64 ∧ G2 = gs G1 O (aJ 1 ov)) ∧ (k ≠ 0 → G2 = G1)) := by
  obtain ⟨vs, hB⟩ := hB
  obtain ⟨ov, hO⟩ := hO
  refine Ct.introH rfl (by decide) [.ref B, .int x, .ref O, .float 0] (by simp [Value.category]) (Nat.le_of_ble_eq_true rfl) rfl ?_
  refine w_aload_n dL_traces_0 rfl ?_
  refine w_iconst (v := nI 0) dL_traces_1 (by decide) ?_
  refine w_aload_n dL_traces_2 rfl ?_
  refine w_iload_n dL_traces_3 rfl ?_
  refine wc_V (rest := [.int (nI 0), .ref O]) dL_traces_4 lk_L_91 rfl (by rfl) hB rfl rfl (Nat.le_refl _) hc rfl (by simp [Value.category]) (by simp) (by simp) ?_ ?_
  · intro v G1 hq
    obtain ⟨k, v9, hk, hx, hr⟩ := hq
    by_cases h0 : k = 0
    · have e := hx.1 h0
      cases e
      refine w_i2l dL_traces_7 ?_
      refine w_lastore dL_traces_8 ((hR _ _ _ hr).trans hO) (vp_in_nI (by omega) (by omega)) ?_
      refine w_goto (tgt := 15) dL_traces_9 (by decide) ?_
      refine w_iconst (v := nI 0) dL_traces_15 (by decide) ?_
      refine w_iret dL_traces_16 rfl (by simp) (by simp) ?_
      exact ⟨k, v9, G1, by omega, by rw [h0], hr, fun _ => ⟨_, upd0 rfl, rfl⟩, fun c => absurd h0 c⟩
    · exfalso
      match k, h0, hk, hx with
      | 1, _, _, hx => exact absurd (hx.2 0 _ rfl rfl) (by simp)
  · intro X G1 hq
    obtain ⟨k, v9, hk, hx, hr⟩ := hq
    match k, hk, hx, hr with
    | 0, _, hx, _ => exact absurd (hx.1 rfl) (by simp)
    | 1, _, hx, hr =>
      have e := hx.2 0 _ rfl rfl
      cases e
      refine wx_catch (pre := []) (suf := []) (k := 3) rfl (by intro z hz; cases hz) (by decide) (by decide) u_609 un_747 (Or.inl ⟨3, rfl, rfl, dL_traces_12⟩) (by simp) (by intro w _ hw; simp at hw; subst hw; rfl) ?_
      refine w_iconst (v := nI 1) dL_traces_13 (by decide) ?_
      refine w_iret dL_traces_14 rfl (by simp) (by simp) ?_
      exact ⟨1, v9, G1, by decide, rfl, hr, fun c => absurd c (by decide), fun _ => rfl⟩
theorem w_look (hB : ∃ vs, G.1 B = some (oB 7 vs)) (hO : ∃ ov : Nat → Int64, G.1 O = some (aJ 1 ov)) (hR : ∀ k v G1, R k v G1 → G1.1 O = G.1 O)
    (hc : Ct E 10 1 6 kX7_look [.ref B] G (fun o G1 => ∃ k v, k ≤ 1 ∧ XOut ["java/lang/IllegalArgumentException"] k v o ∧ R k v G1)) :
    Ct E 11 1 6 kL_look [.ref B, .ref O] G (fun o G2 => ∃ k v G1, k < 4 ∧ o = .inl (some (.int (nI k))) ∧ R k v G1 ∧ (k = 0 → ∃ ov, ov 0 = v.toInt64 ∧ G2 = gs G1 O (aJ 1 ov)) ∧ (k ≠ 0 → G2 = G1)) := by
  obtain ⟨vs, hB⟩ := hB
  obtain ⟨ov, hO⟩ := hO
  refine Ct.introH rfl (by decide) [.ref B, .ref O, .float 0] (by simp [Value.category]) (Nat.le_of_ble_eq_true rfl) rfl ?_
  refine w_aload_n dL_look_0 rfl ?_
  refine w_iconst (v := nI 0) dL_look_1 (by decide) ?_
  refine w_aload_n dL_look_2 rfl ?_
  refine wc_V (rest := [.int (nI 0), .ref O]) dL_look_3 lk_L_95 rfl (by rfl) hB rfl rfl (Nat.le_refl _) hc rfl (by simp [Value.category]) (by simp) (by simp) ?_ ?_
  · intro v G1 hq
    obtain ⟨k, v9, hk, hx, hr⟩ := hq
    by_cases h0 : k = 0
    · have e := hx.1 h0
      cases e
      refine w_i2l dL_look_6 ?_
      refine w_lastore dL_look_7 ((hR _ _ _ hr).trans hO) (vp_in_nI (by omega) (by omega)) ?_
      refine w_goto (tgt := 14) dL_look_8 (by decide) ?_
      refine w_iconst (v := nI 0) dL_look_14 (by decide) ?_
      refine w_iret dL_look_15 rfl (by simp) (by simp) ?_
      exact ⟨k, v9, G1, by omega, by rw [h0], hr, fun _ => ⟨_, upd0 rfl, rfl⟩, fun c => absurd h0 c⟩
    · exfalso
      match k, h0, hk, hx with
      | 1, _, _, hx => exact absurd (hx.2 0 _ rfl rfl) (by simp)
  · intro X G1 hq
    obtain ⟨k, v9, hk, hx, hr⟩ := hq
    match k, hk, hx, hr with
    | 0, _, hx, _ => exact absurd (hx.1 rfl) (by simp)
    | 1, _, hx, hr =>
      have e := hx.2 0 _ rfl rfl
      cases e
      refine wx_catch (pre := []) (suf := []) (k := 2) rfl (by intro z hz; cases hz) (by decide) (by decide) u_609 un_747 (Or.inl ⟨2, rfl, rfl, dL_look_11⟩) (by simp) (by intro w _ hw; simp at hw; subst hw; rfl) ?_
      refine w_iconst (v := nI 1) dL_look_12 (by decide) ?_
      refine w_iret dL_look_13 rfl (by simp) (by simp) ?_
      exact ⟨1, v9, G1, by decide, rfl, hr, fun c => absurd c (by decide), fun _ => rfl⟩
theorem w_trial {x y : Int32} (hB : ∃ vs, G.1 B = some (oB 7 vs)) (hO : ∃ ov : Nat → Int64, G.1 O = some (aJ 1 ov)) (hR : ∀ k v G1, R k v G1 → G1.1 O = G.1 O)
    (hc : Ct E 10 1 6 kX7_trial [.ref B, .int x, .int y] G (fun o G1 => ∃ k v, k ≤ 1 ∧ XOut ["java/lang/IllegalArgumentException"] k v o ∧ R k v G1)) :
    Ct E 11 1 6 kL_trial [.ref B, .int x, .int y, .ref O] G (fun o G2 => ∃ k v G1, k < 4 ∧ o = .inl (some (.int (nI k))) ∧ R k v G1 ∧ (k = 0 → ∃ ov, ov 0 = v.toInt64 ∧ G2 = gs G1 O (aJ 1 ov)) ∧ (k ≠ 0 → G2 = G1)) := by
  obtain ⟨vs, hB⟩ := hB
  obtain ⟨ov, hO⟩ := hO
  refine Ct.introH rfl (by decide) [.ref B, .int x, .int y, .ref O, .float 0] (by simp [Value.category]) (Nat.le_of_ble_eq_true rfl) rfl ?_
  refine w_aload_n dL_trial_0 rfl ?_
  refine w_iconst (v := nI 0) dL_trial_1 (by decide) ?_
  refine w_aload_n dL_trial_2 rfl ?_
  refine w_iload_n dL_trial_3 rfl ?_
  refine w_iload_n dL_trial_4 rfl ?_
  refine wc_V (rest := [.int (nI 0), .ref O]) dL_trial_5 lk_L_98 rfl (by rfl) hB rfl rfl (Nat.le_refl _) hc rfl (by simp [Value.category]) (by simp) (by simp) ?_ ?_
  · intro v G1 hq
    obtain ⟨k, v9, hk, hx, hr⟩ := hq
    by_cases h0 : k = 0
    · have e := hx.1 h0
      cases e
      refine w_i2l dL_trial_8 ?_
      refine w_lastore dL_trial_9 ((hR _ _ _ hr).trans hO) (vp_in_nI (by omega) (by omega)) ?_
      refine w_goto (tgt := 17) dL_trial_10 (by decide) ?_
      refine w_iconst (v := nI 0) dL_trial_17 (by decide) ?_
      refine w_iret dL_trial_18 rfl (by simp) (by simp) ?_
      exact ⟨k, v9, G1, by omega, by rw [h0], hr, fun _ => ⟨_, upd0 rfl, rfl⟩, fun c => absurd h0 c⟩
    · exfalso
      match k, h0, hk, hx with
      | 1, _, _, hx => exact absurd (hx.2 0 _ rfl rfl) (by simp)
  · intro X G1 hq
    obtain ⟨k, v9, hk, hx, hr⟩ := hq
    match k, hk, hx, hr with
    | 0, _, hx, _ => exact absurd (hx.1 rfl) (by simp)
    | 1, _, hx, hr =>
      have e := hx.2 0 _ rfl rfl
      cases e
      refine wx_catch (pre := []) (suf := []) (k := 4) rfl (by intro z hz; cases hz) (by decide) (by decide) u_609 un_747 (Or.inr ⟨rfl, dL_trial_13⟩) (by simp) (by intro w _ hw; simp at hw; subst hw; rfl) ?_
      refine w_iconst (v := nI 1) dL_trial_15 (by decide) ?_
      refine w_iret dL_trial_16 rfl (by simp) (by simp) ?_
      exact ⟨1, v9, G1, by decide, rfl, hr, fun c => absurd c (by decide), fun _ => rfl⟩
theorem w_span {x y : Int32} (hB : ∃ vs, G.1 B = some (oB 7 vs)) (hO : ∃ ov : Nat → Int64, G.1 O = some (aJ 1 ov)) (hR : ∀ k v G1, R k v G1 → G1.1 O = G.1 O)
    (hc : Ct E 10 1 6 kX7_span [.ref B, .int x, .int y] G (fun o G1 => ∃ k v, k ≤ 1 ∧ XOut ["java/lang/IllegalArgumentException"] k v o ∧ R k v G1)) :
    Ct E 11 1 6 kL_span [.ref B, .int x, .int y, .ref O] G (fun o G2 => ∃ k v G1, k < 4 ∧ o = .inl (some (.int (nI k))) ∧ R k v G1 ∧ (k = 0 → ∃ ov, ov 0 = v.toInt64 ∧ G2 = gs G1 O (aJ 1 ov)) ∧ (k ≠ 0 → G2 = G1)) := by
  obtain ⟨vs, hB⟩ := hB
  obtain ⟨ov, hO⟩ := hO
  refine Ct.introH rfl (by decide) [.ref B, .int x, .int y, .ref O, .float 0] (by simp [Value.category]) (Nat.le_of_ble_eq_true rfl) rfl ?_
  refine w_aload_n dL_span_0 rfl ?_
  refine w_iconst (v := nI 0) dL_span_1 (by decide) ?_
  refine w_aload_n dL_span_2 rfl ?_
  refine w_iload_n dL_span_3 rfl ?_
  refine w_iload_n dL_span_4 rfl ?_
  refine wc_V (rest := [.int (nI 0), .ref O]) dL_span_5 lk_L_101 rfl (by rfl) hB rfl rfl (Nat.le_refl _) hc rfl (by simp [Value.category]) (by simp) (by simp) ?_ ?_
  · intro v G1 hq
    obtain ⟨k, v9, hk, hx, hr⟩ := hq
    by_cases h0 : k = 0
    · have e := hx.1 h0
      cases e
      refine w_i2l dL_span_8 ?_
      refine w_lastore dL_span_9 ((hR _ _ _ hr).trans hO) (vp_in_nI (by omega) (by omega)) ?_
      refine w_goto (tgt := 17) dL_span_10 (by decide) ?_
      refine w_iconst (v := nI 0) dL_span_17 (by decide) ?_
      refine w_iret dL_span_18 rfl (by simp) (by simp) ?_
      exact ⟨k, v9, G1, by omega, by rw [h0], hr, fun _ => ⟨_, upd0 rfl, rfl⟩, fun c => absurd h0 c⟩
    · exfalso
      match k, h0, hk, hx with
      | 1, _, _, hx => exact absurd (hx.2 0 _ rfl rfl) (by simp)
  · intro X G1 hq
    obtain ⟨k, v9, hk, hx, hr⟩ := hq
    match k, hk, hx, hr with
    | 0, _, hx, _ => exact absurd (hx.1 rfl) (by simp)
    | 1, _, hx, hr =>
      have e := hx.2 0 _ rfl rfl
      cases e
      refine wx_catch (pre := []) (suf := []) (k := 4) rfl (by intro z hz; cases hz) (by decide) (by decide) u_609 un_747 (Or.inr ⟨rfl, dL_span_13⟩) (by simp) (by intro w _ hw; simp at hw; subst hw; rfl) ?_
      refine w_iconst (v := nI 1) dL_span_15 (by decide) ?_
      refine w_iret dL_span_16 rfl (by simp) (by simp) ?_
      exact ⟨1, v9, G1, by decide, rfl, hr, fun c => absurd c (by decide), fun _ => rfl⟩
theorem w_led {x y : Int32} (hB : ∃ vs, G.1 B = some (oB 7 vs)) (hO : ∃ ov : Nat → Int64, G.1 O = some (aJ 1 ov)) (hR : ∀ k v G1, R k v G1 → G1.1 O = G.1 O)
    (hc : Ct E 10 1 6 kX7_led [.ref B, .int x, .int y] G (fun o G1 => ∃ k v, k ≤ 1 ∧ XOut ["java/lang/IndexOutOfBoundsException"] k v o ∧ R k v G1)) :
    Ct E 11 1 6 kL_led [.ref B, .int x, .int y, .ref O] G (fun o G2 => ∃ k v G1, k < 4 ∧ o = .inl (some (.int (nI k))) ∧ R k v G1 ∧ (k = 0 → ∃ ov, ov 0 = v.toInt64 ∧ G2 = gs G1 O (aJ 1 ov)) ∧ (k ≠ 0 → G2 = G1)) := by
  obtain ⟨vs, hB⟩ := hB
  obtain ⟨ov, hO⟩ := hO
  refine Ct.introH rfl (by decide) [.ref B, .int x, .int y, .ref O, .float 0] (by simp [Value.category]) (Nat.le_of_ble_eq_true rfl) rfl ?_
  refine w_aload_n dL_led_0 rfl ?_
  refine w_iconst (v := nI 0) dL_led_1 (by decide) ?_
  refine w_aload_n dL_led_2 rfl ?_
  refine w_iload_n dL_led_3 rfl ?_
  refine w_iload_n dL_led_4 rfl ?_
  refine wc_V (rest := [.int (nI 0), .ref O]) dL_led_5 lk_L_104 rfl (by rfl) hB rfl rfl (Nat.le_refl _) hc rfl (by simp [Value.category]) (by simp) (by simp) ?_ ?_
  · intro v G1 hq
    obtain ⟨k, v9, hk, hx, hr⟩ := hq
    by_cases h0 : k = 0
    · have e := hx.1 h0
      cases e
      refine w_i2l dL_led_8 ?_
      refine w_lastore dL_led_9 ((hR _ _ _ hr).trans hO) (vp_in_nI (by omega) (by omega)) ?_
      refine w_goto (tgt := 17) dL_led_10 (by decide) ?_
      refine w_iconst (v := nI 0) dL_led_17 (by decide) ?_
      refine w_iret dL_led_18 rfl (by simp) (by simp) ?_
      exact ⟨k, v9, G1, by omega, by rw [h0], hr, fun _ => ⟨_, upd0 rfl, rfl⟩, fun c => absurd h0 c⟩
    · exfalso
      match k, h0, hk, hx with
      | 1, _, _, hx => exact absurd (hx.2 0 _ rfl rfl) (by simp)
  · intro X G1 hq
    obtain ⟨k, v9, hk, hx, hr⟩ := hq
    match k, hk, hx, hr with
    | 0, _, hx, _ => exact absurd (hx.1 rfl) (by simp)
    | 1, _, hx, hr =>
      have e := hx.2 0 _ rfl rfl
      cases e
      refine wx_catch (pre := []) (suf := []) (k := 4) rfl (by intro z hz; cases hz) (by decide) (by decide) u_929 un_941 (Or.inr ⟨rfl, dL_led_13⟩) (by simp) (by intro w _ hw; simp at hw; subst hw; rfl) ?_
      refine w_iconst (v := nI 1) dL_led_15 (by decide) ?_
      refine w_iret dL_led_16 rfl (by simp) (by simp) ?_
      exact ⟨1, v9, G1, by decide, rfl, hr, fun c => absurd c (by decide), fun _ => rfl⟩
theorem w_log {x y : Int32} (hB : ∃ vs, G.1 B = some (oB 7 vs)) (hO : ∃ ov : Nat → Int64, G.1 O = some (aJ 1 ov)) (hR : ∀ k v G1, R k v G1 → G1.1 O = G.1 O)
    (hc : Ct E 10 1 6 kX7_log [.ref B, .int x, .int y] G (fun o G1 => ∃ k v, k ≤ 1 ∧ XOut ["java/util/NoSuchElementException"] k v o ∧ R k v G1)) :
    Ct E 11 1 6 kL_log [.ref B, .int x, .int y, .ref O] G (fun o G2 => ∃ k v G1, k < 4 ∧ o = .inl (some (.int (nI k))) ∧ R k v G1 ∧ (k = 0 → ∃ ov, ov 0 = v.toInt64 ∧ G2 = gs G1 O (aJ 1 ov)) ∧ (k ≠ 0 → G2 = G1)) := by
  obtain ⟨vs, hB⟩ := hB
  obtain ⟨ov, hO⟩ := hO
  refine Ct.introH rfl (by decide) [.ref B, .int x, .int y, .ref O, .float 0] (by simp [Value.category]) (Nat.le_of_ble_eq_true rfl) rfl ?_
  refine w_aload_n dL_log_0 rfl ?_
  refine w_iconst (v := nI 0) dL_log_1 (by decide) ?_
  refine w_aload_n dL_log_2 rfl ?_
  refine w_iload_n dL_log_3 rfl ?_
  refine w_iload_n dL_log_4 rfl ?_
  refine wc_V (rest := [.int (nI 0), .ref O]) dL_log_5 lk_L_107 rfl (by rfl) hB rfl rfl (Nat.le_refl _) hc rfl (by simp [Value.category]) (by simp) (by simp) ?_ ?_
  · intro v G1 hq
    obtain ⟨k, v9, hk, hx, hr⟩ := hq
    by_cases h0 : k = 0
    · have e := hx.1 h0
      cases e
      refine w_i2l dL_log_8 ?_
      refine w_lastore dL_log_9 ((hR _ _ _ hr).trans hO) (vp_in_nI (by omega) (by omega)) ?_
      refine w_goto (tgt := 17) dL_log_10 (by decide) ?_
      refine w_iconst (v := nI 0) dL_log_17 (by decide) ?_
      refine w_iret dL_log_18 rfl (by simp) (by simp) ?_
      exact ⟨k, v9, G1, by omega, by rw [h0], hr, fun _ => ⟨_, upd0 rfl, rfl⟩, fun c => absurd h0 c⟩
    · exfalso
      match k, h0, hk, hx with
      | 1, _, _, hx => exact absurd (hx.2 0 _ rfl rfl) (by simp)
  · intro X G1 hq
    obtain ⟨k, v9, hk, hx, hr⟩ := hq
    match k, hk, hx, hr with
    | 0, _, hx, _ => exact absurd (hx.1 rfl) (by simp)
    | 1, _, hx, hr =>
      have e := hx.2 0 _ rfl rfl
      cases e
      refine wx_catch (pre := []) (suf := []) (k := 4) rfl (by intro z hz; cases hz) (by decide) (by decide) u_930 un_960 (Or.inr ⟨rfl, dL_log_13⟩) (by simp) (by intro w _ hw; simp at hw; subst hw; rfl) ?_
      refine w_iconst (v := nI 1) dL_log_15 (by decide) ?_
      refine w_iret dL_log_16 rfl (by simp) (by simp) ?_
      exact ⟨1, v9, G1, by decide, rfl, hr, fun c => absurd c (by decide), fun _ => rfl⟩
end WRP
