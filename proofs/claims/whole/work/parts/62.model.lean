/-! the model: what changes; the inventory, draws, storms, leaving -/
def Keep (mm nn : Nat → Int32) : Prop := nn 1 = mm 1 ∧ nn 2 = mm 2 ∧ ∀ k, 350 ≤ k → nn k = mm k
theorem Keep.rf {mm : Nat → Int32} : Keep mm mm := ⟨rfl, rfl, fun _ _ => rfl⟩
theorem Keep.tr {a b c : Nat → Int32} (h : Keep a b) (k : Keep b c) : Keep a c := ⟨k.1.trans h.1, k.2.1.trans h.2.1, fun j hj => (k.2.2 j hj).trans (h.2.2 j hj)⟩
theorem Keep.up {mm : Nat → Int32} {k : Nat} {x : Int32} (h : k < 350) (h1 : k ≠ 1) (h2 : k ≠ 2) : Keep mm (upd mm k x) := ⟨by unfold upd; rw [if_neg (Ne.symm h1)], by unfold upd; rw [if_neg (Ne.symm h2)], fun j hj => by unfold upd; rw [if_neg (by omega)]⟩
theorem upd_ne {f : Nat → Int32} {k j : Nat} {x : Int32} (h : j ≠ k) : upd f k x j = f j := by unfold upd; rw [if_neg h]
theorem upd_at {f : Nat → Int32} {k : Nat} {x : Int32} : upd f k x k = x := by unfold upd; rw [if_pos rfl]
theorem lgC_tu {T : ST} {g k v : Nat} (h : g ≠ 11) (h2 : g ≠ 12) (a w : Nat) : lgC (tu T g k v) a w = lgC T a w := by
  unfold lgC
  rw [tu_ne1 _ _ _ _ (Ne.symm h2), tu_ne1 _ _ _ _ (Ne.symm h)]
theorem lgC_t12 {T : ST} {k v : Nat} (h : k ≠ 5) (a w : Nat) : lgC (tu T 12 k v) a w = lgC T a w := by
  unfold lgC
  rw [tu_nk _ _ _ _ (Ne.symm h), tu_ne1 _ _ _ _ (show 11 ≠ 12 by decide)]
theorem MoR.pi {mm : Nat → Int32} {T : ST} {sd : Int32} (h : MoR mm T sd) {i w x : Nat} (hi : i < 12) (hw9 : w < 7) : MoR (upd mm (26 + 7 * i + w) (nI x)) (tu T w i x) sd := by
  obtain ⟨r0, r3, r4, r5, r6, r7, r9, r11, r12, r14, r20, r26, rL⟩ := h
  have hl : ∀ a b, lgC (tu T w i x) a b = lgC T a b := fun a b => lgC_tu (by omega) (by omega) a b
  have e : ∀ j, j ≠ (26 + 7 * i + w) → upd mm (26 + 7 * i + w) (nI x) j = mm j := fun j hj => upd_ne hj
  have ea : upd mm (26 + 7 * i + w) (nI x) (26 + 7 * i + w) = nI x := upd_at
  have t : ∀ g j, ¬ (g = w ∧ j = i) → tu T w i x g j = T g j := fun g j hj => by unfold tu; rw [if_neg hj]
  have ta : tu T w i x w i = x := by unfold tu; rw [if_pos ⟨rfl, rfl⟩]
  refine ⟨?_, ?_, ?_, ?_, ?_, fun s hs => ?_, fun s hs => ?_, ?_, ?_, fun r hr => ?_, fun r hr => ?_, fun j v hj hv => ?_, fun a w ha hw => ?_⟩
  · rw [e _ (by omega), t _ _ (by omega)]; exact r0
  · rw [e _ (by omega), t _ _ (by omega)]; exact r3
  · rw [e _ (by omega), t _ _ (by omega)]; exact r4
  · rw [e _ (by omega), t _ _ (by omega)]; exact r5
  · rw [e _ (by omega), t _ _ (by omega)]; exact r6
  · rw [e _ (by omega), t _ _ (by omega)]; exact r7 s hs
  · rw [e _ (by omega), t _ _ (by omega)]; exact r9 s hs
  · rw [e _ (by omega), t _ _ (by omega)]; exact r11
  · rw [e _ (by omega)]; exact r12
  · rw [e _ (by omega), t _ _ (by omega)]; exact r14 r hr
  · rw [e _ (by omega), t _ _ (by omega)]; exact r20 r hr
  · by_cases hh : j = i ∧ v = w
    · obtain ⟨h1, h2⟩ := hh; subst h1; subst h2; rw [ea, ta]
    · rw [e _ (by omega), t _ _ (by omega)]; exact r26 j v hj hv
  · rw [hl, e _ (by omega)]; exact rL a w (by rw [t _ _ (by omega)] at ha; exact ha) hw
theorem MoR.p7 {mm : Nat → Int32} {T : ST} {sd : Int32} (h : MoR mm T sd) {i x : Nat} (hi : i < 6) : MoR (upd mm (14 + i) (nI x)) (tu T 7 i x) sd := by
  obtain ⟨r0, r3, r4, r5, r6, r7, r9, r11, r12, r14, r20, r26, rL⟩ := h
  have hl : ∀ a b, lgC (tu T 7 i x) a b = lgC T a b := fun a b => lgC_tu (by omega) (by omega) a b
  have e : ∀ j, j ≠ (14 + i) → upd mm (14 + i) (nI x) j = mm j := fun j hj => upd_ne hj
  have ea : upd mm (14 + i) (nI x) (14 + i) = nI x := upd_at
  have t : ∀ g j, ¬ (g = 7 ∧ j = i) → tu T 7 i x g j = T g j := fun g j hj => by unfold tu; rw [if_neg hj]
  have ta : tu T 7 i x 7 i = x := by unfold tu; rw [if_pos ⟨rfl, rfl⟩]
  refine ⟨?_, ?_, ?_, ?_, ?_, fun s hs => ?_, fun s hs => ?_, ?_, ?_, fun r hr => ?_, fun r hr => ?_, fun j v hj hv => ?_, fun a w ha hw => ?_⟩
  · rw [e _ (by omega), t _ _ (by omega)]; exact r0
  · rw [e _ (by omega), t _ _ (by omega)]; exact r3
  · rw [e _ (by omega), t _ _ (by omega)]; exact r4
  · rw [e _ (by omega), t _ _ (by omega)]; exact r5
  · rw [e _ (by omega), t _ _ (by omega)]; exact r6
  · rw [e _ (by omega), t _ _ (by omega)]; exact r7 s hs
  · rw [e _ (by omega), t _ _ (by omega)]; exact r9 s hs
  · rw [e _ (by omega), t _ _ (by omega)]; exact r11
  · rw [e _ (by omega)]; exact r12
  · by_cases hh : r = i
    · subst hh; rw [ea, ta]
    · rw [e _ (by omega), t _ _ (by omega)]; exact r14 r hr
  · rw [e _ (by omega), t _ _ (by omega)]; exact r20 r hr
  · rw [e _ (by omega), t _ _ (by omega)]; exact r26 j v hj hv
  · rw [hl, e _ (by omega)]; exact rL a w (by rw [t _ _ (by omega)] at ha; exact ha) hw
theorem MoR.p8 {mm : Nat → Int32} {T : ST} {sd : Int32} (h : MoR mm T sd) {i x : Nat} (hi : i < 6) : MoR (upd mm (20 + i) (nI x)) (tu T 8 i x) sd := by
  obtain ⟨r0, r3, r4, r5, r6, r7, r9, r11, r12, r14, r20, r26, rL⟩ := h
  have hl : ∀ a b, lgC (tu T 8 i x) a b = lgC T a b := fun a b => lgC_tu (by omega) (by omega) a b
  have e : ∀ j, j ≠ (20 + i) → upd mm (20 + i) (nI x) j = mm j := fun j hj => upd_ne hj
  have ea : upd mm (20 + i) (nI x) (20 + i) = nI x := upd_at
  have t : ∀ g j, ¬ (g = 8 ∧ j = i) → tu T 8 i x g j = T g j := fun g j hj => by unfold tu; rw [if_neg hj]
  have ta : tu T 8 i x 8 i = x := by unfold tu; rw [if_pos ⟨rfl, rfl⟩]
  refine ⟨?_, ?_, ?_, ?_, ?_, fun s hs => ?_, fun s hs => ?_, ?_, ?_, fun r hr => ?_, fun r hr => ?_, fun j v hj hv => ?_, fun a w ha hw => ?_⟩
  · rw [e _ (by omega), t _ _ (by omega)]; exact r0
  · rw [e _ (by omega), t _ _ (by omega)]; exact r3
  · rw [e _ (by omega), t _ _ (by omega)]; exact r4
  · rw [e _ (by omega), t _ _ (by omega)]; exact r5
  · rw [e _ (by omega), t _ _ (by omega)]; exact r6
  · rw [e _ (by omega), t _ _ (by omega)]; exact r7 s hs
  · rw [e _ (by omega), t _ _ (by omega)]; exact r9 s hs
  · rw [e _ (by omega), t _ _ (by omega)]; exact r11
  · rw [e _ (by omega)]; exact r12
  · rw [e _ (by omega), t _ _ (by omega)]; exact r14 r hr
  · by_cases hh : r = i
    · subst hh; rw [ea, ta]
    · rw [e _ (by omega), t _ _ (by omega)]; exact r20 r hr
  · rw [e _ (by omega), t _ _ (by omega)]; exact r26 j v hj hv
  · rw [hl, e _ (by omega)]; exact rL a w (by rw [t _ _ (by omega)] at ha; exact ha) hw
theorem MoR.p9 {mm : Nat → Int32} {T : ST} {sd : Int32} (h : MoR mm T sd) {i x : Nat} (hi : i < 2) : MoR (upd mm (7 + i) (nI x)) (tu T 9 i x) sd := by
  obtain ⟨r0, r3, r4, r5, r6, r7, r9, r11, r12, r14, r20, r26, rL⟩ := h
  have hl : ∀ a b, lgC (tu T 9 i x) a b = lgC T a b := fun a b => lgC_tu (by omega) (by omega) a b
  have e : ∀ j, j ≠ (7 + i) → upd mm (7 + i) (nI x) j = mm j := fun j hj => upd_ne hj
  have ea : upd mm (7 + i) (nI x) (7 + i) = nI x := upd_at
  have t : ∀ g j, ¬ (g = 9 ∧ j = i) → tu T 9 i x g j = T g j := fun g j hj => by unfold tu; rw [if_neg hj]
  have ta : tu T 9 i x 9 i = x := by unfold tu; rw [if_pos ⟨rfl, rfl⟩]
  refine ⟨?_, ?_, ?_, ?_, ?_, fun s hs => ?_, fun s hs => ?_, ?_, ?_, fun r hr => ?_, fun r hr => ?_, fun j v hj hv => ?_, fun a w ha hw => ?_⟩
  · rw [e _ (by omega), t _ _ (by omega)]; exact r0
  · rw [e _ (by omega), t _ _ (by omega)]; exact r3
  · rw [e _ (by omega), t _ _ (by omega)]; exact r4
  · rw [e _ (by omega), t _ _ (by omega)]; exact r5
  · rw [e _ (by omega), t _ _ (by omega)]; exact r6
  · by_cases hh : s = i
    · subst hh; rw [ea, ta]
    · rw [e _ (by omega), t _ _ (by omega)]; exact r7 s hs
  · rw [e _ (by omega), t _ _ (by omega)]; exact r9 s hs
  · rw [e _ (by omega), t _ _ (by omega)]; exact r11
  · rw [e _ (by omega)]; exact r12
  · rw [e _ (by omega), t _ _ (by omega)]; exact r14 r hr
  · rw [e _ (by omega), t _ _ (by omega)]; exact r20 r hr
  · rw [e _ (by omega), t _ _ (by omega)]; exact r26 j v hj hv
  · rw [hl, e _ (by omega)]; exact rL a w (by rw [t _ _ (by omega)] at ha; exact ha) hw
theorem MoR.p10 {mm : Nat → Int32} {T : ST} {sd : Int32} (h : MoR mm T sd) {i x : Nat} (hi : i < 2) : MoR (upd mm (9 + i) (nI x)) (tu T 10 i x) sd := by
  obtain ⟨r0, r3, r4, r5, r6, r7, r9, r11, r12, r14, r20, r26, rL⟩ := h
  have hl : ∀ a b, lgC (tu T 10 i x) a b = lgC T a b := fun a b => lgC_tu (by omega) (by omega) a b
  have e : ∀ j, j ≠ (9 + i) → upd mm (9 + i) (nI x) j = mm j := fun j hj => upd_ne hj
  have ea : upd mm (9 + i) (nI x) (9 + i) = nI x := upd_at
  have t : ∀ g j, ¬ (g = 10 ∧ j = i) → tu T 10 i x g j = T g j := fun g j hj => by unfold tu; rw [if_neg hj]
  have ta : tu T 10 i x 10 i = x := by unfold tu; rw [if_pos ⟨rfl, rfl⟩]
  refine ⟨?_, ?_, ?_, ?_, ?_, fun s hs => ?_, fun s hs => ?_, ?_, ?_, fun r hr => ?_, fun r hr => ?_, fun j v hj hv => ?_, fun a w ha hw => ?_⟩
  · rw [e _ (by omega), t _ _ (by omega)]; exact r0
  · rw [e _ (by omega), t _ _ (by omega)]; exact r3
  · rw [e _ (by omega), t _ _ (by omega)]; exact r4
  · rw [e _ (by omega), t _ _ (by omega)]; exact r5
  · rw [e _ (by omega), t _ _ (by omega)]; exact r6
  · rw [e _ (by omega), t _ _ (by omega)]; exact r7 s hs
  · by_cases hh : s = i
    · subst hh; rw [ea, ta]
    · rw [e _ (by omega), t _ _ (by omega)]; exact r9 s hs
  · rw [e _ (by omega), t _ _ (by omega)]; exact r11
  · rw [e _ (by omega)]; exact r12
  · rw [e _ (by omega), t _ _ (by omega)]; exact r14 r hr
  · rw [e _ (by omega), t _ _ (by omega)]; exact r20 r hr
  · rw [e _ (by omega), t _ _ (by omega)]; exact r26 j v hj hv
  · rw [hl, e _ (by omega)]; exact rL a w (by rw [t _ _ (by omega)] at ha; exact ha) hw
theorem MoR.s1 {mm : Nat → Int32} {T : ST} {sd : Int32} (h : MoR mm T sd) {x : Nat} : MoR (upd mm (0) (nI x)) (tu T 12 1 x) sd := by
  obtain ⟨r0, r3, r4, r5, r6, r7, r9, r11, r12, r14, r20, r26, rL⟩ := h
  have hl : ∀ a b, lgC (tu T 12 1 x) a b = lgC T a b := fun a b => lgC_t12 (by decide) a b
  have e : ∀ j, j ≠ 0 → upd mm (0) (nI x) j = mm j := fun j hj => upd_ne hj
  have ea : upd mm (0) (nI x) (0) = nI x := upd_at
  have t : ∀ g j, ¬ (g = 12 ∧ j = 1) → tu T 12 1 x g j = T g j := fun g j hj => by unfold tu; rw [if_neg hj]
  have ta : tu T 12 1 x 12 1 = x := by unfold tu; rw [if_pos ⟨rfl, rfl⟩]
  refine ⟨?_, ?_, ?_, ?_, ?_, fun s hs => ?_, fun s hs => ?_, ?_, ?_, fun r hr => ?_, fun r hr => ?_, fun j v hj hv => ?_, fun a w ha hw => ?_⟩
  · rw [ea, ta]
  · rw [e _ (by omega), t _ _ (by omega)]; exact r3
  · rw [e _ (by omega), t _ _ (by omega)]; exact r4
  · rw [e _ (by omega), t _ _ (by omega)]; exact r5
  · rw [e _ (by omega), t _ _ (by omega)]; exact r6
  · rw [e _ (by omega), t _ _ (by omega)]; exact r7 s hs
  · rw [e _ (by omega), t _ _ (by omega)]; exact r9 s hs
  · rw [e _ (by omega), t _ _ (by omega)]; exact r11
  · rw [e _ (by omega)]; exact r12
  · rw [e _ (by omega), t _ _ (by omega)]; exact r14 r hr
  · rw [e _ (by omega), t _ _ (by omega)]; exact r20 r hr
  · rw [e _ (by omega), t _ _ (by omega)]; exact r26 j v hj hv
  · rw [hl, e _ (by omega)]; exact rL a w (by rw [t _ _ (by omega)] at ha; exact ha) hw
theorem MoR.s0 {mm : Nat → Int32} {T : ST} {sd : Int32} (h : MoR mm T sd) {x : Nat} : MoR (upd mm (3) (nI x)) (tu T 12 0 x) sd := by
  obtain ⟨r0, r3, r4, r5, r6, r7, r9, r11, r12, r14, r20, r26, rL⟩ := h
  have hl : ∀ a b, lgC (tu T 12 0 x) a b = lgC T a b := fun a b => lgC_t12 (by decide) a b
  have e : ∀ j, j ≠ 3 → upd mm (3) (nI x) j = mm j := fun j hj => upd_ne hj
  have ea : upd mm (3) (nI x) (3) = nI x := upd_at
  have t : ∀ g j, ¬ (g = 12 ∧ j = 0) → tu T 12 0 x g j = T g j := fun g j hj => by unfold tu; rw [if_neg hj]
  have ta : tu T 12 0 x 12 0 = x := by unfold tu; rw [if_pos ⟨rfl, rfl⟩]
  refine ⟨?_, ?_, ?_, ?_, ?_, fun s hs => ?_, fun s hs => ?_, ?_, ?_, fun r hr => ?_, fun r hr => ?_, fun j v hj hv => ?_, fun a w ha hw => ?_⟩
  · rw [e _ (by omega), t _ _ (by omega)]; exact r0
  · rw [ea, ta]
  · rw [e _ (by omega), t _ _ (by omega)]; exact r4
  · rw [e _ (by omega), t _ _ (by omega)]; exact r5
  · rw [e _ (by omega), t _ _ (by omega)]; exact r6
  · rw [e _ (by omega), t _ _ (by omega)]; exact r7 s hs
  · rw [e _ (by omega), t _ _ (by omega)]; exact r9 s hs
  · rw [e _ (by omega), t _ _ (by omega)]; exact r11
  · rw [e _ (by omega)]; exact r12
  · rw [e _ (by omega), t _ _ (by omega)]; exact r14 r hr
  · rw [e _ (by omega), t _ _ (by omega)]; exact r20 r hr
  · rw [e _ (by omega), t _ _ (by omega)]; exact r26 j v hj hv
  · rw [hl, e _ (by omega)]; exact rL a w (by rw [t _ _ (by omega)] at ha; exact ha) hw
theorem MoR.s3 {mm : Nat → Int32} {T : ST} {sd : Int32} (h : MoR mm T sd) {x : Nat} : MoR (upd mm (4) (nI x)) (tu T 12 3 x) sd := by
  obtain ⟨r0, r3, r4, r5, r6, r7, r9, r11, r12, r14, r20, r26, rL⟩ := h
  have hl : ∀ a b, lgC (tu T 12 3 x) a b = lgC T a b := fun a b => lgC_t12 (by decide) a b
  have e : ∀ j, j ≠ 4 → upd mm (4) (nI x) j = mm j := fun j hj => upd_ne hj
  have ea : upd mm (4) (nI x) (4) = nI x := upd_at
  have t : ∀ g j, ¬ (g = 12 ∧ j = 3) → tu T 12 3 x g j = T g j := fun g j hj => by unfold tu; rw [if_neg hj]
  have ta : tu T 12 3 x 12 3 = x := by unfold tu; rw [if_pos ⟨rfl, rfl⟩]
  refine ⟨?_, ?_, ?_, ?_, ?_, fun s hs => ?_, fun s hs => ?_, ?_, ?_, fun r hr => ?_, fun r hr => ?_, fun j v hj hv => ?_, fun a w ha hw => ?_⟩
  · rw [e _ (by omega), t _ _ (by omega)]; exact r0
  · rw [e _ (by omega), t _ _ (by omega)]; exact r3
  · rw [ea, ta]
  · rw [e _ (by omega), t _ _ (by omega)]; exact r5
  · rw [e _ (by omega), t _ _ (by omega)]; exact r6
  · rw [e _ (by omega), t _ _ (by omega)]; exact r7 s hs
  · rw [e _ (by omega), t _ _ (by omega)]; exact r9 s hs
  · rw [e _ (by omega), t _ _ (by omega)]; exact r11
  · rw [e _ (by omega)]; exact r12
  · rw [e _ (by omega), t _ _ (by omega)]; exact r14 r hr
  · rw [e _ (by omega), t _ _ (by omega)]; exact r20 r hr
  · rw [e _ (by omega), t _ _ (by omega)]; exact r26 j v hj hv
  · rw [hl, e _ (by omega)]; exact rL a w (by rw [t _ _ (by omega)] at ha; exact ha) hw
theorem MoR.s2 {mm : Nat → Int32} {T : ST} {sd : Int32} (h : MoR mm T sd) {x : Nat} : MoR (upd mm (5) (nI x)) (tu T 12 2 x) sd := by
  obtain ⟨r0, r3, r4, r5, r6, r7, r9, r11, r12, r14, r20, r26, rL⟩ := h
  have hl : ∀ a b, lgC (tu T 12 2 x) a b = lgC T a b := fun a b => lgC_t12 (by decide) a b
  have e : ∀ j, j ≠ 5 → upd mm (5) (nI x) j = mm j := fun j hj => upd_ne hj
  have ea : upd mm (5) (nI x) (5) = nI x := upd_at
  have t : ∀ g j, ¬ (g = 12 ∧ j = 2) → tu T 12 2 x g j = T g j := fun g j hj => by unfold tu; rw [if_neg hj]
  have ta : tu T 12 2 x 12 2 = x := by unfold tu; rw [if_pos ⟨rfl, rfl⟩]
  refine ⟨?_, ?_, ?_, ?_, ?_, fun s hs => ?_, fun s hs => ?_, ?_, ?_, fun r hr => ?_, fun r hr => ?_, fun j v hj hv => ?_, fun a w ha hw => ?_⟩
  · rw [e _ (by omega), t _ _ (by omega)]; exact r0
  · rw [e _ (by omega), t _ _ (by omega)]; exact r3
  · rw [e _ (by omega), t _ _ (by omega)]; exact r4
  · rw [ea, ta]
  · rw [e _ (by omega), t _ _ (by omega)]; exact r6
  · rw [e _ (by omega), t _ _ (by omega)]; exact r7 s hs
  · rw [e _ (by omega), t _ _ (by omega)]; exact r9 s hs
  · rw [e _ (by omega), t _ _ (by omega)]; exact r11
  · rw [e _ (by omega)]; exact r12
  · rw [e _ (by omega), t _ _ (by omega)]; exact r14 r hr
  · rw [e _ (by omega), t _ _ (by omega)]; exact r20 r hr
  · rw [e _ (by omega), t _ _ (by omega)]; exact r26 j v hj hv
  · rw [hl, e _ (by omega)]; exact rL a w (by rw [t _ _ (by omega)] at ha; exact ha) hw
theorem MoR.s4 {mm : Nat → Int32} {T : ST} {sd : Int32} (h : MoR mm T sd) {x : Nat} : MoR (upd mm (6) (nI x)) (tu T 12 4 x) sd := by
  obtain ⟨r0, r3, r4, r5, r6, r7, r9, r11, r12, r14, r20, r26, rL⟩ := h
  have hl : ∀ a b, lgC (tu T 12 4 x) a b = lgC T a b := fun a b => lgC_t12 (by decide) a b
  have e : ∀ j, j ≠ 6 → upd mm (6) (nI x) j = mm j := fun j hj => upd_ne hj
  have ea : upd mm (6) (nI x) (6) = nI x := upd_at
  have t : ∀ g j, ¬ (g = 12 ∧ j = 4) → tu T 12 4 x g j = T g j := fun g j hj => by unfold tu; rw [if_neg hj]
  have ta : tu T 12 4 x 12 4 = x := by unfold tu; rw [if_pos ⟨rfl, rfl⟩]
  refine ⟨?_, ?_, ?_, ?_, ?_, fun s hs => ?_, fun s hs => ?_, ?_, ?_, fun r hr => ?_, fun r hr => ?_, fun j v hj hv => ?_, fun a w ha hw => ?_⟩
  · rw [e _ (by omega), t _ _ (by omega)]; exact r0
  · rw [e _ (by omega), t _ _ (by omega)]; exact r3
  · rw [e _ (by omega), t _ _ (by omega)]; exact r4
  · rw [e _ (by omega), t _ _ (by omega)]; exact r5
  · rw [ea, ta]
  · rw [e _ (by omega), t _ _ (by omega)]; exact r7 s hs
  · rw [e _ (by omega), t _ _ (by omega)]; exact r9 s hs
  · rw [e _ (by omega), t _ _ (by omega)]; exact r11
  · rw [e _ (by omega)]; exact r12
  · rw [e _ (by omega), t _ _ (by omega)]; exact r14 r hr
  · rw [e _ (by omega), t _ _ (by omega)]; exact r20 r hr
  · rw [e _ (by omega), t _ _ (by omega)]; exact r26 j v hj hv
  · rw [hl, e _ (by omega)]; exact rL a w (by rw [t _ _ (by omega)] at ha; exact ha) hw
theorem MoR.seed {mm : Nat → Int32} {T : ST} {sd s2 : Int32} (h : MoR mm T sd) : MoR (upd mm 12 s2) T s2 := by
  obtain ⟨r0, r3, r4, r5, r6, r7, r9, r11, r12, r14, r20, r26, rL⟩ := h
  have e : ∀ j, j ≠ 12 → upd mm 12 s2 j = mm j := fun j hj => upd_ne hj
  refine ⟨?_, ?_, ?_, ?_, ?_, fun s hs => ?_, fun s hs => ?_, ?_, upd_at, fun r hr => ?_, fun r hr => ?_, fun j v hj hv => ?_, fun a w ha hw => ?_⟩
  all_goals rw [e _ (by omega)]
  · exact r0
  · exact r3
  · exact r4
  · exact r5
  · exact r6
  · exact r7 s hs
  · exact r9 s hs
  · exact r11
  · exact r14 r hr
  · exact r20 r hr
  · exact r26 j v hj hv
  · exact rL a w ha hw
def tkN (T : ST) : Nat → ST | 0 => T | i + 1 => tu (tu (tkN T i) 5 i (T 1 i)) 6 i (T 2 i)
theorem tkN_ne {T : ST} {g : Nat} (h : g ≠ 5) (h2 : g ≠ 6) (j : Nat) : ∀ i, tkN T i g j = T g j
  | 0 => rfl
  | i + 1 => by rw [tkN, tu_ne1 _ _ _ _ h2, tu_ne1 _ _ _ _ h, tkN_ne h h2 j i]
theorem tkN_5 {T : ST} (j : Nat) : ∀ i, tkN T i 5 j = if j < i then T 1 j else T 5 j
  | 0 => by rw [if_neg (Nat.not_lt_zero j)]; rfl
  | i + 1 => by
    rw [tkN, tu_ne1 _ _ _ _ (show 5 ≠ 6 by decide)]
    by_cases e : j = i
    · subst e; rw [tu_at, if_pos (Nat.lt_succ_self _)]
    · rw [tu_nk _ _ _ _ e, tkN_5 j i]
      by_cases h : j < i
      · rw [if_pos h, if_pos (by omega)]
      · rw [if_neg h, if_neg (by omega)]
theorem tkN_6 {T : ST} (j : Nat) : ∀ i, tkN T i 6 j = if j < i then T 2 j else T 6 j
  | 0 => by rw [if_neg (Nat.not_lt_zero j)]; rfl
  | i + 1 => by
    rw [tkN]
    by_cases e : j = i
    · subst e; rw [tu_at, if_pos (Nat.lt_succ_self _)]
    · rw [tu_nk _ _ _ _ e, tu_ne1 _ _ _ _ (show 6 ≠ 5 by decide), tkN_6 j i]
      by_cases h : j < i
      · rw [if_pos h, if_pos (by omega)]
      · rw [if_neg h, if_neg (by omega)]
theorem Bd.tk {T : ST} (hB : Bd T) : ∀ i, i ≤ T 12 0 → Bd (tkN T i)
  | 0, _ => hB
  | i + 1, h => by
    have ih := Bd.tk hB i (by omega)
    have e : tkN T i 12 0 = T 12 0 := tkN_ne (by decide) (by decide) 0 i
    exact Bd.pu6 (Bd.pu5 ih (by rw [e]; exact h) (hB.2.2.1 i)) (by show i < tu (tkN T i) 5 i (T 1 i) 12 0; rw [tu_ne1 _ _ _ _ (show 12 ≠ 5 by decide), e]; exact h) (hB.2.2.2.1 i)
theorem take_eq {T : ST} (hB : Bd T) : takeT T = tu (tkN T (T 12 0)) 12 4 (sumN 6 (T 7)) := by
  have h9 := hB.2.2.2.2.2.2.2.2.2.2.2.2.2.2.2.2.2.2.2
  funext g j
  unfold takeT
  by_cases g5 : g = 5
  · subst g5
    rw [if_pos rfl, tu_ne1 _ _ _ _ (show 5 ≠ 12 by decide), tkN_5]
    by_cases h : j < T 12 0
    · rw [if_pos h]
    · rw [if_neg h, h9 1 j (by decide) (by omega), h9 5 j (by decide) (by omega)]
  · rw [if_neg g5]
    by_cases g6 : g = 6
    · subst g6
      rw [if_pos rfl, tu_ne1 _ _ _ _ (show 6 ≠ 12 by decide), tkN_6]
      by_cases h : j < T 12 0
      · rw [if_pos h]
      · rw [if_neg h, h9 2 j (by decide) (by omega), h9 6 j (by decide) (by omega)]
    · rw [if_neg g6]
      by_cases h : g = 12 ∧ j = 4
      · rw [if_pos h, h.1, h.2, tu_at]
      · rw [if_neg h]; unfold tu; rw [if_neg h, tkN_ne g5 g6]
theorem ml_inv {E : EV} {Q : OC → AH → Prop} {V : Nat} {th hi ac tp ba en at_ fa dp io hm_ we sh so : Int32} {mm : Nat → Int32} {T : ST} {sd : Int32} {G : AH}  (hV : G.1 V = some (mO V th hi ac tp ba en at_ fa dp io hm_ we sh so)) (hm : G.1 (V + 1) = some (aI 750 mm)) (hR : MoR mm T sd) (hB : Bd T) (hQ : ∀ nn, MoR nn (takeT T) sd → Keep mm nn → Q (.inl none) (gs G (V + 1) (aI 750 nn))) : ∀ (k i : Nat) (nn : Nat → Int32), T 12 0 - i < k → i ≤ T 12 0 → MoR nn (tkN T i) (sd) → Keep mm nn → Wp E 2 0 0 kX8_inventory Q (gs G (V + 1) (aI 750 nn)) (0, 0) 2 [.ref V, .int (nI i)] [] := by
  intro k
  induction k with
  | zero => intro i nn h; exact absurd h (by omega)
  | succ k ih =>
    intro i nn hk hi hRn hKn
    have hV2 : (gs G (V + 1) (aI 750 nn)).1 V = _ := (gs_ne (by omega)).trans hV
    have hm2 : (gs G (V + 1) (aI 750 nn)).1 (V + 1) = some (aI 750 nn) := gs_at
    obtain ⟨r0, r3, r4, r5, r6, r7, r9, r11, r12, r14, r20, r26, rL⟩ := id hRn
    obtain ⟨b0, b1, b2_, b3, b4, b5, b6, b7, b8, b9, b10, b11, b12, b13, b14, b15, b16, b17, b18, b19⟩ := id hB
    have e12 : ∀ j, tkN T i 12 j = T 12 j := fun j => tkN_ne (by decide) (by decide) j i
    have hBn : Bd (tkN T i) := Bd.tk hB i hi
    rw [e12] at r3
    refine w_iload_n dX8_inventory_2 rfl ?_
    refine w_aload_n dX8_inventory_3 rfl ?_
    refine w_getf dX8_inventory_4 fl_X8_7 (by first | assumption | exact gs_at | (rw [gs_ne (by omega)]; (first | assumption | exact gs_at | (rw [gs_ne (by omega)]; (first | assumption | exact gs_at | (rw [gs_ne (by omega)]; (first | assumption | exact gs_at | (rw [gs_ne (by omega)]; (first | assumption | exact gs_at))))))))) rfl ?_
    refine w_iconst (v := nI 3) dX8_inventory_7 (by decide) ?_
    refine w_iaload dX8_inventory_8 (by first | assumption | exact gs_at | (rw [gs_ne (by omega)]; (first | assumption | exact gs_at | (rw [gs_ne (by omega)]; (first | assumption | exact gs_at | (rw [gs_ne (by omega)]; (first | assumption | exact gs_at | (rw [gs_ne (by omega)]; (first | assumption | exact gs_at))))))))) (by first | assumption | exact vp_in_nI (by omega) (by omega) | exact vp_in_nI (by assumption) (by omega)) ?_
    rw [nI_clamp (by omega)]
    first | rw [r3] | rw [r4] | rw [r5] | rw [r6] | rw [r0] | rw [r11] | rw [r12] | rw [r7 _ (by omega)] | rw [r9 _ (by omega)] | rw [r14 _ (by omega)] | rw [r20 _ (by omega)] | rw [r26 _ _ (by omega) (by omega)] | skip
    refine w_icmp_ge (tgt := 43) dX8_inventory_9 (by decide) (fun c_9 => ?_) (fun c_9 => ?_)
    · try simp (disch := omega) only [nI_b2, Decidable.not_not, nI_ltI, nI_leI, nI_eq, ge_iff_le, gt_iff_lt, ne_eq, Nat.not_lt, Nat.not_le] at c_9
      have e : i = T 12 0 := by omega
      subst e
      refine w_aload_n dX8_inventory_43 rfl ?_
      refine w_getf dX8_inventory_44 fl_X8_7 (by first | assumption | exact gs_at | (rw [gs_ne (by omega)]; (first | assumption | exact gs_at | (rw [gs_ne (by omega)]; (first | assumption | exact gs_at | (rw [gs_ne (by omega)]; (first | assumption | exact gs_at | (rw [gs_ne (by omega)]; (first | assumption | exact gs_at))))))))) rfl ?_
      refine w_bipush (v := nI 6) dX8_inventory_47 (by decide) ?_
      refine w_aload_n dX8_inventory_49 rfl ?_
      refine wV0u dX8_inventory_50 lk_X8_244 rfl (by first | assumption | exact gs_at | (rw [gs_ne (by omega)]; (first | assumption | exact gs_at | (rw [gs_ne (by omega)]; (first | assumption | exact gs_at | (rw [gs_ne (by omega)]; (first | assumption | exact gs_at | (rw [gs_ne (by omega)]; (first | assumption | exact gs_at))))))))) rfl rfl (m_soils hV2 hm2 hRn hBn) (Nat.le_of_ble_eq_true rfl) (Nat.le_of_ble_eq_true rfl) (Nat.le_of_ble_eq_true rfl) (Nat.le_of_ble_eq_true rfl) ?_
      refine w_iastore dX8_inventory_53 (by first | assumption | exact gs_at | (rw [gs_ne (by omega)]; (first | assumption | exact gs_at | (rw [gs_ne (by omega)]; (first | assumption | exact gs_at | (rw [gs_ne (by omega)]; (first | assumption | exact gs_at | (rw [gs_ne (by omega)]; (first | assumption | exact gs_at))))))))) (by first | assumption | exact vp_in_nI (by omega) (by omega) | exact vp_in_nI (by assumption) (by omega)) ?_
      rw [nI_clamp (by omega)]
      refine w_vret dX8_inventory_54 rfl (Nat.le_of_ble_eq_true rfl) (Nat.le_of_ble_eq_true rfl) ?_
      rw [gs_gs]
      refine hQ _ ?_ (hKn.tr (Keep.up (by decide) (by decide) (by decide)))
      rw [take_eq hB]
      have hs7 : sumN 6 (tkN T (T 12 0) 7) = sumN 6 (T 7) := sumN_cg 6 (fun j hj => tkN_ne (by decide) (by decide) j _)
      rw [hs7]
      exact hRn.s4
    · try simp (disch := omega) only [nI_b2, Decidable.not_not, nI_ltI, nI_leI, nI_eq, ge_iff_le, gt_iff_lt, ne_eq, Nat.not_lt, Nat.not_le] at c_9
      refine w_aload_n dX8_inventory_12 rfl ?_
      refine w_iload_n dX8_inventory_13 rfl ?_
      refine w_iconst (v := nI 5) dX8_inventory_14 (by decide) ?_
      refine w_aload_n dX8_inventory_15 rfl ?_
      refine w_iload_n dX8_inventory_16 rfl ?_
      refine w_iconst (v := nI 1) dX8_inventory_17 (by decide) ?_
      refine wV2u dX8_inventory_18 lk_X8_46 rfl (by first | assumption | exact gs_at | (rw [gs_ne (by omega)]; (first | assumption | exact gs_at | (rw [gs_ne (by omega)]; (first | assumption | exact gs_at | (rw [gs_ne (by omega)]; (first | assumption | exact gs_at | (rw [gs_ne (by omega)]; (first | assumption | exact gs_at))))))))) rfl rfl (m_of (w := 1) hV2 hm2 hRn hBn (by omega) (by decide)) (Nat.le_of_ble_eq_true rfl) (Nat.le_of_ble_eq_true rfl) (Nat.le_of_ble_eq_true rfl) (Nat.le_of_ble_eq_true rfl) ?_
      refine wV3n dX8_inventory_21 lk_X8_103 rfl (by first | assumption | exact gs_at | (rw [gs_ne (by omega)]; (first | assumption | exact gs_at | (rw [gs_ne (by omega)]; (first | assumption | exact gs_at | (rw [gs_ne (by omega)]; (first | assumption | exact gs_at | (rw [gs_ne (by omega)]; (first | assumption | exact gs_at))))))))) rfl rfl (m_put (w := 5) hV2 hm2 hRn hBn (by omega) (by decide)) (Nat.le_of_ble_eq_true rfl) (Nat.le_of_ble_eq_true rfl) (Nat.le_of_ble_eq_true rfl) (Nat.le_of_ble_eq_true rfl) ?_
      rw [gs_gs]
      have hR1 := hRn.pi (i := i) (w := 5) (x := tkN T i 1 i) (by omega) (by decide)
      have hK1 := hKn.tr (Keep.up (mm := nn) (k := 26 + 7 * i + 5) (x := nI (tkN T i 1 i)) (by omega) (by omega) (by omega))
      have hV3 : (gs G (V + 1) (aI 750 (upd nn (26 + 7 * i + 5) (nI (tkN T i 1 i))))).1 V = _ := (gs_ne (by omega)).trans hV
      have hB1 : Bd (tu (tkN T i) 5 i (tkN T i 1 i)) := hBn.pu5 (by rw [e12]; omega) (hBn.2.2.1 i)
      refine w_aload_n dX8_inventory_24 rfl ?_
      refine w_iload_n dX8_inventory_25 rfl ?_
      refine w_bipush (v := nI 6) dX8_inventory_26 (by decide) ?_
      refine w_aload_n dX8_inventory_28 rfl ?_
      refine w_iload_n dX8_inventory_29 rfl ?_
      refine w_iconst (v := nI 2) dX8_inventory_30 (by decide) ?_
      refine wV2u dX8_inventory_31 lk_X8_46 rfl (by first | assumption | exact gs_at | (rw [gs_ne (by omega)]; (first | assumption | exact gs_at | (rw [gs_ne (by omega)]; (first | assumption | exact gs_at | (rw [gs_ne (by omega)]; (first | assumption | exact gs_at | (rw [gs_ne (by omega)]; (first | assumption | exact gs_at))))))))) rfl rfl (m_of (w := 2) hV3 gs_at hR1 hB1 (by omega) (by decide)) (Nat.le_of_ble_eq_true rfl) (Nat.le_of_ble_eq_true rfl) (Nat.le_of_ble_eq_true rfl) (Nat.le_of_ble_eq_true rfl) ?_
      rw [tu_ne1 _ _ _ _ (show 2 ≠ 5 by decide)]
      refine wV3n dX8_inventory_34 lk_X8_103 rfl (by first | assumption | exact gs_at | (rw [gs_ne (by omega)]; (first | assumption | exact gs_at | (rw [gs_ne (by omega)]; (first | assumption | exact gs_at | (rw [gs_ne (by omega)]; (first | assumption | exact gs_at | (rw [gs_ne (by omega)]; (first | assumption | exact gs_at))))))))) rfl rfl (m_put (w := 6) hV3 gs_at hR1 hB1 (by omega) (by decide)) (Nat.le_of_ble_eq_true rfl) (Nat.le_of_ble_eq_true rfl) (Nat.le_of_ble_eq_true rfl) (Nat.le_of_ble_eq_true rfl) ?_
      rw [gs_gs]
      have hR2 := hR1.pi (i := i) (w := 6) (x := tkN T i 2 i) (by omega) (by decide)
      have hK2 := hK1.tr (Keep.up (k := 26 + 7 * i + 6) (x := nI (tkN T i 2 i)) (by omega) (by omega) (by omega))
      first | refine w_iinc_1 dX8_inventory_37 (nI_inc _) rfl ?_ | refine w_iinc_1 dX8_inventory_37 rfl rfl ?_
      refine w_goto (tgt := 2) dX8_inventory_40 (by decide) ?_
      refine ih (i + 1) _ (by omega) (by omega) ?_ ?_
      · rw [tkN, ← tkN_ne (T := T) (g := 1) (by decide) (by decide) i i, ← tkN_ne (T := T) (g := 2) (by decide) (by decide) i i]
        exact hR2
      · exact hK2
theorem m_inventory {E : EV} {V : Nat} {th hi ac tp ba en at_ fa dp io hm_ we sh so : Int32} {mm : Nat → Int32} {T : ST} {sd : Int32} {G : AH}  (hV : G.1 V = some (mO V th hi ac tp ba en at_ fa dp io hm_ we sh so)) (hm : G.1 (V + 1) = some (aI 750 mm)) (hR : MoR mm T sd) (hB : Bd T)  : Cd E 2 kX8_inventory [.ref V] G (fun G1 => ∃ nn, G1 = (gs G (V + 1) (aI 750 nn)) ∧ MoR nn (takeT T) (sd) ∧ Keep mm nn) := by
  obtain ⟨r0, r3, r4, r5, r6, r7, r9, r11, r12, r14, r20, r26, rL⟩ := id hR
  obtain ⟨b0, b1, b2_, b3, b4, b5, b6, b7, b8, b9, b10, b11, b12, b13, b14, b15, b16, b17, b18, b19⟩ := id hB
  refine Ct.intro rfl (by decide) [.ref V, .float 0] (by simp [Value.category]) (Nat.le_of_ble_eq_true rfl) rfl ?_
  refine w_iconst (v := nI 0) dX8_inventory_0 (by decide) ?_
  refine w_istore_1 dX8_inventory_1 rfl ?_
  have h := ml_inv (E := E) hV hm hR hB (Q := fun o G1 => o = .inl none ∧ ∃ nn, G1 = (gs G (V + 1) (aI 750 nn)) ∧ MoR nn (takeT T) sd ∧ Keep mm nn) (fun nn a b => ⟨rfl, nn, rfl, a, b⟩) (T 12 0 + 1) 0 mm (by omega) (by omega) hR Keep.rf
  rw [gs_id hm] at h
  exact h
theorem m_draw {E : EV} {V : Nat} {th hi ac tp ba en at_ fa dp io hm_ we sh so : Int32} {mm : Nat → Int32} {T : ST} {sd : Int32} {G : AH} {n : Nat} (hV : G.1 V = some (mO V th hi ac tp ba en at_ fa dp io hm_ we sh so)) (hm : G.1 (V + 1) = some (aI 750 mm)) (hR : MoR mm T sd) (hB : Bd T) (hn : 0 < n) (hn2 : n < 2 ^ 20) : Ci E 1 kX8_draw [.ref V, .int (nI n)] G (fun r G1 => r = nI (drN (dN sd) % n) ∧ G1 = gs G (V + 1) (aI 750 (upd mm 12 (dN sd)))) := by
  obtain ⟨r0, r3, r4, r5, r6, r7, r9, r11, r12, r14, r20, r26, rL⟩ := id hR
  obtain ⟨b0, b1, b2_, b3, b4, b5, b6, b7, b8, b9, b10, b11, b12, b13, b14, b15, b16, b17, b18, b19⟩ := id hB
  refine Ct.intro rfl (by decide) [.ref V, .int (nI n)] (by simp [Value.category]) (Nat.le_of_ble_eq_true rfl) rfl ?_
  refine w_aload_n dX8_draw_0 rfl ?_
  refine w_getf dX8_draw_1 fl_X8_7 (by first | assumption | exact gs_at | (rw [gs_ne (by omega)]; (first | assumption | exact gs_at | (rw [gs_ne (by omega)]; (first | assumption | exact gs_at | (rw [gs_ne (by omega)]; (first | assumption | exact gs_at | (rw [gs_ne (by omega)]; (first | assumption | exact gs_at))))))))) rfl ?_
  refine w_bipush (v := nI 12) dX8_draw_4 (by decide) ?_
  refine w_ldc (v := 1103515245) dX8_draw_6 u_1581 ?_
  refine w_aload_n dX8_draw_8 rfl ?_
  refine w_getf dX8_draw_9 fl_X8_7 (by first | assumption | exact gs_at | (rw [gs_ne (by omega)]; (first | assumption | exact gs_at | (rw [gs_ne (by omega)]; (first | assumption | exact gs_at | (rw [gs_ne (by omega)]; (first | assumption | exact gs_at | (rw [gs_ne (by omega)]; (first | assumption | exact gs_at))))))))) rfl ?_
  refine w_bipush (v := nI 12) dX8_draw_12 (by decide) ?_
  refine w_iaload dX8_draw_14 (by first | assumption | exact gs_at | (rw [gs_ne (by omega)]; (first | assumption | exact gs_at | (rw [gs_ne (by omega)]; (first | assumption | exact gs_at | (rw [gs_ne (by omega)]; (first | assumption | exact gs_at | (rw [gs_ne (by omega)]; (first | assumption | exact gs_at))))))))) (by first | assumption | exact vp_in_nI (by omega) (by omega) | exact vp_in_nI (by assumption) (by omega)) ?_
  rw [nI_clamp (by omega)]
  first | rw [r3] | rw [r4] | rw [r5] | rw [r6] | rw [r0] | rw [r11] | rw [r12] | rw [r7 _ (by omega)] | rw [r9 _ (by omega)] | rw [r14 _ (by omega)] | rw [r20 _ (by omega)] | rw [r26 _ _ (by omega) (by omega)] | skip
  refine w_imul dX8_draw_15 ?_
  refine w_sipush (v := nI 12345) dX8_draw_16 (by decide) ?_
  refine w_iadd dX8_draw_19 ?_
  refine w_iastore dX8_draw_20 (by first | assumption | exact gs_at | (rw [gs_ne (by omega)]; (first | assumption | exact gs_at | (rw [gs_ne (by omega)]; (first | assumption | exact gs_at | (rw [gs_ne (by omega)]; (first | assumption | exact gs_at | (rw [gs_ne (by omega)]; (first | assumption | exact gs_at))))))))) (by first | assumption | exact vp_in_nI (by omega) (by omega) | exact vp_in_nI (by assumption) (by omega)) ?_
  rw [nI_clamp (by omega)]
  change Wp _ _ _ _ _ _ (gs G (V + 1) (aI 750 (upd mm 12 (dN sd)))) _ _ _ _
  refine w_aload_n dX8_draw_21 rfl ?_
  refine w_getf dX8_draw_22 fl_X8_7 (by first | assumption | exact gs_at | (rw [gs_ne (by omega)]; (first | assumption | exact gs_at | (rw [gs_ne (by omega)]; (first | assumption | exact gs_at | (rw [gs_ne (by omega)]; (first | assumption | exact gs_at | (rw [gs_ne (by omega)]; (first | assumption | exact gs_at))))))))) rfl ?_
  refine w_bipush (v := nI 12) dX8_draw_25 (by decide) ?_
  refine w_iaload dX8_draw_27 (by first | assumption | exact gs_at | (rw [gs_ne (by omega)]; (first | assumption | exact gs_at | (rw [gs_ne (by omega)]; (first | assumption | exact gs_at | (rw [gs_ne (by omega)]; (first | assumption | exact gs_at | (rw [gs_ne (by omega)]; (first | assumption | exact gs_at))))))))) (by first | assumption | exact vp_in_nI (by omega) (by omega) | exact vp_in_nI (by assumption) (by omega)) ?_
  rw [nI_clamp (by omega)]
  rw [upd_at]
  refine w_bipush (v := nI 16) dX8_draw_28 (by decide) ?_
  refine w_iushr dX8_draw_30 ?_
  refine w_sipush (v := nI 32767) dX8_draw_31 (by decide) ?_
  first | refine w_iandN dX8_draw_34 ?_ | refine w_iand dX8_draw_34 ?_
  rw [dr_eq]
  have hdl := drN_lt (dN sd)
  refine w_iload_n dX8_draw_35 rfl ?_
  first | refine w_iremN (by omega) (by omega) (by omega) dX8_draw_36 ?_ | refine w_irem dX8_draw_36 (by decide) ?_
  refine w_iret dX8_draw_37 rfl (Nat.le_of_ble_eq_true rfl) (Nat.le_of_ble_eq_true rfl) ?_
  exact ⟨_, rfl, rfl, rfl⟩
