/-! a law that is right is well formed -/
def XE (X Y : LX) : Prop := Y.1 = X.1 ∧ Y.2.1 = X.2.1 ∧ Y.2.2.1 = X.2.2.1 ∧ Y.2.2.2.1 = X.2.2.2.1 ∧ X.2.2.2.2.2 ≤ Y.2.2.2.2.2 ∧ (X.2.2.2.2.2 ≤ 400 → Y.2.2.2.2.2 ≤ 400)
theorem XE.rf {X : LX} : XE X X := ⟨rfl, rfl, rfl, rfl, Nat.le_refl _, id⟩
theorem XE.tr {X Y Z : LX} (h : XE X Y) (k : XE Y Z) : XE X Z := ⟨k.1.trans h.1, k.2.1.trans h.2.1, k.2.2.1.trans h.2.2.1, k.2.2.2.1.trans h.2.2.2.1, Nat.le_trans h.2.2.2.2.1 k.2.2.2.2.1, fun x => k.2.2.2.2.2 (h.2.2.2.2.2 x)⟩
theorem XE.em {X : LX} {c : Int32} : XE X (emX X c) := by
  unfold emX
  split
  · exact ⟨rfl, rfl, rfl, rfl, Nat.le_succ _, fun _ => by simp only; omega⟩
  · exact XE.rf
theorem rel_s (w : Nat → Int32) (lo : Int32) (k : Nat) (X : LX) (d : Int32) : rel w lo (k + 1) X d = if atV 32 w (nI k) < lo then (X, k + 1, d) else rel w lo k (emX X (atV 32 w (nI k))) (if atV 32 w (nI k) = -13 then d - nI 1 else d) := rfl
theorem XE.rel (w : Nat → Int32) (lo : Int32) : ∀ (k : Nat) (X : LX) (d : Int32), XE X (rel w lo k X d).1
  | 0, X, d => XE.rf
  | k + 1, X, d => by
    rw [rel_s]
    split
    · exact XE.rf
    · exact XE.em.tr (XE.rel w lo k _ _)
def UE (n : Nat) (u v : US) : Prop := XE u.2.1 v.2.1 ∧ (u.1.1 ≤ n → v.1.1 ≤ n ∧ (v.1.2 = -1 → u.1.2 = -1))
theorem UE.rf {n : Nat} {u : US} : UE n u u := ⟨XE.rf, fun h => ⟨h, id⟩⟩
theorem UE.tr {n : Nat} {u v w : US} (h : UE n u v) (k : UE n v w) : UE n u w := ⟨h.1.tr k.1, fun x => ⟨(k.2 (h.2 x).1).1, fun y => (h.2 x).2 ((k.2 (h.2 x).1).2 y)⟩⟩
section UES
variable {y : Nat → Nat} {n : Nat}
theorem UE.rfU (hn : n ≤ 400) {u : US} : UE n u (rfU u) := ⟨XE.rf, fun h => ⟨h, fun e => (rf_no (s := u.1) (by omega) e).elim⟩⟩
theorem UE.tk {u : US} : UE n u (tkU y n u) := ⟨XE.rf, fun h => ⟨nxt_le h, id⟩⟩
theorem UE.em {u : US} {c : Int32} : UE n u (emU c u) := ⟨XE.em, fun h => ⟨h, id⟩⟩
theorem UE.pop {u : US} : UE n u (popU u) := ⟨XE.rf, fun h => ⟨h, id⟩⟩
theorem UE.dep {u : US} : UE n u (depU u) := ⟨XE.rf, fun h => ⟨h, id⟩⟩
theorem UE.hold {u : US} {c : Int32} : UE n u (uHold c u) := ⟨XE.rf, fun h => ⟨h, id⟩⟩
theorem UE.rel {u : US} {lo : Int32} : UE n u (uRel lo u) := ⟨XE.rel _ _ _ _ _, fun h => ⟨h, id⟩⟩
theorem UE.num (hn : n ≤ 400) {u : US} {lo hi : Nat} {c : Int32} : UE n u (sNum y n lo hi u.1, emX u.2.1 c, u.2.2) := ⟨XE.em, fun h => ⟨num_p h, fun e => (num_ok (by omega) e).1⟩⟩
theorem UE.nd (hn : n ≤ 400) {u : US} {ws : List Nat} : UE n u (sNd y n ws u.1, u.2) := ⟨XE.rf, fun h => ⟨nd_p h, fun e => (nd_ok (by omega) e).1⟩⟩
theorem UE.cl (hn : n ≤ 400) : ∀ (k : Nat) (u : US), UE n u (uCl y n k u)
  | 0, u => UE.rf
  | k + 1, u => by
    rw [uCl]
    split
    · split
      · exact UE.rel.tr (UE.rfU hn)
      · exact UE.rel.tr (UE.pop.tr (UE.tk.tr (UE.rel.tr (UE.cl hn k _))))
    · exact UE.rf
theorem UE.close (hn : n ≤ 400) {u : US} : UE n u (uClose y n u) := UE.rel.tr (UE.cl hn 7 _)
theorem UE.part (hn : n ≤ 400) {u : US} : UE n u (uPart y n u) := by
  unfold uPart
  split
  · exact UE.num hn
  · exact UE.em.tr UE.tk
theorem UE.sm (hn : n ≤ 400) : ∀ (k : Nat) (u : US), UE n u (uSm y n k u)
  | 0, u => UE.rf
  | k + 1, u => by
    rw [uSm]
    split
    · split
      · exact (UE.part hn).tr (UE.tk.tr (UE.sm hn k _))
      · exact UE.part hn
    · exact UE.part hn
theorem UE.sum (hn : n ≤ 400) {u : US} : UE n u (uSum y n u) := by
  unfold uSum
  split
  · exact UE.sm hn 400 u
  · exact UE.rf
theorem UE.pre (hn : n ≤ 400) : ∀ (k : Nat) (u : US), UE n u (uPre y n k u).2
  | 0, u => UE.rf
  | k + 1, u => by
    rw [uPre]
    split
    · split
      · exact UE.rfU hn
      · exact UE.hold.tr (UE.dep.tr (UE.tk.tr (UE.pre hn k _)))
    · exact UE.rf
theorem UE.atomE (hn : n ≤ 400) {u : US} : UE n u (uAtomE y n u) := by
  unfold uAtomE
  split
  · exact UE.tk.tr (UE.em.tr ((UE.sum hn).tr UE.em))
  · exact (UE.nd hn).tr (UE.em.tr ((UE.sum hn).tr UE.em))
theorem UE.atomT (hn : n ≤ 400) {u : US} : UE n u (uAtomT y n u) := by
  unfold uAtomT
  split
  · exact UE.tk.tr UE.em
  · split
    · exact UE.tk.tr UE.em
    · exact (UE.sum hn).tr (UE.atomE hn)
theorem UE.atom (hn : n ≤ 400) {u : US} : UE n u (uAtom y n u) := by
  unfold uAtom
  split
  · exact (UE.pre hn 7 u).tr (UE.atomT hn)
  · exact UE.pre hn 7 u
theorem UE.join {u : US} : UE n u (uJoin y n u).2 := by
  unfold uJoin
  split
  · exact UE.tk.tr (UE.rel.tr UE.hold)
  · split
    · exact UE.tk.tr (UE.rel.tr UE.hold)
    · exact UE.rf
theorem UE.cn (hn : n ≤ 400) : ∀ (k : Nat) (u : US), UE n u (uCn y n k u)
  | 0, u => UE.rf
  | k + 1, u => by
    have h1 : UE n u (uClose y n (uAtom y n u)) := (UE.atom hn).tr (UE.close hn)
    rw [uCn]
    split
    · split
      · exact h1.tr (UE.join.tr (UE.cn hn k _))
      · exact h1.tr UE.join
    · exact h1
theorem UE.cd (hn : n ≤ 400) {u : US} : UE n u (uCd u) := by
  unfold uCd
  split
  · exact UE.rel.tr (UE.rfU hn)
  · exact UE.rel
theorem UE.cond (hn : n ≤ 400) {u : US} : UE n u (uCond y n u) := by
  have h0 : UE n u (u.1, u.2.1, u.2.2.1, 0, nI 0) := ⟨XE.rf, fun h => ⟨h, id⟩⟩
  exact h0.tr ((UE.cn hn 400 _).tr (UE.cd hn))
theorem UE.iff (hn : n ≤ 400) {u : US} : UE n u (uIf y n u) := by
  unfold uIf
  split
  · exact UE.tk.tr (UE.cond hn)
  · exact UE.rf
/-- i lines stand -/
def LI (n i : Nat) (u : US) : Prop := u.1.1 ≤ n ∧ u.2.1.1 = nI i ∧ u.2.1.2.2.2.2.2 ≤ 400 ∧ ∀ j, j < i → (∃ a, a < 3 ∧ u.2.1.2.1 j = nI a) ∧ (∃ m, m ≤ 20 ∧ u.2.1.2.2.1 j = nI m) ∧ ∃ b c, u.2.1.2.2.2.1 j = nI b ∧ u.2.1.2.2.2.1 (j + 1) = nI c ∧ b ≤ c ∧ c ≤ u.2.1.2.2.2.2.2
theorem LI.line (hn : n ≤ 400) {i : Nat} {u : US} (h : LI n i u) (hw : (uLine y n i u).1.2 = -1) : LI n (i + 1) (uLine y n i u) := by
  obtain ⟨hp, hl, hu, hr⟩ := h
  unfold uLine at hw ⊢
  by_cases h3 : abF y n u.1.1 = 3
  · rw [if_pos h3] at hw; exact (rf_no (s := u.1) (by omega) hw).elim
  rw [if_neg h3] at hw ⊢
  have hx := UE.iff (y := y) (u := uNum y n i u) hn
  have hp2 : (uNum y n i u).1.1 ≤ n := num_p (s := (nxt y n u.1.1, u.1.2)) (nxt_le hp)
  obtain ⟨⟨x1, x2, x3, x4, x5, x6⟩, xp⟩ := hx
  obtain ⟨xp1, xp2⟩ := xp hp2
  have hw2 : (uNum y n i u).1.2 = -1 := xp2 hw
  obtain ⟨-, v, -, hv, -, ev, -⟩ := num_ok (s := (nxt y n u.1.1, u.1.2)) (by have := nxt_le (y := y) hp; simp only; omega) hw2
  have ha4 : abF y n u.1.1 ≤ 3 := by unfold abF; repeat' split
                                     all_goals decide
  have ha : abF y n u.1.1 < 3 := by omega
  refine ⟨xp1, rfl, x6 hu, fun j hj => ?_⟩
  have hu5 : u.2.1.2.2.2.2.2 ≤ (uIf y n (uNum y n i u)).2.1.2.2.2.2.2 := x5
  show (∃ a, a < 3 ∧ (uIf y n (uNum y n i u)).2.1.2.1 j = nI a) ∧ (∃ m, m ≤ 20 ∧ (uIf y n (uNum y n i u)).2.1.2.2.1 j = nI m) ∧ ∃ b c, upd (uIf y n (uNum y n i u)).2.1.2.2.2.1 (i + 1) (nI (uIf y n (uNum y n i u)).2.1.2.2.2.2.2) j = nI b ∧ upd (uIf y n (uNum y n i u)).2.1.2.2.2.1 (i + 1) (nI (uIf y n (uNum y n i u)).2.1.2.2.2.2.2) (j + 1) = nI c ∧ b ≤ c ∧ c ≤ (uIf y n (uNum y n i u)).2.1.2.2.2.2.2
  rw [x2, x3, x4]
  show (∃ a, a < 3 ∧ upd u.2.1.2.1 i (nI (abF y n u.1.1)) j = nI a) ∧ (∃ m, m ≤ 20 ∧ upd u.2.1.2.2.1 i (vNum y n 0 21 (nxt y n u.1.1, u.1.2)) j = nI m) ∧ ∃ b c, upd (upd u.2.1.2.2.2.1 i (nI u.2.1.2.2.2.2.2)) (i + 1) _ j = nI b ∧ upd (upd u.2.1.2.2.2.1 i (nI u.2.1.2.2.2.2.2)) (i + 1) _ (j + 1) = nI c ∧ b ≤ c ∧ c ≤ _
  unfold upd
  by_cases e : j = i
  · subst e
    rw [if_pos rfl, if_pos rfl, if_neg (show ¬ j = j + 1 by omega), if_pos rfl, if_pos rfl]
    exact ⟨⟨_, ha, rfl⟩, ⟨v, by omega, ev⟩, _, _, rfl, rfl, hu5, Nat.le_refl _⟩
  · obtain ⟨h1, h2, b, c, e1, e2, h4, h5⟩ := hr j (by omega)
    rw [if_neg e, if_neg e, if_neg (show ¬ j = i + 1 by omega), if_neg e, if_neg (show ¬ j + 1 = i + 1 by omega)]
    refine ⟨h1, h2, b, ?_⟩
    by_cases e3 : j + 1 = i
    · rw [if_pos e3]; exact ⟨_, e1, rfl, by omega, hu5⟩
    · rw [if_neg e3]; exact ⟨c, e1, e2, h4, by omega⟩
theorem LI.go (hn : n ≤ 400) : ∀ (k i : Nat) (u : US), i ≤ 12 → LI n i u → (uGo y n k i u).1.2 = -1 → ∃ j, j ≤ 12 ∧ LI n j (uGo y n k i u)
  | 0, i, u, hi, h, hw => ⟨i, hi, h⟩
  | k + 1, i, u, hi, h, hw => by
    rw [uGo] at hw ⊢
    have hs : (uStep y n i u).1.2 = -1 → i < 12 ∧ LI n (i + 1) (uStep y n i u) := by
      unfold uStep
      intro h9
      by_cases e : i = 12
      · rw [if_pos e] at h9; exact (rf_no (s := u.1) (by have := h.1; omega) h9).elim
      · rw [if_neg e] at h9 ⊢; exact ⟨by omega, h.line hn h9⟩
    by_cases h1 : (uStep y n i u).1.2 = -1
    · obtain ⟨h2, h3⟩ := hs h1
      rw [if_pos h1] at hw ⊢
      by_cases h4 : atB y n (uStep y n i u).1.1 [59] = true
      · rw [if_pos h4] at hw ⊢
        exact LI.go hn k (i + 1) _ (by omega) ⟨nxt_le h3.1, h3.2⟩ hw
      · rw [if_neg h4] at hw ⊢
        exact ⟨i + 1, by omega, h3⟩
    · rw [if_neg h1] at hw; exact absurd hw h1
theorem uText_ok (hn : n ≤ 400) {X : LX} {ww : Nat → Int32} {wn : Nat} {dp : Int32} (h : (uEnd n (uText y n ((skp y n 0, -1), clrX X, ww, wn, dp))).1.2 = -1) : ∃ D, toX D = (uEnd n (uText y n ((skp y n 0, -1), clrX X, ww, wn, dp))).2.1 ∧ WFD D := by
  have h0 : skp y n 0 ≤ n := (skp_le (Nat.zero_le n)).2
  have hL0 : LI n 0 ((skp y n 0, -1), clrX X, ww, wn, dp) := ⟨h0, rfl, Nat.zero_le _, fun j hj => absurd hj (Nat.not_lt_zero _)⟩
  have hL : ∃ j, j ≤ 12 ∧ LI n j (uEnd n (uText y n ((skp y n 0, -1), clrX X, ww, wn, dp))) := by
    have h9 := h
    unfold uEnd at h9 ⊢
    have hT : (uText y n ((skp y n 0, -1), clrX X, ww, wn, dp)).1.2 = -1 → ∃ j, j ≤ 12 ∧ LI n j (uText y n ((skp y n 0, -1), clrX X, ww, wn, dp)) := by
      unfold uText
      split
      · exact fun _ => ⟨0, by decide, hL0⟩
      · exact LI.go hn 13 0 _ (by decide) hL0
    have hT1 : (uText y n ((skp y n 0, -1), clrX X, ww, wn, dp)).1.1 < 2 ^ 31 := by
      unfold uText
      split
      · simp only; omega
      · have hg : ∀ (k i : Nat) (u : US), u.1.1 ≤ n → (uGo y n k i u).1.1 ≤ n := by
          intro k
          induction k with
          | zero => intro i u hp; exact hp
          | succ k ih =>
            intro i u hp
            have hst : (uStep y n i u).1.1 ≤ n := by
              unfold uStep uLine
              split
              · exact hp
              · split
                · exact hp
                · exact ((UE.iff (y := y) (u := uNum y n i u) hn).2 (num_p (s := (nxt y n u.1.1, u.1.2)) (nxt_le hp))).1
            rw [uGo]
            split
            · split
              · exact ih _ _ (nxt_le hst)
              · exact hst
            · exact hst
        have := hg 13 0 ((skp y n 0, -1), clrX X, ww, wn, dp) h0
        omega
    split at h9
    · rename_i h8
      rw [if_pos h8]; exact hT h9
    · exact (rf_no (s := (uText y n ((skp y n 0, -1), clrX X, ww, wn, dp)).1) hT1 h9).elim
  obtain ⟨j, hj, hp, hl, hu, hr⟩ := hL
  generalize (uEnd n (uText y n ((skp y n 0, -1), clrX X, ww, wn, dp))).2.1 = Z at hl hu hr ⊢
  refine ⟨(Z.1, j, fun i => nOf (Z.2.1 i), fun i => nOf (Z.2.2.1 i), fun i => nOf (Z.2.2.2.1 i), Z.2.2.2.2.1, Z.2.2.2.2.2), ?_, ?_⟩
  · unfold toX
    simp only [nI_nOf]
  · refine ⟨Or.inr hl, hj, fun i hi => ?_, fun i hi => ?_, fun i hi => ?_, fun i hi => ?_, hu⟩
    · obtain ⟨⟨a, ha, e⟩, -, -⟩ := hr i hi
      show nOf (Z.2.1 i) < 3
      rw [e, nOf_nI (by omega)]; exact ha
    · obtain ⟨-, ⟨m, hm, e⟩, -⟩ := hr i hi
      show nOf (Z.2.2.1 i) ≤ 20
      rw [e, nOf_nI (by omega)]; exact hm
    · obtain ⟨-, -, b, c, e1, e2, h4, h5⟩ := hr i hi
      show nOf (Z.2.2.2.1 (i + 1)) ≤ 400
      rw [e2, nOf_nI (by omega)]; omega
    · obtain ⟨-, -, b, c, e1, e2, h4, h5⟩ := hr i hi
      show nOf (Z.2.2.2.1 i) ≤ nOf (Z.2.2.2.1 (i + 1))
      rw [e1, e2, nOf_nI (by omega), nOf_nI (by omega)]; exact h4
end UES
