/-! a law's line: the class's and by recursion -/
section LIN
variable {y : Nat → Nat} {n : Nat}
theorem pPl_bad {s : RS} (h : ¬ s.2 = -1) : (pPl y n s).1.2 = s.2 := by
  unfold pPl
  split
  · rfl
  · split
    · rfl
    · rw [pSum_bad h]; exact pAtE_bad h
theorem uPre_bad : ∀ (k : Nat) {u : US}, ¬ u.1.2 = -1 → (uPre y n k u).2.1.2 = u.1.2
  | 0, _, _ => rfl
  | k + 1, u, h => by
    rw [uPre]
    split
    · split
      · exact rfU_bad h
      · exact uPre_bad k (u := tkU y n (depU (uHold (opC y n u.1.1) u))) h
    · rfl
theorem uAtom_bad {u : US} (h : ¬ u.1.2 = -1) : (uAtom y n u).1.2 = u.1.2 := by
  have h1 := uPre_bad (y := y) (n := n) 7 h
  unfold uAtom
  split
  · rw [uAtomT_p]
    exact (pPl_bad (by rw [h1]; exact h)).trans h1
  · exact h1
theorem uCn_bad {u : US} (h : ¬ u.1.2 = -1) : ∀ k, (uCn y n k u).1.2 = u.1.2
  | 0 => rfl
  | k + 1 => by
    have h1 : (uClose y n (uAtom y n u)).1.2 = u.1.2 := (uCl_bad 7 (u := uRel (-13) (uAtom y n u)) (by show ¬ (uAtom y n u).1.2 = -1; rw [uAtom_bad h]; exact h)).trans (uAtom_bad h)
    rw [uCn, if_neg (by rw [h1]; exact h)]
    exact h1
theorem uCond_bad {u : US} (h : ¬ u.1.2 = -1) : (uCond y n u).1.2 = u.1.2 := by
  have h1 : (uCn y n 400 (u.1, u.2.1, u.2.2.1, 0, nI 0)).1.2 = u.1.2 := uCn_bad (u := (u.1, u.2.1, u.2.2.1, 0, nI 0)) h 400
  exact (uCd_bad (by rw [h1]; exact h)).trans h1
theorem uIf_bad {u : US} (h : ¬ u.1.2 = -1) : (uIf y n u).1.2 = u.1.2 := by
  unfold uIf
  split
  · exact uCond_bad (u := tkU y n u) h
  · rfl
theorem ln_a {i : Nat} {u : US} (h : abF y n u.1.1 = 3) (hu : u.1.2 = -1) : (uLine y n i u).1.2 = nI u.1.1 := by
  unfold uLine
  rw [if_pos h]
  exact rfU_ok hu
theorem ln_b {i : Nat} {u : US} (hn : n ≤ 400) (hp : u.1.1 ≤ n) (h : ¬ abF y n u.1.1 = 3) (hu : u.1.2 = -1) (h1 : numF y n (nxt y n u.1.1) 0 21 = none) : (uLine y n i u).1.2 = nI (nxt y n u.1.1) := by
  have hb : (uNum y n i u).1.2 = nI (nxt y n u.1.1) := by
    show (sNum y n 0 21 (nxt y n u.1.1, u.1.2)).2 = _
    rw [hu, num_no h1]
  have hx := nxt_le (y := y) hp
  unfold uLine
  rw [if_neg h]
  exact (uIf_bad (u := uNum y n i u) (by rw [hb]; exact nI_nm1 (by omega))).trans hb
theorem uNum_ok {i v : Nat} {u : US} (hu : u.1.2 = -1) (h1 : numF y n (nxt y n u.1.1) 0 21 = some v) : uNum y n i u = ((nxt y n (nxt y n u.1.1), -1), begX u.2.1 i (nI (abF y n u.1.1)) (nI v), u.2.2) := by
  unfold uNum
  rw [hu, (num_yes h1).1, (num_yes h1).2]
theorem ln_c {i v : Nat} {u : US} (h : ¬ abF y n u.1.1 = 3) (hu : u.1.2 = -1) (h1 : numF y n (nxt y n u.1.1) 0 21 = some v) (h2 : ¬ atB y n (nxt y n (nxt y n u.1.1)) [105, 102] = true) : (uLine y n i u).1 = (nxt y n (nxt y n u.1.1), -1) ∧ (uLine y n i u).2.1 = endX (apX (begX u.2.1 i (nI (abF y n u.1.1)) (nI v)) []) i := by
  unfold uLine
  rw [if_neg h, uNum_ok hu h1]
  unfold uIf
  rw [if_neg h2]
  exact ⟨rfl, rfl⟩
theorem ln_d {i v : Nat} {u : US} (hn : n ≤ 400) (hp : u.1.1 ≤ n) (hX : u.2.1.2.2.2.2.2 ≤ u.1.1) (h : ¬ abF y n u.1.1 = 3) (hu : u.1.2 = -1) (h1 : numF y n (nxt y n u.1.1) 0 21 = some v) (h2 : atB y n (nxt y n (nxt y n u.1.1)) [105, 102] = true) :
  (¬ (pSo y n (pAtom y n 6) (nxt y n (nxt y n (nxt y n u.1.1)), -1)).1.2 = -1 → (uLine y n i u).1.2 = (pSo y n (pAtom y n 6) (nxt y n (nxt y n (nxt y n u.1.1)), -1)).1.2) ∧
  ((pSo y n (pAtom y n 6) (nxt y n (nxt y n (nxt y n u.1.1)), -1)).1.2 = -1 → (¬ atB y n (pSo y n (pAtom y n 6) (nxt y n (nxt y n (nxt y n u.1.1)), -1)).1.1 [41] = true → (uLine y n i u).1 = (pSo y n (pAtom y n 6) (nxt y n (nxt y n (nxt y n u.1.1)), -1)).1 ∧ (uLine y n i u).2.1 = endX (apX (begX u.2.1 i (nI (abF y n u.1.1)) (nI v)) (pSo y n (pAtom y n 6) (nxt y n (nxt y n (nxt y n u.1.1)), -1)).2) i) ∧
    (atB y n (pSo y n (pAtom y n 6) (nxt y n (nxt y n (nxt y n u.1.1)), -1)).1.1 [41] = true → (uLine y n i u).1.2 = nI (pSo y n (pAtom y n 6) (nxt y n (nxt y n (nxt y n u.1.1)), -1)).1.1)) := by
  have q1 := nxt_le (y := y) hp
  have q2 := nxt_le (y := y) q1
  have w1 := (skp_le (y := y) (tokE_le (y := y) hp).2).1
  have w2 := (tokE_le (y := y) hp).1
  have w3 := (skp_le (y := y) (tokE_le (y := y) q1).2).1
  have w4 := (tokE_le (y := y) q1).1
  have e1 : nxt y n u.1.1 = skp y n (tokE y n u.1.1) := rfl
  have e2 : nxt y n (nxt y n u.1.1) = skp y n (tokE y n (nxt y n u.1.1)) := rfl
  obtain ⟨a1, a2⟩ := at_nxt q2 h2
  simp only [List.length_cons, List.length_nil] at a1
  have e : uLine y n i u = enU i (uCond y n ((nxt y n (nxt y n (nxt y n u.1.1)), -1), begX u.2.1 i (nI (abF y n u.1.1)) (nI v), u.2.2.1, u.2.2.2.1, u.2.2.2.2)) := by
    unfold uLine
    rw [if_neg h, uNum_ok hu h1]
    unfold uIf
    rw [if_pos h2]
    rfl
  obtain ⟨b1, b2⟩ := sim_cond (y := y) hn (s := (nxt y n (nxt y n (nxt y n u.1.1)), -1)) (X := begX u.2.1 i (nI (abF y n u.1.1)) (nI v)) (w := u.2.2.1) (wn := u.2.2.2.1) (d := u.2.2.2.2) rfl a2 (by show u.2.1.2.2.2.2.2 + 1 ≤ nxt y n (nxt y n (nxt y n u.1.1)); omega) (by show 2 ≤ nxt y n (nxt y n (nxt y n u.1.1)); omega)
  rw [e]
  refine ⟨b1, fun h9 => ⟨fun h10 => ?_, fun h10 => (b2 h9).2 h10⟩⟩
  obtain ⟨c1, c2⟩ := (b2 h9).1 h10
  exact ⟨c1, congrArg (fun X => endX X i) c2⟩
/-- what lines tell, over the arrays -/
def tlX (X : LX) (T : ST) (k : Nat) : Nat → Nat → Nat
  | 0, _ => 0
  | i + 1, j => tlX X T k i j + (if hBn T k X.2.2.2.2.1 (nOf (X.2.2.2.1 i)) (nOf (X.2.2.2.1 (i + 1))) = 1 ∧ X.2.1 i = nI j then nOf (X.2.2.1 i) else 0)
theorem hrun_cg {T : ST} {k : Nat} {f g : Nat → Int32} {i : Nat} : ∀ (m : Nat) (s : HS), (∀ j, j < m → f (i + j) = g (i + j)) → hrun T k f i m s = hrun T k g i m s
  | 0, _, _ => rfl
  | m + 1, s, h => by
    show hstep T k (f (i + m)) (hrun T k f i m s) = hstep T k (g (i + m)) (hrun T k g i m s)
    rw [hrun_cg m s (fun j hj => h j (by omega)), h m (by omega)]
theorem tlX_cg {X Z : LX} {T : ST} {k u : Nat} (hc : ∀ j, j < u → Z.2.2.2.2.1 j = X.2.2.2.2.1 j) : ∀ (i : Nat), (∀ j, j < i → Z.2.1 j = X.2.1 j ∧ Z.2.2.1 j = X.2.2.1 j) → (∀ j, j ≤ i → Z.2.2.2.1 j = X.2.2.2.1 j) → (∀ j, j < i → nOf (X.2.2.2.1 j) ≤ nOf (X.2.2.2.1 (j + 1)) ∧ nOf (X.2.2.2.1 (j + 1)) ≤ u) → ∀ j, tlX Z T k i j = tlX X T k i j
  | 0, _, _, _, _ => rfl
  | i + 1, h1, h2, h3, j => by
    have e : hBn T k Z.2.2.2.2.1 (nOf (X.2.2.2.1 i)) (nOf (X.2.2.2.1 (i + 1))) = hBn T k X.2.2.2.2.1 (nOf (X.2.2.2.1 i)) (nOf (X.2.2.2.1 (i + 1))) := by
      have h4 := h3 i (by omega)
      unfold hBn
      rw [hrun_cg (f := Z.2.2.2.2.1) (g := X.2.2.2.2.1) _ _ (fun m hm => hc _ (by omega))]
    rw [tlX, tlX, tlX_cg hc i (fun m hm => h1 m (by omega)) (fun m hm => h2 m (by omega)) (fun m hm => h3 m (by omega)) j, h2 i (by omega), h2 (i + 1) (Nat.le_refl _), (h1 i (by omega)).1, (h1 i (by omega)).2, e]
theorem LI.tl {i : Nat} {u : US} (h : LI n i u) : ∀ j, j < i → nOf (u.2.1.2.2.2.1 j) ≤ nOf (u.2.1.2.2.2.1 (j + 1)) ∧ nOf (u.2.1.2.2.2.1 (j + 1)) ≤ u.2.1.2.2.2.2.2 := by
  intro j hj
  obtain ⟨-, -, h3, h4⟩ := h
  obtain ⟨-, -, b, c, e1, e2, h5, h6⟩ := h4 j hj
  rw [e1, e2, nOf_nI (by omega), nOf_nI (by omega)]
  exact ⟨h5, h6⟩
theorem hEnd_0 : hEnd h0.1 := by unfold h0 hEnd; decide
/-- a line more: what all lines tell -/
theorem tlX_line {i : Nat} {u v : US} {ab m : Nat} {cs : List Int32} {T : ST} {k : Nat} (hi : i < 12) (hLi : LI n i u) (hv : v.2.1 = endX (apX (begX u.2.1 i (nI ab) (nI m)) cs) i) (hab : ab < 3) (hm : m ≤ 20) (hcs : u.2.1.2.2.2.2.2 + cs.length ≤ 400) (hbi : ∀ q, i = q + 1 → u.2.1.2.2.2.1 i = nI u.2.1.2.2.2.2.2) : ∀ j, j < 3 → tlX v.2.1 T k (i + 1) j = tlX u.2.1 T k i j + (if hEnd (hL T k cs h0).1 ∧ ab = j then m else 0) := by
  intro j hj
  have hXE := apX_XE cs (begX u.2.1 i (nI ab) (nI m))
  obtain ⟨x1, x2, x3, x4, -, -⟩ := hXE
  have hu := apX_u cs (begX u.2.1 i (nI ab) (nI m)) hcs
  have hu : (apX (begX u.2.1 i (nI ab) (nI m)) cs).2.2.2.2.2 = u.2.1.2.2.2.2.2 + cs.length := hu
  have ho : ∀ q, q < u.2.1.2.2.2.2.2 → v.2.1.2.2.2.2.1 q = u.2.1.2.2.2.2.1 q := fun q hq => by
    rw [hv]; exact apX_old cs (begX u.2.1 i (nI ab) (nI m)) q hq
  have hne : ∀ q, q < cs.length → v.2.1.2.2.2.2.1 (u.2.1.2.2.2.2.2 + q) = cs.getD q 0 := fun q hq => by
    rw [hv]; exact apX_new cs (begX u.2.1 i (nI ab) (nI m)) q hcs hq
  have e1 : ∀ q, v.2.1.2.1 q = upd u.2.1.2.1 i (nI ab) q := fun q => by rw [hv]; show (apX _ cs).2.1 q = _; rw [x2]; rfl
  have e2 : ∀ q, v.2.1.2.2.1 q = upd u.2.1.2.2.1 i (nI m) q := fun q => by rw [hv]; show (apX _ cs).2.2.1 q = _; rw [x3]; rfl
  have e3 : ∀ q, v.2.1.2.2.2.1 q = upd (upd u.2.1.2.2.2.1 i (nI u.2.1.2.2.2.2.2)) (i + 1) (nI (u.2.1.2.2.2.2.2 + cs.length)) q := fun q => by
    rw [hv]; show upd (apX _ cs).2.2.2.1 (i + 1) (nI (apX _ cs).2.2.2.2.2) q = _; rw [x4, hu]; rfl
  have hlt := hLi.tl
  -- the start of this line, as the lines ahead of it left it, and where it begins now
  have h9 : tlX v.2.1 T k i j = tlX u.2.1 T k i j := by
    cases i with
    | zero => rfl
    | succ i =>
      refine tlX_cg ho (i + 1) (fun q hq => ⟨by rw [e1, upd_ne (by omega)], by rw [e2, upd_ne (by omega)]⟩) (fun q hq => ?_) hlt j
      rw [e3, upd_ne (by omega)]
      by_cases hqi : q = i + 1
      · subst hqi; rw [upd_at]; exact (hbi _ rfl).symm
      · rw [upd_ne hqi]
  have e4 : hBn T k v.2.1.2.2.2.2.1 u.2.1.2.2.2.2.2 (u.2.1.2.2.2.2.2 + cs.length) = 1 ↔ hEnd (hL T k cs h0).1 := by
    unfold hBn
    rw [Nat.add_sub_cancel_left, hrun_cs hne]
    unfold b2
    split
    · rename_i h8; exact ⟨fun _ => h8, fun _ => rfl⟩
    · rename_i h8; exact ⟨fun h7 => absurd h7 (by decide), fun h7 => absurd h7 h8⟩
  have hu3 : u.2.1.2.2.2.2.2 ≤ 400 := hLi.2.2.1
  rw [tlX, h9, e1, e2, e3, e3, upd_at, upd_at, upd_ne (show i ≠ i + 1 by omega), upd_at, upd_at, nOf_nI (by omega), nOf_nI (by omega), nOf_nI (by omega)]
  congr 1
  by_cases hE : hEnd (hL T k cs h0).1
  · by_cases hj2 : ab = j
    · rw [if_pos ⟨e4.mpr hE, by rw [hj2]⟩, if_pos ⟨hE, hj2⟩]
    · rw [if_neg (fun h => hj2 ((nI_eq (by omega) (by omega)).mp h.2)), if_neg (fun h => hj2 h.2)]
  · rw [if_neg (fun h => hE (e4.mp h.1)), if_neg (fun h => hE h.1)]
end LIN
