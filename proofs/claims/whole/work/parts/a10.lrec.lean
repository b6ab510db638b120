/-! the law read by recursion: its codes -/
abbrev PR : Type := RS × List Int32
def hL (T : ST) (k : Nat) : List Int32 → HS → HS
  | [], s => s
  | c :: cs, s => hL T k cs (hstep T k c s)
theorem hL_app (T : ST) (k : Nat) : ∀ (a b : List Int32) (s : HS), hL T k (a ++ b) s = hL T k b (hL T k a s)
  | [], _, _ => rfl
  | c :: a, b, s => hL_app T k a b (hstep T k c s)
def apX : LX → List Int32 → LX
  | X, [] => X
  | X, c :: cs => apX (emX X c) cs
theorem apX_app : ∀ (a b : List Int32) (X : LX), apX X (a ++ b) = apX (apX X a) b
  | [], _, _ => rfl
  | c :: a, b, X => apX_app a b (emX X c)
theorem apX_snoc (a : List Int32) (c : Int32) (X : LX) : apX X (a ++ [c]) = emX (apX X a) c := apX_app a [c] X
theorem emX_in {X : LX} {c : Int32} (h : X.2.2.2.2.2 < 400) : emX X c = (X.1, X.2.1, X.2.2.1, X.2.2.2.1, upd X.2.2.2.2.1 X.2.2.2.2.2 c, X.2.2.2.2.2 + 1) := if_pos h
theorem apX_u : ∀ (cs : List Int32) (X : LX), X.2.2.2.2.2 + cs.length ≤ 400 → (apX X cs).2.2.2.2.2 = X.2.2.2.2.2 + cs.length
  | [], _, _ => rfl
  | c :: cs, X, h => by
    rw [List.length_cons] at h
    have h1 := emX_in (X := X) (c := c) (by omega)
    have h2 : (emX X c).2.2.2.2.2 = X.2.2.2.2.2 + 1 := by rw [h1]
    show (apX (emX X c) cs).2.2.2.2.2 = _
    rw [apX_u cs _ (by omega), h2, List.length_cons]; omega
theorem apX_old : ∀ (cs : List Int32) (X : LX) (j : Nat), j < X.2.2.2.2.2 → (apX X cs).2.2.2.2.1 j = X.2.2.2.2.1 j
  | [], _, _, _ => rfl
  | c :: cs, X, j, h => by
    show (apX (emX X c) cs).2.2.2.2.1 j = _
    by_cases hu : X.2.2.2.2.2 < 400
    · have h1 := emX_in (X := X) (c := c) hu
      rw [apX_old cs _ j (by rw [h1]; simp only; omega), h1]
      exact upd_ne (by omega)
    · have h1 : emX X c = X := if_neg hu
      rw [h1]; exact apX_old cs X j h
theorem apX_new : ∀ (cs : List Int32) (X : LX) (j : Nat), X.2.2.2.2.2 + cs.length ≤ 400 → j < cs.length → (apX X cs).2.2.2.2.1 (X.2.2.2.2.2 + j) = cs.getD j 0
  | [], _, j, _, hj => absurd hj (Nat.not_lt_zero j)
  | c :: cs, X, j, h, hj => by
    rw [List.length_cons] at h hj
    have h1 := emX_in (X := X) (c := c) (by omega)
    have h2 : (emX X c).2.2.2.2.2 = X.2.2.2.2.2 + 1 := by rw [h1]
    show (apX (emX X c) cs).2.2.2.2.1 _ = _
    cases j with
    | zero =>
      rw [Nat.add_zero, apX_old cs _ _ (by rw [h2]; omega), h1]
      exact upd_at
    | succ j =>
      have h3 := apX_new cs (emX X c) j (by omega) (by omega)
      rw [h2, show X.2.2.2.2.2 + 1 + j = X.2.2.2.2.2 + (j + 1) by omega] at h3
      rw [h3]; rfl
theorem apX_XE : ∀ (cs : List Int32) (X : LX), XE X (apX X cs)
  | [], _ => XE.rf
  | c :: cs, X => XE.em.tr (apX_XE cs (emX X c))
theorem hrun_L (T : ST) (k : Nat) (f : Nat → Int32) (i : Nat) : ∀ (n : Nat) (s : HS), hrun T k f i n s = hL T k ((List.range n).map fun j => f (i + j)) s
  | 0, _ => rfl
  | n + 1, s => by
    rw [List.range_succ, List.map_append, hL_app, ← hrun_L T k f i n s]
    rfl
theorem hrun_cs {T : ST} {k : Nat} {f : Nat → Int32} {i : Nat} {cs : List Int32} (h : ∀ j, j < cs.length → f (i + j) = cs.getD j 0) (s : HS) : hrun T k f i cs.length s = hL T k cs s := by
  rw [hrun_L]
  congr 1
  apply List.ext_getElem
  · simp
  · intro j h1 h2
    rw [List.getElem_map, List.getElem_range, h j h2, List.getD_eq_getElem?_getD, List.getElem?_eq_getElem h2]
    rfl
section PRS
variable {y : Nat → Nat} {n : Nat}
def tkS (y : Nat → Nat) (n : Nat) (s : RS) : RS := (nxt y n s.1, s.2)
def pPart (y : Nat → Nat) (n : Nat) (s : RS) : RS × Int32 := if pC y n s.1 = 0 then (sNum y n 0 1000 s, vNum y n 0 1000 s) else (tkS y n s, pC y n s.1)
theorem uPart_p (u : US) : uPart y n u = ((pPart y n u.1).1, emX u.2.1 (pPart y n u.1).2, u.2.2) := by
  unfold uPart pPart
  split <;> rfl
def pSm (y : Nat → Nat) (n : Nat) : Nat → RS → PR
  | 0, s => (s, [])
  | k + 1, s => if (pPart y n s).1.2 = -1 ∧ atB y n (pPart y n s).1.1 [43] = true then ((pSm y n k (tkS y n (pPart y n s).1)).1, (pPart y n s).2 :: (pSm y n k (tkS y n (pPart y n s).1)).2) else ((pPart y n s).1, [(pPart y n s).2])
theorem uSm_p : ∀ (k : Nat) (u : US), uSm y n k u = ((pSm y n k u.1).1, apX u.2.1 (pSm y n k u.1).2, u.2.2)
  | 0, u => rfl
  | k + 1, u => by
    rw [uSm, pSm, uPart_p]
    by_cases h1 : (pPart y n u.1).1.2 = -1
    · by_cases h2 : atB y n (pPart y n u.1).1.1 [43] = true
      · rw [if_pos h1, if_pos h2, if_pos ⟨h1, h2⟩, uSm_p k]; rfl
      · rw [if_pos h1, if_neg h2, if_neg (fun h => h2 h.2)]; rfl
    · rw [if_neg h1, if_neg (fun h => h1 h.1)]; rfl
def pSum (y : Nat → Nat) (n : Nat) (s : RS) : PR := if s.2 = -1 then pSm y n 400 s else (s, [])
theorem uSum_p (u : US) : uSum y n u = ((pSum y n u.1).1, apX u.2.1 (pSum y n u.1).2, u.2.2) := by
  unfold uSum pSum
  by_cases h : u.1.2 = -1
  · rw [if_pos h, if_pos h]; exact uSm_p 400 u
  · rw [if_neg h, if_neg h]; rfl
def pAtE (y : Nat → Nat) (n : Nat) (s : RS) : PR := if atB y n s.1 [60] = true then ((pSum y n (tkS y n s)).1, -10 :: ((pSum y n (tkS y n s)).2 ++ [-11])) else ((pSum y n (sNd y n [62] s)).1, -10 :: ((pSum y n (sNd y n [62] s)).2 ++ [-12]))
theorem uAtomE_p (u : US) : uAtomE y n u = ((pAtE y n u.1).1, apX u.2.1 (pAtE y n u.1).2, u.2.2) := by
  unfold uAtomE pAtE
  by_cases h : atB y n u.1.1 [60] = true
  · rw [if_pos h, if_pos h, uSum_p]
    exact Prod.ext rfl (Prod.ext (apX_snoc _ _ _).symm rfl)
  · rw [if_neg h, if_neg h, uSum_p]
    exact Prod.ext rfl (Prod.ext (apX_snoc _ _ _).symm rfl)
def pPl (y : Nat → Nat) (n : Nat) (s : RS) : PR := if atB y n s.1 [111, 119, 110] = true then (tkS y n s, [-8]) else if atB y n s.1 [104, 111, 109, 101] = true then (tkS y n s, [-9]) else ((pAtE y n (pSum y n s).1).1, (pSum y n s).2 ++ (pAtE y n (pSum y n s).1).2)
theorem uAtomT_p (u : US) : uAtomT y n u = ((pPl y n u.1).1, apX u.2.1 (pPl y n u.1).2, u.2.2) := by
  unfold uAtomT pPl
  by_cases h : atB y n u.1.1 [111, 119, 110] = true
  · rw [if_pos h, if_pos h]; rfl
  · rw [if_neg h, if_neg h]
    by_cases h2 : atB y n u.1.1 [104, 111, 109, 101] = true
    · rw [if_pos h2, if_pos h2]; rfl
    · rw [if_neg h2, if_neg h2, uSum_p, uAtomE_p]
      exact Prod.ext rfl (Prod.ext (apX_app _ _ _).symm rfl)
abbrev isPre (y : Nat → Nat) (n p : Nat) : Prop := atB y n p [110, 111, 116] = true ∨ atB y n p [40] = true
def pPar (y : Nat → Nat) (n : Nat) (r : PR) : PR := if r.1.2 = -1 then (if atB y n r.1.1 [41] = true then (tkS y n r.1, r.2) else (sRf r.1, r.2)) else r
def pEvL (y : Nat → Nat) (n : Nat) (A : RS → PR) : Nat → PR → PR
  | 0, r => r
  | f + 1, r => if r.1.2 = -1 ∧ atB y n r.1.1 [97, 110, 100] = true then pEvL y n A f ((A (tkS y n r.1)).1, r.2 ++ ((A (tkS y n r.1)).2 ++ [-14])) else r
def pEv (y : Nat → Nat) (n : Nat) (A : RS → PR) (s : RS) : PR := pEvL y n A 400 (A s)
def pSoL (y : Nat → Nat) (n : Nat) (A : RS → PR) : Nat → PR → PR
  | 0, r => r
  | f + 1, r => if r.1.2 = -1 ∧ atB y n r.1.1 [111, 114] = true then pSoL y n A f ((pEv y n A (tkS y n r.1)).1, r.2 ++ ((pEv y n A (tkS y n r.1)).2 ++ [-15])) else r
def pSo (y : Nat → Nat) (n : Nat) (A : RS → PR) (s : RS) : PR := pSoL y n A 400 (pEv y n A s)
def pAtom (y : Nat → Nat) (n : Nat) : Nat → RS → PR
  | 0 => fun s => if isPre y n s.1 then (sRf s, []) else pPl y n s
  | k + 1 => fun s => if atB y n s.1 [110, 111, 116] = true then ((pAtom y n k (tkS y n s)).1, (pAtom y n k (tkS y n s)).2 ++ [-13]) else if atB y n s.1 [40] = true then pPar y n (pSo y n (pAtom y n k) (tkS y n s)) else pPl y n s
/-- what a reader of an atom keeps: it goes on, and makes no more codes than bytes and one -/
def GdA (n : Nat) (A : RS → PR) : Prop := ∀ s : RS, s.1 ≤ n → (A s).1.1 ≤ n ∧ ((A s).1.2 = -1 → s.2 = -1 ∧ s.1 < (A s).1.1 ∧ (A s).2.length + s.1 ≤ (A s).1.1 + 1)
theorem at_nxt {p : Nat} {ws : List Nat} (hp : p ≤ n) (h : atB y n p ws = true) : p + ws.length ≤ nxt y n p ∧ nxt y n p ≤ n := by
  have h1 := (atB_iff.mp h).1
  have h2 := tokE_le (y := y) hp
  have h3 := (skp_le (y := y) h2.2)
  exact ⟨by unfold nxt; omega, nxt_le hp⟩
theorem num_nxt {p lo hi v : Nat} (hp : p ≤ n) (h : numF y n p lo hi = some v) : p < nxt y n p := by
  unfold numF at h
  split at h
  · rename_i h9
    have h2 := tokE_le (y := y) hp
    have h3 := (skp_le (y := y) h2.2)
    have h4 := tok_gt h9.1
    unfold nxt; omega
  · cases h
theorem pC_len {p : Nat} (hp : p ≤ n) (h : ¬ pC y n p = 0) : p < nxt y n p := by
  unfold pC at h
  repeat' split at h
  all_goals first
    | (rename_i h9; have := (at_nxt hp h9).1; simp only [List.length_cons, List.length_nil] at this; omega)
    | exact absurd rfl h
theorem pPart_g (hn : n ≤ 400) {s : RS} (hs : s.1 ≤ n) : (pPart y n s).1.1 ≤ n ∧ ((pPart y n s).1.2 = -1 → s.2 = -1 ∧ s.1 < (pPart y n s).1.1) := by
  unfold pPart
  split
  · refine ⟨num_p hs, fun h => ?_⟩
    obtain ⟨h1, v, -, -, h2, -, h3⟩ := num_ok (by omega) h
    refine ⟨h1, ?_⟩
    simp only
    rw [h3]
    exact num_nxt hs h2
  · rename_i h9
    exact ⟨nxt_le hs, fun h => ⟨h, pC_len hs h9⟩⟩
theorem pSm_g (hn : n ≤ 400) : ∀ (k : Nat) (s : RS), s.1 ≤ n → n - s.1 < 2 * k → (pSm y n k s).1.1 ≤ n ∧ ((pSm y n k s).1.2 = -1 → s.2 = -1 ∧ s.1 < (pSm y n k s).1.1 ∧ (pSm y n k s).2.length + s.1 ≤ (pSm y n k s).1.1)
  | 0, _, _, h => absurd h (Nat.not_lt_zero _)
  | k + 1, s, hs, hk => by
    obtain ⟨h1, h2⟩ := pPart_g (y := y) hn hs
    rw [pSm]
    by_cases h : (pPart y n s).1.2 = -1 ∧ atB y n (pPart y n s).1.1 [43] = true
    · rw [if_pos h]
      obtain ⟨h3, h4⟩ := h2 h.1
      obtain ⟨h5, h6⟩ := at_nxt h1 h.2
      simp only [List.length_cons, List.length_nil] at h5
      obtain ⟨h7, h8⟩ := pSm_g hn k (tkS y n (pPart y n s).1) h6 (by show n - nxt y n _ < 2 * k; omega)
      refine ⟨h7, fun h9 => ?_⟩
      obtain ⟨a1, a2, a3⟩ := h8 h9
      have a4 : nxt y n (pPart y n s).1.1 < (pSm y n k (tkS y n (pPart y n s).1)).1.1 := a2
      have a5 : (pSm y n k (tkS y n (pPart y n s).1)).2.length + nxt y n (pPart y n s).1.1 ≤ (pSm y n k (tkS y n (pPart y n s).1)).1.1 := a3
      refine ⟨h3, by simp only; omega, by simp only [List.length_cons]; omega⟩
    · rw [if_neg h]
      refine ⟨h1, fun h9 => ?_⟩
      obtain ⟨h3, h4⟩ := h2 h9
      exact ⟨h3, h4, by simp only [List.length_cons, List.length_nil]; omega⟩
theorem pSum_g (hn : n ≤ 400) {s : RS} (hs : s.1 ≤ n) : (pSum y n s).1.1 ≤ n ∧ ((pSum y n s).1.2 = -1 → s.2 = -1 ∧ s.1 < (pSum y n s).1.1 ∧ (pSum y n s).2.length + s.1 ≤ (pSum y n s).1.1) := by
  unfold pSum
  by_cases h : s.2 = -1
  · rw [if_pos h]
    exact pSm_g hn 400 s hs (by omega)
  · rw [if_neg h]
    exact ⟨hs, fun h9 => absurd h9 h⟩
theorem pAtE_g (hn : n ≤ 400) {s : RS} (hs : s.1 ≤ n) : (pAtE y n s).1.1 ≤ n ∧ ((pAtE y n s).1.2 = -1 → s.2 = -1 ∧ s.1 < (pAtE y n s).1.1 ∧ (pAtE y n s).2.length + s.1 ≤ (pAtE y n s).1.1 + 1) := by
  unfold pAtE
  by_cases h : atB y n s.1 [60] = true
  · rw [if_pos h]
    obtain ⟨h5, h6⟩ := at_nxt hs h
    simp only [List.length_cons, List.length_nil] at h5
    obtain ⟨h7, h8⟩ := pSum_g (y := y) hn (s := tkS y n s) h6
    refine ⟨h7, fun h9 => ?_⟩
    obtain ⟨a1, a2, a3⟩ := h8 h9
    have a4 : nxt y n s.1 < (pSum y n (tkS y n s)).1.1 := a2
    have a5 : (pSum y n (tkS y n s)).2.length + nxt y n s.1 ≤ (pSum y n (tkS y n s)).1.1 := a3
    exact ⟨a1, by simp only; omega, by simp only [List.length_cons, List.length_append, List.length_nil]; omega⟩
  · rw [if_neg h]
    obtain ⟨h7, h8⟩ := pSum_g (y := y) hn (s := sNd y n [62] s) (nd_p hs)
    refine ⟨h7, fun h9 => ?_⟩
    obtain ⟨a1, a2, a3⟩ := h8 h9
    obtain ⟨b1, b2, b3⟩ := nd_ok (by omega) a1
    obtain ⟨h5, h6⟩ := at_nxt hs b2
    simp only [List.length_cons, List.length_nil] at h5
    have b4 : (sNd y n [62] s).1 = nxt y n s.1 := by rw [b3]
    rw [b4] at a2 a3
    exact ⟨b1, by simp only; omega, by simp only [List.length_cons, List.length_append, List.length_nil]; omega⟩
theorem pPl_g (hn : n ≤ 400) : GdA n (pPl y n) := by
  intro s hs
  unfold pPl
  by_cases h : atB y n s.1 [111, 119, 110] = true
  · rw [if_pos h]
    obtain ⟨h5, h6⟩ := at_nxt hs h
    simp only [List.length_cons, List.length_nil] at h5
    exact ⟨h6, fun h9 => ⟨h9, by show _ < nxt y n s.1; omega, by show 1 + s.1 ≤ nxt y n s.1 + 1; omega⟩⟩
  · rw [if_neg h]
    by_cases h2 : atB y n s.1 [104, 111, 109, 101] = true
    · rw [if_pos h2]
      obtain ⟨h5, h6⟩ := at_nxt hs h2
      simp only [List.length_cons, List.length_nil] at h5
      exact ⟨h6, fun h9 => ⟨h9, by show _ < nxt y n s.1; omega, by show 1 + s.1 ≤ nxt y n s.1 + 1; omega⟩⟩
    · rw [if_neg h2]
      obtain ⟨h3, h4⟩ := pSum_g (y := y) hn hs
      obtain ⟨h5, h6⟩ := pAtE_g (y := y) hn h3
      refine ⟨h5, fun h9 => ?_⟩
      obtain ⟨a1, a2, a3⟩ := h6 h9
      obtain ⟨b1, b2, b3⟩ := h4 a1
      exact ⟨b1, by simp only; omega, by simp only [List.length_append]; omega⟩
theorem pEvL_bad {A : RS → PR} {r : PR} (h : ¬ r.1.2 = -1) : ∀ f, pEvL y n A f r = r
  | 0 => rfl
  | f + 1 => by rw [pEvL, if_neg (fun h9 => h h9.1)]
theorem pSoL_bad {A : RS → PR} {r : PR} (h : ¬ r.1.2 = -1) : ∀ f, pSoL y n A f r = r
  | 0 => rfl
  | f + 1 => by rw [pSoL, if_neg (fun h9 => h h9.1)]
theorem pEvL_g (hn : n ≤ 400) {A : RS → PR} (hA : GdA n A) {p : Nat} : ∀ (f : Nat) (r : PR), r.1.1 ≤ n → n - r.1.1 < f → (r.1.2 = -1 → p < r.1.1 ∧ r.2.length + p ≤ r.1.1 + 1) → (pEvL y n A f r).1.1 ≤ n ∧ ((pEvL y n A f r).1.2 = -1 → r.1.2 = -1 ∧ p < (pEvL y n A f r).1.1 ∧ (pEvL y n A f r).2.length + p ≤ (pEvL y n A f r).1.1 + 1 ∧ ¬ atB y n (pEvL y n A f r).1.1 [97, 110, 100] = true)
  | 0, _, _, h, _ => absurd h (Nat.not_lt_zero _)
  | f + 1, r, hr, hf, hl => by
    rw [pEvL]
    by_cases h : r.1.2 = -1 ∧ atB y n r.1.1 [97, 110, 100] = true
    · rw [if_pos h]
      obtain ⟨h5, h6⟩ := at_nxt hr h.2
      simp only [List.length_cons, List.length_nil] at h5
      obtain ⟨h7, h8⟩ := hA (tkS y n r.1) h6
      have hl1 := hl h.1
      by_cases h9 : (A (tkS y n r.1)).1.2 = -1
      · obtain ⟨a1, a2, a3⟩ := h8 h9
        have a4 : nxt y n r.1.1 < (A (tkS y n r.1)).1.1 := a2
        have a5 : (A (tkS y n r.1)).2.length + nxt y n r.1.1 ≤ (A (tkS y n r.1)).1.1 + 1 := a3
        obtain ⟨b1, b2⟩ := pEvL_g hn hA (p := p) f ((A (tkS y n r.1)).1, r.2 ++ ((A (tkS y n r.1)).2 ++ [-14])) h7 (by simp only; omega) (fun _ => ⟨by simp only; omega, by simp only [List.length_append, List.length_cons, List.length_nil]; omega⟩)
        exact ⟨b1, fun h10 => ⟨h.1, (b2 h10).2⟩⟩
      · rw [pEvL_bad (by exact h9)]
        exact ⟨h7, fun h10 => absurd h10 h9⟩
    · rw [if_neg h]
      exact ⟨hr, fun h9 => ⟨h9, (hl h9).1, (hl h9).2, fun h10 => h ⟨h9, h10⟩⟩⟩
theorem pEv_g (hn : n ≤ 400) {A : RS → PR} (hA : GdA n A) {s : RS} (hs : s.1 ≤ n) : (pEv y n A s).1.1 ≤ n ∧ ((pEv y n A s).1.2 = -1 → s.2 = -1 ∧ s.1 < (pEv y n A s).1.1 ∧ (pEv y n A s).2.length + s.1 ≤ (pEv y n A s).1.1 + 1 ∧ ¬ atB y n (pEv y n A s).1.1 [97, 110, 100] = true) := by
  obtain ⟨h1, h2⟩ := hA s hs
  unfold pEv
  by_cases h : (A s).1.2 = -1
  · obtain ⟨a1, a2, a3⟩ := h2 h
    obtain ⟨b1, b2⟩ := pEvL_g (y := y) hn hA (p := s.1) 400 (A s) h1 (by omega) (fun _ => ⟨a2, a3⟩)
    exact ⟨b1, fun h9 => ⟨a1, (b2 h9).2⟩⟩
  · rw [pEvL_bad h]
    exact ⟨h1, fun h9 => absurd h9 h⟩
theorem pSoL_g (hn : n ≤ 400) {A : RS → PR} (hA : GdA n A) {p : Nat} : ∀ (f : Nat) (r : PR), r.1.1 ≤ n → n - r.1.1 < f → (r.1.2 = -1 → p < r.1.1 ∧ r.2.length + p ≤ r.1.1 + 1 ∧ ¬ atB y n r.1.1 [97, 110, 100] = true) → (pSoL y n A f r).1.1 ≤ n ∧ ((pSoL y n A f r).1.2 = -1 → r.1.2 = -1 ∧ p < (pSoL y n A f r).1.1 ∧ (pSoL y n A f r).2.length + p ≤ (pSoL y n A f r).1.1 + 1 ∧ ¬ atB y n (pSoL y n A f r).1.1 [97, 110, 100] = true ∧ ¬ atB y n (pSoL y n A f r).1.1 [111, 114] = true)
  | 0, _, _, h, _ => absurd h (Nat.not_lt_zero _)
  | f + 1, r, hr, hf, hl => by
    rw [pSoL]
    by_cases h : r.1.2 = -1 ∧ atB y n r.1.1 [111, 114] = true
    · rw [if_pos h]
      obtain ⟨h5, h6⟩ := at_nxt hr h.2
      simp only [List.length_cons, List.length_nil] at h5
      obtain ⟨h7, h8⟩ := pEv_g (y := y) hn hA (s := tkS y n r.1) h6
      have hl1 := hl h.1
      by_cases h9 : (pEv y n A (tkS y n r.1)).1.2 = -1
      · obtain ⟨a1, a2, a3, a6⟩ := h8 h9
        have a4 : nxt y n r.1.1 < (pEv y n A (tkS y n r.1)).1.1 := a2
        have a5 : (pEv y n A (tkS y n r.1)).2.length + nxt y n r.1.1 ≤ (pEv y n A (tkS y n r.1)).1.1 + 1 := a3
        obtain ⟨b1, b2⟩ := pSoL_g hn hA (p := p) f ((pEv y n A (tkS y n r.1)).1, r.2 ++ ((pEv y n A (tkS y n r.1)).2 ++ [-15])) h7 (by simp only; omega) (fun _ => ⟨by simp only; omega, by simp only [List.length_append, List.length_cons, List.length_nil]; omega, a6⟩)
        exact ⟨b1, fun h10 => ⟨h.1, (b2 h10).2⟩⟩
      · rw [pSoL_bad (by exact h9)]
        exact ⟨h7, fun h10 => absurd h10 h9⟩
    · rw [if_neg h]
      exact ⟨hr, fun h9 => ⟨h9, (hl h9).1, (hl h9).2.1, (hl h9).2.2, fun h10 => h ⟨h9, h10⟩⟩⟩
theorem pSo_g (hn : n ≤ 400) {A : RS → PR} (hA : GdA n A) {s : RS} (hs : s.1 ≤ n) : (pSo y n A s).1.1 ≤ n ∧ ((pSo y n A s).1.2 = -1 → s.2 = -1 ∧ s.1 < (pSo y n A s).1.1 ∧ (pSo y n A s).2.length + s.1 ≤ (pSo y n A s).1.1 + 1 ∧ ¬ atB y n (pSo y n A s).1.1 [97, 110, 100] = true ∧ ¬ atB y n (pSo y n A s).1.1 [111, 114] = true) := by
  obtain ⟨h1, h2⟩ := pEv_g (y := y) hn hA hs
  unfold pSo
  by_cases h : (pEv y n A s).1.2 = -1
  · obtain ⟨a1, a2, a3, a4⟩ := h2 h
    obtain ⟨b1, b2⟩ := pSoL_g (y := y) hn hA (p := s.1) 400 (pEv y n A s) h1 (by omega) (fun _ => ⟨a2, a3, a4⟩)
    exact ⟨b1, fun h9 => ⟨a1, (b2 h9).2⟩⟩
  · rw [pSoL_bad h]
    exact ⟨h1, fun h9 => absurd h9 h⟩
theorem pAtom_g (hn : n ≤ 400) : ∀ k, GdA n (pAtom y n k)
  | 0 => by
    intro s hs
    have e : pAtom y n 0 s = if isPre y n s.1 then (sRf s, []) else pPl y n s := rfl
    rw [e]
    by_cases h : isPre y n s.1
    · rw [if_pos h]
      exact ⟨hs, fun h9 => (rf_no (s := s) (by omega) h9).elim⟩
    · rw [if_neg h]
      exact pPl_g hn s hs
  | k + 1 => by
    intro s hs
    rw [pAtom]
    by_cases h : atB y n s.1 [110, 111, 116] = true
    · simp only [if_pos h]
      obtain ⟨h5, h6⟩ := at_nxt hs h
      simp only [List.length_cons, List.length_nil] at h5
      obtain ⟨h7, h8⟩ := pAtom_g hn k (tkS y n s) h6
      refine ⟨h7, fun h9 => ?_⟩
      obtain ⟨a1, a2, a3⟩ := h8 h9
      have a4 : nxt y n s.1 < (pAtom y n k (tkS y n s)).1.1 := a2
      have a5 : (pAtom y n k (tkS y n s)).2.length + nxt y n s.1 ≤ (pAtom y n k (tkS y n s)).1.1 + 1 := a3
      exact ⟨a1, by omega, by simp only [List.length_append, List.length_cons, List.length_nil]; omega⟩
    · simp only [if_neg h]
      by_cases h2 : atB y n s.1 [40] = true
      · simp only [if_pos h2]
        obtain ⟨h5, h6⟩ := at_nxt hs h2
        simp only [List.length_cons, List.length_nil] at h5
        obtain ⟨h7, h8⟩ := pSo_g (y := y) hn (pAtom_g hn k) (s := tkS y n s) h6
        unfold pPar
        by_cases h9 : (pSo y n (pAtom y n k) (tkS y n s)).1.2 = -1
        · rw [if_pos h9]
          obtain ⟨a1, a2, a3, -, -⟩ := h8 h9
          have a4 : nxt y n s.1 < (pSo y n (pAtom y n k) (tkS y n s)).1.1 := a2
          have a5 : (pSo y n (pAtom y n k) (tkS y n s)).2.length + nxt y n s.1 ≤ (pSo y n (pAtom y n k) (tkS y n s)).1.1 + 1 := a3
          by_cases h3 : atB y n (pSo y n (pAtom y n k) (tkS y n s)).1.1 [41] = true
          · rw [if_pos h3]
            obtain ⟨b5, b6⟩ := at_nxt h7 h3
            simp only [List.length_cons, List.length_nil] at b5
            exact ⟨b6, fun _ => ⟨a1, by show _ < nxt y n _; omega, by show (pSo y n (pAtom y n k) (tkS y n s)).2.length + s.1 ≤ nxt y n (pSo y n (pAtom y n k) (tkS y n s)).1.1 + 1; omega⟩⟩
          · rw [if_neg h3]
            exact ⟨h7, fun h10 => (rf_no (s := (pSo y n (pAtom y n k) (tkS y n s)).1) (by omega) h10).elim⟩
        · rw [if_neg h9]
          exact ⟨h7, fun h10 => absurd h10 h9⟩
      · simp only [if_neg h2]
        exact pPl_g hn s hs
end PRS
