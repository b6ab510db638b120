/-! the law read with a pile does as by recursion -/
section PIL
variable {y : Nat → Nat} {n : Nat}
def fQ (y : Nat → Nat) (n kl kc : Nat) (u : US) : US := if (uCl y n kl u).1.2 = -1 then (if (uJoin y n (uCl y n kl u)).1 = 1 then uCn y n kc (uJoin y n (uCl y n kl u)).2 else (uJoin y n (uCl y n kl u)).2) else uCl y n kl u
def rdA (y : Nat → Nat) (n kp : Nat) (u : US) : US := if (uPre y n kp u).1 = true then uAtomT y n (uPre y n kp u).2 else (uPre y n kp u).2
def fP (y : Nat → Nat) (n kp kc : Nat) (u : US) : US := fQ y n 7 kc (uRel (-13) (rdA y n kp u))
theorem uCn_P (k : Nat) (u : US) : uCn y n (k + 1) u = fP y n 7 k u := rfl
/-- what waits on top is looser -/
def TL (w : Nat → Int32) (wn : Nat) (lo : Int32) : Prop := ∀ j, wn = j + 1 → atV 32 w (nI j) < lo
theorem TL.nil {w : Nat → Int32} {lo : Int32} : TL w 0 lo := fun _ h => absurd h (by omega)
theorem rel_tl {w : Nat → Int32} {wn : Nat} {lo : Int32} (h : TL w wn lo) (X : LX) (d : Int32) : rel w lo wn X d = (X, wn, d) := by
  cases wn with
  | zero => rfl
  | succ k => rw [rel_s, if_pos (h k rfl)]
theorem uRel_tl {s : RS} {X : LX} {w : Nat → Int32} {wn : Nat} {d lo : Int32} (h : TL w wn lo) : uRel lo (s, X, w, wn, d) = (s, X, w, wn, d) := by
  show (s, (rel w lo wn X d).1, w, (rel w lo wn X d).2) = _
  rw [rel_tl h]
theorem rel_comp {lo lo2 : Int32} (h : lo ≤ lo2) (w : Nat → Int32) : ∀ (k : Nat) (X : LX) (d : Int32), rel w lo (rel w lo2 k X d).2.1 (rel w lo2 k X d).1 (rel w lo2 k X d).2.2 = rel w lo k X d
  | 0, _, _ => rfl
  | k + 1, X, d => by
    rw [rel_s w lo2]
    by_cases h1 : atV 32 w (nI k) < lo2
    · rw [if_pos h1]
    · rw [if_neg h1, rel_comp h w k, rel_s w lo, if_neg (fun h2 => h1 (Int32.lt_of_lt_of_le h2 h))]
theorem uRel_comp {lo lo2 : Int32} (h : lo ≤ lo2) (u : US) : uRel lo (uRel lo2 u) = uRel lo u := by
  show (u.1, (rel u.2.2.1 lo (rel u.2.2.1 lo2 u.2.2.2.1 u.2.1 u.2.2.2.2).2.1 (rel u.2.2.1 lo2 u.2.2.2.1 u.2.1 u.2.2.2.2).1 (rel u.2.2.1 lo2 u.2.2.2.1 u.2.1 u.2.2.2.2).2.2).1, u.2.2.1, (rel u.2.2.1 lo (rel u.2.2.1 lo2 u.2.2.2.1 u.2.1 u.2.2.2.2).2.1 (rel u.2.2.1 lo2 u.2.2.2.1 u.2.1 u.2.2.2.2).1 (rel u.2.2.1 lo2 u.2.2.2.1 u.2.1 u.2.2.2.2).2.2).2) = _
  rw [rel_comp h]
  rfl
theorem uRel_step {s : RS} {X : LX} {w : Nat → Int32} {wn : Nat} {d lo c : Int32} (hc : atV 32 w (nI wn) = c) (h : ¬ c < lo) : uRel lo (s, X, w, wn + 1, d) = uRel lo (s, emX X c, w, wn, if c = -13 then d - nI 1 else d) := by
  show (s, (rel w lo (wn + 1) X d).1, w, (rel w lo (wn + 1) X d).2) = _
  rw [rel_s, hc, if_neg h]
  rfl
def Ag (m : Nat) (w w2 : Nat → Int32) : Prop := ∀ i, i < m → atV 32 w2 (nI i) = atV 32 w (nI i)
theorem Ag.rf {m : Nat} {w : Nat → Int32} : Ag m w w := fun _ _ => rfl
theorem Ag.tr {m : Nat} {w w2 w3 : Nat → Int32} (h : Ag m w w2) (k : Ag m w2 w3) : Ag m w w3 := fun i hi => (k i hi).trans (h i hi)
theorem Ag.dn {m : Nat} {w w2 : Nat → Int32} (h : Ag (m + 1) w w2) : Ag m w w2 := fun i hi => h i (by omega)
theorem TL.ag {w w2 : Nat → Int32} {wn : Nat} {lo : Int32} (h : TL w wn lo) (k : Ag wn w w2) : TL w2 wn lo := fun j hj => by rw [k j (by omega)]; exact h j hj
theorem Ag.put {w : Nat → Int32} {wn : Nat} {c : Int32} (h : wn < 32) : Ag wn w (puV 32 w (nI wn) c) := fun i hi => by
  rw [puV_in h (by decide), atV_in (by omega) (by decide), atV_in (by omega) (by decide)]
  exact upd_ne (by omega)
theorem put_top {w : Nat → Int32} {wn : Nat} {c : Int32} (h : wn < 32) : atV 32 (puV 32 w (nI wn) c) (nI wn) = c := by
  rw [puV_in h (by decide), atV_in h (by decide)]
  exact upd_at
theorem TL.put {w : Nat → Int32} {wn : Nat} {c lo : Int32} (h : wn < 32) (hc : c < lo) : TL (puV 32 w (nI wn) c) (wn + 1) lo := fun j hj => by
  have : j = wn := by omega
  subst this
  rw [put_top h]; exact hc
theorem rfU_bad {u : US} (h : ¬ u.1.2 = -1) : (rfU u).1.2 = u.1.2 := if_neg h
theorem rfU_ok {u : US} (h : u.1.2 = -1) : (rfU u).1.2 = nI u.1.1 := if_pos h
theorem uCl_no {u : US} (h : ¬ atB y n u.1.1 [41] = true) : ∀ k, uCl y n k u = u
  | 0 => rfl
  | k + 1 => by rw [uCl, if_neg h]
theorem uCl_bad : ∀ (k : Nat) {u : US}, ¬ u.1.2 = -1 → (uCl y n k u).1.2 = u.1.2
  | 0, _, _ => rfl
  | k + 1, u, h => by
    rw [uCl]
    by_cases h1 : atB y n u.1.1 [41] = true
    · rw [if_pos h1]
      by_cases h2 : (uRel (-15) u).2.2.2.1 = 0
      · rw [if_pos h2]; exact rfU_bad h
      · rw [if_neg h2]; exact uCl_bad k h
    · rw [if_neg h1]
theorem fQ_bad {kl kc : Nat} {u : US} (h : ¬ u.1.2 = -1) : (fQ y n kl kc u).1.2 = u.1.2 := by
  have h1 := uCl_bad (y := y) (n := n) kl h
  unfold fQ
  rw [if_neg (by rw [h1]; exact h)]
  exact h1
theorem uCd_bad {u : US} (h : ¬ u.1.2 = -1) : (uCd u).1.2 = u.1.2 := by
  unfold uCd
  split
  · exact rfU_bad h
  · rfl
theorem at_len {p : Nat} {a b : List Nat} (h : atB y n p a = true) (h2 : atB y n p b = true) : a.length = b.length := by
  have h1 := (atB_iff.mp h).1
  have h3 := (atB_iff.mp h2).1
  omega
theorem fQ_and {kl kc : Nat} {u : US} (h : u.1.2 = -1) (ha : atB y n u.1.1 [97, 110, 100] = true) : fQ y n kl (kc + 1) u = fP y n 7 kc (uHold (-14) (uRel (-14) (tkU y n u))) := by
  have h1 : ¬ atB y n u.1.1 [41] = true := fun h9 => absurd (at_len ha h9) (by decide)
  unfold fQ
  rw [uCl_no h1, if_pos h]
  unfold uJoin
  rw [if_pos ha, if_pos rfl]
  rfl
theorem fQ_or {kl kc : Nat} {u : US} (h : u.1.2 = -1) (ha : atB y n u.1.1 [111, 114] = true) : fQ y n kl (kc + 1) u = fP y n 7 kc (uHold (-15) (uRel (-15) (tkU y n u))) := by
  have h1 : ¬ atB y n u.1.1 [41] = true := fun h9 => absurd (at_len ha h9) (by decide)
  have h2 : ¬ atB y n u.1.1 [97, 110, 100] = true := fun h9 => absurd (at_len ha h9) (by decide)
  unfold fQ
  rw [uCl_no h1, if_pos h]
  unfold uJoin
  rw [if_neg h2, if_pos ha, if_pos rfl]
  rfl
theorem fQ_end {kl kc : Nat} {u : US} (h : u.1.2 = -1) (h1 : ¬ atB y n u.1.1 [41] = true) (h2 : ¬ atB y n u.1.1 [97, 110, 100] = true) (h3 : ¬ atB y n u.1.1 [111, 114] = true) : fQ y n kl kc u = u := by
  unfold fQ
  rw [uCl_no h1, if_pos h]
  unfold uJoin
  rw [if_neg h2, if_neg h3]
  rfl
theorem fQ_close {kl kc : Nat} {u : US} (h1 : atB y n u.1.1 [41] = true) (h2 : ¬ (uRel (-15) u).2.2.2.1 = 0) : fQ y n (kl + 1) kc u = fQ y n kl kc (uRel (-13) (tkU y n (popU (uRel (-15) u)))) := by
  have e : uCl y n (kl + 1) u = uCl y n kl (uRel (-13) (tkU y n (popU (uRel (-15) u)))) := by rw [uCl, if_pos h1, if_neg h2]
  unfold fQ
  rw [e]
theorem fQ_close0 {kl kc : Nat} {u : US} (hp : u.1.1 < 2 ^ 31) (h : u.1.2 = -1) (h1 : atB y n u.1.1 [41] = true) (h2 : (uRel (-15) u).2.2.2.1 = 0) : (fQ y n (kl + 1) kc u).1.2 = nI u.1.1 := by
  have e : uCl y n (kl + 1) u = rfU (uRel (-15) u) := by rw [uCl, if_pos h1, if_pos h2]
  have e2 : (rfU (uRel (-15) u)).1.2 = nI u.1.1 := rfU_ok (u := uRel (-15) u) h
  unfold fQ
  rw [e, if_neg (by rw [e2]; exact nI_nm1 hp)]
  exact e2
def SimA (y : Nat → Nat) (n : Nat) (A : RS → PR) (de : Nat) : Prop := ∀ (s : RS) (X : LX) (w : Nat → Int32) (wn kp kc : Nat), s.2 = -1 → s.1 ≤ n → X.2.2.2.2.2 + wn + 1 ≤ s.1 → wn ≤ 3 * de + 2 → 7 ≤ kp + de → n - s.1 < kc →
  (¬ (A s).1.2 = -1 → (uCd (fP y n kp kc (s, X, w, wn, nI de))).1.2 = (A s).1.2) ∧
  ((A s).1.2 = -1 → ∃ kl kc2 w2, de + 1 ≤ kl ∧ n - (A s).1.1 < kc2 ∧ Ag wn w w2 ∧ fP y n kp kc (s, X, w, wn, nI de) = fQ y n kl kc2 (uRel (-13) ((A s).1, apX X (A s).2, w2, wn, nI de)))
/-- a whole row of them, by what joins it -/
def SimB (y : Nat → Nat) (n : Nat) (R : PR) (de : Nat) (lo : Int32) (X : LX) (w : Nat → Int32) (wn : Nat) (U : US) : Prop :=
  (¬ R.1.2 = -1 → (uCd U).1.2 = R.1.2) ∧ (R.1.2 = -1 → ∃ kl kc2 v w2, de + 1 ≤ kl ∧ n - R.1.1 < kc2 ∧ Ag wn w w2 ∧ U = fQ y n kl kc2 v ∧ uRel lo v = (R.1, apX X R.2, w2, wn, nI de))
theorem sim_evL (hn : n ≤ 400) {A : RS → PR} {de : Nat} (hd : de ≤ 6) (hA : SimA y n A de) (hg : GdA n A) {X : LX} {w : Nat → Int32} {wn : Nat} (hw : wn ≤ 3 * de + 1) (hT : TL w wn (-14)) : ∀ (f : Nat) (r : PR) (kl kc : Nat) (v : US) (w2 : Nat → Int32), r.1.2 = -1 → r.1.1 ≤ n → X.2.2.2.2.2 + r.2.length + wn ≤ r.1.1 → n - r.1.1 < f → de + 1 ≤ kl → n - r.1.1 < kc → Ag wn w w2 → uRel (-14) v = (r.1, apX X r.2, w2, wn, nI de) → SimB y n (pEvL y n A f r) de (-14) X w wn (fQ y n kl kc v)
  | 0, _, _, _, _, _, _, _, _, h, _, _, _, _ => absurd h (Nat.not_lt_zero _)
  | f + 1, r, kl, kc, v, w2, h1, h2, h3, h4, h5, h6, h7, h8 => by
    have ev : v.1 = r.1 := congrArg (fun u : US => u.1) h8
    rw [pEvL]
    by_cases h : r.1.2 = -1 ∧ atB y n r.1.1 [97, 110, 100] = true
    · rw [if_pos h]
      obtain ⟨kc, rfl⟩ : ∃ k, kc = k + 1 := ⟨kc - 1, by omega⟩
      obtain ⟨a1, a2⟩ := at_nxt h2 h.2
      simp only [List.length_cons, List.length_nil] at a1
      have e1 : fQ y n kl (kc + 1) v = fP y n 7 kc (tkS y n r.1, apX X r.2, puV 32 w2 (nI wn) (-14), wn + 1, nI de) := by
        rw [fQ_and (by rw [ev]; exact h1) (by rw [ev]; exact h.2)]
        show fP y n 7 kc (uHold (-14) (tkU y n (uRel (-14) v))) = _
        rw [h8]; rfl
      rw [e1]
      have hu := apX_u r.2 X (by omega)
      obtain ⟨b1, b2⟩ := hA (tkS y n r.1) (apX X r.2) (puV 32 w2 (nI wn) (-14)) (wn + 1) 7 kc h1 a2 (by show _ ≤ nxt y n r.1.1; omega) (by omega) (by omega) (by show n - nxt y n r.1.1 < kc; omega)
      obtain ⟨g1, g2⟩ := hg (tkS y n r.1) a2
      by_cases h9 : (A (tkS y n r.1)).1.2 = -1
      · obtain ⟨kl4, kc4, w4, c1, c2, c3, c4⟩ := b2 h9
        obtain ⟨g3, g4, g5⟩ := g2 h9
        have g6 : (A (tkS y n r.1)).2.length + nxt y n r.1.1 ≤ (A (tkS y n r.1)).1.1 + 1 := g5
        have g7 : nxt y n r.1.1 < (A (tkS y n r.1)).1.1 := g4
        have hag : Ag wn w w4 := h7.tr ((Ag.put (by omega)).tr c3.dn)
        rw [c4]
        refine sim_evL hn hd hA hg hw hT f ((A (tkS y n r.1)).1, r.2 ++ ((A (tkS y n r.1)).2 ++ [-14])) kl4 kc4 _ w4 h9 g1 (by simp only [List.length_append, List.length_cons, List.length_nil]; omega) (by simp only; omega) c1 c2 hag ?_
        rw [uRel_comp (by decide), uRel_step (c := -14) (by rw [c3 wn (by omega)]; exact put_top (by omega)) (by decide), if_neg (by decide), uRel_tl (hT.ag hag), ← apX_snoc, ← apX_app, ]
      · rw [pEvL_bad (by exact h9)]
        exact ⟨fun _ => b1 h9, fun h10 => absurd h10 h9⟩
    · rw [if_neg h]
      exact ⟨fun h9 => absurd h1 h9, fun _ => ⟨kl, kc, v, w2, h5, h6, h7, rfl, h8⟩⟩
theorem sim_ev (hn : n ≤ 400) {A : RS → PR} {de : Nat} (hd : de ≤ 6) (hA : SimA y n A de) (hg : GdA n A) {s : RS} {X : LX} {w : Nat → Int32} {wn kp kc : Nat} (h1 : s.2 = -1) (h2 : s.1 ≤ n) (h3 : X.2.2.2.2.2 + wn + 1 ≤ s.1) (hw : wn ≤ 3 * de + 1) (hT : TL w wn (-14)) (h4 : 7 ≤ kp + de) (h5 : n - s.1 < kc) : SimB y n (pEv y n A s) de (-14) X w wn (fP y n kp kc (s, X, w, wn, nI de)) := by
  obtain ⟨b1, b2⟩ := hA s X w wn kp kc h1 h2 h3 (by omega) h4 h5
  obtain ⟨g1, g2⟩ := hg s h2
  unfold pEv
  by_cases h9 : (A s).1.2 = -1
  · obtain ⟨kl4, kc4, w4, c1, c2, c3, c4⟩ := b2 h9
    obtain ⟨g3, g4, g5⟩ := g2 h9
    rw [c4]
    refine sim_evL hn hd hA hg hw hT 400 (A s) kl4 kc4 _ w4 h9 g1 (by omega) (by omega) c1 c2 c3 ?_
    rw [uRel_comp (by decide), uRel_tl (hT.ag c3)]
  · rw [pEvL_bad h9]
    exact ⟨fun _ => b1 h9, fun h10 => absurd h10 h9⟩
theorem sim_soL (hn : n ≤ 400) {A : RS → PR} {de : Nat} (hd : de ≤ 6) (hA : SimA y n A de) (hg : GdA n A) {X : LX} {w : Nat → Int32} {wn : Nat} (hw : wn ≤ 3 * de) (hT : TL w wn (-15)) : ∀ (f : Nat) (r : PR) (kl kc : Nat) (v : US) (w2 : Nat → Int32), r.1.2 = -1 → r.1.1 ≤ n → X.2.2.2.2.2 + r.2.length + wn ≤ r.1.1 → n - r.1.1 < f → de + 1 ≤ kl → n - r.1.1 < kc → Ag wn w w2 → uRel (-15) v = (r.1, apX X r.2, w2, wn, nI de) → SimB y n (pSoL y n A f r) de (-15) X w wn (fQ y n kl kc v)
  | 0, _, _, _, _, _, _, _, _, h, _, _, _, _ => absurd h (Nat.not_lt_zero _)
  | f + 1, r, kl, kc, v, w2, h1, h2, h3, h4, h5, h6, h7, h8 => by
    have ev : v.1 = r.1 := congrArg (fun u : US => u.1) h8
    rw [pSoL]
    by_cases h : r.1.2 = -1 ∧ atB y n r.1.1 [111, 114] = true
    · rw [if_pos h]
      obtain ⟨kc, rfl⟩ : ∃ k, kc = k + 1 := ⟨kc - 1, by omega⟩
      obtain ⟨a1, a2⟩ := at_nxt h2 h.2
      simp only [List.length_cons, List.length_nil] at a1
      have e1 : fQ y n kl (kc + 1) v = fP y n 7 kc (tkS y n r.1, apX X r.2, puV 32 w2 (nI wn) (-15), wn + 1, nI de) := by
        rw [fQ_or (by rw [ev]; exact h1) (by rw [ev]; exact h.2)]
        show fP y n 7 kc (uHold (-15) (tkU y n (uRel (-15) v))) = _
        rw [h8]; rfl
      rw [e1]
      have hu := apX_u r.2 X (by omega)
      obtain ⟨b1, b2⟩ := sim_ev hn hd hA hg (s := tkS y n r.1) (X := apX X r.2) (w := puV 32 w2 (nI wn) (-15)) (wn := wn + 1) (kp := 7) (kc := kc) h1 a2 (by show _ ≤ nxt y n r.1.1; omega) (by omega) (TL.put (by omega) (by decide)) (by omega) (by show n - nxt y n r.1.1 < kc; omega)
      obtain ⟨g1, g2⟩ := pEv_g (y := y) hn hg (s := tkS y n r.1) a2
      by_cases h9 : (pEv y n A (tkS y n r.1)).1.2 = -1
      · obtain ⟨kl4, kc4, v4, w4, c1, c2, c3, c4, c5⟩ := b2 h9
        obtain ⟨g3, g4, g5, -⟩ := g2 h9
        have g6 : (pEv y n A (tkS y n r.1)).2.length + nxt y n r.1.1 ≤ (pEv y n A (tkS y n r.1)).1.1 + 1 := g5
        have g7 : nxt y n r.1.1 < (pEv y n A (tkS y n r.1)).1.1 := g4
        have hag : Ag wn w w4 := h7.tr ((Ag.put (by omega)).tr c3.dn)
        rw [c4]
        refine sim_soL hn hd hA hg hw hT f ((pEv y n A (tkS y n r.1)).1, r.2 ++ ((pEv y n A (tkS y n r.1)).2 ++ [-15])) kl4 kc4 v4 w4 h9 g1 (by simp only [List.length_append, List.length_cons, List.length_nil]; omega) (by simp only; omega) c1 c2 hag ?_
        rw [← uRel_comp (lo := -15) (lo2 := -14) (by decide), c5, uRel_step (c := -15) (by rw [c3 wn (by omega)]; exact put_top (by omega)) (by decide), if_neg (by decide), uRel_tl (hT.ag hag), ← apX_snoc, ← apX_app]
      · rw [pSoL_bad (by exact h9)]
        exact ⟨fun _ => b1 h9, fun h10 => absurd h10 h9⟩
    · rw [if_neg h]
      exact ⟨fun h9 => absurd h1 h9, fun _ => ⟨kl, kc, v, w2, h5, h6, h7, rfl, h8⟩⟩
theorem TL.lt {w : Nat → Int32} {wn : Nat} {a b : Int32} (h : TL w wn a) (k : a ≤ b) : TL w wn b := fun j hj => Int32.lt_of_lt_of_le (h j hj) k
theorem sim_so (hn : n ≤ 400) {A : RS → PR} {de : Nat} (hd : de ≤ 6) (hA : SimA y n A de) (hg : GdA n A) {s : RS} {X : LX} {w : Nat → Int32} {wn kp kc : Nat} (h1 : s.2 = -1) (h2 : s.1 ≤ n) (h3 : X.2.2.2.2.2 + wn + 1 ≤ s.1) (hw : wn ≤ 3 * de) (hT : TL w wn (-15)) (h4 : 7 ≤ kp + de) (h5 : n - s.1 < kc) : SimB y n (pSo y n A s) de (-15) X w wn (fP y n kp kc (s, X, w, wn, nI de)) := by
  obtain ⟨b1, b2⟩ := sim_ev hn hd hA hg (s := s) (X := X) (w := w) (wn := wn) (kp := kp) (kc := kc) h1 h2 h3 (by omega) (hT.lt (by decide)) h4 h5
  obtain ⟨g1, g2⟩ := pEv_g (y := y) hn hg h2
  unfold pSo
  by_cases h9 : (pEv y n A s).1.2 = -1
  · obtain ⟨kl4, kc4, v4, w4, c1, c2, c3, c4, c5⟩ := b2 h9
    obtain ⟨g3, g4, g5, -⟩ := g2 h9
    rw [c4]
    refine sim_soL hn hd hA hg hw hT 400 (pEv y n A s) kl4 kc4 v4 w4 h9 g1 (by omega) (by omega) c1 c2 c3 ?_
    rw [← uRel_comp (lo := -15) (lo2 := -14) (by decide), c5, uRel_tl (hT.ag c3)]
  · rw [pSoL_bad h9]
    exact ⟨fun _ => b1 h9, fun h10 => absurd h10 h9⟩
theorem fP_pre {kp kc : Nat} {s : RS} {X : LX} {w : Nat → Int32} {wn de : Nat} (hd : de < 6) (hp : isPre y n s.1) : fP y n (kp + 1) kc (s, X, w, wn, nI de) = fP y n kp kc (tkS y n s, X, puV 32 w (nI wn) (opC y n s.1), wn + 1, nI (de + 1)) := by
  have e : uPre y n (kp + 1) (s, X, w, wn, nI de) = uPre y n kp (tkS y n s, X, puV 32 w (nI wn) (opC y n s.1), wn + 1, nI (de + 1)) := by
    rw [uPre, if_pos (show isPre y n s.1 from hp), if_neg (fun h9 => h9 (nI_lt hd (by decide)))]
    show uPre y n kp (tkS y n s, X, puV 32 w (nI wn) (opC y n s.1), wn + 1, nI de + nI 1) = _
    rw [nI_add]
  unfold fP rdA
  rw [e]
theorem rdA_no {kp : Nat} {s : RS} {X : LX} {w : Nat → Int32} {wn : Nat} {d : Int32} (hp : ¬ isPre y n s.1) : rdA y n (kp + 1) (s, X, w, wn, d) = ((pPl y n s).1, apX X (pPl y n s).2, w, wn, d) := by
  have e : uPre y n (kp + 1) (s, X, w, wn, d) = (true, (s, X, w, wn, d)) := by
    rw [uPre, if_neg (show ¬ isPre y n s.1 from hp)]
  unfold rdA
  rw [e, if_pos rfl, uAtomT_p]
theorem sim_pl {A : RS → PR} {de : Nat} {s : RS} (hA : A s = pPl y n s) (hd : de ≤ 6) (hp : ¬ isPre y n s.1) (hg : GdA n A) {X : LX} {w : Nat → Int32} {wn kp kc : Nat} (h2 : s.1 ≤ n) (h4 : 7 ≤ kp + de) (h5 : n - s.1 < kc) :
  (¬ (A s).1.2 = -1 → (uCd (fP y n kp kc (s, X, w, wn, nI de))).1.2 = (A s).1.2) ∧
  ((A s).1.2 = -1 → ∃ kl kc2 w2, de + 1 ≤ kl ∧ n - (A s).1.1 < kc2 ∧ Ag wn w w2 ∧ fP y n kp kc (s, X, w, wn, nI de) = fQ y n kl kc2 (uRel (-13) ((A s).1, apX X (A s).2, w2, wn, nI de))) := by
  obtain ⟨kp, rfl⟩ : ∃ k, kp = k + 1 := ⟨kp - 1, by omega⟩
  have e : fP y n (kp + 1) kc (s, X, w, wn, nI de) = fQ y n 7 kc (uRel (-13) ((A s).1, apX X (A s).2, w, wn, nI de)) := by
    unfold fP
    rw [rdA_no hp, hA]
  obtain ⟨g1, g2⟩ := hg s h2
  rw [e]
  refine ⟨fun h9 => ?_, fun h9 => ⟨7, kc, w, by omega, ?_, Ag.rf, rfl⟩⟩
  · have e2 := fQ_bad (y := y) (n := n) (kl := 7) (kc := kc) (u := uRel (-13) ((A s).1, apX X (A s).2, w, wn, nI de)) h9
    exact (uCd_bad (by rw [e2]; exact h9)).trans e2
  · obtain ⟨-, g4, -⟩ := g2 h9
    omega
theorem sim_atom (hn : n ≤ 400) : ∀ (k de : Nat), de + k = 6 → SimA y n (pAtom y n k) de
  | 0, de, hd => by
    intro s X w wn kp kc h1 h2 h3 hw h4 h5
    by_cases hp : isPre y n s.1
    · have e : pAtom y n 0 s = (sRf s, []) := by rw [pAtom]; exact if_pos hp
      have e1 : (sRf s).2 = nI s.1 := if_pos h1
      obtain ⟨kp, rfl⟩ : ∃ k, kp = k + 1 := ⟨kp - 1, by omega⟩
      have e2 : rdA y n (kp + 1) (s, X, w, wn, nI de) = rfU (s, X, w, wn, nI de) := by
        have : uPre y n (kp + 1) (s, X, w, wn, nI de) = (false, rfU (s, X, w, wn, nI de)) := by
          rw [uPre, if_pos (show isPre y n s.1 from hp), if_pos (show ¬ nI de < nI 6 by rw [nI_ltI (by omega) (by omega)]; omega)]
        unfold rdA
        rw [this]
        rfl
      have hb : ¬ (uRel (-13) (rdA y n (kp + 1) (s, X, w, wn, nI de))).1.2 = -1 := by
        rw [e2]
        show ¬ (sRf s).2 = -1
        rw [e1]; exact nI_nm1 (by omega)
      have e3 := fQ_bad (y := y) (n := n) (kl := 7) (kc := kc) hb
      rw [e]
      refine ⟨fun h9 => ?_, fun h9 => absurd h9 (by show ¬ (sRf s).2 = -1; rw [e1]; exact nI_nm1 (by omega))⟩
      show (uCd (fQ y n 7 kc (uRel (-13) (rdA y n (kp + 1) (s, X, w, wn, nI de))))).1.2 = (sRf s).2
      rw [uCd_bad (by rw [e3]; exact hb), e3, e2]
      rfl
    · exact sim_pl (by rw [pAtom]; exact if_neg hp) (by omega) hp (pAtom_g hn 0) h2 h4 h5
  | k + 1, de, hd => by
    intro s X w wn kp kc h1 h2 h3 hw h4 h5
    by_cases hN : atB y n s.1 [110, 111, 116] = true
    · have e : pAtom y n (k + 1) s = ((pAtom y n k (tkS y n s)).1, (pAtom y n k (tkS y n s)).2 ++ [-13]) := by rw [pAtom]; exact if_pos hN
      obtain ⟨kp, rfl⟩ : ∃ j, kp = j + 1 := ⟨kp - 1, by omega⟩
      have hno : ¬ atB y n s.1 [40] = true := fun h9 => absurd (at_len hN h9) (by decide)
      obtain ⟨a1, a2⟩ := at_nxt h2 hN
      simp only [List.length_cons, List.length_nil] at a1
      have eo : opC y n s.1 = -13 := if_neg hno
      rw [e, fP_pre (by omega) (Or.inl hN), eo]
      obtain ⟨b1, b2⟩ := sim_atom hn k (de + 1) (by omega) (tkS y n s) X (puV 32 w (nI wn) (-13)) (wn + 1) kp kc h1 a2 (by show _ ≤ nxt y n s.1; omega) (by omega) (by omega) (by show n - nxt y n s.1 < kc; omega)
      refine ⟨b1, fun h9 => ?_⟩
      obtain ⟨kl4, kc4, w4, c1, c2, c3, c4⟩ := b2 h9
      refine ⟨kl4, kc4, w4, by omega, c2, (Ag.put (by omega)).tr c3.dn, ?_⟩
      rw [c4, uRel_step (c := -13) (by rw [c3 wn (by omega)]; exact put_top (by omega)) (by decide), if_pos rfl, pk_sub (by omega), ← apX_snoc, show de + 1 - 1 = de from rfl]
    · by_cases hO : atB y n s.1 [40] = true
      · have e : pAtom y n (k + 1) s = pPar y n (pSo y n (pAtom y n k) (tkS y n s)) := by rw [pAtom]; exact (if_neg hN).trans (if_pos hO)
        obtain ⟨kp, rfl⟩ : ∃ j, kp = j + 1 := ⟨kp - 1, by omega⟩
        obtain ⟨a1, a2⟩ := at_nxt h2 hO
        simp only [List.length_cons, List.length_nil] at a1
        have eo : opC y n s.1 = -16 := if_pos hO
        rw [e, fP_pre (by omega) (Or.inr hO), eo]
        obtain ⟨b1, b2⟩ := sim_so (y := y) hn (de := de + 1) (by omega) (sim_atom hn k (de + 1) (by omega)) (pAtom_g hn k) (s := tkS y n s) (X := X) (w := puV 32 w (nI wn) (-16)) (wn := wn + 1) (kp := kp) (kc := kc) h1 a2 (by show _ ≤ nxt y n s.1; omega) (by omega) (TL.put (by omega) (by decide)) (by omega) (by show n - nxt y n s.1 < kc; omega)
        obtain ⟨g1, g2⟩ := pSo_g (y := y) hn (pAtom_g hn k) (s := tkS y n s) a2
        generalize pSo y n (pAtom y n k) (tkS y n s) = R at *
        unfold pPar
        by_cases h9 : R.1.2 = -1
        · rw [if_pos h9]
          obtain ⟨kl4, kc4, v4, w4, c1, c2, c3, c4, c5⟩ := b2 h9
          obtain ⟨-, -, -, g3, g4⟩ := g2 h9
          have ev : v4.1 = R.1 := congrArg (fun u : US => u.1) c5
          have eR : (R.1.1, R.1.2) = R.1 := rfl
          by_cases h10 : atB y n R.1.1 [41] = true
          · rw [if_pos h10]
            obtain ⟨d1, d2⟩ := at_nxt g1 h10
            simp only [List.length_cons, List.length_nil] at d1
            refine ⟨fun h11 => absurd h9 h11, fun _ => ?_⟩
            obtain ⟨kl4, rfl⟩ : ∃ j, kl4 = j + 1 := ⟨kl4 - 1, by omega⟩
            refine ⟨kl4, kc4, w4, by omega, by show n - nxt y n R.1.1 < kc4; omega, (Ag.put (by omega)).tr c3.dn, ?_⟩
            rw [c4, fQ_close (by rw [ev]; exact h10) (by rw [c5]; exact Nat.succ_ne_zero wn), c5]
            show fQ y n kl4 kc4 (uRel (-13) (tkS y n R.1, apX X R.2, w4, wn + 1 - 1, nI (de + 1) - nI 1)) = _
            rw [pk_sub (by omega)]
            rfl
          · rw [if_neg h10]
            have e1 : (sRf R.1).2 = nI R.1.1 := if_pos h9
            refine ⟨fun _ => ?_, fun h11 => absurd h11 (by show ¬ (sRf R.1).2 = -1; rw [e1]; exact nI_nm1 (by omega))⟩
            rw [c4, fQ_end (by rw [ev]; exact h9) (by rw [ev]; exact h10) (by rw [ev]; exact g3) (by rw [ev]; exact g4)]
            unfold uCd
            rw [c5, if_pos (Nat.succ_pos wn)]
            rfl
        · rw [if_neg h9]
          exact ⟨b1, fun h10 => absurd h10 h9⟩
      · exact sim_pl (by rw [pAtom]; exact (if_neg hN).trans (if_neg hO)) (by omega) (fun h => h.elim hN hO) (pAtom_g hn (k + 1)) h2 h4 h5
/-- a condition -/
theorem sim_cond (hn : n ≤ 400) {s : RS} {X : LX} {w : Nat → Int32} {wn : Nat} {d : Int32} (h1 : s.2 = -1) (h2 : s.1 ≤ n) (h3 : X.2.2.2.2.2 + 1 ≤ s.1) (h4 : 2 ≤ s.1) :
  (¬ (pSo y n (pAtom y n 6) s).1.2 = -1 → (uCond y n (s, X, w, wn, d)).1.2 = (pSo y n (pAtom y n 6) s).1.2) ∧
  ((pSo y n (pAtom y n 6) s).1.2 = -1 → (¬ atB y n (pSo y n (pAtom y n 6) s).1.1 [41] = true → (uCond y n (s, X, w, wn, d)).1 = (pSo y n (pAtom y n 6) s).1 ∧ (uCond y n (s, X, w, wn, d)).2.1 = apX X (pSo y n (pAtom y n 6) s).2) ∧
    (atB y n (pSo y n (pAtom y n 6) s).1.1 [41] = true → (uCond y n (s, X, w, wn, d)).1.2 = nI (pSo y n (pAtom y n 6) s).1.1)) := by
  have e : uCond y n (s, X, w, wn, d) = uCd (fP y n 7 399 (s, X, w, 0, nI 0)) := rfl
  obtain ⟨b1, b2⟩ := sim_so (y := y) hn (de := 0) (by omega) (sim_atom hn 6 0 rfl) (pAtom_g hn 6) (s := s) (X := X) (w := w) (wn := 0) (kp := 7) (kc := 399) h1 h2 (by omega) (by omega) TL.nil (by omega) (by omega)
  obtain ⟨g1, g2⟩ := pSo_g (y := y) hn (pAtom_g hn 6) (s := s) h2
  rw [e]
  generalize pSo y n (pAtom y n 6) s = R at *
  refine ⟨b1, fun h9 => ?_⟩
  obtain ⟨kl4, kc4, v4, w4, c1, c2, c3, c4, c5⟩ := b2 h9
  obtain ⟨-, -, -, g3, g4⟩ := g2 h9
  have ev : v4.1 = R.1 := congrArg (fun u : US => u.1) c5
  rw [c4]
  refine ⟨fun h10 => ?_, fun h10 => ?_⟩
  · rw [fQ_end (by rw [ev]; exact h9) (by rw [ev]; exact h10) (by rw [ev]; exact g3) (by rw [ev]; exact g4)]
    unfold uCd
    rw [c5, if_neg (Nat.lt_irrefl 0)]
    exact ⟨rfl, rfl⟩
  · obtain ⟨kl4, rfl⟩ : ∃ j, kl4 = j + 1 := ⟨kl4 - 1, by omega⟩
    have e3 := fQ_close0 (y := y) (n := n) (kl := kl4) (kc := kc4) (u := v4) (by rw [ev]; omega) (by rw [ev]; exact h9) (by rw [ev]; exact h10) (by rw [c5])
    rw [ev] at e3
    rw [uCd_bad (by rw [e3]; exact nI_nm1 (by omega)), e3]
end PIL
