/-! the object's whole state -/
/-- outside the object's 246 cells -/
def FH (G G' : AH) (B : Nat) : Prop := G.2 ≤ G'.2 ∧ ∀ q, (q < B ∨ B + 246 ≤ q) → G'.1 q = G.1 q
theorem FH.rf {G : AH} {B : Nat} : FH G G B := ⟨Nat.le_refl _, fun _ _ => rfl⟩
theorem FH.tr {G G1 G2 : AH} {B : Nat} (h1 : FH G G1 B) (h2 : FH G1 G2 B) : FH G G2 B := ⟨Nat.le_trans h1.1 h2.1, fun q hq => (h2.2 q hq).trans (h1.2 q hq)⟩
theorem FH.gs {G : AH} {B b : Nat} {x : HC} (h : B ≤ b) (h2 : b < B + 246) : FH G (gs G b x) B := ⟨Nat.le_refl _, fun q hq => gs_ne (by omega)⟩
theorem FH.x {G : AH} {B n : Nat} (h : G.2 ≤ n) : FH G (G.1, n) B := ⟨h, fun _ _ => rfl⟩
theorem Fr.toH {G G' : AH} {a B : Nat} (h : Fr G G' a) (h1 : B ≤ a) (h2 : a + 14 ≤ B + 246) : FH G G' B := ⟨Nat.le_of_eq h.1.symm, fun q hq => h.2 q (by omega)⟩
theorem Fr2.toH {G G' : AH} {a l B : Nat} (h : Fr2 G G' a l) (h1 : B ≤ a) (h2 : a + 14 ≤ B + 246) (h3 : B ≤ l) (h4 : l + 6 ≤ B + 246) : FH G G' B := ⟨Nat.le_of_eq h.1.symm, fun q hq => h.2 q (by omega) (by omega)⟩
theorem FrL.toH {G G' : AH} {l B : Nat} (h : FrL G G' l) (h3 : B ≤ l) (h4 : l + 6 ≤ B + 246) : FH G G' B := ⟨Nat.le_of_eq h.1.symm, fun q hq => h.2 q (by omega)⟩
theorem FrW.toH {G G' : AH} {l B : Nat} (h : FrW G G' l) (h3 : B ≤ l) (h4 : l + 6 ≤ B + 246) : FH G G' B := ⟨Nat.le_of_eq h.1.symm, fun q hq => h.2 q (by omega)⟩
def HTp (G : AH) (B : Nat) (f : Nat → Nat) : Prop := G.1 (B + 1) = some (aI 400 (fun i => nI (f i))) ∧ ∀ i, f i < 256
def HRd (G : AH) (B : Nat) : Prop := G.1 (B + 2) = some (oB 0 [.ref (B + 3)]) ∧ (∃ (l0 z w : Int32) (e : Nat), G.1 (B + 3) = some (oB 5 [.ref (B + 3 + 1), .int l0, .int z, .int (nI e), .int w])) ∧ (∃ f0 : Nat → Int32, G.1 (B + 3 + 1) = some (aI 400 f0)) ∧ (∃ (wn : Nat) (dp : Int32), wn < 2 ^ 20 ∧ G.1 (B + 5) = some (oB 3 [.ref (B + 5 + 1), .ref (B + 5 + 3), .int (nI wn), .int dp])) ∧ (∃ (l0 z w : Int32) (e : Nat), G.1 (B + 5 + 1) = some (oB 5 [.ref (B + 5 + 1 + 1), .int l0, .int z, .int (nI e), .int w])) ∧ (∃ f0 : Nat → Int32, G.1 (B + 5 + 1 + 1) = some (aI 400 f0)) ∧ ∃ ww : Nat → Int32, G.1 (B + 5 + 3) = some (aI 32 ww)
def HNo (G : AH) (B : Nat) (T : ST) (sd : Int32) : Prop := Isl G (B + 9) T sd ∧ Bd T
def HLs (G : AH) (B : Nat) (D : LD) (ru sp : Nat) : Prop := Lw G ru D ∧ WFD D ∧ (∃ X, Lg G sp X ∧ X.2.2.2.2.2 ≤ 400) ∧ ((ru = B + 37 ∧ sp = B + 43) ∨ (ru = B + 43 ∧ sp = B + 37))
def HIm (G : AH) (B : Nat) (Ti : ST) (si : Int32) (Di : LD) : Prop := Isl G (B + 49) Ti si ∧ Bd Ti ∧ Lw G (B + 63) Di ∧ WFD Di
def HPs (G : AH) (B : Nat) (P : Nat → ST × Int32) : Prop := G.1 (B + 69) = some (aO 12 (fun i => some (B + 78 + 14 * i))) ∧ ∀ i, i < 12 → Isl G (B + 78 + 14 * i) (P i).1 (P i).2 ∧ Bd (P i).1
def HMs (G : AH) (B : Nat) : Prop := (∃ w : Nat → Int32, G.1 (B + 70) = some (aI 12 w)) ∧ SmR G (B + 71) ∧ SmR G (B + 74) ∧ ∃ o : Nat → Int32, G.1 (B + 77) = some (aI 6 o)
def HI (G : AH) (B tn : Nat) (f : Nat → Nat) (wb : Int32) (T : ST) (sd : Int32) (D : LD) (im : Nat) (Ti : ST) (si : Int32) (Di : LD) (nw rm : Nat) (P : Nat → ST × Int32) (ru sp : Nat) : Prop :=
  G.1 B = some (hO B tn wb ru sp im nw rm) ∧ (tn ≤ 400 ∧ im ≤ 1 ∧ nw < 12 ∧ rm ≤ 12) ∧ HTp G B f ∧ HRd G B ∧ HNo G B T sd ∧ IsG G (B + 23) ∧ HLs G B D ru sp ∧ HIm G B Ti si Di ∧ HPs G B P ∧ HMs G B
theorem IsG.same {G G' : AH} {a : Nat} (h : IsG G a) (e : ∀ q, a ≤ q → q < a + 14 → G'.1 q = G.1 q) : IsG G' a := by
  obtain ⟨⟨c0, c1, c2, c3, c4, c5, o0⟩, hr, ⟨c6, c7, o12⟩, f, o13⟩ := h
  refine ⟨⟨c0, c1, c2, c3, c4, c5, by rw [e _ (by omega) (by omega)]; exact o0⟩, fun j h1 h2 => ?_, ⟨c6, c7, by rw [e _ (by omega) (by omega)]; exact o12⟩, f, by rw [e _ (by omega) (by omega)]; exact o13⟩
  obtain ⟨g, e9, hg⟩ := hr j h1 h2
  exact ⟨g, by rw [e _ (by omega) (by omega)]; exact e9, hg⟩
theorem Lw.same {G G1 : AH} {l : Nat} {D : LD} (h : Lw G l D) (e : ∀ q, l ≤ q → q < l + 6 → G1.1 q = G.1 q) : Lw G1 l D := Lg.w D (h.g.fr e) rfl
theorem HTp.mv {G G' : AH} {B : Nat} {f : Nat → Nat} (h : HTp G B f) (e : G'.1 (B + 1) = G.1 (B + 1)) : HTp G' B f := ⟨e.trans h.1, h.2⟩
theorem HRd.mv {G G' : AH} {B : Nat} (h : HRd G B) (e : ∀ q, B + 2 ≤ q → q < B + 9 → G'.1 q = G.1 q) : HRd G' B := by
  obtain ⟨h1, ⟨l0, z, w, e0, h2⟩, ⟨f0, h3⟩, ⟨wn, dp, hw, h4⟩, ⟨l1, z1, w1, e1, h5⟩, ⟨f1, h6⟩, ww, h7⟩ := h
  exact ⟨(e _ (by omega) (by omega)).trans h1, ⟨l0, z, w, e0, (e _ (by omega) (by omega)).trans h2⟩, ⟨f0, (e _ (by omega) (by omega)).trans h3⟩, ⟨wn, dp, hw, (e _ (by omega) (by omega)).trans h4⟩, ⟨l1, z1, w1, e1, (e _ (by omega) (by omega)).trans h5⟩, ⟨f1, (e _ (by omega) (by omega)).trans h6⟩, ww, (e _ (by omega) (by omega)).trans h7⟩
theorem HNo.mv {G G' : AH} {B : Nat} {T : ST} {sd : Int32} (h : HNo G B T sd) (e : ∀ q, B + 9 ≤ q → q < B + 23 → G'.1 q = G.1 q) : HNo G' B T sd := ⟨h.1.same (fun q a b => e q a (by omega)), h.2⟩
theorem HLs.mv {G G' : AH} {B : Nat} {D : LD} {ru sp : Nat} (h : HLs G B D ru sp) (e : ∀ q, B + 37 ≤ q → q < B + 49 → G'.1 q = G.1 q) : HLs G' B D ru sp := by
  obtain ⟨h1, h2, ⟨X, h3, h5⟩, h4⟩ := h
  exact ⟨h1.same (fun q a b => e q (by omega) (by omega)), h2, ⟨X, h3.fr (fun q a b => e q (by omega) (by omega)), h5⟩, h4⟩
theorem HIm.mv {G G' : AH} {B : Nat} {Ti : ST} {si : Int32} {Di : LD} (h : HIm G B Ti si Di) (e : ∀ q, B + 49 ≤ q → q < B + 69 → G'.1 q = G.1 q) : HIm G' B Ti si Di := ⟨h.1.same (fun q a b => e q (by omega) (by omega)), h.2.1, h.2.2.1.same (fun q a b => e q (by omega) (by omega)), h.2.2.2⟩
theorem HPs.mv {G G' : AH} {B : Nat} {P : Nat → ST × Int32} (h : HPs G B P) (e0 : G'.1 (B + 69) = G.1 (B + 69)) (e : ∀ q, B + 78 ≤ q → q < B + 246 → G'.1 q = G.1 q) : HPs G' B P := ⟨e0.trans h.1, fun i hi => ⟨(h.2 i hi).1.same (fun q a b => e q (by omega) (by omega)), (h.2 i hi).2⟩⟩
theorem SmR.same {G G' : AH} {a : Nat} (h : SmR G a) (e : ∀ q, a ≤ q → q < a + 3 → G'.1 q = G.1 q) : SmR G' a := by
  obtain ⟨h1, ⟨r, h2, h3⟩, r2, h4, h5⟩ := h
  exact ⟨(e _ (by omega) (by omega)).trans h1, ⟨r, (e _ (by omega) (by omega)).trans h2, h3⟩, r2, (e _ (by omega) (by omega)).trans h4, h5⟩
theorem HMs.mv {G G' : AH} {B : Nat} (h : HMs G B) (e : ∀ q, B + 70 ≤ q → q < B + 78 → G'.1 q = G.1 q) : HMs G' B := by
  obtain ⟨⟨w, h1⟩, h2, h3, o, h4⟩ := h
  exact ⟨⟨w, (e _ (by omega) (by omega)).trans h1⟩, h2.same (fun q a b => e q (by omega) (by omega)), h3.same (fun q a b => e q (by omega) (by omega)), o, (e _ (by omega) (by omega)).trans h4⟩
section HIS
variable {B tn im nw rm ru sp : Nat} {f : Nat → Nat} {wb sd si : Int32} {T Ti : ST} {D Di : LD} {P : Nat → ST × Int32} {G G1 : AH}
theorem HI.mv (h : HI G B tn f wb T sd D im Ti si Di nw rm P ru sp) (e : ∀ q, B ≤ q → q < B + 246 → G1.1 q = G.1 q) : HI G1 B tn f wb T sd D im Ti si Di nw rm P ru sp :=
  ⟨(e _ (by omega) (by omega)).trans h.1, h.2.1, h.2.2.1.mv (e _ (by omega) (by omega)), h.2.2.2.1.mv (fun q a b => e q (by omega) (by omega)), h.2.2.2.2.1.mv (fun q a b => e q (by omega) (by omega)), h.2.2.2.2.2.1.same (fun q a b => e q (by omega) (by omega)), h.2.2.2.2.2.2.1.mv (fun q a b => e q (by omega) (by omega)), h.2.2.2.2.2.2.2.1.mv (fun q a b => e q (by omega) (by omega)), h.2.2.2.2.2.2.2.2.1.mv (e _ (by omega) (by omega)) (fun q a b => e q (by omega) (by omega)), h.2.2.2.2.2.2.2.2.2.mv (fun q a b => e q (by omega) (by omega))⟩
theorem HI.ls (h : HI G B tn f wb T sd D im Ti si Di nw rm P ru sp) : B + 37 ≤ ru ∧ ru + 6 ≤ B + 49 ∧ B + 37 ≤ sp ∧ sp + 6 ≤ B + 49 := by
  have h4 := h.2.2.2.2.2.2.1.2.2.2
  omega
theorem HI.obj (h : HI G B tn f wb T sd D im Ti si Di nw rm P ru sp) {tn2 im2 nw2 rm2 : Nat} {wb2 : Int32} (hb : tn2 ≤ 400 ∧ im2 ≤ 1 ∧ nw2 < 12 ∧ rm2 ≤ 12) : HI (gs G B (hO B (tn2) (wb2) ru sp (im2) (nw2) (rm2))) B (tn2) f (wb2) T sd D (im2) Ti si Di (nw2) (rm2) P ru sp := by
  have e : ∀ q, B + 1 ≤ q → q < B + 246 → (gs G B (hO B (tn2) (wb2) ru sp (im2) (nw2) (rm2))).1 q = G.1 q := fun q a b => gs_ne (by omega)
  exact ⟨gs_at, hb, h.2.2.1.mv (e _ (by omega) (by omega)), h.2.2.2.1.mv (fun q a b => e q (by omega) (by omega)), h.2.2.2.2.1.mv (fun q a b => e q (by omega) (by omega)), h.2.2.2.2.2.1.same (fun q a b => e q (by omega) (by omega)), h.2.2.2.2.2.2.1.mv (fun q a b => e q (by omega) (by omega)), h.2.2.2.2.2.2.2.1.mv (fun q a b => e q (by omega) (by omega)), h.2.2.2.2.2.2.2.2.1.mv (e _ (by omega) (by omega)) (fun q a b => e q (by omega) (by omega)), h.2.2.2.2.2.2.2.2.2.mv (fun q a b => e q (by omega) (by omega))⟩
theorem HI.now (h : HI G B tn f wb T sd D im Ti si Di nw rm P ru sp) {T2 : ST} {s2 : Int32} (hI : Isl G1 (B + 9) T2 s2) (hB : Bd T2) (hF : Fr G G1 (B + 9)) : HI G1 B tn f wb (T2) (s2) D im Ti si Di nw rm P ru sp := by
  have e : ∀ q, B ≤ q → (q < B + 9 ∨ B + 23 ≤ q) → G1.1 q = G.1 q := fun q a b => hF.2 q (by omega)
  exact ⟨(e _ (by omega) (by omega)).trans h.1, h.2.1, h.2.2.1.mv (e _ (by omega) (by omega)), h.2.2.2.1.mv (fun q a b => e q (by omega) (by omega)), ⟨hI, hB⟩, h.2.2.2.2.2.1.same (fun q a b => e q (by omega) (by omega)), h.2.2.2.2.2.2.1.mv (fun q a b => e q (by omega) (by omega)), h.2.2.2.2.2.2.2.1.mv (fun q a b => e q (by omega) (by omega)), h.2.2.2.2.2.2.2.2.1.mv (e _ (by omega) (by omega)) (fun q a b => e q (by omega) (by omega)), h.2.2.2.2.2.2.2.2.2.mv (fun q a b => e q (by omega) (by omega))⟩
theorem HI.scr (h : HI G B tn f wb T sd D im Ti si Di nw rm P ru sp) (hI : IsG G1 (B + 23)) (hF : Fr G G1 (B + 23)) : HI G1 B tn f wb T sd D im Ti si Di nw rm P ru sp := by
  have e : ∀ q, B ≤ q → (q < B + 23 ∨ B + 37 ≤ q) → G1.1 q = G.1 q := fun q a b => hF.2 q (by omega)
  exact ⟨(e _ (by omega) (by omega)).trans h.1, h.2.1, h.2.2.1.mv (e _ (by omega) (by omega)), h.2.2.2.1.mv (fun q a b => e q (by omega) (by omega)), h.2.2.2.2.1.mv (fun q a b => e q (by omega) (by omega)), hI, h.2.2.2.2.2.2.1.mv (fun q a b => e q (by omega) (by omega)), h.2.2.2.2.2.2.2.1.mv (fun q a b => e q (by omega) (by omega)), h.2.2.2.2.2.2.2.2.1.mv (e _ (by omega) (by omega)) (fun q a b => e q (by omega) (by omega)), h.2.2.2.2.2.2.2.2.2.mv (fun q a b => e q (by omega) (by omega))⟩
theorem HLs.told {B ru sp : Nat} {D : LD} {G G1 : AH} (h : HLs G B D ru sp) (hL : Lw G1 ru D) (e : ∀ q, B + 37 ≤ q → q < B + 49 → q ≠ ru + 5 → G1.1 q = G.1 q) : HLs G1 B D ru sp := by
  obtain ⟨h1, h2, ⟨X, h3, h5⟩, h4⟩ := h
  exact ⟨hL, h2, ⟨X, h3.fr (fun q a b => e q (by omega) (by omega) (by omega)), h5⟩, h4⟩
theorem HI.day2 (h : HI G B tn f wb T sd D im Ti si Di nw rm P ru sp) (hI : IsG G1 (B + 23)) (hL : Lw G1 ru D) (hF : Fr2 G G1 (B + 23) ru) : HI G1 B tn f wb T sd D im Ti si Di nw rm P ru sp := by
  have hls := h.ls
  have e9 : ∀ q, B ≤ q → (q < B + 23 ∨ B + 37 ≤ q) → q ≠ ru + 5 → G1.1 q = G.1 q := fun q a b c => hF.2 q (by omega) c
  have e : ∀ q, B ≤ q → (q < B + 23 ∨ B + 49 ≤ q) → G1.1 q = G.1 q := fun q a b => e9 q a (by omega) (by omega)
  exact ⟨(e _ (by omega) (by omega)).trans h.1, h.2.1, h.2.2.1.mv (e _ (by omega) (by omega)), h.2.2.2.1.mv (fun q a b => e q (by omega) (by omega)), h.2.2.2.2.1.mv (fun q a b => e q (by omega) (by omega)), hI, h.2.2.2.2.2.2.1.told hL (fun q a b c => e9 q (by omega) (by omega) c), h.2.2.2.2.2.2.2.1.mv (fun q a b => e q (by omega) (by omega)), h.2.2.2.2.2.2.2.2.1.mv (e _ (by omega) (by omega)) (fun q a b => e q (by omega) (by omega)), h.2.2.2.2.2.2.2.2.2.mv (fun q a b => e q (by omega) (by omega))⟩
theorem HI.dayN (h : HI G B tn f wb T sd D im Ti si Di nw rm P ru sp) {T2 : ST} {s2 : Int32} (hI : Isl G1 (B + 9) T2 s2) (hB : Bd T2) (hL : Lw G1 ru D) (hF : Fr2 G G1 (B + 9) ru) : HI G1 B tn f wb (T2) (s2) D im Ti si Di nw rm P ru sp := by
  have hls := h.ls
  have e9 : ∀ q, B ≤ q → (q < B + 9 ∨ B + 23 ≤ q) → q ≠ ru + 5 → G1.1 q = G.1 q := fun q a b c => hF.2 q (by omega) c
  have e : ∀ q, B ≤ q → (q < B + 9 ∨ (B + 23 ≤ q ∧ q < B + 37) ∨ B + 49 ≤ q) → G1.1 q = G.1 q := fun q a b => e9 q a (by omega) (by omega)
  exact ⟨(e _ (by omega) (by omega)).trans h.1, h.2.1, h.2.2.1.mv (e _ (by omega) (by omega)), h.2.2.2.1.mv (fun q a b => e q (by omega) (by omega)), ⟨hI, hB⟩, h.2.2.2.2.2.1.same (fun q a b => e q (by omega) (by omega)), h.2.2.2.2.2.2.1.told hL (fun q a b c => e9 q (by omega) (by omega) c), h.2.2.2.2.2.2.2.1.mv (fun q a b => e q (by omega) (by omega)), h.2.2.2.2.2.2.2.2.1.mv (e _ (by omega) (by omega)) (fun q a b => e q (by omega) (by omega)), h.2.2.2.2.2.2.2.2.2.mv (fun q a b => e q (by omega) (by omega))⟩
theorem HI.told (h : HI G B tn f wb T sd D im Ti si Di nw rm P ru sp) (hL : Lw G1 ru D) (hF : FrL G G1 ru) : HI G1 B tn f wb T sd D im Ti si Di nw rm P ru sp := by
  have hls := h.ls
  have e9 : ∀ q, q ≠ ru + 5 → G1.1 q = G.1 q := fun q c => hF.2 q c
  have e : ∀ q, B ≤ q → (q < B + 37 ∨ B + 49 ≤ q) → G1.1 q = G.1 q := fun q a b => e9 q (by omega)
  exact ⟨(e _ (by omega) (by omega)).trans h.1, h.2.1, h.2.2.1.mv (e _ (by omega) (by omega)), h.2.2.2.1.mv (fun q a b => e q (by omega) (by omega)), h.2.2.2.2.1.mv (fun q a b => e q (by omega) (by omega)), h.2.2.2.2.2.1.same (fun q a b => e q (by omega) (by omega)), h.2.2.2.2.2.2.1.told hL (fun q a b c => e9 q c), h.2.2.2.2.2.2.2.1.mv (fun q a b => e q (by omega) (by omega)), h.2.2.2.2.2.2.2.2.1.mv (e _ (by omega) (by omega)) (fun q a b => e q (by omega) (by omega)), h.2.2.2.2.2.2.2.2.2.mv (fun q a b => e q (by omega) (by omega))⟩
def updP (P : Nat → ST × Int32) (k : Nat) (v : ST × Int32) : Nat → ST × Int32 := fun i => if i = k then v else P i
theorem HI.past (h : HI G B tn f wb T sd D im Ti si Di nw rm P ru sp) {k : Nat} {T2 : ST} {s2 : Int32} (hk : k < 12) (hI : Isl G1 (B + 78 + 14 * k) T2 s2) (hB : Bd T2) (hF : Fr G G1 (B + 78 + 14 * k)) : HI G1 B tn f wb T sd D im Ti si Di nw rm (updP P k (T2, s2)) ru sp := by
  have e : ∀ q, B ≤ q → q < B + 78 → G1.1 q = G.1 q := fun q a b => hF.2 q (by omega)
  refine ⟨(e _ (by omega) (by omega)).trans h.1, h.2.1, h.2.2.1.mv (e _ (by omega) (by omega)), h.2.2.2.1.mv (fun q a b => e q (by omega) (by omega)), h.2.2.2.2.1.mv (fun q a b => e q (by omega) (by omega)), h.2.2.2.2.2.1.same (fun q a b => e q (by omega) (by omega)), h.2.2.2.2.2.2.1.mv (fun q a b => e q (by omega) (by omega)), h.2.2.2.2.2.2.2.1.mv (fun q a b => e q (by omega) (by omega)), ⟨(e _ (by omega) (by omega)).trans h.2.2.2.2.2.2.2.2.1.1, ?_⟩, h.2.2.2.2.2.2.2.2.2.mv (fun q a b => e q (by omega) (by omega))⟩
  intro i hi
  unfold updP
  by_cases h9 : i = k
  · rw [if_pos h9, h9]; exact ⟨hI, hB⟩
  · rw [if_neg h9]
    exact ⟨(h.2.2.2.2.2.2.2.2.1.2 i hi).1.same (fun q a b => hF.2 q (by omega)), (h.2.2.2.2.2.2.2.2.1.2 i hi).2⟩
theorem HI.misc (h : HI G B tn f wb T sd D im Ti si Di nw rm P ru sp) (hM : HMs G1 B) (hF : ∀ q, (q < B + 70 ∨ B + 78 ≤ q) → G1.1 q = G.1 q) : HI G1 B tn f wb T sd D im Ti si Di nw rm P ru sp := by
  have e : ∀ q, B ≤ q → (q < B + 70 ∨ B + 78 ≤ q) → G1.1 q = G.1 q := fun q a b => hF q b
  exact ⟨(e _ (by omega) (by omega)).trans h.1, h.2.1, h.2.2.1.mv (e _ (by omega) (by omega)), h.2.2.2.1.mv (fun q a b => e q (by omega) (by omega)), h.2.2.2.2.1.mv (fun q a b => e q (by omega) (by omega)), h.2.2.2.2.2.1.same (fun q a b => e q (by omega) (by omega)), h.2.2.2.2.2.2.1.mv (fun q a b => e q (by omega) (by omega)), h.2.2.2.2.2.2.2.1.mv (fun q a b => e q (by omega) (by omega)), h.2.2.2.2.2.2.2.2.1.mv (e _ (by omega) (by omega)) (fun q a b => e q (by omega) (by omega)), hM⟩
theorem HI.x (h : HI G B tn f wb T sd D im Ti si Di nw rm P ru sp) {n : Nat} : HI (G.1, n) B tn f wb T sd D im Ti si Di nw rm P ru sp := h
theorem HI.tape (h : HI G B tn f wb T sd D im Ti si Di nw rm P ru sp) {f2 : Nat → Nat} (hf : ∀ i, f2 i < 256) : HI (gs G (B + 1) (aI 400 (fun i => nI (f2 i)))) B tn (f2) wb T sd D im Ti si Di nw rm P ru sp := by
  have e : ∀ q, B ≤ q → q ≠ B + 1 → (gs G (B + 1) (aI 400 (fun i => nI (f2 i)))).1 q = G.1 q := fun q a b => gs_ne b
  exact ⟨(e _ (by omega) (by omega)).trans h.1, h.2.1, ⟨gs_at, hf⟩, h.2.2.2.1.mv (fun q a b => e q (by omega) (by omega)), h.2.2.2.2.1.mv (fun q a b => e q (by omega) (by omega)), h.2.2.2.2.2.1.same (fun q a b => e q (by omega) (by omega)), h.2.2.2.2.2.2.1.mv (fun q a b => e q (by omega) (by omega)), h.2.2.2.2.2.2.2.1.mv (fun q a b => e q (by omega) (by omega)), h.2.2.2.2.2.2.2.2.1.mv (e _ (by omega) (by omega)) (fun q a b => e q (by omega) (by omega)), h.2.2.2.2.2.2.2.2.2.mv (fun q a b => e q (by omega) (by omega))⟩
end HIS
