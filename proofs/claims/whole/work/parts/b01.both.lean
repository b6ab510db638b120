/-! both sides at once -/
section BTH
variable {V im rm tn nw : Nat} {th fa sd si : Int32} {f : Nat → Nat} {T Ti : ST} {D Di : LD} {P : Nat → ST × Int32} {G G1 : AH}
theorem HM.mv (h : HM G V th fa tn f T sd D im Ti si Di nw rm P) (e : ∀ q, V ≤ q → q < V + 9 → G1.1 q = G.1 q) : HM G1 V th fa tn f T sd D im Ti si Di nw rm P := by
  obtain ⟨⟨ba, en, at_, dp, io, hm_, we, sh, so, h0⟩, ⟨mm, h1, hR, hL, ac, h4, hA⟩, ⟨kk, h2, hK⟩, ⟨a3, h3⟩, h5, ⟨a6, h6⟩, ⟨a7, h7⟩, a8, h8⟩ := h
  exact ⟨⟨ba, en, at_, dp, io, hm_, we, sh, so, (e _ (by omega) (by omega)).trans h0⟩, ⟨mm, (e _ (by omega) (by omega)).trans h1, hR, hL, ac, (e _ (by omega) (by omega)).trans h4, hA⟩, ⟨kk, (e _ (by omega) (by omega)).trans h2, hK⟩, ⟨a3, (e _ (by omega) (by omega)).trans h3⟩, (e _ (by omega) (by omega)).trans h5, ⟨a6, (e _ (by omega) (by omega)).trans h6⟩, ⟨a7, (e _ (by omega) (by omega)).trans h7⟩, a8, (e _ (by omega) (by omega)).trans h8⟩
/-- the model's object alone -/
theorem HM.ob (h : HM G V th fa tn f T sd D im Ti si Di nw rm P) {th2 fa2 : Int32} {tn2 : Nat} (hx : ∃ ba en at_ dp io hm_ we sh so, G1 = gs G V (mO V th2 (nI im) (nI rm) (nI tn2) ba en at_ fa2 dp io hm_ we sh so)) : HM G1 V th2 fa2 tn2 f T sd D im Ti si Di nw rm P := by
  obtain ⟨ba, en, at_, dp, io, hm_, we, sh, so, rfl⟩ := hx
  obtain ⟨-, ⟨mm, h1, hR, hL, ac, h4, hA⟩, ⟨kk, h2, hK⟩, ⟨a3, h3⟩, h5, ⟨a6, h6⟩, ⟨a7, h7⟩, a8, h8⟩ := h
  exact ⟨⟨ba, en, at_, dp, io, hm_, we, sh, so, gs_at⟩, ⟨mm, (gs_ne (by omega)).trans h1, hR, hL, ac, (gs_ne (by omega)).trans h4, hA⟩, ⟨kk, (gs_ne (by omega)).trans h2, hK⟩, ⟨a3, (gs_ne (by omega)).trans h3⟩, (gs_ne (by omega)).trans h5, ⟨a6, (gs_ne (by omega)).trans h6⟩, ⟨a7, (gs_ne (by omega)).trans h7⟩, a8, (gs_ne (by omega)).trans h8⟩
theorem HM.s3 (h : HM G V th fa tn f T sd D im Ti si Di nw rm P) {a : Nat → Int32} : HM (gs G (V + 3) (aI 350 a)) V th fa tn f T sd D im Ti si Di nw rm P := by
  obtain ⟨⟨ba, en, at_, dp, io, hm_, we, sh, so, h0⟩, ⟨mm, h1, hR, hL, ac, h4, hA⟩, ⟨kk, h2, hK⟩, ⟨a3, h3⟩, h5, ⟨a6, h6⟩, ⟨a7, h7⟩, a8, h8⟩ := h
  exact ⟨⟨ba, en, at_, dp, io, hm_, we, sh, so, (gs_ne (by omega)).trans h0⟩, ⟨mm, (gs_ne (by omega)).trans h1, hR, hL, ac, (gs_ne (by omega)).trans h4, hA⟩, ⟨kk, (gs_ne (by omega)).trans h2, hK⟩, ⟨a, gs_at⟩, (gs_ne (by omega)).trans h5, ⟨a6, (gs_ne (by omega)).trans h6⟩, ⟨a7, (gs_ne (by omega)).trans h7⟩, a8, (gs_ne (by omega)).trans h8⟩
theorem HM.s6 (h : HM G V th fa tn f T sd D im Ti si Di nw rm P) {a : Nat → Int32} : HM (gs G (V + 6) (aI 7 a)) V th fa tn f T sd D im Ti si Di nw rm P := by
  obtain ⟨⟨ba, en, at_, dp, io, hm_, we, sh, so, h0⟩, ⟨mm, h1, hR, hL, ac, h4, hA⟩, ⟨kk, h2, hK⟩, ⟨a3, h3⟩, h5, ⟨a6, h6⟩, ⟨a7, h7⟩, a8, h8⟩ := h
  exact ⟨⟨ba, en, at_, dp, io, hm_, we, sh, so, (gs_ne (by omega)).trans h0⟩, ⟨mm, (gs_ne (by omega)).trans h1, hR, hL, ac, (gs_ne (by omega)).trans h4, hA⟩, ⟨kk, (gs_ne (by omega)).trans h2, hK⟩, ⟨a3, (gs_ne (by omega)).trans h3⟩, (gs_ne (by omega)).trans h5, ⟨a, gs_at⟩, ⟨a7, (gs_ne (by omega)).trans h7⟩, a8, (gs_ne (by omega)).trans h8⟩
theorem HM.s7 (h : HM G V th fa tn f T sd D im Ti si Di nw rm P) {a : Nat → Int32} : HM (gs G (V + 7) (aI 64 a)) V th fa tn f T sd D im Ti si Di nw rm P := by
  obtain ⟨⟨ba, en, at_, dp, io, hm_, we, sh, so, h0⟩, ⟨mm, h1, hR, hL, ac, h4, hA⟩, ⟨kk, h2, hK⟩, ⟨a3, h3⟩, h5, ⟨a6, h6⟩, ⟨a7, h7⟩, a8, h8⟩ := h
  exact ⟨⟨ba, en, at_, dp, io, hm_, we, sh, so, (gs_ne (by omega)).trans h0⟩, ⟨mm, (gs_ne (by omega)).trans h1, hR, hL, ac, (gs_ne (by omega)).trans h4, hA⟩, ⟨kk, (gs_ne (by omega)).trans h2, hK⟩, ⟨a3, (gs_ne (by omega)).trans h3⟩, (gs_ne (by omega)).trans h5, ⟨a6, (gs_ne (by omega)).trans h6⟩, ⟨a, gs_at⟩, a8, (gs_ne (by omega)).trans h8⟩
theorem HM.s8 (h : HM G V th fa tn f T sd D im Ti si Di nw rm P) {a : Nat → Int32} : HM (gs G (V + 8) (aZ 36 a)) V th fa tn f T sd D im Ti si Di nw rm P := by
  obtain ⟨⟨ba, en, at_, dp, io, hm_, we, sh, so, h0⟩, ⟨mm, h1, hR, hL, ac, h4, hA⟩, ⟨kk, h2, hK⟩, ⟨a3, h3⟩, h5, ⟨a6, h6⟩, ⟨a7, h7⟩, a8, h8⟩ := h
  exact ⟨⟨ba, en, at_, dp, io, hm_, we, sh, so, (gs_ne (by omega)).trans h0⟩, ⟨mm, (gs_ne (by omega)).trans h1, hR, hL, ac, (gs_ne (by omega)).trans h4, hA⟩, ⟨kk, (gs_ne (by omega)).trans h2, hK⟩, ⟨a3, (gs_ne (by omega)).trans h3⟩, (gs_ne (by omega)).trans h5, ⟨a6, (gs_ne (by omega)).trans h6⟩, ⟨a7, (gs_ne (by omega)).trans h7⟩, a, gs_at⟩
theorem HM.s5 (h : HM G V th fa tn f T sd D im Ti si Di nw rm P) {f2 : Nat → Nat} : HM (gs G (V + 5) (aI 400 (fun i => nI (f2 i)))) V th fa tn f2 T sd D im Ti si Di nw rm P := by
  obtain ⟨⟨ba, en, at_, dp, io, hm_, we, sh, so, h0⟩, ⟨mm, h1, hR, hL, ac, h4, hA⟩, ⟨kk, h2, hK⟩, ⟨a3, h3⟩, h5, ⟨a6, h6⟩, ⟨a7, h7⟩, a8, h8⟩ := h
  exact ⟨⟨ba, en, at_, dp, io, hm_, we, sh, so, (gs_ne (by omega)).trans h0⟩, ⟨mm, (gs_ne (by omega)).trans h1, hR, hL, ac, (gs_ne (by omega)).trans h4, hA⟩, ⟨kk, (gs_ne (by omega)).trans h2, hK⟩, ⟨a3, (gs_ne (by omega)).trans h3⟩, gs_at, ⟨a6, (gs_ne (by omega)).trans h6⟩, ⟨a7, (gs_ne (by omega)).trans h7⟩, a8, (gs_ne (by omega)).trans h8⟩
/-- the row and what is remembered, and with them the object -/
theorem HM.row (h : HM G V th fa tn f T sd D im Ti si Di nw rm P) {th2 fa2 sd2 : Int32} {tn2 rm2 nw2 : Nat} {T2 : ST} {D2 : LD} {P2 : Nat → ST × Int32} {a nn : Nat → Int32} (hR : MoR nn T2 sd2) (hL : LwR nn D2) (hA : ActR a nn rm2 nw2 P2)
    (hx : ∃ ba en at_ dp io hm_ we sh so, G1 = gs (gs (gs G (V + 4) (aI 4200 a)) (V + 1) (aI 750 nn)) V (mO V th2 (nI im) (nI rm2) (nI tn2) ba en at_ fa2 dp io hm_ we sh so)) : HM G1 V th2 fa2 tn2 f T2 sd2 D2 im Ti si Di nw2 rm2 P2 := by
  obtain ⟨ba, en, at_, dp, io, hm_, we, sh, so, rfl⟩ := hx
  obtain ⟨-, -, ⟨kk, h2, hK⟩, ⟨a3, h3⟩, h5, ⟨a6, h6⟩, ⟨a7, h7⟩, a8, h8⟩ := h
  have e : ∀ q, q ≠ V → q ≠ V + 1 → q ≠ V + 4 → ∀ x y z : HC, (gs (gs (gs G (V + 4) x) (V + 1) y) V z).1 q = G.1 q := fun q a b c x y z => by rw [gs_ne a, gs_ne b, gs_ne c]
  exact ⟨⟨ba, en, at_, dp, io, hm_, we, sh, so, gs_at⟩, ⟨nn, (gs_ne (by omega)).trans gs_at, hR, hL, a, (gs_ne (by omega)).trans ((gs_ne (by omega)).trans gs_at), hA⟩, ⟨kk, (e _ (by omega) (by omega) (by omega) _ _ _).trans h2, hK⟩, ⟨a3, (e _ (by omega) (by omega) (by omega) _ _ _).trans h3⟩, (e _ (by omega) (by omega) (by omega) _ _ _).trans h5, ⟨a6, (e _ (by omega) (by omega) (by omega) _ _ _).trans h6⟩, ⟨a7, (e _ (by omega) (by omega) (by omega) _ _ _).trans h7⟩, a8, (e _ (by omega) (by omega) (by omega) _ _ _).trans h8⟩
theorem LwR.cg {mm nn : Nat → Int32} {D : LD} (h : LwR mm D) (e : ∀ j, j < 750 → nn j = mm j) : LwR nn D := by
  obtain ⟨h1, h2⟩ := h
  refine ⟨(e 1 (by decide)).trans h1, ?_⟩
  rcases h2 with h2 | ⟨y, n, X, ww, wn, dp, a1, a2, a3, a4, a5, a6⟩
  · exact Or.inl h2
  · exact Or.inr ⟨y, n, X, ww, wn, dp, a1, a2, (e 2 (by decide)).trans a3, fun i hi => (e _ (by omega)).trans (a4 i hi), a5, a6⟩
theorem ActR.nil {ac mm : Nat → Int32} {nw : Nat} {P : Nat → ST × Int32} : ActR ac mm 0 nw P := fun j h => absurd h (Nat.not_lt_zero j)
/-- nothing but the model's cells is touched -/
def FV (G G1 : AH) (V : Nat) : Prop := G1.2 = G.2 ∧ ∀ q, (q < V ∨ V + 9 ≤ q) → G1.1 q = G.1 q
theorem FV.rf {G : AH} {V : Nat} : FV G G V := ⟨rfl, fun _ _ => rfl⟩
theorem FV.gs {G G1 : AH} {V b : Nat} {x : HC} (h : FV G G1 V) (h1 : V ≤ b) (h2 : b < V + 9) : FV G (gs G1 b x) V := ⟨h.1, fun q hq => (gs_ne (by omega)).trans (h.2 q hq)⟩
end BTH
def JT (E : EV) (G : AH) (th : Int32) : Prop := ∃ (tn : Nat) (f : Nat → Nat) (wb : Int32) (T : ST) (sd : Int32) (D : LD) (im : Nat) (Ti : ST) (si : Int32) (Di : LD) (nw rm : Nat) (P : Nat → ST × Int32) (ru sp : Nat), HI G (eB E) tn f wb T sd D im Ti si Di nw rm P ru sp ∧ HM G (eB E + 246) th wb tn f T sd D im Ti si Di nw rm P ∧ ∃ ov : Nat → Int64, G.1 (eB E + 255) = some (aJ 1 ov)
def JJ (E : EV) (G : AH) : Prop := ∃ th, JT E G th
/-- what a wrapped call leaves: its number, its answer, and the model's call that is told by both -/
def WPost (E : EV) (KM : MR) (as : List Value) : OC → AH → Prop := fun o G1 => ∃ (k : Nat) (v : Int32), k < 4 ∧ o = .inl (some (.int (nI k))) ∧ (k = 0 → ∃ ov : Nat → Int64, ov 0 = v.toInt64 ∧ G1.1 (eB E + 255) = some (aJ 1 ov)) ∧ (∃ vs, G1.1 (eB E + 246) = some (oB 8 vs)) ∧ (∃ ov : Nat → Int64, G1.1 (eB E + 255) = some (aJ 1 ov)) ∧ ∃ d, d ≤ 60 ∧ Ci E d KM (.ref (eB E + 246) :: as) G1 (fun r G2 => r = (if k = 0 then v else nI 0) ∧ JT E G2 (nI k) ∧ G2.1 (eB E + 255) = G1.1 (eB E + 255))
/-- .. and a plain call -/
def DPst (E : EV) (KM : MR) (as : List Value) : OC → AH → Prop := fun o G1 => ∃ r : Int32, o = .inl (some (.int r)) ∧ (∃ vs, G1.1 (eB E + 246) = some (oB 8 vs)) ∧ ∃ d, d ≤ 60 ∧ Ci E d KM (.ref (eB E + 246) :: as) G1 (fun r2 G2 => r2 = r ∧ JJ E G2)
theorem JJ.x7 {E : EV} {G : AH} (h : JJ E G) : ∃ vs, G.1 (eB E) = some (oB 7 vs) := by
  obtain ⟨th, tn, f, wb, T, sd, D, im, Ti, si, Di, nw, rm, P, ru, sp, hH, -⟩ := h
  exact ⟨_, hH.1⟩
