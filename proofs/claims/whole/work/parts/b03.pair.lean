/-! a call of the object and the same call of the model -/
section PAI
variable {E : EV} {G G1 G2 : AH} {V B : Nat} {th fa sd si wb wb2 : Int32} {tn im nw rm ru sp tn2 im2 nw2 rm2 ru2 sp2 : Nat} {f f2 : Nat → Nat} {T Ti T2 Ti2 : ST} {D Di D2 Di2 : LD} {P P2 : Nat → ST × Int32} {sd2 si2 : Int32}
def OKX (tn : Nat) (f : Nat → Nat) (T : ST) (D : LD) (im : Nat) (Ti : ST) (Di : LD) (nw rm : Nat) (P : Nat → ST × Int32) : Prop := Bd T ∧ WFD D ∧ (tn ≤ 400 ∧ im ≤ 1 ∧ nw < 12 ∧ rm ≤ 12) ∧ (∀ i, f i < 256) ∧ Bd Ti ∧ (∀ i, i < 12 → Bd (P i).1)
theorem OKX.of (h : HI G B tn f wb T sd D im Ti si Di nw rm P ru sp) : OKX tn f T D im Ti Di nw rm P := ⟨h.2.2.2.2.1.2, h.2.2.2.2.2.2.1.2.1, h.2.1, h.2.2.1.2, h.2.2.2.2.2.2.2.1.2.1, fun i hi => (h.2.2.2.2.2.2.2.2.1.2 i hi).2⟩
theorem xk1_le {p : Prop} [Decidable p] : xk1 p ≤ 1 := by unfold xk1; split <;> omega
theorem xk2_le {p q : Prop} [Decidable p] [Decidable q] : xk2 p q ≤ 2 := by unfold xk2; split <;> (try split) <;> omega
theorem xk3_le {p q r : Prop} [Decidable p] [Decidable q] [Decidable r] : xk3 p q r ≤ 3 := by unfold xk3; split <;> (try split) <;> (try split) <;> omega
theorem dedK_le : dedK f tn T ≤ 2 := xk2_le
theorem gs_self {b : Nat} {x : HC} (h : G.1 b = some x) : gs G b x = G := by
  unfold gs
  have e : (fun q => if q = b then some x else G.1 q) = G.1 := by
    funext q
    by_cases c : q = b
    · subst c
      rw [if_pos rfl, h]
    · rw [if_neg c]
  rw [e]
theorem HM.x8 (h : HM G V th wb tn f T sd D im Ti si Di nw rm P) : ∃ vs, G.1 V = some (oB 8 vs) := by
  obtain ⟨ba, en, at_, dp, io, hm_, we, sh, so, h0⟩ := h.1
  exact ⟨_, h0⟩
/-- the class's call is done: what is told, and the model's call to come -/
theorem mkW {KM : MR} {as : List Value} {o : OC} {k d : Nat} {v : Int32} (hd : d ≤ 60) (hM : HM G (eB E + 246) th wb tn f T sd D im Ti si Di nw rm P) (hO : ∃ ov : Nat → Int64, G.1 (eB E + 255) = some (aJ 1 ov)) (hk : k < 4) (ho : o = .inl (some (.int (nI k)))) (hF : FH G G1 (eB E))
    (h0 : k = 0 → ∃ ov, ov 0 = v.toInt64 ∧ G2 = gs G1 (eB E + 255) (aJ 1 ov)) (h1 : k ≠ 0 → G2 = G1) (hH : HI G1 (eB E) tn2 f2 wb2 T2 sd2 D2 im2 Ti2 si2 Di2 nw2 rm2 P2 ru2 sp2)
    (hC : ∀ G9, HM G9 (eB E + 246) th wb tn f T sd D im Ti si Di nw rm P → Ci E d KM (.ref (eB E + 246) :: as) G9 (fun r G3 => r = (if k = 0 then v else nI 0) ∧ HM G3 (eB E + 246) (nI k) wb2 tn2 f2 T2 sd2 D2 im2 Ti2 si2 Di2 nw2 rm2 P2 ∧ FV G9 G3 (eB E + 246))) : WPost E KM as o G2 := by
  have e : ∀ q, q ≠ eB E + 255 → G2.1 q = G1.1 q := by
    intro q hq
    by_cases c : k = 0
    · obtain ⟨ov, -, rfl⟩ := h0 c
      exact gs_ne hq
    · rw [h1 c]
  have eo : ∃ ov : Nat → Int64, G2.1 (eB E + 255) = some (aJ 1 ov) := by
    by_cases c : k = 0
    · obtain ⟨ov, -, rfl⟩ := h0 c
      exact ⟨ov, gs_at⟩
    · obtain ⟨ov, h9⟩ := hO
      rw [h1 c]
      exact ⟨ov, (hF.2 _ (by omega)).trans h9⟩
  have hM2 : HM G2 (eB E + 246) th wb tn f T sd D im Ti si Di nw rm P := hM.mv (fun q a c => (e q (by omega)).trans (hF.2 q (by omega)))
  refine ⟨k, v, hk, ho, fun c => ?_, hM2.x8, eo, d, hd, Ci.imp (hC G2 hM2) (fun r G3 h => ⟨h.1, ?_, h.2.2.2 _ (by omega)⟩)⟩
  · obtain ⟨ov, h9, rfl⟩ := h0 c
    exact ⟨ov, h9, gs_at⟩
  · obtain ⟨ov, h9⟩ := eo
    exact ⟨_, _, _, _, _, _, _, _, _, _, _, _, _, _, _, hH.mv (fun q a c => (h.2.2.2 q (by omega)).trans (e q (by omega))), h.2.1, ov, (h.2.2.2 _ (by omega)).trans h9⟩
theorem mkD {KM : MR} {as : List Value} {o : OC} {d : Nat} {r : Int32} (hd : d ≤ 60) (hM : HM G (eB E + 246) th wb tn f T sd D im Ti si Di nw rm P) (hO : ∃ ov : Nat → Int64, G.1 (eB E + 255) = some (aJ 1 ov)) (ho : o = .inl (some (.int r))) (hF : FH G G1 (eB E))
    (hH : HI G1 (eB E) tn2 f2 wb2 T2 sd2 D2 im2 Ti2 si2 Di2 nw2 rm2 P2 ru2 sp2)
    (hC : ∀ G9, HM G9 (eB E + 246) th wb tn f T sd D im Ti si Di nw rm P → Ci E d KM (.ref (eB E + 246) :: as) G9 (fun r2 G3 => r2 = r ∧ (∃ th2, HM G3 (eB E + 246) th2 wb2 tn2 f2 T2 sd2 D2 im2 Ti2 si2 Di2 nw2 rm2 P2) ∧ FV G9 G3 (eB E + 246))) : DPst E KM as o G1 := by
  have hM2 : HM G1 (eB E + 246) th wb tn f T sd D im Ti si Di nw rm P := hM.mv (fun q a c => hF.2 q (by omega))
  refine ⟨r, ho, hM2.x8, d, hd, Ci.imp (hC G1 hM2) (fun r2 G3 h => ⟨h.1, ?_⟩)⟩
  obtain ⟨-, ⟨th2, h2⟩, h3⟩ := h
  obtain ⟨ov, h9⟩ := hO
  exact ⟨_, _, _, _, _, _, _, _, _, _, _, _, _, _, _, _, hH.mv (fun q a c => h3.2 q (by omega)), h2, ov, (h3.2 _ (by omega)).trans ((hF.2 _ (by omega)).trans h9)⟩
/-- .. and a call with no answer -/
def DPs0 (E : EV) (KM : MR) (as : List Value) : OC → AH → Prop := fun o G1 => o = .inl none ∧ (∃ vs, G1.1 (eB E + 246) = some (oB 8 vs)) ∧ ∃ d, d ≤ 60 ∧ Cd E d KM (.ref (eB E + 246) :: as) G1 (fun G2 => JJ E G2)
theorem mkD0 {KM : MR} {as : List Value} {o : OC} {d : Nat} (hd : d ≤ 60) (hM : HM G (eB E + 246) th wb tn f T sd D im Ti si Di nw rm P) (hO : ∃ ov : Nat → Int64, G.1 (eB E + 255) = some (aJ 1 ov)) (ho : o = .inl none) (hF : FH G G1 (eB E))
    (hH : HI G1 (eB E) tn2 f2 wb2 T2 sd2 D2 im2 Ti2 si2 Di2 nw2 rm2 P2 ru2 sp2)
    (hC : ∀ G9, HM G9 (eB E + 246) th wb tn f T sd D im Ti si Di nw rm P → Cd E d KM (.ref (eB E + 246) :: as) G9 (fun G3 => (∃ th2, HM G3 (eB E + 246) th2 wb2 tn2 f2 T2 sd2 D2 im2 Ti2 si2 Di2 nw2 rm2 P2) ∧ FV G9 G3 (eB E + 246))) : DPs0 E KM as o G1 := by
  have hM2 : HM G1 (eB E + 246) th wb tn f T sd D im Ti si Di nw rm P := hM.mv (fun q a c => hF.2 q (by omega))
  refine ⟨ho, hM2.x8, d, hd, Ct.imp (hC G1 hM2) (fun o G3 h => ⟨h.1, ?_⟩)⟩
  obtain ⟨-, ⟨th2, h2⟩, h3⟩ := h
  obtain ⟨ov, h9⟩ := hO
  exact ⟨_, _, _, _, _, _, _, _, _, _, _, _, _, _, _, _, hH.mv (fun q a c => h3.2 q (by omega)), h2, ov, (h3.2 _ (by omega)).trans ((hF.2 _ (by omega)).trans h9)⟩
theorem HM.ahp (h : HM G V th fa tn f T sd D im Ti si Di nw rm P) (hA : AhP G V (nI im) (nI rm) (nI tn) fa G1) : HM G1 V (nI 0) fa tn f T sd D im Ti si Di nw rm P ∧ FV G G1 V := by
  obtain ⟨a, c, ba, en, at_, dp, io, hm_, we, sh, so, rfl⟩ := hA
  exact ⟨((h.s3 (a := a)).s6 (a := c)).ob ⟨_, _, _, _, _, _, _, _, _, rfl⟩, ((FV.rf.gs (by omega) (by omega)).gs (by omega) (by omega)).gs (by omega) (by omega)⟩
theorem fv_row {x y z : HC} : FV G (gs (gs (gs G (V + 4) x) (V + 1) y) V z) V := ((FV.rf.gs (by omega) (by omega)).gs (by omega) (by omega)).gs (by omega) (by omega)
end PAI
section PAW
variable {E : EV} {G : AH} {V : Nat} {th wb sd si : Int32} {tn im nw rm : Nat} {f : Nat → Nat} {T Ti : ST} {D Di : LD} {P : Nat → ST × Int32}
theorem q_item {x w : Int32} (hM : HM G V th wb tn f T sd D im Ti si Di nw rm P) (hX : OKX tn f T D im Ti Di nw rm P) : Ci E 4 kX8_item [.ref V, .int x, .int w] G (fun r G3 => r = (if (xk2 (okI (T 12 0) x) (okN 0 (nI 9) w)) = 0 then (itemV T (ix x) w) else nI 0) ∧ HM G3 V (nI (xk2 (okI (T 12 0) x) (okN 0 (nI 9) w))) wb tn f T sd D im Ti si Di nw rm P ∧ FV G G3 V) := by
  obtain ⟨⟨ba, en, at_, dp, io, hm_, we, sh, so, h0⟩, ⟨mm, h1, hR, hL9, ac, h4, hA⟩, ⟨kk, h2, hK⟩, ⟨a3, h3⟩, h5, h6, h7, h8⟩ := id hM
  obtain ⟨hB, hD, ⟨htn, him, hnw, hrm⟩, hf, hBi, hPB⟩ := hX
  refine Ct.imp (m_item h0 h1 hR hB) ?_
  rintro o G3 ⟨rfl, rfl⟩
  exact ⟨_, rfl, rfl, hM.ob ⟨_, _, _, _, _, _, _, _, _, rfl⟩, FV.rf.gs (by omega) (by omega)⟩
theorem pw_item {x w : Int32} (hJ : JJ E G) : Ct E 11 2 12 kL_item [.ref (eB E), .int x, .int w, .ref (eB E + 255)] G (WPost E kX8_item [.int x, .int w]) := by
  obtain ⟨th, tn, f, wb, T, sd, D, im, Ti, si, Di, nw, rm, P, ru, sp, hH, hM, hO⟩ := hJ
  have hX := OKX.of hH
  refine Ct.imp (w_item ⟨_, hH.1⟩ hO (R := fun k9 v9 G1 => k9 = (xk2 (okI (T 12 0) x) (okN 0 (nI 9) w)) ∧ v9 = (itemV T (ix x) w) ∧ HI G1 (eB E) tn f wb T sd D im Ti si Di nw rm P ru sp ∧ FH G G1 (eB E)) (fun k9 v9 G1 h => h.2.2.2.2 _ (by omega)) (Ct.imp (c_item hH) (fun o G1 h => ⟨_, _, xk2_le, h.1, rfl, rfl, h.2.1, h.2.2⟩))) ?_
  rintro o G2 ⟨k9, v9, G1, hk, ho, ⟨rfl, rfl, hH1, hF⟩, h0, h1⟩
  exact mkW (Nat.le_of_ble_eq_true rfl) hM hO hk ho hF h0 h1 hH1 (fun G9 hM9 => q_item hM9 hX)
theorem q_room {x w : Int32} (hM : HM G V th wb tn f T sd D im Ti si Di nw rm P) (hX : OKX tn f T D im Ti Di nw rm P) : Ci E 3 kX8_room [.ref V, .int x, .int w] G (fun r G3 => r = (if (xk2 (okI 6 x) (okN 0 (nI 3) w)) = 0 then (roomV T (ix x) w) else nI 0) ∧ HM G3 V (nI (xk2 (okI 6 x) (okN 0 (nI 3) w))) wb tn f T sd D im Ti si Di nw rm P ∧ FV G G3 V) := by
  obtain ⟨⟨ba, en, at_, dp, io, hm_, we, sh, so, h0⟩, ⟨mm, h1, hR, hL9, ac, h4, hA⟩, ⟨kk, h2, hK⟩, ⟨a3, h3⟩, h5, h6, h7, h8⟩ := id hM
  obtain ⟨hB, hD, ⟨htn, him, hnw, hrm⟩, hf, hBi, hPB⟩ := hX
  refine Ct.imp (m_room h0 h1 hR hB) ?_
  rintro o G3 ⟨rfl, rfl⟩
  exact ⟨_, rfl, rfl, hM.ob ⟨_, _, _, _, _, _, _, _, _, rfl⟩, FV.rf.gs (by omega) (by omega)⟩
theorem pw_room {x w : Int32} (hJ : JJ E G) : Ct E 11 2 12 kL_room [.ref (eB E), .int x, .int w, .ref (eB E + 255)] G (WPost E kX8_room [.int x, .int w]) := by
  obtain ⟨th, tn, f, wb, T, sd, D, im, Ti, si, Di, nw, rm, P, ru, sp, hH, hM, hO⟩ := hJ
  have hX := OKX.of hH
  refine Ct.imp (w_room ⟨_, hH.1⟩ hO (R := fun k9 v9 G1 => k9 = (xk2 (okI 6 x) (okN 0 (nI 3) w)) ∧ v9 = (roomV T (ix x) w) ∧ HI G1 (eB E) tn f wb T sd D im Ti si Di nw rm P ru sp ∧ FH G G1 (eB E)) (fun k9 v9 G1 h => h.2.2.2.2 _ (by omega)) (Ct.imp (c_room hH) (fun o G1 h => ⟨_, _, xk2_le, h.1, rfl, rfl, h.2.1, h.2.2⟩))) ?_
  rintro o G2 ⟨k9, v9, G1, hk, ho, ⟨rfl, rfl, hH1, hF⟩, h0, h1⟩
  exact mkW (Nat.le_of_ble_eq_true rfl) hM hO hk ho hF h0 h1 hH1 (fun G9 hM9 => q_room hM9 hX)
theorem q_side {x w : Int32} (hM : HM G V th wb tn f T sd D im Ti si Di nw rm P) (hX : OKX tn f T D im Ti Di nw rm P) : Ci E 7 kX8_side [.ref V, .int x, .int w] G (fun r G3 => r = (if (xk2 (okI 2 x) (okN 0 (nI 4) w)) = 0 then (sideV T (ix x) w) else nI 0) ∧ HM G3 V (nI (xk2 (okI 2 x) (okN 0 (nI 4) w))) wb tn f T sd D im Ti si Di nw rm P ∧ FV G G3 V) := by
  obtain ⟨⟨ba, en, at_, dp, io, hm_, we, sh, so, h0⟩, ⟨mm, h1, hR, hL9, ac, h4, hA⟩, ⟨kk, h2, hK⟩, ⟨a3, h3⟩, h5, h6, h7, h8⟩ := id hM
  obtain ⟨hB, hD, ⟨htn, him, hnw, hrm⟩, hf, hBi, hPB⟩ := hX
  refine Ct.imp (m_side h0 h1 hR hB) ?_
  rintro o G3 ⟨rfl, rfl⟩
  exact ⟨_, rfl, rfl, hM.ob ⟨_, _, _, _, _, _, _, _, _, rfl⟩, FV.rf.gs (by omega) (by omega)⟩
theorem pw_side {x w : Int32} (hJ : JJ E G) : Ct E 11 2 12 kL_side [.ref (eB E), .int x, .int w, .ref (eB E + 255)] G (WPost E kX8_side [.int x, .int w]) := by
  obtain ⟨th, tn, f, wb, T, sd, D, im, Ti, si, Di, nw, rm, P, ru, sp, hH, hM, hO⟩ := hJ
  have hX := OKX.of hH
  refine Ct.imp (w_side ⟨_, hH.1⟩ hO (R := fun k9 v9 G1 => k9 = (xk2 (okI 2 x) (okN 0 (nI 4) w)) ∧ v9 = (sideV T (ix x) w) ∧ HI G1 (eB E) tn f wb T sd D im Ti si Di nw rm P ru sp ∧ FH G G1 (eB E)) (fun k9 v9 G1 h => h.2.2.2.2 _ (by omega)) (Ct.imp (c_side hH) (fun o G1 h => ⟨_, _, xk2_le, h.1, rfl, rfl, h.2.1, h.2.2⟩))) ?_
  rintro o G2 ⟨k9, v9, G1, hk, ho, ⟨rfl, rfl, hH1, hF⟩, h0, h1⟩
  exact mkW (Nat.le_of_ble_eq_true rfl) hM hO hk ho hF h0 h1 hH1 (fun G9 hM9 => q_side hM9 hX)
theorem q_steps {x y : Int32} (hM : HM G V th wb tn f T sd D im Ti si Di nw rm P) (hX : OKX tn f T D im Ti Di nw rm P) : Ci E 3 kX8_steps [.ref V, .int x, .int y] G (fun r G3 => r = (if (xk1 (okI 6 x ∧ okI 6 y)) = 0 then (nI (stN (ix x) (ix y))) else nI 0) ∧ HM G3 V (nI (xk1 (okI 6 x ∧ okI 6 y))) wb tn f T sd D im Ti si Di nw rm P ∧ FV G G3 V) := by
  obtain ⟨⟨ba, en, at_, dp, io, hm_, we, sh, so, h0⟩, ⟨mm, h1, hR, hL9, ac, h4, hA⟩, ⟨kk, h2, hK⟩, ⟨a3, h3⟩, h5, h6, h7, h8⟩ := id hM
  obtain ⟨hB, hD, ⟨htn, him, hnw, hrm⟩, hf, hBi, hPB⟩ := hX
  refine Ct.imp (m_steps h0 h1 hR hB) ?_
  rintro o G3 ⟨rfl, rfl⟩
  exact ⟨_, rfl, rfl, hM.ob ⟨_, _, _, _, _, _, _, _, _, rfl⟩, FV.rf.gs (by omega) (by omega)⟩
theorem pw_steps {x y : Int32} (hJ : JJ E G) : Ct E 11 2 12 kL_steps [.ref (eB E), .int x, .int y, .ref (eB E + 255)] G (WPost E kX8_steps [.int x, .int y]) := by
  obtain ⟨th, tn, f, wb, T, sd, D, im, Ti, si, Di, nw, rm, P, ru, sp, hH, hM, hO⟩ := hJ
  have hX := OKX.of hH
  refine Ct.imp (w_steps ⟨_, hH.1⟩ hO (R := fun k9 v9 G1 => k9 = (xk1 (okI 6 x ∧ okI 6 y)) ∧ v9 = (nI (stN (ix x) (ix y))) ∧ HI G1 (eB E) tn f wb T sd D im Ti si Di nw rm P ru sp ∧ FH G G1 (eB E)) (fun k9 v9 G1 h => h.2.2.2.2 _ (by omega)) (Ct.imp (c_stepsP hH) (fun o G1 h => ⟨_, _, xk1_le, h.1, rfl, rfl, h.2.1, h.2.2⟩))) ?_
  rintro o G2 ⟨k9, v9, G1, hk, ho, ⟨rfl, rfl, hH1, hF⟩, h0, h1⟩
  exact mkW (Nat.le_of_ble_eq_true rfl) hM hO hk ho hF h0 h1 hH1 (fun G9 hM9 => q_steps hM9 hX)
theorem q_saves {x : Int32} {mu : Nat} (hmu : mu < 2 ^ 30) (hM : HM G V th wb tn f T sd D im Ti si Di nw rm P) (hX : OKX tn f T D im Ti Di nw rm P) : Ci E 4 kX8_saves [.ref V, .int x, .int (nI mu)] G (fun r G3 => r = (if (xk1 (okN 0 (nI 99) x)) = 0 then (nI (if mu = 0 then (svR T (ix x)).1 else (svR T (ix x)).2)) else nI 0) ∧ HM G3 V (nI (xk1 (okN 0 (nI 99) x))) wb tn f T sd D im Ti si Di nw rm P ∧ FV G G3 V) := by
  obtain ⟨⟨ba, en, at_, dp, io, hm_, we, sh, so, h0⟩, ⟨mm, h1, hR, hL9, ac, h4, hA⟩, ⟨kk, h2, hK⟩, ⟨a3, h3⟩, h5, h6, h7, h8⟩ := id hM
  obtain ⟨hB, hD, ⟨htn, him, hnw, hrm⟩, hf, hBi, hPB⟩ := hX
  refine Ct.imp (m_saves h0 h1 hR hB hmu) ?_
  rintro o G3 ⟨rfl, rfl⟩
  exact ⟨_, rfl, rfl, hM.ob ⟨_, _, _, _, _, _, _, _, _, rfl⟩, FV.rf.gs (by omega) (by omega)⟩
theorem pw_saves {x : Int32} {mu : Nat} (hmu : mu < 2 ^ 30) (hJ : JJ E G) : Ct E 11 1 6 kL_saves [.ref (eB E), .int x, .int (nI mu), .ref (eB E + 255)] G (WPost E kX8_saves [.int x, .int (nI mu)]) := by
  obtain ⟨th, tn, f, wb, T, sd, D, im, Ti, si, Di, nw, rm, P, ru, sp, hH, hM, hO⟩ := hJ
  have hX := OKX.of hH
  refine Ct.imp (w_saves ⟨_, hH.1⟩ hO (R := fun k9 v9 G1 => k9 = (xk1 (okN 0 (nI 99) x)) ∧ v9 = (nI (if mu = 0 then (svR T (ix x)).1 else (svR T (ix x)).2)) ∧ HI G1 (eB E) tn f wb T sd D im Ti si Di nw rm P ru sp ∧ FH G G1 (eB E)) (fun k9 v9 G1 h => h.2.2.2.2 _ (by omega)) (Ct.imp (c_saves hH hmu) (fun o G1 h => ⟨_, _, xk1_le, h.1, rfl, rfl, h.2.1, h.2.2⟩))) ?_
  rintro o G2 ⟨k9, v9, G1, hk, ho, ⟨rfl, rfl, hH1, hF⟩, h0, h1⟩
  exact mkW (Nat.le_of_ble_eq_true rfl) hM hO hk ho hF h0 h1 hH1 (fun G9 hM9 => q_saves hmu hM9 hX)
theorem q_calm {x k : Int32} (hM : HM G V th wb tn f T sd D im Ti si Di nw rm P) (hX : OKX tn f T D im Ti Di nw rm P) : Ci E 2 kX8_calm [.ref V, .int x, .int k] G (fun r G3 => r = (if (xk1 (okN 0 (nI 6) x)) = 0 then (calmV T (ix x) k) else nI 0) ∧ HM G3 V (nI (xk1 (okN 0 (nI 6) x))) wb tn f T sd D im Ti si Di nw rm P ∧ FV G G3 V) := by
  obtain ⟨⟨ba, en, at_, dp, io, hm_, we, sh, so, h0⟩, ⟨mm, h1, hR, hL9, ac, h4, hA⟩, ⟨kk, h2, hK⟩, ⟨a3, h3⟩, h5, h6, h7, h8⟩ := id hM
  obtain ⟨hB, hD, ⟨htn, him, hnw, hrm⟩, hf, hBi, hPB⟩ := hX
  refine Ct.imp (m_calm h0 h1 hR hB) ?_
  rintro o G3 ⟨rfl, rfl⟩
  exact ⟨_, rfl, rfl, hM.ob ⟨_, _, _, _, _, _, _, _, _, rfl⟩, FV.rf.gs (by omega) (by omega)⟩
theorem pw_calm {x k : Int32} (hJ : JJ E G) : Ct E 11 1 6 kL_calm [.ref (eB E), .int x, .int k, .ref (eB E + 255)] G (WPost E kX8_calm [.int x, .int k]) := by
  obtain ⟨th, tn, f, wb, T, sd, D, im, Ti, si, Di, nw, rm, P, ru, sp, hH, hM, hO⟩ := hJ
  have hX := OKX.of hH
  refine Ct.imp (w_calm ⟨_, hH.1⟩ hO (R := fun k9 v9 G1 => k9 = (xk1 (okN 0 (nI 6) x)) ∧ v9 = (calmV T (ix x) k) ∧ HI G1 (eB E) tn f wb T sd D im Ti si Di nw rm P ru sp ∧ FH G G1 (eB E)) (fun k9 v9 G1 h => h.2.2.2.2 _ (by omega)) (Ct.imp (c_calm hH) (fun o G1 h => ⟨_, _, xk1_le, h.1, rfl, rfl, h.2.1, h.2.2⟩))) ?_
  rintro o G2 ⟨k9, v9, G1, hk, ho, ⟨rfl, rfl, hH1, hF⟩, h0, h1⟩
  exact mkW (Nat.le_of_ble_eq_true rfl) hM hO hk ho hF h0 h1 hH1 (fun G9 hM9 => q_calm hM9 hX)
theorem q_boats {x y z : Int32} (hM : HM G V th wb tn f T sd D im Ti si Di nw rm P) (hX : OKX tn f T D im Ti Di nw rm P) : Ci E 2 kX8_boats [.ref V, .int x, .int y, .int z] G (fun r G3 => r = (if (xk1 (okN 0 (nI 999) x ∧ okN 1 (nI 99) y ∧ okN 1 (nI 9) z)) = 0 then (nI ((ix x + ix y * ix z - 1) / (ix y * ix z))) else nI 0) ∧ HM G3 V (nI (xk1 (okN 0 (nI 999) x ∧ okN 1 (nI 99) y ∧ okN 1 (nI 9) z))) wb tn f T sd D im Ti si Di nw rm P ∧ FV G G3 V) := by
  obtain ⟨⟨ba, en, at_, dp, io, hm_, we, sh, so, h0⟩, ⟨mm, h1, hR, hL9, ac, h4, hA⟩, ⟨kk, h2, hK⟩, ⟨a3, h3⟩, h5, h6, h7, h8⟩ := id hM
  obtain ⟨hB, hD, ⟨htn, him, hnw, hrm⟩, hf, hBi, hPB⟩ := hX
  refine Ct.imp (m_boats h0 h1 hR hB) ?_
  rintro o G3 ⟨rfl, rfl⟩
  exact ⟨_, rfl, rfl, hM.ob ⟨_, _, _, _, _, _, _, _, _, rfl⟩, FV.rf.gs (by omega) (by omega)⟩
theorem pw_boats {x y z : Int32} (hJ : JJ E G) : Ct E 11 3 18 kL_boats [.ref (eB E), .int x, .int y, .int z, .ref (eB E + 255)] G (WPost E kX8_boats [.int x, .int y, .int z]) := by
  obtain ⟨th, tn, f, wb, T, sd, D, im, Ti, si, Di, nw, rm, P, ru, sp, hH, hM, hO⟩ := hJ
  have hX := OKX.of hH
  refine Ct.imp (w_boats ⟨_, hH.1⟩ hO (R := fun k9 v9 G1 => k9 = (xk1 (okN 0 (nI 999) x ∧ okN 1 (nI 99) y ∧ okN 1 (nI 9) z)) ∧ v9 = (nI ((ix x + ix y * ix z - 1) / (ix y * ix z))) ∧ HI G1 (eB E) tn f wb T sd D im Ti si Di nw rm P ru sp ∧ FH G G1 (eB E)) (fun k9 v9 G1 h => h.2.2.2.2 _ (by omega)) (Ct.imp (c_boats hH) (fun o G1 h => ⟨_, _, xk1_le, h.1, rfl, rfl, h.2.1, h.2.2⟩))) ?_
  rintro o G2 ⟨k9, v9, G1, hk, ho, ⟨rfl, rfl, hH1, hF⟩, h0, h1⟩
  exact mkW (Nat.le_of_ble_eq_true rfl) hM hO hk ho hF h0 h1 hH1 (fun G9 hM9 => q_boats hM9 hX)
theorem q_lighten {x : Int32} (hM : HM G V th wb tn f T sd D im Ti si Di nw rm P) (hX : OKX tn f T D im Ti Di nw rm P) : Ci E 5 kX8_lighten [.ref V, .int x] G (fun r G3 => r = (if (xk1 (okN 0 (nI 9999) x)) = 0 then ((ltR T (ix x) (1 * 2 ^ T 12 0)).1) else nI 0) ∧ HM G3 V (nI (xk1 (okN 0 (nI 9999) x))) wb tn f T sd D im Ti si Di nw rm P ∧ FV G G3 V) := by
  obtain ⟨⟨ba, en, at_, dp, io, hm_, we, sh, so, h0⟩, ⟨mm, h1, hR, hL9, ac, h4, hA⟩, ⟨kk, h2, hK⟩, ⟨a3, h3⟩, h5, h6, h7, h8⟩ := id hM
  obtain ⟨hB, hD, ⟨htn, him, hnw, hrm⟩, hf, hBi, hPB⟩ := hX
  refine Ct.imp (m_lighten h0 h1 hR hB) ?_
  rintro o G3 ⟨rfl, rfl⟩
  exact ⟨_, rfl, rfl, hM.ob ⟨_, _, _, _, _, _, _, _, _, rfl⟩, FV.rf.gs (by omega) (by omega)⟩
theorem pw_lighten {x : Int32} (hJ : JJ E G) : Ct E 11 1 6 kL_lighten [.ref (eB E), .int x, .ref (eB E + 255)] G (WPost E kX8_lighten [.int x]) := by
  obtain ⟨th, tn, f, wb, T, sd, D, im, Ti, si, Di, nw, rm, P, ru, sp, hH, hM, hO⟩ := hJ
  have hX := OKX.of hH
  refine Ct.imp (w_lighten ⟨_, hH.1⟩ hO (R := fun k9 v9 G1 => k9 = (xk1 (okN 0 (nI 9999) x)) ∧ v9 = ((ltR T (ix x) (1 * 2 ^ T 12 0)).1) ∧ HI G1 (eB E) tn f wb T sd D im Ti si Di nw rm P ru sp ∧ FH G G1 (eB E)) (fun k9 v9 G1 h => h.2.2.2.2 _ (by omega)) (Ct.imp (c_lighten hH) (fun o G1 h => ⟨_, _, xk1_le, h.1, rfl, rfl, h.2.1, h.2.2⟩))) ?_
  rintro o G2 ⟨k9, v9, G1, hk, ho, ⟨rfl, rfl, hH1, hF⟩, h0, h1⟩
  exact mkW (Nat.le_of_ble_eq_true rfl) hM hO hk ho hF h0 h1 hH1 (fun G9 hM9 => q_lighten hM9 hX)
theorem q_led {x : Int32} {ow : Nat} (how : ow < 2 ^ 30) (hM : HM G V th wb tn f T sd D im Ti si Di nw rm P) (hX : OKX tn f T D im Ti Di nw rm P) : Ci E 2 kX8_led [.ref V, .int x, .int (nI ow)] G (fun r G3 => r = (if (xk1 (okI 2 x)) = 0 then (nI (if ow = 0 then ledN T (ix x) (T 12 6) else ledM T (ix x) (T 12 6))) else nI 0) ∧ HM G3 V (nI (xk1 (okI 2 x))) wb tn f T sd D im Ti si Di nw rm P ∧ FV G G3 V) := by
  obtain ⟨⟨ba, en, at_, dp, io, hm_, we, sh, so, h0⟩, ⟨mm, h1, hR, hL9, ac, h4, hA⟩, ⟨kk, h2, hK⟩, ⟨a3, h3⟩, h5, h6, h7, h8⟩ := id hM
  obtain ⟨hB, hD, ⟨htn, him, hnw, hrm⟩, hf, hBi, hPB⟩ := hX
  refine Ct.imp (m_led h0 h1 hR hB how) ?_
  rintro o G3 ⟨rfl, rfl⟩
  exact ⟨_, rfl, rfl, hM.ob ⟨_, _, _, _, _, _, _, _, _, rfl⟩, FV.rf.gs (by omega) (by omega)⟩
theorem pw_led {x : Int32} {ow : Nat} (how : ow < 2 ^ 30) (hJ : JJ E G) : Ct E 11 1 6 kL_led [.ref (eB E), .int x, .int (nI ow), .ref (eB E + 255)] G (WPost E kX8_led [.int x, .int (nI ow)]) := by
  obtain ⟨th, tn, f, wb, T, sd, D, im, Ti, si, Di, nw, rm, P, ru, sp, hH, hM, hO⟩ := hJ
  have hX := OKX.of hH
  refine Ct.imp (w_led ⟨_, hH.1⟩ hO (R := fun k9 v9 G1 => k9 = (xk1 (okI 2 x)) ∧ v9 = (nI (if ow = 0 then ledN T (ix x) (T 12 6) else ledM T (ix x) (T 12 6))) ∧ HI G1 (eB E) tn f wb T sd D im Ti si Di nw rm P ru sp ∧ FH G G1 (eB E)) (fun k9 v9 G1 h => h.2.2.2.2 _ (by omega)) (Ct.imp (c_led hH how) (fun o G1 h => ⟨_, _, xk1_le, h.1, rfl, rfl, h.2.1, h.2.2⟩))) ?_
  rintro o G2 ⟨k9, v9, G1, hk, ho, ⟨rfl, rfl, hH1, hF⟩, h0, h1⟩
  exact mkW (Nat.le_of_ble_eq_true rfl) hM hO hk ho hF h0 h1 hH1 (fun G9 hM9 => q_led how hM9 hX)
theorem q_log {x w : Int32} (hM : HM G V th wb tn f T sd D im Ti si Di nw rm P) (hX : OKX tn f T D im Ti Di nw rm P) : Ci E 2 kX8_log [.ref V, .int x, .int w] G (fun r G3 => r = (if (xk1 (okN 0 (nI 3) w)) = 0 then (logV T x w) else nI 0) ∧ HM G3 V (nI (xk1 (okN 0 (nI 3) w))) wb tn f T sd D im Ti si Di nw rm P ∧ FV G G3 V) := by
  obtain ⟨⟨ba, en, at_, dp, io, hm_, we, sh, so, h0⟩, ⟨mm, h1, hR, hL9, ac, h4, hA⟩, ⟨kk, h2, hK⟩, ⟨a3, h3⟩, h5, h6, h7, h8⟩ := id hM
  obtain ⟨hB, hD, ⟨htn, him, hnw, hrm⟩, hf, hBi, hPB⟩ := hX
  refine Ct.imp (m_log h0 h1 hR hB) ?_
  rintro o G3 ⟨rfl, rfl⟩
  exact ⟨_, rfl, rfl, hM.ob ⟨_, _, _, _, _, _, _, _, _, rfl⟩, FV.rf.gs (by omega) (by omega)⟩
theorem pw_log {x w : Int32} (hJ : JJ E G) : Ct E 11 1 6 kL_log [.ref (eB E), .int x, .int w, .ref (eB E + 255)] G (WPost E kX8_log [.int x, .int w]) := by
  obtain ⟨th, tn, f, wb, T, sd, D, im, Ti, si, Di, nw, rm, P, ru, sp, hH, hM, hO⟩ := hJ
  have hX := OKX.of hH
  refine Ct.imp (w_log ⟨_, hH.1⟩ hO (R := fun k9 v9 G1 => k9 = (xk1 (okN 0 (nI 3) w)) ∧ v9 = (logV T x w) ∧ HI G1 (eB E) tn f wb T sd D im Ti si Di nw rm P ru sp ∧ FH G G1 (eB E)) (fun k9 v9 G1 h => h.2.2.2.2 _ (by omega)) (Ct.imp (c_log hH) (fun o G1 h => ⟨_, _, xk1_le, h.1, rfl, rfl, h.2.1, h.2.2⟩))) ?_
  rintro o G2 ⟨k9, v9, G1, hk, ho, ⟨rfl, rfl, hH1, hF⟩, h0, h1⟩
  exact mkW (Nat.le_of_ble_eq_true rfl) hM hO hk ho hF h0 h1 hH1 (fun G9 hM9 => q_log hM9 hX)
theorem q_does {x w : Int32} (hM : HM G V th wb tn f T sd D im Ti si Di nw rm P) (hX : OKX tn f T D im Ti Di nw rm P) : Ci E 57 kX8_does [.ref V, .int x, .int w] G (fun r G3 => r = (if (xk2 (okI (T 12 0) x) (okN 0 (nI 2) w)) = 0 then (nI (tlN D T (ix x) D.2.1 (ix w))) else nI 0) ∧ HM G3 V (nI (xk2 (okI (T 12 0) x) (okN 0 (nI 2) w))) wb tn f T sd D im Ti si Di nw rm P ∧ FV G G3 V) := by
  obtain ⟨⟨ba, en, at_, dp, io, hm_, we, sh, so, h0⟩, ⟨mm, h1, hR, hL9, ac, h4, hA⟩, ⟨kk, h2, hK⟩, ⟨a3, h3⟩, h5, h6, h7, h8⟩ := id hM
  obtain ⟨hB, hD, ⟨htn, him, hnw, hrm⟩, hf, hBi, hPB⟩ := hX
  refine Ci.imp (m_does h0 h1 hR hB (ask_ok hD) hD hL9 ⟨_, h3⟩ h6) ?_
  rintro r G3 ⟨hr, ha, hb⟩
  refine ⟨hr, ?_⟩
  by_cases c : (xk2 (okI (T 12 0) x) (okN 0 (nI 2) w)) = 0
  · rw [c]
    exact hM.ahp (ha c)
  · rw [hb c]
    exact ⟨hM.ob ⟨_, _, _, _, _, _, _, _, _, rfl⟩, FV.rf.gs (by omega) (by omega)⟩
theorem pw_does {x w : Int32} (hJ : JJ E G) : Ct E 11 2 12 kL_does [.ref (eB E), .int x, .int w, .ref (eB E + 255)] G (WPost E kX8_does [.int x, .int w]) := by
  obtain ⟨th, tn, f, wb, T, sd, D, im, Ti, si, Di, nw, rm, P, ru, sp, hH, hM, hO⟩ := hJ
  have hX := OKX.of hH
  refine Ct.imp (w_does ⟨_, hH.1⟩ hO (R := fun k9 v9 G1 => k9 = (xk2 (okI (T 12 0) x) (okN 0 (nI 2) w)) ∧ v9 = (nI (tlN D T (ix x) D.2.1 (ix w))) ∧ HI G1 (eB E) tn f wb T sd D im Ti si Di nw rm P ru sp ∧ FH G G1 (eB E)) (fun k9 v9 G1 h => h.2.2.2.2 _ (by omega)) (Ct.imp (c_does hH) (fun o G1 h => ⟨_, _, xk2_le, h.1, rfl, rfl, h.2.1, h.2.2⟩))) ?_
  rintro o G2 ⟨k9, v9, G1, hk, ho, ⟨rfl, rfl, hH1, hF⟩, h0, h1⟩
  exact mkW (Nat.le_of_ble_eq_true rfl) hM hO hk ho hF h0 h1 hH1 (fun G9 hM9 => q_does hM9 hX)
theorem q_ahead {x y w : Int32} (hM : HM G V th wb tn f T sd D im Ti si Di nw rm P) (hX : OKX tn f T D im Ti Di nw rm P) : Ci E 59 kX8_ahead [.ref V, .int x, .int y, .int w] G (fun r G3 => r = (if (xk3 (okI (T 12 0) x) (okN 0 (nI 400) y) (okN 0 (nI 2) w)) = 0 then (aheadV (adv D 0 T sd (ix y)).1 (ix x) w) else nI 0) ∧ HM G3 V (nI (xk3 (okI (T 12 0) x) (okN 0 (nI 400) y) (okN 0 (nI 2) w))) wb tn f T sd D im Ti si Di nw rm P ∧ FV G G3 V) := by
  obtain ⟨⟨ba, en, at_, dp, io, hm_, we, sh, so, h0⟩, ⟨mm, h1, hR, hL9, ac, h4, hA⟩, ⟨kk, h2, hK⟩, ⟨a3, h3⟩, h5, h6, h7, h8⟩ := id hM
  obtain ⟨hB, hD, ⟨htn, him, hnw, hrm⟩, hf, hBi, hPB⟩ := hX
  refine Ci.imp (m_ahead h0 h1 hR hB (ask_ok hD) hD hL9 ⟨_, h3⟩ h6) ?_
  rintro r G3 ⟨hr, ha, hb⟩
  refine ⟨hr, ?_⟩
  by_cases c : (xk3 (okI (T 12 0) x) (okN 0 (nI 400) y) (okN 0 (nI 2) w)) = 0
  · rw [c]
    exact hM.ahp (ha c)
  · rw [hb c]
    exact ⟨hM.ob ⟨_, _, _, _, _, _, _, _, _, rfl⟩, FV.rf.gs (by omega) (by omega)⟩
theorem pw_ahead {x y w : Int32} (hJ : JJ E G) : Ct E 11 3 18 kL_ahead [.ref (eB E), .int x, .int y, .int w, .ref (eB E + 255)] G (WPost E kX8_ahead [.int x, .int y, .int w]) := by
  obtain ⟨th, tn, f, wb, T, sd, D, im, Ti, si, Di, nw, rm, P, ru, sp, hH, hM, hO⟩ := hJ
  have hX := OKX.of hH
  refine Ct.imp (w_ahead ⟨_, hH.1⟩ hO (R := fun k9 v9 G1 => k9 = (xk3 (okI (T 12 0) x) (okN 0 (nI 400) y) (okN 0 (nI 2) w)) ∧ v9 = (aheadV (adv D 0 T sd (ix y)).1 (ix x) w) ∧ HI G1 (eB E) tn f wb T sd D im Ti si Di nw rm P ru sp ∧ FH G G1 (eB E)) (fun k9 v9 G1 h => h.2.2.2.2 _ (by omega)) (Ct.imp (c_ahead hH) (fun o G1 h => ⟨_, _, xk3_le, h.1, rfl, rfl, h.2.1, h.2.2⟩))) ?_
  rintro o G2 ⟨k9, v9, G1, hk, ho, ⟨rfl, rfl, hH1, hF⟩, h0, h1⟩
  exact mkW (Nat.le_of_ble_eq_true rfl) hM hO hk ho hF h0 h1 hH1 (fun G9 hM9 => q_ahead hM9 hX)
theorem q_worst {x : Int32} (hM : HM G V th wb tn f T sd D im Ti si Di nw rm P) (hX : OKX tn f T D im Ti Di nw rm P) : Ci E 59 kX8_worst [.ref V, .int x] G (fun r G3 => r = (if (xk1 (okN 0 (nI 400) x)) = 0 then (wstV (adv D 0 T sd (ix x)).1 (T 12 0)) else nI 0) ∧ HM G3 V (nI (xk1 (okN 0 (nI 400) x))) wb tn f T sd D im Ti si Di nw rm P ∧ FV G G3 V) := by
  obtain ⟨⟨ba, en, at_, dp, io, hm_, we, sh, so, h0⟩, ⟨mm, h1, hR, hL9, ac, h4, hA⟩, ⟨kk, h2, hK⟩, ⟨a3, h3⟩, h5, h6, h7, h8⟩ := id hM
  obtain ⟨hB, hD, ⟨htn, him, hnw, hrm⟩, hf, hBi, hPB⟩ := hX
  refine Ci.imp (m_worst h0 h1 hR hB (ask_ok hD) hD hL9 ⟨_, h3⟩ h6) ?_
  rintro r G3 ⟨hr, ha, hb⟩
  refine ⟨hr, ?_⟩
  by_cases c : (xk1 (okN 0 (nI 400) x)) = 0
  · rw [c]
    exact hM.ahp (ha c)
  · rw [hb c]
    exact ⟨hM.ob ⟨_, _, _, _, _, _, _, _, _, rfl⟩, FV.rf.gs (by omega) (by omega)⟩
theorem pw_worst {x : Int32} (hJ : JJ E G) : Ct E 11 1 6 kL_worst [.ref (eB E), .int x, .ref (eB E + 255)] G (WPost E kX8_worst [.int x]) := by
  obtain ⟨th, tn, f, wb, T, sd, D, im, Ti, si, Di, nw, rm, P, ru, sp, hH, hM, hO⟩ := hJ
  have hX := OKX.of hH
  refine Ct.imp (w_worst ⟨_, hH.1⟩ hO (R := fun k9 v9 G1 => k9 = (xk1 (okN 0 (nI 400) x)) ∧ v9 = (wstV (adv D 0 T sd (ix x)).1 (T 12 0)) ∧ HI G1 (eB E) tn f wb T sd D im Ti si Di nw rm P ru sp ∧ FH G G1 (eB E)) (fun k9 v9 G1 h => h.2.2.2.2 _ (by omega)) (Ct.imp (c_worst hH) (fun o G1 h => ⟨_, _, xk1_le, h.1, rfl, rfl, h.2.1, h.2.2⟩))) ?_
  rintro o G2 ⟨k9, v9, G1, hk, ho, ⟨rfl, rfl, hH1, hF⟩, h0, h1⟩
  exact mkW (Nat.le_of_ble_eq_true rfl) hM hO hk ho hF h0 h1 hH1 (fun G9 hM9 => q_worst hM9 hX)
theorem q_crowd {x : Int32} (hM : HM G V th wb tn f T sd D im Ti si Di nw rm P) (hX : OKX tn f T D im Ti Di nw rm P) : Ci E 59 kX8_crowd [.ref V, .int x] G (fun r G3 => r = (if (xk1 (okN 0 (nI 400) x)) = 0 then (nI (crwN (adv D 0 T sd (ix x)).1 6)) else nI 0) ∧ HM G3 V (nI (xk1 (okN 0 (nI 400) x))) wb tn f T sd D im Ti si Di nw rm P ∧ FV G G3 V) := by
  obtain ⟨⟨ba, en, at_, dp, io, hm_, we, sh, so, h0⟩, ⟨mm, h1, hR, hL9, ac, h4, hA⟩, ⟨kk, h2, hK⟩, ⟨a3, h3⟩, h5, h6, h7, h8⟩ := id hM
  obtain ⟨hB, hD, ⟨htn, him, hnw, hrm⟩, hf, hBi, hPB⟩ := hX
  refine Ci.imp (m_crowd h0 h1 hR hB (ask_ok hD) hD hL9 ⟨_, h3⟩ h6) ?_
  rintro r G3 ⟨hr, ha, hb⟩
  refine ⟨hr, ?_⟩
  by_cases c : (xk1 (okN 0 (nI 400) x)) = 0
  · rw [c]
    exact hM.ahp (ha c)
  · rw [hb c]
    exact ⟨hM.ob ⟨_, _, _, _, _, _, _, _, _, rfl⟩, FV.rf.gs (by omega) (by omega)⟩
theorem pw_crowd {x : Int32} (hJ : JJ E G) : Ct E 11 1 6 kL_crowd [.ref (eB E), .int x, .ref (eB E + 255)] G (WPost E kX8_crowd [.int x]) := by
  obtain ⟨th, tn, f, wb, T, sd, D, im, Ti, si, Di, nw, rm, P, ru, sp, hH, hM, hO⟩ := hJ
  have hX := OKX.of hH
  refine Ct.imp (w_crowd ⟨_, hH.1⟩ hO (R := fun k9 v9 G1 => k9 = (xk1 (okN 0 (nI 400) x)) ∧ v9 = (nI (crwN (adv D 0 T sd (ix x)).1 6)) ∧ HI G1 (eB E) tn f wb T sd D im Ti si Di nw rm P ru sp ∧ FH G G1 (eB E)) (fun k9 v9 G1 h => h.2.2.2.2 _ (by omega)) (Ct.imp (c_crowd hH) (fun o G1 h => ⟨_, _, xk1_le, h.1, rfl, rfl, h.2.1, h.2.2⟩))) ?_
  rintro o G2 ⟨k9, v9, G1, hk, ho, ⟨rfl, rfl, hH1, hF⟩, h0, h1⟩
  exact mkW (Nat.le_of_ble_eq_true rfl) hM hO hk ho hF h0 h1 hH1 (fun G9 hM9 => q_crowd hM9 hX)
theorem q_wearing {x : Int32} (hM : HM G V th wb tn f T sd D im Ti si Di nw rm P) (hX : OKX tn f T D im Ti Di nw rm P) : Ci E 59 kX8_wearing [.ref V, .int x] G (fun r G3 => r = (if (xk1 (okI (T 12 0) x)) = 0 then (nI ((adv D 0 T sd (leftN T)).1 2 (ix x)) - nI (T 2 (ix x))) else nI 0) ∧ HM G3 V (nI (xk1 (okI (T 12 0) x))) wb tn f T sd D im Ti si Di nw rm P ∧ FV G G3 V) := by
  obtain ⟨⟨ba, en, at_, dp, io, hm_, we, sh, so, h0⟩, ⟨mm, h1, hR, hL9, ac, h4, hA⟩, ⟨kk, h2, hK⟩, ⟨a3, h3⟩, h5, h6, h7, h8⟩ := id hM
  obtain ⟨hB, hD, ⟨htn, him, hnw, hrm⟩, hf, hBi, hPB⟩ := hX
  refine Ci.imp (m_wearing h0 h1 hR hB (ask_ok hD) hD hL9 ⟨_, h3⟩ h6) ?_
  rintro r G3 ⟨hr, ha, hb⟩
  refine ⟨hr, ?_⟩
  by_cases c : (xk1 (okI (T 12 0) x)) = 0
  · rw [c]
    exact hM.ahp (ha c)
  · rw [hb c]
    exact ⟨hM.ob ⟨_, _, _, _, _, _, _, _, _, rfl⟩, FV.rf.gs (by omega) (by omega)⟩
theorem pw_wearing {x : Int32} (hJ : JJ E G) : Ct E 11 1 6 kL_wearing [.ref (eB E), .int x, .ref (eB E + 255)] G (WPost E kX8_wearing [.int x]) := by
  obtain ⟨th, tn, f, wb, T, sd, D, im, Ti, si, Di, nw, rm, P, ru, sp, hH, hM, hO⟩ := hJ
  have hX := OKX.of hH
  refine Ct.imp (w_wearing ⟨_, hH.1⟩ hO (R := fun k9 v9 G1 => k9 = (xk1 (okI (T 12 0) x)) ∧ v9 = (nI ((adv D 0 T sd (leftN T)).1 2 (ix x)) - nI (T 2 (ix x))) ∧ HI G1 (eB E) tn f wb T sd D im Ti si Di nw rm P ru sp ∧ FH G G1 (eB E)) (fun k9 v9 G1 h => h.2.2.2.2 _ (by omega)) (Ct.imp (c_wearing hH) (fun o G1 h => ⟨_, _, xk1_le, h.1, rfl, rfl, h.2.1, h.2.2⟩))) ?_
  rintro o G2 ⟨k9, v9, G1, hk, ho, ⟨rfl, rfl, hH1, hF⟩, h0, h1⟩
  exact mkW (Nat.le_of_ble_eq_true rfl) hM hO hk ho hF h0 h1 hH1 (fun G9 hM9 => q_wearing hM9 hX)
theorem q_meets {x y : Int32} (hM : HM G V th wb tn f T sd D im Ti si Di nw rm P) (hX : OKX tn f T D im Ti Di nw rm P) : Ci E 59 kX8_meets [.ref V, .int x, .int y] G (fun r G3 => r = (if (xk2 (okI (T 12 0) x ∧ okI (T 12 0) y) (¬ x = y)) = 0 then (mtV D T sd (ix x) (ix y)) else nI 0) ∧ HM G3 V (nI (xk2 (okI (T 12 0) x ∧ okI (T 12 0) y) (¬ x = y))) wb tn f T sd D im Ti si Di nw rm P ∧ FV G G3 V) := by
  obtain ⟨⟨ba, en, at_, dp, io, hm_, we, sh, so, h0⟩, ⟨mm, h1, hR, hL9, ac, h4, hA⟩, ⟨kk, h2, hK⟩, ⟨a3, h3⟩, h5, h6, h7, h8⟩ := id hM
  obtain ⟨hB, hD, ⟨htn, him, hnw, hrm⟩, hf, hBi, hPB⟩ := hX
  refine Ci.imp (m_meets h0 h1 hR hB (ask_ok hD) hD hL9 ⟨_, h3⟩ h6) ?_
  rintro r G3 ⟨hr, ha, hb⟩
  refine ⟨hr, ?_⟩
  by_cases c : (xk2 (okI (T 12 0) x ∧ okI (T 12 0) y) (¬ x = y)) = 0
  · rw [c]
    exact hM.ahp (ha c)
  · rw [hb c]
    exact ⟨hM.ob ⟨_, _, _, _, _, _, _, _, _, rfl⟩, FV.rf.gs (by omega) (by omega)⟩
theorem pw_meets {x y : Int32} (hJ : JJ E G) : Ct E 11 3 18 kL_meets [.ref (eB E), .int x, .int y, .ref (eB E + 255)] G (WPost E kX8_meets [.int x, .int y]) := by
  obtain ⟨th, tn, f, wb, T, sd, D, im, Ti, si, Di, nw, rm, P, ru, sp, hH, hM, hO⟩ := hJ
  have hX := OKX.of hH
  refine Ct.imp (w_meets ⟨_, hH.1⟩ hO (R := fun k9 v9 G1 => k9 = (xk2 (okI (T 12 0) x ∧ okI (T 12 0) y) (¬ x = y)) ∧ v9 = (mtV D T sd (ix x) (ix y)) ∧ HI G1 (eB E) tn f wb T sd D im Ti si Di nw rm P ru sp ∧ FH G G1 (eB E)) (fun k9 v9 G1 h => h.2.2.2.2 _ (by omega)) (Ct.imp (c_meets hH) (fun o G1 h => ⟨_, _, xk2_le, h.1, rfl, rfl, h.2.1, h.2.2⟩))) ?_
  rintro o G2 ⟨k9, v9, G1, hk, ho, ⟨rfl, rfl, hH1, hF⟩, h0, h1⟩
  exact mkW (Nat.le_of_ble_eq_true rfl) hM hO hk ho hF h0 h1 hH1 (fun G9 hM9 => q_meets hM9 hX)
theorem q_trial {x : Int32} {ow : Nat} (how : ow < 2 ^ 30) (hM : HM G V th wb tn f T sd D im Ti si Di nw rm P) (hX : OKX tn f T D im Ti Di nw rm P) : Ci E 59 kX8_trial [.ref V, .int x, .int (nI ow)] G (fun r G3 => r = (if (xk1 (okN 0 (nI 400) x)) = 0 then (nI (if ow = 0 then sumN (T 12 0) ((adv D 1 T sd (ix x)).1 2) else sumN 2 ((adv D 1 T sd (ix x)).1 10))) else nI 0) ∧ HM G3 V (nI (xk1 (okN 0 (nI 400) x))) wb tn f T sd D im Ti si Di nw rm P ∧ FV G G3 V) := by
  obtain ⟨⟨ba, en, at_, dp, io, hm_, we, sh, so, h0⟩, ⟨mm, h1, hR, hL9, ac, h4, hA⟩, ⟨kk, h2, hK⟩, ⟨a3, h3⟩, h5, h6, h7, h8⟩ := id hM
  obtain ⟨hB, hD, ⟨htn, him, hnw, hrm⟩, hf, hBi, hPB⟩ := hX
  refine Ci.imp (m_trial h0 h1 hR hB how (ask_ok hD) hD hL9 ⟨_, h3⟩ h6) ?_
  rintro r G3 ⟨hr, ha, hb⟩
  refine ⟨hr, ?_⟩
  by_cases c : (xk1 (okN 0 (nI 400) x)) = 0
  · rw [c]
    exact hM.ahp (ha c)
  · rw [hb c]
    exact ⟨hM.ob ⟨_, _, _, _, _, _, _, _, _, rfl⟩, FV.rf.gs (by omega) (by omega)⟩
theorem pw_trial {x : Int32} {ow : Nat} (how : ow < 2 ^ 30) (hJ : JJ E G) : Ct E 11 1 6 kL_trial [.ref (eB E), .int x, .int (nI ow), .ref (eB E + 255)] G (WPost E kX8_trial [.int x, .int (nI ow)]) := by
  obtain ⟨th, tn, f, wb, T, sd, D, im, Ti, si, Di, nw, rm, P, ru, sp, hH, hM, hO⟩ := hJ
  have hX := OKX.of hH
  refine Ct.imp (w_trial ⟨_, hH.1⟩ hO (R := fun k9 v9 G1 => k9 = (xk1 (okN 0 (nI 400) x)) ∧ v9 = (nI (if ow = 0 then sumN (T 12 0) ((adv D 1 T sd (ix x)).1 2) else sumN 2 ((adv D 1 T sd (ix x)).1 10))) ∧ HI G1 (eB E) tn f wb T sd D im Ti si Di nw rm P ru sp ∧ FH G G1 (eB E)) (fun k9 v9 G1 h => h.2.2.2.2 _ (by omega)) (Ct.imp (c_trial how hH) (fun o G1 h => ⟨_, _, xk1_le, h.1, rfl, rfl, h.2.1, h.2.2⟩))) ?_
  rintro o G2 ⟨k9, v9, G1, hk, ho, ⟨rfl, rfl, hH1, hF⟩, h0, h1⟩
  exact mkW (Nat.le_of_ble_eq_true rfl) hM hO hk ho hF h0 h1 hH1 (fun G9 hM9 => q_trial how hM9 hX)
theorem q_span {x : Int32} {mo : Nat} (hmo : mo < 2 ^ 30) (hM : HM G V th wb tn f T sd D im Ti si Di nw rm P) (hX : OKX tn f T D im Ti Di nw rm P) : Ci E 59 kX8_span [.ref V, .int x, .int (nI mo)] G (fun r G3 => r = (if (xk1 (okN 0 (nI 400) x)) = 0 then (nI (spnN D T (ix x) mo 5)) else nI 0) ∧ HM G3 V (nI (xk1 (okN 0 (nI 400) x))) wb tn f T sd D im Ti si Di nw rm P ∧ FV G G3 V) := by
  obtain ⟨⟨ba, en, at_, dp, io, hm_, we, sh, so, h0⟩, ⟨mm, h1, hR, hL9, ac, h4, hA⟩, ⟨kk, h2, hK⟩, ⟨a3, h3⟩, h5, h6, h7, h8⟩ := id hM
  obtain ⟨hB, hD, ⟨htn, him, hnw, hrm⟩, hf, hBi, hPB⟩ := hX
  refine Ci.imp (m_span h0 h1 hR hB hmo (ask_ok hD) hD hL9 ⟨_, h3⟩ h6) ?_
  rintro r G3 ⟨hr, ha, hb⟩
  refine ⟨hr, ?_⟩
  by_cases c : (xk1 (okN 0 (nI 400) x)) = 0
  · rw [c]
    exact hM.ahp (ha c)
  · rw [hb c]
    exact ⟨hM.ob ⟨_, _, _, _, _, _, _, _, _, rfl⟩, FV.rf.gs (by omega) (by omega)⟩
theorem pw_span {x : Int32} {mo : Nat} (hmo : mo < 2 ^ 30) (hJ : JJ E G) : Ct E 11 1 6 kL_span [.ref (eB E), .int x, .int (nI mo), .ref (eB E + 255)] G (WPost E kX8_span [.int x, .int (nI mo)]) := by
  obtain ⟨th, tn, f, wb, T, sd, D, im, Ti, si, Di, nw, rm, P, ru, sp, hH, hM, hO⟩ := hJ
  have hX := OKX.of hH
  refine Ct.imp (w_span ⟨_, hH.1⟩ hO (R := fun k9 v9 G1 => k9 = (xk1 (okN 0 (nI 400) x)) ∧ v9 = (nI (spnN D T (ix x) mo 5)) ∧ HI G1 (eB E) tn f wb T sd D im Ti si Di nw rm P ru sp ∧ FH G G1 (eB E)) (fun k9 v9 G1 h => h.2.2.2.2 _ (by omega)) (Ct.imp (c_span hH hmo) (fun o G1 h => ⟨_, _, xk1_le, h.1, rfl, rfl, h.2.1, h.2.2⟩))) ?_
  rintro o G2 ⟨k9, v9, G1, hk, ho, ⟨rfl, rfl, hH1, hF⟩, h0, h1⟩
  exact mkW (Nat.le_of_ble_eq_true rfl) hM hO hk ho hF h0 h1 hH1 (fun G9 hM9 => q_span hmo hM9 hX)
theorem q_visits {x y : Int32} (hM : HM G V th wb tn f T sd D im Ti si Di nw rm P) (hX : OKX tn f T D im Ti Di nw rm P) : Ci E 59 kX8_visits [.ref V, .int x, .int y] G (fun r G3 => r = (if (xk2 (okI (T 12 0) x) (okN 0 (nI 60) y)) = 0 then (nI (visN D T sd (ix x) (ix y))) else nI 0) ∧ HM G3 V (nI (xk2 (okI (T 12 0) x) (okN 0 (nI 60) y))) wb tn f T sd D im Ti si Di nw rm P ∧ FV G G3 V) := by
  obtain ⟨⟨ba, en, at_, dp, io, hm_, we, sh, so, h0⟩, ⟨mm, h1, hR, hL9, ac, h4, hA⟩, ⟨kk, h2, hK⟩, ⟨a3, h3⟩, h5, h6, h7, h8⟩ := id hM
  obtain ⟨hB, hD, ⟨htn, him, hnw, hrm⟩, hf, hBi, hPB⟩ := hX
  refine Ci.imp (m_visits h0 h1 hR hB (ask_ok hD) hD hL9 ⟨_, h3⟩ h6) ?_
  rintro r G3 ⟨hr, ha, hb⟩
  refine ⟨hr, ?_⟩
  by_cases c : (xk2 (okI (T 12 0) x) (okN 0 (nI 60) y)) = 0
  · rw [c]
    exact hM.ahp (ha c)
  · rw [hb c]
    exact ⟨hM.ob ⟨_, _, _, _, _, _, _, _, _, rfl⟩, FV.rf.gs (by omega) (by omega)⟩
theorem pw_visits {x y : Int32} (hJ : JJ E G) : Ct E 11 2 12 kL_visits [.ref (eB E), .int x, .int y, .ref (eB E + 255)] G (WPost E kX8_visits [.int x, .int y]) := by
  obtain ⟨th, tn, f, wb, T, sd, D, im, Ti, si, Di, nw, rm, P, ru, sp, hH, hM, hO⟩ := hJ
  have hX := OKX.of hH
  refine Ct.imp (w_visits ⟨_, hH.1⟩ hO (R := fun k9 v9 G1 => k9 = (xk2 (okI (T 12 0) x) (okN 0 (nI 60) y)) ∧ v9 = (nI (visN D T sd (ix x) (ix y))) ∧ HI G1 (eB E) tn f wb T sd D im Ti si Di nw rm P ru sp ∧ FH G G1 (eB E)) (fun k9 v9 G1 h => h.2.2.2.2 _ (by omega)) (Ct.imp (c_visits hH) (fun o G1 h => ⟨_, _, xk2_le, h.1, rfl, rfl, h.2.1, h.2.2⟩))) ?_
  rintro o G2 ⟨k9, v9, G1, hk, ho, ⟨rfl, rfl, hH1, hF⟩, h0, h1⟩
  exact mkW (Nat.le_of_ble_eq_true rfl) hM hO hk ho hF h0 h1 hH1 (fun G9 hM9 => q_visits hM9 hX)
theorem q_stays {x : Int32} (hM : HM G V th wb tn f T sd D im Ti si Di nw rm P) (hX : OKX tn f T D im Ti Di nw rm P) : Ci E 59 kX8_stays [.ref V, .int x] G (fun r G3 => r = (if (xk1 (okI (T 12 0) x)) = 0 then (syV D T sd (ix x)) else nI 0) ∧ HM G3 V (nI (xk1 (okI (T 12 0) x))) wb tn f T sd D im Ti si Di nw rm P ∧ FV G G3 V) := by
  obtain ⟨⟨ba, en, at_, dp, io, hm_, we, sh, so, h0⟩, ⟨mm, h1, hR, hL9, ac, h4, hA⟩, ⟨kk, h2, hK⟩, ⟨a3, h3⟩, h5, h6, h7, h8⟩ := id hM
  obtain ⟨hB, hD, ⟨htn, him, hnw, hrm⟩, hf, hBi, hPB⟩ := hX
  refine Ci.imp (m_stays h0 h1 hR hB (ask_ok hD) hD hL9 ⟨_, h3⟩ h6) ?_
  rintro r G3 ⟨hr, ha, hb⟩
  refine ⟨hr, ?_⟩
  by_cases c : (xk1 (okI (T 12 0) x)) = 0
  · rw [c]
    exact hM.ahp (ha c)
  · rw [hb c]
    exact ⟨hM.ob ⟨_, _, _, _, _, _, _, _, _, rfl⟩, FV.rf.gs (by omega) (by omega)⟩
theorem pw_stays {x : Int32} (hJ : JJ E G) : Ct E 11 1 6 kL_stays [.ref (eB E), .int x, .ref (eB E + 255)] G (WPost E kX8_stays [.int x]) := by
  obtain ⟨th, tn, f, wb, T, sd, D, im, Ti, si, Di, nw, rm, P, ru, sp, hH, hM, hO⟩ := hJ
  have hX := OKX.of hH
  refine Ct.imp (w_stays ⟨_, hH.1⟩ hO (R := fun k9 v9 G1 => k9 = (xk1 (okI (T 12 0) x)) ∧ v9 = (syV D T sd (ix x)) ∧ HI G1 (eB E) tn f wb T sd D im Ti si Di nw rm P ru sp ∧ FH G G1 (eB E)) (fun k9 v9 G1 h => h.2.2.2.2 _ (by omega)) (Ct.imp (c_stays hH) (fun o G1 h => ⟨_, _, xk1_le, h.1, rfl, rfl, h.2.1, h.2.2⟩))) ?_
  rintro o G2 ⟨k9, v9, G1, hk, ho, ⟨rfl, rfl, hH1, hF⟩, h0, h1⟩
  exact mkW (Nat.le_of_ble_eq_true rfl) hM hO hk ho hF h0 h1 hH1 (fun G9 hM9 => q_stays hM9 hX)
theorem q_carry {x y : Int32} (hM : HM G V th wb tn f T sd D im Ti si Di nw rm P) (hX : OKX tn f T D im Ti Di nw rm P) : Ci E 3 kX8_carry [.ref V, .int x, .int y] G (fun r G3 => r = (if (xk1 (okI (T 12 0) x ∧ okI 6 y)) = 0 then (nI (T 1 (ix x))) else nI 0) ∧ ((xk1 (okI (T 12 0) x ∧ okI 6 y)) = 0 → HM G3 V (nI (xk1 (okI (T 12 0) x ∧ okI 6 y))) wb tn f (tu T 1 (ix x) (ix y)) sd D im Ti si Di ((nw + 1) % 12) (min 12 (rm + 1)) (updP P ((nw + 1) % 12) (T, sd))) ∧ (¬ (xk1 (okI (T 12 0) x ∧ okI 6 y)) = 0 → HM G3 V (nI (xk1 (okI (T 12 0) x ∧ okI 6 y))) wb tn f T sd D im Ti si Di nw rm P) ∧ FV G G3 V) := by
  obtain ⟨⟨ba, en, at_, dp, io, hm_, we, sh, so, h0⟩, ⟨mm, h1, hR, hL9, ac, h4, hA⟩, ⟨kk, h2, hK⟩, ⟨a3, h3⟩, h5, h6, h7, h8⟩ := id hM
  obtain ⟨hB, hD, ⟨htn, him, hnw, hrm⟩, hf, hBi, hPB⟩ := hX
  refine Ci.imp (m_carry h0 h1 hR hB rfl hrm hnw h4 hA hPB) ?_
  rintro r G3 ⟨hr, ha, hb⟩
  refine ⟨hr, ?_⟩
  by_cases c : (xk1 (okI (T 12 0) x ∧ okI 6 y)) = 0
  · obtain ⟨a, nn, hG, r1, r2, r3⟩ := ha c
    rw [c]
    refine ⟨fun _ => hM.row r1 (hL9.keep r2) (r3.keep r2) ⟨_, _, _, _, _, _, _, _, _, hG⟩, fun c9 => absurd rfl c9, ?_⟩
    rw [hG]
    exact fv_row
  · refine ⟨fun h => absurd h c, fun _ => ?_, ?_⟩
    · rw [hb c]
      exact hM.ob ⟨_, _, _, _, _, _, _, _, _, rfl⟩
    · rw [hb c]
      exact FV.rf.gs (by omega) (by omega)
theorem pw_carry {x y : Int32} (hJ : JJ E G) : Ct E 11 2 12 kL_carry [.ref (eB E), .int x, .int y, .ref (eB E + 255)] G (WPost E kX8_carry [.int x, .int y]) := by
  obtain ⟨th, tn, f, wb, T, sd, D, im, Ti, si, Di, nw, rm, P, ru, sp, hH, hM, hO⟩ := hJ
  have hX := OKX.of hH
  refine Ct.imp (w_carry ⟨_, hH.1⟩ hO (R := fun k9 v9 G1 => k9 = (xk1 (okI (T 12 0) x ∧ okI 6 y)) ∧ v9 = (nI (T 1 (ix x))) ∧ ((xk1 (okI (T 12 0) x ∧ okI 6 y)) = 0 → HI G1 (eB E) tn f wb (tu T 1 (ix x) (ix y)) sd D im Ti si Di ((nw + 1) % 12) (min 12 (rm + 1)) (updP P ((nw + 1) % 12) (T, sd)) ru sp) ∧ (¬ (xk1 (okI (T 12 0) x ∧ okI 6 y)) = 0 → HI G1 (eB E) tn f wb T sd D im Ti si Di nw rm P ru sp) ∧ FH G G1 (eB E)) (fun k9 v9 G1 h => h.2.2.2.2.2 _ (by omega)) (Ct.imp (c_carry hH) (fun o G1 h => ⟨_, _, xk1_le, h.1, rfl, rfl, h.2.1, h.2.2.1, h.2.2.2⟩))) ?_
  rintro o G2 ⟨k9, v9, G1, hk, ho, ⟨rfl, rfl, hH1, hH2, hF⟩, h0, h1⟩
  by_cases c : (xk1 (okI (T 12 0) x ∧ okI 6 y)) = 0
  · exact mkW (Nat.le_of_ble_eq_true rfl) hM hO hk ho hF h0 h1 (hH1 c) (fun G9 hM9 => Ci.imp (q_carry hM9 hX) (fun r G3 h => ⟨h.1, h.2.1 c, h.2.2.2⟩))
  · exact mkW (Nat.le_of_ble_eq_true rfl) hM hO hk ho hF h0 h1 (hH2 c) (fun G9 hM9 => Ci.imp (q_carry hM9 hX) (fun r G3 h => ⟨h.1, h.2.2.1 c, h.2.2.2⟩))
theorem q_mend {x : Int32} (hM : HM G V th wb tn f T sd D im Ti si Di nw rm P) (hX : OKX tn f T D im Ti Di nw rm P) : Ci E 3 kX8_mend [.ref V, .int x] G (fun r G3 => r = (if (xk1 (okI (T 12 0) x)) = 0 then (nI (T 2 (ix x) - 5)) else nI 0) ∧ ((xk1 (okI (T 12 0) x)) = 0 → HM G3 V (nI (xk1 (okI (T 12 0) x))) wb tn f (tu T 2 (ix x) (T 2 (ix x) - 5)) sd D im Ti si Di ((nw + 1) % 12) (min 12 (rm + 1)) (updP P ((nw + 1) % 12) (T, sd))) ∧ (¬ (xk1 (okI (T 12 0) x)) = 0 → HM G3 V (nI (xk1 (okI (T 12 0) x))) wb tn f T sd D im Ti si Di nw rm P) ∧ FV G G3 V) := by
  obtain ⟨⟨ba, en, at_, dp, io, hm_, we, sh, so, h0⟩, ⟨mm, h1, hR, hL9, ac, h4, hA⟩, ⟨kk, h2, hK⟩, ⟨a3, h3⟩, h5, h6, h7, h8⟩ := id hM
  obtain ⟨hB, hD, ⟨htn, him, hnw, hrm⟩, hf, hBi, hPB⟩ := hX
  refine Ci.imp (m_mend h0 h1 hR hB rfl hrm hnw h4 hA hPB) ?_
  rintro r G3 ⟨hr, ha, hb⟩
  refine ⟨hr, ?_⟩
  by_cases c : (xk1 (okI (T 12 0) x)) = 0
  · obtain ⟨a, nn, hG, r1, r2, r3⟩ := ha c
    rw [c]
    refine ⟨fun _ => hM.row r1 (hL9.keep r2) (r3.keep r2) ⟨_, _, _, _, _, _, _, _, _, hG⟩, fun c9 => absurd rfl c9, ?_⟩
    rw [hG]
    exact fv_row
  · refine ⟨fun h => absurd h c, fun _ => ?_, ?_⟩
    · rw [hb c]
      exact hM.ob ⟨_, _, _, _, _, _, _, _, _, rfl⟩
    · rw [hb c]
      exact FV.rf.gs (by omega) (by omega)
theorem pw_mend {x : Int32} (hJ : JJ E G) : Ct E 11 1 6 kL_mend [.ref (eB E), .int x, .ref (eB E + 255)] G (WPost E kX8_mend [.int x]) := by
  obtain ⟨th, tn, f, wb, T, sd, D, im, Ti, si, Di, nw, rm, P, ru, sp, hH, hM, hO⟩ := hJ
  have hX := OKX.of hH
  refine Ct.imp (w_mend ⟨_, hH.1⟩ hO (R := fun k9 v9 G1 => k9 = (xk1 (okI (T 12 0) x)) ∧ v9 = (nI (T 2 (ix x) - 5)) ∧ ((xk1 (okI (T 12 0) x)) = 0 → HI G1 (eB E) tn f wb (tu T 2 (ix x) (T 2 (ix x) - 5)) sd D im Ti si Di ((nw + 1) % 12) (min 12 (rm + 1)) (updP P ((nw + 1) % 12) (T, sd)) ru sp) ∧ (¬ (xk1 (okI (T 12 0) x)) = 0 → HI G1 (eB E) tn f wb T sd D im Ti si Di nw rm P ru sp) ∧ FH G G1 (eB E)) (fun k9 v9 G1 h => h.2.2.2.2.2 _ (by omega)) (Ct.imp (c_mend hH) (fun o G1 h => ⟨_, _, xk1_le, h.1, rfl, rfl, h.2.1, h.2.2.1, h.2.2.2⟩))) ?_
  rintro o G2 ⟨k9, v9, G1, hk, ho, ⟨rfl, rfl, hH1, hH2, hF⟩, h0, h1⟩
  by_cases c : (xk1 (okI (T 12 0) x)) = 0
  · exact mkW (Nat.le_of_ble_eq_true rfl) hM hO hk ho hF h0 h1 (hH1 c) (fun G9 hM9 => Ci.imp (q_mend hM9 hX) (fun r G3 h => ⟨h.1, h.2.1 c, h.2.2.2⟩))
  · exact mkW (Nat.le_of_ble_eq_true rfl) hM hO hk ho hF h0 h1 (hH2 c) (fun G9 hM9 => Ci.imp (q_mend hM9 hX) (fun r G3 h => ⟨h.1, h.2.2.1 c, h.2.2.2⟩))
theorem q_sweep {x : Int32} (hM : HM G V th wb tn f T sd D im Ti si Di nw rm P) (hX : OKX tn f T D im Ti Di nw rm P) : Ci E 3 kX8_sweep [.ref V, .int x] G (fun r G3 => r = (if (xk1 (okI 6 x)) = 0 then (nI (T 7 (ix x))) else nI 0) ∧ ((xk1 (okI 6 x)) = 0 → HM G3 V (nI (xk1 (okI 6 x))) wb tn f (tu T 7 (ix x) 0) sd D im Ti si Di ((nw + 1) % 12) (min 12 (rm + 1)) (updP P ((nw + 1) % 12) (T, sd))) ∧ (¬ (xk1 (okI 6 x)) = 0 → HM G3 V (nI (xk1 (okI 6 x))) wb tn f T sd D im Ti si Di nw rm P) ∧ FV G G3 V) := by
  obtain ⟨⟨ba, en, at_, dp, io, hm_, we, sh, so, h0⟩, ⟨mm, h1, hR, hL9, ac, h4, hA⟩, ⟨kk, h2, hK⟩, ⟨a3, h3⟩, h5, h6, h7, h8⟩ := id hM
  obtain ⟨hB, hD, ⟨htn, him, hnw, hrm⟩, hf, hBi, hPB⟩ := hX
  refine Ci.imp (m_sweep h0 h1 hR hB rfl hrm hnw h4 hA hPB) ?_
  rintro r G3 ⟨hr, ha, hb⟩
  refine ⟨hr, ?_⟩
  by_cases c : (xk1 (okI 6 x)) = 0
  · obtain ⟨a, nn, hG, r1, r2, r3⟩ := ha c
    rw [c]
    refine ⟨fun _ => hM.row r1 (hL9.keep r2) (r3.keep r2) ⟨_, _, _, _, _, _, _, _, _, hG⟩, fun c9 => absurd rfl c9, ?_⟩
    rw [hG]
    exact fv_row
  · refine ⟨fun h => absurd h c, fun _ => ?_, ?_⟩
    · rw [hb c]
      exact hM.ob ⟨_, _, _, _, _, _, _, _, _, rfl⟩
    · rw [hb c]
      exact FV.rf.gs (by omega) (by omega)
theorem pw_sweep {x : Int32} (hJ : JJ E G) : Ct E 11 1 6 kL_sweep [.ref (eB E), .int x, .ref (eB E + 255)] G (WPost E kX8_sweep [.int x]) := by
  obtain ⟨th, tn, f, wb, T, sd, D, im, Ti, si, Di, nw, rm, P, ru, sp, hH, hM, hO⟩ := hJ
  have hX := OKX.of hH
  refine Ct.imp (w_sweep ⟨_, hH.1⟩ hO (R := fun k9 v9 G1 => k9 = (xk1 (okI 6 x)) ∧ v9 = (nI (T 7 (ix x))) ∧ ((xk1 (okI 6 x)) = 0 → HI G1 (eB E) tn f wb (tu T 7 (ix x) 0) sd D im Ti si Di ((nw + 1) % 12) (min 12 (rm + 1)) (updP P ((nw + 1) % 12) (T, sd)) ru sp) ∧ (¬ (xk1 (okI 6 x)) = 0 → HI G1 (eB E) tn f wb T sd D im Ti si Di nw rm P ru sp) ∧ FH G G1 (eB E)) (fun k9 v9 G1 h => h.2.2.2.2.2 _ (by omega)) (Ct.imp (c_sweep hH) (fun o G1 h => ⟨_, _, xk1_le, h.1, rfl, rfl, h.2.1, h.2.2.1, h.2.2.2⟩))) ?_
  rintro o G2 ⟨k9, v9, G1, hk, ho, ⟨rfl, rfl, hH1, hH2, hF⟩, h0, h1⟩
  by_cases c : (xk1 (okI 6 x)) = 0
  · exact mkW (Nat.le_of_ble_eq_true rfl) hM hO hk ho hF h0 h1 (hH1 c) (fun G9 hM9 => Ci.imp (q_sweep hM9 hX) (fun r G3 h => ⟨h.1, h.2.1 c, h.2.2.2⟩))
  · exact mkW (Nat.le_of_ble_eq_true rfl) hM hO hk ho hF h0 h1 (hH2 c) (fun G9 hM9 => Ci.imp (q_sweep hM9 hX) (fun r G3 h => ⟨h.1, h.2.2.1 c, h.2.2.2⟩))
theorem q_pay {x y : Int32} (hM : HM G V th wb tn f T sd D im Ti si Di nw rm P) (hX : OKX tn f T D im Ti Di nw rm P) : Ci E 2 kX8_pay [.ref V, .int x, .int y] G (fun r G3 => r = (if (xk2 (okI 2 x) (okN 1 (nI (T 10 (ix x))) y)) = 0 then (nI (T 10 (ix x) - ix y)) else nI 0) ∧ ((xk2 (okI 2 x) (okN 1 (nI (T 10 (ix x))) y)) = 0 → HM G3 V (nI (xk2 (okI 2 x) (okN 1 (nI (T 10 (ix x))) y))) wb tn f (tu T 10 (ix x) (T 10 (ix x) - ix y)) sd D im Ti si Di ((nw + 1) % 12) (min 12 (rm + 1)) (updP P ((nw + 1) % 12) (T, sd))) ∧ (¬ (xk2 (okI 2 x) (okN 1 (nI (T 10 (ix x))) y)) = 0 → HM G3 V (nI (xk2 (okI 2 x) (okN 1 (nI (T 10 (ix x))) y))) wb tn f T sd D im Ti si Di nw rm P) ∧ FV G G3 V) := by
  obtain ⟨⟨ba, en, at_, dp, io, hm_, we, sh, so, h0⟩, ⟨mm, h1, hR, hL9, ac, h4, hA⟩, ⟨kk, h2, hK⟩, ⟨a3, h3⟩, h5, h6, h7, h8⟩ := id hM
  obtain ⟨hB, hD, ⟨htn, him, hnw, hrm⟩, hf, hBi, hPB⟩ := hX
  refine Ci.imp (m_pay h0 h1 hR hB rfl hrm hnw h4 hA hPB) ?_
  rintro r G3 ⟨hr, ha, hb⟩
  refine ⟨hr, ?_⟩
  by_cases c : (xk2 (okI 2 x) (okN 1 (nI (T 10 (ix x))) y)) = 0
  · obtain ⟨a, nn, hG, r1, r2, r3⟩ := ha c
    rw [c]
    refine ⟨fun _ => hM.row r1 (hL9.keep r2) (r3.keep r2) ⟨_, _, _, _, _, _, _, _, _, hG⟩, fun c9 => absurd rfl c9, ?_⟩
    rw [hG]
    exact fv_row
  · refine ⟨fun h => absurd h c, fun _ => ?_, ?_⟩
    · rw [hb c]
      exact hM.ob ⟨_, _, _, _, _, _, _, _, _, rfl⟩
    · rw [hb c]
      exact FV.rf.gs (by omega) (by omega)
theorem pw_pay {x y : Int32} (hJ : JJ E G) : Ct E 11 2 12 kL_pay [.ref (eB E), .int x, .int y, .ref (eB E + 255)] G (WPost E kX8_pay [.int x, .int y]) := by
  obtain ⟨th, tn, f, wb, T, sd, D, im, Ti, si, Di, nw, rm, P, ru, sp, hH, hM, hO⟩ := hJ
  have hX := OKX.of hH
  refine Ct.imp (w_pay ⟨_, hH.1⟩ hO (R := fun k9 v9 G1 => k9 = (xk2 (okI 2 x) (okN 1 (nI (T 10 (ix x))) y)) ∧ v9 = (nI (T 10 (ix x) - ix y)) ∧ ((xk2 (okI 2 x) (okN 1 (nI (T 10 (ix x))) y)) = 0 → HI G1 (eB E) tn f wb (tu T 10 (ix x) (T 10 (ix x) - ix y)) sd D im Ti si Di ((nw + 1) % 12) (min 12 (rm + 1)) (updP P ((nw + 1) % 12) (T, sd)) ru sp) ∧ (¬ (xk2 (okI 2 x) (okN 1 (nI (T 10 (ix x))) y)) = 0 → HI G1 (eB E) tn f wb T sd D im Ti si Di nw rm P ru sp) ∧ FH G G1 (eB E)) (fun k9 v9 G1 h => h.2.2.2.2.2 _ (by omega)) (Ct.imp (c_pay hH) (fun o G1 h => ⟨_, _, xk2_le, h.1, rfl, rfl, h.2.1, h.2.2.1, h.2.2.2⟩))) ?_
  rintro o G2 ⟨k9, v9, G1, hk, ho, ⟨rfl, rfl, hH1, hH2, hF⟩, h0, h1⟩
  by_cases c : (xk2 (okI 2 x) (okN 1 (nI (T 10 (ix x))) y)) = 0
  · exact mkW (Nat.le_of_ble_eq_true rfl) hM hO hk ho hF h0 h1 (hH1 c) (fun G9 hM9 => Ci.imp (q_pay hM9 hX) (fun r G3 h => ⟨h.1, h.2.1 c, h.2.2.2⟩))
  · exact mkW (Nat.le_of_ble_eq_true rfl) hM hO hk ho hF h0 h1 (hH2 c) (fun G9 hM9 => Ci.imp (q_pay hM9 hX) (fun r G3 h => ⟨h.1, h.2.2.1 c, h.2.2.2⟩))
theorem q_days {x : Int32} (hM : HM G V th wb tn f T sd D im Ti si Di nw rm P) (hX : OKX tn f T D im Ti Di nw rm P) : Ci E 59 kX8_days [.ref V, .int x] G (fun r G3 => r = (if (xk1 (okN 1 (nI 400) x)) = 0 then (nI (eqN D 1 T sd (ix x))) else nI 0) ∧ ((xk1 (okN 1 (nI 400) x)) = 0 → HM G3 V (nI (xk1 (okN 1 (nI 400) x))) wb tn f ((adv D 1 T sd (ix x)).1) ((adv D 1 T sd (ix x)).2) D im Ti si Di ((nw + 1) % 12) (min 12 (rm + 1)) (updP P ((nw + 1) % 12) (T, sd))) ∧ (¬ (xk1 (okN 1 (nI 400) x)) = 0 → HM G3 V (nI (xk1 (okN 1 (nI 400) x))) wb tn f T sd D im Ti si Di nw rm P) ∧ FV G G3 V) := by
  obtain ⟨⟨ba, en, at_, dp, io, hm_, we, sh, so, h0⟩, ⟨mm, h1, hR, hL9, ac, h4, hA⟩, ⟨kk, h2, hK⟩, ⟨a3, h3⟩, h5, h6, h7, h8⟩ := id hM
  obtain ⟨hB, hD, ⟨htn, him, hnw, hrm⟩, hf, hBi, hPB⟩ := hX
  refine Ci.imp (m_days h0 h1 hR hB rfl hrm hnw h4 hA hPB (ask_ok hD) hD hL9 h6) ?_
  rintro r G3 ⟨hr, ha, hb⟩
  refine ⟨hr, ?_⟩
  by_cases c : (xk1 (okN 1 (nI 400) x)) = 0
  · obtain ⟨a, c9, nn, ba2, en2, at2, dp2, io2, hm2, we2, sh2, so2, hG, r1, r2, r3⟩ := ha c
    have e : G3 = gs (gs (gs (gs G (V + 6) (aI 7 c9)) (V + 4) (aI 4200 a)) (V + 1) (aI 750 nn)) V (mO V (nI 0) (nI im) (nI (min 12 (rm + 1))) (nI tn) ba2 en2 at2 wb dp2 io2 hm2 we2 sh2 so2) := by rw [hG, gs_comm (a := V + 4) (by omega)]
    rw [c]
    refine ⟨fun _ => (hM.s6 (a := c9)).row r1 (hL9.keep r2) r3 ⟨_, _, _, _, _, _, _, _, _, e⟩, fun c9 => absurd rfl c9, ?_⟩
    rw [e]
    exact ((((FV.rf.gs (by omega) (by omega)).gs (by omega) (by omega)).gs (by omega) (by omega)).gs (by omega) (by omega))
  · refine ⟨fun h => absurd h c, fun _ => ?_, ?_⟩
    · rw [hb c]
      exact hM.ob ⟨_, _, _, _, _, _, _, _, _, rfl⟩
    · rw [hb c]
      exact FV.rf.gs (by omega) (by omega)
theorem pw_days {x : Int32} (hJ : JJ E G) : Ct E 11 1 6 kL_days [.ref (eB E), .int x, .ref (eB E + 255)] G (WPost E kX8_days [.int x]) := by
  obtain ⟨th, tn, f, wb, T, sd, D, im, Ti, si, Di, nw, rm, P, ru, sp, hH, hM, hO⟩ := hJ
  have hX := OKX.of hH
  refine Ct.imp (w_days ⟨_, hH.1⟩ hO (R := fun k9 v9 G1 => k9 = (xk1 (okN 1 (nI 400) x)) ∧ v9 = (nI (eqN D 1 T sd (ix x))) ∧ ((xk1 (okN 1 (nI 400) x)) = 0 → HI G1 (eB E) tn f wb ((adv D 1 T sd (ix x)).1) ((adv D 1 T sd (ix x)).2) D im Ti si Di ((nw + 1) % 12) (min 12 (rm + 1)) (updP P ((nw + 1) % 12) (T, sd)) ru sp) ∧ (¬ (xk1 (okN 1 (nI 400) x)) = 0 → HI G1 (eB E) tn f wb T sd D im Ti si Di nw rm P ru sp) ∧ FH G G1 (eB E)) (fun k9 v9 G1 h => h.2.2.2.2.2 _ (by omega)) (Ct.imp (c_days hH) (fun o G1 h => ⟨_, _, xk1_le, h.1, rfl, rfl, h.2.1, h.2.2.1, h.2.2.2⟩))) ?_
  rintro o G2 ⟨k9, v9, G1, hk, ho, ⟨rfl, rfl, hH1, hH2, hF⟩, h0, h1⟩
  by_cases c : (xk1 (okN 1 (nI 400) x)) = 0
  · exact mkW (Nat.le_of_ble_eq_true rfl) hM hO hk ho hF h0 h1 (hH1 c) (fun G9 hM9 => Ci.imp (q_days hM9 hX) (fun r G3 h => ⟨h.1, h.2.1 c, h.2.2.2⟩))
  · exact mkW (Nat.le_of_ble_eq_true rfl) hM hO hk ho hF h0 h1 (hH2 c) (fun G9 hM9 => Ci.imp (q_days hM9 hX) (fun r G3 h => ⟨h.1, h.2.2.1 c, h.2.2.2⟩))
theorem q_deed (hM : HM G V th wb tn f T sd D im Ti si Di nw rm P) (hX : OKX tn f T D im Ti Di nw rm P) : Ci E 56 kX8_deed [.ref V] G (fun r G3 => r = (if (dedK f tn T) = 0 then (nI (T 12 1 + 1)) else nI 0) ∧ ((dedK f tn T) = 0 → HM G3 V (nI ((dedK f tn T))) (dedW f tn T) 0 f (dedT f tn T) sd D im Ti si Di nw 0 P) ∧ (¬ (dedK f tn T) = 0 → HM G3 V (nI ((dedK f tn T))) (dedW f tn T) 0 f T sd D im Ti si Di nw rm P) ∧ FV G G3 V) := by
  obtain ⟨⟨ba, en, at_, dp, io, hm_, we, sh, so, h0⟩, ⟨mm, h1, hR, hL9, ac, h4, hA⟩, ⟨kk, h2, hK⟩, ⟨a3, h3⟩, h5, h6, h7, h8⟩ := id hM
  obtain ⟨hB, hD, ⟨htn, him, hnw, hrm⟩, hf, hBi, hPB⟩ := hX
  refine Ci.imp (m_deed h0 h1 hR hB rfl htn hf h5 ⟨_, h3⟩) ?_
  rintro r G3 ⟨hr, p2, a, nn, hG, r1, r2, r3⟩
  refine ⟨hr, fun c => ?_, fun c => ?_, ?_⟩
  · rw [if_pos c] at hG
    exact (hM.s3 (a := a)).row (a := ac) (r2 c) (hL9.keep r1) ActR.nil ⟨_, _, _, _, _, _, _, _, _, by rw [hG, gs_self ((gs_ne (by omega)).trans h4)]⟩
  · rw [if_neg c, r3 c] at hG
    exact (hM.s3 (a := a)).row (a := ac) hR hL9 hA ⟨_, _, _, _, _, _, _, _, _, by rw [hG, gs_self ((gs_ne (by omega)).trans h4)]⟩
  · rw [hG]
    exact ((FV.rf.gs (by omega) (by omega)).gs (by omega) (by omega)).gs (by omega) (by omega)
theorem pw_deed (hJ : JJ E G) : Ct E 14 1 6 kL_deed [.ref (eB E), .ref (eB E + 255)] G (WPost E kX8_deed []) := by
  obtain ⟨th, tn, f, wb, T, sd, D, im, Ti, si, Di, nw, rm, P, ru, sp, hH, hM, hO⟩ := hJ
  have hX := OKX.of hH
  refine Ct.imp (w_deed ⟨_, hH.1⟩ hO (R := fun k9 v9 G1 => k9 = (dedK f tn T) ∧ v9 = (nI (T 12 1 + 1)) ∧ ((dedK f tn T) = 0 → HI G1 (eB E) 0 f (dedW f tn T) (dedT f tn T) sd D im Ti si Di nw 0 P ru sp) ∧ (¬ (dedK f tn T) = 0 → HI G1 (eB E) 0 f (dedW f tn T) T sd D im Ti si Di nw rm P ru sp) ∧ FH G G1 (eB E)) (fun k9 v9 G1 h => h.2.2.2.2.2 _ (by omega)) (Ct.imp (c_deed hH) (fun o G1 h => ⟨_, _, dedK_le, h.1, rfl, rfl, h.2.1, h.2.2.1, h.2.2.2⟩))) ?_
  rintro o G2 ⟨k9, v9, G1, hk, ho, ⟨rfl, rfl, hH1, hH2, hF⟩, h0, h1⟩
  by_cases c : (dedK f tn T) = 0
  · exact mkW (Nat.le_of_ble_eq_true rfl) hM hO hk ho hF h0 h1 (hH1 c) (fun G9 hM9 => Ci.imp (q_deed hM9 hX) (fun r G3 h => ⟨h.1, h.2.1 c, h.2.2.2⟩))
  · exact mkW (Nat.le_of_ble_eq_true rfl) hM hO hk ho hF h0 h1 (hH2 c) (fun G9 hM9 => Ci.imp (q_deed hM9 hX) (fun r G3 h => ⟨h.1, h.2.2.1 c, h.2.2.2⟩))
theorem q_law {X9 : LX} {ww9 : Nat → Int32} {wn9 : Nat} {dp9 : Int32} {D2 : LD} (hM : HM G V th wb tn f T sd D im Ti si Di nw rm P) (hX : OKX tn f T D im Ti Di nw rm P) : Ci E 56 kX8_law [.ref V] G (fun r G3 => r = (if xk1 ((lawU f tn X9 ww9 wn9 dp9).1.2 = -1) = 0 then (lawU f tn X9 ww9 wn9 dp9).2.1.1 else nI 0) ∧ (xk1 ((lawU f tn X9 ww9 wn9 dp9).1.2 = -1) = 0 → toX D2 = (lawU f tn X9 ww9 wn9 dp9).2.1 → HM G3 V (nI (xk1 ((lawU f tn X9 ww9 wn9 dp9).1.2 = -1))) (-1) 0 f T sd D2 im Ti si Di nw 0 P) ∧ (¬ xk1 ((lawU f tn X9 ww9 wn9 dp9).1.2 = -1) = 0 → HM G3 V (nI (xk1 ((lawU f tn X9 ww9 wn9 dp9).1.2 = -1))) ((lawU f tn X9 ww9 wn9 dp9).1.2) 0 f T sd D im Ti si Di nw rm P) ∧ FV G G3 V) := by
  obtain ⟨⟨ba, en, at_, dp, io, hm_, we, sh, so, h0⟩, ⟨mm, h1, hR, hL9, ac, h4, hA⟩, ⟨kk, h2, hK⟩, ⟨a3, h3⟩, h5, h6, h7, h8⟩ := id hM
  obtain ⟨hB, hD, ⟨htn, him, hnw, hrm⟩, hf, hBi, hPB⟩ := hX
  refine Ci.imp (m_law X9 ww9 wn9 dp9 h0 h1 rfl htn hf h5 h6) ?_
  rintro r G3 ⟨hr, nn, at2, dp2, we2, sh2, so2, hG, r1, r2⟩
  have hu : ∀ {p : Prop} [Decidable p], xk1 p = 0 → p := by
    intro p _ h
    unfold xk1 at h
    split at h
    · assumption
    · exact absurd h (by decide)
  refine ⟨hr, fun c c2 => ?_, fun c => ?_, ?_⟩
  · obtain ⟨s1, s2, s3, s4⟩ := r1 c
    rw [if_pos c] at hG
    have e1 : D2.1 = (lawU f tn X9 ww9 wn9 dp9).2.1.1 := congrArg (fun X => X.1) c2
    exact hM.row (a := ac) (hR.cg2 hB s4) ⟨s1.trans e1.symm, Or.inr ⟨f, tn, X9, ww9, wn9, dp9, htn, hf, s2, s3, hu c, c2⟩⟩ ActR.nil ⟨_, _, _, _, _, _, _, _, _, by rw [hG, gs_self h4, hu c]⟩
  · rw [if_neg c, r2 c] at hG
    exact hM.row (a := ac) hR hL9 hA ⟨_, _, _, _, _, _, _, _, _, by rw [hG, gs_self h4]⟩
  · rw [hG]
    exact (FV.rf.gs (by omega) (by omega)).gs (by omega) (by omega)
theorem pw_law (hJ : JJ E G) : Ct E 15 1 6 kL_law [.ref (eB E), .ref (eB E + 255)] G (WPost E kX8_law []) := by
  obtain ⟨th, tn, f, wb, T, sd, D, im, Ti, si, Di, nw, rm, P, ru, sp, hH, hM, hO⟩ := hJ
  have hX := OKX.of hH
  refine Ct.imp (w_law ⟨_, hH.1⟩ hO (R := fun k9 v9 G1 => ∃ (X9 : LX) (ww9 : Nat → Int32) (wn9 : Nat) (dp9 : Int32), k9 = xk1 ((lawU f tn X9 ww9 wn9 dp9).1.2 = -1) ∧ v9 = (lawU f tn X9 ww9 wn9 dp9).2.1.1 ∧ ((lawU f tn X9 ww9 wn9 dp9).1.2 = -1 → ∃ D2, toX D2 = (lawU f tn X9 ww9 wn9 dp9).2.1 ∧ WFD D2 ∧ HI G1 (eB E) 0 f (-1) T sd D2 im Ti si Di nw 0 P sp ru) ∧ (¬ (lawU f tn X9 ww9 wn9 dp9).1.2 = -1 → HI G1 (eB E) 0 f ((lawU f tn X9 ww9 wn9 dp9).1.2) T sd D im Ti si Di nw rm P ru sp) ∧ FH G G1 (eB E)) (fun k9 v9 G1 h => by obtain ⟨X9, ww9, wn9, dp9, -, -, -, -, h⟩ := h; exact h.2 _ (by omega)) (Ct.imp (c_law hH) (fun o G1 h => by obtain ⟨X9, ww9, wn9, dp9, g1, g2, g3, g4⟩ := h; exact ⟨_, _, xk1_le, g1, X9, ww9, wn9, dp9, rfl, rfl, g2, g3, g4⟩))) ?_
  rintro o G2 ⟨k9, v9, G1, hk, ho, ⟨X9, ww9, wn9, dp9, rfl, rfl, hH1, hH2, hF⟩, h0, h1⟩
  by_cases c : (lawU f tn X9 ww9 wn9 dp9).1.2 = -1
  · obtain ⟨D2, g1, g2, g3⟩ := hH1 c
    exact mkW (Nat.le_of_ble_eq_true rfl) hM hO hk ho hF h0 h1 g3 (fun G9 hM9 => Ci.imp (q_law (X9 := X9) (ww9 := ww9) (wn9 := wn9) (dp9 := dp9) (D2 := D2) hM9 hX) (fun r G3 h => ⟨h.1, h.2.1 (if_pos c) g1, h.2.2.2⟩))
  · exact mkW (Nat.le_of_ble_eq_true rfl) hM hO hk ho hF h0 h1 (hH2 c) (fun G9 hM9 => Ci.imp (q_law (X9 := X9) (ww9 := ww9) (wn9 := wn9) (dp9 := dp9) (D2 := D) hM9 hX) (fun r G3 h => ⟨h.1, h.2.2.1 (fun h9 => absurd ((if_neg c).symm.trans h9) (by decide)), h.2.2.2⟩))
theorem q_traces {su : Nat} (hsu : su < 2 ^ 30) (hM : HM G V th wb tn f T sd D im Ti si Di nw rm P) (hX : OKX tn f T D im Ti Di nw rm P) : Ci E 3 kX8_traces [.ref V, .int (nI su)] G (fun r G3 => r = (if (xk1 (trOk f tn)) = 0 then (trcV (trT f (tn / 2)) su) else nI 0) ∧ HM G3 V (nI (xk1 (trOk f tn))) wb 0 f T sd D im Ti si Di nw rm P ∧ FV G G3 V) := by
  obtain ⟨⟨ba, en, at_, dp, io, hm_, we, sh, so, h0⟩, ⟨mm, h1, hR, hL9, ac, h4, hA⟩, ⟨kk, h2, hK⟩, ⟨a3, h3⟩, h5, h6, h7, h8⟩ := id hM
  obtain ⟨hB, hD, ⟨htn, him, hnw, hrm⟩, hf, hBi, hPB⟩ := hX
  refine Ci.imp (m_traces h0 h5 htn hf h8 hsu) ?_
  rintro r G3 ⟨hr, a, rfl⟩
  by_cases c : trOk f tn
  · have e : (xk1 (trOk f tn)) = 0 := if_pos c
    rw [if_pos c] at hr ⊢
    rw [e]
    exact ⟨hr, (hM.s8 (a := a)).ob ⟨_, _, _, _, _, _, _, _, _, rfl⟩, (FV.rf.gs (by omega) (by omega)).gs (by omega) (by omega)⟩
  · have e : (xk1 (trOk f tn)) = 1 := if_neg c
    rw [if_neg c] at hr ⊢
    rw [e]
    exact ⟨hr, (hM.s8 (a := a)).ob ⟨_, _, _, _, _, _, _, _, _, rfl⟩, (FV.rf.gs (by omega) (by omega)).gs (by omega) (by omega)⟩
theorem pw_traces {su : Nat} (hsu : su < 2 ^ 30) (hJ : JJ E G) : Ct E 11 1 6 kL_traces [.ref (eB E), .int (nI su), .ref (eB E + 255)] G (WPost E kX8_traces [.int (nI su)]) := by
  obtain ⟨th, tn, f, wb, T, sd, D, im, Ti, si, Di, nw, rm, P, ru, sp, hH, hM, hO⟩ := hJ
  have hX := OKX.of hH
  refine Ct.imp (w_traces ⟨_, hH.1⟩ hO (R := fun k9 v9 G1 => k9 = (xk1 (trOk f tn)) ∧ v9 = (trcV (trT f (tn / 2)) su) ∧ HI G1 (eB E) 0 f wb T sd D im Ti si Di nw rm P ru sp ∧ FH G G1 (eB E)) (fun k9 v9 G1 h => h.2.2.2.2 _ (by omega)) (Ct.imp (c_traces hH hsu) (fun o G1 h => ⟨_, _, xk1_le, h.1, rfl, rfl, h.2.1, h.2.2⟩))) ?_
  rintro o G2 ⟨k9, v9, G1, hk, ho, ⟨rfl, rfl, hH1, hF⟩, h0, h1⟩
  exact mkW (Nat.le_of_ble_eq_true rfl) hM hO hk ho hF h0 h1 hH1 (fun G9 hM9 => q_traces hsu hM9 hX)
theorem q_look (hM : HM G V th wb tn f T sd D im Ti si Di nw rm P) (hX : OKX tn f T D im Ti Di nw rm P) : Ci E 3 kX8_look [.ref V] G (fun r G3 => r = (if (xk1 (trOk f tn)) = 0 then (lokV (trT f (tn / 2))) else nI 0) ∧ HM G3 V (nI (xk1 (trOk f tn))) wb 0 f T sd D im Ti si Di nw rm P ∧ FV G G3 V) := by
  obtain ⟨⟨ba, en, at_, dp, io, hm_, we, sh, so, h0⟩, ⟨mm, h1, hR, hL9, ac, h4, hA⟩, ⟨kk, h2, hK⟩, ⟨a3, h3⟩, h5, h6, h7, h8⟩ := id hM
  obtain ⟨hB, hD, ⟨htn, him, hnw, hrm⟩, hf, hBi, hPB⟩ := hX
  refine Ci.imp (m_look h0 h5 htn hf h8) ?_
  rintro r G3 ⟨hr, a, rfl⟩
  by_cases c : trOk f tn
  · have e : (xk1 (trOk f tn)) = 0 := if_pos c
    rw [if_pos c] at hr ⊢
    rw [e]
    exact ⟨hr, (hM.s8 (a := a)).ob ⟨_, _, _, _, _, _, _, _, _, rfl⟩, (FV.rf.gs (by omega) (by omega)).gs (by omega) (by omega)⟩
  · have e : (xk1 (trOk f tn)) = 1 := if_neg c
    rw [if_neg c] at hr ⊢
    rw [e]
    exact ⟨hr, (hM.s8 (a := a)).ob ⟨_, _, _, _, _, _, _, _, _, rfl⟩, (FV.rf.gs (by omega) (by omega)).gs (by omega) (by omega)⟩
theorem pw_look (hJ : JJ E G) : Ct E 11 1 6 kL_look [.ref (eB E), .ref (eB E + 255)] G (WPost E kX8_look []) := by
  obtain ⟨th, tn, f, wb, T, sd, D, im, Ti, si, Di, nw, rm, P, ru, sp, hH, hM, hO⟩ := hJ
  have hX := OKX.of hH
  refine Ct.imp (w_look ⟨_, hH.1⟩ hO (R := fun k9 v9 G1 => k9 = (xk1 (trOk f tn)) ∧ v9 = (lokV (trT f (tn / 2))) ∧ HI G1 (eB E) 0 f wb T sd D im Ti si Di nw rm P ru sp ∧ FH G G1 (eB E)) (fun k9 v9 G1 h => h.2.2.2.2 _ (by omega)) (Ct.imp (c_look hH) (fun o G1 h => ⟨_, _, xk1_le, h.1, rfl, rfl, h.2.1, h.2.2⟩))) ?_
  rintro o G2 ⟨k9, v9, G1, hk, ho, ⟨rfl, rfl, hH1, hF⟩, h0, h1⟩
  exact mkW (Nat.le_of_ble_eq_true rfl) hM hO hk ho hF h0 h1 hH1 (fun G9 hM9 => q_look hM9 hX)
end PAW
