/-! the model: ahead -/
theorem Ct.imp {E : EV} {d mc ms : Nat} {K : MR} {args : List Value} {G : AH} {Q Q2 : OC → AH → Prop} (h : Ct E d mc ms K args G Q) (hp : ∀ o G1, Q o G1 → Q2 o G1) : Ct E d mc ms K args G Q2 := MetFree.mono h (fun _ _ h => h) (fun _ _ _ _ _ h => h) (fun a s o t _ hq => by
  rcases hq with ⟨⟨⟨v, G1, e1, e2, e4⟩, e5⟩, e6⟩ | ⟨q, e1, X, ce, L, ⟨⟨G1, e2, e4⟩, e5⟩, e6⟩
  · exact Or.inl ⟨⟨⟨v, G1, e1, hp _ _ e2, e4⟩, e5⟩, e6⟩
  · exact Or.inr ⟨q, e1, X, ce, L, ⟨⟨G1, hp _ _ e2, e4⟩, e5⟩, e6⟩)
theorem Cd.imp {E : EV} {d : Nat} {K : MR} {args : List Value} {G : AH} {P P2 : AH → Prop} (h : Cd E d K args G P) (hp : ∀ G1, P G1 → P2 G1) : Cd E d K args G P2 := Ct.imp h (fun _ _ h1 => ⟨h1.1, hp _ h1.2⟩)
theorem Ci.imp {E : EV} {d : Nat} {K : MR} {args : List Value} {G : AH} {P P2 : Int32 → AH → Prop} (h : Ci E d K args G P) (hp : ∀ r G1, P r G1 → P2 r G1) : Ci E d K args G P2 := Ct.imp h (fun _ _ h1 => by obtain ⟨r, h1, h2⟩ := h1; exact ⟨r, h1, hp _ _ h2⟩)
def AhP (G : AH) (V : Nat) (hi ac tp fa : Int32) (G1 : AH) : Prop := ∃ (a b : Nat → Int32) (ba en at_ dp io hm_ we sh so : Int32), G1 = (gs (gs (gs G (V + 3) (aI 350 (a))) (V + 6) (aI 7 (b))) V (mO V (nI 0) hi ac tp ba en at_ fa dp io hm_ we sh so))
theorem m_aside3 {E : EV} {V : Nat} {th hi ac tp ba en at_ fa dp io hm_ we sh so : Int32} {mm : Nat → Int32} {G : AH} {c : HC} (hc : c = mO V th hi ac tp ba en at_ fa dp io hm_ we sh so) (hm : G.1 (V + 1) = some (aI 750 mm)) (h3 : ∃ a : Nat → Int32, G.1 (V + 3) = some (aI 350 a)) (h6 : ∃ a : Nat → Int32, G.1 (V + 6) = some (aI 7 a)) : Cd E 1 kX8_putsAside [.ref V] (gs G V c) (fun G1 => ∃ a b : Nat → Int32, G1 = (gs (gs (gs (gs G (V + 3) (aI 350 (a))) (V + 6) (aI 7 (b))) (V + 1) (aI 750 (mm))) V (mO V th hi ac tp ba en at_ fa dp io hm_ we sh so)) ∧ ∀ j, j < 350 → a j = mm j) := by
  subst hc
  have h : Cd E 1 kX8_putsAside [.ref V] (gs G V (mO V th hi ac tp ba en at_ fa dp io hm_ we sh so)) _ := m_putsAside (mm := mm) gs_at ((gs_ne (by omega)).trans hm) (by obtain ⟨a, h3⟩ := h3; exact ⟨a, (gs_ne (by omega)).trans h3⟩)
  refine Cd.imp h (fun G1 h1 => ?_)
  obtain ⟨a, h1, h2⟩ := h1
  obtain ⟨b, h6⟩ := h6
  refine ⟨a, b, ?_, h2⟩
  have e6 : (gs G (V + 3) (aI 350 a)).1 (V + 6) = some (aI 7 b) := (gs_ne (by omega)).trans h6
  have e1 : (gs G (V + 3) (aI 350 a)).1 (V + 1) = some (aI 750 mm) := (gs_ne (by omega)).trans hm
  rw [h1, gs_id e6, gs_id e1, gs_comm (a := V) (b := V + 3) (by omega)]
theorem m_back3 {E : EV} {V : Nat} {th hi ac tp ba en at_ fa dp io hm_ we sh so : Int32} {mm nn a b : Nat → Int32} {G : AH} {c : HC} (hc : c = mO V th hi ac tp ba en at_ fa dp io hm_ we sh so) (hm : G.1 (V + 1) = some (aI 750 mm)) (ha : ∀ j, j < 350 → a j = mm j) (hK : Keep mm nn) : Cd E 1 kX8_comesBack [.ref V] (gs (gs (gs (gs G (V + 3) (aI 350 a)) (V + 6) (aI 7 b)) (V + 1) (aI 750 nn)) V c) (fun G1 => G1 = gs (gs (gs G (V + 3) (aI 350 a)) (V + 6) (aI 7 b)) V c) := by
  subst hc
  refine Cd.imp (m_comesBack (mm := a) (av := nn) gs_at ((gs_ne (by omega)).trans gs_at) ((gs_ne (by omega)).trans ((gs_ne (by omega)).trans ((gs_ne (by omega)).trans gs_at)))) (fun G1 h1 => ?_)
  obtain ⟨x, h1, h2, h3⟩ := h1
  have ex : x = mm := by
    funext j
    by_cases hj : j < 350
    · exact (h2 j hj).trans (ha j hj)
    · exact (h3 j (by omega)).trans (hK.2.2 j (by omega))
  subst ex
  have e1 : (gs (gs G (V + 3) (aI 350 a)) (V + 6) (aI 7 b)).1 (V + 1) = some (aI 750 x) := (gs_ne (by omega)).trans ((gs_ne (by omega)).trans hm)
  rw [h1, gs_comm (a := V) (b := V + 1) (by omega), gs_gs, gs_id e1]
theorem m_goes3 {E : EV} {V : Nat} {th hi ac tp ba en at_ fa dp io hm_ we sh so : Int32} {nn a b : Nat → Int32} {T : ST} {sd : Int32} {G : AH} {c : HC} {D : LD} {n st : Nat} (hc : c = mO V th hi ac tp ba en at_ fa dp io hm_ we sh so) (hAsk : AskC E D) (hD : WFD D) (hm0 : LwR nn D) (hB : Bd T) (hst : st ≤ 1) (hn : n ≤ 400) (hR : MoR nn T sd) : Ci E 58 kX8_goes [.ref V, .int (nI n), .int (nI st)] (gs (gs (gs (gs G (V + 3) (aI 350 a)) (V + 6) (aI 7 b)) (V + 1) (aI 750 nn)) V c) (fun r G1 => r = nI (eqN D st T sd n) ∧ ∃ (b n2 : Nat → Int32) (ba en at_ dp io hm_ we sh so : Int32), G1 = (gs (gs (gs (gs G (V + 3) (aI 350 (a))) (V + 6) (aI 7 (b))) (V + 1) (aI 750 (n2))) V (mO V th hi ac tp ba en at_ fa dp io hm_ we sh so)) ∧ MoR n2 (adv D st T sd n).1 (adv D st T sd n).2 ∧ Keep nn n2) := by
  subst hc
  refine Ci.imp (m_goesG gs_at ((gs_ne (by omega)).trans gs_at) ⟨b, (gs_ne (by omega)).trans ((gs_ne (by omega)).trans gs_at)⟩ hAsk hD hm0 hB hst hn hR) (fun r G1 h1 => ?_)
  obtain ⟨h1, b2, n2, ba, en, at_, dp, io, hm_, we, sh, so, h2, h3, h4⟩ := h1
  refine ⟨h1, b2, n2, ba, en, at_, dp, io, hm_, we, sh, so, ?_, h3, h4⟩
  rw [h2, gs_comm (a := V) (b := V + 6) (by omega), gs_comm (a := V + 1) (b := V + 6) (by omega), gs_gs, gs_comm (a := V) (b := V + 1) (by omega), gs_gs, gs_gs]
