/-! the model: an item told -/
theorem num_w {y : Nat → Nat} {n lo hi : Nat} {s : RS} {w : Int32} (hw : ¬ w = -1) (h : s.2 = w) : (sNum y n lo hi s).2 = w := (num_st (by rw [h]; exact hw)).trans h
theorem nd_w {y : Nat → Nat} {n : Nat} {ws : List Nat} {s : RS} {w : Int32} (hw : ¬ w = -1) (h : s.2 = w) : (sNd y n ws s).2 = w := (nd_st (by rw [h]; exact hw)).trans h
def it6 (y : Nat → Nat) (n : Nat) (s : RS) : RS := sNum y n 0 2 (sNd y n [115, 105, 100, 101] (sNum y n 0 6 (sNd y n [104, 111, 109, 101] (sNum y n 1 100 (sNd y n [105, 116, 101, 109] s)))))
theorem it_bad {y : Nat → Nat} {n : Nat} {s : RS} {T : ST} {w : Int32} (h12 : T 12 0 < 12) (hw : ¬ w = -1) (h6 : (it6 y n s).2 = w) : (rdItem y n s T).1.2 = w := by
  unfold rdItem
  rw [if_neg (fun h9 => h9 h12)]
  dsimp only
  change (if atB y n (it6 y n s).1 [105, 110] = true then ((sNum y n 0 6 (sTk y n [105, 110] (it6 y n s)), _) : RS × ST) else (sTk y n [105, 110] (it6 y n s), _)).1.2 = w
  split
  · exact num_w hw (tk_w.trans h6)
  · exact tk_w.trans h6
theorem it_in {y : Nat → Nat} {n b v h o : Nat} {T : ST} (h12 : T 12 0 < 12) (e6 : it6 y n (b, -1) = (nxt y n (nxt y n (nxt y n (nxt y n (nxt y n (nxt y n b))))), -1)) (e1 : vNum y n 1 100 (sNd y n [105, 116, 101, 109] (b, -1)) = nI v) (e3 : vNum y n 0 6 (sNd y n [104, 111, 109, 101] (sNum y n 1 100 (sNd y n [105, 116, 101, 109] (b, -1)))) = nI h) (e5 : vNum y n 0 2 (sNd y n [115, 105, 100, 101] (sNum y n 0 6 (sNd y n [104, 111, 109, 101] (sNum y n 1 100 (sNd y n [105, 116, 101, 109] (b, -1)))))) = nI o) (hv : v < 100) (hh : h < 6) (ho : o < 2) :
    rdItem y n (b, -1) T = if atB y n (nxt y n (nxt y n (nxt y n (nxt y n (nxt y n (nxt y n b)))))) [105, 110] = true then (sNum y n 0 6 (nxt y n (nxt y n (nxt y n (nxt y n (nxt y n (nxt y n (nxt y n b)))))), -1), itemT T v h o (nOf (vNum y n 0 6 (nxt y n (nxt y n (nxt y n (nxt y n (nxt y n (nxt y n (nxt y n b)))))), -1)))) else ((nxt y n (nxt y n (nxt y n (nxt y n (nxt y n (nxt y n b))))), -1), itemT T v h o h) := by
  unfold rdItem
  rw [if_neg (fun h9 => h9 h12)]
  dsimp only
  rw [e1, e3, e5, nOf_nI (by omega), nOf_nI (by omega), nOf_nI (by omega)]
  change (if atB y n (it6 y n (b, -1)).1 [105, 110] = true then ((sNum y n 0 6 (sTk y n [105, 110] (it6 y n (b, -1))), itemT T v h o (nOf (vNum y n 0 6 (sTk y n [105, 110] (it6 y n (b, -1)))))) : RS × ST) else (sTk y n [105, 110] (it6 y n (b, -1)), itemT T v h o h)) = _
  rw [e6]
  dsimp only
  by_cases hin : atB y n (nxt y n (nxt y n (nxt y n (nxt y n (nxt y n (nxt y n b)))))) [105, 110] = true
  · rw [if_pos hin, if_pos hin]
    have e7 : sTk y n [105, 110] (nxt y n (nxt y n (nxt y n (nxt y n (nxt y n (nxt y n b))))), -1) = (nxt y n (nxt y n (nxt y n (nxt y n (nxt y n (nxt y n (nxt y n b)))))), -1) := by unfold sTk; rw [if_pos hin]
    rw [e7]
  · rw [if_neg hin, if_neg hin]
    have e7 : sTk y n [105, 110] (nxt y n (nxt y n (nxt y n (nxt y n (nxt y n (nxt y n b))))), -1) = (nxt y n (nxt y n (nxt y n (nxt y n (nxt y n (nxt y n b))))), -1) := by unfold sTk; rw [if_neg hin]
    rw [e7]
theorem itemT_o (T : ST) (v h o r : Nat) : itemT T v h o r = tu (tu (tu (tu (tu (tu (tu (tu T 0 (T 12 0) h) 1 (T 12 0) r) 2 (T 12 0) 0) 3 (T 12 0) v) 4 (T 12 0) o) 5 (T 12 0) r) 6 (T 12 0) 0) 12 0 (T 12 0 + 1) := by
  unfold itemT
  rw [tu_cm (a := 3) (c := 0) (by decide), tu_cm (a := 4) (c := 1) (by decide), tu_cm (a := 3) (c := 1) (by decide), tu_cm (a := 4) (c := 2) (by decide), tu_cm (a := 3) (c := 2) (by decide)]
def DPost (G : AH) (V n : Nat) (th hi ac tp ba dp io hm_ we sh so : Int32) (y : Nat → Nat) (mm : Nat → Int32) (sd : Int32) (u : RS × ST) (G1 : AH) : Prop := ∃ p2 nn, p2 ≤ n ∧ G1 = gs (gs G (V + 1) (aI 750 nn)) V (mO V th hi ac tp ba (nI n) (nI (p2)) (u.1.2) dp io hm_ we sh so) ∧ Keep mm nn ∧ (u.1.2 = -1 → skp y n p2 = u.1.1 ∧ MoR nn u.2 sd)
theorem DPost.bad {G : AH} {V n p2 : Nat} {th hi ac tp ba dp io hm_ we sh so sd w : Int32} {y : Nat → Nat} {mm : Nat → Int32} {u : RS × ST} (hm : G.1 (V + 1) = some (aI 750 mm)) (hp : p2 ≤ n) (hw : ¬ w = -1) (hu : u.1.2 = w) : DPost G V n th hi ac tp ba dp io hm_ we sh so y mm sd u (gs G V (mO V th hi ac tp ba (nI n) (nI (p2)) (w) dp io hm_ we sh so)) := ⟨p2, mm, hp, by rw [gs_id hm, hu], Keep.rf, fun h => absurd (hu.symm.trans h) hw⟩
theorem m_putX {E : EV} {V : Nat} {th hi ac tp ba en at_ fa dp io hm_ we sh so : Int32} {mm : Nat → Int32} {G : AH} {i w : Nat} {x : Int32} (hV : G.1 V = some (mO V th hi ac tp ba en at_ fa dp io hm_ we sh so)) (hm : G.1 (V + 1) = some (aI 750 mm)) (hi9 : i < 12) (hw : w < 7) : Cn E 1 kX8_put [.ref V, .int (nI i), .int (nI w), .int x] G (gs G (V + 1) (aI 750 (upd mm (26 + 7 * i + w) x))) := by
  refine Ct.intro rfl (by decide) [.ref V, .int (nI i), .int (nI w), .int x] (by simp [Value.category]) (Nat.le_of_ble_eq_true rfl) rfl ?_
  refine w_aload_n dX8_put_0 rfl ?_
  refine w_getf dX8_put_1 fl_X8_7 (by first | assumption | exact gs_at | (rw [gs_ne (by omega)]; (first | assumption | exact gs_at | (rw [gs_ne (by omega)]; (first | assumption | exact gs_at | (rw [gs_ne (by omega)]; (first | assumption | exact gs_at | (rw [gs_ne (by omega)]; (first | assumption | exact gs_at))))))))) rfl ?_
  refine w_bipush (v := nI 26) dX8_put_4 (by decide) ?_
  refine w_bipush (v := nI 7) dX8_put_6 (by decide) ?_
  refine w_iload_n dX8_put_8 rfl ?_
  first | refine w_imulN dX8_put_9 ?_ | refine w_imul dX8_put_9 ?_
  first | refine w_iaddN dX8_put_10 ?_ | refine w_iadd dX8_put_10 ?_
  refine w_iload_n dX8_put_11 rfl ?_
  first | refine w_iaddN dX8_put_12 ?_ | refine w_iadd dX8_put_12 ?_
  refine w_iload_n dX8_put_13 rfl ?_
  refine w_iastore dX8_put_14 (by first | assumption | exact gs_at | (rw [gs_ne (by omega)]; (first | assumption | exact gs_at | (rw [gs_ne (by omega)]; (first | assumption | exact gs_at | (rw [gs_ne (by omega)]; (first | assumption | exact gs_at | (rw [gs_ne (by omega)]; (first | assumption | exact gs_at))))))))) (by first | assumption | exact vp_in_nI (by omega) (by omega) | exact vp_in_nI (by assumption) (by omega)) ?_
  rw [nI_clamp (by omega)]
  refine w_vret dX8_put_15 rfl (Nat.le_of_ble_eq_true rfl) (Nat.le_of_ble_eq_true rfl) ?_
  exact ⟨rfl, rfl⟩
theorem ml_itF72 {E : EV} {Q : OC → AH → Prop} {V n p : Nat} {th hi ac tp ba fa dp io hm_ we sh so : Int32} {G : AH} {a1 a2 a3 a4 a5 : Int32} {g6 : Value} (hV : G.1 V = some (mO V th hi ac tp ba (nI n) (nI (p)) (fa) dp io hm_ we sh so)) (hf : ¬ fa = -1) (hQ : Q (.inl none) G) : Wp E 9 0 0 kX8_itemLine Q G (0, 0) 72 [.ref V, .int a1, .int a2, .int a3, .int a4, .int a5, g6] [] := by
  refine w_aload_n dX8_itemLine_72 rfl ?_
  refine w_getf dX8_itemLine_73 fl_X8_25 (by first | assumption | exact gs_at | (rw [gs_ne (by omega)]; (first | assumption | exact gs_at | (rw [gs_ne (by omega)]; (first | assumption | exact gs_at | (rw [gs_ne (by omega)]; (first | assumption | exact gs_at | (rw [gs_ne (by omega)]; (first | assumption | exact gs_at))))))))) rfl ?_
  refine w_iconst (v := (-1)) dX8_itemLine_76 (by decide) ?_
  refine w_icmp_eq (tgt := 81) dX8_itemLine_77 (by decide) (fun c_77 => ?_) (fun c_77 => ?_)
  · skip
    exact absurd c_77 hf
  · skip
    refine w_vret dX8_itemLine_80 rfl (Nat.le_of_ble_eq_true rfl) (Nat.le_of_ble_eq_true rfl) ?_
    exact hQ
theorem ml_itF70 {E : EV} {Q : OC → AH → Prop} {V n p : Nat} {th hi ac tp ba fa dp io hm_ we sh so : Int32} {G : AH} {a1 a2 a3 a4 st1 : Int32} {g5 g6 : Value} (hV : G.1 V = some (mO V th hi ac tp ba (nI n) (nI (p)) (fa) dp io hm_ we sh so)) (hf : ¬ fa = -1) (hQ : Q (.inl none) G) : Wp E 9 0 0 kX8_itemLine Q G (0, 0) 70 [.ref V, .int a1, .int a2, .int a3, .int a4, g5, g6] [.int st1] := by
  refine w_istore_5 dX8_itemLine_70 rfl ?_
  exact ml_itF72 hV hf hQ
theorem ml_itF41 {E : EV} {Q : OC → AH → Prop} {V n p : Nat} {th hi ac tp ba fa dp io hm_ we sh so : Int32} {G : AH} {a1 a2 a3 st1 : Int32} {g4 g5 g6 : Value} (hV : G.1 V = some (mO V th hi ac tp ba (nI n) (nI (p)) (fa) dp io hm_ we sh so)) (hf : ¬ fa = -1) (hQ : Q (.inl none) G) : Wp E 9 0 0 kX8_itemLine Q G (0, 0) 41 [.ref V, .int a1, .int a2, .int a3, g4, g5, g6] [.int st1] := by
  refine w_istore_4 dX8_itemLine_41 rfl ?_
  refine w_aload_n dX8_itemLine_43 rfl ?_
  refine w_getf dX8_itemLine_44 fl_X8_25 (by first | assumption | exact gs_at | (rw [gs_ne (by omega)]; (first | assumption | exact gs_at | (rw [gs_ne (by omega)]; (first | assumption | exact gs_at | (rw [gs_ne (by omega)]; (first | assumption | exact gs_at | (rw [gs_ne (by omega)]; (first | assumption | exact gs_at))))))))) rfl ?_
  refine w_iconst (v := (-1)) dX8_itemLine_47 (by decide) ?_
  refine w_icmp_ne (tgt := 69) dX8_itemLine_48 (by decide) (fun c_48 => ?_) (fun c_48 => ?_)
  · skip
    refine w_iload_n dX8_itemLine_69 rfl ?_
    exact ml_itF70 hV hf hQ
  · skip
    exact absurd c_48 hf
theorem ml_itF32 {E : EV} {Q : OC → AH → Prop} {V n p : Nat} {th hi ac tp ba fa dp io hm_ we sh so : Int32} {G : AH} {a1 a2 st1 : Int32} {g3 g4 g5 g6 : Value} (hV : G.1 V = some (mO V th hi ac tp ba (nI n) (nI (p)) (fa) dp io hm_ we sh so)) (hf : ¬ fa = -1) (hQ : Q (.inl none) G) : Wp E 9 0 0 kX8_itemLine Q G (0, 0) 32 [.ref V, .int a1, .int a2, g3, g4, g5, g6] [.int st1] := by
  refine w_istore_3 dX8_itemLine_32 rfl ?_
  refine w_aload_n dX8_itemLine_33 rfl ?_
  refine w_ldcS (i := 53) rfl rfl dX8_itemLine_34 ?_
  refine w_iconst (v := nI 0) dX8_itemLine_36 (by decide) ?_
  refine w_iconst (v := nI 1) dX8_itemLine_37 (by decide) ?_
  refine wV3u dX8_itemLine_38 lk_X8_95 rfl (by first | assumption | exact gs_at | (rw [gs_ne (by omega)]; (first | assumption | exact gs_at | (rw [gs_ne (by omega)]; (first | assumption | exact gs_at | (rw [gs_ne (by omega)]; (first | assumption | exact gs_at | (rw [gs_ne (by omega)]; (first | assumption | exact gs_at))))))))) rfl rfl (m_afterF (y := fun _ => 0) hV hf) (Nat.le_of_ble_eq_true rfl) (Nat.le_of_ble_eq_true rfl) (Nat.le_of_ble_eq_true rfl) (Nat.le_of_ble_eq_true rfl) ?_
  exact ml_itF41 hV hf hQ
theorem ml_itF23 {E : EV} {Q : OC → AH → Prop} {V n p : Nat} {th hi ac tp ba fa dp io hm_ we sh so : Int32} {G : AH} {a1 st1 : Int32} {g2 g3 g4 g5 g6 : Value} (hV : G.1 V = some (mO V th hi ac tp ba (nI n) (nI (p)) (fa) dp io hm_ we sh so)) (hf : ¬ fa = -1) (hQ : Q (.inl none) G) : Wp E 9 0 0 kX8_itemLine Q G (0, 0) 23 [.ref V, .int a1, g2, g3, g4, g5, g6] [.int st1] := by
  refine w_istore_2 dX8_itemLine_23 rfl ?_
  refine w_aload_n dX8_itemLine_24 rfl ?_
  refine w_ldcS (i := 48) rfl rfl dX8_itemLine_25 ?_
  refine w_iconst (v := nI 0) dX8_itemLine_27 (by decide) ?_
  refine w_iconst (v := nI 5) dX8_itemLine_28 (by decide) ?_
  refine wV3u dX8_itemLine_29 lk_X8_95 rfl (by first | assumption | exact gs_at | (rw [gs_ne (by omega)]; (first | assumption | exact gs_at | (rw [gs_ne (by omega)]; (first | assumption | exact gs_at | (rw [gs_ne (by omega)]; (first | assumption | exact gs_at | (rw [gs_ne (by omega)]; (first | assumption | exact gs_at))))))))) rfl rfl (m_afterF (y := fun _ => 0) hV hf) (Nat.le_of_ble_eq_true rfl) (Nat.le_of_ble_eq_true rfl) (Nat.le_of_ble_eq_true rfl) (Nat.le_of_ble_eq_true rfl) ?_
  exact ml_itF32 hV hf hQ
theorem ml_itF16 {E : EV} {Q : OC → AH → Prop} {V n p : Nat} {th hi ac tp ba fa dp io hm_ we sh so : Int32} {G : AH} {a1 : Int32} {g2 g3 g4 g5 g6 : Value} (hV : G.1 V = some (mO V th hi ac tp ba (nI n) (nI (p)) (fa) dp io hm_ we sh so)) (hf : ¬ fa = -1) (hQ : Q (.inl none) G) : Wp E 9 0 0 kX8_itemLine Q G (0, 0) 16 [.ref V, .int a1, g2, g3, g4, g5, g6] [] := by
  refine w_aload_n dX8_itemLine_16 rfl ?_
  refine w_iconst (v := nI 1) dX8_itemLine_17 (by decide) ?_
  refine w_bipush (v := nI 99) dX8_itemLine_18 (by decide) ?_
  refine wV2u dX8_itemLine_20 lk_X8_90 rfl (by first | assumption | exact gs_at | (rw [gs_ne (by omega)]; (first | assumption | exact gs_at | (rw [gs_ne (by omega)]; (first | assumption | exact gs_at | (rw [gs_ne (by omega)]; (first | assumption | exact gs_at | (rw [gs_ne (by omega)]; (first | assumption | exact gs_at))))))))) rfl rfl (m_figF (y := fun _ => 0) hV hf) (Nat.le_of_ble_eq_true rfl) (Nat.le_of_ble_eq_true rfl) (Nat.le_of_ble_eq_true rfl) (Nat.le_of_ble_eq_true rfl) ?_
  exact ml_itF23 hV hf hQ
theorem ml_itP {E : EV} {Q : OC → AH → Prop} {V n p : Nat} {th hi ac tp ba dp io hm_ we sh so : Int32} {mm : Nat → Int32} {T : ST} {sd : Int32} {G : AH} {a1 : Int32} {g6 : Value} {v h o r : Nat} (hV : G.1 V = some (mO V th hi ac tp ba (nI n) (nI (p)) (-1) dp io hm_ we sh so)) (hm : G.1 (V + 1) = some (aI 750 mm)) (hR : MoR mm T sd) (h12 : T 12 0 < 12) (hQ : ∀ nn, MoR nn (itemT T v h o r) sd → Keep mm nn → Q (.inl none) (gs (gs G (V + 1) (aI 750 nn)) V (mO V th hi ac tp ba (nI n) (nI (p)) (-1) dp io hm_ we sh so))) : Wp E 9 0 0 kX8_itemLine Q G (0, 0) 72 [.ref V, .int a1, .int (nI v), .int (nI h), .int (nI o), .int (nI r), g6] [] := by
  have r3 := hR.2.1
  refine w_aload_n dX8_itemLine_72 rfl ?_
  refine w_getf dX8_itemLine_73 fl_X8_25 (by first | assumption | exact gs_at | (rw [gs_ne (by omega)]; (first | assumption | exact gs_at | (rw [gs_ne (by omega)]; (first | assumption | exact gs_at | (rw [gs_ne (by omega)]; (first | assumption | exact gs_at | (rw [gs_ne (by omega)]; (first | assumption | exact gs_at))))))))) rfl ?_
  refine w_iconst (v := (-1)) dX8_itemLine_76 (by decide) ?_
  refine w_icmp_eq (tgt := 81) dX8_itemLine_77 (by decide) (fun c_77 => ?_) (fun c_77 => ?_)
  · skip
    refine w_aload_n dX8_itemLine_81 rfl ?_
    refine w_getf dX8_itemLine_82 fl_X8_7 (by first | assumption | exact gs_at | (rw [gs_ne (by omega)]; (first | assumption | exact gs_at | (rw [gs_ne (by omega)]; (first | assumption | exact gs_at | (rw [gs_ne (by omega)]; (first | assumption | exact gs_at | (rw [gs_ne (by omega)]; (first | assumption | exact gs_at))))))))) rfl ?_
    refine w_iconst (v := nI 3) dX8_itemLine_85 (by decide) ?_
    refine w_iaload dX8_itemLine_86 (by first | assumption | exact gs_at | (rw [gs_ne (by omega)]; (first | assumption | exact gs_at | (rw [gs_ne (by omega)]; (first | assumption | exact gs_at | (rw [gs_ne (by omega)]; (first | assumption | exact gs_at | (rw [gs_ne (by omega)]; (first | assumption | exact gs_at))))))))) (by first | assumption | exact vp_in_nI (by omega) (by omega) | exact vp_in_nI (by assumption) (by omega)) ?_
    rw [nI_clamp (by omega)]
    first | rw [r3] | rw [r4] | rw [r5] | rw [r6] | rw [r0] | rw [r11] | rw [r12] | rw [r7 _ (by omega)] | rw [r9 _ (by omega)] | rw [r14 _ (by omega)] | rw [r20 _ (by omega)] | rw [r26 _ _ (by omega) (by omega)] | skip
    refine w_istore_6 dX8_itemLine_87 rfl ?_
    refine w_aload_n dX8_itemLine_89 rfl ?_
    refine w_iload dX8_itemLine_90 rfl ?_
    refine w_iconst (v := nI 0) dX8_itemLine_92 (by decide) ?_
    refine w_iload_n dX8_itemLine_93 rfl ?_
    refine wV3n dX8_itemLine_94 lk_X8_103 rfl (by first | assumption | exact gs_at | (rw [gs_ne (by omega)]; (first | assumption | exact gs_at | (rw [gs_ne (by omega)]; (first | assumption | exact gs_at | (rw [gs_ne (by omega)]; (first | assumption | exact gs_at | (rw [gs_ne (by omega)]; (first | assumption | exact gs_at))))))))) rfl rfl (m_putX (i := T 12 0) (w := 0) hV hm h12 (by decide)) (Nat.le_of_ble_eq_true rfl) (Nat.le_of_ble_eq_true rfl) (Nat.le_of_ble_eq_true rfl) (Nat.le_of_ble_eq_true rfl) ?_
    refine w_aload_n dX8_itemLine_97 rfl ?_
    refine w_iload dX8_itemLine_98 rfl ?_
    refine w_iconst (v := nI 1) dX8_itemLine_100 (by decide) ?_
    refine w_iload dX8_itemLine_101 rfl ?_
    refine wV3n dX8_itemLine_103 lk_X8_103 rfl (by first | assumption | exact gs_at | (rw [gs_ne (by omega)]; (first | assumption | exact gs_at | (rw [gs_ne (by omega)]; (first | assumption | exact gs_at | (rw [gs_ne (by omega)]; (first | assumption | exact gs_at | (rw [gs_ne (by omega)]; (first | assumption | exact gs_at))))))))) rfl rfl (m_putX (i := T 12 0) (w := 1) (by rw [gs_ne (by omega)]; exact hV) gs_at h12 (by decide)) (Nat.le_of_ble_eq_true rfl) (Nat.le_of_ble_eq_true rfl) (Nat.le_of_ble_eq_true rfl) (Nat.le_of_ble_eq_true rfl) ?_
    rw [gs_gs]
    refine w_aload_n dX8_itemLine_106 rfl ?_
    refine w_iload dX8_itemLine_107 rfl ?_
    refine w_iconst (v := nI 2) dX8_itemLine_109 (by decide) ?_
    refine w_iconst (v := nI 0) dX8_itemLine_110 (by decide) ?_
    refine wV3n dX8_itemLine_111 lk_X8_103 rfl (by first | assumption | exact gs_at | (rw [gs_ne (by omega)]; (first | assumption | exact gs_at | (rw [gs_ne (by omega)]; (first | assumption | exact gs_at | (rw [gs_ne (by omega)]; (first | assumption | exact gs_at | (rw [gs_ne (by omega)]; (first | assumption | exact gs_at))))))))) rfl rfl (m_putX (i := T 12 0) (w := 2) (by rw [gs_ne (by omega)]; exact hV) gs_at h12 (by decide)) (Nat.le_of_ble_eq_true rfl) (Nat.le_of_ble_eq_true rfl) (Nat.le_of_ble_eq_true rfl) (Nat.le_of_ble_eq_true rfl) ?_
    rw [gs_gs]
    refine w_aload_n dX8_itemLine_114 rfl ?_
    refine w_iload dX8_itemLine_115 rfl ?_
    refine w_iconst (v := nI 3) dX8_itemLine_117 (by decide) ?_
    refine w_iload_n dX8_itemLine_118 rfl ?_
    refine wV3n dX8_itemLine_119 lk_X8_103 rfl (by first | assumption | exact gs_at | (rw [gs_ne (by omega)]; (first | assumption | exact gs_at | (rw [gs_ne (by omega)]; (first | assumption | exact gs_at | (rw [gs_ne (by omega)]; (first | assumption | exact gs_at | (rw [gs_ne (by omega)]; (first | assumption | exact gs_at))))))))) rfl rfl (m_putX (i := T 12 0) (w := 3) (by rw [gs_ne (by omega)]; exact hV) gs_at h12 (by decide)) (Nat.le_of_ble_eq_true rfl) (Nat.le_of_ble_eq_true rfl) (Nat.le_of_ble_eq_true rfl) (Nat.le_of_ble_eq_true rfl) ?_
    rw [gs_gs]
    refine w_aload_n dX8_itemLine_122 rfl ?_
    refine w_iload dX8_itemLine_123 rfl ?_
    refine w_iconst (v := nI 4) dX8_itemLine_125 (by decide) ?_
    refine w_iload dX8_itemLine_126 rfl ?_
    refine wV3n dX8_itemLine_128 lk_X8_103 rfl (by first | assumption | exact gs_at | (rw [gs_ne (by omega)]; (first | assumption | exact gs_at | (rw [gs_ne (by omega)]; (first | assumption | exact gs_at | (rw [gs_ne (by omega)]; (first | assumption | exact gs_at | (rw [gs_ne (by omega)]; (first | assumption | exact gs_at))))))))) rfl rfl (m_putX (i := T 12 0) (w := 4) (by rw [gs_ne (by omega)]; exact hV) gs_at h12 (by decide)) (Nat.le_of_ble_eq_true rfl) (Nat.le_of_ble_eq_true rfl) (Nat.le_of_ble_eq_true rfl) (Nat.le_of_ble_eq_true rfl) ?_
    rw [gs_gs]
    refine w_aload_n dX8_itemLine_131 rfl ?_
    refine w_iload dX8_itemLine_132 rfl ?_
    refine w_iconst (v := nI 5) dX8_itemLine_134 (by decide) ?_
    refine w_iload dX8_itemLine_135 rfl ?_
    refine wV3n dX8_itemLine_137 lk_X8_103 rfl (by first | assumption | exact gs_at | (rw [gs_ne (by omega)]; (first | assumption | exact gs_at | (rw [gs_ne (by omega)]; (first | assumption | exact gs_at | (rw [gs_ne (by omega)]; (first | assumption | exact gs_at | (rw [gs_ne (by omega)]; (first | assumption | exact gs_at))))))))) rfl rfl (m_putX (i := T 12 0) (w := 5) (by rw [gs_ne (by omega)]; exact hV) gs_at h12 (by decide)) (Nat.le_of_ble_eq_true rfl) (Nat.le_of_ble_eq_true rfl) (Nat.le_of_ble_eq_true rfl) (Nat.le_of_ble_eq_true rfl) ?_
    rw [gs_gs]
    refine w_aload_n dX8_itemLine_140 rfl ?_
    refine w_iload dX8_itemLine_141 rfl ?_
    refine w_bipush (v := nI 6) dX8_itemLine_143 (by decide) ?_
    refine w_iconst (v := nI 0) dX8_itemLine_145 (by decide) ?_
    refine wV3n dX8_itemLine_146 lk_X8_103 rfl (by first | assumption | exact gs_at | (rw [gs_ne (by omega)]; (first | assumption | exact gs_at | (rw [gs_ne (by omega)]; (first | assumption | exact gs_at | (rw [gs_ne (by omega)]; (first | assumption | exact gs_at | (rw [gs_ne (by omega)]; (first | assumption | exact gs_at))))))))) rfl rfl (m_putX (i := T 12 0) (w := 6) (by rw [gs_ne (by omega)]; exact hV) gs_at h12 (by decide)) (Nat.le_of_ble_eq_true rfl) (Nat.le_of_ble_eq_true rfl) (Nat.le_of_ble_eq_true rfl) (Nat.le_of_ble_eq_true rfl) ?_
    rw [gs_gs]
    refine w_aload_n dX8_itemLine_149 rfl ?_
    refine w_getf dX8_itemLine_150 fl_X8_7 (by first | assumption | exact gs_at | (rw [gs_ne (by omega)]; (first | assumption | exact gs_at | (rw [gs_ne (by omega)]; (first | assumption | exact gs_at | (rw [gs_ne (by omega)]; (first | assumption | exact gs_at | (rw [gs_ne (by omega)]; (first | assumption | exact gs_at))))))))) rfl ?_
    refine w_iconst (v := nI 3) dX8_itemLine_153 (by decide) ?_
    refine w_dup2 dX8_itemLine_154 rfl rfl ?_
    have e3 : (upd (upd (upd (upd (upd (upd (upd mm (26 + 7 * T 12 0 + 0) (nI h)) (26 + 7 * T 12 0 + 1) (nI r)) (26 + 7 * T 12 0 + 2) (nI 0)) (26 + 7 * T 12 0 + 3) (nI v)) (26 + 7 * T 12 0 + 4) (nI o)) (26 + 7 * T 12 0 + 5) (nI r)) (26 + 7 * T 12 0 + 6) (nI 0)) 3 = nI (T 12 0) := by rw [upd_ne (by omega), upd_ne (by omega), upd_ne (by omega), upd_ne (by omega), upd_ne (by omega), upd_ne (by omega), upd_ne (by omega)]; exact r3
    refine w_iaload dX8_itemLine_155 (by first | assumption | exact gs_at | (rw [gs_ne (by omega)]; (first | assumption | exact gs_at | (rw [gs_ne (by omega)]; (first | assumption | exact gs_at | (rw [gs_ne (by omega)]; (first | assumption | exact gs_at | (rw [gs_ne (by omega)]; (first | assumption | exact gs_at))))))))) (by first | assumption | exact vp_in_nI (by omega) (by omega) | exact vp_in_nI (by assumption) (by omega)) ?_
    rw [nI_clamp (by omega)]
    rw [e3]
    refine w_iconst (v := nI 1) dX8_itemLine_156 (by decide) ?_
    first | refine w_iaddN dX8_itemLine_157 ?_ | refine w_iadd dX8_itemLine_157 ?_
    refine w_iastore dX8_itemLine_158 (by first | assumption | exact gs_at | (rw [gs_ne (by omega)]; (first | assumption | exact gs_at | (rw [gs_ne (by omega)]; (first | assumption | exact gs_at | (rw [gs_ne (by omega)]; (first | assumption | exact gs_at | (rw [gs_ne (by omega)]; (first | assumption | exact gs_at))))))))) (by first | assumption | exact vp_in_nI (by omega) (by omega) | exact vp_in_nI (by assumption) (by omega)) ?_
    rw [nI_clamp (by omega)]
    refine w_vret dX8_itemLine_159 rfl (Nat.le_of_ble_eq_true rfl) (Nat.le_of_ble_eq_true rfl) ?_
    rw [gs_gs]
    have hR1 := hR.pi (i := T 12 0) (w := 0) (x := h) h12 (by decide)
    have hR2 := hR1.pi (i := T 12 0) (w := 1) (x := r) h12 (by decide)
    have hR3 := hR2.pi (i := T 12 0) (w := 2) (x := 0) h12 (by decide)
    have hR4 := hR3.pi (i := T 12 0) (w := 3) (x := v) h12 (by decide)
    have hR5 := hR4.pi (i := T 12 0) (w := 4) (x := o) h12 (by decide)
    have hR6 := hR5.pi (i := T 12 0) (w := 5) (x := r) h12 (by decide)
    have hR7 := hR6.pi (i := T 12 0) (w := 6) (x := 0) h12 (by decide)
    have hR8 := hR7.s0 (x := T 12 0 + 1)
    rw [← itemT_o] at hR8
    have hK8 : Keep mm _ := (Keep.up (mm := mm) (k := 26 + 7 * T 12 0 + 0) (x := nI h) (by omega) (by omega) (by omega)).tr ((Keep.up (k := 26 + 7 * T 12 0 + 1) (x := nI r) (by omega) (by omega) (by omega)).tr ((Keep.up (k := 26 + 7 * T 12 0 + 2) (x := nI 0) (by omega) (by omega) (by omega)).tr ((Keep.up (k := 26 + 7 * T 12 0 + 3) (x := nI v) (by omega) (by omega) (by omega)).tr ((Keep.up (k := 26 + 7 * T 12 0 + 4) (x := nI o) (by omega) (by omega) (by omega)).tr ((Keep.up (k := 26 + 7 * T 12 0 + 5) (x := nI r) (by omega) (by omega) (by omega)).tr ((Keep.up (k := 26 + 7 * T 12 0 + 6) (x := nI 0) (by omega) (by omega) (by omega)).tr (Keep.up (k := 3) (x := nI (T 12 0 + 1)) (by omega) (by omega) (by omega))))))))
    have h9 := hQ _ hR8 hK8
    rw [gs_id ((gs_ne (by omega)).trans hV)] at h9
    exact h9
  · skip
    exact absurd rfl c_77
theorem m_itemLine {E : EV} {V n b : Nat} {th hi ac tp ba dp io hm_ we sh so : Int32} {y : Nat → Nat} {mm : Nat → Int32} {T : ST} {sd : Int32} {G : AH} (hV : G.1 V = some (mO V th hi ac tp ba (nI n) (nI (tokE y n b)) (-1) dp io hm_ we sh so)) (hT : TxP G V ba y n) (hn : n ≤ 400) (hy : ∀ i, y i < 256) (hb0 : b ≤ n) (hm : G.1 (V + 1) = some (aI 750 mm)) (hR : MoR mm T sd) (hB : Bd T) (hit : atB y n b [105, 116, 101, 109] = true) : Cd E 9 kX8_itemLine [.ref V, .int (nI b)] G (DPost G V n th hi ac tp ba dp io hm_ we sh so y mm sd (rdItem y n (b, -1) T)) := by
  have hp := (tokE_le (y := y) hb0).2
  have hb1 : nxt y n b ≤ n := nxt_le hb0
  have hb2 : nxt y n (nxt y n b) ≤ n := nxt_le hb1
  have hb3 : nxt y n (nxt y n (nxt y n b)) ≤ n := nxt_le hb2
  have hb4 : nxt y n (nxt y n (nxt y n (nxt y n b))) ≤ n := nxt_le hb3
  have hb5 : nxt y n (nxt y n (nxt y n (nxt y n (nxt y n b)))) ≤ n := nxt_le hb4
  have hb6 : nxt y n (nxt y n (nxt y n (nxt y n (nxt y n (nxt y n b))))) ≤ n := nxt_le hb5
  have hb7 : nxt y n (nxt y n (nxt y n (nxt y n (nxt y n (nxt y n (nxt y n b)))))) ≤ n := nxt_le hb6
  have ht1 := (tokE_le (y := y) hb1).2
  have ht2 := (tokE_le (y := y) hb2).2
  have ht3 := (tokE_le (y := y) hb3).2
  have ht4 := (tokE_le (y := y) hb4).2
  have ht5 := (tokE_le (y := y) hb5).2
  have ht6 := (tokE_le (y := y) hb6).2
  have ht7 := (tokE_le (y := y) hb7).2
  have r3 := hR.2.1
  have b0_ := hB.1
  refine Ct.intro rfl (by decide) [.ref V, .int (nI b), .float 0, .float 0, .float 0, .float 0, .float 0] (by simp [Value.category]) (Nat.le_of_ble_eq_true rfl) rfl ?_
  refine w_aload_n dX8_itemLine_0 rfl ?_
  refine w_getf dX8_itemLine_1 fl_X8_7 (by first | assumption | exact gs_at | (rw [gs_ne (by omega)]; (first | assumption | exact gs_at | (rw [gs_ne (by omega)]; (first | assumption | exact gs_at | (rw [gs_ne (by omega)]; (first | assumption | exact gs_at | (rw [gs_ne (by omega)]; (first | assumption | exact gs_at))))))))) rfl ?_
  refine w_iconst (v := nI 3) dX8_itemLine_4 (by decide) ?_
  refine w_iaload dX8_itemLine_5 (by first | assumption | exact gs_at | (rw [gs_ne (by omega)]; (first | assumption | exact gs_at | (rw [gs_ne (by omega)]; (first | assumption | exact gs_at | (rw [gs_ne (by omega)]; (first | assumption | exact gs_at | (rw [gs_ne (by omega)]; (first | assumption | exact gs_at))))))))) (by first | assumption | exact vp_in_nI (by omega) (by omega) | exact vp_in_nI (by assumption) (by omega)) ?_
  rw [nI_clamp (by omega)]
  first | rw [r3] | rw [r4] | rw [r5] | rw [r6] | rw [r0] | rw [r11] | rw [r12] | rw [r7 _ (by omega)] | rw [r9 _ (by omega)] | rw [r14 _ (by omega)] | rw [r20 _ (by omega)] | rw [r26 _ _ (by omega) (by omega)] | skip
  refine w_bipush (v := nI 12) dX8_itemLine_6 (by decide) ?_
  refine w_icmp_ne (tgt := 16) dX8_itemLine_8 (by decide) (fun c_8 => ?_) (fun c_8 => ?_)
  · try simp (disch := omega) only [nI_b2, Decidable.not_not, nI_ltI, nI_leI, nI_eq, ge_iff_le, gt_iff_lt, ne_eq, Nat.not_lt, Nat.not_le] at c_8
    have h12 : T 12 0 < 12 := by omega
    refine w_aload_n dX8_itemLine_16 rfl ?_
    refine w_iconst (v := nI 1) dX8_itemLine_17 (by decide) ?_
    refine w_bipush (v := nI 99) dX8_itemLine_18 (by decide) ?_
    refine wV2i dX8_itemLine_20 lk_X8_90 rfl (by first | assumption | exact gs_at | (rw [gs_ne (by omega)]; (first | assumption | exact gs_at | (rw [gs_ne (by omega)]; (first | assumption | exact gs_at | (rw [gs_ne (by omega)]; (first | assumption | exact gs_at | (rw [gs_ne (by omega)]; (first | assumption | exact gs_at))))))))) rfl rfl (m_fig (lo := 1) (h9 := 100) hV hT hn hy hp (by decide) (by decide) rfl) (Nat.le_of_ble_eq_true rfl) (Nat.le_of_ble_eq_true rfl) (Nat.le_of_ble_eq_true rfl) (Nat.le_of_ble_eq_true rfl) (fun r_20 G1 h_20 => ?_)
    rcases h_20 with ⟨v, e1, e2, e3⟩ | ⟨e1, p2, v, e2, e3, e4⟩
    · subst e2; subst e3
      have e1 : numF y n (nxt y n b) 1 100 = some v := e1
      have hv := numF_lt e1
      refine w_istore_2 dX8_itemLine_23 rfl ?_
      refine w_aload_n dX8_itemLine_24 rfl ?_
      refine w_ldcS (i := 48) rfl rfl dX8_itemLine_25 ?_
      refine w_iconst (v := nI 0) dX8_itemLine_27 (by decide) ?_
      refine w_iconst (v := nI 5) dX8_itemLine_28 (by decide) ?_
      refine wV3i dX8_itemLine_29 lk_X8_95 rfl (by first | assumption | exact gs_at | (rw [gs_ne (by omega)]; (first | assumption | exact gs_at | (rw [gs_ne (by omega)]; (first | assumption | exact gs_at | (rw [gs_ne (by omega)]; (first | assumption | exact gs_at | (rw [gs_ne (by omega)]; (first | assumption | exact gs_at))))))))) rfl rfl (m_after (lo := 0) (h9 := 6) (ws := [104, 111, 109, 101]) rfl rfl (by decide) (by decide) gs_at hT.gs hn hy ht1 (by decide) (by decide) (by decide) (by decide) rfl) (Nat.le_of_ble_eq_true rfl) (Nat.le_of_ble_eq_true rfl) (Nat.le_of_ble_eq_true rfl) (Nat.le_of_ble_eq_true rfl) (fun r_29 G2 h_29 => ?_)
      rcases h_29 with ⟨eh, f2, f3⟩ | ⟨eh, ⟨h, e3, f2, f3⟩ | ⟨e3, p3, h, hp3, f2, f3⟩⟩
      · rw [gs_gs] at f3
        subst f2; subst f3
        have eh : ¬ atB y n (nxt y n (nxt y n b)) [104, 111, 109, 101] = true := eh
        exact ml_itF32 gs_at (nI_nm1 (show nxt y n (nxt y n b) < 2 ^ 31 by omega)) ⟨rfl, DPost.bad hm hb2 (nI_nm1 (show nxt y n (nxt y n b) < 2 ^ 31 by omega)) (it_bad h12 (nI_nm1 (show nxt y n (nxt y n b) < 2 ^ 31 by omega)) (by unfold it6; rw [nd_yes hit, (num_yes e1).1, nd_no eh]; exact num_w (nI_nm1 (show nxt y n (nxt y n b) < 2 ^ 31 by omega)) (nd_w (nI_nm1 (show nxt y n (nxt y n b) < 2 ^ 31 by omega)) (num_w (nI_nm1 (show nxt y n (nxt y n b) < 2 ^ 31 by omega)) (rfl)))))⟩
      · rw [gs_gs] at f3
        subst f2; subst f3
        have eh : atB y n (nxt y n (nxt y n b)) [104, 111, 109, 101] = true := eh
        have e3 : numF y n (nxt y n (nxt y n (nxt y n b))) 0 6 = some h := e3
        have hh := numF_lt e3
        refine w_istore_3 dX8_itemLine_32 rfl ?_
        refine w_aload_n dX8_itemLine_33 rfl ?_
        refine w_ldcS (i := 53) rfl rfl dX8_itemLine_34 ?_
        refine w_iconst (v := nI 0) dX8_itemLine_36 (by decide) ?_
        refine w_iconst (v := nI 1) dX8_itemLine_37 (by decide) ?_
        refine wV3i dX8_itemLine_38 lk_X8_95 rfl (by first | assumption | exact gs_at | (rw [gs_ne (by omega)]; (first | assumption | exact gs_at | (rw [gs_ne (by omega)]; (first | assumption | exact gs_at | (rw [gs_ne (by omega)]; (first | assumption | exact gs_at | (rw [gs_ne (by omega)]; (first | assumption | exact gs_at))))))))) rfl rfl (m_after (lo := 0) (h9 := 2) (ws := [115, 105, 100, 101]) rfl rfl (by decide) (by decide) gs_at hT.gs hn hy ht3 (by decide) (by decide) (by decide) (by decide) rfl) (Nat.le_of_ble_eq_true rfl) (Nat.le_of_ble_eq_true rfl) (Nat.le_of_ble_eq_true rfl) (Nat.le_of_ble_eq_true rfl) (fun r_38 G3 h_38 => ?_)
        rcases h_38 with ⟨es, g2, g3⟩ | ⟨es, ⟨o, e5, g2, g3⟩ | ⟨e5, p5, o, hp5, g2, g3⟩⟩
        · rw [gs_gs] at g3
          subst g2; subst g3
          have es : ¬ atB y n (nxt y n (nxt y n (nxt y n (nxt y n b)))) [115, 105, 100, 101] = true := es
          exact ml_itF41 gs_at (nI_nm1 (show nxt y n (nxt y n (nxt y n (nxt y n b))) < 2 ^ 31 by omega)) ⟨rfl, DPost.bad hm hb4 (nI_nm1 (show nxt y n (nxt y n (nxt y n (nxt y n b))) < 2 ^ 31 by omega)) (it_bad h12 (nI_nm1 (show nxt y n (nxt y n (nxt y n (nxt y n b))) < 2 ^ 31 by omega)) (by unfold it6; rw [nd_yes hit, (num_yes e1).1, nd_yes eh, (num_yes e3).1, nd_no es]; exact num_w (nI_nm1 (show nxt y n (nxt y n (nxt y n (nxt y n b))) < 2 ^ 31 by omega)) (rfl)))⟩
        · rw [gs_gs] at g3
          subst g2; subst g3
          have es : atB y n (nxt y n (nxt y n (nxt y n (nxt y n b)))) [115, 105, 100, 101] = true := es
          have e5 : numF y n (nxt y n (nxt y n (nxt y n (nxt y n (nxt y n b))))) 0 2 = some o := e5
          have ho := numF_lt e5
          have e6 : it6 y n (b, -1) = (nxt y n (nxt y n (nxt y n (nxt y n (nxt y n (nxt y n b))))), -1) := by unfold it6; rw [nd_yes hit, (num_yes e1).1, nd_yes eh, (num_yes e3).1, nd_yes es, (num_yes e5).1]
          have hin9 := it_in (T := T) h12 e6 (by rw [nd_yes hit]; exact (num_yes e1).2) (by rw [nd_yes hit, (num_yes e1).1, nd_yes eh]; exact (num_yes e3).2) (by rw [nd_yes hit, (num_yes e1).1, nd_yes eh, (num_yes e3).1, nd_yes es]; exact (num_yes e5).2) hv hh ho
          refine w_istore_4 dX8_itemLine_41 rfl ?_
          refine w_aload_n dX8_itemLine_43 rfl ?_
          refine w_getf dX8_itemLine_44 fl_X8_25 (by first | assumption | exact gs_at | (rw [gs_ne (by omega)]; (first | assumption | exact gs_at | (rw [gs_ne (by omega)]; (first | assumption | exact gs_at | (rw [gs_ne (by omega)]; (first | assumption | exact gs_at | (rw [gs_ne (by omega)]; (first | assumption | exact gs_at))))))))) rfl ?_
          refine w_iconst (v := (-1)) dX8_itemLine_47 (by decide) ?_
          refine w_icmp_ne (tgt := 69) dX8_itemLine_48 (by decide) (fun c_48 => ?_) (fun c_48 => ?_)
          · skip
            exact absurd rfl c_48
          · skip
            refine w_aload_n dX8_itemLine_51 rfl ?_
            refine w_ldcS (i := 58) rfl rfl dX8_itemLine_52 ?_
            refine wV1i dX8_itemLine_54 lk_X8_86 rfl (by first | assumption | exact gs_at | (rw [gs_ne (by omega)]; (first | assumption | exact gs_at | (rw [gs_ne (by omega)]; (first | assumption | exact gs_at | (rw [gs_ne (by omega)]; (first | assumption | exact gs_at | (rw [gs_ne (by omega)]; (first | assumption | exact gs_at))))))))) rfl rfl (m_has (ws := [105, 110]) rfl rfl (by decide) (by decide) (by decide) (by decide) gs_at hT.gs hn hy ht5) (Nat.le_of_ble_eq_true rfl) (Nat.le_of_ble_eq_true rfl) (Nat.le_of_ble_eq_true rfl) (Nat.le_of_ble_eq_true rfl) (fun r_54 G4 h_54 => ?_)
            obtain ⟨k2, k3⟩ := h_54
            subst k2
            have k3 : G4 = gs _ V _ := k3
            by_cases hinr : atB y n (skp y n (tokE y n (nxt y n (skp y n (tokE y n (nxt y n (skp y n (tokE y n (skp y n (tokE y n b)))))))))) [105, 110] = true
            · rw [if_pos hinr, gs_gs] at k3
              subst k3
              rw [b2, if_pos hinr]
              have hin : atB y n (nxt y n (nxt y n (nxt y n (nxt y n (nxt y n (nxt y n b)))))) [105, 110] = true := hinr
              rw [if_pos hin] at hin9
              refine w_ifN_eq (tgt := 69) dX8_itemLine_57 (by decide) (fun c_57 => ?_) (fun c_57 => ?_)
              · skip
                exact absurd c_57 (by decide)
              · skip
                refine w_aload_n dX8_itemLine_60 rfl ?_
                refine w_iconst (v := nI 0) dX8_itemLine_61 (by decide) ?_
                refine w_iconst (v := nI 5) dX8_itemLine_62 (by decide) ?_
                refine wV2i dX8_itemLine_63 lk_X8_90 rfl (by first | assumption | exact gs_at | (rw [gs_ne (by omega)]; (first | assumption | exact gs_at | (rw [gs_ne (by omega)]; (first | assumption | exact gs_at | (rw [gs_ne (by omega)]; (first | assumption | exact gs_at | (rw [gs_ne (by omega)]; (first | assumption | exact gs_at))))))))) rfl rfl (m_fig (lo := 0) (h9 := 6) gs_at hT.gs hn hy ht6 (by decide) (by decide) rfl) (Nat.le_of_ble_eq_true rfl) (Nat.le_of_ble_eq_true rfl) (Nat.le_of_ble_eq_true rfl) (Nat.le_of_ble_eq_true rfl) (fun r_63 G5 h_63 => ?_)
                refine w_goto (tgt := 70) dX8_itemLine_66 (by decide) ?_
                rcases h_63 with ⟨r, e7, q2, q3⟩ | ⟨e7, p7, r, hp7, q2, q3⟩
                · rw [gs_gs] at q3
                  subst q2; subst q3
                  have e7 : numF y n (nxt y n (nxt y n (nxt y n (nxt y n (nxt y n (nxt y n (nxt y n b))))))) 0 6 = some r := e7
                  have hr := numF_lt e7
                  rw [(num_yes e7).1, (num_yes e7).2, nOf_nI (by omega)] at hin9
                  refine w_istore_5 dX8_itemLine_70 rfl ?_
                  refine ml_itP gs_at ((gs_ne (by omega)).trans hm) hR h12 (fun nn a1 a2 => ⟨rfl, tokE y n (nxt y n (nxt y n (nxt y n (nxt y n (nxt y n (nxt y n (nxt y n b))))))), nn, ht7, ?_, a2, fun _ => ?_⟩)
                  · rw [hin9, gs_comm (a := V) (b := V + 1) (by omega), gs_gs]; rfl
                  · rw [hin9]; exact ⟨rfl, a1⟩
                · rw [gs_gs] at q3
                  subst q2; subst q3
                  have e7 : numF y n (nxt y n (nxt y n (nxt y n (nxt y n (nxt y n (nxt y n (nxt y n b))))))) 0 6 = none := e7
                  rw [num_no e7] at hin9
                  exact ml_itF70 gs_at (nI_nm1 (show nxt y n (nxt y n (nxt y n (nxt y n (nxt y n (nxt y n (nxt y n b)))))) < 2 ^ 31 by omega)) ⟨rfl, DPost.bad hm hp7 (nI_nm1 (show nxt y n (nxt y n (nxt y n (nxt y n (nxt y n (nxt y n (nxt y n b)))))) < 2 ^ 31 by omega)) (by rw [hin9]; rfl)⟩
            · rw [if_neg hinr, gs_gs] at k3
              subst k3
              rw [b2, if_neg hinr]
              have hin : ¬ atB y n (nxt y n (nxt y n (nxt y n (nxt y n (nxt y n (nxt y n b)))))) [105, 110] = true := hinr
              rw [if_neg hin] at hin9
              refine w_ifN_eq (tgt := 69) dX8_itemLine_57 (by decide) (fun c_57 => ?_) (fun c_57 => ?_)
              · skip
                refine w_iload_n dX8_itemLine_69 rfl ?_
                refine w_istore_5 dX8_itemLine_70 rfl ?_
                refine ml_itP gs_at ((gs_ne (by omega)).trans hm) hR h12 (fun nn a1 a2 => ⟨rfl, skp y n (tokE y n (nxt y n (nxt y n (nxt y n (nxt y n (nxt y n b)))))), nn, hb6, ?_, a2, fun _ => ?_⟩)
                · rw [hin9, gs_comm (a := V) (b := V + 1) (by omega), gs_gs]; rfl
                · rw [hin9]; exact ⟨skp_skp hn, a1⟩
              · skip
                exact absurd rfl c_57
        · rw [gs_gs] at g3
          subst g2; subst g3
          have es : atB y n (nxt y n (nxt y n (nxt y n (nxt y n b)))) [115, 105, 100, 101] = true := es
          have e5 : numF y n (nxt y n (nxt y n (nxt y n (nxt y n (nxt y n b))))) 0 2 = none := e5
          exact ml_itF41 gs_at (nI_nm1 (show nxt y n (nxt y n (nxt y n (nxt y n (nxt y n b)))) < 2 ^ 31 by omega)) ⟨rfl, DPost.bad hm hp5 (nI_nm1 (show nxt y n (nxt y n (nxt y n (nxt y n (nxt y n b)))) < 2 ^ 31 by omega)) (it_bad h12 (nI_nm1 (show nxt y n (nxt y n (nxt y n (nxt y n (nxt y n b)))) < 2 ^ 31 by omega)) (by unfold it6; rw [nd_yes hit, (num_yes e1).1, nd_yes eh, (num_yes e3).1, nd_yes es, num_no e5]; rfl))⟩
      · rw [gs_gs] at f3
        subst f2; subst f3
        have eh : atB y n (nxt y n (nxt y n b)) [104, 111, 109, 101] = true := eh
        have e3 : numF y n (nxt y n (nxt y n (nxt y n b))) 0 6 = none := e3
        exact ml_itF32 gs_at (nI_nm1 (show nxt y n (nxt y n (nxt y n b)) < 2 ^ 31 by omega)) ⟨rfl, DPost.bad hm hp3 (nI_nm1 (show nxt y n (nxt y n (nxt y n b)) < 2 ^ 31 by omega)) (it_bad h12 (nI_nm1 (show nxt y n (nxt y n (nxt y n b)) < 2 ^ 31 by omega)) (by unfold it6; rw [nd_yes hit, (num_yes e1).1, nd_yes eh, num_no e3]; exact num_w (nI_nm1 (show nxt y n (nxt y n (nxt y n b)) < 2 ^ 31 by omega)) (nd_w (nI_nm1 (show nxt y n (nxt y n (nxt y n b)) < 2 ^ 31 by omega)) (rfl))))⟩
    · subst e3; subst e4
      have e1 : numF y n (nxt y n b) 1 100 = none := e1
      exact ml_itF23 gs_at (nI_nm1 (show nxt y n b < 2 ^ 31 by omega)) ⟨rfl, DPost.bad hm e2 (nI_nm1 (show nxt y n b < 2 ^ 31 by omega)) (it_bad h12 (nI_nm1 (show nxt y n b < 2 ^ 31 by omega)) (by unfold it6; rw [nd_yes hit, num_no e1]; exact num_w (nI_nm1 (show nxt y n b < 2 ^ 31 by omega)) (nd_w (nI_nm1 (show nxt y n b < 2 ^ 31 by omega)) (num_w (nI_nm1 (show nxt y n b < 2 ^ 31 by omega)) (nd_w (nI_nm1 (show nxt y n b < 2 ^ 31 by omega)) (rfl))))))⟩
  · try simp (disch := omega) only [nI_b2, Decidable.not_not, nI_ltI, nI_leI, nI_eq, ge_iff_le, gt_iff_lt, ne_eq, Nat.not_lt, Nat.not_le] at c_8
    refine w_aload_n dX8_itemLine_11 rfl ?_
    refine w_iload_n dX8_itemLine_12 rfl ?_
    refine wV1n dX8_itemLine_13 lk_X8_82 rfl (by first | assumption | exact gs_at | (rw [gs_ne (by omega)]; (first | assumption | exact gs_at | (rw [gs_ne (by omega)]; (first | assumption | exact gs_at | (rw [gs_ne (by omega)]; (first | assumption | exact gs_at | (rw [gs_ne (by omega)]; (first | assumption | exact gs_at))))))))) rfl rfl (m_wrongF hV) (Nat.le_of_ble_eq_true rfl) (Nat.le_of_ble_eq_true rfl) (Nat.le_of_ble_eq_true rfl) (Nat.le_of_ble_eq_true rfl) ?_
    exact ml_itF16 gs_at (nI_nm1 (show b < 2 ^ 31 by omega)) ⟨rfl, DPost.bad hm hp (nI_nm1 (show b < 2 ^ 31 by omega)) (by unfold rdItem; rw [if_pos (by omega)]; exact (if_pos rfl : (if (-1 : Int32) = -1 then nI b else -1) = nI b))⟩
