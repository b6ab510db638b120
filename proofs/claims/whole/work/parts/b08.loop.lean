/-! the law's loop and its start -/
theorem law_sw {E : EV} {G : AH} {cs : Nat × Nat} {v5 v6 : Value} {j : Nat} (hL : (eX E).2.1 ≤ 3072) (hj : j + 6 ≤ (eX E).2.1) (hJ : JJ E G) (h1 : cs.1 + 3 ≤ 601024) (h2 : cs.2 + 18 ≤ 7293034) (kN : ∀ (G9 : AH) (cs9 : Nat × Nat) (u5 u6 : Value), JJ E G9 → cs9.1 ≤ cs.1 + 3 → cs9.2 ≤ cs.2 + 18 → WL E G9 cs9 2655 (LL E j u5 u6) []) : ∀ m, m < 54 → WL E G cs 40 (LL E j v5 v6) [.int (nI m)] := by
  intro m hm
  match m, hm with
  | 0, _ => exact w_tabIn (tgt := 272) (off := 232) dLM_40 (by decide) (by decide) rfl (by decide) (law_c0 hL hj hJ h1 h2 kN)
  | 1, _ => exact w_tabIn (tgt := 345) (off := 305) dLM_40 (by decide) (by decide) rfl (by decide) (law_c1 hL hj hJ h1 h2 kN)
  | 2, _ => exact w_tabIn (tgt := 370) (off := 330) dLM_40 (by decide) (by decide) rfl (by decide) (law_c2 hL hj hJ h1 h2 kN)
  | 3, _ => exact w_tabIn (tgt := 414) (off := 374) dLM_40 (by decide) (by decide) rfl (by decide) (law_c3 hL hj hJ h1 h2 kN)
  | 4, _ => exact w_tabIn (tgt := 458) (off := 418) dLM_40 (by decide) (by decide) rfl (by decide) (law_c4 hL hj hJ h1 h2 kN)
  | 5, _ => exact w_tabIn (tgt := 471) (off := 431) dLM_40 (by decide) (by decide) rfl (by decide) (law_c5 hL hj hJ h1 h2 kN)
  | 6, _ => exact w_tabIn (tgt := 539) (off := 499) dLM_40 (by decide) (by decide) rfl (by decide) (law_c6 hL hj hJ h1 h2 kN)
  | 7, _ => exact w_tabIn (tgt := 607) (off := 567) dLM_40 (by decide) (by decide) rfl (by decide) (law_c7 hL hj hJ h1 h2 kN)
  | 8, _ => exact w_tabIn (tgt := 675) (off := 635) dLM_40 (by decide) (by decide) rfl (by decide) (law_c8 hL hj hJ h1 h2 kN)
  | 9, _ => exact w_tabIn (tgt := 743) (off := 703) dLM_40 (by decide) (by decide) rfl (by decide) (law_c9 hL hj hJ h1 h2 kN)
  | 10, _ => exact w_tabIn (tgt := 811) (off := 771) dLM_40 (by decide) (by decide) rfl (by decide) (law_c10 hL hj hJ h1 h2 kN)
  | 11, _ => exact w_tabIn (tgt := 879) (off := 839) dLM_40 (by decide) (by decide) rfl (by decide) (law_c11 hL hj hJ h1 h2 kN)
  | 12, _ => exact w_tabIn (tgt := 935) (off := 895) dLM_40 (by decide) (by decide) rfl (by decide) (law_c12 hL hj hJ h1 h2 kN)
  | 13, _ => exact w_tabIn (tgt := 991) (off := 951) dLM_40 (by decide) (by decide) rfl (by decide) (law_c13 hL hj hJ h1 h2 kN)
  | 14, _ => exact w_tabIn (tgt := 1059) (off := 1019) dLM_40 (by decide) (by decide) rfl (by decide) (law_c14 hL hj hJ h1 h2 kN)
  | 15, _ => exact w_tabIn (tgt := 1072) (off := 1032) dLM_40 (by decide) (by decide) rfl (by decide) (law_c15 hL hj hJ h1 h2 kN)
  | 16, _ => exact w_tabIn (tgt := 1128) (off := 1088) dLM_40 (by decide) (by decide) rfl (by decide) (law_c16 hL hj hJ h1 h2 kN)
  | 17, _ => exact w_tabIn (tgt := 1208) (off := 1168) dLM_40 (by decide) (by decide) rfl (by decide) (law_c17 hL hj hJ h1 h2 kN)
  | 18, _ => exact w_tabIn (tgt := 1221) (off := 1181) dLM_40 (by decide) (by decide) rfl (by decide) (law_c18 hL hj hJ h1 h2 kN)
  | 19, _ => exact w_tabIn (tgt := 1234) (off := 1194) dLM_40 (by decide) (by decide) rfl (by decide) (law_c19 hL hj hJ h1 h2 kN)
  | 20, _ => exact w_tabIn (tgt := 1247) (off := 1207) dLM_40 (by decide) (by decide) rfl (by decide) (law_c20 hL hj hJ h1 h2 kN)
  | 21, _ => exact w_tabIn (tgt := 1260) (off := 1220) dLM_40 (by decide) (by decide) rfl (by decide) (law_c21 hL hj hJ h1 h2 kN)
  | 22, _ => exact w_tabIn (tgt := 1301) (off := 1261) dLM_40 (by decide) (by decide) rfl (by decide) (law_c22 hL hj hJ h1 h2 kN)
  | 23, _ => exact w_tabIn (tgt := 1314) (off := 1274) dLM_40 (by decide) (by decide) rfl (by decide) (law_c23 hL hj hJ h1 h2 kN)
  | 24, _ => exact w_tabIn (tgt := 1370) (off := 1330) dLM_40 (by decide) (by decide) rfl (by decide) (law_c24 hL hj hJ h1 h2 kN)
  | 25, _ => exact w_tabIn (tgt := 1454) (off := 1414) dLM_40 (by decide) (by decide) rfl (by decide) (law_c25 hL hj hJ h1 h2 kN)
  | 26, _ => exact w_tabIn (tgt := 1479) (off := 1439) dLM_40 (by decide) (by decide) rfl (by decide) (law_c26 hL hj hJ h1 h2 kN)
  | 27, _ => exact w_tabIn (tgt := 1492) (off := 1452) dLM_40 (by decide) (by decide) rfl (by decide) (law_c27 hL hj hJ h1 h2 kN)
  | 28, _ => exact w_tabIn (tgt := 1560) (off := 1520) dLM_40 (by decide) (by decide) rfl (by decide) (law_c28 hL hj hJ h1 h2 kN)
  | 29, _ => exact w_tabIn (tgt := 1640) (off := 1600) dLM_40 (by decide) (by decide) rfl (by decide) (law_c29 hL hj hJ h1 h2 kN)
  | 30, _ => exact w_tabIn (tgt := 1653) (off := 1613) dLM_40 (by decide) (by decide) rfl (by decide) (law_c30 hL hj hJ h1 h2 kN)
  | 31, _ => exact w_tabIn (tgt := 1666) (off := 1626) dLM_40 (by decide) (by decide) rfl (by decide) (law_c31 hL hj hJ h1 h2 kN)
  | 32, _ => exact w_tabIn (tgt := 1722) (off := 1682) dLM_40 (by decide) (by decide) rfl (by decide) (law_c32 hL hj hJ h1 h2 kN)
  | 33, _ => exact w_tabIn (tgt := 1778) (off := 1738) dLM_40 (by decide) (by decide) rfl (by decide) (law_c33 hL hj hJ h1 h2 kN)
  | 34, _ => exact w_tabIn (tgt := 1846) (off := 1806) dLM_40 (by decide) (by decide) rfl (by decide) (law_c34 hL hj hJ h1 h2 kN)
  | 35, _ => exact w_tabIn (tgt := 1914) (off := 1874) dLM_40 (by decide) (by decide) rfl (by decide) (law_c35 hL hj hJ h1 h2 kN)
  | 36, _ => exact w_tabIn (tgt := 1970) (off := 1930) dLM_40 (by decide) (by decide) rfl (by decide) (law_c36 hL hj hJ h1 h2 kN)
  | 37, _ => exact w_tabIn (tgt := 2026) (off := 1986) dLM_40 (by decide) (by decide) rfl (by decide) (law_c37 hL hj hJ h1 h2 kN)
  | 38, _ => exact w_tabIn (tgt := 2067) (off := 2027) dLM_40 (by decide) (by decide) rfl (by decide) (law_c38 hL hj hJ h1 h2 kN)
  | 39, _ => exact w_tabIn (tgt := 2080) (off := 2040) dLM_40 (by decide) (by decide) rfl (by decide) (law_c39 hL hj hJ h1 h2 kN)
  | 40, _ => exact w_tabIn (tgt := 2093) (off := 2053) dLM_40 (by decide) (by decide) rfl (by decide) (law_c40 hL hj hJ h1 h2 kN)
  | 41, _ => exact w_tabIn (tgt := 2106) (off := 2066) dLM_40 (by decide) (by decide) rfl (by decide) (law_c41 hL hj hJ h1 h2 kN)
  | 42, _ => exact w_tabIn (tgt := 2119) (off := 2079) dLM_40 (by decide) (by decide) rfl (by decide) (law_c42 hL hj hJ h1 h2 kN)
  | 43, _ => exact w_tabIn (tgt := 2191) (off := 2151) dLM_40 (by decide) (by decide) rfl (by decide) (law_c43 hL hj hJ h1 h2 kN)
  | 44, _ => exact w_tabIn (tgt := 2235) (off := 2195) dLM_40 (by decide) (by decide) rfl (by decide) (law_c44 hL hj hJ h1 h2 kN)
  | 45, _ => exact w_tabIn (tgt := 2248) (off := 2208) dLM_40 (by decide) (by decide) rfl (by decide) (law_c45 hL hj hJ h1 h2 kN)
  | 46, _ => exact w_tabIn (tgt := 2332) (off := 2292) dLM_40 (by decide) (by decide) rfl (by decide) (law_c46 hL hj hJ h1 h2 kN)
  | 47, _ => exact w_tabIn (tgt := 2416) (off := 2376) dLM_40 (by decide) (by decide) rfl (by decide) (law_c47 hL hj hJ h1 h2 kN)
  | 48, _ => exact w_tabIn (tgt := 2500) (off := 2460) dLM_40 (by decide) (by decide) rfl (by decide) (law_c48 hL hj hJ h1 h2 kN)
  | 49, _ => exact w_tabIn (tgt := 2568) (off := 2528) dLM_40 (by decide) (by decide) rfl (by decide) (law_c49 hL hj hJ h1 h2 kN)
  | 50, _ => exact w_tabIn (tgt := 2593) (off := 2553) dLM_40 (by decide) (by decide) rfl (by decide) (law_c50 hL hj hJ h1 h2 kN)
  | 51, _ => exact w_tabIn (tgt := 2606) (off := 2566) dLM_40 (by decide) (by decide) rfl (by decide) (law_c51 hL hj hJ h1 h2 kN)
  | 52, _ => exact w_tabIn (tgt := 2617) (off := 2577) dLM_40 (by decide) (by decide) rfl (by decide) (law_c52 hL hj hJ h1 h2 kN)
  | 53, _ => exact w_tabIn (tgt := 2630) (off := 2590) dLM_40 (by decide) (by decide) rfl (by decide) (law_c53 hL hj hJ h1 h2 kN)
  | n + 54, h => exact absurd h (by omega)
theorem law_end {n j : Nat} (hn : n ≤ 3072) (hj : j ≤ 3077) (h : ¬ nI n - nI 6 < nI j) : j + 6 ≤ n := by
  rcases Nat.lt_or_ge n 6 with c | c
  · exfalso
    apply h
    have e : ∀ k, k < 6 → nI k - nI 6 < nI 0 := by decide
    refine Int32.lt_iff_toInt_lt.mpr ?_
    have e1 := Int32.lt_iff_toInt_lt.mp (e n c)
    rw [nI_toInt (by decide)] at e1
    rw [nI_toInt (by omega)]
    omega
  · have e : nI n - nI 6 = nI (n - 6) := by
      have e2 : nI n = nI (n - 6) + nI 6 := by rw [nI_add, Nat.sub_add_cancel c]
      rw [e2, Int32.add_sub_cancel]
    rw [e, Int32.lt_iff_toInt_lt, nI_toInt (by omega), nI_toInt (by omega)] at h
    omega
theorem law_loop {E : EV} (hL : (eX E).2.1 ≤ 3072) : ∀ (k j : Nat) (G : AH) (cs : Nat × Nat) (v5 v6 : Value), (eX E).2.1 + 6 - j < k → j ≤ (eX E).2.1 + 5 → cs.1 ≤ 1000 + 3 * j → cs.2 ≤ 20000 + 18 * j → JJ E G → WL E G cs 23 (LL E j v5 v6) [] := by
  intro k
  induction k with
  | zero => intro j G cs v5 v6 h; exact absurd h (Nat.not_lt_zero _)
  | succ k ih =>
    intro j G cs v5 v6 hk hj h1 h2 hJ
    refine w_iload dLM_23 rfl ?_
    refine w_aload_n dLM_25 rfl ?_
    refine w_scrlen dLM_26 ?_
    refine w_bipush (v := nI 6) dLM_27 (by decide) ?_
    refine w_isub dLM_29 ?_
    refine w_icmp_gt (tgt := 2661) dLM_30 (by decide) (fun c => ?_) (fun c => ?_)
    · refine w_iconst (v := nI 1) dLM_2661 (by decide) ?_
      exact w_zret dLM_2662 rfl rfl (by omega) (by omega) rfl
    · have hj6 : j + 6 ≤ (eX E).2.1 := law_end hL (by omega) c
      have kN : ∀ (G9 : AH) (cs9 : Nat × Nat) (u5 u6 : Value), JJ E G9 → cs9.1 ≤ cs.1 + 3 → cs9.2 ≤ cs.2 + 18 → WL E G9 cs9 2655 (LL E j u5 u6) [] := by
        intro G9 cs9 u5 u6 hJ9 g1 g2
        refine w_iinc_4 (v := nI (j + 6)) dLM_2655 (by rw [show (Int32.ofInt 6 : Int32) = nI 6 from by decide, nI_add]) rfl ?_
        refine w_goto (tgt := 23) dLM_2658 (by decide) ?_
        exact ih (j + 6) G9 cs9 u5 u6 (by omega) (by omega) (by omega) (by omega) hJ9
      refine w_aload_n dLM_33 rfl ?_
      refine w_iload dLM_34 rfl ?_
      refine w_scr dLM_36 (vp_in_nI (by omega) (by omega)) ?_
      refine w_bipush (v := nI 63) dLM_37 (by decide) ?_
      refine w_iand dLM_39 ?_
      generalize (eX E).2.2 (nI j).toNatClampNeg &&& nI 63 = a
      by_cases ha : ¬ a < nI 0 ∧ a < nI 54
      · obtain ⟨m, hm, rfl⟩ := in_N (by decide) ha
        exact law_sw hL hj6 hJ (by omega) (by omega) kN m hm
      · refine w_tabOut (tgt := 2655) dLM_40 ?_ (by decide) (kN G cs v5 v6 hJ (by omega) (by omega))
        rw [Int32.lt_iff_toInt_lt, Int32.lt_iff_toInt_lt, nI_toInt (by decide), nI_toInt (by decide)] at ha
        omega
theorem law_init {E : EV} {G : AH} {ov : Nat → Int64} (hH : HI G (eB E) 0 (fun _ => 0) (-1) T0 (nI 1) D0 0 T0 (nI 1) D0 0 0 (fun _ => (T0, nI 1)) (eB E + 37) (eB E + 43)) (h0 : G.1 (eB E + 246) = some (mO (eB E + 246) 0 0 0 0 0 0 0 (-1) 0 0 0 0 0 0)) (h1 : G.1 (eB E + 246 + 1) = some (aI 750 (mI 6))) (h2 : G.1 (eB E + 246 + 2) = some (aI 750 (fun _ => 0))) (h3 : G.1 (eB E + 246 + 3) = some (aI 350 (fun _ => 0))) (h4 : G.1 (eB E + 246 + 4) = some (aI 4200 (fun _ => 0))) (h5 : G.1 (eB E + 246 + 5) = some (aI 400 (fun _ => 0))) (h6 : G.1 (eB E + 246 + 6) = some (aI 7 (fun _ => 0))) (h7 : G.1 (eB E + 246 + 7) = some (aI 64 (fun _ => 0))) (h8 : G.1 (eB E + 246 + 8) = some (aZ 36 (fun _ => 0))) (hO : G.1 (eB E + 255) = some (aJ 1 ov)) : JJ E G :=
  ⟨nI 0, _, _, _, _, _, _, _, _, _, _, _, _, _, _, _, hH, ⟨⟨_, _, _, _, _, _, _, _, _, h0⟩, ⟨_, h1, mI_R, ⟨mI_1, Or.inl ⟨rfl, rfl⟩⟩, _, h4, ActR.nil⟩, ⟨_, h2, fun h => absurd h (by decide)⟩, ⟨_, h3⟩, h5, ⟨_, h6⟩, ⟨_, h7⟩, _, h8⟩, _, hO⟩
/-- the law, from its entry: it comes to its end with 1 -/
theorem law_ok {E : EV} {G : AH} (hG : G.2 = eB E) (hL : (eX E).2.1 ≤ 3072) : Ct E 62 601024 7293034 KL [.ref (eX E).1] G QL := by
  refine Ct.intro rfl (by decide) [.ref (eX E).1, .float 0, .float 0, .float 0, .float 0, .float 0, .float 0] (by simp [Value.category]) (Nat.le_of_ble_eq_true rfl) rfl ?_
  refine w_newA (b := eB E) (ci := 7) dLM_0 rfl u_24 u_25 u_1 df_X7 hG (Nat.le_refl _) (Nat.le_of_ble_eq_true rfl) (Nat.le_of_ble_eq_true rfl) ?_
  refine w_dup dLM_3 rfl ?_
  refine wc_I (rest := [.ref (eB E)]) (As := []) dLM_4 lk_L_110 rfl (by rfl) (Nat.le_of_ble_eq_true rfl) (c_init7 nw_at nw_sz (Nat.le_refl _)) rfl (by simp [Value.category]) (Nat.le_of_ble_eq_true rfl) (Nat.le_of_ble_eq_true rfl) ?_ (fun X G9 h => by cases h.1)
  rintro o G1 ⟨ho, z1, lo1, hH⟩
  cases ho
  refine w_astore_1 dLM_7 rfl ?_
  refine w_newA (b := eB E + 246) (ci := 8) dLM_8 rfl u_1224 u_1225 u_9 df_X8 z1 (by omega) (Nat.le_of_ble_eq_true rfl) (Nat.le_of_ble_eq_true rfl) ?_
  refine w_dup dLM_11 rfl ?_
  refine wc_I (rest := [.ref (eB E + 246)]) (As := []) dLM_12 lk_L_113 rfl (by rfl) (Nat.le_of_ble_eq_true rfl) (c_init8 nw_at nw_sz (by omega)) rfl (by simp [Value.category]) (Nat.le_of_ble_eq_true rfl) (Nat.le_of_ble_eq_true rfl) ?_ (fun X G9 h => by cases h.1)
  rintro o G2 ⟨ho, z2, lo2, h0, h1, h2, h3, h4, h5, h6, h7, h8⟩
  cases ho
  refine w_astore_2 dLM_15 rfl ?_
  refine w_iconst (v := nI 1) dLM_16 (by decide) ?_
  have z3 : G2.2 = eB E + 255 := by rw [z2]
  refine w_newJ (N := 1) dLM_17 u_1794 (by decide) (by decide) (by decide) (by omega) (Nat.le_of_ble_eq_true rfl) (Nat.le_of_ble_eq_true rfl) ?_
  rw [gn_nw z3, z3]
  refine w_astore_3 dLM_19 rfl ?_
  refine w_iconst (v := nI 0) dLM_20 (by decide) ?_
  refine w_istore_4 dLM_21 rfl ?_
  have hH2 : HI (nw G2 (eB E + 255) (aJ 1 (fun _ => 0))) (eB E) 0 (fun _ => 0) (-1) T0 (nI 1) D0 0 T0 (nI 1) D0 0 0 (fun _ => (T0, nI 1)) (eB E + 37) (eB E + 43) := hH.mv (fun q a c => (nw_ne (by omega)).trans ((lo2 q (by omega)).trans (nw_ne (by omega))))
  refine law_loop hL ((eX E).2.1 + 7) 0 _ _ _ _ (by omega) (by omega) (Nat.le_of_ble_eq_true rfl) (Nat.le_of_ble_eq_true rfl) ?_
  exact law_init hH2 ((nw_ne (by omega)).trans h0) ((nw_ne (by omega)).trans h1) ((nw_ne (by omega)).trans h2) ((nw_ne (by omega)).trans h3) ((nw_ne (by omega)).trans h4) ((nw_ne (by omega)).trans h5) ((nw_ne (by omega)).trans h6) ((nw_ne (by omega)).trans h7) ((nw_ne (by omega)).trans h8) nw_at
