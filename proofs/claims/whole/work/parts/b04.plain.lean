/-! plain calls of both -/
section PAD
variable {E : EV} {G : AH}
theorem pd_fault (hJ : JJ E G) : Ct E 1 0 0 kX7_fault [.ref (eB E)] G (DPst E kX8_fault []) := by
  obtain ⟨th, tn, f, wb, T, sd, D, im, Ti, si, Di, nw, rm, P, ru, sp, hH, hM, hO⟩ := hJ
  have hX := OKX.of hH
  refine Ct.imp (c_fault hH.1) ?_
  rintro o G1 ⟨rfl, rfl⟩
  refine mkD (d := 1) (Nat.le_of_ble_eq_true rfl) hM hO rfl FH.rf hH (fun G9 hM9 => ?_)
  obtain ⟨⟨ba, en, at_, dp, io, hm_, we, sh, so, h0⟩, ⟨mm, h1, hR, hL9, ac, h4, hA⟩, ⟨kk, h2, hK⟩, ⟨a3, h3⟩, h5, h6, h7, h8⟩ := id hM9
  obtain ⟨hB, hD, ⟨htn, him, hnw, hrm⟩, hf, hBi, hPB⟩ := hX
  refine Ct.imp (m_fault h0) ?_
  rintro o G3 ⟨rfl, rfl⟩
  exact ⟨_, rfl, rfl, ⟨_, hM9.ob ⟨_, _, _, _, _, _, _, _, _, rfl⟩⟩, FV.rf.gs (by omega) (by omega)⟩
theorem pd_missing (hJ : JJ E G) : Ct E 4 0 0 kX7_missing [.ref (eB E)] G (DPst E kX8_missing []) := by
  obtain ⟨th, tn, f, wb, T, sd, D, im, Ti, si, Di, nw, rm, P, ru, sp, hH, hM, hO⟩ := hJ
  have hX := OKX.of hH
  refine Ct.imp (c_missing hH) ?_
  rintro o G1 ⟨rfl, rfl⟩
  refine mkD (d := 4) (Nat.le_of_ble_eq_true rfl) hM hO rfl FH.rf hH (fun G9 hM9 => ?_)
  obtain ⟨⟨ba, en, at_, dp, io, hm_, we, sh, so, h0⟩, ⟨mm, h1, hR, hL9, ac, h4, hA⟩, ⟨kk, h2, hK⟩, ⟨a3, h3⟩, h5, h6, h7, h8⟩ := id hM9
  obtain ⟨hB, hD, ⟨htn, him, hnw, hrm⟩, hf, hBi, hPB⟩ := hX
  refine Ct.imp (m_missing h0 h1 hR hB) ?_
  rintro o G3 ⟨rfl, rfl⟩
  exact ⟨_, rfl, rfl, ⟨_, hM9.ob ⟨_, _, _, _, _, _, _, _, _, rfl⟩⟩, FV.rf.gs (by omega) (by omega)⟩
theorem pd_worse (hJ : JJ E G) : Ct E 3 0 0 kX7_worse [.ref (eB E)] G (DPst E kX8_worse []) := by
  obtain ⟨th, tn, f, wb, T, sd, D, im, Ti, si, Di, nw, rm, P, ru, sp, hH, hM, hO⟩ := hJ
  have hX := OKX.of hH
  refine Ct.imp (c_worse hH) ?_
  rintro o G1 ⟨rfl, rfl⟩
  refine mkD (d := 3) (Nat.le_of_ble_eq_true rfl) hM hO rfl FH.rf hH (fun G9 hM9 => ?_)
  obtain ⟨⟨ba, en, at_, dp, io, hm_, we, sh, so, h0⟩, ⟨mm, h1, hR, hL9, ac, h4, hA⟩, ⟨kk, h2, hK⟩, ⟨a3, h3⟩, h5, h6, h7, h8⟩ := id hM9
  obtain ⟨hB, hD, ⟨htn, him, hnw, hrm⟩, hf, hBi, hPB⟩ := hX
  refine Ct.imp (m_worse h0 h1 hR hB) ?_
  rintro o G3 ⟨rfl, rfl⟩
  exact ⟨_, rfl, rfl, ⟨_, hM9.ob ⟨_, _, _, _, _, _, _, _, _, rfl⟩⟩, FV.rf.gs (by omega) (by omega)⟩
theorem pd_mislaid (hJ : JJ E G) : Ct E 2 0 0 kX7_mislaid [.ref (eB E)] G (DPst E kX8_mislaid []) := by
  obtain ⟨th, tn, f, wb, T, sd, D, im, Ti, si, Di, nw, rm, P, ru, sp, hH, hM, hO⟩ := hJ
  have hX := OKX.of hH
  refine Ct.imp (c_mislaid hH) ?_
  rintro o G1 ⟨rfl, rfl⟩
  refine mkD (d := 2) (Nat.le_of_ble_eq_true rfl) hM hO rfl FH.rf hH (fun G9 hM9 => ?_)
  obtain ⟨⟨ba, en, at_, dp, io, hm_, we, sh, so, h0⟩, ⟨mm, h1, hR, hL9, ac, h4, hA⟩, ⟨kk, h2, hK⟩, ⟨a3, h3⟩, h5, h6, h7, h8⟩ := id hM9
  obtain ⟨hB, hD, ⟨htn, him, hnw, hrm⟩, hf, hBi, hPB⟩ := hX
  refine Ct.imp (m_mislaid h0 h1 hR hB) ?_
  rintro o G3 ⟨rfl, rfl⟩
  exact ⟨_, rfl, rfl, ⟨_, hM9.ob ⟨_, _, _, _, _, _, _, _, _, rfl⟩⟩, FV.rf.gs (by omega) (by omega)⟩
theorem pd_work (hJ : JJ E G) : Ct E 5 0 0 kX7_work [.ref (eB E)] G (DPst E kX8_work []) := by
  obtain ⟨th, tn, f, wb, T, sd, D, im, Ti, si, Di, nw, rm, P, ru, sp, hH, hM, hO⟩ := hJ
  have hX := OKX.of hH
  refine Ct.imp (c_work hH) ?_
  rintro o G1 ⟨rfl, rfl⟩
  refine mkD (d := 5) (Nat.le_of_ble_eq_true rfl) hM hO rfl FH.rf hH (fun G9 hM9 => ?_)
  obtain ⟨⟨ba, en, at_, dp, io, hm_, we, sh, so, h0⟩, ⟨mm, h1, hR, hL9, ac, h4, hA⟩, ⟨kk, h2, hK⟩, ⟨a3, h3⟩, h5, h6, h7, h8⟩ := id hM9
  obtain ⟨hB, hD, ⟨htn, him, hnw, hrm⟩, hf, hBi, hPB⟩ := hX
  refine Ct.imp (m_work h0 h1 hR hB) ?_
  rintro o G3 ⟨rfl, rfl⟩
  exact ⟨_, rfl, rfl, ⟨_, hM9.ob ⟨_, _, _, _, _, _, _, _, _, rfl⟩⟩, FV.rf.gs (by omega) (by omega)⟩
theorem pd_rests (hJ : JJ E G) : Ct E 5 0 0 kX7_rests [.ref (eB E)] G (DPst E kX8_rests []) := by
  obtain ⟨th, tn, f, wb, T, sd, D, im, Ti, si, Di, nw, rm, P, ru, sp, hH, hM, hO⟩ := hJ
  have hX := OKX.of hH
  refine Ct.imp (c_rests hH) ?_
  rintro o G1 ⟨rfl, rfl⟩
  refine mkD (d := 6) (Nat.le_of_ble_eq_true rfl) hM hO rfl FH.rf hH (fun G9 hM9 => ?_)
  obtain ⟨⟨ba, en, at_, dp, io, hm_, we, sh, so, h0⟩, ⟨mm, h1, hR, hL9, ac, h4, hA⟩, ⟨kk, h2, hK⟩, ⟨a3, h3⟩, h5, h6, h7, h8⟩ := id hM9
  obtain ⟨hB, hD, ⟨htn, him, hnw, hrm⟩, hf, hBi, hPB⟩ := hX
  refine Ct.imp (m_rests h0 h1 hR hB) ?_
  rintro o G3 ⟨rfl, rfl⟩
  exact ⟨_, rfl, rfl, ⟨_, hM9.ob ⟨_, _, _, _, _, _, _, _, _, rfl⟩⟩, FV.rf.gs (by omega) (by omega)⟩
theorem pd_due (hJ : JJ E G) : Ct E 5 0 0 kX7_due [.ref (eB E)] G (DPst E kX8_due []) := by
  obtain ⟨th, tn, f, wb, T, sd, D, im, Ti, si, Di, nw, rm, P, ru, sp, hH, hM, hO⟩ := hJ
  have hX := OKX.of hH
  refine Ct.imp (c_due hH) ?_
  rintro o G1 ⟨rfl, rfl⟩
  refine mkD (d := 5) (Nat.le_of_ble_eq_true rfl) hM hO rfl FH.rf hH (fun G9 hM9 => ?_)
  obtain ⟨⟨ba, en, at_, dp, io, hm_, we, sh, so, h0⟩, ⟨mm, h1, hR, hL9, ac, h4, hA⟩, ⟨kk, h2, hK⟩, ⟨a3, h3⟩, h5, h6, h7, h8⟩ := id hM9
  obtain ⟨hB, hD, ⟨htn, him, hnw, hrm⟩, hf, hBi, hPB⟩ := hX
  refine Ct.imp (m_due h0 h1 hR hB) ?_
  rintro o G3 ⟨rfl, rfl⟩
  exact ⟨_, rfl, rfl, ⟨_, hM9.ob ⟨_, _, _, _, _, _, _, _, _, rfl⟩⟩, FV.rf.gs (by omega) (by omega)⟩
theorem pd_clash (hJ : JJ E G) : Ct E 3 0 0 kX7_clash [.ref (eB E)] G (DPst E kX8_clash []) := by
  obtain ⟨th, tn, f, wb, T, sd, D, im, Ti, si, Di, nw, rm, P, ru, sp, hH, hM, hO⟩ := hJ
  have hX := OKX.of hH
  refine Ct.imp (c_clash hH) ?_
  rintro o G1 ⟨rfl, rfl⟩
  refine mkD (d := 3) (Nat.le_of_ble_eq_true rfl) hM hO rfl FH.rf hH (fun G9 hM9 => ?_)
  obtain ⟨⟨ba, en, at_, dp, io, hm_, we, sh, so, h0⟩, ⟨mm, h1, hR, hL9, ac, h4, hA⟩, ⟨kk, h2, hK⟩, ⟨a3, h3⟩, h5, h6, h7, h8⟩ := id hM9
  obtain ⟨hB, hD, ⟨htn, him, hnw, hrm⟩, hf, hBi, hPB⟩ := hX
  refine Ct.imp (m_clash h0 h1 hR hB) ?_
  rintro o G3 ⟨rfl, rfl⟩
  exact ⟨_, rfl, rfl, ⟨_, hM9.ob ⟨_, _, _, _, _, _, _, _, _, rfl⟩⟩, FV.rf.gs (by omega) (by omega)⟩
theorem pd_full (hJ : JJ E G) : Ct E 3 0 0 kX7_full [.ref (eB E)] G (DPst E kX8_full []) := by
  obtain ⟨th, tn, f, wb, T, sd, D, im, Ti, si, Di, nw, rm, P, ru, sp, hH, hM, hO⟩ := hJ
  have hX := OKX.of hH
  refine Ct.imp (c_full hH) ?_
  rintro o G1 ⟨rfl, rfl⟩
  refine mkD (d := 3) (Nat.le_of_ble_eq_true rfl) hM hO rfl FH.rf hH (fun G9 hM9 => ?_)
  obtain ⟨⟨ba, en, at_, dp, io, hm_, we, sh, so, h0⟩, ⟨mm, h1, hR, hL9, ac, h4, hA⟩, ⟨kk, h2, hK⟩, ⟨a3, h3⟩, h5, h6, h7, h8⟩ := id hM9
  obtain ⟨hB, hD, ⟨htn, him, hnw, hrm⟩, hf, hBi, hPB⟩ := hX
  refine Ct.imp (m_full h0 h1 hR hB) ?_
  rintro o G3 ⟨rfl, rfl⟩
  exact ⟨_, rfl, rfl, ⟨_, hM9.ob ⟨_, _, _, _, _, _, _, _, _, rfl⟩⟩, FV.rf.gs (by omega) (by omega)⟩
theorem pd_settles (hJ : JJ E G) : Ct E 2 0 0 kX7_settles [.ref (eB E)] G (DPst E kX8_settles []) := by
  obtain ⟨th, tn, f, wb, T, sd, D, im, Ti, si, Di, nw, rm, P, ru, sp, hH, hM, hO⟩ := hJ
  have hX := OKX.of hH
  refine Ct.imp (c_settles hH) ?_
  rintro o G1 ⟨rfl, rfl⟩
  refine mkD (d := 1) (Nat.le_of_ble_eq_true rfl) hM hO rfl FH.rf hH (fun G9 hM9 => ?_)
  obtain ⟨⟨ba, en, at_, dp, io, hm_, we, sh, so, h0⟩, ⟨mm, h1, hR, hL9, ac, h4, hA⟩, ⟨kk, h2, hK⟩, ⟨a3, h3⟩, h5, h6, h7, h8⟩ := id hM9
  obtain ⟨hB, hD, ⟨htn, him, hnw, hrm⟩, hf, hBi, hPB⟩ := hX
  refine Ct.imp (m_settles h0 h1 hR hB) ?_
  rintro o G3 ⟨rfl, rfl⟩
  exact ⟨_, rfl, rfl, ⟨_, hM9.ob ⟨_, _, _, _, _, _, _, _, _, rfl⟩⟩, FV.rf.gs (by omega) (by omega)⟩
theorem pd_richest (hJ : JJ E G) : Ct E 3 0 0 kX7_richest [.ref (eB E)] G (DPst E kX8_richest []) := by
  obtain ⟨th, tn, f, wb, T, sd, D, im, Ti, si, Di, nw, rm, P, ru, sp, hH, hM, hO⟩ := hJ
  have hX := OKX.of hH
  refine Ct.imp (c_richest hH) ?_
  rintro o G1 ⟨rfl, rfl⟩
  refine mkD (d := 3) (Nat.le_of_ble_eq_true rfl) hM hO rfl FH.rf hH (fun G9 hM9 => ?_)
  obtain ⟨⟨ba, en, at_, dp, io, hm_, we, sh, so, h0⟩, ⟨mm, h1, hR, hL9, ac, h4, hA⟩, ⟨kk, h2, hK⟩, ⟨a3, h3⟩, h5, h6, h7, h8⟩ := id hM9
  obtain ⟨hB, hD, ⟨htn, him, hnw, hrm⟩, hf, hBi, hPB⟩ := hX
  refine Ct.imp (m_richest h0 h1 hR hB) ?_
  rintro o G3 ⟨rfl, rfl⟩
  exact ⟨_, rfl, rfl, ⟨_, hM9.ob ⟨_, _, _, _, _, _, _, _, _, rfl⟩⟩, FV.rf.gs (by omega) (by omega)⟩
theorem pd_like (hJ : JJ E G) : Ct E 2 0 0 kX7_like [.ref (eB E)] G (DPst E kX8_like []) := by
  obtain ⟨th, tn, f, wb, T, sd, D, im, Ti, si, Di, nw, rm, P, ru, sp, hH, hM, hO⟩ := hJ
  have hX := OKX.of hH
  refine Ct.imp (c_like hH) ?_
  rintro o G1 ⟨rfl, rfl⟩
  refine mkD (d := 2) (Nat.le_of_ble_eq_true rfl) hM hO rfl FH.rf hH (fun G9 hM9 => ?_)
  obtain ⟨⟨ba, en, at_, dp, io, hm_, we, sh, so, h0⟩, ⟨mm, h1, hR, hL9, ac, h4, hA⟩, ⟨kk, h2, hK⟩, ⟨a3, h3⟩, h5, h6, h7, h8⟩ := id hM9
  obtain ⟨hB, hD, ⟨htn, him, hnw, hrm⟩, hf, hBi, hPB⟩ := hX
  refine Ct.imp (m_like h0 h1 hR hB him rfl h2 (fun h => (hK h).1) hBi) ?_
  rintro o G3 ⟨rfl, rfl⟩
  exact ⟨_, rfl, rfl, ⟨_, hM9.ob ⟨_, _, _, _, _, _, _, _, _, rfl⟩⟩, FV.rf.gs (by omega) (by omega)⟩
theorem pd_count {w : Int32} (hJ : JJ E G) : Ct E 3 0 0 kX7_count [.ref (eB E), .int w] G (DPst E kX8_count [.int w]) := by
  obtain ⟨th, tn, f, wb, T, sd, D, im, Ti, si, Di, nw, rm, P, ru, sp, hH, hM, hO⟩ := hJ
  have hX := OKX.of hH
  refine Ct.imp (c_count hH) ?_
  rintro o G1 ⟨rfl, rfl⟩
  refine mkD (d := 3) (Nat.le_of_ble_eq_true rfl) hM hO rfl FH.rf hH (fun G9 hM9 => ?_)
  obtain ⟨⟨ba, en, at_, dp, io, hm_, we, sh, so, h0⟩, ⟨mm, h1, hR, hL9, ac, h4, hA⟩, ⟨kk, h2, hK⟩, ⟨a3, h3⟩, h5, h6, h7, h8⟩ := id hM9
  obtain ⟨hB, hD, ⟨htn, him, hnw, hrm⟩, hf, hBi, hPB⟩ := hX
  refine Ct.imp (m_count h0 h1 hR hB hL9.1 rfl) ?_
  rintro o G3 ⟨rfl, rfl⟩
  exact ⟨_, rfl, rfl, ⟨_, hM9.ob ⟨_, _, _, _, _, _, _, _, _, rfl⟩⟩, FV.rf.gs (by omega) (by omega)⟩
theorem pd_parted {pt : Nat} (hpt : pt < 2 ^ 30) (hJ : JJ E G) : Ct E 4 0 0 kX7_parted [.ref (eB E), .int (nI pt)] G (DPst E kX8_parted [.int (nI pt)]) := by
  obtain ⟨th, tn, f, wb, T, sd, D, im, Ti, si, Di, nw, rm, P, ru, sp, hH, hM, hO⟩ := hJ
  have hX := OKX.of hH
  refine Ct.imp (c_parted hH hpt) ?_
  rintro o G1 ⟨r, rfl, rfl, hH1, hF⟩
  refine mkD (d := 3) (Nat.le_of_ble_eq_true rfl) hM hO rfl hF hH1 (fun G9 hM9 => ?_)
  obtain ⟨⟨ba, en, at_, dp, io, hm_, we, sh, so, h0⟩, ⟨mm, h1, hR, hL9, ac, h4, hA⟩, ⟨kk, h2, hK⟩, ⟨a3, h3⟩, h5, h6, h7, h8⟩ := id hM9
  obtain ⟨hB, hD, ⟨htn, him, hnw, hrm⟩, hf, hBi, hPB⟩ := hX
  refine Ct.imp (m_parted h0 h1 hR hB hpt) ?_
  rintro o G3 ⟨rfl, rfl⟩
  exact ⟨_, rfl, rfl, ⟨_, hM9.ob ⟨_, _, _, _, _, _, _, _, _, rfl⟩⟩, FV.rf.gs (by omega) (by omega)⟩
theorem pd_first {it : Nat} (hit : it ≤ 1) (hJ : JJ E G) : Ct E 7 0 0 kX7_first [.ref (eB E), .int (nI it)] G (DPst E kX8_first [.int (nI it)]) := by
  obtain ⟨th, tn, f, wb, T, sd, D, im, Ti, si, Di, nw, rm, P, ru, sp, hH, hM, hO⟩ := hJ
  have hX := OKX.of hH
  refine Ct.imp (c_first hH hit) ?_
  rintro o G1 ⟨r, rfl, rfl, hH1, hF⟩
  refine mkD (d := 59) (Nat.le_of_ble_eq_true rfl) hM hO rfl hF hH1 (fun G9 hM9 => ?_)
  obtain ⟨⟨ba, en, at_, dp, io, hm_, we, sh, so, h0⟩, ⟨mm, h1, hR, hL9, ac, h4, hA⟩, ⟨kk, h2, hK⟩, ⟨a3, h3⟩, h5, h6, h7, h8⟩ := id hM9
  obtain ⟨hB, hD, ⟨htn, him, hnw, hrm⟩, hf, hBi, hPB⟩ := hX
  refine Ci.imp (m_first h0 h1 hR hB (ask_ok hD) hD hL9 ⟨_, h3⟩ h6 hit) ?_
  rintro r G3 ⟨hr, hA9⟩
  have h9 := hM9.ahp hA9
  exact ⟨hr, ⟨_, h9.1⟩, h9.2⟩
theorem pd_round (hJ : JJ E G) : Ct E 7 0 0 kX7_round [.ref (eB E)] G (DPst E kX8_round []) := by
  obtain ⟨th, tn, f, wb, T, sd, D, im, Ti, si, Di, nw, rm, P, ru, sp, hH, hM, hO⟩ := hJ
  have hX := OKX.of hH
  refine Ct.imp (c_round hH) ?_
  rintro o G1 ⟨r, rfl, rfl, hH1, hF⟩
  refine mkD (d := 59) (Nat.le_of_ble_eq_true rfl) hM hO rfl hF hH1 (fun G9 hM9 => ?_)
  obtain ⟨⟨ba, en, at_, dp, io, hm_, we, sh, so, h0⟩, ⟨mm, h1, hR, hL9, ac, h4, hA⟩, ⟨kk, h2, hK⟩, ⟨a3, h3⟩, h5, h6, h7, h8⟩ := id hM9
  obtain ⟨hB, hD, ⟨htn, him, hnw, hrm⟩, hf, hBi, hPB⟩ := hX
  refine Ci.imp (m_round h0 h1 hR hB (ask_ok hD) hD hL9 ⟨_, h3⟩ h6) ?_
  rintro r G3 ⟨hr, hA9⟩
  have h9 := hM9.ahp hA9
  exact ⟨hr, ⟨_, h9.1⟩, h9.2⟩
theorem pd_search {x : Int32} (hJ : JJ E G) : Ct E 6 0 0 kX7_search [.ref (eB E), .int x] G (DPst E kX8_search [.int x]) := by
  obtain ⟨th, tn, f, wb, T, sd, D, im, Ti, si, Di, nw, rm, P, ru, sp, hH, hM, hO⟩ := hJ
  have hX := OKX.of hH
  refine Ct.imp (c_search hH) ?_
  rintro o G1 ⟨r, rfl, hH1, hF, o0, hr0⟩
  refine mkD (d := 5) (Nat.le_of_ble_eq_true rfl) hM hO rfl hF hH1 (fun G9 hM9 => ?_)
  obtain ⟨⟨ba, en, at_, dp, io, hm_, we, sh, so, h0⟩, ⟨mm, h1, hR, hL9, ac, h4, hA⟩, ⟨kk, h2, hK⟩, ⟨a3, h3⟩, h5, h6, h7, h8⟩ := id hM9
  obtain ⟨hB, hD, ⟨htn, him, hnw, hrm⟩, hf, hBi, hPB⟩ := hX
  refine Ci.imp (m_search h0 h1 hR hB h7 (ord_ok T o0 6)) ?_
  rintro r2 G3 ⟨hr, l, rfl⟩
  refine ⟨hr.trans hr0.symm, ⟨nI 0, ?_⟩, (FV.rf.gs (by omega) (by omega)).gs (by omega) (by omega)⟩
  exact (hM9.ob (G1 := gs G9 (eB E + 246) (mO (eB E + 246) (nI 0) (nI im) (nI rm) (nI tn) ba en at_ wb dp io hm_ we sh so)) ⟨_, _, _, _, _, _, _, _, _, rfl⟩).s7 (a := l)
theorem pd_costs (hJ : JJ E G) : Ct E 6 0 0 kX7_costs [.ref (eB E)] G (DPst E kX8_costs []) := by
  obtain ⟨th, tn, f, wb, T, sd, D, im, Ti, si, Di, nw, rm, P, ru, sp, hH, hM, hO⟩ := hJ
  have hX := OKX.of hH
  refine Ct.imp (c_costs hH) ?_
  rintro o G1 ⟨r, rfl, hH1, hF, o0, hr0⟩
  refine mkD (d := 5) (Nat.le_of_ble_eq_true rfl) hM hO rfl hF hH1 (fun G9 hM9 => ?_)
  obtain ⟨⟨ba, en, at_, dp, io, hm_, we, sh, so, h0⟩, ⟨mm, h1, hR, hL9, ac, h4, hA⟩, ⟨kk, h2, hK⟩, ⟨a3, h3⟩, h5, h6, h7, h8⟩ := id hM9
  obtain ⟨hB, hD, ⟨htn, him, hnw, hrm⟩, hf, hBi, hPB⟩ := hX
  refine Ci.imp (m_costs h0 h1 hR hB h7 (ord_ok T o0 6)) ?_
  rintro r2 G3 ⟨hr, l, rfl⟩
  refine ⟨hr.trans hr0.symm, ⟨nI 0, ?_⟩, (FV.rf.gs (by omega) (by omega)).gs (by omega) (by omega)⟩
  exact (hM9.ob (G1 := gs G9 (eB E + 246) (mO (eB E + 246) (nI 0) (nI im) (nI rm) (nI tn) ba en at_ wb dp io hm_ we sh so)) ⟨_, _, _, _, _, _, _, _, _, rfl⟩).s7 (a := l)
theorem pd_take (hJ : JJ E G) : Ct E 6 0 0 kX7_take [.ref (eB E)] G (DPst E kX8_take []) := by
  obtain ⟨th, tn, f, wb, T, sd, D, im, Ti, si, Di, nw, rm, P, ru, sp, hH, hM, hO⟩ := hJ
  have hX := OKX.of hH
  refine Ct.imp (c_take hH) ?_
  rintro o G1 ⟨r, rfl, rfl, hH1, hF⟩
  refine mkD (d := 4) (Nat.le_of_ble_eq_true rfl) hM hO rfl hF hH1 (fun G9 hM9 => ?_)
  obtain ⟨⟨ba, en, at_, dp, io, hm_, we, sh, so, h0⟩, ⟨mm, h1, hR, hL9, ac, h4, hA⟩, ⟨kk, h2, hK⟩, ⟨a3, h3⟩, h5, h6, h7, h8⟩ := id hM9
  obtain ⟨hB, hD, ⟨htn, him, hnw, hrm⟩, hf, hBi, hPB⟩ := hX
  refine Ci.imp (m_take h0 h1 hR hB rfl hrm hnw h4 hA hPB) ?_
  rintro r G3 ⟨hr, a, nn, hG, r1, r2, r3⟩
  refine ⟨hr, ⟨_, hM9.row r1 (hL9.keep r2) (r3.keep r2) ⟨_, _, _, _, _, _, _, _, _, hG⟩⟩, ?_⟩
  rw [hG]
  exact fv_row
theorem pd_seed {x : Int32} (hJ : JJ E G) : Ct E 1 0 0 kX7_seed [.ref (eB E), .int x] G (DPst E kX8_seed [.int x]) := by
  obtain ⟨th, tn, f, wb, T, sd, D, im, Ti, si, Di, nw, rm, P, ru, sp, hH, hM, hO⟩ := hJ
  have hX := OKX.of hH
  refine Ct.imp (c_seed hH) ?_
  rintro o G1 ⟨r, rfl, rfl, hH1, hF⟩
  refine mkD (d := 1) (Nat.le_of_ble_eq_true rfl) hM hO rfl hF hH1 (fun G9 hM9 => ?_)
  obtain ⟨⟨ba, en, at_, dp, io, hm_, we, sh, so, h0⟩, ⟨mm, h1, hR, hL9, ac, h4, hA⟩, ⟨kk, h2, hK⟩, ⟨a3, h3⟩, h5, h6, h7, h8⟩ := id hM9
  obtain ⟨hB, hD, ⟨htn, him, hnw, hrm⟩, hf, hBi, hPB⟩ := hX
  refine Ci.imp (m_seed h0 h1 hR hB) ?_
  rintro r G3 ⟨hr, nn, hG, r1, r2⟩
  refine ⟨hr, ⟨_, hM9.row r1 (hL9.keep r2) (hA.keep r2) ⟨_, _, _, _, _, _, _, _, _, by rw [hG, gs_self h4]⟩⟩, ?_⟩
  rw [hG]
  exact (FV.rf.gs (by omega) (by omega)).gs (by omega) (by omega)
theorem pd_undo (hJ : JJ E G) : Ct E 5 0 0 kX7_undo [.ref (eB E)] G (DPst E kX8_undo []) := by
  obtain ⟨th, tn, f, wb, T, sd, D, im, Ti, si, Di, nw, rm, P, ru, sp, hH, hM, hO⟩ := hJ
  have hX := OKX.of hH
  refine Ct.imp (c_undo hH) ?_
  rintro o G1 ⟨r, rfl, hF, h⟩
  rcases h with ⟨hr0, rfl, hH1⟩ | ⟨hr0, rfl, hH1⟩
  · refine mkD (d := 1) (Nat.le_of_ble_eq_true rfl) hM hO rfl hF hH1 (fun G9 hM9 => ?_)
    obtain ⟨⟨ba, en, at_, dp, io, hm_, we, sh, so, h0⟩, ⟨mm, h1, hR, hL9, ac, h4, hA⟩, ⟨kk, h2, hK⟩, ⟨a3, h3⟩, h5, h6, h7, h8⟩ := id hM9
    obtain ⟨hB, hD, ⟨htn, him, hnw, hrm⟩, hf, hBi, hPB⟩ := hX
    refine Ci.imp (m_undo h0 h1 hR hB rfl hrm hnw h4 hA hPB) ?_
    rintro r G3 h
    rcases h with ⟨hz, hr, hG⟩ | ⟨hz, hr, nn, hG, r1, r2, r3⟩
    · exact ⟨hr, ⟨_, hM9.ob ⟨_, _, _, _, _, _, _, _, _, hG⟩⟩, by rw [hG]; exact FV.rf.gs (by omega) (by omega)⟩
    · exact absurd hr0 (by omega)
  · refine mkD (d := 1) (Nat.le_of_ble_eq_true rfl) hM hO rfl hF hH1 (fun G9 hM9 => ?_)
    obtain ⟨⟨ba, en, at_, dp, io, hm_, we, sh, so, h0⟩, ⟨mm, h1, hR, hL9, ac, h4, hA⟩, ⟨kk, h2, hK⟩, ⟨a3, h3⟩, h5, h6, h7, h8⟩ := id hM9
    obtain ⟨hB, hD, ⟨htn, him, hnw, hrm⟩, hf, hBi, hPB⟩ := hX
    refine Ci.imp (m_undo h0 h1 hR hB rfl hrm hnw h4 hA hPB) ?_
    rintro r G3 h
    rcases h with ⟨hz, hr, hG⟩ | ⟨hz, hr, nn, hG, r1, r2, r3⟩
    · exact absurd hr0 (by omega)
    · refine ⟨hr, ⟨_, hM9.row r1 (hL9.keep r2) (r3.keep r2) ⟨_, _, _, _, _, _, _, _, _, by rw [hG, gs_self h4]⟩⟩, ?_⟩
      rw [hG]
      exact (FV.rf.gs (by omega) (by omega)).gs (by omega) (by omega)
theorem pd_back (hJ : JJ E G) : Ct E 5 0 0 kX7_back [.ref (eB E)] G (DPst E kX8_back []) := by
  obtain ⟨th, tn, f, wb, T, sd, D, im, Ti, si, Di, nw, rm, P, ru, sp, hH, hM, hO⟩ := hJ
  have hX := OKX.of hH
  refine Ct.imp (c_back hH) ?_
  rintro o G1 ⟨r, rfl, hF, h⟩
  rcases h with ⟨hr0, rfl, hH1⟩ | ⟨hr0, rfl, hH1⟩
  · refine mkD (d := 1) (Nat.le_of_ble_eq_true rfl) hM hO rfl hF hH1 (fun G9 hM9 => ?_)
    obtain ⟨⟨ba, en, at_, dp, io, hm_, we, sh, so, h0⟩, ⟨mm, h1, hR, hL9, ac, h4, hA⟩, ⟨kk, h2, hK⟩, ⟨a3, h3⟩, h5, h6, h7, h8⟩ := id hM9
    obtain ⟨hB, hD, ⟨htn, him, hnw, hrm⟩, hf, hBi, hPB⟩ := hX
    refine Ci.imp (m_back h0 him rfl h1 h2) ?_
    rintro r G3 h
    rcases h with ⟨hz, hr, hG⟩ | ⟨hz, hr, a, hG, r1⟩
    · exact ⟨hr, ⟨_, hM9.ob ⟨_, _, _, _, _, _, _, _, _, hG⟩⟩, by rw [hG]; exact FV.rf.gs (by omega) (by omega)⟩
    · exact absurd hr0 (by omega)
  · refine mkD (d := 1) (Nat.le_of_ble_eq_true rfl) hM hO rfl hF hH1 (fun G9 hM9 => ?_)
    obtain ⟨⟨ba, en, at_, dp, io, hm_, we, sh, so, h0⟩, ⟨mm, h1, hR, hL9, ac, h4, hA⟩, ⟨kk, h2, hK⟩, ⟨a3, h3⟩, h5, h6, h7, h8⟩ := id hM9
    obtain ⟨hB, hD, ⟨htn, him, hnw, hrm⟩, hf, hBi, hPB⟩ := hX
    refine Ci.imp (m_back h0 him rfl h1 h2) ?_
    rintro r G3 h
    rcases h with ⟨hz, hr, hG⟩ | ⟨hz, hr, a, hG, r1⟩
    · exact absurd hr0 (by omega)
    · refine ⟨hr, ⟨_, hM9.row (a := ac) ((hK hz).1.cg hBi (fun j hj => r1 j (by omega))) ((hK hz).2.cg r1) ActR.nil ⟨_, _, _, _, _, _, _, _, _, by rw [hG, gs_self h4]⟩⟩, ?_⟩
      rw [hG]
      exact (FV.rf.gs (by omega) (by omega)).gs (by omega) (by omega)
theorem pd_feed {a b c d e : Int32} (hJ : JJ E G) : Ct E 3 0 0 kX7_feed [.ref (eB E), .int a, .int b, .int c, .int d, .int e] G (DPst E kX8_feed [.int a, .int b, .int c, .int d, .int e]) := by
  obtain ⟨th, tn, f, wb, T, sd, D, im, Ti, si, Di, nw, rm, P, ru, sp, hH, hM, hO⟩ := hJ
  have hX := OKX.of hH
  refine Ct.imp (c_feed hH) ?_
  rintro o G1 ⟨r, rfl, hF, h⟩
  rcases h with ⟨hr0, rfl, hH1⟩ | ⟨hr0, rfl, hH1⟩
  · refine mkD (d := 1) (Nat.le_of_ble_eq_true rfl) hM hO rfl hF hH1 (fun G9 hM9 => ?_)
    obtain ⟨⟨ba, en, at_, dp, io, hm_, we, sh, so, h0⟩, ⟨mm, h1, hR, hL9, ac, h4, hA⟩, ⟨kk, h2, hK⟩, ⟨a3, h3⟩, h5, h6, h7, h8⟩ := id hM9
    obtain ⟨hB, hD, ⟨htn, him, hnw, hrm⟩, hf, hBi, hPB⟩ := hX
    refine Ci.imp (m_feed h0 h5 htn) ?_
    rintro r G3 h
    rcases h with ⟨hz, hr, hG⟩ | ⟨hz, hr, hG⟩
    · exact ⟨hr, ⟨_, hM9.ob ⟨_, _, _, _, _, _, _, _, _, hG⟩⟩, by rw [hG]; exact FV.rf.gs (by omega) (by omega)⟩
    · exact absurd hr0 (by omega)
  · refine mkD (d := 1) (Nat.le_of_ble_eq_true rfl) hM hO rfl hF hH1 (fun G9 hM9 => ?_)
    obtain ⟨⟨ba, en, at_, dp, io, hm_, we, sh, so, h0⟩, ⟨mm, h1, hR, hL9, ac, h4, hA⟩, ⟨kk, h2, hK⟩, ⟨a3, h3⟩, h5, h6, h7, h8⟩ := id hM9
    obtain ⟨hB, hD, ⟨htn, him, hnw, hrm⟩, hf, hBi, hPB⟩ := hX
    refine Ci.imp (m_feed h0 h5 htn) ?_
    rintro r G3 h
    rcases h with ⟨hz, hr, hG⟩ | ⟨hz, hr, hG⟩
    · exact absurd hr0 (by omega)
    · refine ⟨hr, ⟨_, (hM9.s5 (f2 := feedF f tn a b c d e)).ob ⟨_, _, _, _, _, _, _, _, _, hG⟩⟩, ?_⟩
      rw [hG]
      exact (FV.rf.gs (by omega) (by omega)).gs (by omega) (by omega)
theorem pd_end {x : Int32} (hJ : JJ E G) : Ct E 1 0 0 kX7_end [.ref (eB E), .int x] G (DPst E kX8_end [.int x]) := by
  obtain ⟨th, tn, f, wb, T, sd, D, im, Ti, si, Di, nw, rm, P, ru, sp, hH, hM, hO⟩ := hJ
  have hX := OKX.of hH
  refine Ct.imp (c_endH hH) ?_
  rintro o G1 ⟨r, rfl, rfl, hF, hH1, hH2⟩
  by_cases c : endK tn x = 1
  · refine mkD (d := 2) (Nat.le_of_ble_eq_true rfl) hM hO rfl hF (hH1 c) (fun G9 hM9 => ?_)
    obtain ⟨⟨ba, en, at_, dp, io, hm_, we, sh, so, h0⟩, ⟨mm, h1, hR, hL9, ac, h4, hA⟩, ⟨kk, h2, hK⟩, ⟨a3, h3⟩, h5, h6, h7, h8⟩ := id hM9
    obtain ⟨hB, hD, ⟨htn, him, hnw, hrm⟩, hf, hBi, hPB⟩ := hX
    refine Ci.imp (m_end h0 rfl) ?_
    rintro r G3 ⟨hr, hG⟩
    have hx : ¬ x < nI 0 ∧ x ≤ nI tn := by
      unfold endK at c
      by_cases c2 : ¬ x < nI 0 ∧ x ≤ nI tn
      · exact c2
      · rw [if_neg c2] at c
        exact absurd c (by decide)
    obtain ⟨j, j1, j2, rfl⟩ := in_L (a := 0) (by omega) (by omega) hx
    rw [if_pos c] at hG
    rw [ix_nI (by omega)]
    exact ⟨hr, ⟨_, hM9.ob ⟨_, _, _, _, _, _, _, _, _, hG⟩⟩, by rw [hG]; exact FV.rf.gs (by omega) (by omega)⟩
  · refine mkD (d := 2) (Nat.le_of_ble_eq_true rfl) hM hO rfl hF (hH2 c) (fun G9 hM9 => ?_)
    obtain ⟨⟨ba, en, at_, dp, io, hm_, we, sh, so, h0⟩, ⟨mm, h1, hR, hL9, ac, h4, hA⟩, ⟨kk, h2, hK⟩, ⟨a3, h3⟩, h5, h6, h7, h8⟩ := id hM9
    obtain ⟨hB, hD, ⟨htn, him, hnw, hrm⟩, hf, hBi, hPB⟩ := hX
    refine Ci.imp (m_end h0 rfl) ?_
    rintro r G3 ⟨hr, hG⟩
    rw [if_neg c] at hG
    exact ⟨hr, ⟨_, hM9.ob ⟨_, _, _, _, _, _, _, _, _, hG⟩⟩, by rw [hG]; exact FV.rf.gs (by omega) (by omega)⟩
theorem pd_image (hJ : JJ E G) : Ct E 5 0 0 kX7_image [.ref (eB E)] G (DPs0 E kX8_image []) := by
  obtain ⟨th, tn, f, wb, T, sd, D, im, Ti, si, Di, nw, rm, P, ru, sp, hH, hM, hO⟩ := hJ
  have hX := OKX.of hH
  refine Ct.imp (c_image hH) ?_
  rintro o G1 ⟨rfl, hF, hH1⟩
  refine mkD0 (d := 1) (Nat.le_of_ble_eq_true rfl) hM hO rfl hF hH1 (fun G9 hM9 => ?_)
  obtain ⟨⟨ba, en, at_, dp, io, hm_, we, sh, so, h0⟩, ⟨mm, h1, hR, hL9, ac, h4, hA⟩, ⟨kk, h2, hK⟩, ⟨a3, h3⟩, h5, h6, h7, h8⟩ := id hM9
  obtain ⟨hB, hD, ⟨htn, him, hnw, hrm⟩, hf, hBi, hPB⟩ := hX
  refine Ct.imp (m_image h0 h1 ⟨_, h2⟩) ?_
  rintro o G3 ⟨ho, a, hG, r1⟩
  refine ⟨ho, ⟨nI 0, ?_⟩, ?_⟩
  · rw [hG]
    exact ⟨⟨_, _, _, _, _, _, _, _, _, gs_at⟩, ⟨mm, (gs_ne (by omega)).trans ((gs_ne (by omega)).trans h1), hR, hL9, ac, (gs_ne (by omega)).trans ((gs_ne (by omega)).trans h4), hA⟩, ⟨a, (gs_ne (by omega)).trans gs_at, fun _ => ⟨hR.cg hB (fun j hj => r1 j (by omega)), hL9.cg r1⟩⟩, ⟨a3, (gs_ne (by omega)).trans ((gs_ne (by omega)).trans h3)⟩, (gs_ne (by omega)).trans ((gs_ne (by omega)).trans h5), ⟨_, (gs_ne (by omega)).trans ((gs_ne (by omega)).trans h6.choose_spec)⟩, ⟨_, (gs_ne (by omega)).trans ((gs_ne (by omega)).trans h7.choose_spec)⟩, _, (gs_ne (by omega)).trans ((gs_ne (by omega)).trans h8.choose_spec)⟩
  · rw [hG]
    exact (FV.rf.gs (by omega) (by omega)).gs (by omega) (by omega)
end PAD
