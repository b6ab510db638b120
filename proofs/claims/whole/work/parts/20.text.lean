/-! constant texts: what String tells of them, by its own code -/
abbrev kJ0_length_8abf5 : MR := (⟨"java/lang/String", "length", "()I"⟩, prog_20_method_54_code, 1, (some .int), [])
abbrev kJ0_coder_7d493 : MR := (⟨"java/lang/String", "coder", "()B"⟩, prog_20_method_152_code, 1, (some .byte), [])
abbrev kJ0_charAt_5068e : MR := (⟨"java/lang/String", "charAt", "(I)C"⟩, prog_20_method_56_code, 2, (some .char), [])
abbrev kJ0_isLatin1_aae02 : MR := (⟨"java/lang/String", "isLatin1", "()Z"⟩, prog_20_method_154_code, 1, (some .boolean), [])
abbrev kJ1_charAt_3b067 : MR := (⟨"java/lang/StringLatin1", "charAt", "([BI)C"⟩, prog_21_method_2_code, 2, (some .char), [])
abbrev kJ0_checkIndex_df160 : MR := (⟨"java/lang/String", "checkIndex", "(II)V"⟩, prog_20_method_155_code, 2, none, [])
abbrev kJ3_checkIndex_8e157 : MR := (⟨"jdk/internal/util/Preconditions", "checkIndex", "(IILjava/util/function/BiFunction;)I"⟩, prog_29_method_11_code, 3, (some .int), [])
theorem mk_J0_length_8abf5 : MK kJ0_length_8abf5 0 := ⟨u_654, ⟨by decide, by decide, by decide +kernel⟩, by decide, u_12⟩
theorem mk_J0_coder_7d493 : MK kJ0_coder_7d493 0 := ⟨u_658, ⟨by decide, by decide, by decide +kernel⟩, by decide, u_12⟩
theorem mk_J0_charAt_5068e : MK kJ0_charAt_5068e 1 := ⟨u_664, ⟨by decide, by decide, by decide +kernel⟩, by decide, u_12⟩
theorem mk_J0_isLatin1_aae02 : MK kJ0_isLatin1_aae02 0 := ⟨u_668, ⟨by decide, by decide, by decide +kernel⟩, by decide, u_12⟩
theorem mk_J1_charAt_3b067 : MK kJ1_charAt_3b067 2 := ⟨u_671, ⟨by decide, by decide, by decide +kernel⟩, by decide, u_13⟩
theorem mk_J0_checkIndex_df160 : MK kJ0_checkIndex_df160 2 := ⟨u_674, ⟨by decide, by decide, by decide +kernel⟩, by decide, u_12⟩
theorem mk_J3_checkIndex_8e157 : MK kJ3_checkIndex_8e157 3 := ⟨u_679, ⟨by decide, by decide, by decide +kernel⟩, by decide, u_14⟩
theorem lkO_44 : LkV "HalfIsle$Reader" 44 kJ0_length_8abf5 0 := ⟨u_651, u_652, u_653, mk_J0_length_8abf5⟩
theorem lkO_335 : LkV "java/lang/String" 335 kJ0_coder_7d493 0 := ⟨u_655, u_656, u_657, mk_J0_coder_7d493⟩
theorem lkO_49 : LkV "HalfIsle$Reader" 49 kJ0_charAt_5068e 1 := ⟨u_661, u_662, u_663, mk_J0_charAt_5068e⟩
theorem lkO_492 : LkV "java/lang/String" 492 kJ0_isLatin1_aae02 0 := ⟨u_665, u_666, u_667, mk_J0_isLatin1_aae02⟩
theorem lkO_495 : LkJ "java/lang/String" 495 kJ1_charAt_3b067 2 := ⟨u_669, u_670, mk_J1_charAt_3b067⟩
theorem lkO_9 : LkJ "java/lang/StringLatin1" 9 kJ0_checkIndex_df160 2 := ⟨u_672, u_673, mk_J0_checkIndex_df160⟩
theorem lkO_1059 : LkJ "java/lang/String" 1059 kJ3_checkIndex_8e157 3 := ⟨u_677, u_678, mk_J3_checkIndex_8e157⟩
theorem w_rett {E : EV} {d mc ms : Nat} {K : MR} {Q : OC → AH → Prop} {G : AH} {cs : Nat × Nat} {pc : Nat} {L : List Value} {v : Int32} {ty : FieldType} (hd : decode K.2.1 pc = .ok (.ireturn, 1)) (hr : K.2.2.2.1 = some ty) (hn : narrow ty (.int v) = .int v) (h1 : cs.1 ≤ mc) (h2 : cs.2 ≤ ms) (h : Q (.inl (some (.int v))) G) : Wp E d mc ms K Q G cs pc L [.int v] := fun p e s m args below meth c H locs ls C Rp S hl =>
  W.widen h1 h2 (vx_ret (W.zret C.1 C.2.1 (C.2.2.1.trans hr) hn (fun t ht _ => ⟨⟨_, G, rfl, h, by rw [ht]; exact Rp⟩, S.F ht⟩) S.2.2 hd C.2.2.2.2.2.2.1))
theorem w_getsCS {E : EV} {d mc ms : Nat} {K : MR} {Q : OC → AH → Prop} {G : AH} {cs : Nat × Nat} {pc : Nat} {L st : List Value} (ho : K.1.cls = "java/lang/String") (hd : decode K.2.1 pc = .ok (.getstatic 38, 3)) (k : Wp E d mc ms K Q G cs (pc + 3) L (.int 1 :: st)) : Wp E d mc ms K Q G cs pc L st := by
  intro p e s m args below meth c H locs ls C Rp S hl
  obtain ⟨x1, x2, x3, x4, hts, hown, x7, x8, x9, hE⟩ := id C
  exact va_gets x1 x2 hE.2.2.2.2.2.2.1 S hown (hts _ (by rw [ho]; exact u_659)) (fun x h => h) hd (k p e s m args below meth c H locs ls C Rp S hl)
theorem w_getsSI {E : EV} {d mc ms : Nat} {K : MR} {Q : OC → AH → Prop} {G : AH} {cs : Nat × Nat} {pc : Nat} {L st : List Value} (ho : K.1.cls = "java/lang/String") (hd : decode K.2.1 pc = .ok (.getstatic 1053, 3)) (k : ∀ v : Value, v.category = 1 → Wp E d mc ms K Q G cs (pc + 3) L (v :: st)) : Wp E d mc ms K Q G cs pc L st := by
  intro p e s m args below meth c H locs ls C Rp S hl
  obtain ⟨x1, x2, x3, x4, hts, hown, x7, x8, x9, hE⟩ := id C
  rcases hE.2.2.2.2.2.2.2.1 with h | ⟨t, h⟩
  · exact va_gets x1 x2 h S hown (hts _ (by rw [ho]; exact u_675)) (fun x h => h) hd (k _ rfl p e s m args below meth c H locs ls C Rp S hl)
  · exact va_gets x1 x2 h S hown (hts _ (by rw [ho]; exact u_675)) (fun x h => h) hd (k _ rfl p e s m args below meth c H locs ls C Rp S hl)
theorem w_getfV {E : EV} {d mc ms : Nat} {K : MR} {Q : OC → AH → Prop} {G : AH} {cs : Nat × Nat} {pc : Nat} {L st : List Value} {i : Nat} {q : String × Nat × String × List Int32} (hi : strT[i]? = some q) (ho : K.1.cls = "java/lang/String") (hd : decode K.2.1 pc = .ok (.getfield 9, 3)) (k : Wp E d mc ms K Q G cs (pc + 3) L (.ref (eV E i) :: st)) : Wp E d mc ms K Q G cs pc L (.ref (eK E i) :: st) := by
  intro p e s m args below meth c H locs ls C Rp S hl
  obtain ⟨x1, x2, x3, x4, hts, hown, x7, x8, x9, hE⟩ := id C
  exact vk_getf x1 x2 (hE.2.2.2.2.2.1 i q hi).2.2.2.1 S hown (hts _ (by rw [ho]; exact u_1811)) (fun x h => h) hd (k p e s m args below meth c H locs ls C Rp S hl)
theorem w_getfC {E : EV} {d mc ms : Nat} {K : MR} {Q : OC → AH → Prop} {G : AH} {cs : Nat × Nat} {pc : Nat} {L st : List Value} {i : Nat} {q : String × Nat × String × List Int32} (hi : strT[i]? = some q) (ho : K.1.cls = "java/lang/String") (hd : decode K.2.1 pc = .ok (.getfield 15, 3)) (k : Wp E d mc ms K Q G cs (pc + 3) L (.int 0 :: st)) : Wp E d mc ms K Q G cs pc L (.ref (eK E i) :: st) := by
  intro p e s m args below meth c H locs ls C Rp S hl
  obtain ⟨x1, x2, x3, x4, hts, hown, x7, x8, x9, hE⟩ := id C
  exact vk_getf x1 x2 (hE.2.2.2.2.2.1 i q hi).2.2.1 S hown (hts _ (by rw [ho]; exact u_1812)) (fun x h => h) hd (k p e s m args below meth c H locs ls C Rp S hl)
theorem w_lenV {E : EV} {d mc ms : Nat} {K : MR} {Q : OC → AH → Prop} {G : AH} {cs : Nat × Nat} {pc : Nat} {L st : List Value} {i : Nat} {q : String × Nat × String × List Int32} (hi : strT[i]? = some q) (hd : decode K.2.1 pc = .ok (.arraylength, 1)) (k : Wp E d mc ms K Q G cs (pc + 1) L (.int (nI q.2.2.2.length) :: st)) : Wp E d mc ms K Q G cs pc L (.ref (eV E i) :: st) := by
  intro p e s m args below meth c H locs ls C Rp S hl
  obtain ⟨x1, x2, x3, x4, hts, hown, x7, x8, x9, hE⟩ := id C
  exact va_tlen x1 x2 (hE.2.2.2.2.2.1 i q hi).2.2.2.2 S rfl hd (k p e s m args below meth c H locs ls C Rp S hl)
theorem w_bldV {E : EV} {d mc ms : Nat} {K : MR} {Q : OC → AH → Prop} {G : AH} {cs : Nat × Nat} {pc : Nat} {L st : List Value} {i : Nat} {q : String × Nat × String × List Int32} (hi : strT[i]? = some q) {j : Nat} (hj : j < q.2.2.2.length) (hj2 : q.2.2.2.length < 2 ^ 31) (hd : decode K.2.1 pc = .ok (.baload, 1)) (k : Wp E d mc ms K Q G cs (pc + 1) L (.int (q.2.2.2.getD j 0) :: st)) : Wp E d mc ms K Q G cs pc L (.int (nI j) :: .ref (eV E i) :: st) := by
  intro p e s m args below meth c H locs ls C Rp S hl
  obtain ⟨x1, x2, x3, x4, hts, hown, x7, x8, x9, hE⟩ := id C
  exact va_tb x1 x2 (hE.2.2.2.2.2.1 i q hi).2.2.2.2 S (vp_in_nI hj hj2) (by rw [nI_clamp (by omega)]) hd (k p e s m args below meth c H locs ls C Rp S hl)
/-- a call on a constant text -/
theorem wc_O {E : EV} {d mc ms : Nat} {K : MR} {Q : OC → AH → Prop} {G : AH} {cs : Nat × Nat} {pc : Nat} {L st : List Value} {i : Nat} {q : String × Nat × String × List Int32} (hi : strT[i]? = some q) {idx n d' : Nat} {K' : MR} {As rest : List Value} {v : Value} {G' : AH} (hd : decode K.2.1 pc = .ok (.invokevirtual idx, 3)) (lk : LkV K.1.cls idx K' n) (hh : K'.2.2.2.2 = []) (hn : As.length = n) (hqc : K'.1.cls = "java/lang/String") (hd1 : d' + 1 ≤ d) (hc : Cu E d' K' (.ref (eK E i) :: As) G v G') (hst : st = As.reverse ++ .ref (eK E i) :: rest) (hw : (rest.map fun v => v.category).sum ≤ 8) (h1 : cs.1 ≤ mc) (h2 : cs.2 ≤ ms)
    (kk : Wp E d mc ms K Q G' cs (pc + 3) L (v :: rest)) : Wp E d mc ms K Q G cs pc L st := by
  intro p e s m args below meth c H locs ls C Rp S hl
  obtain ⟨x1, x2, x3, x4, hts, hown, x7, x8, x9, hE⟩ := id C
  obtain ⟨l2, l3, l5, l4⟩ := lk
  have hcw : cwK K' = .code K'.1 K'.2.1 K'.2.2.1 K'.2.2.2.1 := by unfold cwK; rw [hh]
  have hG : GoodIn LW (wsV K.1.cls idx K'.1.cls K'.1 (cwK K' :: LW)) := goodIn_LW (by
    intro w hw
    unfold wsV at hw
    simp only [List.cons_append, List.nil_append, List.mem_cons] at hw
    rcases hw with rfl | rfl | rfl | rfl | rfl | hw
    · exact l2
    · exact l3
    · exact l5
    · exact l4.2.2.2
    · exact l4.1
    · exact hw)
  exact wp_call (vx_runV (cc := K.2.1) (nL := K.2.2.1) (Ts := LW) (own := K.1.cls) (C := K'.1.cls) (b := eK E i) ⟨x1, x2, x4, hown, hts⟩ hc (cwV n hts hG (by rw [hcw]) rfl rfl ⟨rfl, l4.2.1⟩ (l4.room (mc := mc) (ms := ms) hd1)) ⟨pc_blind, by rw [hqc]; exact va_Orecv (hE.2.2.2.2.2.1 i q hi).2.1 S, pc_at hE Rp S⟩ rfl hn hl.1 hst (gs_sum hw) hd ⟨h1, h2⟩) C S hl (fun v9 G9 h => by obtain ⟨h, rfl⟩ := h; cases h; exact kk) (fun X G9 h => by cases h.1)
theorem c_coder {E : EV} {G : AH} {i : Nat} {q : String × Nat × String × List Int32} (hi : strT[i]? = some q) : Cu E 1 kJ0_coder_7d493 [.ref (eK E i)] G (.int 0) G := by
  refine Ct.intro rfl (by decide) [.ref (eK E i)] (by simp [Value.category]) (Nat.le_of_ble_eq_true rfl) rfl ?_
  refine w_getsCS rfl dJ0_coder_7d493_0 ?_
  refine w_ifN_eq (tgt := 13) dJ0_coder_7d493_3 (by decide) (fun h => absurd h (by decide)) (fun _ => ?_)
  refine w_aload_n dJ0_coder_7d493_6 rfl ?_
  refine w_getfC hi rfl dJ0_coder_7d493_7 ?_
  refine w_goto (tgt := 14) dJ0_coder_7d493_10 (by decide) ?_
  exact w_rett dJ0_coder_7d493_14 rfl rfl (Nat.le_of_ble_eq_true rfl) (Nat.le_of_ble_eq_true rfl) ⟨rfl, rfl⟩
theorem c_length {E : EV} {G : AH} {i : Nat} {q : String × Nat × String × List Int32} (hi : strT[i]? = some q) : Cu E 2 kJ0_length_8abf5 [.ref (eK E i)] G (.int (nI q.2.2.2.length)) G := by
  refine Ct.intro rfl (by decide) [.ref (eK E i)] (by simp [Value.category]) (Nat.le_of_ble_eq_true rfl) rfl ?_
  refine w_aload_n dJ0_length_8abf5_0 rfl ?_
  refine w_getfV hi rfl dJ0_length_8abf5_1 ?_
  refine w_lenV hi dJ0_length_8abf5_4 ?_
  refine w_aload_n dJ0_length_8abf5_5 rfl ?_
  refine wc_O hi dJ0_length_8abf5_6 lkO_335 rfl (As := []) rfl rfl (Nat.le_of_ble_eq_true rfl) (c_coder hi) rfl (Nat.le_of_ble_eq_true rfl) (Nat.le_of_ble_eq_true rfl) (Nat.le_of_ble_eq_true rfl) ?_
  refine w_ishr dJ0_length_8abf5_9 ?_
  rw [show (nI q.2.2.2.length) >>> ((0 : Int32) &&& 31) = nI q.2.2.2.length from by simp]
  exact w_iret dJ0_length_8abf5_10 rfl (Nat.le_of_ble_eq_true rfl) (Nat.le_of_ble_eq_true rfl) ⟨rfl, rfl⟩
theorem c_isLatin1 {E : EV} {G : AH} {i : Nat} {q : String × Nat × String × List Int32} (hi : strT[i]? = some q) : Cu E 1 kJ0_isLatin1_aae02 [.ref (eK E i)] G (.int 1) G := by
  refine Ct.intro rfl (by decide) [.ref (eK E i)] (by simp [Value.category]) (Nat.le_of_ble_eq_true rfl) rfl ?_
  refine w_getsCS rfl dJ0_isLatin1_aae02_0 ?_
  refine w_ifN_eq (tgt := 17) dJ0_isLatin1_aae02_3 (by decide) (fun h => absurd h (by decide)) (fun _ => ?_)
  refine w_aload_n dJ0_isLatin1_aae02_6 rfl ?_
  refine w_getfC hi rfl dJ0_isLatin1_aae02_7 ?_
  refine w_ifN_ne (tgt := 17) dJ0_isLatin1_aae02_10 (by decide) (fun h => absurd rfl h) (fun _ => ?_)
  refine w_iconst (v := 1) dJ0_isLatin1_aae02_13 (by decide) ?_
  refine w_goto (tgt := 18) dJ0_isLatin1_aae02_14 (by decide) ?_
  exact w_zret dJ0_isLatin1_aae02_18 rfl rfl (Nat.le_of_ble_eq_true rfl) (Nat.le_of_ble_eq_true rfl) ⟨rfl, rfl⟩
theorem c_pCheck {E : EV} {G : AH} {a b : Nat} {v : Value} (hv : v.category = 1) (h : a < b) (hb : b < 2 ^ 31) : Cu E 1 kJ3_checkIndex_8e157 [.int (nI a), .int (nI b), v] G (.int (nI a)) G := by
  refine Ct.intro rfl (by decide) [.int (nI a), .int (nI b), v] (by intro w hw; simp only [List.mem_cons, List.mem_nil_iff, or_false] at hw; rcases hw with rfl | rfl | rfl; rfl; rfl; exact hv) (Nat.le_of_ble_eq_true rfl) rfl ?_
  refine w_iload_n dJ3_checkIndex_8e157_0 rfl ?_
  refine w_ifN_lt (tgt := 9) dJ3_checkIndex_8e157_1 (by decide) (fun h9 => absurd h9 (nI_nlt (by omega) (by omega))) (fun _ => ?_)
  refine w_iload_n dJ3_checkIndex_8e157_4 rfl ?_
  refine w_iload_n dJ3_checkIndex_8e157_5 rfl ?_
  refine w_icmp_lt (tgt := 16) dJ3_checkIndex_8e157_6 (by decide) (fun _ => ?_) (fun h9 => absurd (nI_lt h hb) h9)
  refine w_iload_n dJ3_checkIndex_8e157_16 rfl ?_
  exact w_iret dJ3_checkIndex_8e157_17 rfl (Nat.le_of_ble_eq_true rfl) (Nat.le_of_ble_eq_true rfl) ⟨rfl, rfl⟩
theorem c_sCheck {E : EV} {G : AH} {a b : Nat} (h : a < b) (hb : b < 2 ^ 31) : Cn E 2 kJ0_checkIndex_df160 [.int (nI a), .int (nI b)] G G := by
  refine Ct.intro rfl (by decide) [.int (nI a), .int (nI b)] (by simp [Value.category]) (Nat.le_of_ble_eq_true rfl) rfl ?_
  refine w_iload_n dJ0_checkIndex_df160_0 rfl ?_
  refine w_iload_n dJ0_checkIndex_df160_1 rfl ?_
  refine w_getsSI rfl dJ0_checkIndex_df160_2 (fun v hv => ?_)
  refine wJ3u dJ0_checkIndex_df160_5 lkO_1059 rfl (c_pCheck hv h hb) (Nat.le_of_ble_eq_true rfl) (Nat.le_of_ble_eq_true rfl) (Nat.le_of_ble_eq_true rfl) (Nat.le_of_ble_eq_true rfl) ?_
  refine w_pop dJ0_checkIndex_df160_8 rfl ?_
  exact w_vret dJ0_checkIndex_df160_9 rfl (Nat.le_of_ble_eq_true rfl) (Nat.le_of_ble_eq_true rfl) ⟨rfl, rfl⟩
theorem i2c_nI {t : Nat} (h : t < 65536) : ((nI t).toUInt32 % 65536).toInt32 = nI t := by
  have h1 : (nI t).toUInt32 = UInt32.ofNat t := rfl
  rw [h1]
  have h2 : UInt32.ofNat t % 65536 = UInt32.ofNat t := by
    apply UInt32.toNat_inj.mp
    rw [UInt32.toNat_mod, UInt32.toNat_ofNat', show UInt32.toNat 65536 = 65536 from rfl]
    omega
  rw [h2]; rfl
theorem c_lCharAt {E : EV} {G : AH} {i : Nat} {q : String × Nat × String × List Int32} (hi : strT[i]? = some q) {j t : Nat} (hj : q.2.2.2[j]? = some (nI t)) (ht : t < 128) (hl : q.2.2.2.length < 2 ^ 31) : Cu E 3 kJ1_charAt_3b067 [.ref (eV E i), .int (nI j)] G (.int (nI t)) G := by
  refine Ct.intro rfl (by decide) [.ref (eV E i), .int (nI j)] (by simp [Value.category]) (Nat.le_of_ble_eq_true rfl) rfl ?_
  have hjl : j < q.2.2.2.length := (List.getElem?_eq_some_iff.mp hj).1
  have hg : q.2.2.2.getD j 0 = nI t := by rw [List.getD_eq_getElem?_getD, hj]; rfl
  refine w_iload_n dJ1_charAt_3b067_0 rfl ?_
  refine w_aload_n dJ1_charAt_3b067_1 rfl ?_
  refine w_lenV hi dJ1_charAt_3b067_2 ?_
  refine wJ2n dJ1_charAt_3b067_3 lkO_9 rfl (c_sCheck hjl hl) (Nat.le_of_ble_eq_true rfl) (Nat.le_of_ble_eq_true rfl) (Nat.le_of_ble_eq_true rfl) (Nat.le_of_ble_eq_true rfl) ?_
  refine w_aload_n dJ1_charAt_3b067_6 rfl ?_
  refine w_iload_n dJ1_charAt_3b067_7 rfl ?_
  refine w_bldV hi hjl hl dJ1_charAt_3b067_8 ?_
  rw [hg]
  refine w_sipush (v := nI 255) dJ1_charAt_3b067_9 (by decide) ?_
  refine w_iandN dJ1_charAt_3b067_12 ?_
  rw [show t &&& 255 = t from by rw [show (255 : Nat) = 2 ^ 8 - 1 from rfl, Nat.and_two_pow_sub_one_eq_mod]; exact Nat.mod_eq_of_lt (by omega)]
  refine w_i2c dJ1_charAt_3b067_13 ?_
  rw [show ((nI t).toUInt32 % 65536).toInt32 = nI t from i2c_nI (by omega)]
  exact w_rett dJ1_charAt_3b067_14 rfl (pk_charN (by omega)).1 (Nat.le_of_ble_eq_true rfl) (Nat.le_of_ble_eq_true rfl) ⟨rfl, rfl⟩
theorem c_charAt {E : EV} {G : AH} {i : Nat} {q : String × Nat × String × List Int32} (hi : strT[i]? = some q) {j t : Nat} (hj : q.2.2.2[j]? = some (nI t)) (ht : t < 128) (hl : q.2.2.2.length < 2 ^ 31) : Cu E 4 kJ0_charAt_5068e [.ref (eK E i), .int (nI j)] G (.int (nI t)) G := by
  refine Ct.intro rfl (by decide) [.ref (eK E i), .int (nI j)] (by simp [Value.category]) (Nat.le_of_ble_eq_true rfl) rfl ?_
  refine w_aload_n dJ0_charAt_5068e_0 rfl ?_
  refine wc_O hi dJ0_charAt_5068e_1 lkO_492 rfl (As := []) rfl rfl (Nat.le_of_ble_eq_true rfl) (c_isLatin1 hi) rfl (Nat.le_of_ble_eq_true rfl) (Nat.le_of_ble_eq_true rfl) (Nat.le_of_ble_eq_true rfl) ?_
  refine w_ifN_eq (tgt := 16) dJ0_charAt_5068e_4 (by decide) (fun h => absurd h (by decide)) (fun _ => ?_)
  refine w_aload_n dJ0_charAt_5068e_7 rfl ?_
  refine w_getfV hi rfl dJ0_charAt_5068e_8 ?_
  refine w_iload_n dJ0_charAt_5068e_11 rfl ?_
  refine wJ2u dJ0_charAt_5068e_12 lkO_495 rfl (c_lCharAt hi hj ht hl) (Nat.le_of_ble_eq_true rfl) (Nat.le_of_ble_eq_true rfl) (Nat.le_of_ble_eq_true rfl) (Nat.le_of_ble_eq_true rfl) ?_
  exact w_rett dJ0_charAt_5068e_15 rfl (pk_charN (by omega)).1 (Nat.le_of_ble_eq_true rfl) (Nat.le_of_ble_eq_true rfl) ⟨rfl, rfl⟩
