/-! more rules: numbers as nI, words that are often asked; small facts -/
theorem ini_sys : Cond.initialized "java/lang/System" ∈ LW := u_11
theorem ow_1 : Cond.instanceMethod Lib.objectInit ∈ LW := u_30
theorem ow_2 : Cond.code Lib.objectInit ⟨#[0xb1]⟩ 1 none ∈ LW := u_31
theorem aw_int : Cond.arrayClass .int ∈ LW := u_62
theorem sta_copy : Cond.static arraycopyName ∈ LW := u_339
theorem nat_copy : Cond.native arraycopyName ∈ LW := lw2 100 rfl rfl
theorem aw_boolean : Cond.arrayClass .boolean ∈ LW := u_1297
theorem aw_long : Cond.arrayClass .long ∈ LW := u_1794
theorem nI_inc (a : Nat) : nI a + Int32.ofInt 1 = nI (a + 1) := nI_1 a
section WPN
variable {E : EV} {d mc ms : Nat} {K : MR} {Q : OC → AH → Prop} {G : AH} {cs : Nat × Nat} {pc : Nat} {L st : List Value}
theorem nI_mask {k : Nat} (h : k < 32) : nI k &&& 31 = nI k := by
  have := pk_andN (n := k) (by omega) (m := 31) 5 (by decide)
  rw [this, Nat.mod_eq_of_lt (by omega)]
theorem shl_key : ∀ k : Fin 31, (((nI k.val) &&& 31).toBitVec.smod 32).toNat = k.val := by decide +kernel
theorem nI_shl {a k : Nat} (hk : k < 31) (h : a * 2 ^ k < 2 ^ 32) : nI a <<< (nI k &&& 31) = nI (a * 2 ^ k) := pk_shlN (nI k &&& 31) k (shl_key ⟨k, hk⟩) h
theorem nI_shr {a k : Nat} (hk : k < 31) (h : a < 2 ^ 31) : nI a >>> (nI k &&& 31) = nI (a / 2 ^ k) := pk_shrN h (nI k &&& 31) k (shl_key ⟨k, hk⟩)
theorem nI_bv (a : Nat) : (nI a).toBitVec = BitVec.ofNat 32 a := rfl
theorem nI_or (a b : Nat) : nI a ||| nI b = nI (a ||| b) := by
  apply Int32.toBitVec_inj.mp
  show (nI a).toBitVec ||| (nI b).toBitVec = BitVec.ofNat 32 (a ||| b)
  rw [nI_bv, nI_bv]
  exact (BitVec.ofNat_or).symm
theorem nI_and (a b : Nat) : nI a &&& nI b = nI (a &&& b) := by
  apply Int32.toBitVec_inj.mp
  show (nI a).toBitVec &&& (nI b).toBitVec = BitVec.ofNat 32 (a &&& b)
  rw [nI_bv, nI_bv]
  exact (BitVec.ofNat_and).symm
theorem nI_xor (a b : Nat) : nI a ^^^ nI b = nI (a ^^^ b) := by
  apply Int32.toBitVec_inj.mp
  show (nI a).toBitVec ^^^ (nI b).toBitVec = BitVec.ofNat 32 (a ^^^ b)
  rw [nI_bv, nI_bv]
  exact (BitVec.ofNat_xor).symm
theorem w_iaddN {a b : Nat} (hd : decode K.2.1 pc = .ok (.iadd, 1)) (k : Wp E d mc ms K Q G cs (pc + 1) L (.int (nI (a + b)) :: st)) : Wp E d mc ms K Q G cs pc L (.int (nI b) :: .int (nI a) :: st) := w_iadd hd (by rw [nI_add]; exact k)
theorem w_imulN {a b : Nat} (hd : decode K.2.1 pc = .ok (.imul, 1)) (k : Wp E d mc ms K Q G cs (pc + 1) L (.int (nI (a * b)) :: st)) : Wp E d mc ms K Q G cs pc L (.int (nI b) :: .int (nI a) :: st) := w_imul hd (by rw [pk_mul]; exact k)
theorem w_iorN {a b : Nat} (hd : decode K.2.1 pc = .ok (.ior, 1)) (k : Wp E d mc ms K Q G cs (pc + 1) L (.int (nI (a ||| b)) :: st)) : Wp E d mc ms K Q G cs pc L (.int (nI b) :: .int (nI a) :: st) := w_ior hd (by rw [nI_or]; exact k)
theorem w_iandN {a b : Nat} (hd : decode K.2.1 pc = .ok (.iand, 1)) (k : Wp E d mc ms K Q G cs (pc + 1) L (.int (nI (a &&& b)) :: st)) : Wp E d mc ms K Q G cs pc L (.int (nI b) :: .int (nI a) :: st) := w_iand hd (by rw [nI_and]; exact k)
theorem w_isubN {a b : Nat} (h : b ≤ a) (hd : decode K.2.1 pc = .ok (.isub, 1)) (k : Wp E d mc ms K Q G cs (pc + 1) L (.int (nI (a - b)) :: st)) : Wp E d mc ms K Q G cs pc L (.int (nI b) :: .int (nI a) :: st) := w_isub hd (by rw [pk_sub h]; exact k)
theorem w_idivN {a b : Nat} (ha : a < 2 ^ 31) (h0 : 0 < b) (hb : b < 2 ^ 31) (hd : decode K.2.1 pc = .ok (.idiv, 1)) (k : Wp E d mc ms K Q G cs (pc + 1) L (.int (nI (a / b)) :: st)) : Wp E d mc ms K Q G cs pc L (.int (nI b) :: .int (nI a) :: st) := w_idiv hd (nI_ne0 h0 hb) (by rw [pk_div ha h0 hb]; exact k)
theorem w_iremN {a b : Nat} (ha : a < 2 ^ 31) (h0 : 0 < b) (hb : b < 2 ^ 31) (hd : decode K.2.1 pc = .ok (.irem, 1)) (k : Wp E d mc ms K Q G cs (pc + 1) L (.int (nI (a % b)) :: st)) : Wp E d mc ms K Q G cs pc L (.int (nI b) :: .int (nI a) :: st) := w_irem hd (nI_ne0 h0 hb) (by rw [pk_rem ha h0 hb]; exact k)
theorem w_ishlN {a k : Nat} (hk : k < 31) (h : a * 2 ^ k < 2 ^ 32) (hd : decode K.2.1 pc = .ok (.ishl, 1)) (kk : Wp E d mc ms K Q G cs (pc + 1) L (.int (nI (a * 2 ^ k)) :: st)) : Wp E d mc ms K Q G cs pc L (.int (nI k) :: .int (nI a) :: st) := w_ishl hd (by rw [nI_shl hk h]; exact kk)
theorem w_laddN {a b : Nat} (hd : decode K.2.1 pc = .ok (.ladd, 1)) (k : Wp E d mc ms K Q G cs (pc + 1) L (.long (lN (a + b)) :: st)) : Wp E d mc ms K Q G cs pc L (.long (lN b) :: .long (lN a) :: st) := w_ladd hd (by rw [lN_add]; exact k)
theorem w_lmulN {a b : Nat} (hd : decode K.2.1 pc = .ok (.lmul, 1)) (k : Wp E d mc ms K Q G cs (pc + 1) L (.long (lN (a * b)) :: st)) : Wp E d mc ms K Q G cs pc L (.long (lN b) :: .long (lN a) :: st) := w_lmul hd (by rw [lN_mul]; exact k)
theorem w_i2lN {a : Nat} (ha : a < 2 ^ 31) (hd : decode K.2.1 pc = .ok (.i2l, 1)) (k : Wp E d mc ms K Q G cs (pc + 1) L (.long (lN a) :: st)) : Wp E d mc ms K Q G cs pc L (.int (nI a) :: st) := w_i2l hd (by rw [nI_l ha]; exact k)
theorem w_ifN_eq {x : Int32} {off : Int} {tgt : Nat} (hd : decode K.2.1 pc = .ok (.ifCond .eq off, 3)) (ht : (pc : Int) + off = (tgt : Int)) (kt : x = nI 0 → Wp E d mc ms K Q G cs tgt L st) (kf : ¬ x = nI 0 → Wp E d mc ms K Q G cs (pc + 3) L st) : Wp E d mc ms K Q G cs pc L (.int x :: st) := w_if_eq hd ht (fun h => kt h) (fun h => kf h)
theorem w_ifN_ne {x : Int32} {off : Int} {tgt : Nat} (hd : decode K.2.1 pc = .ok (.ifCond .ne off, 3)) (ht : (pc : Int) + off = (tgt : Int)) (kt : ¬ x = nI 0 → Wp E d mc ms K Q G cs tgt L st) (kf : x = nI 0 → Wp E d mc ms K Q G cs (pc + 3) L st) : Wp E d mc ms K Q G cs pc L (.int x :: st) := w_if_ne hd ht (fun h => kt h) (fun h => kf h)
theorem w_ifN_lt {x : Int32} {off : Int} {tgt : Nat} (hd : decode K.2.1 pc = .ok (.ifCond .lt off, 3)) (ht : (pc : Int) + off = (tgt : Int)) (kt : x < nI 0 → Wp E d mc ms K Q G cs tgt L st) (kf : ¬ x < nI 0 → Wp E d mc ms K Q G cs (pc + 3) L st) : Wp E d mc ms K Q G cs pc L (.int x :: st) := w_if_lt hd ht (fun h => kt h) (fun h => kf h)
theorem w_ifN_ge {x : Int32} {off : Int} {tgt : Nat} (hd : decode K.2.1 pc = .ok (.ifCond .ge off, 3)) (ht : (pc : Int) + off = (tgt : Int)) (kt : nI 0 ≤ x → Wp E d mc ms K Q G cs tgt L st) (kf : ¬ nI 0 ≤ x → Wp E d mc ms K Q G cs (pc + 3) L st) : Wp E d mc ms K Q G cs pc L (.int x :: st) := w_if_ge hd ht (fun h => kt h) (fun h => kf h)
theorem w_ifN_gt {x : Int32} {off : Int} {tgt : Nat} (hd : decode K.2.1 pc = .ok (.ifCond .gt off, 3)) (ht : (pc : Int) + off = (tgt : Int)) (kt : nI 0 < x → Wp E d mc ms K Q G cs tgt L st) (kf : ¬ nI 0 < x → Wp E d mc ms K Q G cs (pc + 3) L st) : Wp E d mc ms K Q G cs pc L (.int x :: st) := w_if_gt hd ht (fun h => kt h) (fun h => kf h)
theorem w_ifN_le {x : Int32} {off : Int} {tgt : Nat} (hd : decode K.2.1 pc = .ok (.ifCond .le off, 3)) (ht : (pc : Int) + off = (tgt : Int)) (kt : x ≤ nI 0 → Wp E d mc ms K Q G cs tgt L st) (kf : ¬ x ≤ nI 0 → Wp E d mc ms K Q G cs (pc + 3) L st) : Wp E d mc ms K Q G cs pc L (.int x :: st) := w_if_le hd ht (fun h => kt h) (fun h => kf h)
end WPN

theorem vx_ofWF {y : MethodName} {l : Launch} {ws ws' : List Cond} {rm : Room} {Pc : Array Value → State → Prop} {Qc : Array Value → State → Outcome → State → Prop} {XC : String → State → State → Prop} {mc ms : Nat} {free : Addr → Prop} {cc : ByteArray} {maxL : Nat} {ret : Option FieldType}
    (hy : plainFor y = true) (hw : ws = Cond.code y cc maxL ret :: ws')
    (body : ∀ p e s m args below meth c s₁, BodyLoose p l y (headSpec ws rm) cc maxL ret e s m args below meth c s₁ → c.maxLocals = maxL → (∀ x ∈ c.exceptionTable.toList, False) → Pc args s →
      W p l e (headSpec ws rm).room s m args below meth c s.heap [] 0 0 (vx_MQ below Qc XC args s mc ms free) (entryFrame m args maxL)) : vx_Met l y ws rm Pc Qc XC mc ms free := by
  refine MetFree.of_bodySF (code := cc) (maxLocals := maxL) (ret := ret) hy ?_ ?_
  · intro args s m h hn
    obtain ⟨meth, c, h1, h2, h3, h4, h5, h6, -, -⟩ := Cond.code_spec hn (atoms_spec (ws := ws) h _ (by rw [hw]; exact List.mem_cons_self))
    exact ⟨meth, c, h1, h2, h3, h4, h5, h6⟩
  · intro p e s m args below meth c s₁ B hml hP _
    have hh0 : s₁.heap = s.heap := by rw [B.state]; rfl
    have ht : ∀ x ∈ c.exceptionTable.toList, False := by
      obtain ⟨meth9, c9, h1, h2, -, -, -, -, h7, -⟩ := Cond.code_spec B.named (atoms_spec (ws := ws) B.pre _ (by rw [hw]; exact List.mem_cons_self))
      cases Option.some.inj (h1.symm.trans B.method)
      cases Option.some.inj (h2.symm.trans (Stand.of_body B).code)
      intro x hx
      rw [Array.isEmpty_iff.mp h7] at hx
      cases hx
    obtain ⟨t, a1, o, b1, b2, b3⟩ := body p e s m args below meth c s₁ B hml ht hP s₁ hh0 (Stand.of_body B)
    exact ⟨t, o, a1, b1, b2, b3⟩
/-- as Ct.intro, for Math's -/
theorem Ct.introF {E : EV} {d mc ms : Nat} {K : MR} {args : List Value} {G : AH} {Q : OC → AH → Prop} (hh : K.2.2.2.2 = []) (hy : plainFor K.1 = true) (L : List Value) (hc : ∀ w ∈ args, w.category = 1) (hl : args.length ≤ K.2.2.1) (hL : args ++ List.replicate (K.2.2.1 - args.length) (.float 0) = L)
    (k : Wp E d mc ms K Q G (0, 0) 0 L []) : Ct E d mc ms K args G Q := by
  have hcw : cwK K = .code K.1 K.2.1 K.2.2.1 K.2.2.2.1 := by unfold cwK; rw [hh]
  refine vx_ofWF (cc := K.2.1) (maxL := K.2.2.1) (ret := K.2.2.2.1) (ws' := LW) hy (by rw [hcw]) ?_
  intro p e s m args' below meth c s₁ B hml ht hv
  obtain ⟨rfl, hE, hR⟩ := hv
  have hts := atoms_spec (ws := cwK K :: LW) B.pre
  have htab : c.exceptionTable.toList = tableOf K.2.2.2.2 := by
    rw [hh]
    exact List.eq_nil_iff_forall_not_mem.mpr ht
  rw [lg_entry_eq]
  exact k p e s m _ below meth c s.heap [] _ ⟨B.exec, B.bytes, B.returns, hml, fun w h => hts w (List.mem_cons_of_mem _ h), findClass_of_methodNamed B.named, B.notSynchronized, htab, (name_of_methodNamed B.named B.method).1, hE⟩ hR va_S.rf (LHas.entry hc hl hL)
