/-! the claim -/
theorem st_eok {l : Launch} {s : State} {b L : Nat} {xs : Nat → Int32} (hf : l.flags = flags0) (hts1 : ∀ w ∈ tables_1, w.before #[Value.ref b] s = true) (htsL : ∀ w ∈ LW, w.before #[Value.ref b] s = true) (hgv : (Cond.and given_1 narrow_1).before #[Value.ref b] s = true) (hX : va_X b L xs s s.heap) (hb : b < s.heap.size) : ∃ E : EV, eL E = l ∧ eB E = s.heap.size ∧ eX E = (b, L, xs) ∧ EOK E s := by
  have hA : ∀ a : Nat, a < s.heap.size → ¬ (fun q => s.heap.size ≤ q) a := fun a h => Nat.not_le.mpr h
  have hs := flat_of_before _ hgv
  obtain ⟨K9, V9, hS⟩ := st_str (A := fun q => s.heap.size ≤ q) hts1 hgv hA
  obtain ⟨D, hD⟩ := st_cls htsL
  obtain ⟨c0, i1, i2⟩ := st_arr (ty := .int) (fun C h => by cases h) (htsL _ u_62)
  obtain ⟨c1, z1, z2⟩ := st_arr (ty := .boolean) (fun C h => by cases h) (htsL _ u_1297)
  obtain ⟨c2, j1, j2⟩ := st_arr (ty := .long) (fun C h => by cases h) (htsL _ u_1794)
  obtain ⟨c3, o1, o2⟩ := st_arrO (hts1 _ aoI)
  refine ⟨(l, D, (fun i => match i with | 0 => c0 | 1 => c1 | 2 => c2 | _ => c3), s.heap.size, (b, L, xs), K9, V9), rfl, rfl, rfl, st_flags hf, ⟨hD, ?_⟩, fun w hw => va_Nw.of (nw_tabs hw) (hts1 _ (List.mem_filter.mp hw).1), ?_, ?_, hS, ?_, ?_, hts1 _ aoI, hX, hb, Nat.le_refl _, ?_⟩
  · intro k q hq
    match k, hq with
    | 0, hq => cases hq; exact ⟨i1, i2⟩
    | 1, hq => cases hq; exact ⟨z1, z2⟩
    | 2, hq => cases hq; exact ⟨j1, j2⟩
    | 3, hq => cases hq; exact ⟨o1, o2⟩
    | n + 4, hq => exact absurd (List.getElem?_eq_some_iff.mp hq).1 (by simp [tysE])
  · exact vx_Zqof (hts1 _ lsUS) (htsL _ u_16) (hs (.isRef (.static "java/lang/Throwable" "UNASSIGNED_STACK" "[Ljava/lang/StackTraceElement;")) (by decide +kernel)) hA
  · exact vx_Zqof (hts1 _ lsSS) (htsL _ u_16) (hs (.isRef (.static "java/lang/Throwable" "SUPPRESSED_SENTINEL" "Ljava/util/List;")) (by decide +kernel)) hA
  · exact va_Zof (hts1 _ lsCS) (htsL _ u_12) (va_eqi (hs (.eq (.static "java/lang/String" "COMPACT_STRINGS" "Z") (.int 1)) (by decide +kernel))) hA
  · exact va_Zqof (hts1 _ lsPF) (htsL _ u_14) (hs (.isRef (.static "jdk/internal/util/Preconditions" "SIOOBE_FORMATTER" "Ljava/util/function/BiFunction;")) (by decide +kernel)) hA
  · have h : ∀ q ∈ ncT, Cond.not (.castable q.1 q.2) ∈ flatC (Cond.and given_1 narrow_1) := by decide +kernel
    exact fun q hq => va_Nc.of (hs _ (h q hq))
def lw_P (b : Addr) (xs : List Int32) (args : Array Value) (s : State) : Prop := args = #[.ref b] ∧ s.IntsAt b xs ∧ xs.length ≤ 3072 ∧ (Jvm.Cond.and given_1 narrow_1).before args s = true
def lw_Q (_ : Array Value) (s : State) (o : Outcome) (t : State) : Prop := o = .returned (some (.int 1)) ∧ Framed s o t [] 601024 7293034
theorem lw_pre_spec {args : Array Value} {s : State} (h : (Jvm.Cond.and given_1 narrow_1).before args s = true) (hr : rest_1_c.before args s = true) : ∃ (b : Addr) (xs : List Int32), lw_P b xs args s := by
  have hs := flat_of_before _ h
  have hq := flat_of_before _ hr
  have hc : (Cond.count 1).before args s = true := hs _ (by decide +kernel)
  have harr : (Cond.arrayOf (.arg 0) .int).before args s = true := hs _ (by decide +kernel)
  have hle : (Cond.le (.length (.arg 0)) (.int 3072)).before args s = true := hs _ (by decide +kernel)
  have hlen : (Cond.isInt (.length (.arg 0))).before args s = true := hq _ (by decide +kernel)
  have hall : (Cond.all (.arg 0) (.isInt (.elem (.arg 0) (.index 0)))).before args s = true := hq _ (by decide +kernel)
  obtain ⟨b, xs, hb, hx⟩ := State.ints_of_pre rfl harr hlen hall
  have hsm : xs.length < 2 ^ 31 := hx.choose_spec.2.2.2
  have hev : (Term.length (.arg 0)).eval args s none [] s = some (.int xs.length.toInt32) := hx.length_eval hb
  have hv := Cond.le_ints hev (show (Term.int 3072).eval args s none [] s = some (.int 3072) from rfl)
  have hd : xs.length.toInt32 ≤ 3072 := by
    simpa [Cond.before, Cond.holds, hv] using hle
  have hN : xs.length ≤ 3072 := (Int32.ofNat_le_ofNat hsm (by decide)).mp (show Int32.ofNat xs.length ≤ Int32.ofNat 3072 from hd)
  exact ⟨b, xs, Cond.one_arg hc (show args[0]? = some (.ref b) from hb), hx, hN, h⟩
theorem lw_comes (l : Launch) (hfl : l.flags = flags0) : Comes l x (Jvm.Cond.code x code maxLocals ret :: tables_1) room_1 (fun tb e args s => Calls_1 tb e args s ∧ rest_1 tb e args s ∧ Pre_1 tb e args s)
    (fun _ _ args s o t => lw_Q args s o t) := by
  intro p e ha hc hk s m args below hf hfit hheap happ hpre
  obtain ⟨b, xs, hP⟩ := lw_pre_spec hpre.2.2 hpre.2.1
  obtain ⟨rfl, hx, hbd, hgv⟩ := hP
  obtain ⟨scr, harrAt, hlist, hof, hsmall⟩ := hx
  obtain ⟨hcb, hkn, -, -⟩ := State.arrayAt?_spec harrAt
  have hsz : scr.slots.size = xs.length := by rw [← Array.length_toList, hlist, List.length_map]
  have hval : ∀ j : Nat, j < xs.length → scr.slots[j]? = some (.int (xs.getD j 0)) := fun j hj => by
    rw [← Array.getElem?_toList, hlist]
    simp [hj]
  have hbl : b < s.heap.size := (Array.getElem?_eq_some_iff.mp hcb).1
  have hX : va_X b xs.length (fun j => xs.getD j 0) s s.heap := ⟨scr, hcb, hof, hkn, hsz, hval⟩
  have happL := ((Spec.applies_iff_loose hf).mp happ).1
  have hw0 : ∀ (a : Array Value) (U : State), (allAtoms (Jvm.Cond.code x code maxLocals ret :: tables_1)).before a U = true → (∀ w ∈ tables_1, w.before a U = true) ∧ (∀ w ∈ LW, w.before a U = true) := by
    intro a U h
    have h1 := atoms_spec h
    have h2 : ∀ w ∈ tables_1, w.before a U = true := fun w hw => h1 w (List.mem_cons_of_mem _ hw)
    have h3 : ∀ w ∈ lw_tbl, w.before a U = true := k2_hts_sels lw_privs h2 lw_privs_ok
    exact ⟨h2, fun w hw => h3 w (List.mem_filter.mp hw).1⟩
  obtain ⟨-, -, -, -, -, -, -, hpa⟩ := (Spec.appliesLoose_iff hf).mp happL
  obtain ⟨hts1, htsL⟩ := hw0 _ _ hpa
  obtain ⟨E, e1, e2, e3, hE⟩ := st_eok hfl hts1 htsL hgv hX hbl
  have M0 := law_ok (E := E) (G := (fun _ => none, eB E)) rfl (by rw [e3]; exact hbd)
  have M1 := MetFree.respec M0 (S' := headSpec (Jvm.Cond.code x code maxLocals ret :: tables_1) room_1) (fun a U h => atoms_intro (fun w hw => by
    rcases List.mem_cons.mp hw with rfl | hw
    · exact atoms_spec h _ List.mem_cons_self
    · exact (hw0 a U h).2 w hw)) (Nat.le_of_ble_eq_true rfl) (Nat.le_of_ble_eq_true rfl) (Nat.le_of_ble_eq_true rfl) (Nat.le_of_ble_eq_true rfl)
  obtain ⟨n, o, h1, h2, h3, hQ⟩ := M1 p e (by rw [e1]; exact ha) hc hk s m #[Value.ref b] below hf happL ⟨by rw [e3], hE, e2.symm, fun a y h => by cases h⟩ trivial
  refine ⟨n, o, h1, h2, h3, ?_⟩
  rcases hQ with ⟨⟨⟨v, G1, ho, hq, -⟩, -⟩, L9, hFE, hfree⟩ | ⟨q, ho, hT⟩
  · have hv : v = some (.int 1) := by
      have hq2 : (Sum.inl v : OC) = .inl (some (.int (nI 1))) := hq
      have := Sum.inl.inj hq2
      exact this
    subst hv
    refine ⟨ho, ⟨_, ho⟩, hFE.2.1, ?_⟩
    obtain ⟨g1, g2, g3, g4, g5, g6⟩ := hFE.2.2
    refine ⟨g1, g2, g3, g4, g5, fun a c hac => ?_⟩
    obtain ⟨c', k1, k2, k3, k4⟩ := g6 a c hac
    refine ⟨c', k1, k2, k3, fun i _ => k4 i (fun hm => ?_)⟩
    have h9 : eB E ≤ a := hfree _ hm
    have h8 : a < s.heap.size := (Array.getElem?_eq_some_iff.mp hac).1
    exact absurd h8 (Nat.not_lt.mpr (e2 ▸ h9))
  · obtain ⟨X9, ce, L9, ⟨⟨G1, hq, -⟩, -⟩, -⟩ := hT
    exact absurd hq (by intro h; cases h)
theorem lw_frame {s t : State} {o : Outcome} {args : Array Value} (h : Framed s o t [] 601024 7293034) :
    Framed s o t (fieldLocs frame_1_writes args s ++ arrayLocs frame_1_arrays args s ++ staticLocs frame_1_statics s) 601024 7293034 := h
theorem lw_limb (L : Cond) (hL : ∀ (args : Array Value) (s t : State), L.after args s (.returned (some (.int 1))) t = true) :
    ArmFor flags0 classFile x code maxLocals ret World_1 tables_1 room_1 Calls_1 rest_1 Pre_1
      (fun tb e a s o t => postC L tb e a s o t ∧ Framed s o t (fieldLocs frame_1_writes a s ++ arrayLocs frame_1_arrays a s ++ staticLocs frame_1_statics s) 601024 7293034) := by
  intro l hfl _ _ p e ha hc hk s m args below hf hfit hheap happ hpre
  obtain ⟨k, o, h1, h2, h3, rfl, hF⟩ := lw_comes l hfl p e ha hc hk s m args below hf hfit hheap happ hpre
  exact ⟨k, _, h1, h2, h3, hL args s _, lw_frame hF⟩
theorem i_vc : Claimed_1_1 ∧ Claimed_1_2 := ⟨lw_limb limb_1_1 (fun args s t => by simp [limb_1_1, Cond.after, Cond.holds, Cond.value]), lw_limb limb_1_2 (fun args s t => Cond.after_iff.mpr (by
  first | (rw [show limb_1_2 = Cond.eq .result (.int 1) from rfl, Cond.eq_ints (x := 1) (y := 1) rfl rfl]; simp; done) | (simp [limb_1_2, Cond.value, Term.eval]; done)))⟩
