/-! the codes of a condition: what they tell (the first rows are given for pasting: kit/laws) -/
theorem wb_tb (n : Nat) : (lN n).toBitVec = BitVec.ofNat 64 n := rfl
theorem wb_inj {a b : Int64} (h : a.toBitVec = b.toBitVec) : a = b := Int64.toBitVec_inj.mp h
theorem wb_tn {n : Nat} (h : n < 2 ^ 64) : (lN n).toBitVec.toNat = n := by rw [wb_tb, BitVec.toNat_ofNat, Nat.mod_eq_of_lt h]
theorem wb_c : ∀ k, k < 64 → ((nI k).toInt64 &&& 63) = lN k := by decide +kernel
theorem wb_cu : ∀ k, k < 64 → ((nI k).toInt64.toUInt64 &&& Int64.toUInt64 63) = UInt64.ofNat k := by decide +kernel
theorem wb_sm : ∀ k, k < 64 → (BitVec.ofNat 64 k).smod 64 = BitVec.ofNat 64 k := by decide +kernel
theorem wb_lt2 {a b : Nat} (h : a < b) : 2 ^ a < 2 ^ b := Nat.pow_lt_pow_right (by decide) h
theorem wb_shr {n k : Nat} (hn : n < 2 ^ 64) (hk : k < 64) : ((lN n).toUInt64 >>> ((nI k).toInt64.toUInt64 &&& Int64.toUInt64 63)).toInt64 = lN (n / 2 ^ k) := by
  rw [wb_cu k hk]
  apply wb_inj
  apply BitVec.eq_of_toNat_eq
  show ((lN n).toUInt64 >>> UInt64.ofNat k).toNat = (BitVec.ofNat 64 _).toNat
  have h1 : (UInt64.ofNat k).toNat = k := by
    show (BitVec.ofNat 64 k).toNat = k
    rw [BitVec.toNat_ofNat, Nat.mod_eq_of_lt (by omega)]
  have h2 : (lN n).toUInt64.toNat = n := wb_tn hn
  rw [UInt64.toNat_shiftRight, h1, h2, Nat.mod_eq_of_lt hk, Nat.shiftRight_eq_div_pow, BitVec.toNat_ofNat, Nat.mod_eq_of_lt (Nat.lt_of_le_of_lt (Nat.div_le_self _ _) hn)]
theorem wb_shl (n : Nat) {k : Nat} (hk : k < 64) : lN n <<< ((nI k).toInt64 &&& 63) = lN (n * 2 ^ k) := by
  rw [wb_c k hk]
  apply wb_inj
  rw [Int64.toBitVec_shiftLeft, wb_tb, wb_tb, wb_tb, wb_sm k hk]
  apply BitVec.eq_of_toNat_eq
  rw [BitVec.shiftLeft_eq', BitVec.toNat_shiftLeft, BitVec.toNat_ofNat, BitVec.toNat_ofNat, BitVec.toNat_ofNat, Nat.mod_eq_of_lt (show k < 2 ^ 64 by omega), Nat.shiftLeft_eq, Nat.mul_mod, Nat.mod_mod, ← Nat.mul_mod]
theorem wb_and {a b : Nat} (ha : a < 2 ^ 64) (hb : b < 2 ^ 64) : lN a &&& lN b = lN (a &&& b) := by
  apply wb_inj
  rw [Int64.toBitVec_and, wb_tb, wb_tb, wb_tb]
  apply BitVec.eq_of_toNat_eq
  rw [BitVec.toNat_and, BitVec.toNat_ofNat, BitVec.toNat_ofNat, BitVec.toNat_ofNat, Nat.mod_eq_of_lt ha, Nat.mod_eq_of_lt hb, Nat.mod_eq_of_lt (Nat.and_lt_two_pow _ hb)]
theorem wb_or {a b : Nat} (ha : a < 2 ^ 64) (hb : b < 2 ^ 64) : lN a ||| lN b = lN (a ||| b) := by
  apply wb_inj
  rw [Int64.toBitVec_or, wb_tb, wb_tb, wb_tb]
  apply BitVec.eq_of_toNat_eq
  rw [BitVec.toNat_or, BitVec.toNat_ofNat, BitVec.toNat_ofNat, BitVec.toNat_ofNat, Nat.mod_eq_of_lt ha, Nat.mod_eq_of_lt hb, Nat.mod_eq_of_lt (Nat.or_lt_two_pow ha hb)]
theorem lN_xor1 {a b : Nat} (ha : a < 2 ^ 64) (hb : b < 2 ^ 64) : lN a ^^^ lN b = lN (a ^^^ b) := by
  apply wb_inj
  rw [Int64.toBitVec_xor, wb_tb, wb_tb, wb_tb]
  apply BitVec.eq_of_toNat_eq
  rw [BitVec.toNat_xor, BitVec.toNat_ofNat, BitVec.toNat_ofNat, BitVec.toNat_ofNat, Nat.mod_eq_of_lt ha, Nat.mod_eq_of_lt hb, Nat.mod_eq_of_lt (Nat.xor_lt_two_pow ha hb)]
theorem nb_and0 {t a : Nat} (ha : a ≤ 1) (ht : t < 2 ^ 62) : (2 * t + a) &&& (2 ^ 64 - 2) = 2 * t := by
  apply Nat.eq_of_testBit_eq
  intro i
  rw [Nat.testBit_and]
  cases i with
  | zero =>
    rw [Nat.testBit_zero, Nat.testBit_zero, Nat.testBit_zero]
    have h1 : (2 ^ 64 - 2) % 2 = 0 := by decide
    have h2 : (2 * t) % 2 = 0 := by omega
    rw [h1, h2]; simp
  | succ i =>
    rw [Nat.testBit_succ, Nat.testBit_succ, Nat.testBit_succ, show (2 * t + a) / 2 = t by omega, show (2 ^ 64 - 2) / 2 = 2 ^ 63 - 1 by decide, show 2 * t / 2 = t by omega, Nat.testBit_two_pow_sub_one]
    by_cases h : i < 63
    · simp [h]
    · rw [Nat.testBit_lt_two_pow (Nat.lt_of_lt_of_le ht (Nat.pow_le_pow_right (by decide) (show 62 ≤ i by omega)))]; rfl
theorem nb_and1 {x : Nat} (hx : x < 2 ^ 64) : x &&& (2 ^ 64 - 1) = x := by rw [Nat.and_two_pow_sub_one_eq_mod, Nat.mod_eq_of_lt hx]
theorem nb_or1 (t : Nat) {a b : Nat} (ha : a ≤ 1) (hb : b ≤ 1) : (2 * t + a) ||| b = 2 * t + (if a = 1 ∨ b = 1 then 1 else 0) := by
  apply Nat.eq_of_testBit_eq
  intro i
  rw [Nat.testBit_or]
  cases i with
  | zero =>
    rw [Nat.testBit_zero, Nat.testBit_zero, Nat.testBit_zero]
    by_cases h1 : a = 1 <;> by_cases h2 : b = 1 <;> simp [h1, h2] <;> omega
  | succ i =>
    rw [Nat.testBit_succ, Nat.testBit_succ, Nat.testBit_succ, show (2 * t + a) / 2 = t by omega, show b / 2 = 0 by omega, show (2 * t + (if a = 1 ∨ b = 1 then 1 else 0)) / 2 = t by split <;> omega, Nat.zero_testBit, Bool.or_false]
theorem nb_xor1 (t : Nat) {a : Nat} (ha : a ≤ 1) : (2 * t + a) ^^^ 1 = 2 * t + (1 - a) := by
  apply Nat.eq_of_testBit_eq
  intro i
  rw [Nat.testBit_xor]
  cases i with
  | zero =>
    rw [Nat.testBit_zero, Nat.testBit_zero, Nat.testBit_zero]
    rcases Nat.le_one_iff_eq_zero_or_eq_one.mp ha with h | h <;> subst h <;> simp <;> omega
  | succ i =>
    rw [Nat.testBit_succ, Nat.testBit_succ, Nat.testBit_succ, show (2 * t + a) / 2 = t by omega, show 1 / 2 = 0 by omega, show (2 * t + (1 - a)) / 2 = t by omega, Nat.zero_testBit, Bool.xor_false]
section EVS
variable {T : ST} {k : Nat}
theorem hs_atom {c : Int32} (h1 : c < -7) (h2 : ¬ c = -10) (h3 : ¬ c < -12) (t : Nat) (ht : t < 2 ^ 62) (l x : Int32) : hstep T k c (lN t, l, x) = (lN (2 * t + atomN T k c (x - l)), l, nI 0) := by
  have h9 := atomN_le T k c (x - l)
  unfold hstep
  rw [if_neg (fun h => h h1), if_neg h2, if_pos h3]
  show (lN t <<< ((nI 1).toInt64 &&& 63) ||| lN (atomN T k c (x - l)), l, nI 0) = _
  rw [wb_shl t (by decide), wb_or (by omega) (by omega), show t * 2 ^ 1 = 2 * t + 0 by omega, nb_or1 t (by decide) h9]
  rcases Nat.le_one_iff_eq_zero_or_eq_one.mp h9 with h | h <;> rw [h] <;> rfl
theorem hs_not {t a : Nat} (ha : a ≤ 1) (ht : t < 2 ^ 62) (l x : Int32) : hstep T k (-13) (lN (2 * t + a), l, x) = (lN (2 * t + (1 - a)), l, x) := by
  unfold hstep
  rw [if_neg (by decide), if_neg (by decide), if_neg (by decide), if_pos rfl]
  show (lN (2 * t + a) ^^^ lN 1, l, x) = _
  rw [lN_xor1 (by omega) (by decide), nb_xor1 t ha]
theorem sh_r {t a b : Nat} (hb : b ≤ 1) (ht : t < 2 ^ 61) (ha : a ≤ 1) : shr1 (lN (2 * (2 * t + a) + b)) = lN (2 * t + a) := by
  show ((lN (2 * (2 * t + a) + b)).toUInt64 >>> ((nI 1).toInt64.toUInt64 &&& Int64.toUInt64 63)).toInt64 = _
  rw [wb_shr (by omega) (by decide), show (2 * (2 * t + a) + b) / 2 ^ 1 = 2 * t + a by omega]
theorem ls_1 {x b : Nat} (hb : b ≤ 1) (hx : x < 2 ^ 62) : lN (2 * x + b) &&& lN 1 = lN b := by
  have e : (2 * x + b) &&& 1 = b := by
    have h := Nat.and_two_pow_sub_one_eq_mod (2 * x + b) 1
    rw [show 2 ^ 1 - 1 = 1 from rfl] at h
    rw [h]; omega
  rw [wb_and (by omega) (by decide), e]
theorem hs_and {t a b : Nat} (ha : a ≤ 1) (hb : b ≤ 1) (ht : t < 2 ^ 61) (l x : Int32) : hstep T k (-14) (lN (2 * (2 * t + a) + b), l, x) = (lN (2 * t + (if a = 1 ∧ b = 1 then 1 else 0)), l, x) := by
  unfold hstep
  rw [if_neg (by decide), if_neg (by decide), if_neg (by decide), if_neg (by decide), if_pos rfl]
  simp only
  rw [sh_r hb ht ha, ls_1 hb (by omega)]
  rcases Nat.le_one_iff_eq_zero_or_eq_one.mp hb with h | h
  · subst h
    have e : (lN 0 ||| (-2) : Int64) = lN (2 ^ 64 - 2) := by decide
    rw [e, wb_and (by omega) (by decide), nb_and0 ha (by omega), if_neg (by omega)]
    rfl
  · subst h
    have e : (lN 1 ||| (-2) : Int64) = lN (2 ^ 64 - 1) := by decide
    rw [e, wb_and (by omega) (by decide), nb_and1 (by omega)]
    rcases Nat.le_one_iff_eq_zero_or_eq_one.mp ha with h | h <;> subst h <;> rfl
theorem hs_or {t a b : Nat} (ha : a ≤ 1) (hb : b ≤ 1) (ht : t < 2 ^ 61) (l x : Int32) : hstep T k (-15) (lN (2 * (2 * t + a) + b), l, x) = (lN (2 * t + (if a = 1 ∨ b = 1 then 1 else 0)), l, x) := by
  unfold hstep
  rw [if_neg (by decide), if_neg (by decide), if_neg (by decide), if_neg (by decide), if_neg (by decide)]
  simp only
  rw [sh_r hb ht ha, ls_1 hb (by omega), wb_or (by omega) (by omega), nb_or1 t ha hb]
/-- codes that add a to the sum -/
def SmV (T : ST) (k : Nat) (cs : List Int32) (a : Nat) : Prop := ∀ (t : Int64) (l x : Int32), hL T k cs (t, l, x) = (t, l, x + nI a)
/-- codes that tell a truth v -/
def EvV (T : ST) (k : Nat) (b : Nat) (cs : List Int32) (v : Nat) : Prop := v ≤ 1 ∧ ∀ (t : Nat) (l : Int32), t < 2 ^ b → ∃ l2, hL T k cs (lN t, l, nI 0) = (lN (2 * t + v), l2, nI 0)
theorem SmV.one {c : Int32} {a : Nat} (h : ¬ c < -7) (e : (if c < nI 0 then partV T k c else c) = nI a) : SmV T k [c] a := by
  intro t l x
  show hstep T k c (t, l, x) = _
  unfold hstep
  rw [if_pos h]
  show (t, l, x + (if c < nI 0 then partV T k c else c)) = _
  rw [e]
theorem SmV.cons {c : Int32} {cs : List Int32} {a b : Nat} (h1 : SmV T k [c] a) (h2 : SmV T k cs b) : SmV T k (c :: cs) (a + b) := by
  intro t l x
  have e1 : hstep T k c (t, l, x) = (t, l, x + nI a) := h1 t l x
  show hL T k cs (hstep T k c (t, l, x)) = _
  rw [e1, h2, Int32.add_assoc, nI_add]
theorem SmV.app {c1 c2 : List Int32} {a b : Nat} (h1 : SmV T k c1 a) (h2 : SmV T k c2 b) : SmV T k (c1 ++ c2) (a + b) := by
  intro t l x
  rw [hL_app, h1, h2, Int32.add_assoc, nI_add]
theorem lt_p {t b : Nat} (hb : b ≤ 60) (h : t < 2 ^ b) : t < 2 ^ 60 := Nat.lt_of_lt_of_le h (Nat.pow_le_pow_right (by decide) hb)
theorem lt_p1 {t b v : Nat} (h : t < 2 ^ b) (hv : v ≤ 1) : 2 * t + v < 2 ^ (b + 1) := by
  rw [Nat.pow_succ]; omega
theorem EvV.own {b : Nat} (hb : b ≤ 60) : EvV T k b [-8] (b2 (T 4 k = thereN T)) := ⟨b2_le _, fun t l ht => ⟨l, by
  have := lt_p hb ht
  show hstep T k (-8) _ = _
  rw [hs_atom (by decide) (by decide) (by decide) t (by omega)]
  unfold atomN; rw [if_pos rfl]⟩⟩
theorem EvV.home {b : Nat} (hb : b ≤ 60) : EvV T k b [-9] (b2 (T 1 k = T 0 k)) := ⟨b2_le _, fun t l ht => ⟨l, by
  have := lt_p hb ht
  show hstep T k (-9) _ = _
  rw [hs_atom (by decide) (by decide) (by decide) t (by omega)]
  unfold atomN; rw [if_neg (by decide), if_pos rfl]⟩⟩
theorem sub_pos {a b : Nat} (ha : a < 2 ^ 30) (hb : b < 2 ^ 30) : nI 0 < nI b - nI a ↔ a < b := by
  rw [Int32.lt_iff_toInt_lt, pk_sub_toInt hb ha, show (nI 0).toInt = 0 from rfl]; omega
theorem sub_neg {a b : Nat} (ha : a < 2 ^ 30) (hb : b < 2 ^ 30) : nI b - nI a < nI 0 ↔ b < a := by
  rw [Int32.lt_iff_toInt_lt, pk_sub_toInt hb ha, show (nI 0).toInt = 0 from rfl]; omega
theorem hs_split (t : Int64) (l x : Int32) : hstep T k (-10) (t, l, x) = (t, x, nI 0) := by
  unfold hstep
  rw [if_neg (by decide), if_pos rfl]
theorem EvV.less {b : Nat} (hb : b ≤ 60) {c1 c2 : List Int32} {x z : Nat} (h1 : SmV T k c1 x) (h2 : SmV T k c2 z) (hx : x < 2 ^ 30) (hz : z < 2 ^ 30) : EvV T k b (c1 ++ (-10 :: (c2 ++ [-11]))) (b2 (x < z)) := ⟨b2_le _, fun t l ht => ⟨nI x, by
  have := lt_p hb ht
  rw [hL_app, h1]
  show hL T k (c2 ++ [-11]) (hstep T k (-10) (lN t, l, nI 0 + nI x)) = _
  rw [hs_split, hL_app, h2, nI_add, nI_add, Nat.zero_add, Nat.zero_add]
  show hstep T k (-11) _ = _
  rw [hs_atom (by decide) (by decide) (by decide) t (by omega)]
  unfold atomN; rw [if_neg (by decide), if_neg (by decide), if_pos rfl]
  simp only [sub_pos hx hz]⟩⟩
theorem EvV.more {b : Nat} (hb : b ≤ 60) {c1 c2 : List Int32} {x z : Nat} (h1 : SmV T k c1 x) (h2 : SmV T k c2 z) (hx : x < 2 ^ 30) (hz : z < 2 ^ 30) : EvV T k b (c1 ++ (-10 :: (c2 ++ [-12]))) (b2 (z < x)) := ⟨b2_le _, fun t l ht => ⟨nI x, by
  have := lt_p hb ht
  rw [hL_app, h1]
  show hL T k (c2 ++ [-12]) (hstep T k (-10) (lN t, l, nI 0 + nI x)) = _
  rw [hs_split, hL_app, h2, nI_add, nI_add, Nat.zero_add, Nat.zero_add]
  show hstep T k (-12) _ = _
  rw [hs_atom (by decide) (by decide) (by decide) t (by omega)]
  unfold atomN; rw [if_neg (by decide), if_neg (by decide), if_neg (by decide)]
  simp only [sub_neg hx hz]⟩⟩
theorem EvV.not {b v : Nat} (hb : b ≤ 60) {cs : List Int32} (h : EvV T k b cs v) : EvV T k b (cs ++ [-13]) (1 - v) := ⟨by omega, fun t l ht => by
  have := lt_p hb ht
  obtain ⟨l2, h2⟩ := h.2 t l ht
  refine ⟨l2, ?_⟩
  rw [hL_app, h2]
  exact hs_not (T := T) (k := k) h.1 (by omega) _ _⟩
theorem EvV.and {b v w : Nat} (hb : b ≤ 60) {c1 c2 : List Int32} (h : EvV T k b c1 v) (h2 : EvV T k (b + 1) c2 w) : EvV T k b (c1 ++ (c2 ++ [-14])) (if v = 1 ∧ w = 1 then 1 else 0) := ⟨by split <;> omega, fun t l ht => by
  have := lt_p hb ht
  obtain ⟨l2, e2⟩ := h.2 t l ht
  obtain ⟨l3, e3⟩ := h2.2 (2 * t + v) l2 (lt_p1 ht h.1)
  refine ⟨l3, ?_⟩
  rw [hL_app, e2, hL_app, e3]
  exact hs_and (T := T) (k := k) h.1 h2.1 (by omega) _ _⟩
theorem EvV.or {b v w : Nat} (hb : b ≤ 60) {c1 c2 : List Int32} (h : EvV T k b c1 v) (h2 : EvV T k (b + 1) c2 w) : EvV T k b (c1 ++ (c2 ++ [-15])) (if v = 1 ∨ w = 1 then 1 else 0) := ⟨by split <;> omega, fun t l ht => by
  have := lt_p hb ht
  obtain ⟨l2, e2⟩ := h.2 t l ht
  obtain ⟨l3, e3⟩ := h2.2 (2 * t + v) l2 (lt_p1 ht h.1)
  refine ⟨l3, ?_⟩
  rw [hL_app, e2, hL_app, e3]
  exact hs_or (T := T) (k := k) h.1 h2.1 (by omega) _ _⟩
theorem EvV.end {cs : List Int32} {v : Nat} (h : EvV T k 1 cs v) : hEnd (hL T k cs h0).1 ↔ v = 1 := by
  obtain ⟨l2, e⟩ := h.2 1 (nI 0) (by decide)
  have hv := h.1
  unfold h0 hEnd
  rw [e]
  show (¬ lg_cmp (lN (2 * 1 + v) &&& lN 1) (lN 0) = nI 0) ↔ _
  rw [ls_1 hv (by decide)]
  rcases Nat.le_one_iff_eq_zero_or_eq_one.mp hv with h | h <;> subst h <;> decide
end EVS
