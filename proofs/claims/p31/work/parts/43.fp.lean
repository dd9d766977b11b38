/-! DOUBLES: a share of turves, its bits -/
abbrev vl (a : UInt64) : FP.Core.Datum := FP.Core.decode FP.Core.b64 a.toNat
abbrev ol (d : FP.Core.Datum) : UInt64 := .ofNat (FP.Core.encode FP.Core.b64 d)
theorem q_min : FP.Core.b64.qmin = -1074 := by decide
theorem q_max : FP.Core.b64.qmax = 971 := by decide
theorem q_tl : FP.Core.b64.tails = 4503599627370496 := by decide
theorem q_ex : FP.Core.b64.exps = 2048 := by decide
theorem q_p : 2 ^ FP.Core.b64.p = 9007199254740992 := by decide
/-- c of 53 digits, the exponent in range -/
def cn (c : Nat) (q : Int) : Prop := 4503599627370496 ≤ c ∧ c < 9007199254740992 ∧ -1074 ≤ q ∧ q ≤ 971
theorem enc_n {c : Nat} {q : Int} (h : cn c q) : (ol (.fin false c q)).toNat = (q + 1075).toNat * 4503599627370496 + (c - 4503599627370496) := by
  obtain ⟨h1, h2, h3, h4⟩ := h
  have e1 : FP.Core.encode FP.Core.b64 (.fin false c q) = (q + 1075).toNat * 4503599627370496 + (c - 4503599627370496) := by
    show (if c < FP.Core.b64.tails then FP.Core.assemble FP.Core.b64 false 0 c else FP.Core.assemble FP.Core.b64 false ((q - FP.Core.b64.qmin).toNat + 1) (c - FP.Core.b64.tails)) = _
    rw [q_tl, q_min, if_neg (by omega)]
    show (false.toNat * FP.Core.b64.exps + ((q - -1074).toNat + 1)) * FP.Core.b64.tails + (c - 4503599627370496) = _
    rw [q_tl, q_ex, show false.toNat = 0 from rfl]
    omega
  show (UInt64.ofNat _).toNat = _
  rw [e1]
  exact UInt64.toNat_ofNat_of_lt' (by show _ < 18446744073709551616; omega)
theorem v_ol {c : Nat} {q : Int} (h : cn c q) : vl (ol (.fin false c q)) = .fin false c q := by
  have e := enc_n h
  obtain ⟨h1, h2, h3, h4⟩ := h
  show FP.Core.decode FP.Core.b64 (ol (.fin false c q)).toNat = _
  rw [e]
  unfold FP.Core.decode FP.Core.fieldE FP.Core.fieldT FP.Core.fieldS
  rw [q_tl, q_ex, q_min, if_neg (by omega), if_neg (by omega)]
  have es : (((q + 1075).toNat * 4503599627370496 + (c - 4503599627370496)) / 4503599627370496 / 2048 % 2 == 1) = false := by
    have : ((q + 1075).toNat * 4503599627370496 + (c - 4503599627370496)) / 4503599627370496 / 2048 % 2 = 0 := by omega
    rw [this]; rfl
  have ec : 4503599627370496 + ((q + 1075).toNat * 4503599627370496 + (c - 4503599627370496)) % 4503599627370496 = c := by omega
  have eq : (-1074 : Int) + (((((q + 1075).toNat * 4503599627370496 + (c - 4503599627370496)) / 4503599627370496 % 2048 : Nat) : Int) - 1) = q := by omega
  rw [es, ec, eq]
theorem v_ol0 : vl (ol (.fin false 0 FP.Core.b64.qmin)) = .fin false 0 (-1074) := by decide +kernel
theorem n64 {r : UInt64} {s : Bool} {c : Nat} {q : Int} (h : vl r = .fin s c q) : vf_n64 r := by
  have h0 : ¬ FP.Core.fieldE FP.Core.b64 r.toNat = FP.Core.b64.exps - 1 := by
    intro z
    have h1 : FP.Core.decode FP.Core.b64 r.toNat = .fin s c q := h
    unfold FP.Core.decode at h1
    rw [if_pos z] at h1
    split at h1 <;> cases h1
  unfold FP.Core.fieldE at h0
  rw [q_tl, q_ex] at h0
  have h2 : r.toNat < 18446744073709551616 := r.toNat_lt
  unfold vf_n64
  rw [UInt64.le_iff_toNat_le, UInt64.toNat_and, show (0x7fffffffffffffff : UInt64).toNat = 2 ^ 63 - 1 from rfl, Nat.and_two_pow_sub_one_eq_mod, show (0x7ff0000000000000 : UInt64).toNat = 9218868437227405312 from rfl]
  omega
theorem v_two : vl 4611686018427387904 = .fin false 4503599627370496 (-51) := by decide +kernel
theorem v_big : vl 4841369599423283200 = .fin false 4503599627370496 0 := by decide +kernel
theorem v_one : vl FP.dconst1 = .fin false 4503599627370496 (-52) := by decide +kernel
theorem v_zero : vl FP.dconst0 = .fin false 0 (-1074) := by decide +kernel
theorem lg_eq {n k : Nat} (h1 : 2 ^ k ≤ n) (h2 : n < 2 ^ (k + 1)) : n.log2 = k := by
  have h0 : n ≠ 0 := by have := Nat.two_pow_pos k; omega
  have a1 : 2 ^ n.log2 ≤ n := Nat.log2_self_le h0
  have a2 : n < 2 ^ (n.log2 + 1) := Nat.lt_log2_self
  have b1 : n.log2 < k + 1 := by
    by_cases h : n.log2 < k + 1
    · exact h
    · have := Nat.pow_le_pow_right (n := 2) (by omega) (show k + 1 ≤ n.log2 by omega)
      omega
  have b2 : k < n.log2 + 1 := by
    by_cases h : k < n.log2 + 1
    · exact h
    · have := Nat.pow_le_pow_right (n := 2) (by omega) (show n.log2 + 1 ≤ k by omega)
      omega
  omega
theorem lead1 {n k : Nat} (h1 : 2 ^ k ≤ n) (h2 : n < 2 ^ (k + 1)) : FP.Core.leading n 1 = k := by
  unfold FP.Core.leading
  rw [lg_eq h1 h2, show (1 : Nat).log2 = 0 by decide]
  show (if 1 * 2 ^ (((k : Nat) : Int) - ((0 : Nat) : Int)).toNat ≤ n * 2 ^ (-(((k : Nat) : Int) - ((0 : Nat) : Int))).toNat then ((k : Nat) : Int) - ((0 : Nat) : Int) else (((k : Nat) : Int) - ((0 : Nat) : Int)) - 1) = _
  rw [if_pos]
  · omega
  · rw [show (((k : Nat) : Int) - ((0 : Nat) : Int)).toNat = k by omega, show (-(((k : Nat) : Int) - ((0 : Nat) : Int))).toNat = 0 by omega]
    omega
theorem near0 {c d : Nat} (hd : 0 < d) : FP.Core.nearest (c * d) d = c := by
  unfold FP.Core.nearest
  rw [Nat.mul_mod_left, if_pos (by omega), Nat.mul_div_cancel _ hd]
theorem settle_n {c : Nat} {q : Int} (h : cn c q) : FP.Core.settle FP.Core.b64 false c q = .fin false c q := by
  obtain ⟨h1, h2, h3, h4⟩ := h
  unfold FP.Core.settle FP.Core.bound
  rw [q_p, q_max, if_pos h2, if_pos h4]
/-- a number of more digits than needed -/
theorem rr_up {c a : Nat} {e : Int} (h : cn c (e + a)) : FP.Core.roundRatio FP.Core.b64 false (c * 2 ^ a) 1 e = .fin false c (e + a) := by
  obtain ⟨h1, h2, h3, h4⟩ := h
  have p0 := Nat.two_pow_pos a
  have hl : FP.Core.leading (c * 2 ^ a) 1 = ((52 + a : Nat) : Int) := by
    apply lead1
    · rw [Nat.pow_add]; exact Nat.mul_le_mul_right _ (by omega)
    · rw [show 52 + a + 1 = 53 + a by omega, Nat.pow_add]; exact Nat.mul_lt_mul_of_pos_right (by omega) p0
  unfold FP.Core.roundRatio FP.Core.roundAt FP.Core.quantum
  rw [if_neg (by have := Nat.mul_pos (show 0 < c by omega) p0; omega), hl, q_min]
  have hq : max (-1074 : Int) (((52 + a : Nat) : Int) + e - ((FP.Core.b64.p : Int) - 1)) = e + a := by
    rw [show (FP.Core.b64.p : Int) = 53 from rfl]; omega
  rw [hq]
  unfold FP.Core.unitsNum FP.Core.unitsDen
  rw [show (e - (e + (a : Int))).toNat = 0 by omega, show (e + (a : Int) - e).toNat = a by omega, Nat.pow_zero, Nat.mul_one, Nat.one_mul, near0 p0]
  exact settle_n ⟨h1, h2, h3, h4⟩
/-- a number of fewer digits -/
theorem rr_dn {t a : Nat} {e : Int} (ha : a ≤ 52) (h : cn (t * 2 ^ a) (e - a)) : FP.Core.roundRatio FP.Core.b64 false t 1 e = .fin false (t * 2 ^ a) (e - a) := by
  obtain ⟨h1, h2, h3, h4⟩ := h
  have p0 := Nat.two_pow_pos a
  have e52 : (4503599627370496 : Nat) = 2 ^ (52 - a) * 2 ^ a := by rw [← Nat.pow_add, show 52 - a + a = 52 by omega]
  have e53 : (9007199254740992 : Nat) = 2 ^ (52 - a + 1) * 2 ^ a := by rw [← Nat.pow_add, show 52 - a + 1 + a = 53 by omega]
  have hl : FP.Core.leading t 1 = ((52 - a : Nat) : Int) := by
    apply lead1
    · exact Nat.le_of_mul_le_mul_right (by rw [← e52]; exact h1) p0
    · exact Nat.lt_of_mul_lt_mul_right (a := 2 ^ a) (by rw [← e53]; exact h2)
  unfold FP.Core.roundRatio FP.Core.roundAt FP.Core.quantum
  rw [if_neg (by intro z; subst z; omega), hl, q_min]
  have hq : max (-1074 : Int) (((52 - a : Nat) : Int) + e - ((FP.Core.b64.p : Int) - 1)) = e - a := by
    rw [show (FP.Core.b64.p : Int) = 53 from rfl]; omega
  rw [hq]
  unfold FP.Core.unitsNum FP.Core.unitsDen
  rw [show (e - (e - (a : Int))).toNat = a by omega, show (e - (a : Int) - e).toNat = 0 by omega, Nat.pow_zero, Nat.mul_one]
  rw [show FP.Core.nearest (t * 2 ^ a) 1 = t * 2 ^ a by have := near0 (c := t * 2 ^ a) (d := 1) (by omega); rwa [Nat.mul_one] at this]
  exact settle_n ⟨h1, h2, h3, h4⟩
theorem rr_zero {B : Nat} {e : Int} : FP.Core.roundRatio FP.Core.b64 false 0 B e = .fin false 0 FP.Core.b64.qmin := by
  unfold FP.Core.roundRatio; rw [if_pos rfl]
/-- a number below 2 to the 53rd, as a double -/
theorem v_nat {t : Nat} (h0 : 0 < t) (ht : t < 9007199254740992) : ∃ a : Nat, a ≤ 52 ∧ 4503599627370496 ≤ t * 2 ^ a ∧ t * 2 ^ a < 9007199254740992 := by
  have h1 : 2 ^ t.log2 ≤ t := Nat.log2_self_le (by omega)
  have h2 : t < 2 ^ (t.log2 + 1) := Nat.lt_log2_self
  have h3 : t.log2 < 53 := by
    by_cases h : t.log2 < 53
    · exact h
    · have h4 : 2 ^ 53 ≤ 2 ^ t.log2 := Nat.pow_le_pow_right (by omega) (by omega)
      omega
  refine ⟨52 - t.log2, by omega, ?_, ?_⟩
  · calc 4503599627370496 = 2 ^ (t.log2 + (52 - t.log2)) := by rw [show t.log2 + (52 - t.log2) = 52 by omega]
      _ = 2 ^ t.log2 * 2 ^ (52 - t.log2) := Nat.pow_add _ _ _
      _ ≤ t * 2 ^ (52 - t.log2) := Nat.mul_le_mul_right _ h1
  · calc t * 2 ^ (52 - t.log2) < 2 ^ (t.log2 + 1) * 2 ^ (52 - t.log2) := Nat.mul_lt_mul_of_pos_right h2 (Nat.two_pow_pos _)
      _ = 2 ^ (t.log2 + 1 + (52 - t.log2)) := (Nat.pow_add _ _ _).symm
      _ = 9007199254740992 := by rw [show t.log2 + 1 + (52 - t.log2) = 53 by omega]
theorem v_dbl {a : UInt64} {c : Nat} {q : Int} (h : vl a = .fin false c q) (hc : cn c (q + 1)) : vl (FP.dmul a 4611686018427387904) = .fin false c (q + 1) := by
  show vl (ol (FP.Core.round FP.Core.b64 (FP.Core.exactProduct (vl a) (vl 4611686018427387904)))) = _
  rw [h, v_two]
  show vl (ol (FP.Core.roundRatio FP.Core.b64 false (c * 2 ^ 52) 1 (q + -51))) = _
  have hq : q + -51 + ((52 : Nat) : Int) = q + 1 := by omega
  rw [rr_up (by rw [hq]; exact hc), hq]
  exact v_ol hc
theorem cmp_lt {a b : Int} (h : a < b) : compare a b = .lt := by
  show compareOfLessAndEq a b = .lt
  unfold compareOfLessAndEq; rw [if_pos h]
theorem cmp_ge {a b : Int} (h : b ≤ a) : compare a b ≠ .lt := by
  show compareOfLessAndEq a b ≠ .lt
  unfold compareOfLessAndEq; rw [if_neg (by omega)]
  split <;> simp
theorem cmp_gt {a b : Int} (h : b < a) : compare a b = .gt := by
  show compareOfLessAndEq a b = .gt
  unfold compareOfLessAndEq; rw [if_neg (by omega), if_neg (by omega)]
theorem v_ord {a b : UInt64} {c d : Nat} {q r : Int} (ha : vl a = .fin false c q) (hb : vl b = .fin false d r) : FP.dcmp a b = some (compare ((c * 2 ^ (q - min q r).toNat : Nat) : Int) ((d * 2 ^ (r - min q r).toNat : Nat) : Int)) := by
  show FP.Core.order (vl a) (vl b) = _
  rw [ha, hb]
  rfl
theorem v_lt1 {a : UInt64} {c : Nat} {q : Int} (h : vl a = .fin false c q) (h2 : c < 9007199254740992) (h3 : q < -52) : FP.dcmp a FP.dconst1 = some .lt := by
  rw [v_ord h v_one]
  congr 1
  apply cmp_lt
  have e1 : (q - min q (-52)).toNat = 0 := by omega
  obtain ⟨k, hk⟩ : ∃ k : Nat, (-52 - min q (-52)).toNat = k + 1 := ⟨(-52 - min q (-52)).toNat - 1, by omega⟩
  rw [e1, hk, Nat.pow_succ]
  have : 0 < 2 ^ k := Nat.two_pow_pos k
  omega
theorem v_ge1 {a : UInt64} {c : Nat} (h : vl a = .fin false c (-52)) (h1 : 4503599627370496 ≤ c) : ∃ o, FP.dcmp a FP.dconst1 = some o ∧ o ≠ .lt := by
  refine ⟨_, v_ord h v_one, cmp_ge ?_⟩
  rw [show (-52 - min (-52) (-52) : Int).toNat = 0 by decide]
  omega
theorem v_gt0 {a : UInt64} {c : Nat} {q : Int} (h : vl a = .fin false c q) (h1 : 0 < c) : FP.dcmp a FP.dconst0 = some .gt := by
  rw [v_ord h v_zero]
  congr 1
  apply cmp_gt
  have : 0 < c * 2 ^ (q - min q (-1074)).toNat := Nat.mul_pos h1 (Nat.two_pow_pos _)
  omega
theorem v_eq0 {a : UInt64} (h : vl a = .fin false 0 (-1074)) : FP.dcmp a FP.dconst0 = some .eq := by
  rw [v_ord h v_zero]; rfl
/-- what stays above one, times 2 to the 52nd: the digits behind the leading one -/
theorem v_tail {a : UInt64} {c : Nat} (h : vl a = .fin false c (-52)) (h1 : 4503599627370496 ≤ c) (h2 : c < 9007199254740992) : vf_n64 (FP.dsub a FP.dconst1) ∧ vf_n64 (FP.dmul (FP.dsub a FP.dconst1) 4841369599423283200) ∧ FP.d2l (FP.dmul (FP.dsub a FP.dconst1) 4841369599423283200) = Int64.ofNat (c - 4503599627370496) := by
  obtain ⟨t, rfl⟩ : ∃ t, c = 4503599627370496 + t := ⟨c - 4503599627370496, by omega⟩
  have es : FP.dsub a FP.dconst1 = ol (FP.Core.roundRatio FP.Core.b64 false t 1 (-52)) := by
    show ol (FP.Core.round FP.Core.b64 (FP.Core.exactSum (vl a) (FP.Core.negate (vl FP.dconst1)))) = _
    rw [h, v_one]
    have ev : FP.Core.sumUnits false (4503599627370496 + t) (-52) true 4503599627370496 (-52) (-52) = (t : Int) := by
      show (((4503599627370496 + t) * 2 ^ 0 : Nat) : Int) + -((4503599627370496 * 2 ^ 0 : Nat) : Int) = _
      omega
    show ol (FP.Core.roundRatio FP.Core.b64 (FP.Core.sumSign false true (FP.Core.sumUnits false (4503599627370496 + t) (-52) true 4503599627370496 (-52) (-52))) (FP.Core.sumUnits false (4503599627370496 + t) (-52) true 4503599627370496 (-52) (-52)).natAbs 1 (-52)) = _
    rw [ev]
    have e1 : FP.Core.sumSign false true (t : Int) = false := by
      unfold FP.Core.sumSign
      split
      · rfl
      · exact decide_eq_false (by omega)
    rw [e1]
    rfl
  by_cases h0 : t = 0
  · subst h0
    rw [es, rr_zero]
    have e2 : FP.dmul (ol (.fin false 0 FP.Core.b64.qmin)) 4841369599423283200 = 0 := by decide +kernel
    rw [e2]
    exact ⟨n64 v_ol0, n64 (r := 0) (s := false) (c := 0) (q := -1074) (by decide +kernel), by decide +kernel⟩
  · obtain ⟨k, k1, k2, k3⟩ := v_nat (t := t) (by omega) (by omega)
    have c1 : cn (t * 2 ^ k) (-52 - k) := ⟨k2, k3, by omega, by omega⟩
    have c2 : cn (t * 2 ^ k) (-52 - k + ((52 : Nat) : Int)) := ⟨k2, k3, by omega, by omega⟩
    rw [es, rr_dn k1 c1]
    have em : FP.dmul (ol (.fin false (t * 2 ^ k) (-52 - k))) 4841369599423283200 = ol (.fin false (t * 2 ^ k) (-52 - k + ((52 : Nat) : Int))) := by
      show ol (FP.Core.round FP.Core.b64 (FP.Core.exactProduct (vl (ol (.fin false (t * 2 ^ k) (-52 - k)))) (vl 4841369599423283200))) = _
      rw [v_ol c1, v_big]
      show ol (FP.Core.roundRatio FP.Core.b64 false (t * 2 ^ k * 2 ^ 52) 1 (-52 - k + 0)) = _
      rw [Int.add_zero, rr_up c2]
    refine ⟨n64 (v_ol c1), by rw [em]; exact n64 (v_ol c2), ?_⟩
    rw [em]
    show FP.Core.toL (vl (ol (.fin false (t * 2 ^ k) (-52 - k + ((52 : Nat) : Int))))) = _
    rw [v_ol c2]
    have et : FP.Core.truncate false (t * 2 ^ k) (-52 - (k : Int) + ((52 : Nat) : Int)) = (t : Int) := by
      unfold FP.Core.truncate
      rw [show (-52 - (k : Int) + ((52 : Nat) : Int)).toNat = 0 by omega, show (-(-52 - (k : Int) + ((52 : Nat) : Int))).toNat = k by omega, Nat.pow_zero, Nat.mul_one, Nat.mul_div_cancel _ (Nat.two_pow_pos k)]
      rfl
    show Int64.ofInt (max (-9223372036854775808) (min 9223372036854775807 (FP.Core.truncate false (t * 2 ^ k) (-52 - (k : Int) + ((52 : Nat) : Int))))) = _
    rw [et, show max (-9223372036854775808 : Int) (min 9223372036854775807 (t : Int)) = ((t : Nat) : Int) by omega, Nat.add_sub_cancel_left]
    rfl
theorem near_ge {N D M : Nat} (hD : 0 < D) (h : M * D ≤ N) : M ≤ FP.Core.nearest N D := by
  have : M ≤ N / D := (Nat.le_div_iff_mul_le hD).mpr h
  unfold FP.Core.nearest
  split
  · exact this
  · split <;> omega
theorem near_le {N D M : Nat} (hD : 0 < D) (h : N ≤ M * D) : FP.Core.nearest N D ≤ M := by
  by_cases e : N = M * D
  · rw [e, near0 hD]; exact Nat.le_refl _
  · have : N / D < M := (Nat.div_lt_iff_lt_mul hD).mpr (by omega)
    unfold FP.Core.nearest
    split
    · omega
    · split <;> omega
/-- a share not above one: what its double is -/
def shv (a : UInt64) : Prop := vl a = .fin false 0 (-1074) ∨ ∃ c q, vl a = .fin false c q ∧ cn c q ∧ -200 ≤ q ∧ (q < -52 ∨ (q = -52 ∧ c = 4503599627370496))
theorem quo {A B : Nat} {e : Int} (hA : 4503599627370496 ≤ A ∧ A < 9007199254740992) (hB : 4503599627370496 ≤ B ∧ B < 9007199254740992) (he : e ≤ 0 ∧ -60 ≤ e) (h0 : e = 0 → A ≤ B) : ∃ c q, FP.Core.roundRatio FP.Core.b64 false A B e = .fin false c q ∧ cn c q ∧ -200 ≤ q ∧ (q < -52 ∨ (q = -52 ∧ c = 4503599627370496)) := by
  have lA : A.log2 = 52 := lg_eq (by omega) (by omega)
  have lB : B.log2 = 52 := lg_eq (by omega) (by omega)
  have hl : FP.Core.leading A B = if B ≤ A then 0 else -1 := by
    unfold FP.Core.leading
    rw [lA, lB]
    show (if B * 2 ^ 0 ≤ A * 2 ^ 0 then (0 : Int) else 0 - 1) = _
    by_cases h : B ≤ A
    · rw [if_pos (show B * 2 ^ 0 ≤ A * 2 ^ 0 by omega), if_pos h]
    · rw [if_neg (show ¬ B * 2 ^ 0 ≤ A * 2 ^ 0 by omega), if_neg h]; rfl
  unfold FP.Core.roundRatio FP.Core.roundAt FP.Core.quantum
  rw [if_neg (by omega), hl, q_min, show (FP.Core.b64.p : Int) = 53 from rfl]
  by_cases hBA : B ≤ A
  · rw [if_pos hBA, show max (-1074 : Int) (0 + e - (53 - 1)) = e - 52 by omega]
    unfold FP.Core.unitsNum FP.Core.unitsDen
    rw [show (e - (e - 52)).toNat = 52 by omega, show (e - 52 - e).toNat = 0 by omega, Nat.pow_zero, Nat.mul_one]
    have g1 : 4503599627370496 ≤ FP.Core.nearest (A * 2 ^ 52) B := near_ge (by omega) (by omega)
    have g2 : FP.Core.nearest (A * 2 ^ 52) B ≤ 9007199254740992 := near_le (by omega) (by omega)
    have g3 : e = 0 → FP.Core.nearest (A * 2 ^ 52) B ≤ 4503599627370496 := fun z => near_le (by omega) (by have := h0 z; omega)
    generalize FP.Core.nearest (A * 2 ^ 52) B = c at g1 g2 g3
    have g4 : (e = 0 ∧ c ≤ 4503599627370496) ∨ e ≠ 0 := by
      by_cases z : e = 0
      · exact Or.inl ⟨z, g3 z⟩
      · exact Or.inr z
    unfold FP.Core.settle FP.Core.bound
    rw [q_p, q_max, q_tl]
    by_cases hc : c < 9007199254740992
    · rw [if_pos hc, if_pos (by omega)]
      exact ⟨c, e - 52, rfl, ⟨g1, hc, by omega, by omega⟩, by omega, by omega⟩
    · rw [if_neg hc, if_pos (by omega)]
      exact ⟨_, e - 52 + 1, rfl, ⟨by omega, by omega, by omega, by omega⟩, by omega, by omega⟩
  · rw [if_neg hBA, show max (-1074 : Int) (-1 + e - (53 - 1)) = e - 53 by omega]
    unfold FP.Core.unitsNum FP.Core.unitsDen
    rw [show (e - (e - 53)).toNat = 53 by omega, show (e - 53 - e).toNat = 0 by omega, Nat.pow_zero, Nat.mul_one]
    have g1 : 4503599627370496 ≤ FP.Core.nearest (A * 2 ^ 53) B := near_ge (by omega) (by omega)
    have g2 : FP.Core.nearest (A * 2 ^ 53) B ≤ 9007199254740992 := near_le (by omega) (by omega)
    generalize FP.Core.nearest (A * 2 ^ 53) B = c at g1 g2
    unfold FP.Core.settle FP.Core.bound
    rw [q_p, q_max, q_tl]
    by_cases hc : c < 9007199254740992
    · rw [if_pos hc, if_pos (by omega)]
      exact ⟨c, e - 53, rfl, ⟨g1, hc, by omega, by omega⟩, by omega, by omega⟩
    · rw [if_neg hc, if_pos (by omega)]
      exact ⟨_, e - 53 + 1, rfl, ⟨by omega, by omega, by omega, by omega⟩, by omega, by omega⟩
theorem i2d_n {n : Nat} (h0 : 0 < n) (hn : n < 2147483648) : ∃ a : Nat, a ≤ 52 ∧ 4503599627370496 ≤ n * 2 ^ a ∧ n * 2 ^ a < 9007199254740992 ∧ vl (FP.i2d (nI n)) = .fin false (n * 2 ^ a) (0 - (a : Int)) := by
  obtain ⟨a, a1, a2, a3⟩ := v_nat h0 (show n < 9007199254740992 by omega)
  have hc : cn (n * 2 ^ a) (0 - (a : Int)) := ⟨a2, a3, by omega, by omega⟩
  refine ⟨a, a1, a2, a3, ?_⟩
  show vl (ol (FP.Core.round FP.Core.b64 (FP.Core.ofInt (nI n).toInt))) = _
  rw [nI_toInt hn]
  show vl (ol (FP.Core.roundRatio FP.Core.b64 (decide ((n : Int) < 0)) n 1 0)) = _
  rw [show decide ((n : Int) < 0) = false from decide_eq_false (by omega), rr_dn a1 hc]
  exact v_ol hc
theorem i2d_0 : vl (FP.i2d (nI 0)) = .fin false 0 (-1074) := by decide +kernel
theorem share_v {n m : Nat} (hm : 0 < m) (hnm : n ≤ m) (hb : m < 2147483648) : shv (FP.ddiv (FP.i2d (nI n)) (FP.i2d (nI m))) := by
  obtain ⟨b, b1, b2, b3, b4⟩ := i2d_n hm hb
  by_cases hn : n = 0
  · subst hn
    left
    show vl (ol (FP.Core.quotient FP.Core.b64 (vl (FP.i2d (nI 0))) (vl (FP.i2d (nI m))))) = _
    rw [i2d_0, b4]
    show vl (ol (if m * 2 ^ b = 0 then _ else FP.Core.roundRatio FP.Core.b64 false 0 (m * 2 ^ b) _)) = _
    rw [if_neg (by omega), rr_zero]
    exact v_ol0
  · obtain ⟨a, a1, a2, a3, a4⟩ := i2d_n (show 0 < n by omega) (by omega)
    right
    have hab : b ≤ a := by
      by_cases h : b ≤ a
      · exact h
      · have h1 : n * 2 ^ (a + 1) ≤ m * 2 ^ b := Nat.mul_le_mul hnm (Nat.pow_le_pow_right (by omega) (by omega))
        rw [Nat.pow_succ, ← Nat.mul_assoc] at h1
        omega
    obtain ⟨c, q, e1, e2, e3, e4⟩ := quo (A := n * 2 ^ a) (B := m * 2 ^ b) (e := 0 - (a : Int) - (0 - (b : Int))) ⟨a2, a3⟩ ⟨b2, b3⟩ (by omega) (fun z => by
      have : a = b := by omega
      subst this
      exact Nat.mul_le_mul_right _ hnm)
    refine ⟨c, q, ?_, e2, e3, e4⟩
    show vl (ol (FP.Core.quotient FP.Core.b64 (vl (FP.i2d (nI n))) (vl (FP.i2d (nI m))))) = _
    rw [a4, b4]
    show vl (ol (if m * 2 ^ b = 0 then _ else FP.Core.roundRatio FP.Core.b64 false (n * 2 ^ a) (m * 2 ^ b) (0 - (a : Int) - (0 - (b : Int))))) = _
    rw [if_neg (by omega), e1]
    exact v_ol e2
theorem share_1 : shv FP.dconst1 := Or.inr ⟨_, _, v_one, ⟨by omega, by omega, by omega, by omega⟩, by omega, Or.inr ⟨rfl, rfl⟩⟩
theorem shv.num {a : UInt64} (h : shv a) : vf_n64 a := by
  rcases h with h | ⟨c, q, h, -⟩
  · exact n64 h
  · exact n64 h
