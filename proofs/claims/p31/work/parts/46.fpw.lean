/-! DOUBLES in the walks: the share, its bits as the class and as the JDK makes them -/
theorem inv_n {a : UInt64} {c : Nat} {q : Int} (h : vl a = .fin false c q) (hc : cn c q) : a.toNat = (q + 1075).toNat * 4503599627370496 + (c - 4503599627370496) := by
  obtain ⟨k1, k2, k3, k4⟩ := hc
  have h1 : FP.Core.decode FP.Core.b64 a.toNat = .fin false c q := h
  have h2 : a.toNat < 18446744073709551616 := a.toNat_lt
  unfold FP.Core.decode FP.Core.fieldE FP.Core.fieldT FP.Core.fieldS at h1
  rw [q_tl, q_ex, q_min] at h1
  split at h1
  · split at h1 <;> cases h1
  · split at h1
    · injection h1 with s1 c1 q1
      omega
    · injection h1 with s1 c1 q1
      have s2 : ¬ (a.toNat / 4503599627370496 / 2048 % 2 = 1) := fun z => by rw [z] at s1; exact absurd s1 (by decide)
      omega
theorem inv_0 {a : UInt64} (h : vl a = .fin false 0 (-1074)) : a = 0 := by
  have h1 : FP.Core.decode FP.Core.b64 a.toNat = .fin false 0 (-1074) := h
  have h2 : a.toNat < 18446744073709551616 := a.toNat_lt
  unfold FP.Core.decode FP.Core.fieldE FP.Core.fieldT FP.Core.fieldS at h1
  rw [q_tl, q_ex, q_min] at h1
  have h3 : a.toNat = 0 := by
    split at h1
    · split at h1 <;> cases h1
    · split at h1
      · injection h1 with s1 c1 q1
        have s2 : ¬ (a.toNat / 4503599627370496 / 2048 % 2 = 1) := fun z => by rw [z] at s1; exact absurd s1 (by decide)
        omega
      · injection h1 with s1 c1 q1
        omega
  exact UInt64.toNat_inj.mp h3
theorem toL_n {a : UInt64} {n : Nat} (h : a.toNat = n) : a.toInt64 = Int64.ofNat n := by
  subst h
  show (UInt64.toInt64 a) = (UInt64.toInt64 (UInt64.ofNat a.toNat))
  rw [UInt64.ofNat_toNat]
theorem shl52 : ∀ e, e < 1024 → (Int64.ofNat e) <<< ((52 : Int32).toInt64 &&& 63) = Int64.ofNat (e * 4503599627370496) := by decide +kernel
theorem dec1 (n : Nat) : Int64.ofNat (n + 1) - 1 = Int64.ofNat n := by
  rw [Int64.ofNat_add]; exact Int64.add_sub_cancel _ _
theorem cmp_same (a : Int) : compare a a = .eq := by
  show compareOfLessAndEq a a = .eq
  unfold compareOfLessAndEq; rw [if_neg (by omega), if_pos rfl]
theorem shv.same {a : UInt64} (h : shv a) : FP.dcmp a a = some .eq := by
  rcases h with h | ⟨c, q, h, -⟩
  · rw [v_ord h h, cmp_same]
  · rw [v_ord h h, cmp_same]
theorem v_ge1v {a : UInt64} {c : Nat} (h : vl a = .fin false c (-52)) (h1 : 4503599627370496 ≤ c) : ∃ v : Int32, Op.cmpValue (FP.dcmp a FP.dconst1) .g = v ∧ 0 ≤ v := by
  obtain ⟨o, e1, e2⟩ := v_ge1 h h1
  rw [e1]
  cases o with
  | lt => exact absurd rfl e2
  | eq => exact ⟨0, rfl, by decide⟩
  | gt => exact ⟨1, rfl, by decide⟩
section FPW
variable {l : Launch} {w : mj_W}
theorem G_d2rl {cc : ByteArray} {M : mj_M} {b : Bool} {X : mj_R} {pc idx : Nat} {L : mj_L} {rest : List Value} {k n : Nat} {x : UInt64} (hd : decode cc pc = .ok (.invokestatic idx, 3)) (hw : Cond.methodLink M.1 idx ⟨"java/lang/Double", "doubleToRawLongBits", "(D)J"⟩ ∈ M.2.2.1 ∧ Cond.native ⟨"java/lang/Double", "doubleToRawLongBits", "(D)J"⟩ ∈ M.2.2.1 ∧ Cond.static ⟨"java/lang/Double", "doubleToRawLongBits", "(D)J"⟩ ∈ M.2.2.1 ∧ Cond.initialized "java/lang/Double" ∈ M.2.2.1) (hR : 1 ≤ M.2.2.2.1.frames) (hcat : (rest.map fun v => v.category).sum + 15 ≤ M.2.2.2.1.locals) (kk : GG l cc M b X (pc + 3) L (.long x.toInt64 :: rest) w k n) : GG l cc M b X pc L (.double x :: rest) w k n := by
  intro p e s m args below meth c Q D A ad0 N F E ad cy H locs ls r P S hl
  exact vn_d2l F.1 F.2.1 (F.2.2.1.trans hl.2.1.symm) F.2.2.2.1 (F.2.2.2.2.1 _ hw.1) (F.2.2.2.2.1 _ hw.2.1) (F.2.2.2.2.1 _ hw.2.2.1) (F.2.2.2.2.1 _ hw.2.2.2) hR (by rw [mj_cats]; exact hcat) hd (kk p e s m args below meth c Q D A ad0 N F E ad cy H locs ls r P S hl)
end FPW
/-- what is dry of the whole -/
def s_share (f : mj_S) : UInt64 := if s_tvA f = 0 then FP.dconst1 else FP.ddiv (FP.i2d (s_sum f 113 20)) (FP.i2d (s_tvA f))
theorem tv_n {f : mj_S} (hv : vt f) : ∀ (d c x y : Nat), c + d ≤ 20 → y ≤ x → x ≤ 2000 * c → ∃ x' y', y' ≤ x' ∧ x' ≤ 2000 * (c + d) ∧ itr (fun p a => a + s_tv f p) d c (nI x) = nI x' ∧ itr (fun i a => a + f (113 + i)) d c (nI y) = nI y'
  | 0, c, x, y, hc, hy, hx => ⟨x, y, hy, hx, rfl, rfl⟩
  | d + 1, c, x, y, hc, hy, hx => by
    obtain ⟨a, b, z, u, e1, e2, e3, e4, e5⟩ := hv c (by omega)
    obtain ⟨x', y', k1, k2, k3, k4⟩ := tv_n hv d (c + 1) (x + (a + b + z)) (y + z) (by omega) (by omega) (by omega)
    refine ⟨x', y', k1, by omega, ?_, ?_⟩
    · rw [itr_s, ← k3, s_tv, e1, e2, e3, nI_add, nI_add, nI_add]
    · rw [itr_s, ← k4, e3, nI_add]
theorem share_ok {f : mj_S} (hv : vt f) : shv (s_share f) := by
  obtain ⟨x, y, h1, h2, h3, h4⟩ := tv_n hv 20 0 0 0 (by omega) (by omega) (by omega)
  have e1 : s_tvA f = nI x := h3
  have e2 : s_sum f 113 20 = nI y := h4
  unfold s_share
  rw [e1, e2]
  split
  · exact share_1
  · rename_i h
    exact share_v (by by_cases z : x = 0; · subst z; exact absurd rfl h
                      · omega) h1 (by omega)
theorem share_n {f : mj_S} (hv : vt f) (h : ¬ s_tvA f = 0) : vf_n64 (FP.ddiv (FP.i2d (s_sum f 113 20)) (FP.i2d (s_tvA f))) := by
  have := (share_ok hv).num
  rw [s_share, if_neg h] at this
  exact this
section RJ
end RJ
