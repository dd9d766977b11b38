/-! DOUBLES in the walks: the share, its bits as the class and as the JDK makes them -/
theorem inv_n {a : UInt64} {c : Nat} {q : Int} (h : vl a = .fin false c q) (hc : cn c q) : a.toNat = (q + 1075).toNat * 4503599627370496 + (c - 4503599627370496) := by
  obtain ⟨k1, k2, k3, k4⟩ := hc
  have h1 : FP.Core.decode FP.Core.b64 a.toNat = .fin false c q := h
  have h2 : a.toNat < 18446744073709551616 := a.toNat_lt
  unfold FP.Core.decode FP.Core.fieldE FP.Core.fieldT FP.Core.fieldS at h1
  rw [q_tl, q_ex, q_min] at h1
  split at h1
  · split at h1 <;> cases h1
  · split at h1
    · injection h1 with s1 c1 q1
      omega
    · injection h1 with s1 c1 q1
      have s2 : ¬ (a.toNat / 4503599627370496 / 2048 % 2 = 1) := fun z => by rw [z] at s1; exact absurd s1 (by decide)
      omega
theorem inv_0 {a : UInt64} (h : vl a = .fin false 0 (-1074)) : a = 0 := by
  have h1 : FP.Core.decode FP.Core.b64 a.toNat = .fin false 0 (-1074) := h
  have h2 : a.toNat < 18446744073709551616 := a.toNat_lt
  unfold FP.Core.decode FP.Core.fieldE FP.Core.fieldT FP.Core.fieldS at h1
  rw [q_tl, q_ex, q_min] at h1
  have h3 : a.toNat = 0 := by
    split at h1
    · split at h1 <;> cases h1
    · split at h1
      · injection h1 with s1 c1 q1
        have s2 : ¬ (a.toNat / 4503599627370496 / 2048 % 2 = 1) := fun z => by rw [z] at s1; exact absurd s1 (by decide)
        omega
      · injection h1 with s1 c1 q1
        omega
  exact UInt64.toNat_inj.mp h3
theorem toL_n {a : UInt64} {n : Nat} (h : a.toNat = n) : a.toInt64 = Int64.ofNat n := by
  subst h
  show (UInt64.toInt64 a) = (UInt64.toInt64 (UInt64.ofNat a.toNat))
  rw [UInt64.ofNat_toNat]
theorem shl52 : ∀ e, e < 1024 → (Int64.ofNat e) <<< ((52 : Int32).toInt64 &&& 63) = Int64.ofNat (e * 4503599627370496) := by decide +kernel
theorem dec1 (n : Nat) : Int64.ofNat (n + 1) - 1 = Int64.ofNat n := by
  rw [Int64.ofNat_add]; exact Int64.add_sub_cancel _ _
theorem cmp_same (a : Int) : compare a a = .eq := by
  show compareOfLessAndEq a a = .eq
  unfold compareOfLessAndEq; rw [if_neg (by omega), if_pos rfl]
theorem shv.same {a : UInt64} (h : shv a) : FP.dcmp a a = some .eq := by
  rcases h with h | ⟨c, q, h, -⟩
  · rw [v_ord h h, cmp_same]
  · rw [v_ord h h, cmp_same]
theorem v_ge1v {a : UInt64} {c : Nat} (h : vl a = .fin false c (-52)) (h1 : 4503599627370496 ≤ c) : ∃ v : Int32, Op.cmpValue (FP.dcmp a FP.dconst1) .g = v ∧ 0 ≤ v := by
  obtain ⟨o, e1, e2⟩ := v_ge1 h h1
  rw [e1]
  cases o with
  | lt => exact absurd rfl e2
  | eq => exact ⟨0, rfl, by decide⟩
  | gt => exact ⟨1, rfl, by decide⟩
section FPW
variable {l : Launch} {w : mj_W}
theorem G_d2rl {cc : ByteArray} {M : mj_M} {b : Bool} {X : mj_R} {pc idx : Nat} {L : mj_L} {rest : List Value} {k n : Nat} {x : UInt64} (hd : decode cc pc = .ok (.invokestatic idx, 3)) (hw : Cond.methodLink M.1 idx ⟨"java/lang/Double", "doubleToRawLongBits", "(D)J"⟩ ∈ M.2.2.1 ∧ Cond.native ⟨"java/lang/Double", "doubleToRawLongBits", "(D)J"⟩ ∈ M.2.2.1 ∧ Cond.static ⟨"java/lang/Double", "doubleToRawLongBits", "(D)J"⟩ ∈ M.2.2.1 ∧ Cond.initialized "java/lang/Double" ∈ M.2.2.1) (hR : 1 ≤ M.2.2.2.1.frames) (hcat : (rest.map fun v => v.category).sum + 15 ≤ M.2.2.2.1.locals) (kk : GG l cc M b X (pc + 3) L (.long x.toInt64 :: rest) w k n) : GG l cc M b X pc L (.double x :: rest) w k n := by
  intro p e s m args below meth c Q D A ad0 N F E ad cy H locs ls r P S hl
  exact vn_d2l F.1 F.2.1 (F.2.2.1.trans hl.2.1.symm) F.2.2.2.1 (F.2.2.2.2.1 _ hw.1) (F.2.2.2.2.1 _ hw.2.1) (F.2.2.2.2.1 _ hw.2.2.1) (F.2.2.2.2.1 _ hw.2.2.2) hR (by rw [mj_cats]; exact hcat) hd (kk p e s m args below meth c Q D A ad0 N F E ad cy H locs ls r P S hl)
theorem kJxe99ae_isNaN : mj_cwS MJxe99ae_doubleToLongBits_ccdee 122 yJxe99ae_isNaN_b9ae7 wsJxe99ae_isNaN_b9ae7 rmJxe99ae_isNaN_b9ae7 1 := ⟨_, _, _, _, gJxe99ae_doubleToLongBits_ccdee_Jxe99ae_isNaN_b9ae7, rfl, by decide +kernel, by decide⟩
theorem kX4_digest_Jxe99ae_doubleToLongBits_ccdee : mj_cwS MX4_digest 252 yJxe99ae_doubleToLongBits_ccdee wsJxe99ae_doubleToLongBits_ccdee rmJxe99ae_doubleToLongBits_ccdee 1 := ⟨_, _, _, _, gX4_digest_Jxe99ae_doubleToLongBits_ccdee, rfl, by decide +kernel, by decide⟩
theorem c_isNaN {x : UInt64} (hx : shv x) : MC l yJxe99ae_isNaN_b9ae7 wsJxe99ae_isNaN_b9ae7 rmJxe99ae_isNaN_b9ae7 false [.double x] (w) (some (.int 0)) (w) := by
  refine mj_MC (cc := cJxe99ae_isNaN_b9ae7) (nl := 2) (ret := (some .boolean)) (by decide +kernel) rfl (⟨_, rfl, rfl⟩) (Nat.le_of_ble_eq_true rfl) ?_
  show GG l cJxe99ae_isNaN_b9ae7 MJxe99ae_isNaN_b9ae7 false (.inl ((some (.int 0)), w)) 0 [some (.double x), none] [] (w) 0 0
  refine G_dload_n dJxe99ae_isNaN_b9ae7_0 rfl ?_
  refine G_dload_n dJxe99ae_isNaN_b9ae7_1 rfl ?_
  refine G_dcmp dJxe99ae_isNaN_b9ae7_2 ?_
  refine G_eqi (y := nI 0) (by rw [hx.same]; rfl) ?_
  refine G_if_eqN (a := 0) 10 dJxe99ae_isNaN_b9ae7_3 (by decide) (by omega) (fun c3 => ?_) (fun c3 => ?_)
  · refine G_iconst (v := 0) dJxe99ae_isNaN_b9ae7_10 (by decide) ?_
    exact G_iret dJxe99ae_isNaN_b9ae7_11 ⟨Nat.zero_le _, Nat.zero_le _⟩ (rfl)
  · exact (show False by omega).elim
theorem c_d2lb {x : UInt64} (hx : shv x) : MC l yJxe99ae_doubleToLongBits_ccdee wsJxe99ae_doubleToLongBits_ccdee rmJxe99ae_doubleToLongBits_ccdee false [.double x] (w) (some (.long x.toInt64)) (w) := by
  refine mj_MC (cc := cJxe99ae_doubleToLongBits_ccdee) (nl := 2) (ret := (some .long)) (by decide +kernel) rfl (rfl) (Nat.le_of_ble_eq_true rfl) ?_
  show GG l cJxe99ae_doubleToLongBits_ccdee MJxe99ae_doubleToLongBits_ccdee false (.inl ((some (.long x.toInt64)), w)) 0 [some (.double x), none] [] (w) 0 0
  refine G_dload_n dJxe99ae_doubleToLongBits_ccdee_0 rfl ?_
  refine G_callSi dJxe99ae_doubleToLongBits_ccdee_1 kJxe99ae_isNaN ⟨rfl, rfl⟩ ⟨Nat.zero_le _, Nat.zero_le _⟩ (c_isNaN hx) rfl rfl rfl ?_
  refine G_if_neN (a := 0) 12 dJxe99ae_doubleToLongBits_ccdee_4 (by decide) (by omega) (fun c4 => ?_) (fun c4 => ?_)
  · exact (show False by omega).elim
  · refine G_dload_n dJxe99ae_doubleToLongBits_ccdee_7 rfl ?_
    refine G_d2rl dJxe99ae_doubleToLongBits_ccdee_8 (by decide +kernel) (by decide) (by decide) ?_
    exact G_lret dJxe99ae_doubleToLongBits_ccdee_11 ⟨Nat.zero_le _, Nat.zero_le _⟩ rfl
theorem lp_bits {x : UInt64} {c m : Nat} (h1 : 4503599627370496 ≤ c) (h2 : c < 9007199254740992) : ∀ (d j : Nat) (a : UInt64), vl a = .fin false c (-52 - (d : Int)) → d + j ≤ 1000 → GG l cX3_bitsOf MX3_bitsOf false (.inl (some (.long (Int64.ofNat m <<< ((52 : Int32).toInt64 &&& 63) + Int64.ofNat (c - 4503599627370496))), w)) 18 [some (.double x), none, some (.double a), none, some (.long (Int64.ofNat (m + d))), none, some (.int (nI (j)))] [] (w) 0 0
  | 0, j, a, h, hj => by
    obtain ⟨v, ev, hv⟩ := v_ge1v (show vl a = .fin false c (-52) by rw [h]; rfl) h1
    obtain ⟨t1, t2, t3⟩ := v_tail (show vl a = .fin false c (-52) by rw [h]; rfl) h1 h2
    refine G_iload dX3_bitsOf_18 rfl ?_
    refine G_sipush (v := 1022) dX3_bitsOf_20 (by decide) ?_
    refine G_icmp_geN (a := j) (c := 1022) 50 dX3_bitsOf_23 (by decide) (by omega) (fun c23 => ?_) (fun c23 => ?_)
    · exact (show False by omega).elim
    · refine G_dload_n dX3_bitsOf_26 rfl ?_
      refine G_dconst1 dX3_bitsOf_27 ?_
      refine G_dcmp dX3_bitsOf_28 ?_
      refine G_eqi ev ?_
      refine G_if_ge 50 dX3_bitsOf_29 (by decide) (fun c29 => ?_) (fun c29 => ?_)
      · refine G_lload dX3_bitsOf_50 rfl ?_
        refine G_bipush (v := 52) dX3_bitsOf_52 (by decide) ?_
        refine G_lshl dX3_bitsOf_54 ?_
        refine G_dload_n dX3_bitsOf_55 rfl ?_
        refine G_dconst1 dX3_bitsOf_56 ?_
        refine G_dsub dX3_bitsOf_57 (t1) ?_
        refine G_ldc2d (v := 4841369599423283200) dX3_bitsOf_58 (by decide +kernel) ?_
        refine G_dmul dX3_bitsOf_61 (t2) ?_
        refine G_d2l dX3_bitsOf_62 ?_
        refine G_ladd dX3_bitsOf_63 ?_
        exact G_lret dX3_bitsOf_64 ⟨Nat.zero_le _, Nat.zero_le _⟩ (by rw [t3]; rfl)
      · exact absurd hv c29
  | d + 1, j, a, h, hj => by
    have hb : vl (FP.dmul a 4611686018427387904) = .fin false c (-52 - (d : Int)) := by
      rw [v_dbl h ⟨h1, h2, by omega, by omega⟩]; congr 1; omega
    refine G_iload dX3_bitsOf_18 rfl ?_
    refine G_sipush (v := 1022) dX3_bitsOf_20 (by decide) ?_
    refine G_icmp_geN (a := j) (c := 1022) 50 dX3_bitsOf_23 (by decide) (by omega) (fun c23 => ?_) (fun c23 => ?_)
    · exact (show False by omega).elim
    · refine G_dload_n dX3_bitsOf_26 rfl ?_
      refine G_dconst1 dX3_bitsOf_27 ?_
      refine G_dcmp dX3_bitsOf_28 ?_
      refine G_eqi (y := -1) (by rw [v_lt1 h h2 (by omega)]; rfl) ?_
      refine G_if_ge 50 dX3_bitsOf_29 (by decide) (fun c29 => ?_) (fun c29 => ?_)
      · exact absurd c29 (by decide)
      · refine G_dload_n dX3_bitsOf_32 rfl ?_
        refine G_ldc2d (v := 4611686018427387904) dX3_bitsOf_33 (by decide +kernel) ?_
        refine G_dmul dX3_bitsOf_36 (n64 hb) ?_
        refine G_dstore_n dX3_bitsOf_37 rfl (L' := [some (.double x), none, some (.double (FP.dmul a 4611686018427387904)), none, some (.long (Int64.ofNat (m + (d + 1)))), none, some (.int (nI (j)))]) rfl ?_
        refine G_lload dX3_bitsOf_38 rfl ?_
        refine G_lconst (v := 1) dX3_bitsOf_40 (by decide) ?_
        refine G_lsub dX3_bitsOf_41 ?_
        refine G_lstore dX3_bitsOf_42 rfl (L' := [some (.double x), none, some (.double (FP.dmul a 4611686018427387904)), none, some (.long ((Int64.ofNat (m + (d + 1))) - 1)), none, some (.int (nI (j)))]) rfl ?_
        refine G_iincN (a := j) (s := j + 1) dX3_bitsOf_44 rfl (by omega) (L' := [some (.double x), none, some (.double (FP.dmul a 4611686018427387904)), none, some (.long ((Int64.ofNat (m + (d + 1))) - 1)), none, some (.int (nI (j + 1)))]) rfl ?_
        refine G_goto 18 dX3_bitsOf_47 (by decide) ?_
        rw [show Int64.ofNat (m + (d + 1)) - 1 = Int64.ofNat (m + d) from dec1 (m + d)]
        exact lp_bits h1 h2 d (j + 1) _ hb (by omega)
theorem c_bitsOf0 {x : UInt64} (h : vl x = .fin false 0 (-1074)) : MC l yX3_bitsOf wsX3_bitsOf rmX3_bitsOf false [.double x] (w) (some (.long x.toInt64)) (w) := by
  refine mj_MC (cc := cX3_bitsOf) (nl := 7) (ret := (some .long)) (plainFor_of_name (by decide)) rfl (rfl) (Nat.le_of_ble_eq_true rfl) ?_
  show GG l cX3_bitsOf MX3_bitsOf false (.inl ((some (.long x.toInt64)), w)) 0 [some (.double x), none, none, none, none, none, none] [] (w) 0 0
  refine G_dload_n dX3_bitsOf_0 rfl ?_
  refine G_dconst0 dX3_bitsOf_1 ?_
  refine G_dcmp dX3_bitsOf_2 ?_
  refine G_eqi (y := nI 0) (by rw [v_eq0 h]; rfl) ?_
  refine G_if_gtN (a := 0) 8 dX3_bitsOf_3 (by decide) (by omega) (fun c3 => ?_) (fun c3 => ?_)
  · exact (show False by omega).elim
  · refine G_lconst (v := 0) dX3_bitsOf_6 (by decide) ?_
    exact G_lret dX3_bitsOf_7 ⟨Nat.zero_le _, Nat.zero_le _⟩ (by rw [inv_0 h]; rfl)
theorem c_bitsOf1 {x : UInt64} {c : Nat} {q : Int} (h : vl x = .fin false c q) (hc : cn c q) (h3 : -200 ≤ q) (h4 : q ≤ -52) : MC l yX3_bitsOf wsX3_bitsOf rmX3_bitsOf false [.double x] (w) (some (.long x.toInt64)) (w) := by
  refine mj_MC (cc := cX3_bitsOf) (nl := 7) (ret := (some .long)) (plainFor_of_name (by decide)) rfl (rfl) (Nat.le_of_ble_eq_true rfl) ?_
  show GG l cX3_bitsOf MX3_bitsOf false (.inl ((some (.long x.toInt64)), w)) 0 [some (.double x), none, none, none, none, none, none] [] (w) 0 0
  refine G_dload_n dX3_bitsOf_0 rfl ?_
  refine G_dconst0 dX3_bitsOf_1 ?_
  refine G_dcmp dX3_bitsOf_2 ?_
  refine G_eqi (y := nI 1) (by rw [v_gt0 h (by have := hc.1; omega)]; rfl) ?_
  refine G_if_gtN (a := 1) 8 dX3_bitsOf_3 (by decide) (by omega) (fun c3 => ?_) (fun c3 => ?_)
  · refine G_dload_n dX3_bitsOf_8 rfl ?_
    refine G_dstore_n dX3_bitsOf_9 rfl (L' := [some (.double x), none, some (.double x), none, none, none, none]) rfl ?_
    refine G_ldc2 (v := 1023) dX3_bitsOf_10 (by decide +kernel) ?_
    refine G_lstore dX3_bitsOf_13 rfl (L' := [some (.double x), none, some (.double x), none, some (.long 1023), none, none]) rfl ?_
    refine G_iconst (v := 0) dX3_bitsOf_15 (by decide) ?_
    refine G_istore dX3_bitsOf_16 rfl (L' := [some (.double x), none, some (.double x), none, some (.long 1023), none, some (.int 0)]) rfl ?_
    obtain ⟨d, hd⟩ : ∃ d : Nat, q = -52 - (d : Int) := ⟨(-52 - q).toNat, by omega⟩
    subst hd
    have hm : (1023 : Int64) = Int64.ofNat (1023 - d + d) := by rw [show 1023 - d + d = 1023 by omega]; rfl
    have he : x.toInt64 = Int64.ofNat (1023 - d) <<< ((52 : Int32).toInt64 &&& 63) + Int64.ofNat (c - 4503599627370496) := by
      rw [shl52 _ (by omega), ← Int64.ofNat_add]
      refine toL_n ?_
      rw [inv_n h hc, show (-52 - (d : Int) + 1075).toNat = 1023 - d by omega]
    rw [hm, he]
    exact lp_bits hc.1 hc.2.1 d 0 x h (by omega)
  · exact (show False by omega).elim
theorem c_bitsOf {x : UInt64} (hx : shv x) : MC l yX3_bitsOf wsX3_bitsOf rmX3_bitsOf false [.double x] (w) (some (.long x.toInt64)) (w) := by
  rcases hx with h | ⟨c, q, h, hc, h3, h4⟩
  · exact c_bitsOf0 h
  · exact c_bitsOf1 h hc h3 (by omega)
end FPW
/-- what is dry of the whole -/
def s_share (f : mj_S) : UInt64 := if s_tvA f = 0 then FP.dconst1 else FP.ddiv (FP.i2d (s_sum f 113 20)) (FP.i2d (s_tvA f))
theorem tv_n {f : mj_S} (hv : vt f) : ∀ (d c x y : Nat), c + d ≤ 20 → y ≤ x → x ≤ 2000 * c → ∃ x' y', y' ≤ x' ∧ x' ≤ 2000 * (c + d) ∧ itr (fun p a => a + s_tv f p) d c (nI x) = nI x' ∧ itr (fun i a => a + f (113 + i)) d c (nI y) = nI y'
  | 0, c, x, y, hc, hy, hx => ⟨x, y, hy, hx, rfl, rfl⟩
  | d + 1, c, x, y, hc, hy, hx => by
    obtain ⟨a, b, z, u, e1, e2, e3, e4, e5⟩ := hv c (by omega)
    obtain ⟨x', y', k1, k2, k3, k4⟩ := tv_n hv d (c + 1) (x + (a + b + z)) (y + z) (by omega) (by omega) (by omega)
    refine ⟨x', y', k1, by omega, ?_, ?_⟩
    · rw [itr_s, ← k3, s_tv, e1, e2, e3, nI_add, nI_add, nI_add]
    · rw [itr_s, ← k4, e3, nI_add]
theorem share_ok {f : mj_S} (hv : vt f) : shv (s_share f) := by
  obtain ⟨x, y, h1, h2, h3, h4⟩ := tv_n hv 20 0 0 0 (by omega) (by omega) (by omega)
  have e1 : s_tvA f = nI x := h3
  have e2 : s_sum f 113 20 = nI y := h4
  unfold s_share
  rw [e1, e2]
  split
  · exact share_1
  · rename_i h
    exact share_v (by by_cases z : x = 0; · subst z; exact absurd rfl h
                      · omega) h1 (by omega)
theorem share_n {f : mj_S} (hv : vt f) (h : ¬ s_tvA f = 0) : vf_n64 (FP.ddiv (FP.i2d (s_sum f 113 20)) (FP.i2d (s_tvA f))) := by
  have := (share_ok hv).num
  rw [s_share, if_neg h] at this
  exact this
section RJ
variable {l : Launch} {mp p1 p2 p3 p5 p7 : Nat} {Ω : MT}
theorem m_share (hΩ : MV mp p1 p2 p3 p5 p7 Ω) {th hs sg fi se t3 : Int32} {f sp sv sn bf : mj_S} {m ln i : Nat} {hh : Int64} (hv : vt f) : MC l yX4_share wsX4_share rmX4_share false [.ref mp] (Ω th f sp sv m sn hs bf ln i sg fi se t3 hh) (some (.double (s_share f))) (Ω th f sp sv m sn hs bf ln i sg fi se t3 hh) := by
  refine mj_MC (cc := cX4_share) (nl := 2) (ret := (some .double)) (plainFor_of_name (by decide)) rfl (rfl) (Nat.le_of_ble_eq_true rfl) ?_
  show GG l cX4_share MX4_share false (.inl ((some (.double (s_share f))), Ω th f sp sv m sn hs bf ln i sg fi se t3 hh)) 0 [some (.ref mp), none] [] (Ω th f sp sv m sn hs bf ln i sg fi se t3 hh) 0 0
  refine G_aload_n dX4_share_0 rfl ?_
  refine G_bipush (v := 73) dX4_share_1 (by decide) ?_
  refine G_bipush (v := 60) dX4_share_3 (by decide) ?_
  refine G_callVi dX4_share_5 kX4_share_X4_sumOf ⟨rfl, rfl⟩ ⟨Nat.zero_le _, Nat.zero_le _⟩ (m_sumOf (hΩ.fv th sp sv m sn hs bf ln i sg fi se t3 hh) (a := 73) (m := 60) (by omega)) rfl rfl ((hΩ _ _ _ _ _ _ _ _ _ _ _ _ _ _ _).1) rfl rfl ?_
  refine G_eqi (tvA_sum f) ?_
  refine G_istore_n dX4_share_8 rfl (L' := [some (.ref mp), some (.int (s_tvA f))]) rfl ?_
  refine G_iload_n dX4_share_9 rfl ?_
  refine G_if_ne 17 dX4_share_10 (by decide) (fun c10 => ?_) (fun c10 => ?_)
  · refine G_aload_n dX4_share_17 rfl ?_
    refine G_bipush (v := 113) dX4_share_18 (by decide) ?_
    refine G_bipush (v := 20) dX4_share_20 (by decide) ?_
    refine G_callVi dX4_share_22 kX4_share_X4_sumOf ⟨rfl, rfl⟩ ⟨Nat.zero_le _, Nat.zero_le _⟩ (m_sumOf (hΩ.fv th sp sv m sn hs bf ln i sg fi se t3 hh) (a := 113) (m := 20) (by omega)) rfl rfl ((hΩ _ _ _ _ _ _ _ _ _ _ _ _ _ _ _).1) rfl rfl ?_
    refine G_i2d dX4_share_25 ?_
    refine G_iload_n dX4_share_26 rfl ?_
    refine G_i2d dX4_share_27 ?_
    refine G_ddiv dX4_share_28 (share_n hv c10) ?_
    exact G_dret dX4_share_29 ⟨Nat.zero_le _, Nat.zero_le _⟩ (by rw [s_share, if_neg c10])
  · refine G_dconst1 dX4_share_13 ?_
    refine G_goto 29 dX4_share_14 (by decide) ?_
    exact G_dret dX4_share_29 ⟨Nat.zero_le _, Nat.zero_le _⟩ (by rw [s_share, if_pos c10])
theorem m_dryness (hΩ : MV mp p1 p2 p3 p5 p7 Ω) {th hs sg fi se t3 : Int32} {f sp sv sn bf : mj_S} {m ln i : Nat} {hh : Int64} (hv : vt f) : MC l yX4_dryness wsX4_dryness rmX4_dryness false [.ref mp] (Ω th f sp sv m sn hs bf ln i sg fi se t3 hh) (some (.double (s_share f))) (Ω 0 f sp sv m sn hs bf ln i sg fi se t3 hh) := by
  refine mj_MC (cc := cX4_dryness) (nl := 1) (ret := (some .double)) (plainFor_of_name (by decide)) rfl (rfl) (Nat.le_of_ble_eq_true rfl) ?_
  show GG l cX4_dryness MX4_dryness false (.inl ((some (.double (s_share f))), Ω 0 f sp sv m sn hs bf ln i sg fi se t3 hh)) 0 [some (.ref mp)] [] (Ω th f sp sv m sn hs bf ln i sg fi se t3 hh) 0 0
  refine G_aload_n dX4_dryness_0 rfl ?_
  refine G_iconst (v := 0) dX4_dryness_1 (by decide) ?_
  refine G_putf dX4_dryness_2 pX4_dryness_25 ((hΩ _ _ _ _ _ _ _ _ _ _ _ _ _ _ _).1) (fun _ => ⟨rfl, rfl⟩) (by simp [mfs]) ((hΩ _ _ _ _ _ _ _ _ _ _ _ _ _ _ _).2.2.2.2.2.2.1 _ _ _ _ _ _ _ _ _ _) ?_
  refine G_aload_n dX4_dryness_5 rfl ?_
  refine G_callVd dX4_dryness_6 kX4_dryness_X4_share ⟨rfl, rfl⟩ ⟨Nat.zero_le _, Nat.zero_le _⟩ (m_share hΩ hv) rfl rfl ((hΩ _ _ _ _ _ _ _ _ _ _ _ _ _ _ _).1) rfl rfl ?_
  exact G_dret dX4_dryness_9 ⟨Nat.zero_le _, Nat.zero_le _⟩ (rfl)
theorem m_digest (hΩ : MV mp p1 p2 p3 p5 p7 Ω) {th hs sg fi se t3 : Int32} {f sp sv sn bf : mj_S} {m ln i : Nat} {hh : Int64} {D : Nat} (ho : oA f D) (hv : vt f) (hD : D < 2147479000) (hm : m ≤ 6) (hl : ln ≤ 60) {si : Nat} (hsi : f 2 = nI si) (hsi9 : si ≤ 9) : MC l yX4_digest wsX4_digest rmX4_digest false [.ref mp] (Ω th f sp sv m sn hs bf ln i sg fi se t3 hh) (some (.long (g_d f m (s_share f).toInt64 bf ln))) (Ω 0 f f sv m sn hs bf ln i sg fi se t3 (g_d f m (s_share f).toInt64 bf ln)) := by
  refine mj_MC (cc := cX4_digest) (nl := 2) (ret := (some .long)) (plainFor_of_name (by decide)) rfl (rfl) (Nat.le_of_ble_eq_true rfl) ?_
  show GG l cX4_digest MX4_digest false (.inl ((some (.long (g_d f m (s_share f).toInt64 bf ln))), Ω 0 f f sv m sn hs bf ln i sg fi se t3 (g_d f m (s_share f).toInt64 bf ln))) 0 [some (.ref mp), none] [] (Ω th f sp sv m sn hs bf ln i sg fi se t3 hh) 0 0
  refine G_aload_n dX4_digest_0 rfl ?_
  refine G_iconst (v := 0) dX4_digest_1 (by decide) ?_
  refine G_putf dX4_digest_2 pX4_digest_25 ((hΩ _ _ _ _ _ _ _ _ _ _ _ _ _ _ _).1) (fun _ => ⟨rfl, rfl⟩) (by simp [mfs]) ((hΩ _ _ _ _ _ _ _ _ _ _ _ _ _ _ _).2.2.2.2.2.2.1 _ _ _ _ _ _ _ _ _ _) ?_
  refine G_aload_n dX4_digest_5 rfl ?_
  refine G_ldc2 (v := 3739) dX4_digest_6 (by decide +kernel) ?_
  refine G_putf dX4_digest_9 pX4_digest_239 ((hΩ _ _ _ _ _ _ _ _ _ _ _ _ _ _ _).1) (fun _ => ⟨rfl, rfl⟩) (by simp [mfs]) ((hΩ _ _ _ _ _ _ _ _ _ _ _ _ _ _ _).2.2.2.2.2.2.1 _ _ _ _ _ _ _ _ _ _) ?_
  refine G_iconst (v := 0) dX4_digest_12 (by decide) ?_
  refine G_istore_n dX4_digest_13 rfl (L' := [some (.ref mp), some (.int 0)]) rfl ?_
  refine ml_dg1 hΩ hm (R := (itr (fun k a => mx (s_ofC f m k) a) 13 0 3739)) (fun y => ?_) 13 0 3739 (by omega) rfl
  refine G_iconst (v := 0) dX4_digest_36 (by decide) ?_
  refine G_istore_n dX4_digest_37 rfl (L' := [some (.ref mp), some (.int 0)]) rfl ?_
  refine ml_dg2 hΩ ho hv hD (R := (g_a f m)) (S := f) (fun y => ?_) 5 0 (itr (fun k a => mx (s_ofC f m k) a) 13 0 3739) sp (by omega) rfl (by rfl)
  refine G_iconst (v := 0) dX4_digest_54 (by decide) ?_
  refine G_istore_n dX4_digest_55 rfl (L' := [some (.ref mp), some (.int 0)]) rfl ?_
  refine ml_dg3 hΩ  (R := (itr (fun k a => mx (s_ofB (s_com f) f (k / 5) (k % 5)) a) 20 0 (g_a f m))) (fun y => ?_) 20 0 (g_a f m) (by omega) rfl
  refine G_iconst (v := 0) dX4_digest_83 (by decide) ?_
  refine G_istore_n dX4_digest_84 rfl (L' := [some (.ref mp), some (.int 0)]) rfl ?_
  refine ml_dg4 hΩ  (R := (g_b f m)) (fun y => ?_) 24 0 (itr (fun k a => mx (s_ofB (s_com f) f (k / 5) (k % 5)) a) 20 0 (g_a f m)) (by omega) rfl
  refine G_iconst (v := 0) dX4_digest_112 (by decide) ?_
  refine G_istore_n dX4_digest_113 rfl (L' := [some (.ref mp), some (.int 0)]) rfl ?_
  refine ml_dg5 hΩ hsi hsi9 (R := (itr (fun k a => mx (nI (s_rain f k)) a) 10 0 (g_b f m))) (fun y => ?_) 10 0 (g_b f m) (by omega) rfl
  refine G_iconst (v := 0) dX4_digest_136 (by decide) ?_
  refine G_istore_n dX4_digest_137 rfl (L' := [some (.ref mp), some (.int 0)]) rfl ?_
  refine ml_dg6 hΩ ho hv hD (R := (g_c f m)) (S := f) (fun y => ?_) 3 0 (itr (fun k a => mx (nI (s_rain f k)) a) 10 0 (g_b f m)) f (by omega) rfl (by rfl)
  refine G_aload_n dX4_digest_161 rfl ?_
  refine G_aload_n dX4_digest_162 rfl ?_
  refine G_callVd dX4_digest_163 kX4_digest_X4_share ⟨rfl, rfl⟩ ⟨Nat.zero_le _, Nat.zero_le _⟩ (m_share hΩ hv) rfl rfl ((hΩ _ _ _ _ _ _ _ _ _ _ _ _ _ _ _).1) rfl rfl ?_
  refine G_callSl dX4_digest_166 kX4_digest_Jxe99ae_doubleToLongBits_ccdee ⟨rfl, rfl⟩ ⟨Nat.zero_le _, Nat.zero_le _⟩ (c_d2lb (share_ok hv)) rfl rfl rfl ?_
  refine G_callVv dX4_digest_169 kX4_digest_X4_mix ⟨rfl, rfl⟩ ⟨Nat.zero_le _, Nat.zero_le _⟩ (m_mix hΩ) rfl rfl ((hΩ _ _ _ _ _ _ _ _ _ _ _ _ _ _ _).1) rfl rfl ?_
  refine G_aload_n dX4_digest_172 rfl ?_
  refine G_aload_n dX4_digest_173 rfl ?_
  refine G_getf dX4_digest_174 fX4_digest_137 ((hΩ _ _ _ _ _ _ _ _ _ _ _ _ _ _ _).1) (rfl) ?_
  refine G_i2l dX4_digest_177 ?_
  refine G_callVv dX4_digest_178 kX4_digest_X4_mix ⟨rfl, rfl⟩ ⟨Nat.zero_le _, Nat.zero_le _⟩ (m_mix hΩ) rfl rfl ((hΩ _ _ _ _ _ _ _ _ _ _ _ _ _ _ _).1) rfl rfl ?_
  refine G_iconst (v := 0) dX4_digest_181 (by decide) ?_
  refine G_istore_n dX4_digest_182 rfl (L' := [some (.ref mp), some (.int 0)]) rfl ?_
  refine ml_dg7 hΩ hl (R := g_d f m (s_share f).toInt64 bf ln) (fun y => ?_) ln 0 _ (by omega) rfl
  refine G_aload_n dX4_digest_208 rfl ?_
  refine G_getf dX4_digest_209 fX4_digest_239 ((hΩ _ _ _ _ _ _ _ _ _ _ _ _ _ _ _).1) (rfl) ?_
  exact G_lret dX4_digest_212 ⟨Nat.zero_le _, Nat.zero_le _⟩ (rfl)
end RJ
