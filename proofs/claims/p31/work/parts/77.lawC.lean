/-! THE LAW'S CARTS AND DAYS -/
theorem upd_ext {f : mj_S} {j : Nat} {u v : Int32} (h : u = v) : upd f j u = upd f j v := by rw [h]
/-- what the law's cart does is what s_bring tells -/
theorem bring_le {f f1 f2 f3 : mj_S} {D k b : Nat} {m g : Int32} (hk : k < 5) (hb : b < 4) (ho : oA f D) (e1 : f1 = upd f (113 + b + 4 * k) (f (113 + b + 4 * k) - m)) (hg : g = if f1 (5 + k) = 1 ∨ s_poor f1 = -1 then 0 else m * f1 3 / 100) (hz : g = 0) (e2 : f2 = upd f1 (15 + k) (f1 (15 + k) + (m - g))) (e3 : f3 = upd f2 (30 + k) (f2 (30 + k) + g)) : s_bring f k b m = f3 := by
  have z1 : f3 = upd f1 (15 + k) (f1 (15 + k) + m) := by
    rw [e3, hz, show f2 (30 + k) + 0 = f2 (30 + k) by grind, upd_id, e2, hz, show m - 0 = m by grind]
  have h5 : upd f1 (15 + k) (f1 (15 + k) + m) (5 + k) = f1 (5 + k) := upd_n (by omega)
  have h3 : upd f1 (15 + k) (f1 (15 + k) + m) 3 = f1 3 := upd_n (by omega)
  rw [z1]
  unfold s_bring
  dsimp only
  rw [← e1]
  by_cases c1 : f1 (5 + k) = 1
  · rw [if_pos (h5.trans c1)]
  · rw [if_neg (fun q => c1 (h5.symm.trans q)), poor_home hk c1]
    by_cases c2 : s_poor f1 = -1
    · rw [if_pos c2]
    · rw [if_neg c2, h3]
      have hg2 : m * f1 3 / 100 = 0 := by
        rw [if_neg (fun q => q.elim c1 c2)] at hg
        rw [← hg]; exact hz
      rw [hg2]
      have z : ∀ x : Int32, x - 0 = x := by intro x; simp
      have z2 : ∀ x : Int32, x + 0 = x := by intro x; simp
      simp only [z, z2, upd_id]
theorem bring_gt {f f1 f2 f3 f4 f5 : mj_S} {D k b v : Nat} {m g : Int32} (hk : k < 5) (hb : b < 4) (hv : v < 5) (ho : oA f D) (e1 : f1 = upd f (113 + b + 4 * k) (f (113 + b + 4 * k) - m)) (hg : g = if f1 (5 + k) = 1 ∨ s_poor f1 = -1 then 0 else m * f1 3 / 100) (hz : ¬ g = 0) (hp : s_poor f1 = nI v) (e2 : f2 = upd f1 (15 + k) (f1 (15 + k) + (m - g))) (e3 : f3 = upd f2 (30 + k) (f2 (30 + k) + g)) (e4 : f4 = upd f3 (15 + v) (f3 (15 + v) + g)) (e5 : f5 = upd f4 (25 + v) (f4 (25 + v) + g)) : s_bring f k b m = f5 := by
  have h5 : upd f1 (15 + k) (f1 (15 + k) + m) (5 + k) = f1 (5 + k) := upd_n (by omega)
  have h3 : upd f1 (15 + k) (f1 (15 + k) + m) 3 = f1 3 := upd_n (by omega)
  have c : ¬ (f1 (5 + k) = 1 ∨ s_poor f1 = -1) := fun q => hz (by rw [hg, if_pos q])
  rw [if_neg c] at hg
  have c1 : ¬ f1 (5 + k) = 1 := fun q => c (Or.inl q)
  have z2 : f2 = upd (upd f1 (15 + k) (f1 (15 + k) + m)) (15 + k) (upd f1 (15 + k) (f1 (15 + k) + m) (15 + k) - g) := by
    rw [e2, upd_upd, upd_s, show f1 (15 + k) + m - g = f1 (15 + k) + (m - g) by grind]
  unfold s_bring
  dsimp only
  rw [← e1, if_neg (fun q => c1 (h5.symm.trans q)), poor_home hk c1, if_neg (fun q => c (Or.inr q)), h3, hp, nI_clamp (by omega), ← hg, ← z2, ← e3, ← e4, ← e5]
theorem nz_le {g : Int32} {z : Nat} (hz : z < 2147483648) (e : g = nI z) (h : g ≤ 0) : g = 0 := by
  rw [e] at h ⊢
  rcases Nat.eq_zero_or_pos z with q | q
  · rw [q]; rfl
  · exact absurd h (Int32.not_le.mpr ((nI_ltI (a := 0) (by omega) hz).mpr q))
theorem poor_lt {f : mj_S} {x : Int32} (e : x = s_poor f) (h : x < 0) : s_poor f = -1 := by
  rcases poor_in f with q | ⟨v, q1, q2⟩
  · exact q
  · rw [e, q2] at h
    exact absurd h (nI_pos (by omega))
theorem gift_of {f1 : mj_S} {k : Nat} {m g : Int32} (h : f1 (5 + k) = 1 ∨ s_poor f1 = -1) (e : g = 0) : g = if f1 (5 + k) = 1 ∨ s_poor f1 = -1 then 0 else m * f1 3 / 100 := by rw [if_pos h]; exact e
theorem gift_nn {f1 : mj_S} {k mm s : Nat} {g : Int32} (hm : mm ≤ 2000) (hs : s ≤ 50) (es : f1 3 = nI s) (hg : g = if f1 (5 + k) = 1 ∨ s_poor f1 = -1 then 0 else nI mm * f1 3 / 100) : ∃ z, z < 2147483648 ∧ g = nI z := by
  rw [hg]
  split
  · exact ⟨0, by omega, rfl⟩
  · obtain ⟨q1, q2⟩ := gift_n hm hs
    exact ⟨mm * s / 100, by omega, by rw [es, q1]⟩
section LC0
variable {l : Launch} {w : mj_W} {Ψ : mj_S → mj_W}
theorem lq_wid (hΨ : HV Ψ) {X : mj_R} {f : mj_S} {y lf m : Int32} {b k e : Nat} : ∀ (d : Nat) (a : Int32), d ≤ 5 → (a = -1 ∨ ∃ v, v < 5 ∧ a = nI v) → GG l cL_carts ML_carts false X 155 [some (.ref 11), some (.ref 12), some (.ref 16), some (.int y), some (.int (nI (b))), some (.int lf), some (.int (nI (k))), some (.int (nI (e))), some (.int m), some (.int (s_pd f d a)), some (.int (-1))] [] (Ψ f) 0 0 → GG l cL_carts ML_carts false X 98 [some (.ref 11), some (.ref 12), some (.ref 16), some (.int y), some (.int (nI (b))), some (.int lf), some (.int (nI (k))), some (.int (nI (e))), some (.int m), some (.int a), some (.int (xd d))] [] (Ψ f) 0 0
  | 0, a, hd, ha, K => by
    show GG l cL_carts ML_carts false X 98 [some (.ref 11), some (.ref 12), some (.ref 16), some (.int y), some (.int (nI (b))), some (.int lf), some (.int (nI (k))), some (.int (nI (e))), some (.int m), some (.int a), some (.int (-1))] [] (Ψ f) 0 0
    refine G_iload dL_carts_98 rfl ?_
    refine G_if_lt 155 dL_carts_100 (by decide) (fun _ => ?_) (fun q => absurd m1_neg q)
    exact K
  | d + 1, a, hd, ha, K => by
    show GG l cL_carts ML_carts false X 98 [some (.ref 11), some (.ref 12), some (.ref 16), some (.int y), some (.int (nI (b))), some (.int lf), some (.int (nI (k))), some (.int (nI (e))), some (.int m), some (.int a), some (.int (nI (d)))] [] (Ψ f) 0 0
    refine G_iload dL_carts_98 rfl ?_
    refine G_if_ltN (a := d) 155 dL_carts_100 (by decide) (by omega) ?_
    refine G_aload_n dL_carts_103 rfl ?_
    refine G_bipush (v := 8) dL_carts_104 (by decide) ?_
    refine G_iload dL_carts_106 rfl ?_
    refine G_imulN (a := 8) (c := d) (s := 8 * d) dL_carts_108 (by omega) ?_
    refine G_ialdN (j := 8 * d) dL_carts_109 ((hΨ f).1.2.1) (by omega) ?_
    refine G_eqi (rdH (by omega) (by omega) : _ = f (5 + d)) ?_
    refine G_iconst (v := 1) dL_carts_110 (by decide) ?_
    refine G_icmp_ne 145 dL_carts_111 (by decide) (fun c111 => ?_) (fun c111 => ?_)
    · refine G_iload dL_carts_145 rfl ?_
      refine G_istore dL_carts_147 rfl (L' := [some (.ref 11), some (.ref 12), some (.ref 16), some (.int y), some (.int (nI (b))), some (.int lf), some (.int (nI (k))), some (.int (nI (e))), some (.int m), some (.int a), some (.int (nI (d)))]) rfl ?_
      refine G_iinc (v := (xd d)) dL_carts_149 rfl (xd_dec d) (L' := [some (.ref 11), some (.ref 12), some (.ref 16), some (.int y), some (.int (nI (b))), some (.int lf), some (.int (nI (k))), some (.int (nI (e))), some (.int m), some (.int a), some (.int (xd d))]) rfl ?_
      refine G_goto 98 dL_carts_152 (by decide) ?_
      exact lq_wid hΨ d a (by omega) ha (by rw [s_pd_s, if_neg (fun q => c111 q.1)] at K; exact K)
    · refine G_iload dL_carts_114 rfl ?_
      refine G_if_lt 140 dL_carts_116 (by decide) (fun c116 => ?_) (fun c116 => ?_)
      · refine G_iload dL_carts_140 rfl ?_
        refine G_goto 147 dL_carts_142 (by decide) ?_
        refine G_istore dL_carts_147 rfl (L' := [some (.ref 11), some (.ref 12), some (.ref 16), some (.int y), some (.int (nI (b))), some (.int lf), some (.int (nI (k))), some (.int (nI (e))), some (.int m), some (.int (nI (d))), some (.int (nI (d)))]) rfl ?_
        refine G_iinc (v := (xd d)) dL_carts_149 rfl (xd_dec d) (L' := [some (.ref 11), some (.ref 12), some (.ref 16), some (.int y), some (.int (nI (b))), some (.int lf), some (.int (nI (k))), some (.int (nI (e))), some (.int m), some (.int (nI (d))), some (.int (xd d))]) rfl ?_
        refine G_goto 98 dL_carts_152 (by decide) ?_
        exact lq_wid hΨ d (nI (d)) (by omega) (Or.inr ⟨d, by omega, rfl⟩) (by rw [s_pd_s, if_pos ⟨c111, Or.inl c116⟩] at K; exact K)
      · obtain ⟨v, hv, ea⟩ := ha.resolve_left (fun q => c116 (q ▸ m1_neg))
        subst ea
        refine G_aload_n dL_carts_119 rfl ?_
        refine G_bipush (v := 8) dL_carts_120 (by decide) ?_
        refine G_iload dL_carts_122 rfl ?_
        refine G_imulN (a := 8) (c := d) (s := 8 * d) dL_carts_124 (by omega) ?_
        refine G_iconst (v := 2) dL_carts_125 (by decide) ?_
        refine G_iaddN (a := 8 * d) (c := 2) (s := 2 + 8 * d) dL_carts_126 (by omega) ?_
        refine G_ialdN (j := 2 + 8 * d) dL_carts_127 ((hΨ f).1.2.1) (by omega) ?_
        refine G_eqi (rdH (by omega) (by omega) : _ = f (15 + d)) ?_
        refine G_aload_n dL_carts_128 rfl ?_
        refine G_bipush (v := 8) dL_carts_129 (by decide) ?_
        refine G_iload dL_carts_131 rfl ?_
        refine G_imulN (a := 8) (c := v) (s := 8 * v) dL_carts_133 (by omega) ?_
        refine G_iconst (v := 2) dL_carts_134 (by decide) ?_
        refine G_iaddN (a := 8 * v) (c := 2) (s := 2 + 8 * v) dL_carts_135 (by omega) ?_
        refine G_ialdN (j := 2 + 8 * v) dL_carts_136 ((hΨ f).1.2.1) (by omega) ?_
        refine G_eqi (rdH (by omega) (by omega) : _ = f (15 + v)) ?_
        refine G_icmp_gt 145 dL_carts_137 (by decide) (fun c137 => ?_) (fun c137 => ?_)
        · refine G_iload dL_carts_145 rfl ?_
          refine G_istore dL_carts_147 rfl (L' := [some (.ref 11), some (.ref 12), some (.ref 16), some (.int y), some (.int (nI (b))), some (.int lf), some (.int (nI (k))), some (.int (nI (e))), some (.int m), some (.int (nI (v))), some (.int (nI (d)))]) rfl ?_
          refine G_iinc (v := (xd d)) dL_carts_149 rfl (xd_dec d) (L' := [some (.ref 11), some (.ref 12), some (.ref 16), some (.int y), some (.int (nI (b))), some (.int lf), some (.int (nI (k))), some (.int (nI (e))), some (.int m), some (.int (nI (v))), some (.int (xd d))]) rfl ?_
          refine G_goto 98 dL_carts_152 (by decide) ?_
          exact lq_wid hΨ d (nI (v)) (by omega) (Or.inr ⟨v, hv, rfl⟩) (by rw [s_pd_s, if_neg (fun q => q.2.elim (nI_pos (by omega)) (fun z => Int32.not_le.mpr c137 (by rw [nI_clamp (show v < 2 ^ 31 by omega)] at z; exact z)))] at K; exact K)
        · refine G_iload dL_carts_140 rfl ?_
          refine G_goto 147 dL_carts_142 (by decide) ?_
          refine G_istore dL_carts_147 rfl (L' := [some (.ref 11), some (.ref 12), some (.ref 16), some (.int y), some (.int (nI (b))), some (.int lf), some (.int (nI (k))), some (.int (nI (e))), some (.int m), some (.int (nI (d))), some (.int (nI (d)))]) rfl ?_
          refine G_iinc (v := (xd d)) dL_carts_149 rfl (xd_dec d) (L' := [some (.ref 11), some (.ref 12), some (.ref 16), some (.int y), some (.int (nI (b))), some (.int lf), some (.int (nI (k))), some (.int (nI (e))), some (.int m), some (.int (nI (d))), some (.int (xd d))]) rfl ?_
          refine G_goto 98 dL_carts_152 (by decide) ?_
          exact lq_wid hΨ d (nI (d)) (by omega) (Or.inr ⟨d, by omega, rfl⟩) (by rw [s_pd_s, if_pos ⟨c111, Or.inr (by rw [nI_clamp (show v < 2 ^ 31 by omega)]; exact Int32.not_lt.mp c137)⟩] at K; exact K)
theorem lq_cart (hΨ : HV Ψ) {X : mj_R} {D D0 b : Nat} (hb : b < 4) {f0 : mj_S} (ho : oA f0 D0) : ∀ (d e k lf : Nat) (f : mj_S) (y : Int32) (z8 z9 z10 : Option Value), e + d = 5 → k = (D + e) % 5 → lf ≤ 90 → sA f0 f → vt f → (∀ u6 u7 u8 u9 u10 : Option Value, GG l cL_carts ML_carts false X 271 [some (.ref 11), some (.ref 12), some (.ref 16), some (.int (y + (nI lf - (itr (s_cart1 D b) d e (f, nI lf)).2))), some (.int (nI b)), some (.int (itr (s_cart1 D b) d e (f, nI lf)).2), u6, u7, u8, u9, u10] [] (Ψ (itr (s_cart1 D b) d e (f, nI lf)).1) 0 0) → GG l cL_carts ML_carts false X 30 [some (.ref 11), some (.ref 12), some (.ref 16), some (.int y), some (.int (nI (b))), some (.int (nI (lf))), some (.int (nI (k))), some (.int (nI (e))), z8, z9, z10] [] (Ψ f) 0 0
  | 0, e, k, lf, f, y, z8, z9, z10, he, hk, hl, hs, hv, K => by
    have K0 : y = y + (nI lf - nI lf) := by grind
    refine G_iload dL_carts_30 rfl ?_
    refine G_iconst (v := 5) dL_carts_32 (by decide) ?_
    refine G_icmp_geN (a := e) (c := 5) 271 dL_carts_33 (by decide) (by omega) (fun c33 => ?_) (fun c33 => ?_)
    · have K1 := K (some (.int (nI k))) (some (.int (nI e))) z8 z9 z10
      rw [itr_0] at K1
      dsimp only at K1
      rw [← K0] at K1
      exact K1
    · exact (show False by omega).elim
  | d + 1, e, k, lf, f, y, z8, z9, z10, he, hk, hl, hs, hv, K => by
    have hk5 : k < 5 := by rw [hk]; exact Nat.mod_lt _ (by omega)
    have ho1 := oA_same hs ho
    obtain ⟨xw, yw, zw, uw, exw, eyw, ezw, euw, hsw⟩ := hv (b + 4 * k) (by omega)
    rw [show 113 + (b + 4 * k) = 113 + b + 4 * k by omega] at ezw
    obtain ⟨mm, em, hmz, hml⟩ : ∃ mm : Nat, mn (f (113 + b + 4 * k)) (nI lf) = nI mm ∧ mm ≤ zw ∧ mm ≤ lf := ⟨if lf < zw then lf else zw, by rw [ezw, n_mn (by omega) (by omega)], by split <;> omega, by split <;> omega⟩
    refine G_iload dL_carts_30 rfl ?_
    refine G_iconst (v := 5) dL_carts_32 (by decide) ?_
    refine G_icmp_geN (a := e) (c := 5) 271 dL_carts_33 (by decide) (by omega) (fun c33 => ?_) (fun c33 => ?_)
    · exact (show False by omega).elim
    · have K64 : ∀ m : Int32, m = mn (f (113 + b + 4 * k)) (nI lf) → GG l cL_carts ML_carts false X 64 [some (.ref 11), some (.ref 12), some (.ref 16), some (.int y), some (.int (nI (b))), some (.int (nI (lf))), some (.int (nI (k))), some (.int (nI (e))), z8, z9, z10] [.int m] (Ψ f) 0 0 := by
        intro m em2
        rw [em] at em2
        subst em2
        refine G_istore dL_carts_64 rfl (L' := [some (.ref 11), some (.ref 12), some (.ref 16), some (.int y), some (.int (nI (b))), some (.int (nI (lf))), some (.int (nI (k))), some (.int (nI (e))), some (.int (nI (mm))), z9, z10]) rfl ?_
        refine G_iconst (v := (-1)) dL_carts_66 (by decide) ?_
        refine G_istore dL_carts_67 rfl (L' := [some (.ref 11), some (.ref 12), some (.ref 16), some (.int y), some (.int (nI (b))), some (.int (nI (lf))), some (.int (nI (k))), some (.int (nI (e))), some (.int (nI (mm))), some (.int (-1)), z10]) rfl ?_
        refine G_iload dL_carts_69 rfl ?_
        refine G_iload dL_carts_71 rfl ?_
        refine G_isubN (a := lf) (c := mm) (s := ((lf) - mm)) dL_carts_73 (by omega) ?_
        refine G_istore dL_carts_74 rfl (L' := [some (.ref 11), some (.ref 12), some (.ref 16), some (.int y), some (.int (nI (b))), some (.int (nI (((lf) - mm)))), some (.int (nI (k))), some (.int (nI (e))), some (.int (nI (mm))), some (.int (-1)), z10]) rfl ?_
        refine G_iload_n dL_carts_76 rfl ?_
        refine G_iload dL_carts_77 rfl ?_
        refine G_iadd dL_carts_79 ?_
        refine G_istore_n dL_carts_80 rfl (L' := [some (.ref 11), some (.ref 12), some (.ref 16), some (.int (y + (nI (mm)))), some (.int (nI (b))), some (.int (nI (((lf) - mm)))), some (.int (nI (k))), some (.int (nI (e))), some (.int (nI (mm))), some (.int (-1)), z10]) rfl ?_
        refine G_aload_n dL_carts_81 rfl ?_
        refine G_iconst (v := 4) dL_carts_82 (by decide) ?_
        refine G_iload dL_carts_83 rfl ?_
        refine G_imulN (a := 4) (c := k) (s := 4 * k) dL_carts_85 (by omega) ?_
        refine G_iload dL_carts_86 rfl ?_
        refine G_iaddN (a := 4 * k) (c := b) (s := b + 4 * k) dL_carts_88 (by omega) ?_
        refine G_dup2 dL_carts_89 rfl rfl ?_
        refine G_ialdN (j := b + 4 * k) dL_carts_90 ((hΨ f).1.2.2.2.2.2.1) (by omega) ?_
        refine G_eqi (rdB (by omega) (by omega) : _ = f (113 + b + 4 * k)) ?_
        refine G_iload dL_carts_91 rfl ?_
        refine G_isub dL_carts_93 ?_
        obtain ⟨f1, ef1⟩ : ∃ z : mj_S, z = upd f (113 + b + 4 * k) ((f (113 + b + 4 * k)) - (nI (mm))) := ⟨_, rfl⟩
        refine G_iastN (j := b + 4 * k) dL_carts_94 ((hΨ f).1.2.2.2.2.2.1) (by omega) (((hΨ f).2.2.2.2.2.2.2.1 _ _ _ (by omega) (by omega)).trans (congrArg Ψ ef1.symm)) ?_
        refine G_iconst (v := 4) dL_carts_95 (by decide) ?_
        refine G_istore dL_carts_96 rfl (L' := [some (.ref 11), some (.ref 12), some (.ref 16), some (.int (y + (nI (mm)))), some (.int (nI (b))), some (.int (nI (((lf) - mm)))), some (.int (nI (k))), some (.int (nI (e))), some (.int (nI (mm))), some (.int (-1)), some (.int 4)]) rfl ?_
        have hp1 := pd_poor f1
        refine lq_wid hΨ 5 (-1) (Nat.le_refl _) (Or.inl rfl) ?_
        rw [hp1]
        obtain ⟨wi, ewi⟩ : ∃ z : Int32, z = s_poor f1 := ⟨_, rfl⟩
        rw [← ewi]
        have h3 : f1 3 = f 3 := by rw [ef1, upd_n (by omega)]
        have h5 : f1 (5 + k) = f (5 + k) := by rw [ef1, upd_n (by omega)]
        obtain ⟨sg, hsg, esg⟩ := ho1.2.2.2.1
        have h01 := ho1.2.2.2.2.2.1 k hk5
        rw [← h5] at h01
        rw [← h3] at esg
        have K183 : ∀ g : Int32, (g = if f1 (5 + k) = 1 ∨ s_poor f1 = -1 then 0 else nI mm * f1 3 / 100) → GG l cL_carts ML_carts false X 183 [some (.ref 11), some (.ref 12), some (.ref 16), some (.int (y + (nI (mm)))), some (.int (nI (b))), some (.int (nI (((lf) - mm)))), some (.int (nI (k))), some (.int (nI (e))), some (.int (nI (mm))), some (.int wi), some (.int (-1))] [.int g] (Ψ f1) 0 0 := by
          intro g eg
          obtain ⟨gz, hgz, egz⟩ := gift_nn (by omega) hsg esg eg
          refine G_istore dL_carts_183 rfl (L' := [some (.ref 11), some (.ref 12), some (.ref 16), some (.int (y + (nI (mm)))), some (.int (nI (b))), some (.int (nI (((lf) - mm)))), some (.int (nI (k))), some (.int (nI (e))), some (.int (nI (mm))), some (.int wi), some (.int g)]) rfl ?_
          refine G_aload_n dL_carts_185 rfl ?_
          refine G_bipush (v := 8) dL_carts_186 (by decide) ?_
          refine G_iload dL_carts_188 rfl ?_
          refine G_imulN (a := 8) (c := k) (s := 8 * k) dL_carts_190 (by omega) ?_
          refine G_iconst (v := 2) dL_carts_191 (by decide) ?_
          refine G_iaddN (a := 8 * k) (c := 2) (s := 2 + 8 * k) dL_carts_192 (by omega) ?_
          refine G_dup2 dL_carts_193 rfl rfl ?_
          refine G_ialdN (j := 2 + 8 * k) dL_carts_194 ((hΨ f1).1.2.1) (by omega) ?_
          refine G_eqi (rdH (by omega) (by omega) : _ = f1 (15 + k)) ?_
          refine G_iload dL_carts_195 rfl ?_
          refine G_iload dL_carts_197 rfl ?_
          refine G_isub dL_carts_199 ?_
          refine G_iadd dL_carts_200 ?_
          obtain ⟨f2, ef2⟩ : ∃ z : mj_S, z = upd f1 (15 + k) ((f1 (15 + k)) + ((nI (mm)) - g)) := ⟨_, rfl⟩
          refine G_iastN (j := 2 + 8 * k) dL_carts_201 ((hΨ f1).1.2.1) (by omega) (((hΨ f1).2.2.2.1 _ _ _ (by omega) (by omega)).trans (congrArg Ψ ef2.symm)) ?_
          refine G_aload_n dL_carts_202 rfl ?_
          refine G_bipush (v := 8) dL_carts_203 (by decide) ?_
          refine G_iload dL_carts_205 rfl ?_
          refine G_imulN (a := 8) (c := k) (s := 8 * k) dL_carts_207 (by omega) ?_
          refine G_iconst (v := 5) dL_carts_208 (by decide) ?_
          refine G_iaddN (a := 8 * k) (c := 5) (s := 5 + 8 * k) dL_carts_209 (by omega) ?_
          refine G_dup2 dL_carts_210 rfl rfl ?_
          refine G_ialdN (j := 5 + 8 * k) dL_carts_211 ((hΨ f2).1.2.1) (by omega) ?_
          refine G_eqi (rdH (by omega) (by omega) : _ = f2 (30 + k)) ?_
          refine G_iload dL_carts_212 rfl ?_
          refine G_iadd dL_carts_214 ?_
          obtain ⟨f3, ef3⟩ : ∃ z : mj_S, z = upd f2 (30 + k) ((f2 (30 + k)) + g) := ⟨_, rfl⟩
          refine G_iastN (j := 5 + 8 * k) dL_carts_215 ((hΨ f2).1.2.1) (by omega) (((hΨ f2).2.2.2.1 _ _ _ (by omega) (by omega)).trans (congrArg Ψ ef3.symm)) ?_
          refine G_iload dL_carts_216 rfl ?_
          refine G_if_le 249 dL_carts_218 (by decide) (fun c218 => ?_) (fun c218 => ?_)
          · have gz0 : g = 0 := nz_le hgz egz c218
            have hbr : s_bring f k b (nI mm) = f3 := bring_le hk5 hb ho1 ef1 eg gz0 ef2 ef3
            have hst : s_cart1 D b e (f, nI lf) = (f3, nI (lf - mm)) := by
              rw [s_cart1]
              dsimp only
              rw [← hk, em, hbr, pk_sub hml]
            refine G_iload dL_carts_249 rfl ?_
            refine G_iconst (v := 4) dL_carts_251 (by decide) ?_
            refine G_icmp_neN (a := k) (c := 4) 259 dL_carts_252 (by decide) (by omega) (fun c252 => ?_) (fun c252 => ?_)
            · refine G_iload dL_carts_259 rfl ?_
              refine G_iconst (v := 1) dL_carts_261 (by decide) ?_
              refine G_iaddN (a := k) (c := 1) (s := k + 1) dL_carts_262 (by omega) ?_
              refine G_istore dL_carts_263 rfl (L' := [some (.ref 11), some (.ref 12), some (.ref 16), some (.int (y + (nI (mm)))), some (.int (nI (b))), some (.int (nI (((lf) - mm)))), some (.int (nI (k + 1))), some (.int (nI (e))), some (.int (nI (mm))), some (.int wi), some (.int g)]) rfl ?_
              refine G_iincN (a := e) (s := e + 1) dL_carts_265 rfl (by omega) (L' := [some (.ref 11), some (.ref 12), some (.ref 16), some (.int (y + (nI (mm)))), some (.int (nI (b))), some (.int (nI (((lf) - mm)))), some (.int (nI (k + 1))), some (.int (nI (e + 1))), some (.int (nI (mm))), some (.int wi), some (.int g)]) rfl ?_
              refine G_goto 30 dL_carts_268 (by decide) ?_
              refine lq_cart (D := D) hΨ hb ho d (e + 1) (k + 1) (lf - mm) f3 (y + nI mm) _ _ _ (by omega) (by omega) (by omega) (hs.tr (hbr ▸ sA_bring hk5 hb)) (hbr ▸ vt_bring hk5 hb hv ezw (by omega) hmz) ?_
              intro u6 u7 u8 u9 u10
              have K1 := K u6 u7 u8 u9 u10
              rw [itr_s, hst] at K1
              rw [show y + nI mm + (nI (lf - mm) - (itr (s_cart1 D b) d (e + 1) (f3, nI (lf - mm))).2) = y + (nI lf - (itr (s_cart1 D b) d (e + 1) (f3, nI (lf - mm))).2) by rw [← pk_sub hml]; grind]
              exact K1
            · refine G_iconst (v := 0) dL_carts_255 (by decide) ?_
              refine G_goto 263 dL_carts_256 (by decide) ?_
              refine G_istore dL_carts_263 rfl (L' := [some (.ref 11), some (.ref 12), some (.ref 16), some (.int (y + (nI (mm)))), some (.int (nI (b))), some (.int (nI (((lf) - mm)))), some (.int 0), some (.int (nI (e))), some (.int (nI (mm))), some (.int wi), some (.int g)]) rfl ?_
              refine G_iincN (a := e) (s := e + 1) dL_carts_265 rfl (by omega) (L' := [some (.ref 11), some (.ref 12), some (.ref 16), some (.int (y + (nI (mm)))), some (.int (nI (b))), some (.int (nI (((lf) - mm)))), some (.int 0), some (.int (nI (e + 1))), some (.int (nI (mm))), some (.int wi), some (.int g)]) rfl ?_
              refine G_goto 30 dL_carts_268 (by decide) ?_
              refine lq_cart (D := D) hΨ hb ho d (e + 1) (0) (lf - mm) f3 (y + nI mm) _ _ _ (by omega) (by omega) (by omega) (hs.tr (hbr ▸ sA_bring hk5 hb)) (hbr ▸ vt_bring hk5 hb hv ezw (by omega) hmz) ?_
              intro u6 u7 u8 u9 u10
              have K1 := K u6 u7 u8 u9 u10
              rw [itr_s, hst] at K1
              rw [show y + nI mm + (nI (lf - mm) - (itr (s_cart1 D b) d (e + 1) (f3, nI (lf - mm))).2) = y + (nI lf - (itr (s_cart1 D b) d (e + 1) (f3, nI (lf - mm))).2) by rw [← pk_sub hml]; grind]
              exact K1
          · have gz0 : ¬ g = 0 := fun q => absurd (q ▸ Int32.le_refl (0 : Int32)) c218
            obtain ⟨vw, hvw, ewv⟩ : ∃ v, v < 5 ∧ wi = nI v := by
              rcases poor_in f1 with q | ⟨v, q1, q2⟩
              · exact absurd (eg.trans (if_pos (Or.inr q))) gz0
              · exact ⟨v, q1, ewi.trans q2⟩
            rw [ewv]
            refine G_aload_n dL_carts_221 rfl ?_
            refine G_bipush (v := 8) dL_carts_222 (by decide) ?_
            refine G_iload dL_carts_224 rfl ?_
            refine G_imulN (a := 8) (c := vw) (s := 8 * vw) dL_carts_226 (by omega) ?_
            refine G_iconst (v := 2) dL_carts_227 (by decide) ?_
            refine G_iaddN (a := 8 * vw) (c := 2) (s := 2 + 8 * vw) dL_carts_228 (by omega) ?_
            refine G_dup2 dL_carts_229 rfl rfl ?_
            refine G_ialdN (j := 2 + 8 * vw) dL_carts_230 ((hΨ f3).1.2.1) (by omega) ?_
            refine G_eqi (rdH (by omega) (by omega) : _ = f3 (15 + vw)) ?_
            refine G_iload dL_carts_231 rfl ?_
            refine G_iadd dL_carts_233 ?_
            obtain ⟨f4, ef4⟩ : ∃ z : mj_S, z = upd f3 (15 + vw) ((f3 (15 + vw)) + g) := ⟨_, rfl⟩
            refine G_iastN (j := 2 + 8 * vw) dL_carts_234 ((hΨ f3).1.2.1) (by omega) (((hΨ f3).2.2.2.1 _ _ _ (by omega) (by omega)).trans (congrArg Ψ ef4.symm)) ?_
            refine G_aload_n dL_carts_235 rfl ?_
            refine G_bipush (v := 8) dL_carts_236 (by decide) ?_
            refine G_iload dL_carts_238 rfl ?_
            refine G_imulN (a := 8) (c := vw) (s := 8 * vw) dL_carts_240 (by omega) ?_
            refine G_iconst (v := 4) dL_carts_241 (by decide) ?_
            refine G_iaddN (a := 8 * vw) (c := 4) (s := 4 + 8 * vw) dL_carts_242 (by omega) ?_
            refine G_dup2 dL_carts_243 rfl rfl ?_
            refine G_ialdN (j := 4 + 8 * vw) dL_carts_244 ((hΨ f4).1.2.1) (by omega) ?_
            refine G_eqi (rdH (by omega) (by omega) : _ = f4 (25 + vw)) ?_
            refine G_iload dL_carts_245 rfl ?_
            refine G_iadd dL_carts_247 ?_
            obtain ⟨f5, ef5⟩ : ∃ z : mj_S, z = upd f4 (25 + vw) ((f4 (25 + vw)) + g) := ⟨_, rfl⟩
            refine G_iastN (j := 4 + 8 * vw) dL_carts_248 ((hΨ f4).1.2.1) (by omega) (((hΨ f4).2.2.2.1 _ _ _ (by omega) (by omega)).trans (congrArg Ψ ef5.symm)) ?_
            have hbr : s_bring f k b (nI mm) = f5 := bring_gt hk5 hb hvw ho1 ef1 eg gz0 (ewi ▸ ewv) ef2 ef3 ef4 ef5
            have hst : s_cart1 D b e (f, nI lf) = (f5, nI (lf - mm)) := by
              rw [s_cart1]
              dsimp only
              rw [← hk, em, hbr, pk_sub hml]
            refine G_iload dL_carts_249 rfl ?_
            refine G_iconst (v := 4) dL_carts_251 (by decide) ?_
            refine G_icmp_neN (a := k) (c := 4) 259 dL_carts_252 (by decide) (by omega) (fun c252 => ?_) (fun c252 => ?_)
            · refine G_iload dL_carts_259 rfl ?_
              refine G_iconst (v := 1) dL_carts_261 (by decide) ?_
              refine G_iaddN (a := k) (c := 1) (s := k + 1) dL_carts_262 (by omega) ?_
              refine G_istore dL_carts_263 rfl (L' := [some (.ref 11), some (.ref 12), some (.ref 16), some (.int (y + (nI (mm)))), some (.int (nI (b))), some (.int (nI (((lf) - mm)))), some (.int (nI (k + 1))), some (.int (nI (e))), some (.int (nI (mm))), some (.int (nI (vw))), some (.int g)]) rfl ?_
              refine G_iincN (a := e) (s := e + 1) dL_carts_265 rfl (by omega) (L' := [some (.ref 11), some (.ref 12), some (.ref 16), some (.int (y + (nI (mm)))), some (.int (nI (b))), some (.int (nI (((lf) - mm)))), some (.int (nI (k + 1))), some (.int (nI (e + 1))), some (.int (nI (mm))), some (.int (nI (vw))), some (.int g)]) rfl ?_
              refine G_goto 30 dL_carts_268 (by decide) ?_
              refine lq_cart (D := D) hΨ hb ho d (e + 1) (k + 1) (lf - mm) f5 (y + nI mm) _ _ _ (by omega) (by omega) (by omega) (hs.tr (hbr ▸ sA_bring hk5 hb)) (hbr ▸ vt_bring hk5 hb hv ezw (by omega) hmz) ?_
              intro u6 u7 u8 u9 u10
              have K1 := K u6 u7 u8 u9 u10
              rw [itr_s, hst] at K1
              rw [show y + nI mm + (nI (lf - mm) - (itr (s_cart1 D b) d (e + 1) (f5, nI (lf - mm))).2) = y + (nI lf - (itr (s_cart1 D b) d (e + 1) (f5, nI (lf - mm))).2) by rw [← pk_sub hml]; grind]
              exact K1
            · refine G_iconst (v := 0) dL_carts_255 (by decide) ?_
              refine G_goto 263 dL_carts_256 (by decide) ?_
              refine G_istore dL_carts_263 rfl (L' := [some (.ref 11), some (.ref 12), some (.ref 16), some (.int (y + (nI (mm)))), some (.int (nI (b))), some (.int (nI (((lf) - mm)))), some (.int 0), some (.int (nI (e))), some (.int (nI (mm))), some (.int (nI (vw))), some (.int g)]) rfl ?_
              refine G_iincN (a := e) (s := e + 1) dL_carts_265 rfl (by omega) (L' := [some (.ref 11), some (.ref 12), some (.ref 16), some (.int (y + (nI (mm)))), some (.int (nI (b))), some (.int (nI (((lf) - mm)))), some (.int 0), some (.int (nI (e + 1))), some (.int (nI (mm))), some (.int (nI (vw))), some (.int g)]) rfl ?_
              refine G_goto 30 dL_carts_268 (by decide) ?_
              refine lq_cart (D := D) hΨ hb ho d (e + 1) (0) (lf - mm) f5 (y + nI mm) _ _ _ (by omega) (by omega) (by omega) (hs.tr (hbr ▸ sA_bring hk5 hb)) (hbr ▸ vt_bring hk5 hb hv ezw (by omega) hmz) ?_
              intro u6 u7 u8 u9 u10
              have K1 := K u6 u7 u8 u9 u10
              rw [itr_s, hst] at K1
              rw [show y + nI mm + (nI (lf - mm) - (itr (s_cart1 D b) d (e + 1) (f5, nI (lf - mm))).2) = y + (nI lf - (itr (s_cart1 D b) d (e + 1) (f5, nI (lf - mm))).2) by rw [← pk_sub hml]; grind]
              exact K1
        refine G_aload_n dL_carts_155 rfl ?_
        refine G_bipush (v := 8) dL_carts_156 (by decide) ?_
        refine G_iload dL_carts_158 rfl ?_
        refine G_imulN (a := 8) (c := k) (s := 8 * k) dL_carts_160 (by omega) ?_
        refine G_ialdN (j := 8 * k) dL_carts_161 ((hΨ f1).1.2.1) (by omega) ?_
        refine G_eqi (rdH (by omega) (by omega) : _ = f1 (5 + k)) ?_
        refine G_if_ne 182 dL_carts_162 (by decide) (fun c162 => ?_) (fun c162 => ?_)
        · refine G_iconst (v := 0) dL_carts_182 (by decide) ?_
          exact K183 _ (gift_of (Or.inl (h01.resolve_left c162)) rfl)
        · refine G_iload dL_carts_165 rfl ?_
          refine G_if_lt 182 dL_carts_167 (by decide) (fun c167 => ?_) (fun c167 => ?_)
          · refine G_iconst (v := 0) dL_carts_182 (by decide) ?_
            exact K183 _ (gift_of (Or.inr (poor_lt ewi c167)) rfl)
          · refine G_iload dL_carts_170 rfl ?_
            refine G_aload_n dL_carts_172 rfl ?_
            refine G_iconst (v := 3) dL_carts_173 (by decide) ?_
            refine G_ialdN (j := 3) dL_carts_174 ((hΨ f1).1.1) (by omega) ?_
            refine G_eqi (rdQl (by omega) : _ = f1 (3)) ?_
            refine G_imul dL_carts_175 ?_
            refine G_bipush (v := 100) dL_carts_176 (by decide) ?_
            refine G_idiv dL_carts_178 (by decide) ?_
            refine G_goto 183 dL_carts_179 (by decide) ?_
            exact K183 _ (by rw [if_neg (fun q => q.elim (fun z => absurd (c162.symm.trans z) (by decide)) (fun z => c167 (by rw [ewi, z]; exact m1_neg)))])
      refine G_aload_n dL_carts_36 rfl ?_
      refine G_iconst (v := 4) dL_carts_37 (by decide) ?_
      refine G_iload dL_carts_38 rfl ?_
      refine G_imulN (a := 4) (c := k) (s := 4 * k) dL_carts_40 (by omega) ?_
      refine G_iload dL_carts_41 rfl ?_
      refine G_iaddN (a := 4 * k) (c := b) (s := b + 4 * k) dL_carts_43 (by omega) ?_
      refine G_ialdN (j := b + 4 * k) dL_carts_44 ((hΨ f).1.2.2.2.2.2.1) (by omega) ?_
      refine G_eqi (rdB (by omega) (by omega) : _ = f (113 + b + 4 * k)) ?_
      refine G_iload dL_carts_45 rfl ?_
      refine G_icmp_le 55 dL_carts_47 (by decide) (fun c47 => ?_) (fun c47 => ?_)
      · refine G_aload_n dL_carts_55 rfl ?_
        refine G_iconst (v := 4) dL_carts_56 (by decide) ?_
        refine G_iload dL_carts_57 rfl ?_
        refine G_imulN (a := 4) (c := k) (s := 4 * k) dL_carts_59 (by omega) ?_
        refine G_iload dL_carts_60 rfl ?_
        refine G_iaddN (a := 4 * k) (c := b) (s := b + 4 * k) dL_carts_62 (by omega) ?_
        refine G_ialdN (j := b + 4 * k) dL_carts_63 ((hΨ f).1.2.2.2.2.2.1) (by omega) ?_
        refine G_eqi (rdB (by omega) (by omega) : _ = f (113 + b + 4 * k)) ?_
        exact K64 _ (mn_le c47)
      · refine G_iload dL_carts_50 rfl ?_
        refine G_goto 64 dL_carts_52 (by decide) ?_
        exact K64 _ (mn_gt c47)
theorem lq_carts (hΨ : HV Ψ) {D : Nat} (hD : D < 2147483648) {f0 : mj_S} (ho : oA f0 D) {res : mj_S × Int32} : ∀ (d b : Nat) (f : mj_S) (y : Int32) (z5 z6 z7 z8 z9 z10 : Option Value), b + d = 4 → sA f0 f → vt f → res = itr (s_carts1 D) d b (f, y) → GG l cL_carts ML_carts false (.inl (some (.int res.2), Ψ res.1)) 5 [some (.ref 11), some (.ref 12), some (.ref 16), some (.int y), some (.int (nI (b))), z5, z6, z7, z8, z9, z10] [] (Ψ f) 0 0
  | 0, b, f, y, z5, z6, z7, z8, z9, z10, hb, hs, hv, hr => by
    refine G_iload dL_carts_5 rfl ?_
    refine G_iconst (v := 4) dL_carts_7 (by decide) ?_
    refine G_icmp_geN (a := b) (c := 4) 277 dL_carts_8 (by decide) (by omega) (fun c8 => ?_) (fun c8 => ?_)
    · refine G_iload_n dL_carts_277 rfl ?_
      exact G_iret dL_carts_278 ⟨Nat.zero_le _, Nat.zero_le _⟩ (by rw [hr, itr_0])
    · exact (show False by omega).elim
  | d + 1, b, f, y, z5, z6, z7, z8, z9, z10, hb, hs, hv, hr => by
    have ho1 := oA_same hs ho
    obtain ⟨ca, hca, eca⟩ := ho1.2.2.2.2.2.2.1 b (by omega)
    obtain ⟨k0, hk0⟩ : ∃ k0 : Nat, k0 = D % 5 := ⟨_, rfl⟩
    refine G_iload dL_carts_5 rfl ?_
    refine G_iconst (v := 4) dL_carts_7 (by decide) ?_
    refine G_icmp_geN (a := b) (c := 4) 277 dL_carts_8 (by decide) (by omega) (fun c8 => ?_) (fun c8 => ?_)
    · exact (show False by omega).elim
    · refine G_aload_n dL_carts_11 rfl ?_
      refine G_bipush (v := 9) dL_carts_12 (by decide) ?_
      refine G_iload dL_carts_14 rfl ?_
      refine G_iaddN (a := 9) (c := b) (s := 9 + b) dL_carts_16 (by omega) ?_
      refine G_ialdN (j := 9 + b) dL_carts_17 ((hΨ f).1.1) (by omega) ?_
      refine G_eqi (rdQh (by omega) (by omega) : _ = f (49 + b)) ?_
      refine G_eqi eca ?_
      refine G_istore dL_carts_18 rfl (L' := [some (.ref 11), some (.ref 12), some (.ref 16), some (.int y), some (.int (nI (b))), some (.int (nI (ca))), z6, z7, z8, z9, z10]) rfl ?_
      refine G_aload_n dL_carts_20 rfl ?_
      refine G_iconst (v := 0) dL_carts_21 (by decide) ?_
      refine G_ialdN (j := 0) dL_carts_22 ((hΨ f).1.1) (by omega) ?_
      refine G_eqi (rdQl (by omega) : _ = f (0)) ?_
      refine G_eqi ho1.1 ?_
      refine G_iconst (v := 5) dL_carts_23 (by decide) ?_
      refine G_iremN (a := D) (c := 5) (s := ((D) % 5)) dL_carts_24 (by omega) (by omega) ?_
      refine G_eqi (congrArg nI hk0.symm) ?_
      refine G_istore dL_carts_25 rfl (L' := [some (.ref 11), some (.ref 12), some (.ref 16), some (.int y), some (.int (nI (b))), some (.int (nI (ca))), some (.int (nI (k0))), z7, z8, z9, z10]) rfl ?_
      refine G_iconst (v := 0) dL_carts_27 (by decide) ?_
      refine G_istore dL_carts_28 rfl (L' := [some (.ref 11), some (.ref 12), some (.ref 16), some (.int y), some (.int (nI (b))), some (.int (nI (ca))), some (.int (nI (k0))), some (.int 0), z8, z9, z10]) rfl ?_
      obtain ⟨l', q1, q2, q3, q4⟩ := cart_ok (f := f) (D := D) (b := b) (by omega) 5 0 f ca (sA_rf f) hv (by omega)
      refine lq_cart (D := D) hΨ (by omega) ho 5 0 k0 ca f y _ _ _ rfl (by rw [hk0]; rfl) hca hs hv ?_
      intro u6 u7 u8 u9 u10
      refine G_iincN (a := b) (s := b + 1) dL_carts_271 rfl (by omega) (L' := [some (.ref 11), some (.ref 12), some (.ref 16), some (.int (y + (nI ca - (itr (s_cart1 D b) 5 0 (f, nI ca)).2))), some (.int (nI (b + 1))), some (.int (itr (s_cart1 D b) 5 0 (f, nI ca)).2), u6, u7, u8, u9, u10]) rfl ?_
      refine G_goto 5 dL_carts_274 (by decide) ?_
      have e3 : s_cart D b f = itr (s_cart1 D b) 5 0 (f, nI ca) := by rw [s_cart, eca]
      exact lq_carts hΨ hD ho d (b + 1) _ _ _ _ _ _ _ _ (by omega) (hs.tr q2) q3 (by rw [hr, itr_s, s_carts1]; (try dsimp only); rw [e3, eca])
theorem lm_carts (hΨ : HV Ψ) {D : Nat} (hD : D < 2147483648) {f : mj_S} (ho : oA f D) (hv : vt f) : MC l yL_carts wsL_carts rmL_carts false [.ref 11, .ref 12, .ref 16] (Ψ f) (some (.int (s_carts D f).2)) (Ψ (s_carts D f).1) := by
  refine mj_MC (cc := cL_carts) (nl := 11) (ret := (some .int)) (plainFor_of_name (by decide)) rfl (⟨_, rfl, rfl⟩) (Nat.le_of_ble_eq_true rfl) ?_
  show GG l cL_carts ML_carts false (.inl ((some (.int (s_carts D f).2)), Ψ (s_carts D f).1)) 0 [some (.ref 11), some (.ref 12), some (.ref 16), none, none, none, none, none, none, none, none] [] (Ψ f) 0 0
  refine G_iconst (v := 0) dL_carts_0 (by decide) ?_
  refine G_istore_n dL_carts_1 rfl (L' := [some (.ref 11), some (.ref 12), some (.ref 16), some (.int 0), none, none, none, none, none, none, none]) rfl ?_
  refine G_iconst (v := 0) dL_carts_2 (by decide) ?_
  refine G_istore dL_carts_3 rfl (L' := [some (.ref 11), some (.ref 12), some (.ref 16), some (.int 0), some (.int 0), none, none, none, none, none, none]) rfl ?_
  exact lq_carts hΨ hD ho 4 0 f 0 _ _ _ _ _ _ rfl (sA_rf f) hv rfl
end LC0
