/-! WHAT THE LAW TELLS: one number of all that the class shows -/
abbrev rmL_told : Room := { frames := 10, cells := 0, slots := 0, locals := 189 }
abbrev ML_told : mj_M := (RL, 4, wsL_told ++ ctN, rmL_told, false, none)
theorem kL_told_L_count : mj_cwSW ML_told 100 yL_count [(0, 5, 6, 18)] wsL_count r0L_count 2 := ⟨_, _, _, _, fun w h => ⟨List.mem_append_left _ (gL_told_L_count w h).1, (gL_told_L_count w h).2⟩, rfl, by decide +kernel, by decide⟩
theorem kL_told_L_plot : mj_cwSW ML_told 112 yL_plot [(0, 7, 8, 16), (0, 7, 13, 18)] wsL_plot r0L_plot 4 := ⟨_, _, _, _, fun w h => ⟨List.mem_append_left _ (gL_told_L_plot w h).1, (gL_told_L_plot w h).2⟩, rfl, by decide +kernel, by decide⟩
theorem kL_told_L_hearthOf : mj_cwSW ML_told 97 yL_hearthOf [(0, 6, 7, 16), (0, 6, 11, 18)] wsL_hearthOf r0L_hearthOf 3 := ⟨_, _, _, _, fun w h => ⟨List.mem_append_left _ (gL_told_L_hearthOf w h).1, (gL_told_L_hearthOf w h).2⟩, rfl, by decide +kernel, by decide⟩
theorem kL_told_L_cutter : mj_cwSW ML_told 121 yL_cutter [(0, 6, 7, 16), (0, 6, 11, 18)] wsL_cutter r0L_cutter 3 := ⟨_, _, _, _, fun w h => ⟨List.mem_append_left _ (gL_told_L_cutter w h).1, (gL_told_L_cutter w h).2⟩, rfl, by decide +kernel, by decide⟩
theorem kL_told_L_bankOf : mj_cwSW ML_told 110 yL_bankOf [(0, 6, 7, 16), (0, 6, 11, 18)] wsL_bankOf r0L_bankOf 3 := ⟨_, _, _, _, fun w h => ⟨List.mem_append_left _ (gL_told_L_bankOf w h).1, (gL_told_L_bankOf w h).2⟩, rfl, by decide +kernel, by decide⟩
def tg1 (f : mj_S) (k : Nat) (v : Int64) : Int64 := 31 * v + (s_ofA f k).toInt64
def tg2 (f : mj_S) (k : Nat) (v : Int64) : Int64 := 31 * (31 * (31 * (31 * v + (s_ofP f (k / 4) (k % 4) 0).toInt64) + (s_ofP f (k / 4) (k % 4) 1).toInt64) + (s_ofP f (k / 4) (k % 4) 2).toInt64) + (s_ofH f (k / 4) (8 + k % 4)).toInt64
def tg3 (f : mj_S) (k : Nat) (v : Int64) : Int64 := 31 * (31 * v + (f (133 + 6 * (k % 4) + k / 4)).toInt64) + (s_ofB (s_com f) f (k % 4) 1).toInt64 + (s_ofH f (k % 5) (k / 5 % 3)).toInt64
def s_told (f : mj_S) : Int64 := itr (tg3 f) 24 0 (itr (tg2 f) 20 0 (itr (tg1 f) 12 0 131))
section LE
variable {l : Launch}
theorem lq_told1 {X : mj_R} {f : mj_S} {w : mj_W} (hK : LK l f w) : ∀ (d k : Nat) (v : Int64), k + d = 12 → (∀ u3 : Option Value, GG l cL_told ML_told false X 31 [some (.ref 0), some (.long (itr (tg1 f) d k v)), none, u3] [] w 0 0) → GG l cL_told ML_told false X 6 [some (.ref 0), some (.long v), none, some (.int (nI (k)))] [] w 0 0
  | 0, k, v, hk, K => by
    refine G_iload_n dL_told_6 rfl ?_
    refine G_bipush (v := 12) dL_told_7 (by decide) ?_
    refine G_icmp_geN (a := k) (c := 12) 31 dL_told_9 (by decide) (by omega) (fun c9 => ?_) (fun c9 => ?_)
    · exact K _
    · exact (show False by omega).elim
  | d + 1, k, v, hk, K => by
    refine G_iload_n dL_told_6 rfl ?_
    refine G_bipush (v := 12) dL_told_7 (by decide) ?_
    refine G_icmp_geN (a := k) (c := 12) 31 dL_told_9 (by decide) (by omega) (fun c9 => ?_) (fun c9 => ?_)
    · exact (show False by omega).elim
    · refine G_ldc2 (v := 31) dL_told_12 (by decide +kernel) ?_
      refine G_lload_n dL_told_15 rfl ?_
      refine G_lmul dL_told_16 ?_
      refine G_aload_n dL_told_17 rfl ?_
      refine G_iload_n dL_told_18 rfl ?_
      refine G_callSW0 (fun _ h => List.mem_append_right _ h) dL_told_19 kL_told_L_count ⟨rfl, rfl⟩ ⟨Nat.zero_le _, Nat.zero_le _⟩ (hK.2.2.2.2.2.1 (k) (by omega)) rfl rfl rfl ?_
      refine G_i2l dL_told_22 ?_
      refine G_ladd dL_told_23 ?_
      refine G_lstore_n dL_told_24 rfl (L' := [some (.ref 0), some (.long ((31 * v) + ((s_ofA f (k)) : Int32).toInt64)), none, some (.int (nI (k)))]) rfl ?_
      refine G_iincN (a := k) (s := k + 1) dL_told_25 rfl (by omega) (L' := [some (.ref 0), some (.long ((31 * v) + ((s_ofA f (k)) : Int32).toInt64)), none, some (.int (nI (k + 1)))]) rfl ?_
      refine G_goto 6 dL_told_28 (by decide) ?_
      refine lq_told1 hK d (k + 1) _ (by omega) (fun u3 => ?_)
      have K1 := K u3
      rw [itr_s] at K1
      exact K1
theorem lq_told2 {X : mj_R} {f : mj_S} {w : mj_W} (hK : LK l f w) : ∀ (d k : Nat) (v : Int64), k + d = 20 → (∀ u3 : Option Value, GG l cL_told ML_told false X 119 [some (.ref 0), some (.long (itr (tg2 f) d k v)), none, u3] [] w 0 0) → GG l cL_told ML_told false X 33 [some (.ref 0), some (.long v), none, some (.int (nI (k)))] [] w 0 0
  | 0, k, v, hk, K => by
    refine G_iload_n dL_told_33 rfl ?_
    refine G_bipush (v := 20) dL_told_34 (by decide) ?_
    refine G_icmp_geN (a := k) (c := 20) 119 dL_told_36 (by decide) (by omega) (fun c36 => ?_) (fun c36 => ?_)
    · exact K _
    · exact (show False by omega).elim
  | d + 1, k, v, hk, K => by
    refine G_iload_n dL_told_33 rfl ?_
    refine G_bipush (v := 20) dL_told_34 (by decide) ?_
    refine G_icmp_geN (a := k) (c := 20) 119 dL_told_36 (by decide) (by omega) (fun c36 => ?_) (fun c36 => ?_)
    · exact (show False by omega).elim
    · refine G_ldc2 (v := 31) dL_told_39 (by decide +kernel) ?_
      refine G_ldc2 (v := 31) dL_told_42 (by decide +kernel) ?_
      refine G_lload_n dL_told_45 rfl ?_
      refine G_lmul dL_told_46 ?_
      refine G_aload_n dL_told_47 rfl ?_
      refine G_iload_n dL_told_48 rfl ?_
      refine G_iconst (v := 4) dL_told_49 (by decide) ?_
      refine G_idivN (a := k) (c := 4) (s := ((k) / 4)) dL_told_50 (by omega) (by omega) ?_
      refine G_iload_n dL_told_51 rfl ?_
      refine G_iconst (v := 4) dL_told_52 (by decide) ?_
      refine G_iremN (a := k) (c := 4) (s := ((k) % 4)) dL_told_53 (by omega) (by omega) ?_
      refine G_iconst (v := 0) dL_told_54 (by decide) ?_
      refine G_callSW0 (fun _ h => List.mem_append_right _ h) dL_told_55 kL_told_L_plot ⟨rfl, rfl⟩ ⟨Nat.zero_le _, Nat.zero_le _⟩ (hK.2.2.2.1 (((k) / 4)) (((k) % 4)) (0) (by omega) (by omega) (by omega)) rfl rfl rfl ?_
      refine G_i2l dL_told_58 ?_
      refine G_ladd dL_told_59 ?_
      refine G_lmul dL_told_60 ?_
      refine G_aload_n dL_told_61 rfl ?_
      refine G_iload_n dL_told_62 rfl ?_
      refine G_iconst (v := 4) dL_told_63 (by decide) ?_
      refine G_idivN (a := k) (c := 4) (s := ((k) / 4)) dL_told_64 (by omega) (by omega) ?_
      refine G_iload_n dL_told_65 rfl ?_
      refine G_iconst (v := 4) dL_told_66 (by decide) ?_
      refine G_iremN (a := k) (c := 4) (s := ((k) % 4)) dL_told_67 (by omega) (by omega) ?_
      refine G_iconst (v := 1) dL_told_68 (by decide) ?_
      refine G_callSW0 (fun _ h => List.mem_append_right _ h) dL_told_69 kL_told_L_plot ⟨rfl, rfl⟩ ⟨Nat.zero_le _, Nat.zero_le _⟩ (hK.2.2.2.1 (((k) / 4)) (((k) % 4)) (1) (by omega) (by omega) (by omega)) rfl rfl rfl ?_
      refine G_i2l dL_told_72 ?_
      refine G_ladd dL_told_73 ?_
      refine G_lstore_n dL_told_74 rfl (L' := [some (.ref 0), some (.long ((31 * ((31 * v) + ((s_ofP f (((k) / 4)) (((k) % 4)) (0)) : Int32).toInt64)) + ((s_ofP f (((k) / 4)) (((k) % 4)) (1)) : Int32).toInt64)), none, some (.int (nI (k)))]) rfl ?_
      refine G_ldc2 (v := 31) dL_told_75 (by decide +kernel) ?_
      refine G_ldc2 (v := 31) dL_told_78 (by decide +kernel) ?_
      refine G_lload_n dL_told_81 rfl ?_
      refine G_lmul dL_told_82 ?_
      refine G_aload_n dL_told_83 rfl ?_
      refine G_iload_n dL_told_84 rfl ?_
      refine G_iconst (v := 4) dL_told_85 (by decide) ?_
      refine G_idivN (a := k) (c := 4) (s := ((k) / 4)) dL_told_86 (by omega) (by omega) ?_
      refine G_iload_n dL_told_87 rfl ?_
      refine G_iconst (v := 4) dL_told_88 (by decide) ?_
      refine G_iremN (a := k) (c := 4) (s := ((k) % 4)) dL_told_89 (by omega) (by omega) ?_
      refine G_iconst (v := 2) dL_told_90 (by decide) ?_
      refine G_callSW0 (fun _ h => List.mem_append_right _ h) dL_told_91 kL_told_L_plot ⟨rfl, rfl⟩ ⟨Nat.zero_le _, Nat.zero_le _⟩ (hK.2.2.2.1 (((k) / 4)) (((k) % 4)) (2) (by omega) (by omega) (by omega)) rfl rfl rfl ?_
      refine G_i2l dL_told_94 ?_
      refine G_ladd dL_told_95 ?_
      refine G_lmul dL_told_96 ?_
      refine G_aload_n dL_told_97 rfl ?_
      refine G_iload_n dL_told_98 rfl ?_
      refine G_iconst (v := 4) dL_told_99 (by decide) ?_
      refine G_idivN (a := k) (c := 4) (s := ((k) / 4)) dL_told_100 (by omega) (by omega) ?_
      refine G_bipush (v := 8) dL_told_101 (by decide) ?_
      refine G_iload_n dL_told_103 rfl ?_
      refine G_iconst (v := 4) dL_told_104 (by decide) ?_
      refine G_iremN (a := k) (c := 4) (s := ((k) % 4)) dL_told_105 (by omega) (by omega) ?_
      refine G_iaddN (a := 8) (c := ((k) % 4)) (s := 8 + ((k) % 4)) dL_told_106 (by omega) ?_
      refine G_callSW0 (fun _ h => List.mem_append_right _ h) dL_told_107 kL_told_L_hearthOf ⟨rfl, rfl⟩ ⟨Nat.zero_le _, Nat.zero_le _⟩ (hK.2.1 (((k) / 4)) (8 + ((k) % 4)) (by omega) (by omega)) rfl rfl rfl ?_
      refine G_i2l dL_told_110 ?_
      refine G_ladd dL_told_111 ?_
      refine G_lstore_n dL_told_112 rfl (L' := [some (.ref 0), some (.long ((31 * ((31 * ((31 * ((31 * v) + ((s_ofP f (((k) / 4)) (((k) % 4)) (0)) : Int32).toInt64)) + ((s_ofP f (((k) / 4)) (((k) % 4)) (1)) : Int32).toInt64)) + ((s_ofP f (((k) / 4)) (((k) % 4)) (2)) : Int32).toInt64)) + ((s_ofH f (((k) / 4)) (8 + ((k) % 4))) : Int32).toInt64)), none, some (.int (nI (k)))]) rfl ?_
      refine G_iincN (a := k) (s := k + 1) dL_told_113 rfl (by omega) (L' := [some (.ref 0), some (.long ((31 * ((31 * ((31 * ((31 * v) + ((s_ofP f (((k) / 4)) (((k) % 4)) (0)) : Int32).toInt64)) + ((s_ofP f (((k) / 4)) (((k) % 4)) (1)) : Int32).toInt64)) + ((s_ofP f (((k) / 4)) (((k) % 4)) (2)) : Int32).toInt64)) + ((s_ofH f (((k) / 4)) (8 + ((k) % 4))) : Int32).toInt64)), none, some (.int (nI (k + 1)))]) rfl ?_
      refine G_goto 33 dL_told_116 (by decide) ?_
      refine lq_told2 hK d (k + 1) _ (by omega) (fun u3 => ?_)
      have K1 := K u3
      rw [itr_s] at K1
      exact K1
theorem lq_told3 {X : mj_R} {f : mj_S} {w : mj_W} (hK : LK l f w) : ∀ (d k : Nat) (v : Int64), k + d = 24 → (∀ u3 : Option Value, GG l cL_told ML_told false X 179 [some (.ref 0), some (.long (itr (tg3 f) d k v)), none, u3] [] w 0 0) → GG l cL_told ML_told false X 121 [some (.ref 0), some (.long v), none, some (.int (nI (k)))] [] w 0 0
  | 0, k, v, hk, K => by
    refine G_iload_n dL_told_121 rfl ?_
    refine G_bipush (v := 24) dL_told_122 (by decide) ?_
    refine G_icmp_geN (a := k) (c := 24) 179 dL_told_124 (by decide) (by omega) (fun c124 => ?_) (fun c124 => ?_)
    · exact K _
    · exact (show False by omega).elim
  | d + 1, k, v, hk, K => by
    refine G_iload_n dL_told_121 rfl ?_
    refine G_bipush (v := 24) dL_told_122 (by decide) ?_
    refine G_icmp_geN (a := k) (c := 24) 179 dL_told_124 (by decide) (by omega) (fun c124 => ?_) (fun c124 => ?_)
    · exact (show False by omega).elim
    · refine G_ldc2 (v := 31) dL_told_127 (by decide +kernel) ?_
      refine G_ldc2 (v := 31) dL_told_130 (by decide +kernel) ?_
      refine G_lload_n dL_told_133 rfl ?_
      refine G_lmul dL_told_134 ?_
      refine G_aload_n dL_told_135 rfl ?_
      refine G_iload_n dL_told_136 rfl ?_
      refine G_iconst (v := 4) dL_told_137 (by decide) ?_
      refine G_idivN (a := k) (c := 4) (s := ((k) / 4)) dL_told_138 (by omega) (by omega) ?_
      refine G_iload_n dL_told_139 rfl ?_
      refine G_iconst (v := 4) dL_told_140 (by decide) ?_
      refine G_iremN (a := k) (c := 4) (s := ((k) % 4)) dL_told_141 (by omega) (by omega) ?_
      refine G_callSW0 (fun _ h => List.mem_append_right _ h) dL_told_142 kL_told_L_cutter ⟨rfl, rfl⟩ ⟨Nat.zero_le _, Nat.zero_le _⟩ (hK.2.2.2.2.1 (((k) / 4)) (((k) % 4)) (by omega) (by omega)) rfl rfl rfl ?_
      refine G_i2l dL_told_145 ?_
      refine G_ladd dL_told_146 ?_
      refine G_lmul dL_told_147 ?_
      refine G_aload_n dL_told_148 rfl ?_
      refine G_iload_n dL_told_149 rfl ?_
      refine G_iconst (v := 4) dL_told_150 (by decide) ?_
      refine G_iremN (a := k) (c := 4) (s := ((k) % 4)) dL_told_151 (by omega) (by omega) ?_
      refine G_iconst (v := 1) dL_told_152 (by decide) ?_
      refine G_callSW0 (fun _ h => List.mem_append_right _ h) dL_told_153 kL_told_L_bankOf ⟨rfl, rfl⟩ ⟨Nat.zero_le _, Nat.zero_le _⟩ (hK.2.2.1 (((k) % 4)) (1) (by omega) (by omega)) rfl rfl rfl ?_
      refine G_i2l dL_told_156 ?_
      refine G_ladd dL_told_157 ?_
      refine G_aload_n dL_told_158 rfl ?_
      refine G_iload_n dL_told_159 rfl ?_
      refine G_iconst (v := 5) dL_told_160 (by decide) ?_
      refine G_iremN (a := k) (c := 5) (s := ((k) % 5)) dL_told_161 (by omega) (by omega) ?_
      refine G_iload_n dL_told_162 rfl ?_
      refine G_iconst (v := 5) dL_told_163 (by decide) ?_
      refine G_idivN (a := k) (c := 5) (s := ((k) / 5)) dL_told_164 (by omega) (by omega) ?_
      refine G_iconst (v := 3) dL_told_165 (by decide) ?_
      refine G_iremN (a := ((k) / 5)) (c := 3) (s := ((((k) / 5)) % 3)) dL_told_166 (by omega) (by omega) ?_
      refine G_callSW0 (fun _ h => List.mem_append_right _ h) dL_told_167 kL_told_L_hearthOf ⟨rfl, rfl⟩ ⟨Nat.zero_le _, Nat.zero_le _⟩ (hK.2.1 (((k) % 5)) (((((k) / 5)) % 3)) (by omega) (by omega)) rfl rfl rfl ?_
      refine G_i2l dL_told_170 ?_
      refine G_ladd dL_told_171 ?_
      refine G_lstore_n dL_told_172 rfl (L' := [some (.ref 0), some (.long (((31 * ((31 * v) + ((f (133 + 6 * (((k) % 4)) + ((k) / 4))) : Int32).toInt64)) + ((s_ofB (s_com f) f (((k) % 4)) (1)) : Int32).toInt64) + ((s_ofH f (((k) % 5)) (((((k) / 5)) % 3))) : Int32).toInt64)), none, some (.int (nI (k)))]) rfl ?_
      refine G_iincN (a := k) (s := k + 1) dL_told_173 rfl (by omega) (L' := [some (.ref 0), some (.long (((31 * ((31 * v) + ((f (133 + 6 * (((k) % 4)) + ((k) / 4))) : Int32).toInt64)) + ((s_ofB (s_com f) f (((k) % 4)) (1)) : Int32).toInt64) + ((s_ofH f (((k) % 5)) (((((k) / 5)) % 3))) : Int32).toInt64)), none, some (.int (nI (k + 1)))]) rfl ?_
      refine G_goto 121 dL_told_176 (by decide) ?_
      refine lq_told3 hK d (k + 1) _ (by omega) (fun u3 => ?_)
      have K1 := K u3
      rw [itr_s] at K1
      exact K1
theorem lm_told {f : mj_S} {w : mj_W} (hK : LK l f w) : MCE l yL_told wsL_told rmL_told ctN false [.ref 0] (w) (some (.long (s_told f))) (w) := by
  refine mj_MCE (cc := cL_told) (nl := 4) (ret := (some .long)) ctN_vm (plainFor_of_name (by decide)) rfl (rfl) (Nat.le_of_ble_eq_true rfl) ?_
  show GG l cL_told ML_told false (.inl (some (.long (s_told f)), w)) 0 [some (.ref 0), none, none, none] [] (w) 0 0
  refine G_ldc2 (v := 131) dL_told_0 (by decide +kernel) ?_
  refine G_lstore_n dL_told_3 rfl (L' := [some (.ref 0), some (.long 131), none, none]) rfl ?_
  refine G_iconst (v := 0) dL_told_4 (by decide) ?_
  refine G_istore_n dL_told_5 rfl (L' := [some (.ref 0), some (.long 131), none, some (.int 0)]) rfl ?_
  refine lq_told1 hK 12 0 131 rfl (fun u3 => ?_)
  refine G_iconst (v := 0) dL_told_31 (by decide) ?_
  refine G_istore_n dL_told_32 rfl (L' := [some (.ref 0), some (.long (itr (tg1 f) 12 0 131)), none, some (.int 0)]) rfl ?_
  refine lq_told2 hK 20 0 _ rfl (fun u3 => ?_)
  refine G_iconst (v := 0) dL_told_119 (by decide) ?_
  refine G_istore_n dL_told_120 rfl (L' := [some (.ref 0), some (.long (itr (tg2 f) 20 0 (itr (tg1 f) 12 0 131))), none, some (.int 0)]) rfl ?_
  refine lq_told3 hK 24 0 _ rfl (fun u3 => ?_)
  refine G_lload_n dL_told_179 rfl ?_
  exact G_lret dL_told_180 ⟨Nat.zero_le _, Nat.zero_le _⟩ rfl
end LE
