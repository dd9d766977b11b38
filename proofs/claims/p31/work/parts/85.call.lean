/-! A CALL OF THE LAW, and what is due -/
theorem oA_setw {f : mj_S} {D c : Nat} {u v : Int32} (ho : oA f D) (hc : c < 6) (h : (u = -1 ∧ v = -1) ∨ ∃ h b, h < 5 ∧ b < 4 ∧ u = nI h ∧ v = nI b) : oA (s_setw f c u v) D := by
  have q : ∀ k, ¬ (139 ≤ k ∧ k < 151) → s_setw f c u v k = f k := fun k hk => by
    unfold s_setw; rw [upd_n (by omega), upd_n (by omega)]
  obtain ⟨h0, h1, h2, h3, h4, h5, h6, h7, h8⟩ := ho
  refine ⟨by rw [q _ (by omega)]; exact h0, by rw [q _ (by omega)]; exact h1, by rw [q _ (by omega)]; exact h2, by rw [q _ (by omega)]; exact h3, by rw [q _ (by omega)]; exact h4, fun k hk => by rw [q _ (by omega)]; exact h5 k hk, fun k hk => by rw [q _ (by omega)]; exact h6 k hk, fun k hk => by rw [q _ (by omega)]; exact h7 k hk, fun k hk => ?_⟩
  by_cases e : k = c
  · subst e
    unfold s_setw
    rw [upd_n (show 139 + k ≠ 145 + k by omega), upd_s, upd_s]
    exact h
  · unfold s_setw
    rw [upd_n (show 139 + k ≠ 145 + c by omega), upd_n (show 139 + k ≠ 139 + c by omega), upd_n (show 145 + k ≠ 145 + c by omega), upd_n (show 145 + k ≠ 139 + c by omega)]
    exact h8 k hk
theorem vt_setw {f : mj_S} {c : Nat} {u v : Int32} (hc : c < 6) (hv : vt f) : vt (s_setw f c u v) :=
  vt_same (sT_upd (sT_upd (sT_rf f) (by unfold inT; omega)) (by unfold inT; omega)) hv
theorem oA_rests {D : Nat} : ∀ (d c : Nat) (f : mj_S), c + d ≤ 6 → oA f D → vt f → oA (itr (fun c a => s_setw a c (-1) (-1)) d c f) D ∧ vt (itr (fun c a => s_setw a c (-1) (-1)) d c f)
  | 0, c, f, _, ho, hv => ⟨ho, hv⟩
  | d + 1, c, f, hc, ho, hv => oA_rests d (c + 1) _ (by omega) (oA_setw ho (by omega) (Or.inl ⟨rfl, rfl⟩)) (vt_setw (by omega) hv)
theorem turn_ok {f : mj_S} {D : Nat} (ho : oA f D) (hv : vt f) : oA (s_turn f) D ∧ vt (s_turn f) := by
  have h1 : oA (upd f 1 (1 - f 1)) D := by
    obtain ⟨h0, h1, h2, h3, h4, h5, h6, h7, h8⟩ := ho
    refine ⟨by rw [upd_n (by omega)]; exact h0, ?_, by rw [upd_n (by omega)]; exact h2, by rw [upd_n (by omega)]; exact h3, by rw [upd_n (by omega)]; exact h4, fun k hk => by rw [upd_n (by omega)]; exact h5 k hk, fun k hk => by rw [upd_n (by omega)]; exact h6 k hk, fun k hk => by rw [upd_n (by omega)]; exact h7 k hk, fun k hk => by rw [upd_n (by omega), upd_n (by omega)]; exact h8 k hk⟩
    rw [upd_s]
    rcases h1 with e | e
    · rw [e]; exact Or.inr (by decide)
    · rw [e]; exact Or.inl (by decide)
  have h2 : vt (upd f 1 (1 - f 1)) := vt_same (sT_upd (sT_rf f) (by unfold inT; omega)) hv
  unfold s_turn
  split
  · exact oA_rests 6 0 _ (by omega) h1 h2
  · exact ⟨h1, h2⟩
theorem nat_m1 {x : Int32} (h : -1 ≤ x ∧ x ≤ 4) : x = -1 ∨ ∃ v : Nat, v < 5 ∧ x = nI v := by
  by_cases h0 : x < 0
  · exact Or.inl (Int32.le_antisymm (lt_le (by decide) h0) h.1)
  · obtain ⟨j, hj, rfl⟩ := nI_of2 (n := 4) (by decide) h0 h.2
    exact Or.inr ⟨j, by omega, rfl⟩
theorem turn_1 (f : mj_S) : s_turn f 1 = 1 - f 1 := by
  unfold s_turn
  split
  · have h : ∀ d c (a : mj_S), itr (fun c a => s_setw a c (-1) (-1)) d c a 1 = a 1 := by
      intro d
      induction d with
      | zero => intro c a; rfl
      | succ d ih =>
        intro c a
        rw [itr_s, ih, s_setw, upd_n (by omega), upd_n (by omega)]
    rw [h, upd_s]
  · rw [upd_s]
theorem i_addneg (a b : Int32) : a + -b = a - b := by
  apply Int32.toBitVec_inj.1
  simp only [Int32.toBitVec_sub, Int32.toBitVec_add, Int32.toBitVec_neg]
  grind
theorem i_t1 (a b c : Int32) : a + b - (b - c) = a + c := by
  apply Int32.toBitVec_inj.1
  simp only [Int32.toBitVec_sub, Int32.toBitVec_add]
  grind
theorem i_t3 (a b : Int32) : a + b - b = a := by
  apply Int32.toBitVec_inj.1
  simp only [Int32.toBitVec_sub, Int32.toBitVec_add]
  grind
theorem i_t2 (a b c : Int32) : a + b - (b + c) = a - c := by
  apply Int32.toBitVec_inj.1
  simp only [Int32.toBitVec_sub, Int32.toBitVec_add]
  grind
theorem comG {f : mj_S} {c a b : Nat} {x : Int32} (hc : c < 5) (ha : a < 5) (hb : b < 4) : ∀ z, z < 4 → s_com (upd (upd f (53 + b + 4 * c) (f (53 + b + 4 * c) - x)) (53 + b + 4 * a) ((upd f (53 + b + 4 * c) (f (53 + b + 4 * c) - x)) (53 + b + 4 * a) + x)) z = s_com f z := by
  intro z hz
  rw [com_upd ha hb z hz]
  by_cases e : z = b
  · subst e
    rw [if_pos rfl, com_upd hc hb z hz, if_pos rfl, i_t2, i_t1]
    exact i_t3 _ _
  · rw [if_neg e, com_upd hc hb z hz, if_neg e]
def hdA (r rt R : mj_S) (T m : Nat) (R1 : mj_S) (T1 m1 : Nat) (g : mj_S) (n : Nat) : Nat → mj_C
  | 0 => .inr (3, [.ref 1, .ref 3, .ref 5, .ref 7, .ref 9])
  | 1 => .inr (0, [.ref 2])
  | 2 => .inl (.int, (161, .inl r))
  | 3 => .inr (0, [.ref 4])
  | 4 => .inl (.int, (161, .inl rt))
  | 5 => .inr (1, [.ref 6, .int (nI 6), .int (nI T), .int (nI m)])
  | 6 => .inl (.int, (161 * 6, .inl R))
  | 7 => .inr (1, [.ref 8, .int (nI 1), .int (nI T1), .int (nI m1)])
  | 8 => .inl (.int, (161 * 1, .inl R1))
  | 9 => .inr (2, [.ref 10, .int (nI n)])
  | _ => .inl (.char, (60, .inl g))
def LWW (r rt R : mj_S) (T m : Nat) (R1 : mj_S) (T1 m1 : Nat) (g : mj_S) (n : Nat) (f : mj_S) : mj_W := [.inr (3, [.ref 1, .ref 3, .ref 5, .ref 7, .ref 9]), .inr (0, [.ref 2]), .inl (.int, (161, .inl r)), .inr (0, [.ref 4]), .inl (.int, (161, .inl rt)), .inr (1, [.ref 6, .int (nI 6), .int (nI T), .int (nI m)]), .inl (.int, (161 * 6, .inl R)), .inr (1, [.ref 8, .int (nI 1), .int (nI T1), .int (nI m1)]), .inl (.int, (161 * 1, .inl R1)), .inr (2, [.ref 10, .int (nI n)]), .inl (.char, (60, .inl g)), .inl (.int, (13, .inl (aQ f))), .inl (.int, (40, .inl (aH f))), .inl (.int, (20, .inl (aB 53 f))), .inl (.int, (20, .inl (aB 73 f))), .inl (.int, (20, .inl (aB 93 f))), .inl (.int, (20, .inl (aB 113 f))), .inl (.int, (24, .inl (aC f)))]
theorem LWW_lw (r rt R : mj_S) (T m : Nat) (R1 : mj_S) (T1 m1 : Nat) (g : mj_S) (n : Nat) : (fun f => LWW r rt R T m R1 T1 m1 g n f) = lwW (hdA r rt R T m R1 T1 m1 g n) := rfl
theorem hvL (r rt R : mj_S) (T m : Nat) (R1 : mj_S) (T1 m1 : Nat) (g : mj_S) (n : Nat) : HV (fun f => LWW r rt R T m R1 T1 m1 g n f) := by
  rw [LWW_lw]
  exact lwW_HV _
theorem cvL (f : mj_S) : CV 0 1 2 3 4 5 6 7 8 9 10 (fun r rt R T m R1 T1 m1 g n => LWW r rt R T m R1 T1 m1 g n f) := ⟨fun _ _ _ _ _ _ _ _ _ _ => rfl, fun _ _ _ _ _ _ => ⟨⟨by decide, by decide⟩, fun _ _ _ _ => ⟨rfl, rfl, rfl, rfl, fun _ _ => rfl, fun _ => rfl, fun _ => rfl⟩⟩, fun _ _ _ _ _ _ => ⟨⟨by decide, by decide⟩, fun _ _ _ _ => ⟨rfl, rfl, rfl, rfl, fun _ _ => rfl, fun _ => rfl, fun _ => rfl⟩⟩, fun _ _ _ _ _ _ _ _ _ _ => ⟨rfl, rfl, fun _ => rfl⟩, fun _ _ _ _ _ _ _ _ _ _ => ⟨rfl, rfl, fun _ => rfl, fun _ => rfl⟩⟩
/-- the law's world: the class in the state f, its shelf R T m, the law's rows in the state h -/
def SW (f R : mj_S) (T m : Nat) (h : mj_S) : mj_W := LWW (row (s_com f) f) (row (s_com s_f0) s_f0) R T m (fun _ => 0) 0 0 (fun _ => 0) 0 h
theorem hvS (f R : mj_S) (T m : Nat) : HV (fun h => SW f R T m h) := hvL _ _ _ _ _ _ _ _ _ _
theorem lkS {l : Launch} {f : mj_S} {D : Nat} (ho : oA f D) (hv : vt f) (R : mj_S) (T m : Nat) (h : mj_S) : LK l f (SW f R T m h) := lk_of (cvL h) ho hv
section LI0
variable {l : Launch} {w w1 : mj_W} {Ψ : mj_S → mj_W} {t : Int32}
abbrev rmL_call : Room := { frames := 10, cells := 1, slots := 6, locals := 193 }
abbrev ML_call : mj_M := (RL, 6, wsL_call ++ ctN, rmL_call, false, none)
theorem kL_call_L_work : mj_cwSW ML_call 137 yL_work [(0, 7, 8, 16), (0, 7, 13, 31)] wsL_work r0L_work 4 := ⟨_, _, _, _, fun w h => ⟨List.mem_append_left _ (gL_call_L_work w h).1, (gL_call_L_work w h).2⟩, rfl, by decide +kernel, by decide⟩
theorem kL_call_L_pass : mj_cwSW ML_call 139 yL_pass [(0, 5, 6, 18)] wsL_pass r0L_pass 2 := ⟨_, _, _, _, fun w h => ⟨List.mem_append_left _ (gL_call_L_pass w h).1, (gL_call_L_pass w h).2⟩, rfl, by decide +kernel, by decide⟩
theorem kL_call_L_rest : mj_cwSW ML_call 141 yL_rest [(0, 5, 6, 16)] wsL_rest r0L_rest 2 := ⟨_, _, _, _, fun w h => ⟨List.mem_append_left _ (gL_call_L_rest w h).1, (gL_call_L_rest w h).2⟩, rfl, by decide +kernel, by decide⟩
theorem kL_call_L_give : mj_cwSW ML_call 143 yL_give [(0, 9, 10, 16), (0, 9, 15, 18), (0, 9, 20, 31)] wsL_give r0L_give 5 := ⟨_, _, _, _, fun w h => ⟨List.mem_append_left _ (gL_call_L_give w h).1, (gL_call_L_give w h).2⟩, rfl, by decide +kernel, by decide⟩
theorem kL_call_X3_snow : mj_cwV ML_call 146 RX3 yX3_snow wsX3_snow rmX3_snow 0 := ⟨_, _, _, _, fun w h => ⟨List.mem_append_left _ (gL_call_X3_snow w h).1, (gL_call_X3_snow w h).2⟩, rfl, by decide +kernel, by decide⟩
theorem kL_call_L_hearth : mj_cwSW ML_call 149 yL_hearth [(0, 7, 8, 16), (0, 7, 13, 18)] wsL_hearth r0L_hearth 4 := ⟨_, _, _, _, fun w h => ⟨List.mem_append_left _ (gL_call_L_hearth w h).1, (gL_call_L_hearth w h).2⟩, rfl, by decide +kernel, by decide⟩
theorem kL_call_L_track : mj_cwSW ML_call 152 yL_track [(0, 6, 7, 16), (0, 6, 11, 18)] wsL_track r0L_track 3 := ⟨_, _, _, _, fun w h => ⟨List.mem_append_left _ (gL_call_L_track w h).1, (gL_call_L_track w h).2⟩, rfl, by decide +kernel, by decide⟩
theorem kL_call_L_strength : mj_cwSW ML_call 154 yL_strength [(0, 6, 7, 16), (0, 6, 11, 18)] wsL_strength r0L_strength 3 := ⟨_, _, _, _, fun w h => ⟨List.mem_append_left _ (gL_call_L_strength w h).1, (gL_call_L_strength w h).2⟩, rfl, by decide +kernel, by decide⟩
theorem kL_call_L_set : mj_cwSW ML_call 156 yL_set [(0, 6, 7, 16), (0, 6, 11, 18)] wsL_set r0L_set 3 := ⟨_, _, _, _, fun w h => ⟨List.mem_append_left _ (gL_call_L_set w h).1, (gL_call_L_set w h).2⟩, rfl, by decide +kernel, by decide⟩
theorem kT_call_L_work : mj_cwSW ML_call 137 yL_work [(0, 7, 8, 16), (0, 7, 13, 31)] wsL_work rmL_work 4 := ⟨_, _, _, _, fun w h => ⟨List.mem_append_left _ (gL_call_L_work w h).1, (gL_call_L_work w h).2⟩, rfl, by decide +kernel, by decide⟩
theorem kT_call_L_give : mj_cwSW ML_call 143 yL_give [(0, 9, 10, 16), (0, 9, 15, 18), (0, 9, 20, 31)] wsL_give rmL_give 5 := ⟨_, _, _, _, fun w h => ⟨List.mem_append_left _ (gL_call_L_give w h).1, (gL_call_L_give w h).2⟩, rfl, by decide +kernel, by decide⟩
theorem lm_call_work {a b e z : Int32} (hM : MCE l yL_work wsL_work r0L_work ctN false [.ref 0, .int a, .int b, .int e] w (some (.int t)) w1) : MCE l yL_call wsL_call rmL_call ctN false [.ref 0, .int 0, .int a, .int b, .int e, .int z] (w) (some (.int t)) (w1) := by
  refine mj_MCE (cc := cL_call) (nl := 6) (ret := (some .int)) ctN_vm (plainFor_of_name (by decide)) rfl (⟨_, rfl, rfl⟩) (Nat.le_of_ble_eq_true rfl) ?_
  show GG l cL_call ML_call false (.inl (some (.int t), w1)) 0 [some (.ref 0), some (.int 0), some (.int a), some (.int b), some (.int e), some (.int z)] [] (w) 0 0
  refine G_iload_n dL_call_0 rfl ?_
  refine G_tabIn (off := 47) 48 dL_call_1 (by decide) (by decide) (by decide) (by decide) ?_
  refine G_aload_n dL_call_48 rfl ?_
  refine G_iload_n dL_call_49 rfl ?_
  refine G_iload_n dL_call_50 rfl ?_
  refine G_iload dL_call_51 rfl ?_
  refine G_callSW0 (fun _ h => List.mem_append_right _ h) dL_call_53 kL_call_L_work ⟨rfl, rfl⟩ ⟨Nat.zero_le _, Nat.zero_le _⟩ (hM) rfl rfl rfl ?_
  exact G_iret dL_call_56 ⟨Nat.zero_le _, Nat.zero_le _⟩ (rfl)
theorem lm_call_workx {a b e z : Int32} (hM : MCE l yL_work wsL_work rmL_work ctN false [.ref 0, .int a, .int b, .int e] w (some (.int t)) w1) : MCE l yL_call wsL_call rmL_call ctN false [.ref 0, .int 0, .int a, .int b, .int e, .int z] (w) (some (.int t)) (w1) := by
  refine mj_MCE (cc := cL_call) (nl := 6) (ret := (some .int)) ctN_vm (plainFor_of_name (by decide)) rfl (⟨_, rfl, rfl⟩) (Nat.le_of_ble_eq_true rfl) ?_
  show GG l cL_call ML_call false (.inl (some (.int t), w1)) 0 [some (.ref 0), some (.int 0), some (.int a), some (.int b), some (.int e), some (.int z)] [] (w) 0 0
  refine G_iload_n dL_call_0 rfl ?_
  refine G_tabIn (off := 47) 48 dL_call_1 (by decide) (by decide) (by decide) (by decide) ?_
  refine G_aload_n dL_call_48 rfl ?_
  refine G_iload_n dL_call_49 rfl ?_
  refine G_iload_n dL_call_50 rfl ?_
  refine G_iload dL_call_51 rfl ?_
  refine G_callSW (fun _ h => List.mem_append_right _ h) dL_call_53 kT_call_L_work ⟨Nat.le_refl _, Nat.le_refl _⟩ (hM) rfl rfl rfl ?_
  exact G_iret dL_call_56 ⟨Nat.le_refl _, Nat.le_refl _⟩ (rfl)
theorem lm_call_pass {a b e z : Int32} (hM : MCE l yL_pass wsL_pass r0L_pass ctN false [.ref 0, .int a] w (some (.int t)) w1) : MCE l yL_call wsL_call rmL_call ctN false [.ref 0, .int 1, .int a, .int b, .int e, .int z] (w) (some (.int t)) (w1) := by
  refine mj_MCE (cc := cL_call) (nl := 6) (ret := (some .int)) ctN_vm (plainFor_of_name (by decide)) rfl (⟨_, rfl, rfl⟩) (Nat.le_of_ble_eq_true rfl) ?_
  show GG l cL_call ML_call false (.inl (some (.int t), w1)) 0 [some (.ref 0), some (.int 1), some (.int a), some (.int b), some (.int e), some (.int z)] [] (w) 0 0
  refine G_iload_n dL_call_0 rfl ?_
  refine G_tabIn (off := 56) 57 dL_call_1 (by decide) (by decide) (by decide) (by decide) ?_
  refine G_aload_n dL_call_57 rfl ?_
  refine G_iload_n dL_call_58 rfl ?_
  refine G_callSW0 (fun _ h => List.mem_append_right _ h) dL_call_59 kL_call_L_pass ⟨rfl, rfl⟩ ⟨Nat.zero_le _, Nat.zero_le _⟩ (hM) rfl rfl rfl ?_
  exact G_iret dL_call_62 ⟨Nat.zero_le _, Nat.zero_le _⟩ (rfl)
theorem lm_call_rest {a b e z : Int32} (hM : MCE l yL_rest wsL_rest r0L_rest ctN false [.ref 0, .int a] w (some (.int t)) w1) : MCE l yL_call wsL_call rmL_call ctN false [.ref 0, .int 2, .int a, .int b, .int e, .int z] (w) (some (.int t)) (w1) := by
  refine mj_MCE (cc := cL_call) (nl := 6) (ret := (some .int)) ctN_vm (plainFor_of_name (by decide)) rfl (⟨_, rfl, rfl⟩) (Nat.le_of_ble_eq_true rfl) ?_
  show GG l cL_call ML_call false (.inl (some (.int t), w1)) 0 [some (.ref 0), some (.int 2), some (.int a), some (.int b), some (.int e), some (.int z)] [] (w) 0 0
  refine G_iload_n dL_call_0 rfl ?_
  refine G_tabIn (off := 62) 63 dL_call_1 (by decide) (by decide) (by decide) (by decide) ?_
  refine G_aload_n dL_call_63 rfl ?_
  refine G_iload_n dL_call_64 rfl ?_
  refine G_callSW0 (fun _ h => List.mem_append_right _ h) dL_call_65 kL_call_L_rest ⟨rfl, rfl⟩ ⟨Nat.zero_le _, Nat.zero_le _⟩ (hM) rfl rfl rfl ?_
  exact G_iret dL_call_68 ⟨Nat.zero_le _, Nat.zero_le _⟩ (rfl)
theorem lm_call_give {a b e z : Int32} (hM : MCE l yL_give wsL_give r0L_give ctN false [.ref 0, .int a, .int b, .int e, .int z] w (some (.int t)) w1) : MCE l yL_call wsL_call rmL_call ctN false [.ref 0, .int 3, .int a, .int b, .int e, .int z] (w) (some (.int t)) (w1) := by
  refine mj_MCE (cc := cL_call) (nl := 6) (ret := (some .int)) ctN_vm (plainFor_of_name (by decide)) rfl (⟨_, rfl, rfl⟩) (Nat.le_of_ble_eq_true rfl) ?_
  show GG l cL_call ML_call false (.inl (some (.int t), w1)) 0 [some (.ref 0), some (.int 3), some (.int a), some (.int b), some (.int e), some (.int z)] [] (w) 0 0
  refine G_iload_n dL_call_0 rfl ?_
  refine G_tabIn (off := 68) 69 dL_call_1 (by decide) (by decide) (by decide) (by decide) ?_
  refine G_aload_n dL_call_69 rfl ?_
  refine G_iload_n dL_call_70 rfl ?_
  refine G_iload_n dL_call_71 rfl ?_
  refine G_iload dL_call_72 rfl ?_
  refine G_iload dL_call_74 rfl ?_
  refine G_callSW0 (fun _ h => List.mem_append_right _ h) dL_call_76 kL_call_L_give ⟨rfl, rfl⟩ ⟨Nat.zero_le _, Nat.zero_le _⟩ (hM) rfl rfl rfl ?_
  exact G_iret dL_call_79 ⟨Nat.zero_le _, Nat.zero_le _⟩ (rfl)
theorem lm_call_givex {a b e z : Int32} (hM : MCE l yL_give wsL_give rmL_give ctN false [.ref 0, .int a, .int b, .int e, .int z] w (some (.int t)) w1) : MCE l yL_call wsL_call rmL_call ctN false [.ref 0, .int 3, .int a, .int b, .int e, .int z] (w) (some (.int t)) (w1) := by
  refine mj_MCE (cc := cL_call) (nl := 6) (ret := (some .int)) ctN_vm (plainFor_of_name (by decide)) rfl (⟨_, rfl, rfl⟩) (Nat.le_of_ble_eq_true rfl) ?_
  show GG l cL_call ML_call false (.inl (some (.int t), w1)) 0 [some (.ref 0), some (.int 3), some (.int a), some (.int b), some (.int e), some (.int z)] [] (w) 0 0
  refine G_iload_n dL_call_0 rfl ?_
  refine G_tabIn (off := 68) 69 dL_call_1 (by decide) (by decide) (by decide) (by decide) ?_
  refine G_aload_n dL_call_69 rfl ?_
  refine G_iload_n dL_call_70 rfl ?_
  refine G_iload_n dL_call_71 rfl ?_
  refine G_iload dL_call_72 rfl ?_
  refine G_iload dL_call_74 rfl ?_
  refine G_callSW (fun _ h => List.mem_append_right _ h) dL_call_76 kT_call_L_give ⟨Nat.le_refl _, Nat.le_refl _⟩ (hM) rfl rfl rfl ?_
  exact G_iret dL_call_79 ⟨Nat.le_refl _, Nat.le_refl _⟩ (rfl)
theorem lm_call_snow {a b e z : Int32} (hM : MC l yX3_snow wsX3_snow rmX3_snow false [.ref 0] w (some (.int t)) w1) {fs : List Value} (hx : w[0]? = some (.inr (3, fs))) : MCE l yL_call wsL_call rmL_call ctN false [.ref 0, .int 4, .int a, .int b, .int e, .int z] (w) (some (.int t)) (w1) := by
  refine mj_MCE (cc := cL_call) (nl := 6) (ret := (some .int)) ctN_vm (plainFor_of_name (by decide)) rfl (⟨_, rfl, rfl⟩) (Nat.le_of_ble_eq_true rfl) ?_
  show GG l cL_call ML_call false (.inl (some (.int t), w1)) 0 [some (.ref 0), some (.int 4), some (.int a), some (.int b), some (.int e), some (.int z)] [] (w) 0 0
  refine G_iload_n dL_call_0 rfl ?_
  refine G_tabIn (off := 79) 80 dL_call_1 (by decide) (by decide) (by decide) (by decide) ?_
  refine G_aload_n dL_call_80 rfl ?_
  refine G_callVi dL_call_81 kL_call_X3_snow ⟨rfl, rfl⟩ ⟨Nat.zero_le _, Nat.zero_le _⟩ (hM) rfl rfl (hx) rfl rfl ?_
  exact G_iret dL_call_84 ⟨Nat.zero_le _, Nat.zero_le _⟩ (rfl)
theorem lm_call_hearth0 {a e z : Int32} (hM : MCE l yL_hearth wsL_hearth r0L_hearth ctN false [.ref 0, .int a, .int 0, .int e] w (some (.int t)) w1) : MCE l yL_call wsL_call rmL_call ctN false [.ref 0, .int 5, .int a, .int 0, .int e, .int z] (w) (some (.int t)) (w1) := by
  refine mj_MCE (cc := cL_call) (nl := 6) (ret := (some .int)) ctN_vm (plainFor_of_name (by decide)) rfl (⟨_, rfl, rfl⟩) (Nat.le_of_ble_eq_true rfl) ?_
  show GG l cL_call ML_call false (.inl (some (.int t), w1)) 0 [some (.ref 0), some (.int 5), some (.int a), some (.int 0), some (.int e), some (.int z)] [] (w) 0 0
  refine G_iload_n dL_call_0 rfl ?_
  refine G_tabIn (off := 84) 85 dL_call_1 (by decide) (by decide) (by decide) (by decide) ?_
  refine G_aload_n dL_call_85 rfl ?_
  refine G_iload_n dL_call_86 rfl ?_
  refine G_iload_n dL_call_87 rfl ?_
  refine G_iconst (v := 1) dL_call_88 (by decide) ?_
  refine G_icmp_neN (a := 0) (c := 1) 96 dL_call_89 (by decide) (by omega) (fun _ => ?_) (fun c89 => (show False by omega).elim)
  refine G_iconst (v := 0) dL_call_96 (by decide) ?_
  refine G_iload dL_call_97 rfl ?_
  refine G_callSW0 (fun _ h => List.mem_append_right _ h) dL_call_99 kL_call_L_hearth ⟨rfl, rfl⟩ ⟨Nat.zero_le _, Nat.zero_le _⟩ (hM) rfl rfl rfl ?_
  exact G_iret dL_call_102 ⟨Nat.zero_le _, Nat.zero_le _⟩ (rfl)
theorem lm_call_hearth1 {a e z : Int32} (hM : MCE l yL_hearth wsL_hearth r0L_hearth ctN false [.ref 0, .int a, .int 1, .int e] w (some (.int t)) w1) : MCE l yL_call wsL_call rmL_call ctN false [.ref 0, .int 5, .int a, .int 1, .int e, .int z] (w) (some (.int t)) (w1) := by
  refine mj_MCE (cc := cL_call) (nl := 6) (ret := (some .int)) ctN_vm (plainFor_of_name (by decide)) rfl (⟨_, rfl, rfl⟩) (Nat.le_of_ble_eq_true rfl) ?_
  show GG l cL_call ML_call false (.inl (some (.int t), w1)) 0 [some (.ref 0), some (.int 5), some (.int a), some (.int 1), some (.int e), some (.int z)] [] (w) 0 0
  refine G_iload_n dL_call_0 rfl ?_
  refine G_tabIn (off := 84) 85 dL_call_1 (by decide) (by decide) (by decide) (by decide) ?_
  refine G_aload_n dL_call_85 rfl ?_
  refine G_iload_n dL_call_86 rfl ?_
  refine G_iload_n dL_call_87 rfl ?_
  refine G_iconst (v := 1) dL_call_88 (by decide) ?_
  refine G_icmp_neN (a := 1) (c := 1) 96 dL_call_89 (by decide) (by omega) (fun c89 => (show False by omega).elim) (fun _ => ?_)
  refine G_iconst (v := 1) dL_call_92 (by decide) ?_
  refine G_goto 97 dL_call_93 (by decide) ?_
  refine G_iload dL_call_97 rfl ?_
  refine G_callSW0 (fun _ h => List.mem_append_right _ h) dL_call_99 kL_call_L_hearth ⟨rfl, rfl⟩ ⟨Nat.zero_le _, Nat.zero_le _⟩ (hM) rfl rfl rfl ?_
  exact G_iret dL_call_102 ⟨Nat.zero_le _, Nat.zero_le _⟩ (rfl)
theorem lm_call_track {a b e z : Int32} (hM : MCE l yL_track wsL_track r0L_track ctN false [.ref 0, .int a, .int b] w (some (.int t)) w1) : MCE l yL_call wsL_call rmL_call ctN false [.ref 0, .int 6, .int a, .int b, .int e, .int z] (w) (some (.int t)) (w1) := by
  refine mj_MCE (cc := cL_call) (nl := 6) (ret := (some .int)) ctN_vm (plainFor_of_name (by decide)) rfl (⟨_, rfl, rfl⟩) (Nat.le_of_ble_eq_true rfl) ?_
  show GG l cL_call ML_call false (.inl (some (.int t), w1)) 0 [some (.ref 0), some (.int 6), some (.int a), some (.int b), some (.int e), some (.int z)] [] (w) 0 0
  refine G_iload_n dL_call_0 rfl ?_
  refine G_tabIn (off := 102) 103 dL_call_1 (by decide) (by decide) (by decide) (by decide) ?_
  refine G_aload_n dL_call_103 rfl ?_
  refine G_iload_n dL_call_104 rfl ?_
  refine G_iload_n dL_call_105 rfl ?_
  refine G_callSW0 (fun _ h => List.mem_append_right _ h) dL_call_106 kL_call_L_track ⟨rfl, rfl⟩ ⟨Nat.zero_le _, Nat.zero_le _⟩ (hM) rfl rfl rfl ?_
  exact G_iret dL_call_109 ⟨Nat.zero_le _, Nat.zero_le _⟩ (rfl)
theorem lm_call_strength {a b e z : Int32} (hM : MCE l yL_strength wsL_strength r0L_strength ctN false [.ref 0, .int a, .int b] w (some (.int t)) w1) : MCE l yL_call wsL_call rmL_call ctN false [.ref 0, .int 7, .int a, .int b, .int e, .int z] (w) (some (.int t)) (w1) := by
  refine mj_MCE (cc := cL_call) (nl := 6) (ret := (some .int)) ctN_vm (plainFor_of_name (by decide)) rfl (⟨_, rfl, rfl⟩) (Nat.le_of_ble_eq_true rfl) ?_
  show GG l cL_call ML_call false (.inl (some (.int t), w1)) 0 [some (.ref 0), some (.int 7), some (.int a), some (.int b), some (.int e), some (.int z)] [] (w) 0 0
  refine G_iload_n dL_call_0 rfl ?_
  refine G_tabIn (off := 109) 110 dL_call_1 (by decide) (by decide) (by decide) (by decide) ?_
  refine G_aload_n dL_call_110 rfl ?_
  refine G_iload_n dL_call_111 rfl ?_
  refine G_iload_n dL_call_112 rfl ?_
  refine G_callSW0 (fun _ h => List.mem_append_right _ h) dL_call_113 kL_call_L_strength ⟨rfl, rfl⟩ ⟨Nat.zero_le _, Nat.zero_le _⟩ (hM) rfl rfl rfl ?_
  exact G_iret dL_call_116 ⟨Nat.zero_le _, Nat.zero_le _⟩ (rfl)
theorem lm_call_set {a b e z : Int32} (hM : MCE l yL_set wsL_set r0L_set ctN false [.ref 0, .int a, .int b] w (some (.int t)) w1) : MCE l yL_call wsL_call rmL_call ctN false [.ref 0, .int 8, .int a, .int b, .int e, .int z] (w) (some (.int t)) (w1) := by
  refine mj_MCE (cc := cL_call) (nl := 6) (ret := (some .int)) ctN_vm (plainFor_of_name (by decide)) rfl (⟨_, rfl, rfl⟩) (Nat.le_of_ble_eq_true rfl) ?_
  show GG l cL_call ML_call false (.inl (some (.int t), w1)) 0 [some (.ref 0), some (.int 8), some (.int a), some (.int b), some (.int e), some (.int z)] [] (w) 0 0
  refine G_iload_n dL_call_0 rfl ?_
  refine G_tabOut 117 dL_call_1 (by decide) (by decide) ?_
  refine G_aload_n dL_call_117 rfl ?_
  refine G_iload_n dL_call_118 rfl ?_
  refine G_iload_n dL_call_119 rfl ?_
  refine G_callSW0 (fun _ h => List.mem_append_right _ h) dL_call_120 kL_call_L_set ⟨rfl, rfl⟩ ⟨Nat.zero_le _, Nat.zero_le _⟩ (hM) rfl rfl rfl ?_
  exact G_iret dL_call_123 ⟨Nat.zero_le _, Nat.zero_le _⟩ (rfl)
theorem lm_due_workx (hΨ : HV Ψ) {f : mj_S} {a b e z : Nat} (ha : a < 6) (hb : b < 5) (he : e < 4) (hr : ¬ s_why f b e = 0) : MC l yL_due wsL_due rmL_due false [.int 0, .int (nI (a)), .int (nI (b)), .int (nI (e)), .int (nI (z)), .ref 11, .ref 12, .ref 13, .ref 14, .ref 15, .ref 16, .ref 17] (Ψ f) (some (.int (-103))) (Ψ f) := by
  refine mj_MC (cc := cL_due) (nl := 14) (ret := (some .int)) (plainFor_of_name (by decide)) rfl (⟨_, rfl, rfl⟩) (Nat.le_of_ble_eq_true rfl) ?_
  show GG l cL_due ML_due false (.inl ((some (.int (-103))), Ψ f)) 0 [some (.int 0), some (.int (nI (a))), some (.int (nI (b))), some (.int (nI (e))), some (.int (nI (z))), some (.ref 11), some (.ref 12), some (.ref 13), some (.ref 14), some (.ref 15), some (.ref 16), some (.ref 17), none, none] [] (Ψ f) 0 0
  refine G_iload_n dL_due_0 rfl ?_
  refine G_iconst (v := 5) dL_due_1 (by decide) ?_
  refine G_icmp_neN (a := 0) (c := 5) 17 dL_due_2 (by decide) (by omega) (fun _ => ?_) (fun c2 => (show False by omega).elim)
  refine G_iload_n dL_due_17 rfl ?_
  refine G_bipush (v := 6) dL_due_18 (by decide) ?_
  refine G_icmp_neN (a := 0) (c := 6) 33 dL_due_20 (by decide) (by omega) (fun _ => ?_) (fun c20 => (show False by omega).elim)
  refine G_iload_n dL_due_33 rfl ?_
  refine G_bipush (v := 7) dL_due_34 (by decide) ?_
  refine G_icmp_neN (a := 0) (c := 7) 48 dL_due_36 (by decide) (by omega) (fun _ => ?_) (fun c36 => (show False by omega).elim)
  refine G_iload_n dL_due_48 rfl ?_
  refine G_bipush (v := 8) dL_due_49 (by decide) ?_
  refine G_icmp_neN (a := 0) (c := 8) 63 dL_due_51 (by decide) (by omega) (fun _ => ?_) (fun c51 => (show False by omega).elim)
  refine G_iconst (v := 0) dL_due_63 (by decide) ?_
  refine G_istore dL_due_64 rfl (L' := [some (.int 0), some (.int (nI (a))), some (.int (nI (b))), some (.int (nI (e))), some (.int (nI (z))), some (.ref 11), some (.ref 12), some (.ref 13), some (.ref 14), some (.ref 15), some (.ref 16), some (.ref 17), some (.int 0), none]) rfl ?_
  refine G_iload_n dL_due_66 rfl ?_
  refine G_tabIn (off := 45) 112 dL_due_67 (by decide) (by decide) (by decide) (by decide) ?_
  refine G_iload_n dL_due_112 rfl ?_
  refine G_iload_n dL_due_113 rfl ?_
  refine G_aload dL_due_114 rfl ?_
  refine G_aload dL_due_116 rfl ?_
  refine G_aload dL_due_118 rfl ?_
  refine G_callSi dL_due_120 kL_due_L_why ⟨rfl, rfl⟩ ⟨Nat.zero_le _, Nat.zero_le _⟩ (lm_why hΨ (h := b) (b := e) ⟨by omega, by omega⟩ (wk_cnt (by omega) (by omega))) rfl rfl rfl ?_
  refine G_if_eq 129 dL_due_123 (by decide) (fun q => absurd q hr) (fun _ => ?_)
  refine G_bipush (v := (-103)) dL_due_126 (by decide) ?_
  exact G_iret dL_due_128 ⟨Nat.zero_le _, Nat.zero_le _⟩ (rfl)
theorem lm_due_work (hΨ : HV Ψ) {f : mj_S} {a b e z : Nat} (ha : a < 6) (hb : b < 5) (he : e < 4) (hr : s_why f b e = 0) : MC l yL_due wsL_due rmL_due false [.int 0, .int (nI (a)), .int (nI (b)), .int (nI (e)), .int (nI (z)), .ref 11, .ref 12, .ref 13, .ref 14, .ref 15, .ref 16, .ref 17] (Ψ f) (some (.int (s_cnt (s_setw f a (nI b) (nI e)) (nI b) (nI e)))) (Ψ (s_setw f a (nI b) (nI e))) := by
  refine mj_MC (cc := cL_due) (nl := 14) (ret := (some .int)) (plainFor_of_name (by decide)) rfl (⟨_, rfl, rfl⟩) (Nat.le_of_ble_eq_true rfl) ?_
  show GG l cL_due ML_due false (.inl ((some (.int (s_cnt (s_setw f a (nI b) (nI e)) (nI b) (nI e)))), Ψ (s_setw f a (nI b) (nI e)))) 0 [some (.int 0), some (.int (nI (a))), some (.int (nI (b))), some (.int (nI (e))), some (.int (nI (z))), some (.ref 11), some (.ref 12), some (.ref 13), some (.ref 14), some (.ref 15), some (.ref 16), some (.ref 17), none, none] [] (Ψ f) 0 0
  refine G_iload_n dL_due_0 rfl ?_
  refine G_iconst (v := 5) dL_due_1 (by decide) ?_
  refine G_icmp_neN (a := 0) (c := 5) 17 dL_due_2 (by decide) (by omega) (fun _ => ?_) (fun c2 => (show False by omega).elim)
  refine G_iload_n dL_due_17 rfl ?_
  refine G_bipush (v := 6) dL_due_18 (by decide) ?_
  refine G_icmp_neN (a := 0) (c := 6) 33 dL_due_20 (by decide) (by omega) (fun _ => ?_) (fun c20 => (show False by omega).elim)
  refine G_iload_n dL_due_33 rfl ?_
  refine G_bipush (v := 7) dL_due_34 (by decide) ?_
  refine G_icmp_neN (a := 0) (c := 7) 48 dL_due_36 (by decide) (by omega) (fun _ => ?_) (fun c36 => (show False by omega).elim)
  refine G_iload_n dL_due_48 rfl ?_
  refine G_bipush (v := 8) dL_due_49 (by decide) ?_
  refine G_icmp_neN (a := 0) (c := 8) 63 dL_due_51 (by decide) (by omega) (fun _ => ?_) (fun c51 => (show False by omega).elim)
  refine G_iconst (v := 0) dL_due_63 (by decide) ?_
  refine G_istore dL_due_64 rfl (L' := [some (.int 0), some (.int (nI (a))), some (.int (nI (b))), some (.int (nI (e))), some (.int (nI (z))), some (.ref 11), some (.ref 12), some (.ref 13), some (.ref 14), some (.ref 15), some (.ref 16), some (.ref 17), some (.int 0), none]) rfl ?_
  refine G_iload_n dL_due_66 rfl ?_
  refine G_tabIn (off := 45) 112 dL_due_67 (by decide) (by decide) (by decide) (by decide) ?_
  refine G_iload_n dL_due_112 rfl ?_
  refine G_iload_n dL_due_113 rfl ?_
  refine G_aload dL_due_114 rfl ?_
  refine G_aload dL_due_116 rfl ?_
  refine G_aload dL_due_118 rfl ?_
  refine G_callSi dL_due_120 kL_due_L_why ⟨rfl, rfl⟩ ⟨Nat.zero_le _, Nat.zero_le _⟩ (lm_why hΨ (h := b) (b := e) ⟨by omega, by omega⟩ (wk_cnt (by omega) (by omega))) rfl rfl rfl ?_
  refine G_if_eq 129 dL_due_123 (by decide) (fun _ => ?_) (fun q => absurd hr q)
  refine G_aload dL_due_129 rfl ?_
  refine G_iconst (v := 4) dL_due_131 (by decide) ?_
  refine G_iload_n dL_due_132 rfl ?_
  refine G_imulN (a := 4) (c := a) (s := 4 * a) dL_due_133 (by omega) ?_
  refine G_iconst (v := 1) dL_due_134 (by decide) ?_
  refine G_iaddN (a := 4 * a) (c := 1) (s := 4 * a + 1) dL_due_135 (by omega) ?_
  refine G_iload_n dL_due_136 rfl ?_
  obtain ⟨f1, ef1⟩ : ∃ zz : mj_S, zz = upd f (139 + a) (nI (b)) := ⟨_, rfl⟩
  refine G_iastN (j := 4 * a + 1) dL_due_137 ((hΨ f).1.2.2.2.2.2.2) (by omega) (((hΨ f).2.2.2.2.2.2.2.2 _ _ _ (by omega) (by omega)).trans (congrArg Ψ ef1.symm)) ?_
  refine G_aload dL_due_138 rfl ?_
  refine G_iconst (v := 4) dL_due_140 (by decide) ?_
  refine G_iload_n dL_due_141 rfl ?_
  refine G_imulN (a := 4) (c := a) (s := 4 * a) dL_due_142 (by omega) ?_
  refine G_iconst (v := 2) dL_due_143 (by decide) ?_
  refine G_iaddN (a := 4 * a) (c := 2) (s := 2 + 4 * a) dL_due_144 (by omega) ?_
  refine G_iload_n dL_due_145 rfl ?_
  obtain ⟨f2, ef2⟩ : ∃ zz : mj_S, zz = upd f1 (145 + a) (nI (e)) := ⟨_, rfl⟩
  refine G_iastN (j := 2 + 4 * a) dL_due_146 ((hΨ f1).1.2.2.2.2.2.2) (by omega) (((hΨ f1).2.2.2.2.2.2.2.2 _ _ _ (by omega) (by omega)).trans (congrArg Ψ ef2.symm)) ?_
  refine G_iload_n dL_due_147 rfl ?_
  refine G_iload_n dL_due_148 rfl ?_
  refine G_aload dL_due_149 rfl ?_
  refine G_callSi dL_due_151 kL_due_L_workers ⟨rfl, rfl⟩ ⟨Nat.zero_le _, Nat.zero_le _⟩ (lm_workers hΨ) rfl rfl rfl ?_
  exact G_iret dL_due_154 ⟨Nat.zero_le _, Nat.zero_le _⟩ (by subst ef2; subst ef1; rw [wk_cnt (by omega) (by omega)]; rfl)
theorem lm_due_pass (hΨ : HV Ψ) {f : mj_S} {a D : Nat} {b e z : Int32} (ha : a ≤ 60) (hD : D < 90000000) (ho : oA f D) (hv : vt f) : MC l yL_due wsL_due rmL_due false [.int 1, .int (nI (a)), .int b, .int e, .int z, .ref 11, .ref 12, .ref 13, .ref 14, .ref 15, .ref 16, .ref 17] (Ψ f) (some (.int (s_days a f).2)) (Ψ (s_days a f).1) := by
  refine mj_MC (cc := cL_due) (nl := 14) (ret := (some .int)) (plainFor_of_name (by decide)) rfl (⟨_, rfl, rfl⟩) (Nat.le_of_ble_eq_true rfl) ?_
  show GG l cL_due ML_due false (.inl ((some (.int (s_days a f).2)), Ψ (s_days a f).1)) 0 [some (.int 1), some (.int (nI (a))), some (.int b), some (.int e), some (.int z), some (.ref 11), some (.ref 12), some (.ref 13), some (.ref 14), some (.ref 15), some (.ref 16), some (.ref 17), none, none] [] (Ψ f) 0 0
  refine G_iload_n dL_due_0 rfl ?_
  refine G_iconst (v := 5) dL_due_1 (by decide) ?_
  refine G_icmp_neN (a := 1) (c := 5) 17 dL_due_2 (by decide) (by omega) (fun _ => ?_) (fun c2 => (show False by omega).elim)
  refine G_iload_n dL_due_17 rfl ?_
  refine G_bipush (v := 6) dL_due_18 (by decide) ?_
  refine G_icmp_neN (a := 1) (c := 6) 33 dL_due_20 (by decide) (by omega) (fun _ => ?_) (fun c20 => (show False by omega).elim)
  refine G_iload_n dL_due_33 rfl ?_
  refine G_bipush (v := 7) dL_due_34 (by decide) ?_
  refine G_icmp_neN (a := 1) (c := 7) 48 dL_due_36 (by decide) (by omega) (fun _ => ?_) (fun c36 => (show False by omega).elim)
  refine G_iload_n dL_due_48 rfl ?_
  refine G_bipush (v := 8) dL_due_49 (by decide) ?_
  refine G_icmp_neN (a := 1) (c := 8) 63 dL_due_51 (by decide) (by omega) (fun _ => ?_) (fun c51 => (show False by omega).elim)
  refine G_iconst (v := 0) dL_due_63 (by decide) ?_
  refine G_istore dL_due_64 rfl (L' := [some (.int 1), some (.int (nI (a))), some (.int b), some (.int e), some (.int z), some (.ref 11), some (.ref 12), some (.ref 13), some (.ref 14), some (.ref 15), some (.ref 16), some (.ref 17), some (.int 0), none]) rfl ?_
  refine G_iload_n dL_due_66 rfl ?_
  refine G_tabIn (off := 88) 155 dL_due_67 (by decide) (by decide) (by decide) (by decide) ?_
  refine G_iload_n dL_due_155 rfl ?_
  refine G_aload dL_due_156 rfl ?_
  refine G_aload dL_due_158 rfl ?_
  refine G_aload dL_due_160 rfl ?_
  refine G_aload dL_due_162 rfl ?_
  refine G_aload dL_due_164 rfl ?_
  refine G_aload dL_due_166 rfl ?_
  refine G_callSi dL_due_168 kL_due_L_days ⟨rfl, rfl⟩ ⟨Nat.zero_le _, Nat.zero_le _⟩ (lm_days hΨ (n := a) (by omega) hD ho hv) rfl rfl rfl ?_
  exact G_iret dL_due_171 ⟨Nat.zero_le _, Nat.zero_le _⟩ (rfl)
theorem lm_due_rest (hΨ : HV Ψ) {f : mj_S} {a D : Nat} {b e z : Int32} (ha : a < 6) (ho : oA (s_setw f a (-1) (-1)) D) : MC l yL_due wsL_due rmL_due false [.int 2, .int (nI (a)), .int b, .int e, .int z, .ref 11, .ref 12, .ref 13, .ref 14, .ref 15, .ref 16, .ref 17] (Ψ f) (some (.int (s_cntA (s_setw f a (-1) (-1))))) (Ψ (s_setw f a (-1) (-1))) := by
  refine mj_MC (cc := cL_due) (nl := 14) (ret := (some .int)) (plainFor_of_name (by decide)) rfl (⟨_, rfl, rfl⟩) (Nat.le_of_ble_eq_true rfl) ?_
  show GG l cL_due ML_due false (.inl ((some (.int (s_cntA (s_setw f a (-1) (-1))))), Ψ (s_setw f a (-1) (-1)))) 0 [some (.int 2), some (.int (nI (a))), some (.int b), some (.int e), some (.int z), some (.ref 11), some (.ref 12), some (.ref 13), some (.ref 14), some (.ref 15), some (.ref 16), some (.ref 17), none, none] [] (Ψ f) 0 0
  refine G_iload_n dL_due_0 rfl ?_
  refine G_iconst (v := 5) dL_due_1 (by decide) ?_
  refine G_icmp_neN (a := 2) (c := 5) 17 dL_due_2 (by decide) (by omega) (fun _ => ?_) (fun c2 => (show False by omega).elim)
  refine G_iload_n dL_due_17 rfl ?_
  refine G_bipush (v := 6) dL_due_18 (by decide) ?_
  refine G_icmp_neN (a := 2) (c := 6) 33 dL_due_20 (by decide) (by omega) (fun _ => ?_) (fun c20 => (show False by omega).elim)
  refine G_iload_n dL_due_33 rfl ?_
  refine G_bipush (v := 7) dL_due_34 (by decide) ?_
  refine G_icmp_neN (a := 2) (c := 7) 48 dL_due_36 (by decide) (by omega) (fun _ => ?_) (fun c36 => (show False by omega).elim)
  refine G_iload_n dL_due_48 rfl ?_
  refine G_bipush (v := 8) dL_due_49 (by decide) ?_
  refine G_icmp_neN (a := 2) (c := 8) 63 dL_due_51 (by decide) (by omega) (fun _ => ?_) (fun c51 => (show False by omega).elim)
  refine G_iconst (v := 0) dL_due_63 (by decide) ?_
  refine G_istore dL_due_64 rfl (L' := [some (.int 2), some (.int (nI (a))), some (.int b), some (.int e), some (.int z), some (.ref 11), some (.ref 12), some (.ref 13), some (.ref 14), some (.ref 15), some (.ref 16), some (.ref 17), some (.int 0), none]) rfl ?_
  refine G_iload_n dL_due_66 rfl ?_
  refine G_tabIn (off := 105) 172 dL_due_67 (by decide) (by decide) (by decide) (by decide) ?_
  refine G_aload dL_due_172 rfl ?_
  refine G_iconst (v := 4) dL_due_174 (by decide) ?_
  refine G_iload_n dL_due_175 rfl ?_
  refine G_imulN (a := 4) (c := a) (s := 4 * a) dL_due_176 (by omega) ?_
  refine G_iconst (v := 1) dL_due_177 (by decide) ?_
  refine G_iaddN (a := 4 * a) (c := 1) (s := 4 * a + 1) dL_due_178 (by omega) ?_
  refine G_iconst (v := (-1)) dL_due_179 (by decide) ?_
  obtain ⟨f1, ef1⟩ : ∃ zz : mj_S, zz = upd f (139 + a) (-1) := ⟨_, rfl⟩
  refine G_iastN (j := 4 * a + 1) dL_due_180 ((hΨ f).1.2.2.2.2.2.2) (by omega) (((hΨ f).2.2.2.2.2.2.2.2 _ _ _ (by omega) (by omega)).trans (congrArg Ψ ef1.symm)) ?_
  refine G_aload dL_due_181 rfl ?_
  refine G_iconst (v := 4) dL_due_183 (by decide) ?_
  refine G_iload_n dL_due_184 rfl ?_
  refine G_imulN (a := 4) (c := a) (s := 4 * a) dL_due_185 (by omega) ?_
  refine G_iconst (v := 2) dL_due_186 (by decide) ?_
  refine G_iaddN (a := 4 * a) (c := 2) (s := 2 + 4 * a) dL_due_187 (by omega) ?_
  refine G_iconst (v := (-1)) dL_due_188 (by decide) ?_
  obtain ⟨f2, ef2⟩ : ∃ zz : mj_S, zz = upd f1 (145 + a) (-1) := ⟨_, rfl⟩
  refine G_iastN (j := 2 + 4 * a) dL_due_189 ((hΨ f1).1.2.2.2.2.2.2) (by omega) (((hΨ f1).2.2.2.2.2.2.2.2 _ _ _ (by omega) (by omega)).trans (congrArg Ψ ef2.symm)) ?_
  refine G_iconst (v := (-1)) dL_due_190 (by decide) ?_
  refine G_iconst (v := (-1)) dL_due_191 (by decide) ?_
  refine G_aload dL_due_192 rfl ?_
  refine G_callSi dL_due_194 kL_due_L_workers ⟨rfl, rfl⟩ ⟨Nat.zero_le _, Nat.zero_le _⟩ (lm_workers hΨ) rfl rfl rfl ?_
  exact G_iret dL_due_197 ⟨Nat.zero_le _, Nat.zero_le _⟩ (by subst ef2; subst ef1; rw [← wk_cntA ho]; rfl)
theorem lm_due_give (hΨ : HV Ψ) {f f' : mj_S} {a b : Int32} {e z : Nat} (hG : MC l yL_gives wsL_gives rmL_gives false [.int a, .int b, .int (nI e), .int (nI z), .ref 13] (Ψ f) (some (.int t)) (Ψ f')) : MC l yL_due wsL_due rmL_due false [.int 3, .int a, .int b, .int (nI (e)), .int (nI (z)), .ref 11, .ref 12, .ref 13, .ref 14, .ref 15, .ref 16, .ref 17] (Ψ f) (some (.int t)) (Ψ f') := by
  refine mj_MC (cc := cL_due) (nl := 14) (ret := (some .int)) (plainFor_of_name (by decide)) rfl (⟨_, rfl, rfl⟩) (Nat.le_of_ble_eq_true rfl) ?_
  show GG l cL_due ML_due false (.inl ((some (.int t)), Ψ f')) 0 [some (.int 3), some (.int a), some (.int b), some (.int (nI (e))), some (.int (nI (z))), some (.ref 11), some (.ref 12), some (.ref 13), some (.ref 14), some (.ref 15), some (.ref 16), some (.ref 17), none, none] [] (Ψ f) 0 0
  refine G_iload_n dL_due_0 rfl ?_
  refine G_iconst (v := 5) dL_due_1 (by decide) ?_
  refine G_icmp_neN (a := 3) (c := 5) 17 dL_due_2 (by decide) (by omega) (fun _ => ?_) (fun c2 => (show False by omega).elim)
  refine G_iload_n dL_due_17 rfl ?_
  refine G_bipush (v := 6) dL_due_18 (by decide) ?_
  refine G_icmp_neN (a := 3) (c := 6) 33 dL_due_20 (by decide) (by omega) (fun _ => ?_) (fun c20 => (show False by omega).elim)
  refine G_iload_n dL_due_33 rfl ?_
  refine G_bipush (v := 7) dL_due_34 (by decide) ?_
  refine G_icmp_neN (a := 3) (c := 7) 48 dL_due_36 (by decide) (by omega) (fun _ => ?_) (fun c36 => (show False by omega).elim)
  refine G_iload_n dL_due_48 rfl ?_
  refine G_bipush (v := 8) dL_due_49 (by decide) ?_
  refine G_icmp_neN (a := 3) (c := 8) 63 dL_due_51 (by decide) (by omega) (fun _ => ?_) (fun c51 => (show False by omega).elim)
  refine G_iconst (v := 0) dL_due_63 (by decide) ?_
  refine G_istore dL_due_64 rfl (L' := [some (.int 3), some (.int a), some (.int b), some (.int (nI (e))), some (.int (nI (z))), some (.ref 11), some (.ref 12), some (.ref 13), some (.ref 14), some (.ref 15), some (.ref 16), some (.ref 17), some (.int 0), none]) rfl ?_
  refine G_iload_n dL_due_66 rfl ?_
  refine G_tabIn (off := 131) 198 dL_due_67 (by decide) (by decide) (by decide) (by decide) ?_
  refine G_iload_n dL_due_198 rfl ?_
  refine G_iload_n dL_due_199 rfl ?_
  refine G_iload_n dL_due_200 rfl ?_
  refine G_iload dL_due_201 rfl ?_
  refine G_aload dL_due_203 rfl ?_
  refine G_callSi dL_due_205 kL_due_L_gives ⟨rfl, rfl⟩ ⟨Nat.zero_le _, Nat.zero_le _⟩ (hG) rfl rfl rfl ?_
  exact G_iret dL_due_208 ⟨Nat.zero_le _, Nat.zero_le _⟩ (rfl)
theorem lm_due_hearth (hΨ : HV Ψ) {f : mj_S} {a : Nat} {b e z : Int32} (ha : a < 5) : MC l yL_due wsL_due rmL_due false [.int 5, .int (nI (a)), .int b, .int e, .int z, .ref 11, .ref 12, .ref 13, .ref 14, .ref 15, .ref 16, .ref 17] (Ψ f) (some (.int (f (10 + a)))) (Ψ (upd (upd f (5 + a) b) (10 + a) e)) := by
  refine mj_MC (cc := cL_due) (nl := 14) (ret := (some .int)) (plainFor_of_name (by decide)) rfl (⟨_, rfl, rfl⟩) (Nat.le_of_ble_eq_true rfl) ?_
  show GG l cL_due ML_due false (.inl ((some (.int (f (10 + a)))), Ψ (upd (upd f (5 + a) b) (10 + a) e))) 0 [some (.int 5), some (.int (nI (a))), some (.int b), some (.int e), some (.int z), some (.ref 11), some (.ref 12), some (.ref 13), some (.ref 14), some (.ref 15), some (.ref 16), some (.ref 17), none, none] [] (Ψ f) 0 0
  refine G_iload_n dL_due_0 rfl ?_
  refine G_iconst (v := 5) dL_due_1 (by decide) ?_
  refine G_icmp_neN (a := 5) (c := 5) 17 dL_due_2 (by decide) (by omega) (fun c2 => (show False by omega).elim) (fun _ => ?_)
  refine G_aload dL_due_5 rfl ?_
  refine G_bipush (v := 8) dL_due_7 (by decide) ?_
  refine G_iload_n dL_due_9 rfl ?_
  refine G_imulN (a := 8) (c := a) (s := 8 * a) dL_due_10 (by omega) ?_
  refine G_iconst (v := 1) dL_due_11 (by decide) ?_
  refine G_iaddN (a := 8 * a) (c := 1) (s := 8 * a + 1) dL_due_12 (by omega) ?_
  refine G_ialdN (j := 8 * a + 1) dL_due_13 ((hΨ f).1.2.1) (by omega) ?_
  refine G_eqi (rdH (by omega) (by omega) : _ = f (10 + a)) ?_
  refine G_goto 64 dL_due_14 (by decide) ?_
  refine G_istore dL_due_64 rfl (L' := [some (.int 5), some (.int (nI (a))), some (.int b), some (.int e), some (.int z), some (.ref 11), some (.ref 12), some (.ref 13), some (.ref 14), some (.ref 15), some (.ref 16), some (.ref 17), some (.int (f (10 + a))), none]) rfl ?_
  refine G_iload_n dL_due_66 rfl ?_
  refine G_tabIn (off := 199) 266 dL_due_67 (by decide) (by decide) (by decide) (by decide) ?_
  refine G_aload dL_due_266 rfl ?_
  refine G_bipush (v := 8) dL_due_268 (by decide) ?_
  refine G_iload_n dL_due_270 rfl ?_
  refine G_imulN (a := 8) (c := a) (s := 8 * a) dL_due_271 (by omega) ?_
  refine G_iload_n dL_due_272 rfl ?_
  obtain ⟨f1, ef1⟩ : ∃ zz : mj_S, zz = upd f (5 + a) b := ⟨_, rfl⟩
  refine G_iastN (j := 8 * a) dL_due_273 ((hΨ f).1.2.1) (by omega) (((hΨ f).2.2.2.1 _ _ _ (by omega) (by omega)).trans (congrArg Ψ ef1.symm)) ?_
  refine G_aload dL_due_274 rfl ?_
  refine G_bipush (v := 8) dL_due_276 (by decide) ?_
  refine G_iload_n dL_due_278 rfl ?_
  refine G_imulN (a := 8) (c := a) (s := 8 * a) dL_due_279 (by omega) ?_
  refine G_iconst (v := 1) dL_due_280 (by decide) ?_
  refine G_iaddN (a := 8 * a) (c := 1) (s := 8 * a + 1) dL_due_281 (by omega) ?_
  refine G_iload_n dL_due_282 rfl ?_
  obtain ⟨f2, ef2⟩ : ∃ zz : mj_S, zz = upd f1 (10 + a) e := ⟨_, rfl⟩
  refine G_iastN (j := 8 * a + 1) dL_due_283 ((hΨ f1).1.2.1) (by omega) (((hΨ f1).2.2.2.1 _ _ _ (by omega) (by omega)).trans (congrArg Ψ ef2.symm)) ?_
  refine G_iload dL_due_284 rfl ?_
  exact G_iret dL_due_286 ⟨Nat.zero_le _, Nat.zero_le _⟩ (by subst ef2; subst ef1; rfl)
theorem lm_due_track (hΨ : HV Ψ) {f : mj_S} {a : Nat} {b e z : Int32} (ha : a < 4) : MC l yL_due wsL_due rmL_due false [.int 6, .int (nI (a)), .int b, .int e, .int z, .ref 11, .ref 12, .ref 13, .ref 14, .ref 15, .ref 16, .ref 17] (Ψ f) (some (.int (f (49 + a)))) (Ψ (upd f (49 + a) b)) := by
  refine mj_MC (cc := cL_due) (nl := 14) (ret := (some .int)) (plainFor_of_name (by decide)) rfl (⟨_, rfl, rfl⟩) (Nat.le_of_ble_eq_true rfl) ?_
  show GG l cL_due ML_due false (.inl ((some (.int (f (49 + a)))), Ψ (upd f (49 + a) b))) 0 [some (.int 6), some (.int (nI (a))), some (.int b), some (.int e), some (.int z), some (.ref 11), some (.ref 12), some (.ref 13), some (.ref 14), some (.ref 15), some (.ref 16), some (.ref 17), none, none] [] (Ψ f) 0 0
  refine G_iload_n dL_due_0 rfl ?_
  refine G_iconst (v := 5) dL_due_1 (by decide) ?_
  refine G_icmp_neN (a := 6) (c := 5) 17 dL_due_2 (by decide) (by omega) (fun _ => ?_) (fun c2 => (show False by omega).elim)
  refine G_iload_n dL_due_17 rfl ?_
  refine G_bipush (v := 6) dL_due_18 (by decide) ?_
  refine G_icmp_neN (a := 6) (c := 6) 33 dL_due_20 (by decide) (by omega) (fun c20 => (show False by omega).elim) (fun _ => ?_)
  refine G_aload dL_due_23 rfl ?_
  refine G_bipush (v := 9) dL_due_25 (by decide) ?_
  refine G_iload_n dL_due_27 rfl ?_
  refine G_iaddN (a := 9) (c := a) (s := 9 + a) dL_due_28 (by omega) ?_
  refine G_ialdN (j := 9 + a) dL_due_29 ((hΨ f).1.1) (by omega) ?_
  refine G_eqi (rdQh (by omega) (by omega) : _ = f (49 + a)) ?_
  refine G_goto 64 dL_due_30 (by decide) ?_
  refine G_istore dL_due_64 rfl (L' := [some (.int 6), some (.int (nI (a))), some (.int b), some (.int e), some (.int z), some (.ref 11), some (.ref 12), some (.ref 13), some (.ref 14), some (.ref 15), some (.ref 16), some (.ref 17), some (.int (f (49 + a))), none]) rfl ?_
  refine G_iload_n dL_due_66 rfl ?_
  refine G_tabIn (off := 220) 287 dL_due_67 (by decide) (by decide) (by decide) (by decide) ?_
  refine G_aload dL_due_287 rfl ?_
  refine G_bipush (v := 9) dL_due_289 (by decide) ?_
  refine G_iload_n dL_due_291 rfl ?_
  refine G_iaddN (a := 9) (c := a) (s := 9 + a) dL_due_292 (by omega) ?_
  refine G_iload_n dL_due_293 rfl ?_
  obtain ⟨f1, ef1⟩ : ∃ zz : mj_S, zz = upd f (49 + a) b := ⟨_, rfl⟩
  refine G_iastN (j := 9 + a) dL_due_294 ((hΨ f).1.1) (by omega) (((hΨ f).2.2.1 _ _ _ (by omega) (by omega)).trans (congrArg Ψ ef1.symm)) ?_
  refine G_iload dL_due_295 rfl ?_
  exact G_iret dL_due_297 ⟨Nat.zero_le _, Nat.zero_le _⟩ (by subst ef1; rfl)
theorem lm_due_strength (hΨ : HV Ψ) {f : mj_S} {a : Nat} {b e z : Int32} (ha : a < 6) : MC l yL_due wsL_due rmL_due false [.int 7, .int (nI (a)), .int b, .int e, .int z, .ref 11, .ref 12, .ref 13, .ref 14, .ref 15, .ref 16, .ref 17] (Ψ f) (some (.int (f (133 + a)))) (Ψ (upd f (133 + a) b)) := by
  refine mj_MC (cc := cL_due) (nl := 14) (ret := (some .int)) (plainFor_of_name (by decide)) rfl (⟨_, rfl, rfl⟩) (Nat.le_of_ble_eq_true rfl) ?_
  show GG l cL_due ML_due false (.inl ((some (.int (f (133 + a)))), Ψ (upd f (133 + a) b))) 0 [some (.int 7), some (.int (nI (a))), some (.int b), some (.int e), some (.int z), some (.ref 11), some (.ref 12), some (.ref 13), some (.ref 14), some (.ref 15), some (.ref 16), some (.ref 17), none, none] [] (Ψ f) 0 0
  refine G_iload_n dL_due_0 rfl ?_
  refine G_iconst (v := 5) dL_due_1 (by decide) ?_
  refine G_icmp_neN (a := 7) (c := 5) 17 dL_due_2 (by decide) (by omega) (fun _ => ?_) (fun c2 => (show False by omega).elim)
  refine G_iload_n dL_due_17 rfl ?_
  refine G_bipush (v := 6) dL_due_18 (by decide) ?_
  refine G_icmp_neN (a := 7) (c := 6) 33 dL_due_20 (by decide) (by omega) (fun _ => ?_) (fun c20 => (show False by omega).elim)
  refine G_iload_n dL_due_33 rfl ?_
  refine G_bipush (v := 7) dL_due_34 (by decide) ?_
  refine G_icmp_neN (a := 7) (c := 7) 48 dL_due_36 (by decide) (by omega) (fun c36 => (show False by omega).elim) (fun _ => ?_)
  refine G_aload dL_due_39 rfl ?_
  refine G_iconst (v := 4) dL_due_41 (by decide) ?_
  refine G_iload_n dL_due_42 rfl ?_
  refine G_imulN (a := 4) (c := a) (s := 4 * a) dL_due_43 (by omega) ?_
  refine G_ialdN (j := 4 * a) dL_due_44 ((hΨ f).1.2.2.2.2.2.2) (by omega) ?_
  refine G_eqi (rdC (by omega) (by omega) : _ = f (133 + a)) ?_
  refine G_goto 64 dL_due_45 (by decide) ?_
  refine G_istore dL_due_64 rfl (L' := [some (.int 7), some (.int (nI (a))), some (.int b), some (.int e), some (.int z), some (.ref 11), some (.ref 12), some (.ref 13), some (.ref 14), some (.ref 15), some (.ref 16), some (.ref 17), some (.int (f (133 + a))), none]) rfl ?_
  refine G_iload_n dL_due_66 rfl ?_
  refine G_tabIn (off := 231) 298 dL_due_67 (by decide) (by decide) (by decide) (by decide) ?_
  refine G_aload dL_due_298 rfl ?_
  refine G_iconst (v := 4) dL_due_300 (by decide) ?_
  refine G_iload_n dL_due_301 rfl ?_
  refine G_imulN (a := 4) (c := a) (s := 4 * a) dL_due_302 (by omega) ?_
  refine G_iload_n dL_due_303 rfl ?_
  obtain ⟨f1, ef1⟩ : ∃ zz : mj_S, zz = upd f (133 + a) b := ⟨_, rfl⟩
  refine G_iastN (j := 4 * a) dL_due_304 ((hΨ f).1.2.2.2.2.2.2) (by omega) (((hΨ f).2.2.2.2.2.2.2.2 _ _ _ (by omega) (by omega)).trans (congrArg Ψ ef1.symm)) ?_
  refine G_iload dL_due_305 rfl ?_
  exact G_iret dL_due_307 ⟨Nat.zero_le _, Nat.zero_le _⟩ (by subst ef1; rfl)
theorem lm_due_set0 (hΨ : HV Ψ) {f : mj_S} {b e z : Int32} : MC l yL_due wsL_due rmL_due false [.int 8, .int 0, .int b, .int e, .int z, .ref 11, .ref 12, .ref 13, .ref 14, .ref 15, .ref 16, .ref 17] (Ψ f) (some (.int (f 2))) (Ψ (upd f 2 b)) := by
  refine mj_MC (cc := cL_due) (nl := 14) (ret := (some .int)) (plainFor_of_name (by decide)) rfl (⟨_, rfl, rfl⟩) (Nat.le_of_ble_eq_true rfl) ?_
  show GG l cL_due ML_due false (.inl ((some (.int (f 2))), Ψ (upd f 2 b))) 0 [some (.int 8), some (.int 0), some (.int b), some (.int e), some (.int z), some (.ref 11), some (.ref 12), some (.ref 13), some (.ref 14), some (.ref 15), some (.ref 16), some (.ref 17), none, none] [] (Ψ f) 0 0
  refine G_iload_n dL_due_0 rfl ?_
  refine G_iconst (v := 5) dL_due_1 (by decide) ?_
  refine G_icmp_neN (a := 8) (c := 5) 17 dL_due_2 (by decide) (by omega) (fun _ => ?_) (fun c2 => (show False by omega).elim)
  refine G_iload_n dL_due_17 rfl ?_
  refine G_bipush (v := 6) dL_due_18 (by decide) ?_
  refine G_icmp_neN (a := 8) (c := 6) 33 dL_due_20 (by decide) (by omega) (fun _ => ?_) (fun c20 => (show False by omega).elim)
  refine G_iload_n dL_due_33 rfl ?_
  refine G_bipush (v := 7) dL_due_34 (by decide) ?_
  refine G_icmp_neN (a := 8) (c := 7) 48 dL_due_36 (by decide) (by omega) (fun _ => ?_) (fun c36 => (show False by omega).elim)
  refine G_iload_n dL_due_48 rfl ?_
  refine G_bipush (v := 8) dL_due_49 (by decide) ?_
  refine G_icmp_neN (a := 8) (c := 8) 63 dL_due_51 (by decide) (by omega) (fun c51 => (show False by omega).elim) (fun _ => ?_)
  refine G_aload dL_due_54 rfl ?_
  refine G_iconst (v := 2) dL_due_56 (by decide) ?_
  refine G_iload_n dL_due_57 rfl ?_
  refine G_iaddN (a := 2) (c := 0) (s := 2) dL_due_58 (by omega) ?_
  refine G_ialdN (j := 2) dL_due_59 ((hΨ f).1.1) (by omega) ?_
  refine G_eqi (rdQl (by omega) : _ = f (2)) ?_
  refine G_goto 64 dL_due_60 (by decide) ?_
  refine G_istore dL_due_64 rfl (L' := [some (.int 8), some (.int 0), some (.int b), some (.int e), some (.int z), some (.ref 11), some (.ref 12), some (.ref 13), some (.ref 14), some (.ref 15), some (.ref 16), some (.ref 17), some (.int (f (2))), none]) rfl ?_
  refine G_iload_n dL_due_66 rfl ?_
  refine G_tabOut 308 dL_due_67 (by decide) (by decide) ?_
  refine G_aload dL_due_308 rfl ?_
  refine G_iconst (v := 2) dL_due_310 (by decide) ?_
  refine G_iload_n dL_due_311 rfl ?_
  refine G_iaddN (a := 2) (c := 0) (s := 2) dL_due_312 (by omega) ?_
  refine G_iload_n dL_due_313 rfl ?_
  obtain ⟨f1, ef1⟩ : ∃ zz : mj_S, zz = upd f (2) b := ⟨_, rfl⟩
  refine G_iastN (j := 2) dL_due_314 ((hΨ f).1.1) (by omega) (((hΨ f).2.1 _ _ (by omega)).trans (congrArg Ψ ef1.symm)) ?_
  refine G_iload dL_due_315 rfl ?_
  exact G_iret dL_due_317 ⟨Nat.zero_le _, Nat.zero_le _⟩ (by subst ef1; rfl)
theorem lm_due_set1 (hΨ : HV Ψ) {f : mj_S} {b e z : Int32} : MC l yL_due wsL_due rmL_due false [.int 8, .int 1, .int b, .int e, .int z, .ref 11, .ref 12, .ref 13, .ref 14, .ref 15, .ref 16, .ref 17] (Ψ f) (some (.int (f 3))) (Ψ (upd f 3 b)) := by
  refine mj_MC (cc := cL_due) (nl := 14) (ret := (some .int)) (plainFor_of_name (by decide)) rfl (⟨_, rfl, rfl⟩) (Nat.le_of_ble_eq_true rfl) ?_
  show GG l cL_due ML_due false (.inl ((some (.int (f 3))), Ψ (upd f 3 b))) 0 [some (.int 8), some (.int 1), some (.int b), some (.int e), some (.int z), some (.ref 11), some (.ref 12), some (.ref 13), some (.ref 14), some (.ref 15), some (.ref 16), some (.ref 17), none, none] [] (Ψ f) 0 0
  refine G_iload_n dL_due_0 rfl ?_
  refine G_iconst (v := 5) dL_due_1 (by decide) ?_
  refine G_icmp_neN (a := 8) (c := 5) 17 dL_due_2 (by decide) (by omega) (fun _ => ?_) (fun c2 => (show False by omega).elim)
  refine G_iload_n dL_due_17 rfl ?_
  refine G_bipush (v := 6) dL_due_18 (by decide) ?_
  refine G_icmp_neN (a := 8) (c := 6) 33 dL_due_20 (by decide) (by omega) (fun _ => ?_) (fun c20 => (show False by omega).elim)
  refine G_iload_n dL_due_33 rfl ?_
  refine G_bipush (v := 7) dL_due_34 (by decide) ?_
  refine G_icmp_neN (a := 8) (c := 7) 48 dL_due_36 (by decide) (by omega) (fun _ => ?_) (fun c36 => (show False by omega).elim)
  refine G_iload_n dL_due_48 rfl ?_
  refine G_bipush (v := 8) dL_due_49 (by decide) ?_
  refine G_icmp_neN (a := 8) (c := 8) 63 dL_due_51 (by decide) (by omega) (fun c51 => (show False by omega).elim) (fun _ => ?_)
  refine G_aload dL_due_54 rfl ?_
  refine G_iconst (v := 2) dL_due_56 (by decide) ?_
  refine G_iload_n dL_due_57 rfl ?_
  refine G_iaddN (a := 2) (c := 1) (s := 3) dL_due_58 (by omega) ?_
  refine G_ialdN (j := 3) dL_due_59 ((hΨ f).1.1) (by omega) ?_
  refine G_eqi (rdQl (by omega) : _ = f (3)) ?_
  refine G_goto 64 dL_due_60 (by decide) ?_
  refine G_istore dL_due_64 rfl (L' := [some (.int 8), some (.int 1), some (.int b), some (.int e), some (.int z), some (.ref 11), some (.ref 12), some (.ref 13), some (.ref 14), some (.ref 15), some (.ref 16), some (.ref 17), some (.int (f (3))), none]) rfl ?_
  refine G_iload_n dL_due_66 rfl ?_
  refine G_tabOut 308 dL_due_67 (by decide) (by decide) ?_
  refine G_aload dL_due_308 rfl ?_
  refine G_iconst (v := 2) dL_due_310 (by decide) ?_
  refine G_iload_n dL_due_311 rfl ?_
  refine G_iaddN (a := 2) (c := 1) (s := 3) dL_due_312 (by omega) ?_
  refine G_iload_n dL_due_313 rfl ?_
  obtain ⟨f1, ef1⟩ : ∃ zz : mj_S, zz = upd f (3) b := ⟨_, rfl⟩
  refine G_iastN (j := 3) dL_due_314 ((hΨ f).1.1) (by omega) (((hΨ f).2.1 _ _ (by omega)).trans (congrArg Ψ ef1.symm)) ?_
  refine G_iload dL_due_315 rfl ?_
  exact G_iret dL_due_317 ⟨Nat.zero_le _, Nat.zero_le _⟩ (by subst ef1; rfl)
theorem lm_due_set2 (hΨ : HV Ψ) {f : mj_S} {b e z : Int32} : MC l yL_due wsL_due rmL_due false [.int 8, .int 2, .int b, .int e, .int z, .ref 11, .ref 12, .ref 13, .ref 14, .ref 15, .ref 16, .ref 17] (Ψ f) (some (.int (f 4))) (Ψ (upd f 4 b)) := by
  refine mj_MC (cc := cL_due) (nl := 14) (ret := (some .int)) (plainFor_of_name (by decide)) rfl (⟨_, rfl, rfl⟩) (Nat.le_of_ble_eq_true rfl) ?_
  show GG l cL_due ML_due false (.inl ((some (.int (f 4))), Ψ (upd f 4 b))) 0 [some (.int 8), some (.int 2), some (.int b), some (.int e), some (.int z), some (.ref 11), some (.ref 12), some (.ref 13), some (.ref 14), some (.ref 15), some (.ref 16), some (.ref 17), none, none] [] (Ψ f) 0 0
  refine G_iload_n dL_due_0 rfl ?_
  refine G_iconst (v := 5) dL_due_1 (by decide) ?_
  refine G_icmp_neN (a := 8) (c := 5) 17 dL_due_2 (by decide) (by omega) (fun _ => ?_) (fun c2 => (show False by omega).elim)
  refine G_iload_n dL_due_17 rfl ?_
  refine G_bipush (v := 6) dL_due_18 (by decide) ?_
  refine G_icmp_neN (a := 8) (c := 6) 33 dL_due_20 (by decide) (by omega) (fun _ => ?_) (fun c20 => (show False by omega).elim)
  refine G_iload_n dL_due_33 rfl ?_
  refine G_bipush (v := 7) dL_due_34 (by decide) ?_
  refine G_icmp_neN (a := 8) (c := 7) 48 dL_due_36 (by decide) (by omega) (fun _ => ?_) (fun c36 => (show False by omega).elim)
  refine G_iload_n dL_due_48 rfl ?_
  refine G_bipush (v := 8) dL_due_49 (by decide) ?_
  refine G_icmp_neN (a := 8) (c := 8) 63 dL_due_51 (by decide) (by omega) (fun c51 => (show False by omega).elim) (fun _ => ?_)
  refine G_aload dL_due_54 rfl ?_
  refine G_iconst (v := 2) dL_due_56 (by decide) ?_
  refine G_iload_n dL_due_57 rfl ?_
  refine G_iaddN (a := 2) (c := 2) (s := 4) dL_due_58 (by omega) ?_
  refine G_ialdN (j := 4) dL_due_59 ((hΨ f).1.1) (by omega) ?_
  refine G_eqi (rdQl (by omega) : _ = f (4)) ?_
  refine G_goto 64 dL_due_60 (by decide) ?_
  refine G_istore dL_due_64 rfl (L' := [some (.int 8), some (.int 2), some (.int b), some (.int e), some (.int z), some (.ref 11), some (.ref 12), some (.ref 13), some (.ref 14), some (.ref 15), some (.ref 16), some (.ref 17), some (.int (f (4))), none]) rfl ?_
  refine G_iload_n dL_due_66 rfl ?_
  refine G_tabOut 308 dL_due_67 (by decide) (by decide) ?_
  refine G_aload dL_due_308 rfl ?_
  refine G_iconst (v := 2) dL_due_310 (by decide) ?_
  refine G_iload_n dL_due_311 rfl ?_
  refine G_iaddN (a := 2) (c := 2) (s := 4) dL_due_312 (by omega) ?_
  refine G_iload_n dL_due_313 rfl ?_
  obtain ⟨f1, ef1⟩ : ∃ zz : mj_S, zz = upd f (4) b := ⟨_, rfl⟩
  refine G_iastN (j := 4) dL_due_314 ((hΨ f).1.1) (by omega) (((hΨ f).2.1 _ _ (by omega)).trans (congrArg Ψ ef1.symm)) ?_
  refine G_iload dL_due_315 rfl ?_
  exact G_iret dL_due_317 ⟨Nat.zero_le _, Nat.zero_le _⟩ (by subst ef1; rfl)
theorem lq_snow (hΨ : HV Ψ) {X : mj_R} {a b e z hd : Int32} : ∀ (d c : Nat) (f : mj_S), c + d = 6 → f 1 = 1 → (∀ u13 : Option Value, GG l cL_due ML_due false X 261 [some (.int 4), some (.int a), some (.int b), some (.int e), some (.int z), some (.ref 11), some (.ref 12), some (.ref 13), some (.ref 14), some (.ref 15), some (.ref 16), some (.ref 17), some (.int hd), u13] [] (Ψ (itr (fun c a => s_setw a c (-1) (-1)) d c f)) 0 0) → GG l cL_due ML_due false X 220 [some (.int 4), some (.int a), some (.int b), some (.int e), some (.int z), some (.ref 11), some (.ref 12), some (.ref 13), some (.ref 14), some (.ref 15), some (.ref 16), some (.ref 17), some (.int hd), some (.int (nI (c)))] [] (Ψ f) 0 0
  | 0, c, f, hc, h1, K => by
    refine G_iload dL_due_220 rfl ?_
    refine G_bipush (v := 6) dL_due_222 (by decide) ?_
    refine G_icmp_geN (a := c) (c := 6) 261 dL_due_224 (by decide) (by omega) (fun c224 => ?_) (fun c224 => ?_)
    · exact K _
    · exact (show False by omega).elim
  | d + 1, c, f, hc, h1, K => by
    refine G_iload dL_due_220 rfl ?_
    refine G_bipush (v := 6) dL_due_222 (by decide) ?_
    refine G_icmp_geN (a := c) (c := 6) 261 dL_due_224 (by decide) (by omega) (fun c224 => ?_) (fun c224 => ?_)
    · exact (show False by omega).elim
    · refine G_aload dL_due_227 rfl ?_
      refine G_iconst (v := 1) dL_due_229 (by decide) ?_
      refine G_ialdN (j := 1) dL_due_230 ((hΨ f).1.1) (by omega) ?_
      refine G_eqi (rdQl (by omega) : _ = f (1)) ?_
      refine G_iconst (v := 1) dL_due_231 (by decide) ?_
      refine G_icmp_ne 261 dL_due_232 (by decide) (fun q => absurd h1 q) (fun _ => ?_)
      refine G_aload dL_due_235 rfl ?_
      refine G_iconst (v := 4) dL_due_237 (by decide) ?_
      refine G_iload dL_due_238 rfl ?_
      refine G_imulN (a := 4) (c := c) (s := 4 * c) dL_due_240 (by omega) ?_
      refine G_iconst (v := 1) dL_due_241 (by decide) ?_
      refine G_iaddN (a := 4 * c) (c := 1) (s := 4 * c + 1) dL_due_242 (by omega) ?_
      refine G_iconst (v := (-1)) dL_due_243 (by decide) ?_
      obtain ⟨f1, ef1⟩ : ∃ zz : mj_S, zz = upd f (139 + c) (-1) := ⟨_, rfl⟩
      refine G_iastN (j := 4 * c + 1) dL_due_244 ((hΨ f).1.2.2.2.2.2.2) (by omega) (((hΨ f).2.2.2.2.2.2.2.2 _ _ _ (by omega) (by omega)).trans (congrArg Ψ ef1.symm)) ?_
      refine G_aload dL_due_245 rfl ?_
      refine G_iconst (v := 4) dL_due_247 (by decide) ?_
      refine G_iload dL_due_248 rfl ?_
      refine G_imulN (a := 4) (c := c) (s := 4 * c) dL_due_250 (by omega) ?_
      refine G_iconst (v := 2) dL_due_251 (by decide) ?_
      refine G_iaddN (a := 4 * c) (c := 2) (s := 2 + 4 * c) dL_due_252 (by omega) ?_
      refine G_iconst (v := (-1)) dL_due_253 (by decide) ?_
      obtain ⟨f2, ef2⟩ : ∃ zz : mj_S, zz = upd f1 (145 + c) (-1) := ⟨_, rfl⟩
      refine G_iastN (j := 2 + 4 * c) dL_due_254 ((hΨ f1).1.2.2.2.2.2.2) (by omega) (((hΨ f1).2.2.2.2.2.2.2.2 _ _ _ (by omega) (by omega)).trans (congrArg Ψ ef2.symm)) ?_
      refine G_iincN (a := c) (s := c + 1) dL_due_255 rfl (by omega) (L' := [some (.int 4), some (.int a), some (.int b), some (.int e), some (.int z), some (.ref 11), some (.ref 12), some (.ref 13), some (.ref 14), some (.ref 15), some (.ref 16), some (.ref 17), some (.int hd), some (.int (nI (c + 1)))]) rfl ?_
      refine G_goto 220 dL_due_258 (by decide) ?_
      subst ef2; subst ef1
      refine lq_snow hΨ d (c + 1) (s_setw f c (-1) (-1)) (by omega) (by rw [s_setw, upd_n (by omega), upd_n (by omega)]; exact h1) (fun u13 => ?_)
      have K1 := K u13
      rw [itr_s] at K1
      exact K1
theorem lm_due_snow (hΨ : HV Ψ) {f : mj_S} {a b e z : Int32} (hfl : f 1 ^^^ 1 = 1 - f 1) : MC l yL_due wsL_due rmL_due false [.int 4, .int a, .int b, .int e, .int z, .ref 11, .ref 12, .ref 13, .ref 14, .ref 15, .ref 16, .ref 17] (Ψ f) (some (.int (s_turn f 1))) (Ψ (s_turn f)) := by
  refine mj_MC (cc := cL_due) (nl := 14) (ret := (some .int)) (plainFor_of_name (by decide)) rfl (⟨_, rfl, rfl⟩) (Nat.le_of_ble_eq_true rfl) ?_
  show GG l cL_due ML_due false (.inl ((some (.int (s_turn f 1))), Ψ (s_turn f))) 0 [some (.int 4), some (.int a), some (.int b), some (.int e), some (.int z), some (.ref 11), some (.ref 12), some (.ref 13), some (.ref 14), some (.ref 15), some (.ref 16), some (.ref 17), none, none] [] (Ψ f) 0 0
  refine G_iload_n dL_due_0 rfl ?_
  refine G_iconst (v := 5) dL_due_1 (by decide) ?_
  refine G_icmp_neN (a := 4) (c := 5) 17 dL_due_2 (by decide) (by omega) (fun _ => ?_) (fun c2 => (show False by omega).elim)
  refine G_iload_n dL_due_17 rfl ?_
  refine G_bipush (v := 6) dL_due_18 (by decide) ?_
  refine G_icmp_neN (a := 4) (c := 6) 33 dL_due_20 (by decide) (by omega) (fun _ => ?_) (fun c20 => (show False by omega).elim)
  refine G_iload_n dL_due_33 rfl ?_
  refine G_bipush (v := 7) dL_due_34 (by decide) ?_
  refine G_icmp_neN (a := 4) (c := 7) 48 dL_due_36 (by decide) (by omega) (fun _ => ?_) (fun c36 => (show False by omega).elim)
  refine G_iload_n dL_due_48 rfl ?_
  refine G_bipush (v := 8) dL_due_49 (by decide) ?_
  refine G_icmp_neN (a := 4) (c := 8) 63 dL_due_51 (by decide) (by omega) (fun _ => ?_) (fun c51 => (show False by omega).elim)
  refine G_iconst (v := 0) dL_due_63 (by decide) ?_
  refine G_istore dL_due_64 rfl (L' := [some (.int 4), some (.int a), some (.int b), some (.int e), some (.int z), some (.ref 11), some (.ref 12), some (.ref 13), some (.ref 14), some (.ref 15), some (.ref 16), some (.ref 17), some (.int 0), none]) rfl ?_
  refine G_iload_n dL_due_66 rfl ?_
  refine G_tabIn (off := 142) 209 dL_due_67 (by decide) (by decide) (by decide) (by decide) ?_
  refine G_aload dL_due_209 rfl ?_
  refine G_iconst (v := 1) dL_due_211 (by decide) ?_
  refine G_dup2 dL_due_212 rfl rfl ?_
  refine G_ialdN (j := 1) dL_due_213 ((hΨ f).1.1) (by omega) ?_
  refine G_eqi (rdQl (by omega) : _ = f (1)) ?_
  refine G_iconst (v := 1) dL_due_214 (by decide) ?_
  refine G_ixor dL_due_215 ?_
  refine G_eqi (show f 1 ^^^ 1 = 1 - f 1 from hfl) ?_
  obtain ⟨f1, ef1⟩ : ∃ zz : mj_S, zz = upd f (1) (1 - f 1) := ⟨_, rfl⟩
  refine G_iastN (j := 1) dL_due_216 ((hΨ f).1.1) (by omega) (((hΨ f).2.1 _ _ (by omega)).trans (congrArg Ψ ef1.symm)) ?_
  refine G_iconst (v := 0) dL_due_217 (by decide) ?_
  refine G_istore dL_due_218 rfl (L' := [some (.int 4), some (.int a), some (.int b), some (.int e), some (.int z), some (.ref 11), some (.ref 12), some (.ref 13), some (.ref 14), some (.ref 15), some (.ref 16), some (.ref 17), some (.int 0), some (.int 0)]) rfl ?_
  by_cases hs1 : 1 - f 1 = 1
  · have h1 : f1 1 = 1 := by rw [ef1, upd_s]; exact hs1
    refine lq_snow hΨ 6 0 f1 rfl h1 (fun u13 => ?_)
    have et : s_turn f = itr (fun c a => s_setw a c (-1) (-1)) 6 0 f1 := by rw [s_turn, if_pos hs1, ← ef1]
    rw [← et]
    refine G_aload dL_due_261 rfl ?_
    refine G_iconst (v := 1) dL_due_263 (by decide) ?_
    refine G_ialdN (j := 1) dL_due_264 ((hΨ (s_turn f)).1.1) (by omega) ?_
    refine G_eqi (rdQl (by omega) : _ = (s_turn f) (1)) ?_
    exact G_iret dL_due_265 ⟨Nat.zero_le _, Nat.zero_le _⟩ (rfl)
  · have hn : ¬ f1 1 = 1 := by rw [ef1, upd_s]; exact hs1
    refine G_iload dL_due_220 rfl ?_
    refine G_bipush (v := 6) dL_due_222 (by decide) ?_
    refine G_icmp_geN (a := 0) (c := 6) 261 dL_due_224 (by decide) (by omega) (fun c224 => (show False by omega).elim) (fun _ => ?_)
    refine G_aload dL_due_227 rfl ?_
    refine G_iconst (v := 1) dL_due_229 (by decide) ?_
    refine G_ialdN (j := 1) dL_due_230 ((hΨ f1).1.1) (by omega) ?_
    refine G_eqi (rdQl (by omega) : _ = f1 (1)) ?_
    refine G_iconst (v := 1) dL_due_231 (by decide) ?_
    refine G_icmp_ne 261 dL_due_232 (by decide) (fun _ => ?_) (fun q => absurd q hn)
    refine G_aload dL_due_261 rfl ?_
    refine G_iconst (v := 1) dL_due_263 (by decide) ?_
    refine G_ialdN (j := 1) dL_due_264 ((hΨ f1).1.1) (by omega) ?_
    refine G_eqi (rdQl (by omega) : _ = f1 (1)) ?_
    exact G_iret dL_due_265 ⟨Nat.zero_le _, Nat.zero_le _⟩ (by rw [turn_1, s_turn, if_neg hs1, ← ef1]; rw [ef1, upd_s])
end LI0
