/-! THE CLASS: calls that end with an exception -/
theorem lt_le {x k j : Int32} (hk : k.toInt = j.toInt + 1) (h : x < k) : x ≤ j := by
  rw [Int32.lt_iff_toInt_lt] at h
  rw [Int32.le_iff_toInt_le]
  omega
section MJX
variable {l : Launch} {cc : ByteArray} {M : mj_M} {b : Bool} {pc : Nat} {L : mj_L} {st rest : List Value} {w w1 : mj_W} {k n : Nat} {y : MethodName} {ws : List Cond} {rm : Room} {as : List Value} {idx na : Nat} {Ex : String}
theorem mj_afterX {p : Program} {e : Env} {s : State} {m : MethodId} {args : Array Value} {below : List Frame} {meth : Method} {c : Code} {Q : State → Prop} {D : va_G} {A : Nat → Prop} {ad0 ad : Nat → Nat} {cy : Nat → ClassId} {N : Nat} {H : Heap} {locs : List Loc} {ls : Array Slot} {st0 rest0 : List Value} {mc ms : Nat} (E : mj_end l cc M b (.inr (Ex, w1)) p e s m args below meth c Q D A ad0 N)
    (hr : vx_Run p l e M.2.2.2.1 s m args below meth c H locs k n mc ms (F0 m pc ls st0) rest0 (fun _ _ _ => False) (mj_Xc D ad cy w H.size Ex w1) (va_A (mj_w ad cy w) H.size)) (r : mj_rel b N ad0 ad w) (P : mj_P D A ad cy w s H) (S : va_S A s.heap H locs) (hA : ∀ q, s.heap.size ≤ q → A q) (hk : k + mc ≤ M.2.2.2.1.cells ∧ n + ms ≤ M.2.2.2.1.slots) : W p l e M.2.2.2.1 s m args below meth c H locs k n Q (F0 m pc ls st0) := by
  intro T hT X
  have hA1 := mj_free P S hA
  obtain ⟨E1, -⟩ := E
  rcases hr T hT X with ⟨v, st₀, t, T', L, h0, X', hL, e1, e2, hF, st⟩ | ⟨q, st₀, t, T', L, E', ce, h0, X', hL, e1, e2, ⟨rfl, ⟨ad1, cy1, hrel, hPp, hDd, hTt⟩, hz, hk'⟩, hce, hcv, hcl, st⟩
  · exact hF.elim
  · rw [h0] at hz hk'
    have ea : ad1 = ad := hrel.1 rfl
    subst ea
    obtain ⟨t2, a1, b1⟩ := E1 ad1 cy1 T'.heap (locs ++ L) ls pc (k + mc) (n + ms) rest0 q ce (r.next hrel (fun _ => rfl)) ⟨by rw [e1]; exact hPp, hDd.weaken (fun k0 q0 _ h => hA1 _ h), hTt.moved (by rw [← e2]; exact X'.warmed.alike.symm)⟩
      ⟨Nat.le_trans S.1 (by rw [e1]; exact hz), fun q0 h1 h2 => by rw [e1, hk' q0 (Nat.lt_of_lt_of_le h1 S.1) (fun z => h2 (hA1 q0 z))]; exact S.2.1 q0 h1 h2, fun q0 hq => by
        rcases List.mem_append.mp hq with h | h
        · exact S.2.2 q0 h
        · exact hA1 _ (hL q0 h)⟩ hk.1 hk.2 (by rw [e1]; exact hce) hcv hcl T' rfl X'
    exact ⟨t2, st.trans a1, b1⟩
theorem G_callVX {C : String} {T : u_T} {N1 ci o : Nat} {fs : List Value} (hd : decode cc pc = .ok (.invokevirtual idx, 3)) (hcw : mj_cwV M idx C y ws rm na) (hk0 : k + rm.cells ≤ M.2.2.2.1.cells ∧ n + rm.slots ≤ M.2.2.2.1.slots) (hM : MCX l y ws rm (.ref o :: as) w Ex w1) (hn : as.length = na) (hcl : vwCl[ci]? = some (C, T, N1)) (hw : w[o]? = some (.inr (ci, fs))) (hst : st = as.reverse ++ .ref o :: rest) (hcat : Nat.ble (rest.map fun v => v.category).sum 8 = true) : GG l cc M b (.inr (Ex, w1)) pc L st w k n := by
  intro p e s m args below meth c Q D A ad0 N F E ad cy H locs ls r P S hl
  obtain ⟨bytes, maxL, ret, tl, hg, hws, hdd, hR⟩ := hcw
  subst hst
  exact mj_afterX E (vx_runV (As := as.map (mj_v ad)) (rest := rest.map (mj_v ad)) (b := ad o) ⟨F.1, F.2.1, F.2.2.1, F.2.2.2.1, mj_hts F⟩ (hM r.2.2.2 D ad cy H.size) (cwV na (mj_hts F) hg hws rfl rfl hdd hR) ⟨mj_blind, va_recv (mj_hK F) P.1 hcl (mj_w_get hw), mj_pre F P S⟩ rfl (by rw [List.length_map]; exact hn) hl.2.1 (by simp [mj_v]) (lv_room (by rw [mj_cats]; exact Nat.le_of_ble_eq_true hcat)) hd hk0) r P S (mj_hA F) hk0
theorem G_callSX (hd : decode cc pc = .ok (.invokestatic idx, 3)) (hcw : mj_cwS M idx y ws rm na) (hk0 : k + rm.cells ≤ M.2.2.2.1.cells ∧ n + rm.slots ≤ M.2.2.2.1.slots) (hM : MCX l y ws rm as w Ex w1) (hn : as.length = na) (hst : st = as.reverse ++ rest) (hcat : Nat.ble (rest.map fun v => v.category).sum 8 = true) : GG l cc M b (.inr (Ex, w1)) pc L st w k n := by
  intro p e s m args below meth c Q D A ad0 N F E ad cy H locs ls r P S hl
  obtain ⟨bytes, maxL, ret, tl, hg, hws, hdd, hR⟩ := hcw
  subst hst
  exact mj_afterX E (vx_runS (As := as.map (mj_v ad)) (rest := rest.map (mj_v ad)) ⟨F.1, F.2.1, F.2.2.1, F.2.2.2.1, mj_hts F⟩ (hM r.2.2.2 D ad cy H.size) (va_cwS na (mj_hts F) hg hws rfl rfl hdd hR) ⟨mj_blind, mj_pre F P S⟩ rfl (by rw [List.length_map]; exact hn) hl.2.1 (by simp) (lv_room (by rw [mj_cats]; exact Nat.le_of_ble_eq_true hcat)) hd hk0) r P S (mj_hA F) hk0
/-- a number of a table that a static of the class names -/
theorem G_tab {C nm : String} {j : Nat} {i : Fin 4} {f : Nat → Int32} (hd : decode cc pc = .ok (.getstatic idx, 3)) (hd3 : decode cc (pc + 3) = .ok (.iload_n i, 1)) (hd4 : decode cc (pc + 4) = .ok (.iaload, 1)) (hlink : Cond.fieldLink M.1 idx C nm "[I" ∈ M.2.2.1) (hZT : ∀ A U H, mj_Y A U H → ∃ t : Nat, va_Z C nm "[I" (.ref t) A U H ∧ va_T .int t 3 (fun j => .int (f j)) A U H) (hi : L[(i : Nat)]? = some (some (.int (nI j)))) (hj : j < 3) {X : mj_R} (kk : GG l cc M b X (pc + 5) L (.int (f j) :: st) w k n) : GG l cc M b X pc L st w k n := by
  intro p e s m args below meth c Q D A ad0 N F E ad cy H locs ls r P S hl
  obtain ⟨t, hZ, hT⟩ := hZT _ _ _ (mj_hX F).2.2
  refine va_gets F.1 F.2.1 hZ S F.2.2.2.1 (mj_hts F _ hlink) (fun _ h => h) hd ?_
  refine lv_iload_n F.1 F.2.1 hd3 rfl (hl.get hi) ?_
  exact va_ti F.1 F.2.1 hT S (vp_in_nI hj (by omega)) (by rw [nI_clamp (by omega)]; rfl) hd4 (kk p e s m args below meth c Q D A ad0 N F E ad cy H locs ls r P S hl)
end MJX
abbrev rmT3_requireIndex : Room := { frames := 6, cells := 1, slots := 6, locals := 100 }
abbrev rmT3_requireArgument : Room := { frames := 6, cells := 1, slots := 6, locals := 100 }
abbrev rmT3_requireState : Room := { frames := 6, cells := 1, slots := 6, locals := 100 }
abbrev rmT3_requireRange : Room := { frames := 7, cells := 1, slots := 6, locals := 120 }
abbrev MT3_requireRange : mj_M := (RX3, 3, wsX3_requireRange, rmT3_requireRange, false, none)
abbrev rmT3_requireHolder : Room := { frames := 7, cells := 1, slots := 6, locals := 121 }
abbrev MT3_requireHolder : mj_M := (RX3, 1, wsX3_requireHolder, rmT3_requireHolder, false, none)
abbrev rmT3_hearth : Room := { frames := 8, cells := 1, slots := 6, locals := 142 }
abbrev MT3_hearth : mj_M := (RX3, 4, wsX3_hearth, rmT3_hearth, false, none)
abbrev rmT3_track : Room := { frames := 8, cells := 1, slots := 6, locals := 142 }
abbrev MT3_track : mj_M := (RX3, 3, wsX3_track, rmT3_track, false, none)
abbrev rmT3_strength : Room := { frames := 8, cells := 1, slots := 6, locals := 142 }
abbrev MT3_strength : mj_M := (RX3, 3, wsX3_strength, rmT3_strength, false, none)
abbrev rmT3_work : Room := { frames := 7, cells := 1, slots := 6, locals := 121 }
abbrev MT3_work : mj_M := (RX3, 4, wsX3_work, rmT3_work, false, none)
abbrev rmT3_rest : Room := { frames := 7, cells := 1, slots := 6, locals := 121 }
abbrev MT3_rest : mj_M := (RX3, 2, wsX3_rest, rmT3_rest, false, none)
abbrev rmT3_give : Room := { frames := 8, cells := 1, slots := 6, locals := 142 }
abbrev MT3_give : mj_M := (RX3, 7, wsX3_give, rmT3_give, false, none)
abbrev rmT3_pass : Room := { frames := 8, cells := 1, slots := 6, locals := 142 }
abbrev MT3_pass : mj_M := (RX3, 2, wsX3_pass, rmT3_pass, false, none)
abbrev rmT3_set : Room := { frames := 8, cells := 1, slots := 6, locals := 142 }
abbrev MT3_set : mj_M := (RX3, 3, wsX3_set, rmT3_set, false, none)
abbrev rmT3_append : Room := { frames := 8, cells := 1, slots := 6, locals := 142 }
abbrev rmT3_play : Room := { frames := 7, cells := 1, slots := 6, locals := 144 }
abbrev rmT3_undo : Room := { frames := 7, cells := 1, slots := 6, locals := 120 }
abbrev MT3_undo : mj_M := (RX3, 1, wsX3_undo, rmT3_undo, false, none)
abbrev rmT3_restore : Room := { frames := 7, cells := 1, slots := 6, locals := 120 }
abbrev rmT3_hearthOf : Room := { frames := 8, cells := 1, slots := 6, locals := 142 }
abbrev MT3_hearthOf : mj_M := (RX3, 3, wsX3_hearthOf, rmT3_hearthOf, false, none)
abbrev rmT3_bankOf : Room := { frames := 8, cells := 1, slots := 6, locals := 142 }
abbrev MT3_bankOf : mj_M := (RX3, 3, wsX3_bankOf, rmT3_bankOf, false, none)
abbrev rmT3_plot : Room := { frames := 8, cells := 1, slots := 6, locals := 142 }
abbrev MT3_plot : mj_M := (RX3, 4, wsX3_plot, rmT3_plot, false, none)
abbrev rmT3_cutter : Room := { frames := 8, cells := 1, slots := 6, locals := 142 }
abbrev MT3_cutter : mj_M := (RX3, 3, wsX3_cutter, rmT3_cutter, false, none)
abbrev rmT3_rain : Room := { frames := 7, cells := 1, slots := 6, locals := 120 }
abbrev MT3_rain : mj_M := (RX3, 2, wsX3_rain, rmT3_rain, false, none)
abbrev rmT3_count : Room := { frames := 8, cells := 1, slots := 6, locals := 142 }
abbrev MT3_count : mj_M := (RX3, 2, wsX3_count, rmT3_count, false, none)
abbrev rmT3_whyNot : Room := { frames := 7, cells := 1, slots := 6, locals := 121 }
abbrev MT3_whyNot : mj_M := (RX3, 4, wsX3_whyNot, rmT3_whyNot, false, none)
abbrev rmT3_ifPassed : Room := { frames := 8, cells := 1, slots := 6, locals := 142 }
abbrev rmT3_enoughIn : Room := { frames := 7, cells := 1, slots := 6, locals := 121 }
abbrev rmT3_bestBank : Room := { frames := 7, cells := 1, slots := 6, locals := 121 }
theorem kT3_requireRange_X3_requireArgument : mj_cwS MT3_requireRange 80 yX3_requireArgument wsX3_requireArgument rmT3_requireArgument 1 := ⟨_, _, _, _, gX3_requireRange_X3_requireArgument, rfl, by decide +kernel, by decide⟩
theorem kT3_requireHolder_X3_requireIndex : mj_cwS MT3_requireHolder 38 yX3_requireIndex wsX3_requireIndex rmT3_requireIndex 2 := ⟨_, _, _, _, gX3_requireHolder_X3_requireIndex, rfl, by decide +kernel, by decide⟩
theorem kT3_hearth_X3_requireIndex : mj_cwS MT3_hearth 38 yX3_requireIndex wsX3_requireIndex rmT3_requireIndex 2 := ⟨_, _, _, _, gX3_hearth_X3_requireIndex, rfl, by decide +kernel, by decide⟩
theorem kT3_hearth_X3_requireRange : mj_cwS MT3_hearth 42 yX3_requireRange wsX3_requireRange rmT3_requireRange 3 := ⟨_, _, _, _, gX3_hearth_X3_requireRange, rfl, by decide +kernel, by decide⟩
theorem kT3_track_X3_requireIndex : mj_cwS MT3_track 38 yX3_requireIndex wsX3_requireIndex rmT3_requireIndex 2 := ⟨_, _, _, _, gX3_track_X3_requireIndex, rfl, by decide +kernel, by decide⟩
theorem kT3_track_X3_requireRange : mj_cwS MT3_track 42 yX3_requireRange wsX3_requireRange rmT3_requireRange 3 := ⟨_, _, _, _, gX3_track_X3_requireRange, rfl, by decide +kernel, by decide⟩
theorem kT3_strength_X3_requireIndex : mj_cwS MT3_strength 38 yX3_requireIndex wsX3_requireIndex rmT3_requireIndex 2 := ⟨_, _, _, _, gX3_strength_X3_requireIndex, rfl, by decide +kernel, by decide⟩
theorem kT3_strength_X3_requireRange : mj_cwS MT3_strength 42 yX3_requireRange wsX3_requireRange rmT3_requireRange 3 := ⟨_, _, _, _, gX3_strength_X3_requireRange, rfl, by decide +kernel, by decide⟩
theorem kT3_work_X3_requireIndex : mj_cwS MT3_work 38 yX3_requireIndex wsX3_requireIndex rmT3_requireIndex 2 := ⟨_, _, _, _, gX3_work_X3_requireIndex, rfl, by decide +kernel, by decide⟩
theorem kT3_work_X3_requireState : mj_cwS MT3_work 60 yX3_requireState wsX3_requireState rmT3_requireState 1 := ⟨_, _, _, _, gX3_work_X3_requireState, rfl, by decide +kernel, by decide⟩
theorem kT3_rest_X3_requireIndex : mj_cwS MT3_rest 38 yX3_requireIndex wsX3_requireIndex rmT3_requireIndex 2 := ⟨_, _, _, _, gX3_rest_X3_requireIndex, rfl, by decide +kernel, by decide⟩
theorem kT3_give_X3_requireHolder : mj_cwS MT3_give 77 yX3_requireHolder wsX3_requireHolder rmT3_requireHolder 1 := ⟨_, _, _, _, gX3_give_X3_requireHolder, rfl, by decide +kernel, by decide⟩
theorem kT3_give_X3_requireIndex : mj_cwS MT3_give 38 yX3_requireIndex wsX3_requireIndex rmT3_requireIndex 2 := ⟨_, _, _, _, gX3_give_X3_requireIndex, rfl, by decide +kernel, by decide⟩
theorem kT3_give_X3_requireRange : mj_cwS MT3_give 42 yX3_requireRange wsX3_requireRange rmT3_requireRange 3 := ⟨_, _, _, _, gX3_give_X3_requireRange, rfl, by decide +kernel, by decide⟩
theorem kT3_give_X3_requireArgument : mj_cwS MT3_give 80 yX3_requireArgument wsX3_requireArgument rmT3_requireArgument 1 := ⟨_, _, _, _, gX3_give_X3_requireArgument, rfl, by decide +kernel, by decide⟩
theorem kT3_give_X3_requireState : mj_cwS MT3_give 60 yX3_requireState wsX3_requireState rmT3_requireState 1 := ⟨_, _, _, _, gX3_give_X3_requireState, rfl, by decide +kernel, by decide⟩
theorem kT3_pass_X3_requireRange : mj_cwS MT3_pass 42 yX3_requireRange wsX3_requireRange rmT3_requireRange 3 := ⟨_, _, _, _, gX3_pass_X3_requireRange, rfl, by decide +kernel, by decide⟩
theorem kT3_set_X3_requireIndex : mj_cwS MT3_set 38 yX3_requireIndex wsX3_requireIndex rmT3_requireIndex 2 := ⟨_, _, _, _, gX3_set_X3_requireIndex, rfl, by decide +kernel, by decide⟩
theorem kT3_set_X3_requireRange : mj_cwS MT3_set 42 yX3_requireRange wsX3_requireRange rmT3_requireRange 3 := ⟨_, _, _, _, gX3_set_X3_requireRange, rfl, by decide +kernel, by decide⟩
theorem kT3_undo_X3_requireState : mj_cwS MT3_undo 60 yX3_requireState wsX3_requireState rmT3_requireState 1 := ⟨_, _, _, _, gX3_undo_X3_requireState, rfl, by decide +kernel, by decide⟩
theorem kT3_hearthOf_X3_requireIndex : mj_cwS MT3_hearthOf 38 yX3_requireIndex wsX3_requireIndex rmT3_requireIndex 2 := ⟨_, _, _, _, gX3_hearthOf_X3_requireIndex, rfl, by decide +kernel, by decide⟩
theorem kT3_hearthOf_X3_requireRange : mj_cwS MT3_hearthOf 42 yX3_requireRange wsX3_requireRange rmT3_requireRange 3 := ⟨_, _, _, _, gX3_hearthOf_X3_requireRange, rfl, by decide +kernel, by decide⟩
theorem kT3_bankOf_X3_requireIndex : mj_cwS MT3_bankOf 38 yX3_requireIndex wsX3_requireIndex rmT3_requireIndex 2 := ⟨_, _, _, _, gX3_bankOf_X3_requireIndex, rfl, by decide +kernel, by decide⟩
theorem kT3_bankOf_X3_requireRange : mj_cwS MT3_bankOf 42 yX3_requireRange wsX3_requireRange rmT3_requireRange 3 := ⟨_, _, _, _, gX3_bankOf_X3_requireRange, rfl, by decide +kernel, by decide⟩
theorem kT3_plot_X3_requireIndex : mj_cwS MT3_plot 38 yX3_requireIndex wsX3_requireIndex rmT3_requireIndex 2 := ⟨_, _, _, _, gX3_plot_X3_requireIndex, rfl, by decide +kernel, by decide⟩
theorem kT3_plot_X3_requireRange : mj_cwS MT3_plot 42 yX3_requireRange wsX3_requireRange rmT3_requireRange 3 := ⟨_, _, _, _, gX3_plot_X3_requireRange, rfl, by decide +kernel, by decide⟩
theorem kT3_cutter_X3_requireIndex : mj_cwS MT3_cutter 38 yX3_requireIndex wsX3_requireIndex rmT3_requireIndex 2 := ⟨_, _, _, _, gX3_cutter_X3_requireIndex, rfl, by decide +kernel, by decide⟩
theorem kT3_cutter_X3_requireRange : mj_cwS MT3_cutter 42 yX3_requireRange wsX3_requireRange rmT3_requireRange 3 := ⟨_, _, _, _, gX3_cutter_X3_requireRange, rfl, by decide +kernel, by decide⟩
theorem kT3_rain_X3_requireArgument : mj_cwS MT3_rain 80 yX3_requireArgument wsX3_requireArgument rmT3_requireArgument 1 := ⟨_, _, _, _, gX3_rain_X3_requireArgument, rfl, by decide +kernel, by decide⟩
theorem kT3_count_X3_requireRange : mj_cwS MT3_count 42 yX3_requireRange wsX3_requireRange rmT3_requireRange 3 := ⟨_, _, _, _, gX3_count_X3_requireRange, rfl, by decide +kernel, by decide⟩
theorem kT3_whyNot_X3_requireIndex : mj_cwS MT3_whyNot 38 yX3_requireIndex wsX3_requireIndex rmT3_requireIndex 2 := ⟨_, _, _, _, gX3_whyNot_X3_requireIndex, rfl, by decide +kernel, by decide⟩
section XD
variable {l : Launch} {xp lp ap tp up hp rp kp sp yp zp : Nat} {Ω : CT}
theorem t_requireArgument (hl : l.stackTraces = false) {w : mj_W} : MCX l yX3_requireArgument wsX3_requireArgument rmT3_requireArgument [.int 0] (w) "java/lang/IllegalArgumentException" (w) := by
  refine mj_MCX (cc := cX3_requireArgument) (nl := 1) (ret := none) (by decide +kernel) rfl (Nat.le_of_ble_eq_true rfl) ?_
  show GG l cX3_requireArgument MT3_requireArgument false (.inr ("java/lang/IllegalArgumentException", w)) 0 [some (.int 0)] [] (w) 0 0
  refine G_iload_n dX3_requireArgument_0 rfl ?_
  refine G_if_neN (a := 0) 14 dX3_requireArgument_1 (by decide) (by omega) (fun c1 => ?_) (fun c1 => ?_)
  · exact (show False by omega).elim
  · exact G_throwS hl hA_th dX3_requireArgument_4 dX3_requireArgument_7 dX3_requireArgument_8 dX3_requireArgument_10 dX3_requireArgument_13 ⟨by decide, by decide, by decide, by decide⟩
theorem t_requireState (hl : l.stackTraces = false) {w : mj_W} : MCX l yX3_requireState wsX3_requireState rmT3_requireState [.int 0] (w) "java/lang/IllegalStateException" (w) := by
  refine mj_MCX (cc := cX3_requireState) (nl := 1) (ret := none) (by decide +kernel) rfl (Nat.le_of_ble_eq_true rfl) ?_
  show GG l cX3_requireState MT3_requireState false (.inr ("java/lang/IllegalStateException", w)) 0 [some (.int 0)] [] (w) 0 0
  refine G_iload_n dX3_requireState_0 rfl ?_
  refine G_if_neN (a := 0) 14 dX3_requireState_1 (by decide) (by omega) (fun c1 => ?_) (fun c1 => ?_)
  · exact (show False by omega).elim
  · exact G_throwS hl hS_th dX3_requireState_4 dX3_requireState_7 dX3_requireState_8 dX3_requireState_10 dX3_requireState_13 ⟨by decide, by decide, by decide, by decide⟩
theorem t_requireIndex (hl : l.stackTraces = false) {w : mj_W} {x y : Int32} (h : ¬ (0 ≤ x ∧ x < y)) : MCX l yX3_requireIndex wsX3_requireIndex rmT3_requireIndex [.int x, .int y] (w) "java/lang/IndexOutOfBoundsException" (w) := by
  refine mj_MCX (cc := cX3_requireIndex) (nl := 2) (ret := none) (by decide +kernel) rfl (Nat.le_of_ble_eq_true rfl) ?_
  show GG l cX3_requireIndex MT3_requireIndex false (.inr ("java/lang/IndexOutOfBoundsException", w)) 0 [some (.int x), some (.int y)] [] (w) 0 0
  refine G_iload_n dX3_requireIndex_0 rfl ?_
  refine G_if_lt 9 dX3_requireIndex_1 (by decide) (fun c1 => ?_) (fun c1 => ?_)
  · exact G_throwS hl hI_th dX3_requireIndex_9 dX3_requireIndex_12 dX3_requireIndex_13 dX3_requireIndex_15 dX3_requireIndex_18 ⟨by decide, by decide, by decide, by decide⟩
  · refine G_iload_n dX3_requireIndex_4 rfl ?_
    refine G_iload_n dX3_requireIndex_5 rfl ?_
    refine G_icmp_lt 19 dX3_requireIndex_6 (by decide) (fun c6 => ?_) (fun c6 => ?_)
    · exact absurd ⟨Int32.not_lt.mp c1, c6⟩ h
    · exact G_throwS hl hI_th dX3_requireIndex_9 dX3_requireIndex_12 dX3_requireIndex_13 dX3_requireIndex_15 dX3_requireIndex_18 ⟨by decide, by decide, by decide, by decide⟩
theorem t_requireRange (hl : l.stackTraces = false) {w : mj_W} {x y z : Int32} (h : ¬ (y ≤ x ∧ x ≤ z)) : MCX l yX3_requireRange wsX3_requireRange rmT3_requireRange [.int x, .int y, .int z] (w) "java/lang/IllegalArgumentException" (w) := by
  refine mj_MCX (cc := cX3_requireRange) (nl := 3) (ret := none) (by decide +kernel) rfl (Nat.le_of_ble_eq_true rfl) ?_
  show GG l cX3_requireRange MT3_requireRange false (.inr ("java/lang/IllegalArgumentException", w)) 0 [some (.int x), some (.int y), some (.int z)] [] (w) 0 0
  refine G_iload_n dX3_requireRange_0 rfl ?_
  refine G_iload_n dX3_requireRange_1 rfl ?_
  refine G_icmp_lt 14 dX3_requireRange_2 (by decide) (fun c2 => ?_) (fun c2 => ?_)
  · refine G_iconst (v := 0) dX3_requireRange_14 (by decide) ?_
    exact G_callSX dX3_requireRange_15 kT3_requireRange_X3_requireArgument (by decide) (t_requireArgument hl) rfl rfl rfl
  · refine G_iload_n dX3_requireRange_5 rfl ?_
    refine G_iload_n dX3_requireRange_6 rfl ?_
    refine G_icmp_gt 14 dX3_requireRange_7 (by decide) (fun c7 => ?_) (fun c7 => ?_)
    · refine G_iconst (v := 0) dX3_requireRange_14 (by decide) ?_
      exact G_callSX dX3_requireRange_15 kT3_requireRange_X3_requireArgument (by decide) (t_requireArgument hl) rfl rfl rfl
    · exact absurd ⟨Int32.not_lt.mp c2, Int32.not_lt.mp c7⟩ h
theorem t_requireHolder (hl : l.stackTraces = false) {w : mj_W} {x : Int32} (h : ¬ (-1 ≤ x ∧ x ≤ 4)) : MCX l yX3_requireHolder wsX3_requireHolder rmT3_requireHolder [.int x] (w) "java/lang/IndexOutOfBoundsException" (w) := by
  refine mj_MCX (cc := cX3_requireHolder) (nl := 1) (ret := none) (by decide +kernel) rfl (Nat.le_of_ble_eq_true rfl) ?_
  show GG l cX3_requireHolder MT3_requireHolder false (.inr ("java/lang/IndexOutOfBoundsException", w)) 0 [some (.int x)] [] (w) 0 0
  refine G_iload_n dX3_requireHolder_0 rfl ?_
  refine G_iconst (v := (-1)) dX3_requireHolder_1 (by decide) ?_
  refine G_icmp_eq 10 dX3_requireHolder_2 (by decide) (fun c2 => ?_) (fun c2 => ?_)
  · exact absurd (by rw [c2]; exact ⟨by decide, by decide⟩) h
  · refine G_iload_n dX3_requireHolder_5 rfl ?_
    refine G_iconst (v := 5) dX3_requireHolder_6 (by decide) ?_
    exact G_callSX dX3_requireHolder_7 kT3_requireHolder_X3_requireIndex (by decide) (t_requireIndex hl (fun z => h ⟨Int32.le_trans (by decide) z.1, lt_le (by decide) z.2⟩)) rfl rfl rfl
theorem c_reqHolderX {w : mj_W} {x : Int32} (h : -1 ≤ x ∧ x ≤ 4) : MC l yX3_requireHolder wsX3_requireHolder rmX3_requireHolder false [.int x] (w) none (w) := by
  by_cases h0 : x < 0
  · have e : x = -1 := Int32.le_antisymm (lt_le (by decide) h0) h.1
    subst e
    exact c_reqHolderN
  · obtain ⟨j, hj, rfl⟩ := nI_of2 (n := 4) (by decide) h0 h.2
    exact c_reqHolder (by omega)
theorem c_reqRangeX {w : mj_W} {v a b : Int32} (h : a ≤ v ∧ v ≤ b) : MC l yX3_requireRange wsX3_requireRange rmX3_requireRange false [.int v, .int a, .int b] (w) none (w) := by
  refine mj_MC (cc := cX3_requireRange) (nl := 3) (ret := none) (plainFor_of_name (by decide)) rfl (rfl) (Nat.le_of_ble_eq_true rfl) ?_
  show GG l cX3_requireRange MX3_requireRange false (.inl (none, w)) 0 [some (.int v), some (.int a), some (.int b)] [] (w) 0 0
  refine G_iload_n dX3_requireRange_0 rfl ?_
  refine G_iload_n dX3_requireRange_1 rfl ?_
  refine G_icmp_lt 14 dX3_requireRange_2 (by decide) (fun c2 => ?_) (fun c2 => ?_)
  · exact absurd h.1 (Int32.not_le.mpr c2)
  · refine G_iload_n dX3_requireRange_5 rfl ?_
    refine G_iload_n dX3_requireRange_6 rfl ?_
    refine G_icmp_gt 14 dX3_requireRange_7 (by decide) (fun c7 => ?_) (fun c7 => ?_)
    · exact absurd h.2 (Int32.not_le.mpr c7)
    · refine G_iconst (v := 1) dX3_requireRange_10 (by decide) ?_
      refine G_goto 15 dX3_requireRange_11 (by decide) ?_
      refine G_callSv dX3_requireRange_15 kX3_requireRange_X3_requireArgument ⟨rfl, rfl⟩ ⟨Nat.zero_le _, Nat.zero_le _⟩ (c_reqArgument) rfl rfl rfl ?_
      exact G_vret dX3_requireRange_18 ⟨Nat.zero_le _, Nat.zero_le _⟩ (rfl)
theorem x_hearth_1 (hl : l.stackTraces = false) {w : mj_W} {x : Int32} (h1 : ¬ (0 ≤ x ∧ x ≤ 4)) {wd y : Int32} : MCX l yX3_hearth wsX3_hearth rmT3_hearth [.ref xp, .int x, .int wd, .int y] (w) "java/lang/IndexOutOfBoundsException" (w) := by
  refine mj_MCX (cc := cX3_hearth) (nl := 4) (ret := (some .int)) (by decide +kernel) rfl (Nat.le_of_ble_eq_true rfl) ?_
  show GG l cX3_hearth MT3_hearth false (.inr ("java/lang/IndexOutOfBoundsException", w)) 0 [some (.ref xp), some (.int x), some (.int wd), some (.int y)] [] (w) 0 0
  refine G_iload_n dX3_hearth_0 rfl ?_
  refine G_iconst (v := 5) dX3_hearth_1 (by decide) ?_
  exact G_callSX dX3_hearth_2 kT3_hearth_X3_requireIndex (by decide) (t_requireIndex hl (fun z => h1 ⟨z.1, lt_le (by decide) z.2⟩)) rfl rfl rfl
theorem x_hearth_2 (hl : l.stackTraces = false) {w : mj_W} {h : Nat} (hh : h < 5) {wd : Int32} {y : Int32} (h2 : ¬ (50 ≤ y ∧ y ≤ 900))  : MCX l yX3_hearth wsX3_hearth rmT3_hearth [.ref xp, .int (nI (h)), .int wd, .int y] (w) "java/lang/IllegalArgumentException" (w) := by
  refine mj_MCX (cc := cX3_hearth) (nl := 4) (ret := (some .int)) (by decide +kernel) rfl (Nat.le_of_ble_eq_true rfl) ?_
  show GG l cX3_hearth MT3_hearth false (.inr ("java/lang/IllegalArgumentException", w)) 0 [some (.ref xp), some (.int (nI (h))), some (.int wd), some (.int y)] [] (w) 0 0
  refine G_iload_n dX3_hearth_0 rfl ?_
  refine G_iconst (v := 5) dX3_hearth_1 (by decide) ?_
  refine G_callSv dX3_hearth_2 kX3_hearth_X3_requireIndex ⟨rfl, rfl⟩ ⟨Nat.zero_le _, Nat.zero_le _⟩ (c_reqIndex (a := h) (b := 5) (by omega) (by omega)) rfl rfl rfl ?_
  refine G_iload_n dX3_hearth_5 rfl ?_
  refine G_bipush (v := 50) dX3_hearth_6 (by decide) ?_
  refine G_sipush (v := 900) dX3_hearth_8 (by decide) ?_
  exact G_callSX dX3_hearth_11 kT3_hearth_X3_requireRange (by decide) (t_requireRange hl h2) rfl rfl rfl
theorem x_track_1 (hl : l.stackTraces = false) {w : mj_W} {x : Int32} (h1 : ¬ (0 ≤ x ∧ x ≤ 3)) {y : Int32} : MCX l yX3_track wsX3_track rmT3_track [.ref xp, .int x, .int y] (w) "java/lang/IndexOutOfBoundsException" (w) := by
  refine mj_MCX (cc := cX3_track) (nl := 3) (ret := (some .int)) (by decide +kernel) rfl (Nat.le_of_ble_eq_true rfl) ?_
  show GG l cX3_track MT3_track false (.inr ("java/lang/IndexOutOfBoundsException", w)) 0 [some (.ref xp), some (.int x), some (.int y)] [] (w) 0 0
  refine G_iload_n dX3_track_0 rfl ?_
  refine G_iconst (v := 4) dX3_track_1 (by decide) ?_
  exact G_callSX dX3_track_2 kT3_track_X3_requireIndex (by decide) (t_requireIndex hl (fun z => h1 ⟨z.1, lt_le (by decide) z.2⟩)) rfl rfl rfl
theorem x_track_2 (hl : l.stackTraces = false) {w : mj_W} {b : Nat} (hb : b < 4) {y : Int32} (h2 : ¬ (10 ≤ y ∧ y ≤ 90))  : MCX l yX3_track wsX3_track rmT3_track [.ref xp, .int (nI (b)), .int y] (w) "java/lang/IllegalArgumentException" (w) := by
  refine mj_MCX (cc := cX3_track) (nl := 3) (ret := (some .int)) (by decide +kernel) rfl (Nat.le_of_ble_eq_true rfl) ?_
  show GG l cX3_track MT3_track false (.inr ("java/lang/IllegalArgumentException", w)) 0 [some (.ref xp), some (.int (nI (b))), some (.int y)] [] (w) 0 0
  refine G_iload_n dX3_track_0 rfl ?_
  refine G_iconst (v := 4) dX3_track_1 (by decide) ?_
  refine G_callSv dX3_track_2 kX3_track_X3_requireIndex ⟨rfl, rfl⟩ ⟨Nat.zero_le _, Nat.zero_le _⟩ (c_reqIndex (a := b) (b := 4) (by omega) (by omega)) rfl rfl rfl ?_
  refine G_iload_n dX3_track_5 rfl ?_
  refine G_bipush (v := 10) dX3_track_6 (by decide) ?_
  refine G_bipush (v := 90) dX3_track_8 (by decide) ?_
  exact G_callSX dX3_track_10 kT3_track_X3_requireRange (by decide) (t_requireRange hl h2) rfl rfl rfl
theorem x_strength_1 (hl : l.stackTraces = false) {w : mj_W} {x : Int32} (h1 : ¬ (0 ≤ x ∧ x ≤ 5)) {y : Int32} : MCX l yX3_strength wsX3_strength rmT3_strength [.ref xp, .int x, .int y] (w) "java/lang/IndexOutOfBoundsException" (w) := by
  refine mj_MCX (cc := cX3_strength) (nl := 3) (ret := (some .int)) (by decide +kernel) rfl (Nat.le_of_ble_eq_true rfl) ?_
  show GG l cX3_strength MT3_strength false (.inr ("java/lang/IndexOutOfBoundsException", w)) 0 [some (.ref xp), some (.int x), some (.int y)] [] (w) 0 0
  refine G_iload_n dX3_strength_0 rfl ?_
  refine G_bipush (v := 6) dX3_strength_1 (by decide) ?_
  exact G_callSX dX3_strength_3 kT3_strength_X3_requireIndex (by decide) (t_requireIndex hl (fun z => h1 ⟨z.1, lt_le (by decide) z.2⟩)) rfl rfl rfl
theorem x_strength_2 (hl : l.stackTraces = false) {w : mj_W} {c : Nat} (hc : c < 6) {y : Int32} (h2 : ¬ (5 ≤ y ∧ y ≤ 40))  : MCX l yX3_strength wsX3_strength rmT3_strength [.ref xp, .int (nI (c)), .int y] (w) "java/lang/IllegalArgumentException" (w) := by
  refine mj_MCX (cc := cX3_strength) (nl := 3) (ret := (some .int)) (by decide +kernel) rfl (Nat.le_of_ble_eq_true rfl) ?_
  show GG l cX3_strength MT3_strength false (.inr ("java/lang/IllegalArgumentException", w)) 0 [some (.ref xp), some (.int (nI (c))), some (.int y)] [] (w) 0 0
  refine G_iload_n dX3_strength_0 rfl ?_
  refine G_bipush (v := 6) dX3_strength_1 (by decide) ?_
  refine G_callSv dX3_strength_3 kX3_strength_X3_requireIndex ⟨rfl, rfl⟩ ⟨Nat.zero_le _, Nat.zero_le _⟩ (c_reqIndex (a := c) (b := 6) (by omega) (by omega)) rfl rfl rfl ?_
  refine G_iload_n dX3_strength_6 rfl ?_
  refine G_iconst (v := 5) dX3_strength_7 (by decide) ?_
  refine G_bipush (v := 40) dX3_strength_8 (by decide) ?_
  exact G_callSX dX3_strength_10 kT3_strength_X3_requireRange (by decide) (t_requireRange hl h2) rfl rfl rfl
theorem x_work_1c (hl : l.stackTraces = false) {w : mj_W} {x : Int32} (h1 : ¬ (0 ≤ x ∧ x ≤ 5)) {y z : Int32} : MCX l yX3_work wsX3_work rmT3_work [.ref xp, .int x, .int y, .int z] (w) "java/lang/IndexOutOfBoundsException" (w) := by
  refine mj_MCX (cc := cX3_work) (nl := 4) (ret := (some .int)) (by decide +kernel) rfl (Nat.le_of_ble_eq_true rfl) ?_
  show GG l cX3_work MT3_work false (.inr ("java/lang/IndexOutOfBoundsException", w)) 0 [some (.ref xp), some (.int x), some (.int y), some (.int z)] [] (w) 0 0
  refine G_iload_n dX3_work_0 rfl ?_
  refine G_bipush (v := 6) dX3_work_1 (by decide) ?_
  exact G_callSX dX3_work_3 kT3_work_X3_requireIndex (by decide) (t_requireIndex hl (fun z => h1 ⟨z.1, lt_le (by decide) z.2⟩)) rfl rfl rfl
theorem x_work_1h (hl : l.stackTraces = false) {w : mj_W} {c : Nat} (hc : c < 6) {y : Int32} (h2 : ¬ (0 ≤ y ∧ y ≤ 4)) {z : Int32} : MCX l yX3_work wsX3_work rmT3_work [.ref xp, .int (nI (c)), .int y, .int z] (w) "java/lang/IndexOutOfBoundsException" (w) := by
  refine mj_MCX (cc := cX3_work) (nl := 4) (ret := (some .int)) (by decide +kernel) rfl (Nat.le_of_ble_eq_true rfl) ?_
  show GG l cX3_work MT3_work false (.inr ("java/lang/IndexOutOfBoundsException", w)) 0 [some (.ref xp), some (.int (nI (c))), some (.int y), some (.int z)] [] (w) 0 0
  refine G_iload_n dX3_work_0 rfl ?_
  refine G_bipush (v := 6) dX3_work_1 (by decide) ?_
  refine G_callSv dX3_work_3 kX3_work_X3_requireIndex ⟨rfl, rfl⟩ ⟨Nat.zero_le _, Nat.zero_le _⟩ (c_reqIndex (a := c) (b := 6) (by omega) (by omega)) rfl rfl rfl ?_
  refine G_iload_n dX3_work_6 rfl ?_
  refine G_iconst (v := 5) dX3_work_7 (by decide) ?_
  exact G_callSX dX3_work_8 kT3_work_X3_requireIndex (by decide) (t_requireIndex hl (fun z => h2 ⟨z.1, lt_le (by decide) z.2⟩)) rfl rfl rfl
theorem x_work_1b (hl : l.stackTraces = false) {w : mj_W} {c : Nat} (hc : c < 6) {h : Nat} (hh : h < 5) {z : Int32} (h3 : ¬ (0 ≤ z ∧ z ≤ 3))  : MCX l yX3_work wsX3_work rmT3_work [.ref xp, .int (nI (c)), .int (nI (h)), .int z] (w) "java/lang/IndexOutOfBoundsException" (w) := by
  refine mj_MCX (cc := cX3_work) (nl := 4) (ret := (some .int)) (by decide +kernel) rfl (Nat.le_of_ble_eq_true rfl) ?_
  show GG l cX3_work MT3_work false (.inr ("java/lang/IndexOutOfBoundsException", w)) 0 [some (.ref xp), some (.int (nI (c))), some (.int (nI (h))), some (.int z)] [] (w) 0 0
  refine G_iload_n dX3_work_0 rfl ?_
  refine G_bipush (v := 6) dX3_work_1 (by decide) ?_
  refine G_callSv dX3_work_3 kX3_work_X3_requireIndex ⟨rfl, rfl⟩ ⟨Nat.zero_le _, Nat.zero_le _⟩ (c_reqIndex (a := c) (b := 6) (by omega) (by omega)) rfl rfl rfl ?_
  refine G_iload_n dX3_work_6 rfl ?_
  refine G_iconst (v := 5) dX3_work_7 (by decide) ?_
  refine G_callSv dX3_work_8 kX3_work_X3_requireIndex ⟨rfl, rfl⟩ ⟨Nat.zero_le _, Nat.zero_le _⟩ (c_reqIndex (a := h) (b := 5) (by omega) (by omega)) rfl rfl rfl ?_
  refine G_iload_n dX3_work_11 rfl ?_
  refine G_iconst (v := 4) dX3_work_12 (by decide) ?_
  exact G_callSX dX3_work_13 kT3_work_X3_requireIndex (by decide) (t_requireIndex hl (fun z => h3 ⟨z.1, lt_le (by decide) z.2⟩)) rfl rfl rfl
theorem x_whyNot_1c (hl : l.stackTraces = false) {w : mj_W} {x : Int32} (h1 : ¬ (0 ≤ x ∧ x ≤ 5)) {y z : Int32} : MCX l yX3_whyNot wsX3_whyNot rmT3_whyNot [.ref xp, .int x, .int y, .int z] (w) "java/lang/IndexOutOfBoundsException" (w) := by
  refine mj_MCX (cc := cX3_whyNot) (nl := 4) (ret := (some .int)) (by decide +kernel) rfl (Nat.le_of_ble_eq_true rfl) ?_
  show GG l cX3_whyNot MT3_whyNot false (.inr ("java/lang/IndexOutOfBoundsException", w)) 0 [some (.ref xp), some (.int x), some (.int y), some (.int z)] [] (w) 0 0
  refine G_iload_n dX3_whyNot_0 rfl ?_
  refine G_bipush (v := 6) dX3_whyNot_1 (by decide) ?_
  exact G_callSX dX3_whyNot_3 kT3_whyNot_X3_requireIndex (by decide) (t_requireIndex hl (fun z => h1 ⟨z.1, lt_le (by decide) z.2⟩)) rfl rfl rfl
theorem x_whyNot_1h (hl : l.stackTraces = false) {w : mj_W} {c : Nat} (hc : c < 6) {y : Int32} (h2 : ¬ (0 ≤ y ∧ y ≤ 4)) {z : Int32} : MCX l yX3_whyNot wsX3_whyNot rmT3_whyNot [.ref xp, .int (nI (c)), .int y, .int z] (w) "java/lang/IndexOutOfBoundsException" (w) := by
  refine mj_MCX (cc := cX3_whyNot) (nl := 4) (ret := (some .int)) (by decide +kernel) rfl (Nat.le_of_ble_eq_true rfl) ?_
  show GG l cX3_whyNot MT3_whyNot false (.inr ("java/lang/IndexOutOfBoundsException", w)) 0 [some (.ref xp), some (.int (nI (c))), some (.int y), some (.int z)] [] (w) 0 0
  refine G_iload_n dX3_whyNot_0 rfl ?_
  refine G_bipush (v := 6) dX3_whyNot_1 (by decide) ?_
  refine G_callSv dX3_whyNot_3 kX3_whyNot_X3_requireIndex ⟨rfl, rfl⟩ ⟨Nat.zero_le _, Nat.zero_le _⟩ (c_reqIndex (a := c) (b := 6) (by omega) (by omega)) rfl rfl rfl ?_
  refine G_iload_n dX3_whyNot_6 rfl ?_
  refine G_iconst (v := 5) dX3_whyNot_7 (by decide) ?_
  exact G_callSX dX3_whyNot_8 kT3_whyNot_X3_requireIndex (by decide) (t_requireIndex hl (fun z => h2 ⟨z.1, lt_le (by decide) z.2⟩)) rfl rfl rfl
theorem x_whyNot_1b (hl : l.stackTraces = false) {w : mj_W} {c : Nat} (hc : c < 6) {h : Nat} (hh : h < 5) {z : Int32} (h3 : ¬ (0 ≤ z ∧ z ≤ 3))  : MCX l yX3_whyNot wsX3_whyNot rmT3_whyNot [.ref xp, .int (nI (c)), .int (nI (h)), .int z] (w) "java/lang/IndexOutOfBoundsException" (w) := by
  refine mj_MCX (cc := cX3_whyNot) (nl := 4) (ret := (some .int)) (by decide +kernel) rfl (Nat.le_of_ble_eq_true rfl) ?_
  show GG l cX3_whyNot MT3_whyNot false (.inr ("java/lang/IndexOutOfBoundsException", w)) 0 [some (.ref xp), some (.int (nI (c))), some (.int (nI (h))), some (.int z)] [] (w) 0 0
  refine G_iload_n dX3_whyNot_0 rfl ?_
  refine G_bipush (v := 6) dX3_whyNot_1 (by decide) ?_
  refine G_callSv dX3_whyNot_3 kX3_whyNot_X3_requireIndex ⟨rfl, rfl⟩ ⟨Nat.zero_le _, Nat.zero_le _⟩ (c_reqIndex (a := c) (b := 6) (by omega) (by omega)) rfl rfl rfl ?_
  refine G_iload_n dX3_whyNot_6 rfl ?_
  refine G_iconst (v := 5) dX3_whyNot_7 (by decide) ?_
  refine G_callSv dX3_whyNot_8 kX3_whyNot_X3_requireIndex ⟨rfl, rfl⟩ ⟨Nat.zero_le _, Nat.zero_le _⟩ (c_reqIndex (a := h) (b := 5) (by omega) (by omega)) rfl rfl rfl ?_
  refine G_iload_n dX3_whyNot_11 rfl ?_
  refine G_iconst (v := 4) dX3_whyNot_12 (by decide) ?_
  exact G_callSX dX3_whyNot_13 kT3_whyNot_X3_requireIndex (by decide) (t_requireIndex hl (fun z => h3 ⟨z.1, lt_le (by decide) z.2⟩)) rfl rfl rfl
theorem x_work_2 (hl : l.stackTraces = false) (hΩ : CV xp lp ap tp up hp rp kp sp yp zp Ω) {q f rt R R1 g : mj_S} {T m T1 m1 n : Nat} {c : Nat} (hc : c < 6) {h : Nat} (hh : h < 5) {b : Nat} (hb : b < 4) (hr : ¬ s_why f h b = 0) : MCX l yX3_work wsX3_work rmT3_work [.ref xp, .int (nI (c)), .int (nI (h)), .int (nI (b))] (Ω (row q f) rt R T m R1 T1 m1 g n) "java/lang/IllegalStateException" (Ω (row q f) rt R T m R1 T1 m1 g n) := by
  refine mj_MCX (cc := cX3_work) (nl := 4) (ret := (some .int)) (by decide +kernel) rfl (Nat.le_of_ble_eq_true rfl) ?_
  show GG l cX3_work MT3_work false (.inr ("java/lang/IllegalStateException", Ω (row q f) rt R T m R1 T1 m1 g n)) 0 [some (.ref xp), some (.int (nI (c))), some (.int (nI (h))), some (.int (nI (b)))] [] (Ω (row q f) rt R T m R1 T1 m1 g n) 0 0
  refine G_iload_n dX3_work_0 rfl ?_
  refine G_bipush (v := 6) dX3_work_1 (by decide) ?_
  refine G_callSv dX3_work_3 kX3_work_X3_requireIndex ⟨rfl, rfl⟩ ⟨Nat.zero_le _, Nat.zero_le _⟩ (c_reqIndex (a := c) (b := 6) (by omega) (by omega)) rfl rfl rfl ?_
  refine G_iload_n dX3_work_6 rfl ?_
  refine G_iconst (v := 5) dX3_work_7 (by decide) ?_
  refine G_callSv dX3_work_8 kX3_work_X3_requireIndex ⟨rfl, rfl⟩ ⟨Nat.zero_le _, Nat.zero_le _⟩ (c_reqIndex (a := h) (b := 5) (by omega) (by omega)) rfl rfl rfl ?_
  refine G_iload_n dX3_work_11 rfl ?_
  refine G_iconst (v := 4) dX3_work_12 (by decide) ?_
  refine G_callSv dX3_work_13 kX3_work_X3_requireIndex ⟨rfl, rfl⟩ ⟨Nat.zero_le _, Nat.zero_le _⟩ (c_reqIndex (a := b) (b := 4) (by omega) (by omega)) rfl rfl rfl ?_
  refine G_aload_n dX3_work_16 rfl ?_
  refine G_getf dX3_work_17 fX3_work_12 (hΩ.1 _ _ _ _ _ _ _ _ _ _) (rfl) ?_
  refine G_iload_n dX3_work_20 rfl ?_
  refine G_iload_n dX3_work_21 rfl ?_
  refine G_callVi dX3_work_22 kX3_work_X0_reasonAgainst ⟨rfl, rfl⟩ ⟨Nat.zero_le _, Nat.zero_le _⟩ (c_reasonAgainst ((hΩ.2.1 rt R1 T1 m1 g n).lv R T m) (h := h) (b := b) (by omega) (by omega)) rfl rfl ((((hΩ.2.1 rt R1 T1 m1 g n).lv R T m) _).1) rfl rfl ?_
  refine G_if_ne 32 dX3_work_25 (by decide) (fun c25 => ?_) (fun c25 => ?_)
  · refine G_iconst (v := 0) dX3_work_32 (by decide) ?_
    exact G_callSX dX3_work_33 kT3_work_X3_requireState (by decide) (t_requireState hl) rfl rfl rfl
  · exact absurd c25 hr
theorem x_rest_1 (hl : l.stackTraces = false) {w : mj_W} {x : Int32} (h1 : ¬ (0 ≤ x ∧ x ≤ 5))  : MCX l yX3_rest wsX3_rest rmT3_rest [.ref xp, .int x] (w) "java/lang/IndexOutOfBoundsException" (w) := by
  refine mj_MCX (cc := cX3_rest) (nl := 2) (ret := (some .int)) (by decide +kernel) rfl (Nat.le_of_ble_eq_true rfl) ?_
  show GG l cX3_rest MT3_rest false (.inr ("java/lang/IndexOutOfBoundsException", w)) 0 [some (.ref xp), some (.int x)] [] (w) 0 0
  refine G_iload_n dX3_rest_0 rfl ?_
  refine G_bipush (v := 6) dX3_rest_1 (by decide) ?_
  exact G_callSX dX3_rest_3 kT3_rest_X3_requireIndex (by decide) (t_requireIndex hl (fun z => h1 ⟨z.1, lt_le (by decide) z.2⟩)) rfl rfl rfl
theorem x_pass_1 (hl : l.stackTraces = false) {w : mj_W} {y : Int32} (h2 : ¬ (1 ≤ y ∧ y ≤ 60))  : MCX l yX3_pass wsX3_pass rmT3_pass [.ref xp, .int y] (w) "java/lang/IllegalArgumentException" (w) := by
  refine mj_MCX (cc := cX3_pass) (nl := 2) (ret := (some .int)) (by decide +kernel) rfl (Nat.le_of_ble_eq_true rfl) ?_
  show GG l cX3_pass MT3_pass false (.inr ("java/lang/IllegalArgumentException", w)) 0 [some (.ref xp), some (.int y)] [] (w) 0 0
  refine G_iload_n dX3_pass_0 rfl ?_
  refine G_iconst (v := 1) dX3_pass_1 (by decide) ?_
  refine G_bipush (v := 60) dX3_pass_2 (by decide) ?_
  exact G_callSX dX3_pass_4 kT3_pass_X3_requireRange (by decide) (t_requireRange hl h2) rfl rfl rfl
theorem x_hearthOf_1 (hl : l.stackTraces = false) {w : mj_W} {x : Int32} (h1 : ¬ (0 ≤ x ∧ x ≤ 4)) {y : Int32} : MCX l yX3_hearthOf wsX3_hearthOf rmT3_hearthOf [.ref xp, .int x, .int y] (w) "java/lang/IndexOutOfBoundsException" (w) := by
  refine mj_MCX (cc := cX3_hearthOf) (nl := 3) (ret := (some .int)) (by decide +kernel) rfl (Nat.le_of_ble_eq_true rfl) ?_
  show GG l cX3_hearthOf MT3_hearthOf false (.inr ("java/lang/IndexOutOfBoundsException", w)) 0 [some (.ref xp), some (.int x), some (.int y)] [] (w) 0 0
  refine G_iload_n dX3_hearthOf_0 rfl ?_
  refine G_iconst (v := 5) dX3_hearthOf_1 (by decide) ?_
  exact G_callSX dX3_hearthOf_2 kT3_hearthOf_X3_requireIndex (by decide) (t_requireIndex hl (fun z => h1 ⟨z.1, lt_le (by decide) z.2⟩)) rfl rfl rfl
theorem x_hearthOf_2 (hl : l.stackTraces = false) {w : mj_W} {h : Nat} (hh : h < 5) {y : Int32} (h2 : ¬ (0 ≤ y ∧ y ≤ 11))  : MCX l yX3_hearthOf wsX3_hearthOf rmT3_hearthOf [.ref xp, .int (nI (h)), .int y] (w) "java/lang/IllegalArgumentException" (w) := by
  refine mj_MCX (cc := cX3_hearthOf) (nl := 3) (ret := (some .int)) (by decide +kernel) rfl (Nat.le_of_ble_eq_true rfl) ?_
  show GG l cX3_hearthOf MT3_hearthOf false (.inr ("java/lang/IllegalArgumentException", w)) 0 [some (.ref xp), some (.int (nI (h))), some (.int y)] [] (w) 0 0
  refine G_iload_n dX3_hearthOf_0 rfl ?_
  refine G_iconst (v := 5) dX3_hearthOf_1 (by decide) ?_
  refine G_callSv dX3_hearthOf_2 kX3_hearthOf_X3_requireIndex ⟨rfl, rfl⟩ ⟨Nat.zero_le _, Nat.zero_le _⟩ (c_reqIndex (a := h) (b := 5) (by omega) (by omega)) rfl rfl rfl ?_
  refine G_iload_n dX3_hearthOf_5 rfl ?_
  refine G_iconst (v := 0) dX3_hearthOf_6 (by decide) ?_
  refine G_bipush (v := 11) dX3_hearthOf_7 (by decide) ?_
  exact G_callSX dX3_hearthOf_9 kT3_hearthOf_X3_requireRange (by decide) (t_requireRange hl h2) rfl rfl rfl
theorem x_bankOf_1 (hl : l.stackTraces = false) {w : mj_W} {x : Int32} (h1 : ¬ (0 ≤ x ∧ x ≤ 3)) {y : Int32} : MCX l yX3_bankOf wsX3_bankOf rmT3_bankOf [.ref xp, .int x, .int y] (w) "java/lang/IndexOutOfBoundsException" (w) := by
  refine mj_MCX (cc := cX3_bankOf) (nl := 3) (ret := (some .int)) (by decide +kernel) rfl (Nat.le_of_ble_eq_true rfl) ?_
  show GG l cX3_bankOf MT3_bankOf false (.inr ("java/lang/IndexOutOfBoundsException", w)) 0 [some (.ref xp), some (.int x), some (.int y)] [] (w) 0 0
  refine G_iload_n dX3_bankOf_0 rfl ?_
  refine G_iconst (v := 4) dX3_bankOf_1 (by decide) ?_
  exact G_callSX dX3_bankOf_2 kT3_bankOf_X3_requireIndex (by decide) (t_requireIndex hl (fun z => h1 ⟨z.1, lt_le (by decide) z.2⟩)) rfl rfl rfl
theorem x_bankOf_2 (hl : l.stackTraces = false) {w : mj_W} {b : Nat} (hb : b < 4) {y : Int32} (h2 : ¬ (0 ≤ y ∧ y ≤ 4))  : MCX l yX3_bankOf wsX3_bankOf rmT3_bankOf [.ref xp, .int (nI (b)), .int y] (w) "java/lang/IllegalArgumentException" (w) := by
  refine mj_MCX (cc := cX3_bankOf) (nl := 3) (ret := (some .int)) (by decide +kernel) rfl (Nat.le_of_ble_eq_true rfl) ?_
  show GG l cX3_bankOf MT3_bankOf false (.inr ("java/lang/IllegalArgumentException", w)) 0 [some (.ref xp), some (.int (nI (b))), some (.int y)] [] (w) 0 0
  refine G_iload_n dX3_bankOf_0 rfl ?_
  refine G_iconst (v := 4) dX3_bankOf_1 (by decide) ?_
  refine G_callSv dX3_bankOf_2 kX3_bankOf_X3_requireIndex ⟨rfl, rfl⟩ ⟨Nat.zero_le _, Nat.zero_le _⟩ (c_reqIndex (a := b) (b := 4) (by omega) (by omega)) rfl rfl rfl ?_
  refine G_iload_n dX3_bankOf_5 rfl ?_
  refine G_iconst (v := 0) dX3_bankOf_6 (by decide) ?_
  refine G_iconst (v := 4) dX3_bankOf_7 (by decide) ?_
  exact G_callSX dX3_bankOf_8 kT3_bankOf_X3_requireRange (by decide) (t_requireRange hl h2) rfl rfl rfl
theorem x_plot_1h (hl : l.stackTraces = false) {w : mj_W} {x : Int32} (h1 : ¬ (0 ≤ x ∧ x ≤ 4)) {y z : Int32} : MCX l yX3_plot wsX3_plot rmT3_plot [.ref xp, .int x, .int y, .int z] (w) "java/lang/IndexOutOfBoundsException" (w) := by
  refine mj_MCX (cc := cX3_plot) (nl := 4) (ret := (some .int)) (by decide +kernel) rfl (Nat.le_of_ble_eq_true rfl) ?_
  show GG l cX3_plot MT3_plot false (.inr ("java/lang/IndexOutOfBoundsException", w)) 0 [some (.ref xp), some (.int x), some (.int y), some (.int z)] [] (w) 0 0
  refine G_iload_n dX3_plot_0 rfl ?_
  refine G_iconst (v := 5) dX3_plot_1 (by decide) ?_
  exact G_callSX dX3_plot_2 kT3_plot_X3_requireIndex (by decide) (t_requireIndex hl (fun z => h1 ⟨z.1, lt_le (by decide) z.2⟩)) rfl rfl rfl
theorem x_plot_1b (hl : l.stackTraces = false) {w : mj_W} {h : Nat} (hh : h < 5) {y : Int32} (h2 : ¬ (0 ≤ y ∧ y ≤ 3)) {z : Int32} : MCX l yX3_plot wsX3_plot rmT3_plot [.ref xp, .int (nI (h)), .int y, .int z] (w) "java/lang/IndexOutOfBoundsException" (w) := by
  refine mj_MCX (cc := cX3_plot) (nl := 4) (ret := (some .int)) (by decide +kernel) rfl (Nat.le_of_ble_eq_true rfl) ?_
  show GG l cX3_plot MT3_plot false (.inr ("java/lang/IndexOutOfBoundsException", w)) 0 [some (.ref xp), some (.int (nI (h))), some (.int y), some (.int z)] [] (w) 0 0
  refine G_iload_n dX3_plot_0 rfl ?_
  refine G_iconst (v := 5) dX3_plot_1 (by decide) ?_
  refine G_callSv dX3_plot_2 kX3_plot_X3_requireIndex ⟨rfl, rfl⟩ ⟨Nat.zero_le _, Nat.zero_le _⟩ (c_reqIndex (a := h) (b := 5) (by omega) (by omega)) rfl rfl rfl ?_
  refine G_iload_n dX3_plot_5 rfl ?_
  refine G_iconst (v := 4) dX3_plot_6 (by decide) ?_
  exact G_callSX dX3_plot_7 kT3_plot_X3_requireIndex (by decide) (t_requireIndex hl (fun z => h2 ⟨z.1, lt_le (by decide) z.2⟩)) rfl rfl rfl
theorem x_plot_2 (hl : l.stackTraces = false) {w : mj_W} {h : Nat} (hh : h < 5) {b : Nat} (hb : b < 4) {y : Int32} (h2 : ¬ (0 ≤ y ∧ y ≤ 4))  : MCX l yX3_plot wsX3_plot rmT3_plot [.ref xp, .int (nI (h)), .int (nI (b)), .int y] (w) "java/lang/IllegalArgumentException" (w) := by
  refine mj_MCX (cc := cX3_plot) (nl := 4) (ret := (some .int)) (by decide +kernel) rfl (Nat.le_of_ble_eq_true rfl) ?_
  show GG l cX3_plot MT3_plot false (.inr ("java/lang/IllegalArgumentException", w)) 0 [some (.ref xp), some (.int (nI (h))), some (.int (nI (b))), some (.int y)] [] (w) 0 0
  refine G_iload_n dX3_plot_0 rfl ?_
  refine G_iconst (v := 5) dX3_plot_1 (by decide) ?_
  refine G_callSv dX3_plot_2 kX3_plot_X3_requireIndex ⟨rfl, rfl⟩ ⟨Nat.zero_le _, Nat.zero_le _⟩ (c_reqIndex (a := h) (b := 5) (by omega) (by omega)) rfl rfl rfl ?_
  refine G_iload_n dX3_plot_5 rfl ?_
  refine G_iconst (v := 4) dX3_plot_6 (by decide) ?_
  refine G_callSv dX3_plot_7 kX3_plot_X3_requireIndex ⟨rfl, rfl⟩ ⟨Nat.zero_le _, Nat.zero_le _⟩ (c_reqIndex (a := b) (b := 4) (by omega) (by omega)) rfl rfl rfl ?_
  refine G_iload_n dX3_plot_10 rfl ?_
  refine G_iconst (v := 0) dX3_plot_11 (by decide) ?_
  refine G_iconst (v := 4) dX3_plot_12 (by decide) ?_
  exact G_callSX dX3_plot_13 kT3_plot_X3_requireRange (by decide) (t_requireRange hl h2) rfl rfl rfl
theorem x_cutter_1 (hl : l.stackTraces = false) {w : mj_W} {x : Int32} (h1 : ¬ (0 ≤ x ∧ x ≤ 5)) {y : Int32} : MCX l yX3_cutter wsX3_cutter rmT3_cutter [.ref xp, .int x, .int y] (w) "java/lang/IndexOutOfBoundsException" (w) := by
  refine mj_MCX (cc := cX3_cutter) (nl := 3) (ret := (some .int)) (by decide +kernel) rfl (Nat.le_of_ble_eq_true rfl) ?_
  show GG l cX3_cutter MT3_cutter false (.inr ("java/lang/IndexOutOfBoundsException", w)) 0 [some (.ref xp), some (.int x), some (.int y)] [] (w) 0 0
  refine G_iload_n dX3_cutter_0 rfl ?_
  refine G_bipush (v := 6) dX3_cutter_1 (by decide) ?_
  exact G_callSX dX3_cutter_3 kT3_cutter_X3_requireIndex (by decide) (t_requireIndex hl (fun z => h1 ⟨z.1, lt_le (by decide) z.2⟩)) rfl rfl rfl
theorem x_cutter_2 (hl : l.stackTraces = false) {w : mj_W} {c : Nat} (hc : c < 6) {y : Int32} (h2 : ¬ (0 ≤ y ∧ y ≤ 3))  : MCX l yX3_cutter wsX3_cutter rmT3_cutter [.ref xp, .int (nI (c)), .int y] (w) "java/lang/IllegalArgumentException" (w) := by
  refine mj_MCX (cc := cX3_cutter) (nl := 3) (ret := (some .int)) (by decide +kernel) rfl (Nat.le_of_ble_eq_true rfl) ?_
  show GG l cX3_cutter MT3_cutter false (.inr ("java/lang/IllegalArgumentException", w)) 0 [some (.ref xp), some (.int (nI (c))), some (.int y)] [] (w) 0 0
  refine G_iload_n dX3_cutter_0 rfl ?_
  refine G_bipush (v := 6) dX3_cutter_1 (by decide) ?_
  refine G_callSv dX3_cutter_3 kX3_cutter_X3_requireIndex ⟨rfl, rfl⟩ ⟨Nat.zero_le _, Nat.zero_le _⟩ (c_reqIndex (a := c) (b := 6) (by omega) (by omega)) rfl rfl rfl ?_
  refine G_iload_n dX3_cutter_6 rfl ?_
  refine G_iconst (v := 0) dX3_cutter_7 (by decide) ?_
  refine G_iconst (v := 3) dX3_cutter_8 (by decide) ?_
  exact G_callSX dX3_cutter_9 kT3_cutter_X3_requireRange (by decide) (t_requireRange hl h2) rfl rfl rfl
theorem x_rain_1 (hl : l.stackTraces = false) {w : mj_W} {x : Int32} (h1 : x < 0) : MCX l yX3_rain wsX3_rain rmT3_rain [.ref xp, .int x] (w) "java/lang/IllegalArgumentException" (w) := by
  refine mj_MCX (cc := cX3_rain) (nl := 2) (ret := (some .int)) (by decide +kernel) rfl (Nat.le_of_ble_eq_true rfl) ?_
  show GG l cX3_rain MT3_rain false (.inr ("java/lang/IllegalArgumentException", w)) 0 [some (.ref xp), some (.int x)] [] (w) 0 0
  refine G_iload_n dX3_rain_0 rfl ?_
  refine G_if_lt 8 dX3_rain_1 (by decide) (fun c1 => ?_) (fun c1 => ?_)
  · refine G_iconst (v := 0) dX3_rain_8 (by decide) ?_
    exact G_callSX dX3_rain_9 kT3_rain_X3_requireArgument (by decide) (t_requireArgument hl) rfl rfl rfl
  · exact absurd h1 c1
theorem x_count_1 (hl : l.stackTraces = false) {w : mj_W} {y : Int32} (h2 : ¬ (0 ≤ y ∧ y ≤ 12))  : MCX l yX3_count wsX3_count rmT3_count [.ref xp, .int y] (w) "java/lang/IllegalArgumentException" (w) := by
  refine mj_MCX (cc := cX3_count) (nl := 2) (ret := (some .int)) (by decide +kernel) rfl (Nat.le_of_ble_eq_true rfl) ?_
  show GG l cX3_count MT3_count false (.inr ("java/lang/IllegalArgumentException", w)) 0 [some (.ref xp), some (.int y)] [] (w) 0 0
  refine G_iload_n dX3_count_0 rfl ?_
  refine G_iconst (v := 0) dX3_count_1 (by decide) ?_
  refine G_bipush (v := 12) dX3_count_2 (by decide) ?_
  exact G_callSX dX3_count_4 kT3_count_X3_requireRange (by decide) (t_requireRange hl h2) rfl rfl rfl
theorem x_undo_1 (hl : l.stackTraces = false) (hΩ : CV xp lp ap tp up hp rp kp sp yp zp Ω) {q f rt R R1 g : mj_S} {T m T1 m1 n : Nat}  : MCX l yX3_undo wsX3_undo rmT3_undo [.ref xp] (Ω (row q f) rt R T 0 R1 T1 m1 g n) "java/lang/IllegalStateException" (Ω (row q f) rt R T 0 R1 T1 m1 g n) := by
  refine mj_MCX (cc := cX3_undo) (nl := 1) (ret := (some .int)) (by decide +kernel) rfl (Nat.le_of_ble_eq_true rfl) ?_
  show GG l cX3_undo MT3_undo false (.inr ("java/lang/IllegalStateException", Ω (row q f) rt R T 0 R1 T1 m1 g n)) 0 [some (.ref xp)] [] (Ω (row q f) rt R T 0 R1 T1 m1 g n) 0 0
  refine G_aload_n dX3_undo_0 rfl ?_
  refine G_getf dX3_undo_1 fX3_undo_24 (hΩ.1 _ _ _ _ _ _ _ _ _ _) (rfl) ?_
  refine G_callVi dX3_undo_4 kX3_undo_X1_size ⟨rfl, rfl⟩ ⟨Nat.zero_le _, Nat.zero_le _⟩ (c_size (hΩ.2.1 rt R1 T1 m1 g n)) rfl rfl (((hΩ.2.1 rt R1 T1 m1 g n).2 _ _ _ _).1) rfl rfl ?_
  refine G_if_leN (a := 0) 14 dX3_undo_7 (by decide) (by omega) (fun c7 => ?_) (fun c7 => ?_)
  · refine G_iconst (v := 0) dX3_undo_14 (by decide) ?_
    exact G_callSX dX3_undo_15 kT3_undo_X3_requireState (by decide) (t_requireState hl) rfl rfl rfl
  · exact (show False by omega).elim
theorem x_give_1f (hl : l.stackTraces = false) {w : mj_W} {x y z u : Int32} (h1 : ¬ (-1 ≤ x ∧ x ≤ 4))  : MCX l yX3_give wsX3_give rmT3_give [.ref xp, .int x, .int y, .int z, .int u] (w) "java/lang/IndexOutOfBoundsException" (w) := by
  refine mj_MCX (cc := cX3_give) (nl := 7) (ret := (some .int)) (by decide +kernel) rfl (Nat.le_of_ble_eq_true rfl) ?_
  show GG l cX3_give MT3_give false (.inr ("java/lang/IndexOutOfBoundsException", w)) 0 [some (.ref xp), some (.int x), some (.int y), some (.int z), some (.int u), none, none] [] (w) 0 0
  refine G_iload_n dX3_give_0 rfl ?_
  exact G_callSX dX3_give_1 kT3_give_X3_requireHolder (by decide) (t_requireHolder hl h1) rfl rfl rfl
theorem x_give_1t (hl : l.stackTraces = false) {w : mj_W} {x : Int32} (h1 : -1 ≤ x ∧ x ≤ 4) {y z u : Int32} (h2 : ¬ (-1 ≤ y ∧ y ≤ 4))  : MCX l yX3_give wsX3_give rmT3_give [.ref xp, .int x, .int y, .int z, .int u] (w) "java/lang/IndexOutOfBoundsException" (w) := by
  refine mj_MCX (cc := cX3_give) (nl := 7) (ret := (some .int)) (by decide +kernel) rfl (Nat.le_of_ble_eq_true rfl) ?_
  show GG l cX3_give MT3_give false (.inr ("java/lang/IndexOutOfBoundsException", w)) 0 [some (.ref xp), some (.int x), some (.int y), some (.int z), some (.int u), none, none] [] (w) 0 0
  refine G_iload_n dX3_give_0 rfl ?_
  refine G_callSv dX3_give_1 kX3_give_X3_requireHolder ⟨rfl, rfl⟩ ⟨Nat.zero_le _, Nat.zero_le _⟩ (c_reqHolderX h1) rfl rfl rfl ?_
  refine G_iload_n dX3_give_4 rfl ?_
  exact G_callSX dX3_give_5 kT3_give_X3_requireHolder (by decide) (t_requireHolder hl h2) rfl rfl rfl
theorem x_give_1b (hl : l.stackTraces = false) {w : mj_W} {x : Int32} (h1 : -1 ≤ x ∧ x ≤ 4) {y : Int32} (h2 : -1 ≤ y ∧ y ≤ 4) {z u : Int32} (h3 : ¬ (0 ≤ z ∧ z ≤ 3))  : MCX l yX3_give wsX3_give rmT3_give [.ref xp, .int x, .int y, .int z, .int u] (w) "java/lang/IndexOutOfBoundsException" (w) := by
  refine mj_MCX (cc := cX3_give) (nl := 7) (ret := (some .int)) (by decide +kernel) rfl (Nat.le_of_ble_eq_true rfl) ?_
  show GG l cX3_give MT3_give false (.inr ("java/lang/IndexOutOfBoundsException", w)) 0 [some (.ref xp), some (.int x), some (.int y), some (.int z), some (.int u), none, none] [] (w) 0 0
  refine G_iload_n dX3_give_0 rfl ?_
  refine G_callSv dX3_give_1 kX3_give_X3_requireHolder ⟨rfl, rfl⟩ ⟨Nat.zero_le _, Nat.zero_le _⟩ (c_reqHolderX h1) rfl rfl rfl ?_
  refine G_iload_n dX3_give_4 rfl ?_
  refine G_callSv dX3_give_5 kX3_give_X3_requireHolder ⟨rfl, rfl⟩ ⟨Nat.zero_le _, Nat.zero_le _⟩ (c_reqHolderX h2) rfl rfl rfl ?_
  refine G_iload_n dX3_give_8 rfl ?_
  refine G_iconst (v := 4) dX3_give_9 (by decide) ?_
  exact G_callSX dX3_give_10 kT3_give_X3_requireIndex (by decide) (t_requireIndex hl (fun z => h3 ⟨z.1, lt_le (by decide) z.2⟩)) rfl rfl rfl
theorem x_give_2m (hl : l.stackTraces = false) {w : mj_W} {x : Int32} (h1 : -1 ≤ x ∧ x ≤ 4) {y : Int32} (h2 : -1 ≤ y ∧ y ≤ 4) {b : Nat} (hb : b < 4) {u : Int32} (h4 : ¬ (1 ≤ u ∧ u ≤ 12))  : MCX l yX3_give wsX3_give rmT3_give [.ref xp, .int x, .int y, .int (nI (b)), .int u] (w) "java/lang/IllegalArgumentException" (w) := by
  refine mj_MCX (cc := cX3_give) (nl := 7) (ret := (some .int)) (by decide +kernel) rfl (Nat.le_of_ble_eq_true rfl) ?_
  show GG l cX3_give MT3_give false (.inr ("java/lang/IllegalArgumentException", w)) 0 [some (.ref xp), some (.int x), some (.int y), some (.int (nI (b))), some (.int u), none, none] [] (w) 0 0
  refine G_iload_n dX3_give_0 rfl ?_
  refine G_callSv dX3_give_1 kX3_give_X3_requireHolder ⟨rfl, rfl⟩ ⟨Nat.zero_le _, Nat.zero_le _⟩ (c_reqHolderX h1) rfl rfl rfl ?_
  refine G_iload_n dX3_give_4 rfl ?_
  refine G_callSv dX3_give_5 kX3_give_X3_requireHolder ⟨rfl, rfl⟩ ⟨Nat.zero_le _, Nat.zero_le _⟩ (c_reqHolderX h2) rfl rfl rfl ?_
  refine G_iload_n dX3_give_8 rfl ?_
  refine G_iconst (v := 4) dX3_give_9 (by decide) ?_
  refine G_callSv dX3_give_10 kX3_give_X3_requireIndex ⟨rfl, rfl⟩ ⟨Nat.zero_le _, Nat.zero_le _⟩ (c_reqIndex (a := b) (b := 4) (by omega) (by omega)) rfl rfl rfl ?_
  refine G_iload dX3_give_13 rfl ?_
  refine G_iconst (v := 1) dX3_give_15 (by decide) ?_
  refine G_bipush (v := 12) dX3_give_16 (by decide) ?_
  exact G_callSX dX3_give_18 kT3_give_X3_requireRange (by decide) (t_requireRange hl h4) rfl rfl rfl
theorem x_give_2e (hl : l.stackTraces = false) {w : mj_W} {x : Int32} (h1 : -1 ≤ x ∧ x ≤ 4) {y : Int32} (h2 : -1 ≤ y ∧ y ≤ 4) {b : Nat} (hb : b < 4) {u : Int32} (h4 : 1 ≤ u ∧ u ≤ 12) (he : x = y)  : MCX l yX3_give wsX3_give rmT3_give [.ref xp, .int x, .int y, .int (nI (b)), .int u] (w) "java/lang/IllegalArgumentException" (w) := by
  refine mj_MCX (cc := cX3_give) (nl := 7) (ret := (some .int)) (by decide +kernel) rfl (Nat.le_of_ble_eq_true rfl) ?_
  show GG l cX3_give MT3_give false (.inr ("java/lang/IllegalArgumentException", w)) 0 [some (.ref xp), some (.int x), some (.int y), some (.int (nI (b))), some (.int u), none, none] [] (w) 0 0
  refine G_iload_n dX3_give_0 rfl ?_
  refine G_callSv dX3_give_1 kX3_give_X3_requireHolder ⟨rfl, rfl⟩ ⟨Nat.zero_le _, Nat.zero_le _⟩ (c_reqHolderX h1) rfl rfl rfl ?_
  refine G_iload_n dX3_give_4 rfl ?_
  refine G_callSv dX3_give_5 kX3_give_X3_requireHolder ⟨rfl, rfl⟩ ⟨Nat.zero_le _, Nat.zero_le _⟩ (c_reqHolderX h2) rfl rfl rfl ?_
  refine G_iload_n dX3_give_8 rfl ?_
  refine G_iconst (v := 4) dX3_give_9 (by decide) ?_
  refine G_callSv dX3_give_10 kX3_give_X3_requireIndex ⟨rfl, rfl⟩ ⟨Nat.zero_le _, Nat.zero_le _⟩ (c_reqIndex (a := b) (b := 4) (by omega) (by omega)) rfl rfl rfl ?_
  refine G_iload dX3_give_13 rfl ?_
  refine G_iconst (v := 1) dX3_give_15 (by decide) ?_
  refine G_bipush (v := 12) dX3_give_16 (by decide) ?_
  refine G_callSv dX3_give_18 kX3_give_X3_requireRange ⟨rfl, rfl⟩ ⟨Nat.zero_le _, Nat.zero_le _⟩ (c_reqRangeX h4) rfl rfl rfl ?_
  refine G_iload_n dX3_give_21 rfl ?_
  refine G_iload_n dX3_give_22 rfl ?_
  refine G_icmp_eq 30 dX3_give_23 (by decide) (fun c23 => ?_) (fun c23 => ?_)
  · refine G_iconst (v := 0) dX3_give_30 (by decide) ?_
    exact G_callSX dX3_give_31 kT3_give_X3_requireArgument (by decide) (t_requireArgument hl) rfl rfl rfl
  · exact absurd he c23
theorem x_give_3N (hl : l.stackTraces = false) (hΩ : CV xp lp ap tp up hp rp kp sp yp zp Ω) {q f rt R R1 g : mj_S} {T m T1 m1 n : Nat} {h : Nat} (hh : h < 5) {b : Nat} (hb : b < 4) {v : Nat} (hv : 1 ≤ v ∧ v ≤ 12) (hq : q b < nI v) : MCX l yX3_give wsX3_give rmT3_give [.ref xp, .int (-1), .int (nI (h)), .int (nI (b)), .int (nI (v))] (Ω (row q f) rt R T m R1 T1 m1 g n) "java/lang/IllegalStateException" (Ω (row q f) rt R T m R1 T1 m1 g n) := by
  refine mj_MCX (cc := cX3_give) (nl := 7) (ret := (some .int)) (by decide +kernel) rfl (Nat.le_of_ble_eq_true rfl) ?_
  show GG l cX3_give MT3_give false (.inr ("java/lang/IllegalStateException", Ω (row q f) rt R T m R1 T1 m1 g n)) 0 [some (.ref xp), some (.int (-1)), some (.int (nI (h))), some (.int (nI (b))), some (.int (nI (v))), none, none] [] (Ω (row q f) rt R T m R1 T1 m1 g n) 0 0
  refine G_iload_n dX3_give_0 rfl ?_
  refine G_callSv dX3_give_1 kX3_give_X3_requireHolder ⟨rfl, rfl⟩ ⟨Nat.zero_le _, Nat.zero_le _⟩ (c_reqHolderN) rfl rfl rfl ?_
  refine G_iload_n dX3_give_4 rfl ?_
  refine G_callSv dX3_give_5 kX3_give_X3_requireHolder ⟨rfl, rfl⟩ ⟨Nat.zero_le _, Nat.zero_le _⟩ (c_reqHolder (h := h) (by omega)) rfl rfl rfl ?_
  refine G_iload_n dX3_give_8 rfl ?_
  refine G_iconst (v := 4) dX3_give_9 (by decide) ?_
  refine G_callSv dX3_give_10 kX3_give_X3_requireIndex ⟨rfl, rfl⟩ ⟨Nat.zero_le _, Nat.zero_le _⟩ (c_reqIndex (a := b) (b := 4) (by omega) (by omega)) rfl rfl rfl ?_
  refine G_iload dX3_give_13 rfl ?_
  refine G_iconst (v := 1) dX3_give_15 (by decide) ?_
  refine G_bipush (v := 12) dX3_give_16 (by decide) ?_
  refine G_callSv dX3_give_18 kX3_give_X3_requireRange ⟨rfl, rfl⟩ ⟨Nat.zero_le _, Nat.zero_le _⟩ (c_reqRange (v := v) (a := 1) (b := 12) (by omega) (by omega) (by omega)) rfl rfl rfl ?_
  refine G_iload_n dX3_give_21 rfl ?_
  refine G_iload_n dX3_give_22 rfl ?_
  refine G_icmp_eq 30 dX3_give_23 (by decide) (fun c23 => ?_) (fun c23 => ?_)
  · exact absurd c23.symm (nI_m1 (by omega))
  · refine G_iconst (v := 1) dX3_give_26 (by decide) ?_
    refine G_goto 31 dX3_give_27 (by decide) ?_
    refine G_callSv dX3_give_31 kX3_give_X3_requireArgument ⟨rfl, rfl⟩ ⟨Nat.zero_le _, Nat.zero_le _⟩ (c_reqArgument) rfl rfl rfl ?_
    refine G_iload_n dX3_give_34 rfl ?_
    refine G_iload_n dX3_give_35 rfl ?_
    refine G_callSi dX3_give_36 kX3_give_X0_sharesPlace ⟨rfl, rfl⟩ ⟨Nat.zero_le _, Nat.zero_le _⟩ (c_sharesPlaceN (b := b) (by omega)) rfl rfl rfl ?_
    refine G_istore dX3_give_39 rfl (L' := [some (.ref xp), some (.int (-1)), some (.int (nI (h))), some (.int (nI (b))), some (.int (nI (v))), some (.int (nI (53 + b))), none]) rfl ?_
    refine G_iload_n dX3_give_41 rfl ?_
    refine G_iload_n dX3_give_42 rfl ?_
    refine G_callSi dX3_give_43 kX3_give_X0_sharesPlace ⟨rfl, rfl⟩ ⟨Nat.zero_le _, Nat.zero_le _⟩ (c_sharesPlace (h := h) (b := b) (by omega) (by omega)) rfl rfl rfl ?_
    refine G_istore dX3_give_46 rfl (L' := [some (.ref xp), some (.int (-1)), some (.int (nI (h))), some (.int (nI (b))), some (.int (nI (v))), some (.int (nI (53 + b))), some (.int (nI (57 + b + 4 * h)))]) rfl ?_
    refine G_aload_n dX3_give_48 rfl ?_
    refine G_getf dX3_give_49 fX3_give_12 (hΩ.1 _ _ _ _ _ _ _ _ _ _) (rfl) ?_
    refine G_iload dX3_give_52 rfl ?_
    refine G_callVi dX3_give_54 kX3_give_X0_at ⟨rfl, rfl⟩ ⟨Nat.zero_le _, Nat.zero_le _⟩ (c_atQ ((hΩ.2.1 rt R1 T1 m1 g n).lv R T m) (j := 53 + b) (i := b) (by omega) (by omega)) rfl rfl ((((hΩ.2.1 rt R1 T1 m1 g n).lv R T m) _).1) rfl rfl ?_
    refine G_iload dX3_give_57 rfl ?_
    refine G_icmp_lt 66 dX3_give_59 (by decide) (fun c59 => ?_) (fun c59 => ?_)
    · refine G_iconst (v := 0) dX3_give_66 (by decide) ?_
      exact G_callSX dX3_give_67 kT3_give_X3_requireState (by decide) (t_requireState hl) rfl rfl rfl
    · exact absurd hq c59
theorem x_give_3T (hl : l.stackTraces = false) (hΩ : CV xp lp ap tp up hp rp kp sp yp zp Ω) {q f rt R R1 g : mj_S} {T m T1 m1 n : Nat} {g0 : Nat} (hg : g0 < 5) {b : Nat} (hb : b < 4) {v : Nat} (hv : 1 ≤ v ∧ v ≤ 12) (hq : f (53 + b + 4 * g0) < nI v) : MCX l yX3_give wsX3_give rmT3_give [.ref xp, .int (nI (g0)), .int (-1), .int (nI (b)), .int (nI (v))] (Ω (row q f) rt R T m R1 T1 m1 g n) "java/lang/IllegalStateException" (Ω (row q f) rt R T m R1 T1 m1 g n) := by
  refine mj_MCX (cc := cX3_give) (nl := 7) (ret := (some .int)) (by decide +kernel) rfl (Nat.le_of_ble_eq_true rfl) ?_
  show GG l cX3_give MT3_give false (.inr ("java/lang/IllegalStateException", Ω (row q f) rt R T m R1 T1 m1 g n)) 0 [some (.ref xp), some (.int (nI (g0))), some (.int (-1)), some (.int (nI (b))), some (.int (nI (v))), none, none] [] (Ω (row q f) rt R T m R1 T1 m1 g n) 0 0
  refine G_iload_n dX3_give_0 rfl ?_
  refine G_callSv dX3_give_1 kX3_give_X3_requireHolder ⟨rfl, rfl⟩ ⟨Nat.zero_le _, Nat.zero_le _⟩ (c_reqHolder (h := g0) (by omega)) rfl rfl rfl ?_
  refine G_iload_n dX3_give_4 rfl ?_
  refine G_callSv dX3_give_5 kX3_give_X3_requireHolder ⟨rfl, rfl⟩ ⟨Nat.zero_le _, Nat.zero_le _⟩ (c_reqHolderN) rfl rfl rfl ?_
  refine G_iload_n dX3_give_8 rfl ?_
  refine G_iconst (v := 4) dX3_give_9 (by decide) ?_
  refine G_callSv dX3_give_10 kX3_give_X3_requireIndex ⟨rfl, rfl⟩ ⟨Nat.zero_le _, Nat.zero_le _⟩ (c_reqIndex (a := b) (b := 4) (by omega) (by omega)) rfl rfl rfl ?_
  refine G_iload dX3_give_13 rfl ?_
  refine G_iconst (v := 1) dX3_give_15 (by decide) ?_
  refine G_bipush (v := 12) dX3_give_16 (by decide) ?_
  refine G_callSv dX3_give_18 kX3_give_X3_requireRange ⟨rfl, rfl⟩ ⟨Nat.zero_le _, Nat.zero_le _⟩ (c_reqRange (v := v) (a := 1) (b := 12) (by omega) (by omega) (by omega)) rfl rfl rfl ?_
  refine G_iload_n dX3_give_21 rfl ?_
  refine G_iload_n dX3_give_22 rfl ?_
  refine G_icmp_eq 30 dX3_give_23 (by decide) (fun c23 => ?_) (fun c23 => ?_)
  · exact absurd c23 (nI_m1 (by omega))
  · refine G_iconst (v := 1) dX3_give_26 (by decide) ?_
    refine G_goto 31 dX3_give_27 (by decide) ?_
    refine G_callSv dX3_give_31 kX3_give_X3_requireArgument ⟨rfl, rfl⟩ ⟨Nat.zero_le _, Nat.zero_le _⟩ (c_reqArgument) rfl rfl rfl ?_
    refine G_iload_n dX3_give_34 rfl ?_
    refine G_iload_n dX3_give_35 rfl ?_
    refine G_callSi dX3_give_36 kX3_give_X0_sharesPlace ⟨rfl, rfl⟩ ⟨Nat.zero_le _, Nat.zero_le _⟩ (c_sharesPlace (h := g0) (b := b) (by omega) (by omega)) rfl rfl rfl ?_
    refine G_istore dX3_give_39 rfl (L' := [some (.ref xp), some (.int (nI (g0))), some (.int (-1)), some (.int (nI (b))), some (.int (nI (v))), some (.int (nI (57 + b + 4 * g0))), none]) rfl ?_
    refine G_iload_n dX3_give_41 rfl ?_
    refine G_iload_n dX3_give_42 rfl ?_
    refine G_callSi dX3_give_43 kX3_give_X0_sharesPlace ⟨rfl, rfl⟩ ⟨Nat.zero_le _, Nat.zero_le _⟩ (c_sharesPlaceN (b := b) (by omega)) rfl rfl rfl ?_
    refine G_istore dX3_give_46 rfl (L' := [some (.ref xp), some (.int (nI (g0))), some (.int (-1)), some (.int (nI (b))), some (.int (nI (v))), some (.int (nI (57 + b + 4 * g0))), some (.int (nI (53 + b)))]) rfl ?_
    refine G_aload_n dX3_give_48 rfl ?_
    refine G_getf dX3_give_49 fX3_give_12 (hΩ.1 _ _ _ _ _ _ _ _ _ _) (rfl) ?_
    refine G_iload dX3_give_52 rfl ?_
    refine G_callVi dX3_give_54 kX3_give_X0_at ⟨rfl, rfl⟩ ⟨Nat.zero_le _, Nat.zero_le _⟩ (c_atH ((hΩ.2.1 rt R1 T1 m1 g n).lv R T m) (j := 57 + b + 4 * g0) (j' := 53 + b + 4 * g0) (by omega) (by omega)) rfl rfl ((((hΩ.2.1 rt R1 T1 m1 g n).lv R T m) _).1) rfl rfl ?_
    refine G_iload dX3_give_57 rfl ?_
    refine G_icmp_lt 66 dX3_give_59 (by decide) (fun c59 => ?_) (fun c59 => ?_)
    · refine G_iconst (v := 0) dX3_give_66 (by decide) ?_
      exact G_callSX dX3_give_67 kT3_give_X3_requireState (by decide) (t_requireState hl) rfl rfl rfl
    · exact absurd hq c59
theorem x_give_3G (hl : l.stackTraces = false) (hΩ : CV xp lp ap tp up hp rp kp sp yp zp Ω) {q f rt R R1 g : mj_S} {T m T1 m1 n : Nat} {g0 : Nat} (hg : g0 < 5) {h : Nat} (hh : h < 5) (hgh : ¬ g0 = h) {b : Nat} (hb : b < 4) {v : Nat} (hv : 1 ≤ v ∧ v ≤ 12) (hq : f (53 + b + 4 * g0) < nI v) : MCX l yX3_give wsX3_give rmT3_give [.ref xp, .int (nI (g0)), .int (nI (h)), .int (nI (b)), .int (nI (v))] (Ω (row q f) rt R T m R1 T1 m1 g n) "java/lang/IllegalStateException" (Ω (row q f) rt R T m R1 T1 m1 g n) := by
  refine mj_MCX (cc := cX3_give) (nl := 7) (ret := (some .int)) (by decide +kernel) rfl (Nat.le_of_ble_eq_true rfl) ?_
  show GG l cX3_give MT3_give false (.inr ("java/lang/IllegalStateException", Ω (row q f) rt R T m R1 T1 m1 g n)) 0 [some (.ref xp), some (.int (nI (g0))), some (.int (nI (h))), some (.int (nI (b))), some (.int (nI (v))), none, none] [] (Ω (row q f) rt R T m R1 T1 m1 g n) 0 0
  refine G_iload_n dX3_give_0 rfl ?_
  refine G_callSv dX3_give_1 kX3_give_X3_requireHolder ⟨rfl, rfl⟩ ⟨Nat.zero_le _, Nat.zero_le _⟩ (c_reqHolder (h := g0) (by omega)) rfl rfl rfl ?_
  refine G_iload_n dX3_give_4 rfl ?_
  refine G_callSv dX3_give_5 kX3_give_X3_requireHolder ⟨rfl, rfl⟩ ⟨Nat.zero_le _, Nat.zero_le _⟩ (c_reqHolder (h := h) (by omega)) rfl rfl rfl ?_
  refine G_iload_n dX3_give_8 rfl ?_
  refine G_iconst (v := 4) dX3_give_9 (by decide) ?_
  refine G_callSv dX3_give_10 kX3_give_X3_requireIndex ⟨rfl, rfl⟩ ⟨Nat.zero_le _, Nat.zero_le _⟩ (c_reqIndex (a := b) (b := 4) (by omega) (by omega)) rfl rfl rfl ?_
  refine G_iload dX3_give_13 rfl ?_
  refine G_iconst (v := 1) dX3_give_15 (by decide) ?_
  refine G_bipush (v := 12) dX3_give_16 (by decide) ?_
  refine G_callSv dX3_give_18 kX3_give_X3_requireRange ⟨rfl, rfl⟩ ⟨Nat.zero_le _, Nat.zero_le _⟩ (c_reqRange (v := v) (a := 1) (b := 12) (by omega) (by omega) (by omega)) rfl rfl rfl ?_
  refine G_iload_n dX3_give_21 rfl ?_
  refine G_iload_n dX3_give_22 rfl ?_
  refine G_icmp_eqN (a := g0) (c := h) 30 dX3_give_23 (by decide) (by omega) (fun c23 => ?_) (fun c23 => ?_)
  · exact (show False by omega).elim
  · refine G_iconst (v := 1) dX3_give_26 (by decide) ?_
    refine G_goto 31 dX3_give_27 (by decide) ?_
    refine G_callSv dX3_give_31 kX3_give_X3_requireArgument ⟨rfl, rfl⟩ ⟨Nat.zero_le _, Nat.zero_le _⟩ (c_reqArgument) rfl rfl rfl ?_
    refine G_iload_n dX3_give_34 rfl ?_
    refine G_iload_n dX3_give_35 rfl ?_
    refine G_callSi dX3_give_36 kX3_give_X0_sharesPlace ⟨rfl, rfl⟩ ⟨Nat.zero_le _, Nat.zero_le _⟩ (c_sharesPlace (h := g0) (b := b) (by omega) (by omega)) rfl rfl rfl ?_
    refine G_istore dX3_give_39 rfl (L' := [some (.ref xp), some (.int (nI (g0))), some (.int (nI (h))), some (.int (nI (b))), some (.int (nI (v))), some (.int (nI (57 + b + 4 * g0))), none]) rfl ?_
    refine G_iload_n dX3_give_41 rfl ?_
    refine G_iload_n dX3_give_42 rfl ?_
    refine G_callSi dX3_give_43 kX3_give_X0_sharesPlace ⟨rfl, rfl⟩ ⟨Nat.zero_le _, Nat.zero_le _⟩ (c_sharesPlace (h := h) (b := b) (by omega) (by omega)) rfl rfl rfl ?_
    refine G_istore dX3_give_46 rfl (L' := [some (.ref xp), some (.int (nI (g0))), some (.int (nI (h))), some (.int (nI (b))), some (.int (nI (v))), some (.int (nI (57 + b + 4 * g0))), some (.int (nI (57 + b + 4 * h)))]) rfl ?_
    refine G_aload_n dX3_give_48 rfl ?_
    refine G_getf dX3_give_49 fX3_give_12 (hΩ.1 _ _ _ _ _ _ _ _ _ _) (rfl) ?_
    refine G_iload dX3_give_52 rfl ?_
    refine G_callVi dX3_give_54 kX3_give_X0_at ⟨rfl, rfl⟩ ⟨Nat.zero_le _, Nat.zero_le _⟩ (c_atH ((hΩ.2.1 rt R1 T1 m1 g n).lv R T m) (j := 57 + b + 4 * g0) (j' := 53 + b + 4 * g0) (by omega) (by omega)) rfl rfl ((((hΩ.2.1 rt R1 T1 m1 g n).lv R T m) _).1) rfl rfl ?_
    refine G_iload dX3_give_57 rfl ?_
    refine G_icmp_lt 66 dX3_give_59 (by decide) (fun c59 => ?_) (fun c59 => ?_)
    · refine G_iconst (v := 0) dX3_give_66 (by decide) ?_
      exact G_callSX dX3_give_67 kT3_give_X3_requireState (by decide) (t_requireState hl) rfl rfl rfl
    · exact absurd hq c59
theorem tabL {A : Nat → Prop} {U : State} {H : Heap} (h : mj_Y A U H) : ∃ t : Nat, va_Z RX3 "LOWEST_SETTING" "[I" (.ref t) A U H ∧ va_T .int t 3 (fun j => .int (if j = 2 then 1 else 0)) A U H := by
  obtain ⟨-, -, -, -, t1, t2, h5, h6, h7, h8⟩ := h
  exact ⟨t1, h5, h6⟩
theorem tabH {A : Nat → Prop} {U : State} {H : Heap} (h : mj_Y A U H) : ∃ t : Nat, va_Z RX3 "HIGHEST_SETTING" "[I" (.ref t) A U H ∧ va_T .int t 3 (fun j => .int (if j = 0 then 9 else if j = 1 then 50 else 30)) A U H := by
  obtain ⟨-, -, -, -, t1, t2, h5, h6, h7, h8⟩ := h
  exact ⟨t2, h7, h8⟩
theorem lkL : Cond.fieldLink RX3 99 RX3 "LOWEST_SETTING" "[I" ∈ wsX3_set := by decide +kernel
theorem lkH : Cond.fieldLink RX3 103 RX3 "HIGHEST_SETTING" "[I" ∈ wsX3_set := by decide +kernel
theorem x_set_1 (hl : l.stackTraces = false) {w : mj_W} {x : Int32} (h1 : ¬ (0 ≤ x ∧ x ≤ 2)) {y : Int32} : MCX l yX3_set wsX3_set rmT3_set [.ref xp, .int x, .int y] (w) "java/lang/IndexOutOfBoundsException" (w) := by
  refine mj_MCX (cc := cX3_set) (nl := 3) (ret := (some .int)) (by decide +kernel) rfl (Nat.le_of_ble_eq_true rfl) ?_
  show GG l cX3_set MT3_set false (.inr ("java/lang/IndexOutOfBoundsException", w)) 0 [some (.ref xp), some (.int x), some (.int y)] [] (w) 0 0
  refine G_iload_n dX3_set_0 rfl ?_
  refine G_iconst (v := 3) dX3_set_1 (by decide) ?_
  exact G_callSX dX3_set_2 kT3_set_X3_requireIndex (by decide) (t_requireIndex hl (fun z => h1 ⟨z.1, lt_le (by decide) z.2⟩)) rfl rfl rfl
theorem x_set_20 (hl : l.stackTraces = false) {w : mj_W} {y : Int32} (h2 : ¬ (0 ≤ y ∧ y ≤ 9))  : MCX l yX3_set wsX3_set rmT3_set [.ref xp, .int 0, .int y] (w) "java/lang/IllegalArgumentException" (w) := by
  refine mj_MCX (cc := cX3_set) (nl := 3) (ret := (some .int)) (by decide +kernel) rfl (Nat.le_of_ble_eq_true rfl) ?_
  show GG l cX3_set MT3_set false (.inr ("java/lang/IllegalArgumentException", w)) 0 [some (.ref xp), some (.int 0), some (.int y)] [] (w) 0 0
  refine G_iload_n dX3_set_0 rfl ?_
  refine G_iconst (v := 3) dX3_set_1 (by decide) ?_
  refine G_callSv dX3_set_2 kX3_set_X3_requireIndex ⟨rfl, rfl⟩ ⟨Nat.zero_le _, Nat.zero_le _⟩ (c_reqIndex (a := 0) (b := 3) (by omega) (by omega)) rfl rfl rfl ?_
  refine G_iload_n dX3_set_5 rfl ?_
  refine G_tab (f := fun j => if j = 2 then 1 else 0) (i := 1) (j := 0) dX3_set_6 dX3_set_9 dX3_set_10 lkL (fun _ _ _ => tabL) rfl (by decide) ?_
  refine G_eqi (y := 0) (by decide) ?_
  refine G_tab (f := fun j => if j = 0 then 9 else if j = 1 then 50 else 30) (i := 1) (j := 0) dX3_set_11 dX3_set_14 dX3_set_15 lkH (fun _ _ _ => tabH) rfl (by decide) ?_
  refine G_eqi (y := 9) (by decide) ?_
  exact G_callSX dX3_set_16 kT3_set_X3_requireRange (by decide) (t_requireRange hl h2) rfl rfl rfl
theorem x_set0 (hΩ : CV xp lp ap tp up hp rp kp sp yp zp Ω) {q f rt R R1 g : mj_S} {T m T1 m1 n : Nat} (hT : T < 6) (hm : m ≤ 6) {v : Nat} (hv : 0 ≤ v ∧ v ≤ 9) : MC l yX3_set wsX3_set rmX3_set false [.ref xp, .int 0, .int (nI (v))] (Ω (row q f) rt R T m R1 T1 m1 g n) (some (.int (f 2))) (Ω (row q (upd f 2 (nI v))) rt (s_blit (row q f) (161 * nxT T) 161 R) (nxT T) (nxM m) R1 T1 m1 g n) := by
  refine mj_MC (cc := cX3_set) (nl := 3) (ret := (some .int)) (plainFor_of_name (by decide)) rfl (⟨_, rfl, rfl⟩) (Nat.le_of_ble_eq_true rfl) ?_
  show GG l cX3_set MX3_set false (.inl ((some (.int (f 2))), Ω (row q (upd f 2 (nI v))) rt (s_blit (row q f) (161 * nxT T) 161 R) (nxT T) (nxM m) R1 T1 m1 g n)) 0 [some (.ref xp), some (.int 0), some (.int (nI (v)))] [] (Ω (row q f) rt R T m R1 T1 m1 g n) 0 0
  refine G_iload_n dX3_set_0 rfl ?_
  refine G_iconst (v := 3) dX3_set_1 (by decide) ?_
  refine G_callSv dX3_set_2 kX3_set_X3_requireIndex ⟨rfl, rfl⟩ ⟨Nat.zero_le _, Nat.zero_le _⟩ (c_reqIndex (a := 0) (b := 3) (by omega) (by omega)) rfl rfl rfl ?_
  refine G_iload_n dX3_set_5 rfl ?_
  refine G_tab (f := fun j => if j = 2 then 1 else 0) (i := 1) (j := 0) dX3_set_6 dX3_set_9 dX3_set_10 lkL (fun _ _ _ => tabL) rfl (by decide) ?_
  refine G_eqi (y := 0) (by decide) ?_
  refine G_tab (f := fun j => if j = 0 then 9 else if j = 1 then 50 else 30) (i := 1) (j := 0) dX3_set_11 dX3_set_14 dX3_set_15 lkH (fun _ _ _ => tabH) rfl (by decide) ?_
  refine G_eqi (y := 9) (by decide) ?_
  refine G_callSv dX3_set_16 kX3_set_X3_requireRange ⟨rfl, rfl⟩ ⟨Nat.zero_le _, Nat.zero_le _⟩ (c_reqRange (v := v) (a := 0) (b := 9) (by omega) (by omega) (by omega)) rfl rfl rfl ?_
  refine G_aload_n dX3_set_19 rfl ?_
  refine G_getf dX3_set_20 fX3_set_24 (hΩ.1 _ _ _ _ _ _ _ _ _ _) (rfl) ?_
  refine G_aload_n dX3_set_23 rfl ?_
  refine G_getf dX3_set_24 fX3_set_12 (hΩ.1 _ _ _ _ _ _ _ _ _ _) (rfl) ?_
  refine G_callVv dX3_set_27 kX3_set_X1_push ⟨rfl, rfl⟩ ⟨Nat.zero_le _, Nat.zero_le _⟩ (c_push (hΩ.2.1 rt R1 T1 m1 g n) (by omega) (by omega)) rfl rfl (((hΩ.2.1 rt R1 T1 m1 g n).2 _ _ _ _).1) rfl rfl ?_
  refine G_aload_n dX3_set_30 rfl ?_
  refine G_getf dX3_set_31 fX3_set_12 (hΩ.1 _ _ _ _ _ _ _ _ _ _) (rfl) ?_
  refine G_iconst (v := 2) dX3_set_34 (by decide) ?_
  refine G_iload_n dX3_set_35 rfl ?_
  refine G_iaddN (a := 2) (c := 0) (s := 2) dX3_set_36 (by omega) ?_
  refine G_iload_n dX3_set_37 rfl ?_
  obtain ⟨f1, ef1⟩ : ∃ z : mj_S, z = upd f (2) (nI (v)) := ⟨_, rfl⟩
  refine G_callVi dX3_set_38 kX3_set_X0_swap ⟨rfl, rfl⟩ ⟨Nat.zero_le _, Nat.zero_le _⟩ (c_swapL ((hΩ.2.1 rt R1 T1 m1 g n).lv (s_blit (row q f) (161 * nxT T) 161 R) (nxT T) (nxM m)) (j := 2) (by omega) ef1) rfl rfl ((((hΩ.2.1 rt R1 T1 m1 g n).lv (s_blit (row q f) (161 * nxT T) 161 R) (nxT T) (nxM m)) _).1) rfl rfl ?_
  exact G_iret dX3_set_41 ⟨Nat.zero_le _, Nat.zero_le _⟩ (by subst ef1; rfl)
theorem x_set_21 (hl : l.stackTraces = false) {w : mj_W} {y : Int32} (h2 : ¬ (0 ≤ y ∧ y ≤ 50))  : MCX l yX3_set wsX3_set rmT3_set [.ref xp, .int 1, .int y] (w) "java/lang/IllegalArgumentException" (w) := by
  refine mj_MCX (cc := cX3_set) (nl := 3) (ret := (some .int)) (by decide +kernel) rfl (Nat.le_of_ble_eq_true rfl) ?_
  show GG l cX3_set MT3_set false (.inr ("java/lang/IllegalArgumentException", w)) 0 [some (.ref xp), some (.int 1), some (.int y)] [] (w) 0 0
  refine G_iload_n dX3_set_0 rfl ?_
  refine G_iconst (v := 3) dX3_set_1 (by decide) ?_
  refine G_callSv dX3_set_2 kX3_set_X3_requireIndex ⟨rfl, rfl⟩ ⟨Nat.zero_le _, Nat.zero_le _⟩ (c_reqIndex (a := 1) (b := 3) (by omega) (by omega)) rfl rfl rfl ?_
  refine G_iload_n dX3_set_5 rfl ?_
  refine G_tab (f := fun j => if j = 2 then 1 else 0) (i := 1) (j := 1) dX3_set_6 dX3_set_9 dX3_set_10 lkL (fun _ _ _ => tabL) rfl (by decide) ?_
  refine G_eqi (y := 0) (by decide) ?_
  refine G_tab (f := fun j => if j = 0 then 9 else if j = 1 then 50 else 30) (i := 1) (j := 1) dX3_set_11 dX3_set_14 dX3_set_15 lkH (fun _ _ _ => tabH) rfl (by decide) ?_
  refine G_eqi (y := 50) (by decide) ?_
  exact G_callSX dX3_set_16 kT3_set_X3_requireRange (by decide) (t_requireRange hl h2) rfl rfl rfl
theorem x_set1 (hΩ : CV xp lp ap tp up hp rp kp sp yp zp Ω) {q f rt R R1 g : mj_S} {T m T1 m1 n : Nat} (hT : T < 6) (hm : m ≤ 6) {v : Nat} (hv : 0 ≤ v ∧ v ≤ 50) : MC l yX3_set wsX3_set rmX3_set false [.ref xp, .int 1, .int (nI (v))] (Ω (row q f) rt R T m R1 T1 m1 g n) (some (.int (f 3))) (Ω (row q (upd f 3 (nI v))) rt (s_blit (row q f) (161 * nxT T) 161 R) (nxT T) (nxM m) R1 T1 m1 g n) := by
  refine mj_MC (cc := cX3_set) (nl := 3) (ret := (some .int)) (plainFor_of_name (by decide)) rfl (⟨_, rfl, rfl⟩) (Nat.le_of_ble_eq_true rfl) ?_
  show GG l cX3_set MX3_set false (.inl ((some (.int (f 3))), Ω (row q (upd f 3 (nI v))) rt (s_blit (row q f) (161 * nxT T) 161 R) (nxT T) (nxM m) R1 T1 m1 g n)) 0 [some (.ref xp), some (.int 1), some (.int (nI (v)))] [] (Ω (row q f) rt R T m R1 T1 m1 g n) 0 0
  refine G_iload_n dX3_set_0 rfl ?_
  refine G_iconst (v := 3) dX3_set_1 (by decide) ?_
  refine G_callSv dX3_set_2 kX3_set_X3_requireIndex ⟨rfl, rfl⟩ ⟨Nat.zero_le _, Nat.zero_le _⟩ (c_reqIndex (a := 1) (b := 3) (by omega) (by omega)) rfl rfl rfl ?_
  refine G_iload_n dX3_set_5 rfl ?_
  refine G_tab (f := fun j => if j = 2 then 1 else 0) (i := 1) (j := 1) dX3_set_6 dX3_set_9 dX3_set_10 lkL (fun _ _ _ => tabL) rfl (by decide) ?_
  refine G_eqi (y := 0) (by decide) ?_
  refine G_tab (f := fun j => if j = 0 then 9 else if j = 1 then 50 else 30) (i := 1) (j := 1) dX3_set_11 dX3_set_14 dX3_set_15 lkH (fun _ _ _ => tabH) rfl (by decide) ?_
  refine G_eqi (y := 50) (by decide) ?_
  refine G_callSv dX3_set_16 kX3_set_X3_requireRange ⟨rfl, rfl⟩ ⟨Nat.zero_le _, Nat.zero_le _⟩ (c_reqRange (v := v) (a := 0) (b := 50) (by omega) (by omega) (by omega)) rfl rfl rfl ?_
  refine G_aload_n dX3_set_19 rfl ?_
  refine G_getf dX3_set_20 fX3_set_24 (hΩ.1 _ _ _ _ _ _ _ _ _ _) (rfl) ?_
  refine G_aload_n dX3_set_23 rfl ?_
  refine G_getf dX3_set_24 fX3_set_12 (hΩ.1 _ _ _ _ _ _ _ _ _ _) (rfl) ?_
  refine G_callVv dX3_set_27 kX3_set_X1_push ⟨rfl, rfl⟩ ⟨Nat.zero_le _, Nat.zero_le _⟩ (c_push (hΩ.2.1 rt R1 T1 m1 g n) (by omega) (by omega)) rfl rfl (((hΩ.2.1 rt R1 T1 m1 g n).2 _ _ _ _).1) rfl rfl ?_
  refine G_aload_n dX3_set_30 rfl ?_
  refine G_getf dX3_set_31 fX3_set_12 (hΩ.1 _ _ _ _ _ _ _ _ _ _) (rfl) ?_
  refine G_iconst (v := 2) dX3_set_34 (by decide) ?_
  refine G_iload_n dX3_set_35 rfl ?_
  refine G_iaddN (a := 2) (c := 1) (s := 3) dX3_set_36 (by omega) ?_
  refine G_iload_n dX3_set_37 rfl ?_
  obtain ⟨f1, ef1⟩ : ∃ z : mj_S, z = upd f (3) (nI (v)) := ⟨_, rfl⟩
  refine G_callVi dX3_set_38 kX3_set_X0_swap ⟨rfl, rfl⟩ ⟨Nat.zero_le _, Nat.zero_le _⟩ (c_swapL ((hΩ.2.1 rt R1 T1 m1 g n).lv (s_blit (row q f) (161 * nxT T) 161 R) (nxT T) (nxM m)) (j := 3) (by omega) ef1) rfl rfl ((((hΩ.2.1 rt R1 T1 m1 g n).lv (s_blit (row q f) (161 * nxT T) 161 R) (nxT T) (nxM m)) _).1) rfl rfl ?_
  exact G_iret dX3_set_41 ⟨Nat.zero_le _, Nat.zero_le _⟩ (by subst ef1; rfl)
theorem x_set_22 (hl : l.stackTraces = false) {w : mj_W} {y : Int32} (h2 : ¬ (1 ≤ y ∧ y ≤ 30))  : MCX l yX3_set wsX3_set rmT3_set [.ref xp, .int 2, .int y] (w) "java/lang/IllegalArgumentException" (w) := by
  refine mj_MCX (cc := cX3_set) (nl := 3) (ret := (some .int)) (by decide +kernel) rfl (Nat.le_of_ble_eq_true rfl) ?_
  show GG l cX3_set MT3_set false (.inr ("java/lang/IllegalArgumentException", w)) 0 [some (.ref xp), some (.int 2), some (.int y)] [] (w) 0 0
  refine G_iload_n dX3_set_0 rfl ?_
  refine G_iconst (v := 3) dX3_set_1 (by decide) ?_
  refine G_callSv dX3_set_2 kX3_set_X3_requireIndex ⟨rfl, rfl⟩ ⟨Nat.zero_le _, Nat.zero_le _⟩ (c_reqIndex (a := 2) (b := 3) (by omega) (by omega)) rfl rfl rfl ?_
  refine G_iload_n dX3_set_5 rfl ?_
  refine G_tab (f := fun j => if j = 2 then 1 else 0) (i := 1) (j := 2) dX3_set_6 dX3_set_9 dX3_set_10 lkL (fun _ _ _ => tabL) rfl (by decide) ?_
  refine G_eqi (y := 1) (by decide) ?_
  refine G_tab (f := fun j => if j = 0 then 9 else if j = 1 then 50 else 30) (i := 1) (j := 2) dX3_set_11 dX3_set_14 dX3_set_15 lkH (fun _ _ _ => tabH) rfl (by decide) ?_
  refine G_eqi (y := 30) (by decide) ?_
  exact G_callSX dX3_set_16 kT3_set_X3_requireRange (by decide) (t_requireRange hl h2) rfl rfl rfl
theorem x_set2 (hΩ : CV xp lp ap tp up hp rp kp sp yp zp Ω) {q f rt R R1 g : mj_S} {T m T1 m1 n : Nat} (hT : T < 6) (hm : m ≤ 6) {v : Nat} (hv : 1 ≤ v ∧ v ≤ 30) : MC l yX3_set wsX3_set rmX3_set false [.ref xp, .int 2, .int (nI (v))] (Ω (row q f) rt R T m R1 T1 m1 g n) (some (.int (f 4))) (Ω (row q (upd f 4 (nI v))) rt (s_blit (row q f) (161 * nxT T) 161 R) (nxT T) (nxM m) R1 T1 m1 g n) := by
  refine mj_MC (cc := cX3_set) (nl := 3) (ret := (some .int)) (plainFor_of_name (by decide)) rfl (⟨_, rfl, rfl⟩) (Nat.le_of_ble_eq_true rfl) ?_
  show GG l cX3_set MX3_set false (.inl ((some (.int (f 4))), Ω (row q (upd f 4 (nI v))) rt (s_blit (row q f) (161 * nxT T) 161 R) (nxT T) (nxM m) R1 T1 m1 g n)) 0 [some (.ref xp), some (.int 2), some (.int (nI (v)))] [] (Ω (row q f) rt R T m R1 T1 m1 g n) 0 0
  refine G_iload_n dX3_set_0 rfl ?_
  refine G_iconst (v := 3) dX3_set_1 (by decide) ?_
  refine G_callSv dX3_set_2 kX3_set_X3_requireIndex ⟨rfl, rfl⟩ ⟨Nat.zero_le _, Nat.zero_le _⟩ (c_reqIndex (a := 2) (b := 3) (by omega) (by omega)) rfl rfl rfl ?_
  refine G_iload_n dX3_set_5 rfl ?_
  refine G_tab (f := fun j => if j = 2 then 1 else 0) (i := 1) (j := 2) dX3_set_6 dX3_set_9 dX3_set_10 lkL (fun _ _ _ => tabL) rfl (by decide) ?_
  refine G_eqi (y := 1) (by decide) ?_
  refine G_tab (f := fun j => if j = 0 then 9 else if j = 1 then 50 else 30) (i := 1) (j := 2) dX3_set_11 dX3_set_14 dX3_set_15 lkH (fun _ _ _ => tabH) rfl (by decide) ?_
  refine G_eqi (y := 30) (by decide) ?_
  refine G_callSv dX3_set_16 kX3_set_X3_requireRange ⟨rfl, rfl⟩ ⟨Nat.zero_le _, Nat.zero_le _⟩ (c_reqRange (v := v) (a := 1) (b := 30) (by omega) (by omega) (by omega)) rfl rfl rfl ?_
  refine G_aload_n dX3_set_19 rfl ?_
  refine G_getf dX3_set_20 fX3_set_24 (hΩ.1 _ _ _ _ _ _ _ _ _ _) (rfl) ?_
  refine G_aload_n dX3_set_23 rfl ?_
  refine G_getf dX3_set_24 fX3_set_12 (hΩ.1 _ _ _ _ _ _ _ _ _ _) (rfl) ?_
  refine G_callVv dX3_set_27 kX3_set_X1_push ⟨rfl, rfl⟩ ⟨Nat.zero_le _, Nat.zero_le _⟩ (c_push (hΩ.2.1 rt R1 T1 m1 g n) (by omega) (by omega)) rfl rfl (((hΩ.2.1 rt R1 T1 m1 g n).2 _ _ _ _).1) rfl rfl ?_
  refine G_aload_n dX3_set_30 rfl ?_
  refine G_getf dX3_set_31 fX3_set_12 (hΩ.1 _ _ _ _ _ _ _ _ _ _) (rfl) ?_
  refine G_iconst (v := 2) dX3_set_34 (by decide) ?_
  refine G_iload_n dX3_set_35 rfl ?_
  refine G_iaddN (a := 2) (c := 2) (s := 4) dX3_set_36 (by omega) ?_
  refine G_iload_n dX3_set_37 rfl ?_
  obtain ⟨f1, ef1⟩ : ∃ z : mj_S, z = upd f (4) (nI (v)) := ⟨_, rfl⟩
  refine G_callVi dX3_set_38 kX3_set_X0_swap ⟨rfl, rfl⟩ ⟨Nat.zero_le _, Nat.zero_le _⟩ (c_swapL ((hΩ.2.1 rt R1 T1 m1 g n).lv (s_blit (row q f) (161 * nxT T) 161 R) (nxT T) (nxM m)) (j := 4) (by omega) ef1) rfl rfl ((((hΩ.2.1 rt R1 T1 m1 g n).lv (s_blit (row q f) (161 * nxT T) 161 R) (nxT T) (nxM m)) _).1) rfl rfl ?_
  exact G_iret dX3_set_41 ⟨Nat.zero_le _, Nat.zero_le _⟩ (by subst ef1; rfl)
end XD
