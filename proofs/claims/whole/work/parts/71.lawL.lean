/-! LAW: its loop -/
theorem law_more {i Ls : Nat} (hL : Ls ≤ 2560) (hi : i ≤ 3000) (h : ¬ (nI Ls - 5 : Int32) < nI i) : i + 5 ≤ Ls := by
  have e : (nI Ls - 5 : Int32).toInt = (Ls : Int) - 5 := pk_sub_toInt (a := Ls) (b := 5) (by omega) (by omega)
  rw [Int32.lt_iff_toInt_lt, e, nI_toInt (by omega)] at h
  omega
theorem LI.mono {B C : Nat} {w : mj_W} (h : LI B w) (hBC : B ≤ C) : LI C w := by
  obtain ⟨f, rt, R, T, m, R1, m1, g, n, th, sp, sv, sn, hs, bf, ai, sg, fi, se, t3, hh, o, t, rfl, hI⟩ := h
  exact ⟨f, rt, R, T, m, R1, m1, g, n, th, sp, sv, sn, hs, bf, ai, sg, fi, se, t3, hh, o, t, rfl, hI.mono hBC⟩
section LL
variable {p : Program} {l : Launch} {e : Env} {s : State} {m : MethodId} {args : Array Value} {below : List Frame} {meth : Method} {c : Code} {Q : State → Prop} {D : va_G} {A : Nat → Prop} {ad0 : Nat → Nat} {N : Nat} {a Ls : Nat} {xs : Nat → Int32}
theorem law_loop (C : LC p l s m args meth c D A ad0 a Ls xs) (E : ∀ (L : mj_L) (w : mj_W) (k n : Nat), k ≤ 601024 → n ≤ 7293034 → GT p l e s m args below meth c Q D A ad0 N ML_law 1718 L [.int 1] w k n) : ∀ (d i B k n : Nat) (w : mj_W) (z5 z6 z7 z8 : Option Value), Ls ≤ i + 5 * d + 4 → LI B w → B ≤ 800 * i → k ≤ 20 + i → n ≤ 4000 + 6 * i → i ≤ 2560 → GT p l e s m args below meth c Q D A ad0 N ML_law 23 [some (.ref 4000), some (.ref 0), some (.ref 11), some (.ref 17), some (.int (nI i)), z5, z6, z7, z8] [] w k n
  | 0, i, B, k, n, w, z5, z6, z7, z8, hd, h, hB, hk, hn, hi => by
    obtain ⟨F, hE, hX, hbl, hbA, hb0, hLs, hl⟩ := id C
    refine T_iload F dL_law_23 rfl ?_
    refine T_aload_n F dL_law_25 rfl ?_
    refine T_slen F hX hbl hbA hb0 dL_law_26 ?_
    refine T_iconst F (v := 5) dL_law_27 (by decide) ?_
    refine T_isub F dL_law_28 ?_
    refine T_icmp_gt F 1717 dL_law_29 (by decide) (fun _ => ?_) (fun h5 => ?_)
    · exact T_iconst F (v := 1) dL_law_1717 (by decide) (E _ _ _ _ (by omega) (by omega))
    · exact absurd (law_more hLs (by omega) h5) (by omega)
  | d + 1, i, B, k, n, w, z5, z6, z7, z8, hd, h, hB, hk, hn, hi => by
    obtain ⟨F, hE, hX, hbl, hbA, hb0, hLs, hl⟩ := id C
    refine T_iload F dL_law_23 rfl ?_
    refine T_aload_n F dL_law_25 rfl ?_
    refine T_slen F hX hbl hbA hb0 dL_law_26 ?_
    refine T_iconst F (v := 5) dL_law_27 (by decide) ?_
    refine T_isub F dL_law_28 ?_
    refine T_icmp_gt F 1717 dL_law_29 (by decide) (fun _ => ?_) (fun h5 => ?_)
    · exact T_iconst F (v := 1) dL_law_1717 (by decide) (E _ _ _ _ (by omega) (by omega))
    · have hi5 := law_more hLs (by omega) h5
      have K : ∀ (w' : mj_W) (k' n' : Nat) (y5 y6 y7 y8 : Option Value), LI (B + 4000) w' → k' ≤ k + 1 → n' ≤ n + 6 → GT p l e s m args below meth c Q D A ad0 N ML_law 1711 [some (.ref 4000), some (.ref 0), some (.ref 11), some (.ref 17), some (.int (nI i)), y5, y6, y7, y8] [] w' k' n' := by
        intro w' k' n' y5 y6 y7 y8 hI hk' hn'
        refine T_iinc F (v := nI (i + 5)) dL_law_1711 rfl (nI_add i 5) (L' := [some (.ref 4000), some (.ref 0), some (.ref 11), some (.ref 17), some (.int (nI (i + 5))), y5, y6, y7, y8]) rfl ?_
        refine T_goto F 23 dL_law_1714 (by decide) ?_
        exact law_loop C E d (i + 5) (B + 4000) k' n' w' y5 y6 y7 y8 (by omega) hI (by omega) (by omega) (by omega) (by omega)
      refine T_aload_n F dL_law_32 rfl ?_
      refine T_iload F dL_law_33 rfl ?_
      refine T_scr F hX hbl hbA hb0 (j := i) ⟨by omega, by omega⟩ dL_law_35 ?_
      refine T_bipush F (v := 31) dL_law_36 (by decide) ?_
      refine T_iand F dL_law_38 ?_
      obtain ⟨j, hj, ej⟩ := pk_andE (xs i) (m := 31) 5 (by decide)
      refine T_eqi F ej ?_
      rcases (show j = 0 ∨ j = 1 ∨ j = 2 ∨ j = 3 ∨ j = 4 ∨ j = 5 ∨ j = 6 ∨ j = 7 ∨ j = 8 ∨ j = 9 ∨ j = 10 ∨ j = 11 ∨ j = 12 ∨ j = 13 ∨ j = 14 ∨ j = 15 ∨ j = 16 ∨ j = 17 ∨ j = 18 ∨ j = 19 ∨ j = 20 ∨ j = 21 ∨ j = 22 ∨ j = 23 ∨ j = 24 ∨ j = 25 ∨ j = 26 ∨ j = 27 ∨ 28 ≤ j by omega) with rfl | rfl | rfl | rfl | rfl | rfl | rfl | rfl | rfl | rfl | rfl | rfl | rfl | rfl | rfl | rfl | rfl | rfl | rfl | rfl | rfl | rfl | rfl | rfl | rfl | rfl | rfl | rfl | hj28
      · refine T_tabIn F (off := 125) 164 dL_law_39 (by decide) (by decide) (by decide) (by decide) ?_
        exact lc_hearth C hi5 (by omega) h (by omega) (by omega) K
      · refine T_tabIn F (off := 221) 260 dL_law_39 (by decide) (by decide) (by decide) (by decide) ?_
        exact lc_track C hi5 (by omega) h (by omega) (by omega) K
      · refine T_tabIn F (off := 289) 328 dL_law_39 (by decide) (by decide) (by decide) (by decide) ?_
        exact lc_strength C hi5 (by omega) h (by omega) (by omega) K
      · refine T_tabIn F (off := 357) 396 dL_law_39 (by decide) (by decide) (by decide) (by decide) ?_
        exact lc_work C hi5 (by omega) h (by omega) (by omega) K
      · refine T_tabIn F (off := 437) 476 dL_law_39 (by decide) (by decide) (by decide) (by decide) ?_
        exact lc_rest C hi5 (by omega) h (by omega) (by omega) K
      · refine T_tabIn F (off := 493) 532 dL_law_39 (by decide) (by decide) (by decide) (by decide) ?_
        exact lc_give C hi5 (by omega) h (by omega) (by omega) K
      · refine T_tabIn F (off := 585) 624 dL_law_39 (by decide) (by decide) (by decide) (by decide) ?_
        exact lc_snow C hi5 (by omega) h (by omega) (by omega) K
      · refine T_tabIn F (off := 598) 637 dL_law_39 (by decide) (by decide) (by decide) (by decide) ?_
        exact lc_pass C hi5 (by omega) h (by omega) (by omega) K
      · refine T_tabIn F (off := 654) 693 dL_law_39 (by decide) (by decide) (by decide) (by decide) ?_
        exact lc_set C hi5 (by omega) h (by omega) (by omega) K
      · refine T_tabIn F (off := 722) 761 dL_law_39 (by decide) (by decide) (by decide) (by decide) ?_
        exact lc_append C hi5 (by omega) h (by omega) (by omega) K
      · refine T_tabIn F (off := 778) 817 dL_law_39 (by decide) (by decide) (by decide) (by decide) ?_
        exact lc_clearBuffer C hi5 (by omega) h (by omega) (by omega) K
      · refine T_tabIn F (off := 791) 830 dL_law_39 (by decide) (by decide) (by decide) (by decide) ?_
        exact lc_firstError C hi5 (by omega) h (by omega) (by omega) K
      · refine T_tabIn F (off := 804) 843 dL_law_39 (by decide) (by decide) (by decide) (by decide) ?_
        exact lc_play C hi5 (by omega) h (by omega) (by omega) K
      · refine T_tabIn F (off := 848) 887 dL_law_39 (by decide) (by decide) (by decide) (by decide) ?_
        exact lc_undo C hi5 (by omega) h (by omega) (by omega) K
      · refine T_tabIn F (off := 892) 931 dL_law_39 (by decide) (by decide) (by decide) (by decide) ?_
        exact lc_keep C hi5 (by omega) h (by omega) (by omega) K
      · refine T_tabIn F (off := 905) 944 dL_law_39 (by decide) (by decide) (by decide) (by decide) ?_
        exact lc_restore C hi5 (by omega) h (by omega) (by omega) K
      · refine T_tabIn F (off := 949) 988 dL_law_39 (by decide) (by decide) (by decide) (by decide) ?_
        exact lc_hearthOf C hi5 (by omega) h (by omega) (by omega) K
      · refine T_tabIn F (off := 1017) 1056 dL_law_39 (by decide) (by decide) (by decide) (by decide) ?_
        exact lc_bankOf C hi5 (by omega) h (by omega) (by omega) K
      · refine T_tabIn F (off := 1085) 1124 dL_law_39 (by decide) (by decide) (by decide) (by decide) ?_
        exact lc_plot C hi5 (by omega) h (by omega) (by omega) K
      · refine T_tabIn F (off := 1165) 1204 dL_law_39 (by decide) (by decide) (by decide) (by decide) ?_
        exact lc_cutter C hi5 (by omega) h (by omega) (by omega) K
      · refine T_tabIn F (off := 1233) 1272 dL_law_39 (by decide) (by decide) (by decide) (by decide) ?_
        exact lc_rain C hi5 (by omega) h (by omega) (by omega) K
      · refine T_tabIn F (off := 1289) 1328 dL_law_39 (by decide) (by decide) (by decide) (by decide) ?_
        exact lc_count C hi5 (by omega) h (by omega) (by omega) K
      · refine T_tabIn F (off := 1345) 1384 dL_law_39 (by decide) (by decide) (by decide) (by decide) ?_
        exact lc_whyNot C hi5 (by omega) h (by omega) (by omega) K
      · refine T_tabIn F (off := 1425) 1464 dL_law_39 (by decide) (by decide) (by decide) (by decide) ?_
        exact lc_ifPassed C hi5 (by omega) h (by omega) (by omega) K
      · refine T_tabIn F (off := 1493) 1532 dL_law_39 (by decide) (by decide) (by decide) (by decide) ?_
        exact lc_enoughIn C hi5 (by omega) h (by omega) (by omega) K
      · refine T_tabIn F (off := 1549) 1588 dL_law_39 (by decide) (by decide) (by decide) (by decide) ?_
        exact lc_bestBank C hi5 (by omega) h (by omega) (by omega) K
      · refine T_tabIn F (off := 1617) 1656 dL_law_39 (by decide) (by decide) (by decide) (by decide) ?_
        exact lc_dryness C hi5 (by omega) h (by omega) (by omega) K
      · refine T_tabIn F (off := 1658) 1697 dL_law_39 (by decide) (by decide) (by decide) (by decide) ?_
        exact lc_digest C hi5 (by omega) h (by omega) (by omega) K
      · exact T_tabOut F 1711 dL_law_39 (Or.inr (by rw [nI_toInt (by omega)]; omega)) (by decide) (K w _ _ _ _ _ _ (LI.mono h (by omega)) (Nat.le_succ _) (Nat.le_add_right _ _))
end LL
