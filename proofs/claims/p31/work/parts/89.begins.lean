/-! HOW THE LAW BEGINS -/
section LB0
variable {l : Launch} {Ψ : mj_S → mj_W}
theorem lm_begins (hΨ : HV Ψ) (hx : ∀ f g : mj_S, (∀ k, k < 157 → f k = g k) → Ψ f = Ψ g) : MC l yL_begins wsL_begins rmL_begins false [.ref 11, .ref 12, .ref 13, .ref 17] (Ψ (fun _ => 0)) none (Ψ s_f0) := by
  refine mj_MC (cc := cL_begins) (nl := 5) (ret := none) (plainFor_of_name (by decide)) rfl (rfl) (Nat.le_of_ble_eq_true rfl) ?_
  show GG l cL_begins ML_begins false (.inl (none, Ψ s_f0)) 0 [some (.ref 11), some (.ref 12), some (.ref 13), some (.ref 17), none] [] (Ψ (fun _ => 0)) 0 0
  refine G_aload_n dL_begins_0 rfl ?_
  refine G_iconst (v := 2) dL_begins_1 (by decide) ?_
  refine G_iconst (v := 3) dL_begins_2 (by decide) ?_
  obtain ⟨f1, ef1⟩ : ∃ zz : mj_S, zz = upd (fun _ => 0 : mj_S) (2) 3 := ⟨_, rfl⟩
  refine G_iastN (j := 2) dL_begins_3 ((hΨ (fun _ => 0)).1.1) (by omega) (((hΨ (fun _ => 0)).2.1 _ _ (by omega)).trans (congrArg Ψ ef1.symm)) ?_
  refine G_aload_n dL_begins_4 rfl ?_
  refine G_iconst (v := 3) dL_begins_5 (by decide) ?_
  refine G_bipush (v := 10) dL_begins_6 (by decide) ?_
  obtain ⟨f2, ef2⟩ : ∃ zz : mj_S, zz = upd f1 (3) 10 := ⟨_, rfl⟩
  refine G_iastN (j := 3) dL_begins_8 ((hΨ f1).1.1) (by omega) (((hΨ f1).2.1 _ _ (by omega)).trans (congrArg Ψ ef2.symm)) ?_
  refine G_aload_n dL_begins_9 rfl ?_
  refine G_iconst (v := 4) dL_begins_10 (by decide) ?_
  refine G_bipush (v := 8) dL_begins_11 (by decide) ?_
  obtain ⟨f3, ef3⟩ : ∃ zz : mj_S, zz = upd f2 (4) 8 := ⟨_, rfl⟩
  refine G_iastN (j := 4) dL_begins_13 ((hΨ f2).1.1) (by omega) (((hΨ f2).2.1 _ _ (by omega)).trans (congrArg Ψ ef3.symm)) ?_
  refine G_aload_n dL_begins_14 rfl ?_
  refine G_bipush (v := 32) dL_begins_15 (by decide) ?_
  refine G_iconst (v := 1) dL_begins_17 (by decide) ?_
  obtain ⟨f4, ef4⟩ : ∃ zz : mj_S, zz = upd f3 (9) 1 := ⟨_, rfl⟩
  refine G_iastN (j := 32) dL_begins_18 ((hΨ f3).1.2.1) (by omega) (((hΨ f3).2.2.2.1 _ _ _ (by omega) (by omega)).trans (congrArg Ψ ef4.symm)) ?_
  refine G_iconst (v := 0) dL_begins_19 (by decide) ?_
  refine G_istore dL_begins_20 rfl (L' := [some (.ref 11), some (.ref 12), some (.ref 13), some (.ref 17), some (.int 0)]) rfl ?_
  refine G_iload dL_begins_22 rfl ?_
  refine G_iconst (v := 5) dL_begins_24 (by decide) ?_
  refine G_icmp_geN (a := 0) (c := 5) 46 dL_begins_25 (by decide) (by omega) (fun c25 => (show False by omega).elim) (fun _ => ?_)
  refine G_aload_n dL_begins_28 rfl ?_
  refine G_bipush (v := 8) dL_begins_29 (by decide) ?_
  refine G_iload dL_begins_31 rfl ?_
  refine G_imulN (a := 8) (c := 0) (s := 0) dL_begins_33 (by omega) ?_
  refine G_iconst (v := 1) dL_begins_34 (by decide) ?_
  refine G_iaddN (a := 0) (c := 1) (s := 1) dL_begins_35 (by omega) ?_
  refine G_sipush (v := 300) dL_begins_36 (by decide) ?_
  obtain ⟨f5, ef5⟩ : ∃ zz : mj_S, zz = upd f4 (10) 300 := ⟨_, rfl⟩
  refine G_iastN (j := 1) dL_begins_39 ((hΨ f4).1.2.1) (by omega) (((hΨ f4).2.2.2.1 _ _ _ (by omega) (by omega)).trans (congrArg Ψ ef5.symm)) ?_
  refine G_iincN (a := 0) (s := 1) dL_begins_40 rfl (by omega) (L' := [some (.ref 11), some (.ref 12), some (.ref 13), some (.ref 17), some (.int 1)]) rfl ?_
  refine G_goto 22 dL_begins_43 (by decide) ?_
  refine G_iload dL_begins_22 rfl ?_
  refine G_iconst (v := 5) dL_begins_24 (by decide) ?_
  refine G_icmp_geN (a := 1) (c := 5) 46 dL_begins_25 (by decide) (by omega) (fun c25 => (show False by omega).elim) (fun _ => ?_)
  refine G_aload_n dL_begins_28 rfl ?_
  refine G_bipush (v := 8) dL_begins_29 (by decide) ?_
  refine G_iload dL_begins_31 rfl ?_
  refine G_imulN (a := 8) (c := 1) (s := 8) dL_begins_33 (by omega) ?_
  refine G_iconst (v := 1) dL_begins_34 (by decide) ?_
  refine G_iaddN (a := 8) (c := 1) (s := 9) dL_begins_35 (by omega) ?_
  refine G_sipush (v := 300) dL_begins_36 (by decide) ?_
  obtain ⟨f6, ef6⟩ : ∃ zz : mj_S, zz = upd f5 (11) 300 := ⟨_, rfl⟩
  refine G_iastN (j := 9) dL_begins_39 ((hΨ f5).1.2.1) (by omega) (((hΨ f5).2.2.2.1 _ _ _ (by omega) (by omega)).trans (congrArg Ψ ef6.symm)) ?_
  refine G_iincN (a := 1) (s := 2) dL_begins_40 rfl (by omega) (L' := [some (.ref 11), some (.ref 12), some (.ref 13), some (.ref 17), some (.int 2)]) rfl ?_
  refine G_goto 22 dL_begins_43 (by decide) ?_
  refine G_iload dL_begins_22 rfl ?_
  refine G_iconst (v := 5) dL_begins_24 (by decide) ?_
  refine G_icmp_geN (a := 2) (c := 5) 46 dL_begins_25 (by decide) (by omega) (fun c25 => (show False by omega).elim) (fun _ => ?_)
  refine G_aload_n dL_begins_28 rfl ?_
  refine G_bipush (v := 8) dL_begins_29 (by decide) ?_
  refine G_iload dL_begins_31 rfl ?_
  refine G_imulN (a := 8) (c := 2) (s := 16) dL_begins_33 (by omega) ?_
  refine G_iconst (v := 1) dL_begins_34 (by decide) ?_
  refine G_iaddN (a := 16) (c := 1) (s := 17) dL_begins_35 (by omega) ?_
  refine G_sipush (v := 300) dL_begins_36 (by decide) ?_
  obtain ⟨f7, ef7⟩ : ∃ zz : mj_S, zz = upd f6 (12) 300 := ⟨_, rfl⟩
  refine G_iastN (j := 17) dL_begins_39 ((hΨ f6).1.2.1) (by omega) (((hΨ f6).2.2.2.1 _ _ _ (by omega) (by omega)).trans (congrArg Ψ ef7.symm)) ?_
  refine G_iincN (a := 2) (s := 3) dL_begins_40 rfl (by omega) (L' := [some (.ref 11), some (.ref 12), some (.ref 13), some (.ref 17), some (.int 3)]) rfl ?_
  refine G_goto 22 dL_begins_43 (by decide) ?_
  refine G_iload dL_begins_22 rfl ?_
  refine G_iconst (v := 5) dL_begins_24 (by decide) ?_
  refine G_icmp_geN (a := 3) (c := 5) 46 dL_begins_25 (by decide) (by omega) (fun c25 => (show False by omega).elim) (fun _ => ?_)
  refine G_aload_n dL_begins_28 rfl ?_
  refine G_bipush (v := 8) dL_begins_29 (by decide) ?_
  refine G_iload dL_begins_31 rfl ?_
  refine G_imulN (a := 8) (c := 3) (s := 24) dL_begins_33 (by omega) ?_
  refine G_iconst (v := 1) dL_begins_34 (by decide) ?_
  refine G_iaddN (a := 24) (c := 1) (s := 25) dL_begins_35 (by omega) ?_
  refine G_sipush (v := 300) dL_begins_36 (by decide) ?_
  obtain ⟨f8, ef8⟩ : ∃ zz : mj_S, zz = upd f7 (13) 300 := ⟨_, rfl⟩
  refine G_iastN (j := 25) dL_begins_39 ((hΨ f7).1.2.1) (by omega) (((hΨ f7).2.2.2.1 _ _ _ (by omega) (by omega)).trans (congrArg Ψ ef8.symm)) ?_
  refine G_iincN (a := 3) (s := 4) dL_begins_40 rfl (by omega) (L' := [some (.ref 11), some (.ref 12), some (.ref 13), some (.ref 17), some (.int 4)]) rfl ?_
  refine G_goto 22 dL_begins_43 (by decide) ?_
  refine G_iload dL_begins_22 rfl ?_
  refine G_iconst (v := 5) dL_begins_24 (by decide) ?_
  refine G_icmp_geN (a := 4) (c := 5) 46 dL_begins_25 (by decide) (by omega) (fun c25 => (show False by omega).elim) (fun _ => ?_)
  refine G_aload_n dL_begins_28 rfl ?_
  refine G_bipush (v := 8) dL_begins_29 (by decide) ?_
  refine G_iload dL_begins_31 rfl ?_
  refine G_imulN (a := 8) (c := 4) (s := 32) dL_begins_33 (by omega) ?_
  refine G_iconst (v := 1) dL_begins_34 (by decide) ?_
  refine G_iaddN (a := 32) (c := 1) (s := 33) dL_begins_35 (by omega) ?_
  refine G_sipush (v := 300) dL_begins_36 (by decide) ?_
  obtain ⟨f9, ef9⟩ : ∃ zz : mj_S, zz = upd f8 (14) 300 := ⟨_, rfl⟩
  refine G_iastN (j := 33) dL_begins_39 ((hΨ f8).1.2.1) (by omega) (((hΨ f8).2.2.2.1 _ _ _ (by omega) (by omega)).trans (congrArg Ψ ef9.symm)) ?_
  refine G_iincN (a := 4) (s := 5) dL_begins_40 rfl (by omega) (L' := [some (.ref 11), some (.ref 12), some (.ref 13), some (.ref 17), some (.int 5)]) rfl ?_
  refine G_goto 22 dL_begins_43 (by decide) ?_
  refine G_iload dL_begins_22 rfl ?_
  refine G_iconst (v := 5) dL_begins_24 (by decide) ?_
  refine G_icmp_geN (a := 5) (c := 5) 46 dL_begins_25 (by decide) (by omega) (fun _ => ?_) (fun c25 => (show False by omega).elim)
  refine G_iconst (v := 0) dL_begins_46 (by decide) ?_
  refine G_istore dL_begins_47 rfl (L' := [some (.ref 11), some (.ref 12), some (.ref 13), some (.ref 17), some (.int 0)]) rfl ?_
  refine G_iload dL_begins_49 rfl ?_
  refine G_iconst (v := 4) dL_begins_51 (by decide) ?_
  refine G_icmp_geN (a := 0) (c := 4) 79 dL_begins_52 (by decide) (by omega) (fun c52 => (show False by omega).elim) (fun _ => ?_)
  refine G_aload_n dL_begins_55 rfl ?_
  refine G_iconst (v := 5) dL_begins_56 (by decide) ?_
  refine G_iload dL_begins_57 rfl ?_
  refine G_iaddN (a := 5) (c := 0) (s := 5) dL_begins_59 (by omega) ?_
  refine G_sipush (v := 2000) dL_begins_60 (by decide) ?_
  obtain ⟨f10, ef10⟩ : ∃ zz : mj_S, zz = upd f9 (45) 2000 := ⟨_, rfl⟩
  refine G_iastN (j := 5) dL_begins_63 ((hΨ f9).1.1) (by omega) (((hΨ f9).2.2.1 _ _ _ (by omega) (by omega)).trans (congrArg Ψ ef10.symm)) ?_
  refine G_aload_n dL_begins_64 rfl ?_
  refine G_bipush (v := 9) dL_begins_65 (by decide) ?_
  refine G_iload dL_begins_67 rfl ?_
  refine G_iaddN (a := 9) (c := 0) (s := 9) dL_begins_69 (by omega) ?_
  refine G_bipush (v := 40) dL_begins_70 (by decide) ?_
  obtain ⟨f11, ef11⟩ : ∃ zz : mj_S, zz = upd f10 (49) 40 := ⟨_, rfl⟩
  refine G_iastN (j := 9) dL_begins_72 ((hΨ f10).1.1) (by omega) (((hΨ f10).2.2.1 _ _ _ (by omega) (by omega)).trans (congrArg Ψ ef11.symm)) ?_
  refine G_iincN (a := 0) (s := 1) dL_begins_73 rfl (by omega) (L' := [some (.ref 11), some (.ref 12), some (.ref 13), some (.ref 17), some (.int 1)]) rfl ?_
  refine G_goto 49 dL_begins_76 (by decide) ?_
  refine G_iload dL_begins_49 rfl ?_
  refine G_iconst (v := 4) dL_begins_51 (by decide) ?_
  refine G_icmp_geN (a := 1) (c := 4) 79 dL_begins_52 (by decide) (by omega) (fun c52 => (show False by omega).elim) (fun _ => ?_)
  refine G_aload_n dL_begins_55 rfl ?_
  refine G_iconst (v := 5) dL_begins_56 (by decide) ?_
  refine G_iload dL_begins_57 rfl ?_
  refine G_iaddN (a := 5) (c := 1) (s := 6) dL_begins_59 (by omega) ?_
  refine G_sipush (v := 2000) dL_begins_60 (by decide) ?_
  obtain ⟨f12, ef12⟩ : ∃ zz : mj_S, zz = upd f11 (46) 2000 := ⟨_, rfl⟩
  refine G_iastN (j := 6) dL_begins_63 ((hΨ f11).1.1) (by omega) (((hΨ f11).2.2.1 _ _ _ (by omega) (by omega)).trans (congrArg Ψ ef12.symm)) ?_
  refine G_aload_n dL_begins_64 rfl ?_
  refine G_bipush (v := 9) dL_begins_65 (by decide) ?_
  refine G_iload dL_begins_67 rfl ?_
  refine G_iaddN (a := 9) (c := 1) (s := 10) dL_begins_69 (by omega) ?_
  refine G_bipush (v := 40) dL_begins_70 (by decide) ?_
  obtain ⟨f13, ef13⟩ : ∃ zz : mj_S, zz = upd f12 (50) 40 := ⟨_, rfl⟩
  refine G_iastN (j := 10) dL_begins_72 ((hΨ f12).1.1) (by omega) (((hΨ f12).2.2.1 _ _ _ (by omega) (by omega)).trans (congrArg Ψ ef13.symm)) ?_
  refine G_iincN (a := 1) (s := 2) dL_begins_73 rfl (by omega) (L' := [some (.ref 11), some (.ref 12), some (.ref 13), some (.ref 17), some (.int 2)]) rfl ?_
  refine G_goto 49 dL_begins_76 (by decide) ?_
  refine G_iload dL_begins_49 rfl ?_
  refine G_iconst (v := 4) dL_begins_51 (by decide) ?_
  refine G_icmp_geN (a := 2) (c := 4) 79 dL_begins_52 (by decide) (by omega) (fun c52 => (show False by omega).elim) (fun _ => ?_)
  refine G_aload_n dL_begins_55 rfl ?_
  refine G_iconst (v := 5) dL_begins_56 (by decide) ?_
  refine G_iload dL_begins_57 rfl ?_
  refine G_iaddN (a := 5) (c := 2) (s := 7) dL_begins_59 (by omega) ?_
  refine G_sipush (v := 2000) dL_begins_60 (by decide) ?_
  obtain ⟨f14, ef14⟩ : ∃ zz : mj_S, zz = upd f13 (47) 2000 := ⟨_, rfl⟩
  refine G_iastN (j := 7) dL_begins_63 ((hΨ f13).1.1) (by omega) (((hΨ f13).2.2.1 _ _ _ (by omega) (by omega)).trans (congrArg Ψ ef14.symm)) ?_
  refine G_aload_n dL_begins_64 rfl ?_
  refine G_bipush (v := 9) dL_begins_65 (by decide) ?_
  refine G_iload dL_begins_67 rfl ?_
  refine G_iaddN (a := 9) (c := 2) (s := 11) dL_begins_69 (by omega) ?_
  refine G_bipush (v := 40) dL_begins_70 (by decide) ?_
  obtain ⟨f15, ef15⟩ : ∃ zz : mj_S, zz = upd f14 (51) 40 := ⟨_, rfl⟩
  refine G_iastN (j := 11) dL_begins_72 ((hΨ f14).1.1) (by omega) (((hΨ f14).2.2.1 _ _ _ (by omega) (by omega)).trans (congrArg Ψ ef15.symm)) ?_
  refine G_iincN (a := 2) (s := 3) dL_begins_73 rfl (by omega) (L' := [some (.ref 11), some (.ref 12), some (.ref 13), some (.ref 17), some (.int 3)]) rfl ?_
  refine G_goto 49 dL_begins_76 (by decide) ?_
  refine G_iload dL_begins_49 rfl ?_
  refine G_iconst (v := 4) dL_begins_51 (by decide) ?_
  refine G_icmp_geN (a := 3) (c := 4) 79 dL_begins_52 (by decide) (by omega) (fun c52 => (show False by omega).elim) (fun _ => ?_)
  refine G_aload_n dL_begins_55 rfl ?_
  refine G_iconst (v := 5) dL_begins_56 (by decide) ?_
  refine G_iload dL_begins_57 rfl ?_
  refine G_iaddN (a := 5) (c := 3) (s := 8) dL_begins_59 (by omega) ?_
  refine G_sipush (v := 2000) dL_begins_60 (by decide) ?_
  obtain ⟨f16, ef16⟩ : ∃ zz : mj_S, zz = upd f15 (48) 2000 := ⟨_, rfl⟩
  refine G_iastN (j := 8) dL_begins_63 ((hΨ f15).1.1) (by omega) (((hΨ f15).2.2.1 _ _ _ (by omega) (by omega)).trans (congrArg Ψ ef16.symm)) ?_
  refine G_aload_n dL_begins_64 rfl ?_
  refine G_bipush (v := 9) dL_begins_65 (by decide) ?_
  refine G_iload dL_begins_67 rfl ?_
  refine G_iaddN (a := 9) (c := 3) (s := 12) dL_begins_69 (by omega) ?_
  refine G_bipush (v := 40) dL_begins_70 (by decide) ?_
  obtain ⟨f17, ef17⟩ : ∃ zz : mj_S, zz = upd f16 (52) 40 := ⟨_, rfl⟩
  refine G_iastN (j := 12) dL_begins_72 ((hΨ f16).1.1) (by omega) (((hΨ f16).2.2.1 _ _ _ (by omega) (by omega)).trans (congrArg Ψ ef17.symm)) ?_
  refine G_iincN (a := 3) (s := 4) dL_begins_73 rfl (by omega) (L' := [some (.ref 11), some (.ref 12), some (.ref 13), some (.ref 17), some (.int 4)]) rfl ?_
  refine G_goto 49 dL_begins_76 (by decide) ?_
  refine G_iload dL_begins_49 rfl ?_
  refine G_iconst (v := 4) dL_begins_51 (by decide) ?_
  refine G_icmp_geN (a := 4) (c := 4) 79 dL_begins_52 (by decide) (by omega) (fun _ => ?_) (fun c52 => (show False by omega).elim)
  refine G_iconst (v := 0) dL_begins_79 (by decide) ?_
  refine G_istore dL_begins_80 rfl (L' := [some (.ref 11), some (.ref 12), some (.ref 13), some (.ref 17), some (.int 0)]) rfl ?_
  refine G_iload dL_begins_82 rfl ?_
  refine G_bipush (v := 16) dL_begins_84 (by decide) ?_
  refine G_icmp_geN (a := 0) (c := 16) 111 dL_begins_86 (by decide) (by omega) (fun c86 => (show False by omega).elim) (fun _ => ?_)
  refine G_aload_n dL_begins_89 rfl ?_
  refine G_iload dL_begins_90 rfl ?_
  refine G_iload dL_begins_92 rfl ?_
  refine G_iconst (v := 5) dL_begins_94 (by decide) ?_
  refine G_iremN (a := 0) (c := 5) (s := 0) dL_begins_95 (by omega) (by omega) ?_
  refine G_if_neN (a := 0) 103 dL_begins_96 (by decide) (by omega) (fun c96 => (show False by omega).elim) (fun _ => ?_)
  refine G_iconst (v := 0) dL_begins_99 (by decide) ?_
  refine G_goto 104 dL_begins_100 (by decide) ?_
  obtain ⟨f18, ef18⟩ : ∃ zz : mj_S, zz = upd f17 (53) 0 := ⟨_, rfl⟩
  refine G_iastN (j := 0) dL_begins_104 ((hΨ f17).1.2.2.1) (by omega) (((hΨ f17).2.2.2.2.1 _ _ _ (by omega) (by omega)).trans (congrArg Ψ ef18.symm)) ?_
  refine G_iincN (a := 0) (s := 1) dL_begins_105 rfl (by omega) (L' := [some (.ref 11), some (.ref 12), some (.ref 13), some (.ref 17), some (.int 1)]) rfl ?_
  refine G_goto 82 dL_begins_108 (by decide) ?_
  refine G_iload dL_begins_82 rfl ?_
  refine G_bipush (v := 16) dL_begins_84 (by decide) ?_
  refine G_icmp_geN (a := 1) (c := 16) 111 dL_begins_86 (by decide) (by omega) (fun c86 => (show False by omega).elim) (fun _ => ?_)
  refine G_aload_n dL_begins_89 rfl ?_
  refine G_iload dL_begins_90 rfl ?_
  refine G_iload dL_begins_92 rfl ?_
  refine G_iconst (v := 5) dL_begins_94 (by decide) ?_
  refine G_iremN (a := 1) (c := 5) (s := 1) dL_begins_95 (by omega) (by omega) ?_
  refine G_if_neN (a := 1) 103 dL_begins_96 (by decide) (by omega) (fun _ => ?_) (fun c96 => (show False by omega).elim)
  refine G_iconst (v := 3) dL_begins_103 (by decide) ?_
  obtain ⟨f19, ef19⟩ : ∃ zz : mj_S, zz = upd f18 (54) 3 := ⟨_, rfl⟩
  refine G_iastN (j := 1) dL_begins_104 ((hΨ f18).1.2.2.1) (by omega) (((hΨ f18).2.2.2.2.1 _ _ _ (by omega) (by omega)).trans (congrArg Ψ ef19.symm)) ?_
  refine G_iincN (a := 1) (s := 2) dL_begins_105 rfl (by omega) (L' := [some (.ref 11), some (.ref 12), some (.ref 13), some (.ref 17), some (.int 2)]) rfl ?_
  refine G_goto 82 dL_begins_108 (by decide) ?_
  refine G_iload dL_begins_82 rfl ?_
  refine G_bipush (v := 16) dL_begins_84 (by decide) ?_
  refine G_icmp_geN (a := 2) (c := 16) 111 dL_begins_86 (by decide) (by omega) (fun c86 => (show False by omega).elim) (fun _ => ?_)
  refine G_aload_n dL_begins_89 rfl ?_
  refine G_iload dL_begins_90 rfl ?_
  refine G_iload dL_begins_92 rfl ?_
  refine G_iconst (v := 5) dL_begins_94 (by decide) ?_
  refine G_iremN (a := 2) (c := 5) (s := 2) dL_begins_95 (by omega) (by omega) ?_
  refine G_if_neN (a := 2) 103 dL_begins_96 (by decide) (by omega) (fun _ => ?_) (fun c96 => (show False by omega).elim)
  refine G_iconst (v := 3) dL_begins_103 (by decide) ?_
  obtain ⟨f20, ef20⟩ : ∃ zz : mj_S, zz = upd f19 (55) 3 := ⟨_, rfl⟩
  refine G_iastN (j := 2) dL_begins_104 ((hΨ f19).1.2.2.1) (by omega) (((hΨ f19).2.2.2.2.1 _ _ _ (by omega) (by omega)).trans (congrArg Ψ ef20.symm)) ?_
  refine G_iincN (a := 2) (s := 3) dL_begins_105 rfl (by omega) (L' := [some (.ref 11), some (.ref 12), some (.ref 13), some (.ref 17), some (.int 3)]) rfl ?_
  refine G_goto 82 dL_begins_108 (by decide) ?_
  refine G_iload dL_begins_82 rfl ?_
  refine G_bipush (v := 16) dL_begins_84 (by decide) ?_
  refine G_icmp_geN (a := 3) (c := 16) 111 dL_begins_86 (by decide) (by omega) (fun c86 => (show False by omega).elim) (fun _ => ?_)
  refine G_aload_n dL_begins_89 rfl ?_
  refine G_iload dL_begins_90 rfl ?_
  refine G_iload dL_begins_92 rfl ?_
  refine G_iconst (v := 5) dL_begins_94 (by decide) ?_
  refine G_iremN (a := 3) (c := 5) (s := 3) dL_begins_95 (by omega) (by omega) ?_
  refine G_if_neN (a := 3) 103 dL_begins_96 (by decide) (by omega) (fun _ => ?_) (fun c96 => (show False by omega).elim)
  refine G_iconst (v := 3) dL_begins_103 (by decide) ?_
  obtain ⟨f21, ef21⟩ : ∃ zz : mj_S, zz = upd f20 (56) 3 := ⟨_, rfl⟩
  refine G_iastN (j := 3) dL_begins_104 ((hΨ f20).1.2.2.1) (by omega) (((hΨ f20).2.2.2.2.1 _ _ _ (by omega) (by omega)).trans (congrArg Ψ ef21.symm)) ?_
  refine G_iincN (a := 3) (s := 4) dL_begins_105 rfl (by omega) (L' := [some (.ref 11), some (.ref 12), some (.ref 13), some (.ref 17), some (.int 4)]) rfl ?_
  refine G_goto 82 dL_begins_108 (by decide) ?_
  refine G_iload dL_begins_82 rfl ?_
  refine G_bipush (v := 16) dL_begins_84 (by decide) ?_
  refine G_icmp_geN (a := 4) (c := 16) 111 dL_begins_86 (by decide) (by omega) (fun c86 => (show False by omega).elim) (fun _ => ?_)
  refine G_aload_n dL_begins_89 rfl ?_
  refine G_iload dL_begins_90 rfl ?_
  refine G_iload dL_begins_92 rfl ?_
  refine G_iconst (v := 5) dL_begins_94 (by decide) ?_
  refine G_iremN (a := 4) (c := 5) (s := 4) dL_begins_95 (by omega) (by omega) ?_
  refine G_if_neN (a := 4) 103 dL_begins_96 (by decide) (by omega) (fun _ => ?_) (fun c96 => (show False by omega).elim)
  refine G_iconst (v := 3) dL_begins_103 (by decide) ?_
  obtain ⟨f22, ef22⟩ : ∃ zz : mj_S, zz = upd f21 (57) 3 := ⟨_, rfl⟩
  refine G_iastN (j := 4) dL_begins_104 ((hΨ f21).1.2.2.1) (by omega) (((hΨ f21).2.2.2.2.1 _ _ _ (by omega) (by omega)).trans (congrArg Ψ ef22.symm)) ?_
  refine G_iincN (a := 4) (s := 5) dL_begins_105 rfl (by omega) (L' := [some (.ref 11), some (.ref 12), some (.ref 13), some (.ref 17), some (.int 5)]) rfl ?_
  refine G_goto 82 dL_begins_108 (by decide) ?_
  refine G_iload dL_begins_82 rfl ?_
  refine G_bipush (v := 16) dL_begins_84 (by decide) ?_
  refine G_icmp_geN (a := 5) (c := 16) 111 dL_begins_86 (by decide) (by omega) (fun c86 => (show False by omega).elim) (fun _ => ?_)
  refine G_aload_n dL_begins_89 rfl ?_
  refine G_iload dL_begins_90 rfl ?_
  refine G_iload dL_begins_92 rfl ?_
  refine G_iconst (v := 5) dL_begins_94 (by decide) ?_
  refine G_iremN (a := 5) (c := 5) (s := 0) dL_begins_95 (by omega) (by omega) ?_
  refine G_if_neN (a := 0) 103 dL_begins_96 (by decide) (by omega) (fun c96 => (show False by omega).elim) (fun _ => ?_)
  refine G_iconst (v := 0) dL_begins_99 (by decide) ?_
  refine G_goto 104 dL_begins_100 (by decide) ?_
  obtain ⟨f23, ef23⟩ : ∃ zz : mj_S, zz = upd f22 (58) 0 := ⟨_, rfl⟩
  refine G_iastN (j := 5) dL_begins_104 ((hΨ f22).1.2.2.1) (by omega) (((hΨ f22).2.2.2.2.1 _ _ _ (by omega) (by omega)).trans (congrArg Ψ ef23.symm)) ?_
  refine G_iincN (a := 5) (s := 6) dL_begins_105 rfl (by omega) (L' := [some (.ref 11), some (.ref 12), some (.ref 13), some (.ref 17), some (.int 6)]) rfl ?_
  refine G_goto 82 dL_begins_108 (by decide) ?_
  refine G_iload dL_begins_82 rfl ?_
  refine G_bipush (v := 16) dL_begins_84 (by decide) ?_
  refine G_icmp_geN (a := 6) (c := 16) 111 dL_begins_86 (by decide) (by omega) (fun c86 => (show False by omega).elim) (fun _ => ?_)
  refine G_aload_n dL_begins_89 rfl ?_
  refine G_iload dL_begins_90 rfl ?_
  refine G_iload dL_begins_92 rfl ?_
  refine G_iconst (v := 5) dL_begins_94 (by decide) ?_
  refine G_iremN (a := 6) (c := 5) (s := 1) dL_begins_95 (by omega) (by omega) ?_
  refine G_if_neN (a := 1) 103 dL_begins_96 (by decide) (by omega) (fun _ => ?_) (fun c96 => (show False by omega).elim)
  refine G_iconst (v := 3) dL_begins_103 (by decide) ?_
  obtain ⟨f24, ef24⟩ : ∃ zz : mj_S, zz = upd f23 (59) 3 := ⟨_, rfl⟩
  refine G_iastN (j := 6) dL_begins_104 ((hΨ f23).1.2.2.1) (by omega) (((hΨ f23).2.2.2.2.1 _ _ _ (by omega) (by omega)).trans (congrArg Ψ ef24.symm)) ?_
  refine G_iincN (a := 6) (s := 7) dL_begins_105 rfl (by omega) (L' := [some (.ref 11), some (.ref 12), some (.ref 13), some (.ref 17), some (.int 7)]) rfl ?_
  refine G_goto 82 dL_begins_108 (by decide) ?_
  refine G_iload dL_begins_82 rfl ?_
  refine G_bipush (v := 16) dL_begins_84 (by decide) ?_
  refine G_icmp_geN (a := 7) (c := 16) 111 dL_begins_86 (by decide) (by omega) (fun c86 => (show False by omega).elim) (fun _ => ?_)
  refine G_aload_n dL_begins_89 rfl ?_
  refine G_iload dL_begins_90 rfl ?_
  refine G_iload dL_begins_92 rfl ?_
  refine G_iconst (v := 5) dL_begins_94 (by decide) ?_
  refine G_iremN (a := 7) (c := 5) (s := 2) dL_begins_95 (by omega) (by omega) ?_
  refine G_if_neN (a := 2) 103 dL_begins_96 (by decide) (by omega) (fun _ => ?_) (fun c96 => (show False by omega).elim)
  refine G_iconst (v := 3) dL_begins_103 (by decide) ?_
  obtain ⟨f25, ef25⟩ : ∃ zz : mj_S, zz = upd f24 (60) 3 := ⟨_, rfl⟩
  refine G_iastN (j := 7) dL_begins_104 ((hΨ f24).1.2.2.1) (by omega) (((hΨ f24).2.2.2.2.1 _ _ _ (by omega) (by omega)).trans (congrArg Ψ ef25.symm)) ?_
  refine G_iincN (a := 7) (s := 8) dL_begins_105 rfl (by omega) (L' := [some (.ref 11), some (.ref 12), some (.ref 13), some (.ref 17), some (.int 8)]) rfl ?_
  refine G_goto 82 dL_begins_108 (by decide) ?_
  refine G_iload dL_begins_82 rfl ?_
  refine G_bipush (v := 16) dL_begins_84 (by decide) ?_
  refine G_icmp_geN (a := 8) (c := 16) 111 dL_begins_86 (by decide) (by omega) (fun c86 => (show False by omega).elim) (fun _ => ?_)
  refine G_aload_n dL_begins_89 rfl ?_
  refine G_iload dL_begins_90 rfl ?_
  refine G_iload dL_begins_92 rfl ?_
  refine G_iconst (v := 5) dL_begins_94 (by decide) ?_
  refine G_iremN (a := 8) (c := 5) (s := 3) dL_begins_95 (by omega) (by omega) ?_
  refine G_if_neN (a := 3) 103 dL_begins_96 (by decide) (by omega) (fun _ => ?_) (fun c96 => (show False by omega).elim)
  refine G_iconst (v := 3) dL_begins_103 (by decide) ?_
  obtain ⟨f26, ef26⟩ : ∃ zz : mj_S, zz = upd f25 (61) 3 := ⟨_, rfl⟩
  refine G_iastN (j := 8) dL_begins_104 ((hΨ f25).1.2.2.1) (by omega) (((hΨ f25).2.2.2.2.1 _ _ _ (by omega) (by omega)).trans (congrArg Ψ ef26.symm)) ?_
  refine G_iincN (a := 8) (s := 9) dL_begins_105 rfl (by omega) (L' := [some (.ref 11), some (.ref 12), some (.ref 13), some (.ref 17), some (.int 9)]) rfl ?_
  refine G_goto 82 dL_begins_108 (by decide) ?_
  refine G_iload dL_begins_82 rfl ?_
  refine G_bipush (v := 16) dL_begins_84 (by decide) ?_
  refine G_icmp_geN (a := 9) (c := 16) 111 dL_begins_86 (by decide) (by omega) (fun c86 => (show False by omega).elim) (fun _ => ?_)
  refine G_aload_n dL_begins_89 rfl ?_
  refine G_iload dL_begins_90 rfl ?_
  refine G_iload dL_begins_92 rfl ?_
  refine G_iconst (v := 5) dL_begins_94 (by decide) ?_
  refine G_iremN (a := 9) (c := 5) (s := 4) dL_begins_95 (by omega) (by omega) ?_
  refine G_if_neN (a := 4) 103 dL_begins_96 (by decide) (by omega) (fun _ => ?_) (fun c96 => (show False by omega).elim)
  refine G_iconst (v := 3) dL_begins_103 (by decide) ?_
  obtain ⟨f27, ef27⟩ : ∃ zz : mj_S, zz = upd f26 (62) 3 := ⟨_, rfl⟩
  refine G_iastN (j := 9) dL_begins_104 ((hΨ f26).1.2.2.1) (by omega) (((hΨ f26).2.2.2.2.1 _ _ _ (by omega) (by omega)).trans (congrArg Ψ ef27.symm)) ?_
  refine G_iincN (a := 9) (s := 10) dL_begins_105 rfl (by omega) (L' := [some (.ref 11), some (.ref 12), some (.ref 13), some (.ref 17), some (.int 10)]) rfl ?_
  refine G_goto 82 dL_begins_108 (by decide) ?_
  refine G_iload dL_begins_82 rfl ?_
  refine G_bipush (v := 16) dL_begins_84 (by decide) ?_
  refine G_icmp_geN (a := 10) (c := 16) 111 dL_begins_86 (by decide) (by omega) (fun c86 => (show False by omega).elim) (fun _ => ?_)
  refine G_aload_n dL_begins_89 rfl ?_
  refine G_iload dL_begins_90 rfl ?_
  refine G_iload dL_begins_92 rfl ?_
  refine G_iconst (v := 5) dL_begins_94 (by decide) ?_
  refine G_iremN (a := 10) (c := 5) (s := 0) dL_begins_95 (by omega) (by omega) ?_
  refine G_if_neN (a := 0) 103 dL_begins_96 (by decide) (by omega) (fun c96 => (show False by omega).elim) (fun _ => ?_)
  refine G_iconst (v := 0) dL_begins_99 (by decide) ?_
  refine G_goto 104 dL_begins_100 (by decide) ?_
  obtain ⟨f28, ef28⟩ : ∃ zz : mj_S, zz = upd f27 (63) 0 := ⟨_, rfl⟩
  refine G_iastN (j := 10) dL_begins_104 ((hΨ f27).1.2.2.1) (by omega) (((hΨ f27).2.2.2.2.1 _ _ _ (by omega) (by omega)).trans (congrArg Ψ ef28.symm)) ?_
  refine G_iincN (a := 10) (s := 11) dL_begins_105 rfl (by omega) (L' := [some (.ref 11), some (.ref 12), some (.ref 13), some (.ref 17), some (.int 11)]) rfl ?_
  refine G_goto 82 dL_begins_108 (by decide) ?_
  refine G_iload dL_begins_82 rfl ?_
  refine G_bipush (v := 16) dL_begins_84 (by decide) ?_
  refine G_icmp_geN (a := 11) (c := 16) 111 dL_begins_86 (by decide) (by omega) (fun c86 => (show False by omega).elim) (fun _ => ?_)
  refine G_aload_n dL_begins_89 rfl ?_
  refine G_iload dL_begins_90 rfl ?_
  refine G_iload dL_begins_92 rfl ?_
  refine G_iconst (v := 5) dL_begins_94 (by decide) ?_
  refine G_iremN (a := 11) (c := 5) (s := 1) dL_begins_95 (by omega) (by omega) ?_
  refine G_if_neN (a := 1) 103 dL_begins_96 (by decide) (by omega) (fun _ => ?_) (fun c96 => (show False by omega).elim)
  refine G_iconst (v := 3) dL_begins_103 (by decide) ?_
  obtain ⟨f29, ef29⟩ : ∃ zz : mj_S, zz = upd f28 (64) 3 := ⟨_, rfl⟩
  refine G_iastN (j := 11) dL_begins_104 ((hΨ f28).1.2.2.1) (by omega) (((hΨ f28).2.2.2.2.1 _ _ _ (by omega) (by omega)).trans (congrArg Ψ ef29.symm)) ?_
  refine G_iincN (a := 11) (s := 12) dL_begins_105 rfl (by omega) (L' := [some (.ref 11), some (.ref 12), some (.ref 13), some (.ref 17), some (.int 12)]) rfl ?_
  refine G_goto 82 dL_begins_108 (by decide) ?_
  refine G_iload dL_begins_82 rfl ?_
  refine G_bipush (v := 16) dL_begins_84 (by decide) ?_
  refine G_icmp_geN (a := 12) (c := 16) 111 dL_begins_86 (by decide) (by omega) (fun c86 => (show False by omega).elim) (fun _ => ?_)
  refine G_aload_n dL_begins_89 rfl ?_
  refine G_iload dL_begins_90 rfl ?_
  refine G_iload dL_begins_92 rfl ?_
  refine G_iconst (v := 5) dL_begins_94 (by decide) ?_
  refine G_iremN (a := 12) (c := 5) (s := 2) dL_begins_95 (by omega) (by omega) ?_
  refine G_if_neN (a := 2) 103 dL_begins_96 (by decide) (by omega) (fun _ => ?_) (fun c96 => (show False by omega).elim)
  refine G_iconst (v := 3) dL_begins_103 (by decide) ?_
  obtain ⟨f30, ef30⟩ : ∃ zz : mj_S, zz = upd f29 (65) 3 := ⟨_, rfl⟩
  refine G_iastN (j := 12) dL_begins_104 ((hΨ f29).1.2.2.1) (by omega) (((hΨ f29).2.2.2.2.1 _ _ _ (by omega) (by omega)).trans (congrArg Ψ ef30.symm)) ?_
  refine G_iincN (a := 12) (s := 13) dL_begins_105 rfl (by omega) (L' := [some (.ref 11), some (.ref 12), some (.ref 13), some (.ref 17), some (.int 13)]) rfl ?_
  refine G_goto 82 dL_begins_108 (by decide) ?_
  refine G_iload dL_begins_82 rfl ?_
  refine G_bipush (v := 16) dL_begins_84 (by decide) ?_
  refine G_icmp_geN (a := 13) (c := 16) 111 dL_begins_86 (by decide) (by omega) (fun c86 => (show False by omega).elim) (fun _ => ?_)
  refine G_aload_n dL_begins_89 rfl ?_
  refine G_iload dL_begins_90 rfl ?_
  refine G_iload dL_begins_92 rfl ?_
  refine G_iconst (v := 5) dL_begins_94 (by decide) ?_
  refine G_iremN (a := 13) (c := 5) (s := 3) dL_begins_95 (by omega) (by omega) ?_
  refine G_if_neN (a := 3) 103 dL_begins_96 (by decide) (by omega) (fun _ => ?_) (fun c96 => (show False by omega).elim)
  refine G_iconst (v := 3) dL_begins_103 (by decide) ?_
  obtain ⟨f31, ef31⟩ : ∃ zz : mj_S, zz = upd f30 (66) 3 := ⟨_, rfl⟩
  refine G_iastN (j := 13) dL_begins_104 ((hΨ f30).1.2.2.1) (by omega) (((hΨ f30).2.2.2.2.1 _ _ _ (by omega) (by omega)).trans (congrArg Ψ ef31.symm)) ?_
  refine G_iincN (a := 13) (s := 14) dL_begins_105 rfl (by omega) (L' := [some (.ref 11), some (.ref 12), some (.ref 13), some (.ref 17), some (.int 14)]) rfl ?_
  refine G_goto 82 dL_begins_108 (by decide) ?_
  refine G_iload dL_begins_82 rfl ?_
  refine G_bipush (v := 16) dL_begins_84 (by decide) ?_
  refine G_icmp_geN (a := 14) (c := 16) 111 dL_begins_86 (by decide) (by omega) (fun c86 => (show False by omega).elim) (fun _ => ?_)
  refine G_aload_n dL_begins_89 rfl ?_
  refine G_iload dL_begins_90 rfl ?_
  refine G_iload dL_begins_92 rfl ?_
  refine G_iconst (v := 5) dL_begins_94 (by decide) ?_
  refine G_iremN (a := 14) (c := 5) (s := 4) dL_begins_95 (by omega) (by omega) ?_
  refine G_if_neN (a := 4) 103 dL_begins_96 (by decide) (by omega) (fun _ => ?_) (fun c96 => (show False by omega).elim)
  refine G_iconst (v := 3) dL_begins_103 (by decide) ?_
  obtain ⟨f32, ef32⟩ : ∃ zz : mj_S, zz = upd f31 (67) 3 := ⟨_, rfl⟩
  refine G_iastN (j := 14) dL_begins_104 ((hΨ f31).1.2.2.1) (by omega) (((hΨ f31).2.2.2.2.1 _ _ _ (by omega) (by omega)).trans (congrArg Ψ ef32.symm)) ?_
  refine G_iincN (a := 14) (s := 15) dL_begins_105 rfl (by omega) (L' := [some (.ref 11), some (.ref 12), some (.ref 13), some (.ref 17), some (.int 15)]) rfl ?_
  refine G_goto 82 dL_begins_108 (by decide) ?_
  refine G_iload dL_begins_82 rfl ?_
  refine G_bipush (v := 16) dL_begins_84 (by decide) ?_
  refine G_icmp_geN (a := 15) (c := 16) 111 dL_begins_86 (by decide) (by omega) (fun c86 => (show False by omega).elim) (fun _ => ?_)
  refine G_aload_n dL_begins_89 rfl ?_
  refine G_iload dL_begins_90 rfl ?_
  refine G_iload dL_begins_92 rfl ?_
  refine G_iconst (v := 5) dL_begins_94 (by decide) ?_
  refine G_iremN (a := 15) (c := 5) (s := 0) dL_begins_95 (by omega) (by omega) ?_
  refine G_if_neN (a := 0) 103 dL_begins_96 (by decide) (by omega) (fun c96 => (show False by omega).elim) (fun _ => ?_)
  refine G_iconst (v := 0) dL_begins_99 (by decide) ?_
  refine G_goto 104 dL_begins_100 (by decide) ?_
  obtain ⟨f33, ef33⟩ : ∃ zz : mj_S, zz = upd f32 (68) 0 := ⟨_, rfl⟩
  refine G_iastN (j := 15) dL_begins_104 ((hΨ f32).1.2.2.1) (by omega) (((hΨ f32).2.2.2.2.1 _ _ _ (by omega) (by omega)).trans (congrArg Ψ ef33.symm)) ?_
  refine G_iincN (a := 15) (s := 16) dL_begins_105 rfl (by omega) (L' := [some (.ref 11), some (.ref 12), some (.ref 13), some (.ref 17), some (.int 16)]) rfl ?_
  refine G_goto 82 dL_begins_108 (by decide) ?_
  refine G_iload dL_begins_82 rfl ?_
  refine G_bipush (v := 16) dL_begins_84 (by decide) ?_
  refine G_icmp_geN (a := 16) (c := 16) 111 dL_begins_86 (by decide) (by omega) (fun _ => ?_) (fun c86 => (show False by omega).elim)
  refine G_iconst (v := 0) dL_begins_111 (by decide) ?_
  refine G_istore dL_begins_112 rfl (L' := [some (.ref 11), some (.ref 12), some (.ref 13), some (.ref 17), some (.int 0)]) rfl ?_
  refine G_iload dL_begins_114 rfl ?_
  refine G_bipush (v := 6) dL_begins_116 (by decide) ?_
  refine G_icmp_geN (a := 0) (c := 6) 158 dL_begins_118 (by decide) (by omega) (fun c118 => (show False by omega).elim) (fun _ => ?_)
  refine G_aload_n dL_begins_121 rfl ?_
  refine G_iconst (v := 4) dL_begins_122 (by decide) ?_
  refine G_iload dL_begins_123 rfl ?_
  refine G_imulN (a := 4) (c := 0) (s := 0) dL_begins_125 (by omega) ?_
  refine G_bipush (v := 10) dL_begins_126 (by decide) ?_
  refine G_iconst (v := 2) dL_begins_128 (by decide) ?_
  refine G_iload dL_begins_129 rfl ?_
  refine G_imulN (a := 2) (c := 0) (s := 0) dL_begins_131 (by omega) ?_
  refine G_iaddN (a := 10) (c := 0) (s := 10) dL_begins_132 (by omega) ?_
  obtain ⟨f34, ef34⟩ : ∃ zz : mj_S, zz = upd f33 (133) 10 := ⟨_, rfl⟩
  refine G_iastN (j := 0) dL_begins_133 ((hΨ f33).1.2.2.2.2.2.2) (by omega) (((hΨ f33).2.2.2.2.2.2.2.2 _ _ _ (by omega) (by omega)).trans (congrArg Ψ ef34.symm)) ?_
  refine G_aload_n dL_begins_134 rfl ?_
  refine G_iconst (v := 4) dL_begins_135 (by decide) ?_
  refine G_iload dL_begins_136 rfl ?_
  refine G_imulN (a := 4) (c := 0) (s := 0) dL_begins_138 (by omega) ?_
  refine G_iconst (v := 1) dL_begins_139 (by decide) ?_
  refine G_iaddN (a := 0) (c := 1) (s := 1) dL_begins_140 (by omega) ?_
  refine G_iconst (v := (-1)) dL_begins_141 (by decide) ?_
  obtain ⟨f35, ef35⟩ : ∃ zz : mj_S, zz = upd f34 (139) (-1) := ⟨_, rfl⟩
  refine G_iastN (j := 1) dL_begins_142 ((hΨ f34).1.2.2.2.2.2.2) (by omega) (((hΨ f34).2.2.2.2.2.2.2.2 _ _ _ (by omega) (by omega)).trans (congrArg Ψ ef35.symm)) ?_
  refine G_aload_n dL_begins_143 rfl ?_
  refine G_iconst (v := 4) dL_begins_144 (by decide) ?_
  refine G_iload dL_begins_145 rfl ?_
  refine G_imulN (a := 4) (c := 0) (s := 0) dL_begins_147 (by omega) ?_
  refine G_iconst (v := 2) dL_begins_148 (by decide) ?_
  refine G_iaddN (a := 0) (c := 2) (s := 2) dL_begins_149 (by omega) ?_
  refine G_iconst (v := (-1)) dL_begins_150 (by decide) ?_
  obtain ⟨f36, ef36⟩ : ∃ zz : mj_S, zz = upd f35 (145) (-1) := ⟨_, rfl⟩
  refine G_iastN (j := 2) dL_begins_151 ((hΨ f35).1.2.2.2.2.2.2) (by omega) (((hΨ f35).2.2.2.2.2.2.2.2 _ _ _ (by omega) (by omega)).trans (congrArg Ψ ef36.symm)) ?_
  refine G_iincN (a := 0) (s := 1) dL_begins_152 rfl (by omega) (L' := [some (.ref 11), some (.ref 12), some (.ref 13), some (.ref 17), some (.int 1)]) rfl ?_
  refine G_goto 114 dL_begins_155 (by decide) ?_
  refine G_iload dL_begins_114 rfl ?_
  refine G_bipush (v := 6) dL_begins_116 (by decide) ?_
  refine G_icmp_geN (a := 1) (c := 6) 158 dL_begins_118 (by decide) (by omega) (fun c118 => (show False by omega).elim) (fun _ => ?_)
  refine G_aload_n dL_begins_121 rfl ?_
  refine G_iconst (v := 4) dL_begins_122 (by decide) ?_
  refine G_iload dL_begins_123 rfl ?_
  refine G_imulN (a := 4) (c := 1) (s := 4) dL_begins_125 (by omega) ?_
  refine G_bipush (v := 10) dL_begins_126 (by decide) ?_
  refine G_iconst (v := 2) dL_begins_128 (by decide) ?_
  refine G_iload dL_begins_129 rfl ?_
  refine G_imulN (a := 2) (c := 1) (s := 2) dL_begins_131 (by omega) ?_
  refine G_iaddN (a := 10) (c := 2) (s := 12) dL_begins_132 (by omega) ?_
  obtain ⟨f37, ef37⟩ : ∃ zz : mj_S, zz = upd f36 (134) 12 := ⟨_, rfl⟩
  refine G_iastN (j := 4) dL_begins_133 ((hΨ f36).1.2.2.2.2.2.2) (by omega) (((hΨ f36).2.2.2.2.2.2.2.2 _ _ _ (by omega) (by omega)).trans (congrArg Ψ ef37.symm)) ?_
  refine G_aload_n dL_begins_134 rfl ?_
  refine G_iconst (v := 4) dL_begins_135 (by decide) ?_
  refine G_iload dL_begins_136 rfl ?_
  refine G_imulN (a := 4) (c := 1) (s := 4) dL_begins_138 (by omega) ?_
  refine G_iconst (v := 1) dL_begins_139 (by decide) ?_
  refine G_iaddN (a := 4) (c := 1) (s := 5) dL_begins_140 (by omega) ?_
  refine G_iconst (v := (-1)) dL_begins_141 (by decide) ?_
  obtain ⟨f38, ef38⟩ : ∃ zz : mj_S, zz = upd f37 (140) (-1) := ⟨_, rfl⟩
  refine G_iastN (j := 5) dL_begins_142 ((hΨ f37).1.2.2.2.2.2.2) (by omega) (((hΨ f37).2.2.2.2.2.2.2.2 _ _ _ (by omega) (by omega)).trans (congrArg Ψ ef38.symm)) ?_
  refine G_aload_n dL_begins_143 rfl ?_
  refine G_iconst (v := 4) dL_begins_144 (by decide) ?_
  refine G_iload dL_begins_145 rfl ?_
  refine G_imulN (a := 4) (c := 1) (s := 4) dL_begins_147 (by omega) ?_
  refine G_iconst (v := 2) dL_begins_148 (by decide) ?_
  refine G_iaddN (a := 4) (c := 2) (s := 6) dL_begins_149 (by omega) ?_
  refine G_iconst (v := (-1)) dL_begins_150 (by decide) ?_
  obtain ⟨f39, ef39⟩ : ∃ zz : mj_S, zz = upd f38 (146) (-1) := ⟨_, rfl⟩
  refine G_iastN (j := 6) dL_begins_151 ((hΨ f38).1.2.2.2.2.2.2) (by omega) (((hΨ f38).2.2.2.2.2.2.2.2 _ _ _ (by omega) (by omega)).trans (congrArg Ψ ef39.symm)) ?_
  refine G_iincN (a := 1) (s := 2) dL_begins_152 rfl (by omega) (L' := [some (.ref 11), some (.ref 12), some (.ref 13), some (.ref 17), some (.int 2)]) rfl ?_
  refine G_goto 114 dL_begins_155 (by decide) ?_
  refine G_iload dL_begins_114 rfl ?_
  refine G_bipush (v := 6) dL_begins_116 (by decide) ?_
  refine G_icmp_geN (a := 2) (c := 6) 158 dL_begins_118 (by decide) (by omega) (fun c118 => (show False by omega).elim) (fun _ => ?_)
  refine G_aload_n dL_begins_121 rfl ?_
  refine G_iconst (v := 4) dL_begins_122 (by decide) ?_
  refine G_iload dL_begins_123 rfl ?_
  refine G_imulN (a := 4) (c := 2) (s := 8) dL_begins_125 (by omega) ?_
  refine G_bipush (v := 10) dL_begins_126 (by decide) ?_
  refine G_iconst (v := 2) dL_begins_128 (by decide) ?_
  refine G_iload dL_begins_129 rfl ?_
  refine G_imulN (a := 2) (c := 2) (s := 4) dL_begins_131 (by omega) ?_
  refine G_iaddN (a := 10) (c := 4) (s := 14) dL_begins_132 (by omega) ?_
  obtain ⟨f40, ef40⟩ : ∃ zz : mj_S, zz = upd f39 (135) 14 := ⟨_, rfl⟩
  refine G_iastN (j := 8) dL_begins_133 ((hΨ f39).1.2.2.2.2.2.2) (by omega) (((hΨ f39).2.2.2.2.2.2.2.2 _ _ _ (by omega) (by omega)).trans (congrArg Ψ ef40.symm)) ?_
  refine G_aload_n dL_begins_134 rfl ?_
  refine G_iconst (v := 4) dL_begins_135 (by decide) ?_
  refine G_iload dL_begins_136 rfl ?_
  refine G_imulN (a := 4) (c := 2) (s := 8) dL_begins_138 (by omega) ?_
  refine G_iconst (v := 1) dL_begins_139 (by decide) ?_
  refine G_iaddN (a := 8) (c := 1) (s := 9) dL_begins_140 (by omega) ?_
  refine G_iconst (v := (-1)) dL_begins_141 (by decide) ?_
  obtain ⟨f41, ef41⟩ : ∃ zz : mj_S, zz = upd f40 (141) (-1) := ⟨_, rfl⟩
  refine G_iastN (j := 9) dL_begins_142 ((hΨ f40).1.2.2.2.2.2.2) (by omega) (((hΨ f40).2.2.2.2.2.2.2.2 _ _ _ (by omega) (by omega)).trans (congrArg Ψ ef41.symm)) ?_
  refine G_aload_n dL_begins_143 rfl ?_
  refine G_iconst (v := 4) dL_begins_144 (by decide) ?_
  refine G_iload dL_begins_145 rfl ?_
  refine G_imulN (a := 4) (c := 2) (s := 8) dL_begins_147 (by omega) ?_
  refine G_iconst (v := 2) dL_begins_148 (by decide) ?_
  refine G_iaddN (a := 8) (c := 2) (s := 10) dL_begins_149 (by omega) ?_
  refine G_iconst (v := (-1)) dL_begins_150 (by decide) ?_
  obtain ⟨f42, ef42⟩ : ∃ zz : mj_S, zz = upd f41 (147) (-1) := ⟨_, rfl⟩
  refine G_iastN (j := 10) dL_begins_151 ((hΨ f41).1.2.2.2.2.2.2) (by omega) (((hΨ f41).2.2.2.2.2.2.2.2 _ _ _ (by omega) (by omega)).trans (congrArg Ψ ef42.symm)) ?_
  refine G_iincN (a := 2) (s := 3) dL_begins_152 rfl (by omega) (L' := [some (.ref 11), some (.ref 12), some (.ref 13), some (.ref 17), some (.int 3)]) rfl ?_
  refine G_goto 114 dL_begins_155 (by decide) ?_
  refine G_iload dL_begins_114 rfl ?_
  refine G_bipush (v := 6) dL_begins_116 (by decide) ?_
  refine G_icmp_geN (a := 3) (c := 6) 158 dL_begins_118 (by decide) (by omega) (fun c118 => (show False by omega).elim) (fun _ => ?_)
  refine G_aload_n dL_begins_121 rfl ?_
  refine G_iconst (v := 4) dL_begins_122 (by decide) ?_
  refine G_iload dL_begins_123 rfl ?_
  refine G_imulN (a := 4) (c := 3) (s := 12) dL_begins_125 (by omega) ?_
  refine G_bipush (v := 10) dL_begins_126 (by decide) ?_
  refine G_iconst (v := 2) dL_begins_128 (by decide) ?_
  refine G_iload dL_begins_129 rfl ?_
  refine G_imulN (a := 2) (c := 3) (s := 6) dL_begins_131 (by omega) ?_
  refine G_iaddN (a := 10) (c := 6) (s := 16) dL_begins_132 (by omega) ?_
  obtain ⟨f43, ef43⟩ : ∃ zz : mj_S, zz = upd f42 (136) 16 := ⟨_, rfl⟩
  refine G_iastN (j := 12) dL_begins_133 ((hΨ f42).1.2.2.2.2.2.2) (by omega) (((hΨ f42).2.2.2.2.2.2.2.2 _ _ _ (by omega) (by omega)).trans (congrArg Ψ ef43.symm)) ?_
  refine G_aload_n dL_begins_134 rfl ?_
  refine G_iconst (v := 4) dL_begins_135 (by decide) ?_
  refine G_iload dL_begins_136 rfl ?_
  refine G_imulN (a := 4) (c := 3) (s := 12) dL_begins_138 (by omega) ?_
  refine G_iconst (v := 1) dL_begins_139 (by decide) ?_
  refine G_iaddN (a := 12) (c := 1) (s := 13) dL_begins_140 (by omega) ?_
  refine G_iconst (v := (-1)) dL_begins_141 (by decide) ?_
  obtain ⟨f44, ef44⟩ : ∃ zz : mj_S, zz = upd f43 (142) (-1) := ⟨_, rfl⟩
  refine G_iastN (j := 13) dL_begins_142 ((hΨ f43).1.2.2.2.2.2.2) (by omega) (((hΨ f43).2.2.2.2.2.2.2.2 _ _ _ (by omega) (by omega)).trans (congrArg Ψ ef44.symm)) ?_
  refine G_aload_n dL_begins_143 rfl ?_
  refine G_iconst (v := 4) dL_begins_144 (by decide) ?_
  refine G_iload dL_begins_145 rfl ?_
  refine G_imulN (a := 4) (c := 3) (s := 12) dL_begins_147 (by omega) ?_
  refine G_iconst (v := 2) dL_begins_148 (by decide) ?_
  refine G_iaddN (a := 12) (c := 2) (s := 14) dL_begins_149 (by omega) ?_
  refine G_iconst (v := (-1)) dL_begins_150 (by decide) ?_
  obtain ⟨f45, ef45⟩ : ∃ zz : mj_S, zz = upd f44 (148) (-1) := ⟨_, rfl⟩
  refine G_iastN (j := 14) dL_begins_151 ((hΨ f44).1.2.2.2.2.2.2) (by omega) (((hΨ f44).2.2.2.2.2.2.2.2 _ _ _ (by omega) (by omega)).trans (congrArg Ψ ef45.symm)) ?_
  refine G_iincN (a := 3) (s := 4) dL_begins_152 rfl (by omega) (L' := [some (.ref 11), some (.ref 12), some (.ref 13), some (.ref 17), some (.int 4)]) rfl ?_
  refine G_goto 114 dL_begins_155 (by decide) ?_
  refine G_iload dL_begins_114 rfl ?_
  refine G_bipush (v := 6) dL_begins_116 (by decide) ?_
  refine G_icmp_geN (a := 4) (c := 6) 158 dL_begins_118 (by decide) (by omega) (fun c118 => (show False by omega).elim) (fun _ => ?_)
  refine G_aload_n dL_begins_121 rfl ?_
  refine G_iconst (v := 4) dL_begins_122 (by decide) ?_
  refine G_iload dL_begins_123 rfl ?_
  refine G_imulN (a := 4) (c := 4) (s := 16) dL_begins_125 (by omega) ?_
  refine G_bipush (v := 10) dL_begins_126 (by decide) ?_
  refine G_iconst (v := 2) dL_begins_128 (by decide) ?_
  refine G_iload dL_begins_129 rfl ?_
  refine G_imulN (a := 2) (c := 4) (s := 8) dL_begins_131 (by omega) ?_
  refine G_iaddN (a := 10) (c := 8) (s := 18) dL_begins_132 (by omega) ?_
  obtain ⟨f46, ef46⟩ : ∃ zz : mj_S, zz = upd f45 (137) 18 := ⟨_, rfl⟩
  refine G_iastN (j := 16) dL_begins_133 ((hΨ f45).1.2.2.2.2.2.2) (by omega) (((hΨ f45).2.2.2.2.2.2.2.2 _ _ _ (by omega) (by omega)).trans (congrArg Ψ ef46.symm)) ?_
  refine G_aload_n dL_begins_134 rfl ?_
  refine G_iconst (v := 4) dL_begins_135 (by decide) ?_
  refine G_iload dL_begins_136 rfl ?_
  refine G_imulN (a := 4) (c := 4) (s := 16) dL_begins_138 (by omega) ?_
  refine G_iconst (v := 1) dL_begins_139 (by decide) ?_
  refine G_iaddN (a := 16) (c := 1) (s := 17) dL_begins_140 (by omega) ?_
  refine G_iconst (v := (-1)) dL_begins_141 (by decide) ?_
  obtain ⟨f47, ef47⟩ : ∃ zz : mj_S, zz = upd f46 (143) (-1) := ⟨_, rfl⟩
  refine G_iastN (j := 17) dL_begins_142 ((hΨ f46).1.2.2.2.2.2.2) (by omega) (((hΨ f46).2.2.2.2.2.2.2.2 _ _ _ (by omega) (by omega)).trans (congrArg Ψ ef47.symm)) ?_
  refine G_aload_n dL_begins_143 rfl ?_
  refine G_iconst (v := 4) dL_begins_144 (by decide) ?_
  refine G_iload dL_begins_145 rfl ?_
  refine G_imulN (a := 4) (c := 4) (s := 16) dL_begins_147 (by omega) ?_
  refine G_iconst (v := 2) dL_begins_148 (by decide) ?_
  refine G_iaddN (a := 16) (c := 2) (s := 18) dL_begins_149 (by omega) ?_
  refine G_iconst (v := (-1)) dL_begins_150 (by decide) ?_
  obtain ⟨f48, ef48⟩ : ∃ zz : mj_S, zz = upd f47 (149) (-1) := ⟨_, rfl⟩
  refine G_iastN (j := 18) dL_begins_151 ((hΨ f47).1.2.2.2.2.2.2) (by omega) (((hΨ f47).2.2.2.2.2.2.2.2 _ _ _ (by omega) (by omega)).trans (congrArg Ψ ef48.symm)) ?_
  refine G_iincN (a := 4) (s := 5) dL_begins_152 rfl (by omega) (L' := [some (.ref 11), some (.ref 12), some (.ref 13), some (.ref 17), some (.int 5)]) rfl ?_
  refine G_goto 114 dL_begins_155 (by decide) ?_
  refine G_iload dL_begins_114 rfl ?_
  refine G_bipush (v := 6) dL_begins_116 (by decide) ?_
  refine G_icmp_geN (a := 5) (c := 6) 158 dL_begins_118 (by decide) (by omega) (fun c118 => (show False by omega).elim) (fun _ => ?_)
  refine G_aload_n dL_begins_121 rfl ?_
  refine G_iconst (v := 4) dL_begins_122 (by decide) ?_
  refine G_iload dL_begins_123 rfl ?_
  refine G_imulN (a := 4) (c := 5) (s := 20) dL_begins_125 (by omega) ?_
  refine G_bipush (v := 10) dL_begins_126 (by decide) ?_
  refine G_iconst (v := 2) dL_begins_128 (by decide) ?_
  refine G_iload dL_begins_129 rfl ?_
  refine G_imulN (a := 2) (c := 5) (s := 10) dL_begins_131 (by omega) ?_
  refine G_iaddN (a := 10) (c := 10) (s := 20) dL_begins_132 (by omega) ?_
  obtain ⟨f49, ef49⟩ : ∃ zz : mj_S, zz = upd f48 (138) 20 := ⟨_, rfl⟩
  refine G_iastN (j := 20) dL_begins_133 ((hΨ f48).1.2.2.2.2.2.2) (by omega) (((hΨ f48).2.2.2.2.2.2.2.2 _ _ _ (by omega) (by omega)).trans (congrArg Ψ ef49.symm)) ?_
  refine G_aload_n dL_begins_134 rfl ?_
  refine G_iconst (v := 4) dL_begins_135 (by decide) ?_
  refine G_iload dL_begins_136 rfl ?_
  refine G_imulN (a := 4) (c := 5) (s := 20) dL_begins_138 (by omega) ?_
  refine G_iconst (v := 1) dL_begins_139 (by decide) ?_
  refine G_iaddN (a := 20) (c := 1) (s := 21) dL_begins_140 (by omega) ?_
  refine G_iconst (v := (-1)) dL_begins_141 (by decide) ?_
  obtain ⟨f50, ef50⟩ : ∃ zz : mj_S, zz = upd f49 (144) (-1) := ⟨_, rfl⟩
  refine G_iastN (j := 21) dL_begins_142 ((hΨ f49).1.2.2.2.2.2.2) (by omega) (((hΨ f49).2.2.2.2.2.2.2.2 _ _ _ (by omega) (by omega)).trans (congrArg Ψ ef50.symm)) ?_
  refine G_aload_n dL_begins_143 rfl ?_
  refine G_iconst (v := 4) dL_begins_144 (by decide) ?_
  refine G_iload dL_begins_145 rfl ?_
  refine G_imulN (a := 4) (c := 5) (s := 20) dL_begins_147 (by omega) ?_
  refine G_iconst (v := 2) dL_begins_148 (by decide) ?_
  refine G_iaddN (a := 20) (c := 2) (s := 22) dL_begins_149 (by omega) ?_
  refine G_iconst (v := (-1)) dL_begins_150 (by decide) ?_
  obtain ⟨f51, ef51⟩ : ∃ zz : mj_S, zz = upd f50 (150) (-1) := ⟨_, rfl⟩
  refine G_iastN (j := 22) dL_begins_151 ((hΨ f50).1.2.2.2.2.2.2) (by omega) (((hΨ f50).2.2.2.2.2.2.2.2 _ _ _ (by omega) (by omega)).trans (congrArg Ψ ef51.symm)) ?_
  refine G_iincN (a := 5) (s := 6) dL_begins_152 rfl (by omega) (L' := [some (.ref 11), some (.ref 12), some (.ref 13), some (.ref 17), some (.int 6)]) rfl ?_
  refine G_goto 114 dL_begins_155 (by decide) ?_
  refine G_iload dL_begins_114 rfl ?_
  refine G_bipush (v := 6) dL_begins_116 (by decide) ?_
  refine G_icmp_geN (a := 6) (c := 6) 158 dL_begins_118 (by decide) (by omega) (fun _ => ?_) (fun c118 => (show False by omega).elim)
  exact G_vret dL_begins_158 ⟨Nat.zero_le _, Nat.zero_le _⟩ (X_w (hx _ _ (by subst ef51; subst ef50; subst ef49; subst ef48; subst ef47; subst ef46; subst ef45; subst ef44; subst ef43; subst ef42; subst ef41; subst ef40; subst ef39; subst ef38; subst ef37; subst ef36; subst ef35; subst ef34; subst ef33; subst ef32; subst ef31; subst ef30; subst ef29; subst ef28; subst ef27; subst ef26; subst ef25; subst ef24; subst ef23; subst ef22; subst ef21; subst ef20; subst ef19; subst ef18; subst ef17; subst ef16; subst ef15; subst ef14; subst ef13; subst ef12; subst ef11; subst ef10; subst ef9; subst ef8; subst ef7; subst ef6; subst ef5; subst ef4; subst ef3; subst ef2; subst ef1; decide +kernel)))
end LB0
