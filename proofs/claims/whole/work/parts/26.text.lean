/-! TEXT: the buffer, and what works as a text are -/
def dgt (c h : Nat) : Nat := if 48 ≤ c ∧ c ≤ 48 + h then 1 else 0
def s_ep (r : Nat) : Nat := if r = 10 ∨ r = 8 ∨ r = 9 then 1 else 0
def s_bp (c : Nat) : Nat := if c = 99 then 1 else if c = 114 then 6 else if c = 43 then 7 else if c = 42 then 10 else 11
def s_bd (c : Nat) : Nat := if c = 48 ∨ dgt c 9 = 0 then 11 else if c = 54 then 9 else if c < 54 then 8 else 10
def s_dm (r c : Nat) : Nat := match r with
  | 0 => s_bp c
  | 1 => if dgt c 5 = 1 then 2 else 11
  | 2 => if c = 62 then 3 else 11
  | 3 => if dgt c 4 = 1 then 4 else 11
  | 4 => if c = 47 then 5 else 11
  | 5 => if dgt c 3 = 1 then 10 else 11
  | 6 => if dgt c 5 = 1 then 10 else 11
  | 7 => s_bd c
  | 8 => if dgt c 9 = 1 then 10 else 11
  | 9 => if c = 48 then 10 else 11
  | _ => 11
def dn (r c : Nat) : Nat := if s_ep r = 1 ∧ c = 59 then 0 else s_dm r c
theorem s_bp_le (c : Nat) : s_bp c ≤ 11 := by unfold s_bp; repeat' split
                                              all_goals omega
theorem s_bd_le (c : Nat) : s_bd c ≤ 11 := by unfold s_bd; repeat' split
                                              all_goals omega
theorem dn_le (r c : Nat) : dn r c ≤ 11 := by
  unfold dn
  split
  · omega
  · unfold s_dm
    split <;> first | exact s_bp_le c | exact s_bd_le c | (split <;> omega) | omega
def sg (t : Nat → Nat) (n i : Nat) : Nat := if i < n then t i else 32
def s_rs (t : Nat → Nat) : Nat → Nat → Nat → Nat
  | 0, i, _ => i
  | d + 1, i, r => if dn r (t i) = 11 then i else s_rs t d (i + 1) (dn r (t i))
def s_fd (t : Nat → Nat) : Nat → Nat → Nat → Nat
  | 0, _, r => r
  | d + 1, i, r => s_fd t d (i + 1) (dn r (t i))
def s_pb (t : Nat → Nat) (n i : Nat) : Nat := if i = 0 ∨ sg t n (i - 1) = 59 then 1 else 0
def s_nm (t : Nat → Nat) (n i : Nat) : Nat := if dgt (sg t n i) 9 = 0 then 0 else if dgt (sg t n (i + 1)) 9 = 0 then sg t n i - 48 else 10 * (sg t n i - 48) + sg t n (i + 1) - 48
/-- the buffer: n signs, t of them, each 33 to 126 -/
def TX (g : mj_S) (n : Nat) (t : Nat → Nat) : Prop := n ≤ 60 ∧ ∀ i, i < n → g i = nI (t i) ∧ 33 ≤ t i ∧ t i ≤ 126
theorem sg_le {g : mj_S} {n : Nat} {t : Nat → Nat} (h : TX g n t) (i : Nat) : sg t n i ≤ 126 ∧ 32 ≤ sg t n i := by
  unfold sg
  split
  · rename_i hi; have := h.2 i hi; omega
  · omega
def TV (tp sp : Nat) (Ω : mj_S → Nat → mj_W) : Prop := ∀ g n, (Ω g n)[tp]? = some (.inr (2, [.ref sp, .int (nI n)])) ∧ (Ω g n)[sp]? = some (.inl (.char, (60, .inl g))) ∧ (∀ n', (Ω g n).set tp (.inr (2, [.ref sp, .int (nI n')])) = Ω g n') ∧ ∀ g', (Ω g n).set sp (.inl (.char, (60, .inl g'))) = Ω g' n
section TT
variable {l : Launch} {tp sp : Nat} {Ω : mj_S → Nat → mj_W}
theorem c_isDigit {w : mj_W} {c h : Nat} (hc : c < 1000 ∧ h < 1000) : MC l yX2_isDigit wsX2_isDigit rmX2_isDigit false [.int (nI (c)), .int (nI (h))] (w) (some (.int (nI (dgt c h)))) (w) := by
  refine mj_MC (cc := cX2_isDigit) (nl := 2) (ret := (some .boolean)) (plainFor_of_name (by decide)) rfl (⟨_, rfl, by unfold dgt; split <;> rfl⟩) (Nat.le_of_ble_eq_true rfl) ?_
  show GG l cX2_isDigit MX2_isDigit false (.inl ((some (.int (nI (dgt c h)))), w)) 0 [some (.int (nI (c))), some (.int (nI (h)))] [] (w) 0 0
  refine G_iload_n dX2_isDigit_0 rfl ?_
  refine G_bipush (v := 48) dX2_isDigit_1 (by decide) ?_
  refine G_icmp_ltN (a := c) (c := 48) 18 dX2_isDigit_3 (by decide) (by omega) (fun c3 => ?_) (fun c3 => ?_)
  · refine G_iconst (v := 0) dX2_isDigit_18 (by decide) ?_
    exact G_iret dX2_isDigit_19 ⟨Nat.zero_le _, Nat.zero_le _⟩ (X_i (by unfold dgt; rw [if_neg (by omega)]; rfl))
  · refine G_iload_n dX2_isDigit_6 rfl ?_
    refine G_bipush (v := 48) dX2_isDigit_7 (by decide) ?_
    refine G_iload_n dX2_isDigit_9 rfl ?_
    refine G_iaddN (a := 48) (c := h) (s := 48 + h) dX2_isDigit_10 (by omega) ?_
    refine G_icmp_gtN (a := c) (c := 48 + h) 18 dX2_isDigit_11 (by decide) (by omega) (fun c11 => ?_) (fun c11 => ?_)
    · refine G_iconst (v := 0) dX2_isDigit_18 (by decide) ?_
      exact G_iret dX2_isDigit_19 ⟨Nat.zero_le _, Nat.zero_le _⟩ (X_i (by unfold dgt; rw [if_neg (by omega)]; rfl))
    · refine G_iconst (v := 1) dX2_isDigit_14 (by decide) ?_
      refine G_goto 19 dX2_isDigit_15 (by decide) ?_
      exact G_iret dX2_isDigit_19 ⟨Nat.zero_le _, Nat.zero_le _⟩ (X_i (by unfold dgt; rw [if_pos (by omega)]; rfl))
theorem c_endsPart {w : mj_W} {r : Nat} (hr : r < 1000) : MC l yX2_endsPart wsX2_endsPart rmX2_endsPart false [.int (nI (r))] (w) (some (.int (nI (s_ep r)))) (w) := by
  refine mj_MC (cc := cX2_endsPart) (nl := 1) (ret := (some .boolean)) (plainFor_of_name (by decide)) rfl (⟨_, rfl, by unfold s_ep; split <;> rfl⟩) (Nat.le_of_ble_eq_true rfl) ?_
  show GG l cX2_endsPart MX2_endsPart false (.inl ((some (.int (nI (s_ep r)))), w)) 0 [some (.int (nI (r)))] [] (w) 0 0
  refine G_iload_n dX2_endsPart_0 rfl ?_
  refine G_bipush (v := 10) dX2_endsPart_1 (by decide) ?_
  refine G_icmp_eqN (a := r) (c := 10) 18 dX2_endsPart_3 (by decide) (by omega) (fun c3 => ?_) (fun c3 => ?_)
  · refine G_iconst (v := 1) dX2_endsPart_18 (by decide) ?_
    refine G_goto 23 dX2_endsPart_19 (by decide) ?_
    exact G_iret dX2_endsPart_23 ⟨Nat.zero_le _, Nat.zero_le _⟩ (X_i (by unfold s_ep; rw [if_pos (by omega)]; rfl))
  · refine G_iload_n dX2_endsPart_6 rfl ?_
    refine G_bipush (v := 8) dX2_endsPart_7 (by decide) ?_
    refine G_icmp_eqN (a := r) (c := 8) 18 dX2_endsPart_9 (by decide) (by omega) (fun c9 => ?_) (fun c9 => ?_)
    · refine G_iconst (v := 1) dX2_endsPart_18 (by decide) ?_
      refine G_goto 23 dX2_endsPart_19 (by decide) ?_
      exact G_iret dX2_endsPart_23 ⟨Nat.zero_le _, Nat.zero_le _⟩ (X_i (by unfold s_ep; rw [if_pos (by omega)]; rfl))
    · refine G_iload_n dX2_endsPart_12 rfl ?_
      refine G_bipush (v := 9) dX2_endsPart_13 (by decide) ?_
      refine G_icmp_neN (a := r) (c := 9) 22 dX2_endsPart_15 (by decide) (by omega) (fun c15 => ?_) (fun c15 => ?_)
      · refine G_iconst (v := 0) dX2_endsPart_22 (by decide) ?_
        exact G_iret dX2_endsPart_23 ⟨Nat.zero_le _, Nat.zero_le _⟩ (X_i (by unfold s_ep; rw [if_neg (by omega)]; rfl))
      · refine G_iconst (v := 1) dX2_endsPart_18 (by decide) ?_
        refine G_goto 23 dX2_endsPart_19 (by decide) ?_
        exact G_iret dX2_endsPart_23 ⟨Nat.zero_le _, Nat.zero_le _⟩ (X_i (by unfold s_ep; rw [if_pos (by omega)]; rfl))
theorem look4 {c : Nat} (h1 : ¬ c = 42) (h2 : ¬ c = 43) (h3 : ¬ c = 99) (h4 : ¬ c = 114) : Op.lookupswitch.offset #[((42 : Int), (51 : Int)), (43, 48), (99, 43), (114, 45)].toList 54 (c : Int) = 54 := by
  have e1 : ¬ (42 : Int) = c := by omega
  have e2 : ¬ (43 : Int) = c := by omega
  have e3 : ¬ (99 : Int) = c := by omega
  have e4 : ¬ (114 : Int) = c := by omega
  simp [Op.lookupswitch.offset, e1, e2, e3, e4]
theorem c_beginPart {w : mj_W} {c : Nat} (hc : c < 1000) : MC l yX2_beginPart wsX2_beginPart rmX2_beginPart false [.int (nI (c))] (w) (some (.int (nI (s_bp c)))) (w) := by
  refine mj_MC (cc := cX2_beginPart) (nl := 1) (ret := (some .int)) (plainFor_of_name (by decide)) rfl (⟨_, rfl, rfl⟩) (Nat.le_of_ble_eq_true rfl) ?_
  show GG l cX2_beginPart MX2_beginPart false (.inl ((some (.int (nI (s_bp c)))), w)) 0 [some (.int (nI (c)))] [] (w) 0 0
  refine G_iload_n dX2_beginPart_0 rfl ?_
  by_cases h42 : c = 42
  · subst h42
    refine G_look (off := 51) 52 dX2_beginPart_1 (by decide) (by decide) (by decide) ?_
    refine G_bipush (v := 10) dX2_beginPart_52 (by decide) ?_
    exact G_iret dX2_beginPart_54 ⟨Nat.zero_le _, Nat.zero_le _⟩ (rfl)
  by_cases h43 : c = 43
  · subst h43
    refine G_look (off := 48) 49 dX2_beginPart_1 (by decide) (by decide) (by decide) ?_
    refine G_bipush (v := 7) dX2_beginPart_49 (by decide) ?_
    exact G_iret dX2_beginPart_51 ⟨Nat.zero_le _, Nat.zero_le _⟩ (rfl)
  by_cases h99 : c = 99
  · subst h99
    refine G_look (off := 43) 44 dX2_beginPart_1 (by decide) (by decide) (by decide) ?_
    refine G_iconst (v := 1) dX2_beginPart_44 (by decide) ?_
    exact G_iret dX2_beginPart_45 ⟨Nat.zero_le _, Nat.zero_le _⟩ (rfl)
  by_cases h114 : c = 114
  · subst h114
    refine G_look (off := 45) 46 dX2_beginPart_1 (by decide) (by decide) (by decide) ?_
    refine G_bipush (v := 6) dX2_beginPart_46 (by decide) ?_
    exact G_iret dX2_beginPart_48 ⟨Nat.zero_le _, Nat.zero_le _⟩ (rfl)
  refine G_look (off := 54) 55 dX2_beginPart_1 (by decide) (by rw [nI_toInt (by omega)]; exact look4 h42 h43 h99 h114) (by decide) ?_
  refine G_bipush (v := 11) dX2_beginPart_55 (by decide) ?_
  exact G_iret dX2_beginPart_57 ⟨Nat.zero_le _, Nat.zero_le _⟩ (X_i (by unfold s_bp; rw [if_neg h99, if_neg h114, if_neg h43, if_neg h42]; rfl))
theorem c_beginDays {w : mj_W} {c : Nat} (hc : c < 1000) : MC l yX2_beginDays wsX2_beginDays rmX2_beginDays false [.int (nI (c))] (w) (some (.int (nI (s_bd c)))) (w) := by
  refine mj_MC (cc := cX2_beginDays) (nl := 1) (ret := (some .int)) (plainFor_of_name (by decide)) rfl (⟨_, rfl, rfl⟩) (Nat.le_of_ble_eq_true rfl) ?_
  show GG l cX2_beginDays MX2_beginDays false (.inl ((some (.int (nI (s_bd c)))), w)) 0 [some (.int (nI (c)))] [] (w) 0 0
  refine G_iload_n dX2_beginDays_0 rfl ?_
  refine G_bipush (v := 48) dX2_beginDays_1 (by decide) ?_
  refine G_icmp_eqN (a := c) (c := 48) 15 dX2_beginDays_3 (by decide) (by omega) (fun c3 => ?_) (fun c3 => ?_)
  · refine G_bipush (v := 11) dX2_beginDays_15 (by decide) ?_
    exact G_iret dX2_beginDays_17 ⟨Nat.zero_le _, Nat.zero_le _⟩ (X_i (by show _ = nI 11; congr 1; unfold s_bd; have hd : dgt c 9 = 0 ∨ dgt c 9 = 1 := (by unfold dgt; split <;> simp); repeat (first | rw [if_pos (by omega)] | rw [if_neg (by omega)])))
  · refine G_iload_n dX2_beginDays_6 rfl ?_
    refine G_bipush (v := 9) dX2_beginDays_7 (by decide) ?_
    refine G_callSi dX2_beginDays_9 kX2_beginDays_X2_isDigit ⟨rfl, rfl⟩ ⟨Nat.zero_le _, Nat.zero_le _⟩ (c_isDigit (c := c) (h := 9) (by omega)) rfl rfl rfl ?_
    have hdb : dgt c 9 < 2 := by unfold dgt; split <;> omega
    refine G_if_neN (a := (dgt c 9)) 18 dX2_beginDays_12 (by decide) (by omega) (fun c12 => ?_) (fun c12 => ?_)
    · refine G_iload_n dX2_beginDays_18 rfl ?_
      refine G_bipush (v := 54) dX2_beginDays_19 (by decide) ?_
      refine G_icmp_neN (a := c) (c := 54) 27 dX2_beginDays_21 (by decide) (by omega) (fun c21 => ?_) (fun c21 => ?_)
      · refine G_iload_n dX2_beginDays_27 rfl ?_
        refine G_bipush (v := 54) dX2_beginDays_28 (by decide) ?_
        refine G_icmp_geN (a := c) (c := 54) 38 dX2_beginDays_30 (by decide) (by omega) (fun c30 => ?_) (fun c30 => ?_)
        · refine G_bipush (v := 10) dX2_beginDays_38 (by decide) ?_
          exact G_iret dX2_beginDays_40 ⟨Nat.zero_le _, Nat.zero_le _⟩ (X_i (by show _ = nI 10; congr 1; unfold s_bd; have hd : dgt c 9 = 0 ∨ dgt c 9 = 1 := (by unfold dgt; split <;> simp); repeat (first | rw [if_pos (by omega)] | rw [if_neg (by omega)])))
        · refine G_bipush (v := 8) dX2_beginDays_33 (by decide) ?_
          refine G_goto 40 dX2_beginDays_35 (by decide) ?_
          exact G_iret dX2_beginDays_40 ⟨Nat.zero_le _, Nat.zero_le _⟩ (X_i (by show _ = nI 8; congr 1; unfold s_bd; have hd : dgt c 9 = 0 ∨ dgt c 9 = 1 := (by unfold dgt; split <;> simp); repeat (first | rw [if_pos (by omega)] | rw [if_neg (by omega)])))
      · refine G_bipush (v := 9) dX2_beginDays_24 (by decide) ?_
        exact G_iret dX2_beginDays_26 ⟨Nat.zero_le _, Nat.zero_le _⟩ (X_i (by show _ = nI 9; congr 1; unfold s_bd; have hd : dgt c 9 = 0 ∨ dgt c 9 = 1 := (by unfold dgt; split <;> simp); repeat (first | rw [if_pos (by omega)] | rw [if_neg (by omega)])))
    · refine G_bipush (v := 11) dX2_beginDays_15 (by decide) ?_
      exact G_iret dX2_beginDays_17 ⟨Nat.zero_le _, Nat.zero_le _⟩ (X_i (by show _ = nI 11; congr 1; unfold s_bd; have hd : dgt c 9 = 0 ∨ dgt c 9 = 1 := (by unfold dgt; split <;> simp); repeat (first | rw [if_pos (by omega)] | rw [if_neg (by omega)])))
theorem c_readNext_0 {w : mj_W} {c : Nat} (hc : c < 1000) : MC l yX2_readNext wsX2_readNext rmX2_readNext false [.int 0, .int (nI (c))] (w) (some (.int (nI (dn 0 c)))) (w) := by
  refine mj_MC (cc := cX2_readNext) (nl := 2) (ret := (some .int)) (plainFor_of_name (by decide)) rfl (⟨_, rfl, rfl⟩) (Nat.le_of_ble_eq_true rfl) ?_
  show GG l cX2_readNext MX2_readNext false (.inl ((some (.int (nI (dn 0 c)))), w)) 0 [some (.int 0), some (.int (nI (c)))] [] (w) 0 0
  refine G_iload_n dX2_readNext_0 rfl ?_
  refine G_callSi dX2_readNext_1 kX2_readNext_X2_endsPart ⟨rfl, rfl⟩ ⟨Nat.zero_le _, Nat.zero_le _⟩ (c_endsPart (r := 0) (by omega)) rfl rfl rfl ?_
  refine G_eqi (show nI (s_ep 0) = 0 from by decide) ?_
  refine G_if_eqN (a := 0) 15 dX2_readNext_4 (by decide) (by omega) (fun c4 => ?_) (fun c4 => ?_)
  · refine G_iload_n dX2_readNext_15 rfl ?_
    refine G_tabIn (off := 56) 72 dX2_readNext_16 (by decide) (by decide) (by decide) (by decide) ?_
    refine G_iload_n dX2_readNext_72 rfl ?_
    refine G_callSi dX2_readNext_73 kX2_readNext_X2_beginPart ⟨rfl, rfl⟩ ⟨Nat.zero_le _, Nat.zero_le _⟩ (c_beginPart (c := c) (by omega)) rfl rfl rfl ?_
    exact G_iret dX2_readNext_76 ⟨Nat.zero_le _, Nat.zero_le _⟩ (X_i (by first | rfl | (show _ = nI ((s_bp c)); congr 1; have hd : ∀ h, dgt c h = 0 ∨ dgt c h = 1 := (by intro h; unfold dgt; split <;> simp); have h5 := hd 5; have h4 := hd 4; have h3 := hd 3; have h9 := hd 9; unfold dn; first | (rw [if_pos (by refine ⟨by decide, by omega⟩)]; done) | (rw [if_neg (by first | (intro z; exact absurd z.1 (by decide)) | (intro z; omega))]; first | rfl | (simp only [s_dm]; first | rfl | (rw [if_pos (by omega)]; done) | (rw [if_neg (by omega)]; done))))))
  · exact (show False by omega).elim
theorem c_readNext_1 {w : mj_W} {c : Nat} (hc : c < 1000) : MC l yX2_readNext wsX2_readNext rmX2_readNext false [.int 1, .int (nI (c))] (w) (some (.int (nI (dn 1 c)))) (w) := by
  refine mj_MC (cc := cX2_readNext) (nl := 2) (ret := (some .int)) (plainFor_of_name (by decide)) rfl (⟨_, rfl, rfl⟩) (Nat.le_of_ble_eq_true rfl) ?_
  show GG l cX2_readNext MX2_readNext false (.inl ((some (.int (nI (dn 1 c)))), w)) 0 [some (.int 1), some (.int (nI (c)))] [] (w) 0 0
  refine G_iload_n dX2_readNext_0 rfl ?_
  refine G_callSi dX2_readNext_1 kX2_readNext_X2_endsPart ⟨rfl, rfl⟩ ⟨Nat.zero_le _, Nat.zero_le _⟩ (c_endsPart (r := 1) (by omega)) rfl rfl rfl ?_
  refine G_eqi (show nI (s_ep 1) = 0 from by decide) ?_
  refine G_if_eqN (a := 0) 15 dX2_readNext_4 (by decide) (by omega) (fun c4 => ?_) (fun c4 => ?_)
  · refine G_iload_n dX2_readNext_15 rfl ?_
    refine G_tabIn (off := 61) 77 dX2_readNext_16 (by decide) (by decide) (by decide) (by decide) ?_
    refine G_iload_n dX2_readNext_77 rfl ?_
    refine G_iconst (v := 5) dX2_readNext_78 (by decide) ?_
    refine G_callSi dX2_readNext_79 kX2_readNext_X2_isDigit ⟨rfl, rfl⟩ ⟨Nat.zero_le _, Nat.zero_le _⟩ (c_isDigit (c := c) (h := 5) (by omega)) rfl rfl rfl ?_
    have hdb : ∀ h, dgt c h < 2 := by intro h; unfold dgt; split <;> omega
    have hdb3 := hdb 3
    have hdb4 := hdb 4
    have hdb5 := hdb 5
    have hdb9 := hdb 9
    refine G_if_eqN (a := (dgt c 5)) 89 dX2_readNext_82 (by decide) (by omega) (fun c82 => ?_) (fun c82 => ?_)
    · refine G_bipush (v := 11) dX2_readNext_89 (by decide) ?_
      exact G_iret dX2_readNext_91 ⟨Nat.zero_le _, Nat.zero_le _⟩ (X_i (by first | rfl | (show _ = nI (11); congr 1; have hd : ∀ h, dgt c h = 0 ∨ dgt c h = 1 := (by intro h; unfold dgt; split <;> simp); have h5 := hd 5; have h4 := hd 4; have h3 := hd 3; have h9 := hd 9; unfold dn; first | (rw [if_pos (by refine ⟨by decide, by omega⟩)]; done) | (rw [if_neg (by first | (intro z; exact absurd z.1 (by decide)) | (intro z; omega))]; first | rfl | (simp only [s_dm]; first | rfl | (rw [if_pos (by omega)]; done) | (rw [if_neg (by omega)]; done))))))
    · refine G_iconst (v := 2) dX2_readNext_85 (by decide) ?_
      refine G_goto 91 dX2_readNext_86 (by decide) ?_
      exact G_iret dX2_readNext_91 ⟨Nat.zero_le _, Nat.zero_le _⟩ (X_i (by first | rfl | (show _ = nI (2); congr 1; have hd : ∀ h, dgt c h = 0 ∨ dgt c h = 1 := (by intro h; unfold dgt; split <;> simp); have h5 := hd 5; have h4 := hd 4; have h3 := hd 3; have h9 := hd 9; unfold dn; first | (rw [if_pos (by refine ⟨by decide, by omega⟩)]; done) | (rw [if_neg (by first | (intro z; exact absurd z.1 (by decide)) | (intro z; omega))]; first | rfl | (simp only [s_dm]; first | rfl | (rw [if_pos (by omega)]; done) | (rw [if_neg (by omega)]; done))))))
  · exact (show False by omega).elim
theorem c_readNext_2 {w : mj_W} {c : Nat} (hc : c < 1000) : MC l yX2_readNext wsX2_readNext rmX2_readNext false [.int 2, .int (nI (c))] (w) (some (.int (nI (dn 2 c)))) (w) := by
  refine mj_MC (cc := cX2_readNext) (nl := 2) (ret := (some .int)) (plainFor_of_name (by decide)) rfl (⟨_, rfl, rfl⟩) (Nat.le_of_ble_eq_true rfl) ?_
  show GG l cX2_readNext MX2_readNext false (.inl ((some (.int (nI (dn 2 c)))), w)) 0 [some (.int 2), some (.int (nI (c)))] [] (w) 0 0
  refine G_iload_n dX2_readNext_0 rfl ?_
  refine G_callSi dX2_readNext_1 kX2_readNext_X2_endsPart ⟨rfl, rfl⟩ ⟨Nat.zero_le _, Nat.zero_le _⟩ (c_endsPart (r := 2) (by omega)) rfl rfl rfl ?_
  refine G_eqi (show nI (s_ep 2) = 0 from by decide) ?_
  refine G_if_eqN (a := 0) 15 dX2_readNext_4 (by decide) (by omega) (fun c4 => ?_) (fun c4 => ?_)
  · refine G_iload_n dX2_readNext_15 rfl ?_
    refine G_tabIn (off := 76) 92 dX2_readNext_16 (by decide) (by decide) (by decide) (by decide) ?_
    refine G_iload_n dX2_readNext_92 rfl ?_
    refine G_bipush (v := 62) dX2_readNext_93 (by decide) ?_
    refine G_icmp_neN (a := c) (c := 62) 102 dX2_readNext_95 (by decide) (by omega) (fun c95 => ?_) (fun c95 => ?_)
    · refine G_bipush (v := 11) dX2_readNext_102 (by decide) ?_
      exact G_iret dX2_readNext_104 ⟨Nat.zero_le _, Nat.zero_le _⟩ (X_i (by first | rfl | (show _ = nI (11); congr 1; have hd : ∀ h, dgt c h = 0 ∨ dgt c h = 1 := (by intro h; unfold dgt; split <;> simp); have h5 := hd 5; have h4 := hd 4; have h3 := hd 3; have h9 := hd 9; unfold dn; first | (rw [if_pos (by refine ⟨by decide, by omega⟩)]; done) | (rw [if_neg (by first | (intro z; exact absurd z.1 (by decide)) | (intro z; omega))]; first | rfl | (simp only [s_dm]; first | rfl | (rw [if_pos (by omega)]; done) | (rw [if_neg (by omega)]; done))))))
    · refine G_iconst (v := 3) dX2_readNext_98 (by decide) ?_
      refine G_goto 104 dX2_readNext_99 (by decide) ?_
      exact G_iret dX2_readNext_104 ⟨Nat.zero_le _, Nat.zero_le _⟩ (X_i (by first | rfl | (show _ = nI (3); congr 1; have hd : ∀ h, dgt c h = 0 ∨ dgt c h = 1 := (by intro h; unfold dgt; split <;> simp); have h5 := hd 5; have h4 := hd 4; have h3 := hd 3; have h9 := hd 9; unfold dn; first | (rw [if_pos (by refine ⟨by decide, by omega⟩)]; done) | (rw [if_neg (by first | (intro z; exact absurd z.1 (by decide)) | (intro z; omega))]; first | rfl | (simp only [s_dm]; first | rfl | (rw [if_pos (by omega)]; done) | (rw [if_neg (by omega)]; done))))))
  · exact (show False by omega).elim
theorem c_readNext_3 {w : mj_W} {c : Nat} (hc : c < 1000) : MC l yX2_readNext wsX2_readNext rmX2_readNext false [.int 3, .int (nI (c))] (w) (some (.int (nI (dn 3 c)))) (w) := by
  refine mj_MC (cc := cX2_readNext) (nl := 2) (ret := (some .int)) (plainFor_of_name (by decide)) rfl (⟨_, rfl, rfl⟩) (Nat.le_of_ble_eq_true rfl) ?_
  show GG l cX2_readNext MX2_readNext false (.inl ((some (.int (nI (dn 3 c)))), w)) 0 [some (.int 3), some (.int (nI (c)))] [] (w) 0 0
  refine G_iload_n dX2_readNext_0 rfl ?_
  refine G_callSi dX2_readNext_1 kX2_readNext_X2_endsPart ⟨rfl, rfl⟩ ⟨Nat.zero_le _, Nat.zero_le _⟩ (c_endsPart (r := 3) (by omega)) rfl rfl rfl ?_
  refine G_eqi (show nI (s_ep 3) = 0 from by decide) ?_
  refine G_if_eqN (a := 0) 15 dX2_readNext_4 (by decide) (by omega) (fun c4 => ?_) (fun c4 => ?_)
  · refine G_iload_n dX2_readNext_15 rfl ?_
    refine G_tabIn (off := 89) 105 dX2_readNext_16 (by decide) (by decide) (by decide) (by decide) ?_
    refine G_iload_n dX2_readNext_105 rfl ?_
    refine G_iconst (v := 4) dX2_readNext_106 (by decide) ?_
    refine G_callSi dX2_readNext_107 kX2_readNext_X2_isDigit ⟨rfl, rfl⟩ ⟨Nat.zero_le _, Nat.zero_le _⟩ (c_isDigit (c := c) (h := 4) (by omega)) rfl rfl rfl ?_
    have hdb : ∀ h, dgt c h < 2 := by intro h; unfold dgt; split <;> omega
    have hdb3 := hdb 3
    have hdb4 := hdb 4
    have hdb5 := hdb 5
    have hdb9 := hdb 9
    refine G_if_eqN (a := (dgt c 4)) 117 dX2_readNext_110 (by decide) (by omega) (fun c110 => ?_) (fun c110 => ?_)
    · refine G_bipush (v := 11) dX2_readNext_117 (by decide) ?_
      exact G_iret dX2_readNext_119 ⟨Nat.zero_le _, Nat.zero_le _⟩ (X_i (by first | rfl | (show _ = nI (11); congr 1; have hd : ∀ h, dgt c h = 0 ∨ dgt c h = 1 := (by intro h; unfold dgt; split <;> simp); have h5 := hd 5; have h4 := hd 4; have h3 := hd 3; have h9 := hd 9; unfold dn; first | (rw [if_pos (by refine ⟨by decide, by omega⟩)]; done) | (rw [if_neg (by first | (intro z; exact absurd z.1 (by decide)) | (intro z; omega))]; first | rfl | (simp only [s_dm]; first | rfl | (rw [if_pos (by omega)]; done) | (rw [if_neg (by omega)]; done))))))
    · refine G_iconst (v := 4) dX2_readNext_113 (by decide) ?_
      refine G_goto 119 dX2_readNext_114 (by decide) ?_
      exact G_iret dX2_readNext_119 ⟨Nat.zero_le _, Nat.zero_le _⟩ (X_i (by first | rfl | (show _ = nI (4); congr 1; have hd : ∀ h, dgt c h = 0 ∨ dgt c h = 1 := (by intro h; unfold dgt; split <;> simp); have h5 := hd 5; have h4 := hd 4; have h3 := hd 3; have h9 := hd 9; unfold dn; first | (rw [if_pos (by refine ⟨by decide, by omega⟩)]; done) | (rw [if_neg (by first | (intro z; exact absurd z.1 (by decide)) | (intro z; omega))]; first | rfl | (simp only [s_dm]; first | rfl | (rw [if_pos (by omega)]; done) | (rw [if_neg (by omega)]; done))))))
  · exact (show False by omega).elim
theorem c_readNext_4 {w : mj_W} {c : Nat} (hc : c < 1000) : MC l yX2_readNext wsX2_readNext rmX2_readNext false [.int 4, .int (nI (c))] (w) (some (.int (nI (dn 4 c)))) (w) := by
  refine mj_MC (cc := cX2_readNext) (nl := 2) (ret := (some .int)) (plainFor_of_name (by decide)) rfl (⟨_, rfl, rfl⟩) (Nat.le_of_ble_eq_true rfl) ?_
  show GG l cX2_readNext MX2_readNext false (.inl ((some (.int (nI (dn 4 c)))), w)) 0 [some (.int 4), some (.int (nI (c)))] [] (w) 0 0
  refine G_iload_n dX2_readNext_0 rfl ?_
  refine G_callSi dX2_readNext_1 kX2_readNext_X2_endsPart ⟨rfl, rfl⟩ ⟨Nat.zero_le _, Nat.zero_le _⟩ (c_endsPart (r := 4) (by omega)) rfl rfl rfl ?_
  refine G_eqi (show nI (s_ep 4) = 0 from by decide) ?_
  refine G_if_eqN (a := 0) 15 dX2_readNext_4 (by decide) (by omega) (fun c4 => ?_) (fun c4 => ?_)
  · refine G_iload_n dX2_readNext_15 rfl ?_
    refine G_tabIn (off := 104) 120 dX2_readNext_16 (by decide) (by decide) (by decide) (by decide) ?_
    refine G_iload_n dX2_readNext_120 rfl ?_
    refine G_bipush (v := 47) dX2_readNext_121 (by decide) ?_
    refine G_icmp_neN (a := c) (c := 47) 130 dX2_readNext_123 (by decide) (by omega) (fun c123 => ?_) (fun c123 => ?_)
    · refine G_bipush (v := 11) dX2_readNext_130 (by decide) ?_
      exact G_iret dX2_readNext_132 ⟨Nat.zero_le _, Nat.zero_le _⟩ (X_i (by first | rfl | (show _ = nI (11); congr 1; have hd : ∀ h, dgt c h = 0 ∨ dgt c h = 1 := (by intro h; unfold dgt; split <;> simp); have h5 := hd 5; have h4 := hd 4; have h3 := hd 3; have h9 := hd 9; unfold dn; first | (rw [if_pos (by refine ⟨by decide, by omega⟩)]; done) | (rw [if_neg (by first | (intro z; exact absurd z.1 (by decide)) | (intro z; omega))]; first | rfl | (simp only [s_dm]; first | rfl | (rw [if_pos (by omega)]; done) | (rw [if_neg (by omega)]; done))))))
    · refine G_iconst (v := 5) dX2_readNext_126 (by decide) ?_
      refine G_goto 132 dX2_readNext_127 (by decide) ?_
      exact G_iret dX2_readNext_132 ⟨Nat.zero_le _, Nat.zero_le _⟩ (X_i (by first | rfl | (show _ = nI (5); congr 1; have hd : ∀ h, dgt c h = 0 ∨ dgt c h = 1 := (by intro h; unfold dgt; split <;> simp); have h5 := hd 5; have h4 := hd 4; have h3 := hd 3; have h9 := hd 9; unfold dn; first | (rw [if_pos (by refine ⟨by decide, by omega⟩)]; done) | (rw [if_neg (by first | (intro z; exact absurd z.1 (by decide)) | (intro z; omega))]; first | rfl | (simp only [s_dm]; first | rfl | (rw [if_pos (by omega)]; done) | (rw [if_neg (by omega)]; done))))))
  · exact (show False by omega).elim
theorem c_readNext_5 {w : mj_W} {c : Nat} (hc : c < 1000) : MC l yX2_readNext wsX2_readNext rmX2_readNext false [.int 5, .int (nI (c))] (w) (some (.int (nI (dn 5 c)))) (w) := by
  refine mj_MC (cc := cX2_readNext) (nl := 2) (ret := (some .int)) (plainFor_of_name (by decide)) rfl (⟨_, rfl, rfl⟩) (Nat.le_of_ble_eq_true rfl) ?_
  show GG l cX2_readNext MX2_readNext false (.inl ((some (.int (nI (dn 5 c)))), w)) 0 [some (.int 5), some (.int (nI (c)))] [] (w) 0 0
  refine G_iload_n dX2_readNext_0 rfl ?_
  refine G_callSi dX2_readNext_1 kX2_readNext_X2_endsPart ⟨rfl, rfl⟩ ⟨Nat.zero_le _, Nat.zero_le _⟩ (c_endsPart (r := 5) (by omega)) rfl rfl rfl ?_
  refine G_eqi (show nI (s_ep 5) = 0 from by decide) ?_
  refine G_if_eqN (a := 0) 15 dX2_readNext_4 (by decide) (by omega) (fun c4 => ?_) (fun c4 => ?_)
  · refine G_iload_n dX2_readNext_15 rfl ?_
    refine G_tabIn (off := 117) 133 dX2_readNext_16 (by decide) (by decide) (by decide) (by decide) ?_
    refine G_iload_n dX2_readNext_133 rfl ?_
    refine G_iconst (v := 3) dX2_readNext_134 (by decide) ?_
    refine G_callSi dX2_readNext_135 kX2_readNext_X2_isDigit ⟨rfl, rfl⟩ ⟨Nat.zero_le _, Nat.zero_le _⟩ (c_isDigit (c := c) (h := 3) (by omega)) rfl rfl rfl ?_
    have hdb : ∀ h, dgt c h < 2 := by intro h; unfold dgt; split <;> omega
    have hdb3 := hdb 3
    have hdb4 := hdb 4
    have hdb5 := hdb 5
    have hdb9 := hdb 9
    refine G_if_eqN (a := (dgt c 3)) 146 dX2_readNext_138 (by decide) (by omega) (fun c138 => ?_) (fun c138 => ?_)
    · refine G_bipush (v := 11) dX2_readNext_146 (by decide) ?_
      exact G_iret dX2_readNext_148 ⟨Nat.zero_le _, Nat.zero_le _⟩ (X_i (by first | rfl | (show _ = nI (11); congr 1; have hd : ∀ h, dgt c h = 0 ∨ dgt c h = 1 := (by intro h; unfold dgt; split <;> simp); have h5 := hd 5; have h4 := hd 4; have h3 := hd 3; have h9 := hd 9; unfold dn; first | (rw [if_pos (by refine ⟨by decide, by omega⟩)]; done) | (rw [if_neg (by first | (intro z; exact absurd z.1 (by decide)) | (intro z; omega))]; first | rfl | (simp only [s_dm]; first | rfl | (rw [if_pos (by omega)]; done) | (rw [if_neg (by omega)]; done))))))
    · refine G_bipush (v := 10) dX2_readNext_141 (by decide) ?_
      refine G_goto 148 dX2_readNext_143 (by decide) ?_
      exact G_iret dX2_readNext_148 ⟨Nat.zero_le _, Nat.zero_le _⟩ (X_i (by first | rfl | (show _ = nI (10); congr 1; have hd : ∀ h, dgt c h = 0 ∨ dgt c h = 1 := (by intro h; unfold dgt; split <;> simp); have h5 := hd 5; have h4 := hd 4; have h3 := hd 3; have h9 := hd 9; unfold dn; first | (rw [if_pos (by refine ⟨by decide, by omega⟩)]; done) | (rw [if_neg (by first | (intro z; exact absurd z.1 (by decide)) | (intro z; omega))]; first | rfl | (simp only [s_dm]; first | rfl | (rw [if_pos (by omega)]; done) | (rw [if_neg (by omega)]; done))))))
  · exact (show False by omega).elim
theorem c_readNext_6 {w : mj_W} {c : Nat} (hc : c < 1000) : MC l yX2_readNext wsX2_readNext rmX2_readNext false [.int 6, .int (nI (c))] (w) (some (.int (nI (dn 6 c)))) (w) := by
  refine mj_MC (cc := cX2_readNext) (nl := 2) (ret := (some .int)) (plainFor_of_name (by decide)) rfl (⟨_, rfl, rfl⟩) (Nat.le_of_ble_eq_true rfl) ?_
  show GG l cX2_readNext MX2_readNext false (.inl ((some (.int (nI (dn 6 c)))), w)) 0 [some (.int 6), some (.int (nI (c)))] [] (w) 0 0
  refine G_iload_n dX2_readNext_0 rfl ?_
  refine G_callSi dX2_readNext_1 kX2_readNext_X2_endsPart ⟨rfl, rfl⟩ ⟨Nat.zero_le _, Nat.zero_le _⟩ (c_endsPart (r := 6) (by omega)) rfl rfl rfl ?_
  refine G_eqi (show nI (s_ep 6) = 0 from by decide) ?_
  refine G_if_eqN (a := 0) 15 dX2_readNext_4 (by decide) (by omega) (fun c4 => ?_) (fun c4 => ?_)
  · refine G_iload_n dX2_readNext_15 rfl ?_
    refine G_tabIn (off := 133) 149 dX2_readNext_16 (by decide) (by decide) (by decide) (by decide) ?_
    refine G_iload_n dX2_readNext_149 rfl ?_
    refine G_iconst (v := 5) dX2_readNext_150 (by decide) ?_
    refine G_callSi dX2_readNext_151 kX2_readNext_X2_isDigit ⟨rfl, rfl⟩ ⟨Nat.zero_le _, Nat.zero_le _⟩ (c_isDigit (c := c) (h := 5) (by omega)) rfl rfl rfl ?_
    have hdb : ∀ h, dgt c h < 2 := by intro h; unfold dgt; split <;> omega
    have hdb3 := hdb 3
    have hdb4 := hdb 4
    have hdb5 := hdb 5
    have hdb9 := hdb 9
    refine G_if_eqN (a := (dgt c 5)) 162 dX2_readNext_154 (by decide) (by omega) (fun c154 => ?_) (fun c154 => ?_)
    · refine G_bipush (v := 11) dX2_readNext_162 (by decide) ?_
      exact G_iret dX2_readNext_164 ⟨Nat.zero_le _, Nat.zero_le _⟩ (X_i (by first | rfl | (show _ = nI (11); congr 1; have hd : ∀ h, dgt c h = 0 ∨ dgt c h = 1 := (by intro h; unfold dgt; split <;> simp); have h5 := hd 5; have h4 := hd 4; have h3 := hd 3; have h9 := hd 9; unfold dn; first | (rw [if_pos (by refine ⟨by decide, by omega⟩)]; done) | (rw [if_neg (by first | (intro z; exact absurd z.1 (by decide)) | (intro z; omega))]; first | rfl | (simp only [s_dm]; first | rfl | (rw [if_pos (by omega)]; done) | (rw [if_neg (by omega)]; done))))))
    · refine G_bipush (v := 10) dX2_readNext_157 (by decide) ?_
      refine G_goto 164 dX2_readNext_159 (by decide) ?_
      exact G_iret dX2_readNext_164 ⟨Nat.zero_le _, Nat.zero_le _⟩ (X_i (by first | rfl | (show _ = nI (10); congr 1; have hd : ∀ h, dgt c h = 0 ∨ dgt c h = 1 := (by intro h; unfold dgt; split <;> simp); have h5 := hd 5; have h4 := hd 4; have h3 := hd 3; have h9 := hd 9; unfold dn; first | (rw [if_pos (by refine ⟨by decide, by omega⟩)]; done) | (rw [if_neg (by first | (intro z; exact absurd z.1 (by decide)) | (intro z; omega))]; first | rfl | (simp only [s_dm]; first | rfl | (rw [if_pos (by omega)]; done) | (rw [if_neg (by omega)]; done))))))
  · exact (show False by omega).elim
theorem c_readNext_7 {w : mj_W} {c : Nat} (hc : c < 1000) : MC l yX2_readNext wsX2_readNext rmX2_readNext false [.int 7, .int (nI (c))] (w) (some (.int (nI (dn 7 c)))) (w) := by
  refine mj_MC (cc := cX2_readNext) (nl := 2) (ret := (some .int)) (plainFor_of_name (by decide)) rfl (⟨_, rfl, rfl⟩) (Nat.le_of_ble_eq_true rfl) ?_
  show GG l cX2_readNext MX2_readNext false (.inl ((some (.int (nI (dn 7 c)))), w)) 0 [some (.int 7), some (.int (nI (c)))] [] (w) 0 0
  refine G_iload_n dX2_readNext_0 rfl ?_
  refine G_callSi dX2_readNext_1 kX2_readNext_X2_endsPart ⟨rfl, rfl⟩ ⟨Nat.zero_le _, Nat.zero_le _⟩ (c_endsPart (r := 7) (by omega)) rfl rfl rfl ?_
  refine G_eqi (show nI (s_ep 7) = 0 from by decide) ?_
  refine G_if_eqN (a := 0) 15 dX2_readNext_4 (by decide) (by omega) (fun c4 => ?_) (fun c4 => ?_)
  · refine G_iload_n dX2_readNext_15 rfl ?_
    refine G_tabIn (off := 149) 165 dX2_readNext_16 (by decide) (by decide) (by decide) (by decide) ?_
    refine G_iload_n dX2_readNext_165 rfl ?_
    refine G_callSi dX2_readNext_166 kX2_readNext_X2_beginDays ⟨rfl, rfl⟩ ⟨Nat.zero_le _, Nat.zero_le _⟩ (c_beginDays (c := c) (by omega)) rfl rfl rfl ?_
    exact G_iret dX2_readNext_169 ⟨Nat.zero_le _, Nat.zero_le _⟩ (X_i (by first | rfl | (show _ = nI ((s_bd c)); congr 1; have hd : ∀ h, dgt c h = 0 ∨ dgt c h = 1 := (by intro h; unfold dgt; split <;> simp); have h5 := hd 5; have h4 := hd 4; have h3 := hd 3; have h9 := hd 9; unfold dn; first | (rw [if_pos (by refine ⟨by decide, by omega⟩)]; done) | (rw [if_neg (by first | (intro z; exact absurd z.1 (by decide)) | (intro z; omega))]; first | rfl | (simp only [s_dm]; first | rfl | (rw [if_pos (by omega)]; done) | (rw [if_neg (by omega)]; done))))))
  · exact (show False by omega).elim
theorem c_readNext_8 {w : mj_W} {c : Nat} (hc : c < 1000) : MC l yX2_readNext wsX2_readNext rmX2_readNext false [.int 8, .int (nI (c))] (w) (some (.int (nI (dn 8 c)))) (w) := by
  refine mj_MC (cc := cX2_readNext) (nl := 2) (ret := (some .int)) (plainFor_of_name (by decide)) rfl (⟨_, rfl, rfl⟩) (Nat.le_of_ble_eq_true rfl) ?_
  show GG l cX2_readNext MX2_readNext false (.inl ((some (.int (nI (dn 8 c)))), w)) 0 [some (.int 8), some (.int (nI (c)))] [] (w) 0 0
  refine G_iload_n dX2_readNext_0 rfl ?_
  refine G_callSi dX2_readNext_1 kX2_readNext_X2_endsPart ⟨rfl, rfl⟩ ⟨Nat.zero_le _, Nat.zero_le _⟩ (c_endsPart (r := 8) (by omega)) rfl rfl rfl ?_
  refine G_eqi (show nI (s_ep 8) = 1 from by decide) ?_
  refine G_if_eqN (a := 1) 15 dX2_readNext_4 (by decide) (by omega) (fun c4 => ?_) (fun c4 => ?_)
  · exact (show False by omega).elim
  · refine G_iload_n dX2_readNext_7 rfl ?_
    refine G_bipush (v := 59) dX2_readNext_8 (by decide) ?_
    refine G_icmp_neN (a := c) (c := 59) 15 dX2_readNext_10 (by decide) (by omega) (fun c10 => ?_) (fun c10 => ?_)
    · refine G_iload_n dX2_readNext_15 rfl ?_
      refine G_tabIn (off := 154) 170 dX2_readNext_16 (by decide) (by decide) (by decide) (by decide) ?_
      refine G_iload_n dX2_readNext_170 rfl ?_
      refine G_bipush (v := 9) dX2_readNext_171 (by decide) ?_
      refine G_callSi dX2_readNext_173 kX2_readNext_X2_isDigit ⟨rfl, rfl⟩ ⟨Nat.zero_le _, Nat.zero_le _⟩ (c_isDigit (c := c) (h := 9) (by omega)) rfl rfl rfl ?_
      have hdb : ∀ h, dgt c h < 2 := by intro h; unfold dgt; split <;> omega
      have hdb3 := hdb 3
      have hdb4 := hdb 4
      have hdb5 := hdb 5
      have hdb9 := hdb 9
      refine G_if_eqN (a := (dgt c 9)) 184 dX2_readNext_176 (by decide) (by omega) (fun c176 => ?_) (fun c176 => ?_)
      · refine G_bipush (v := 11) dX2_readNext_184 (by decide) ?_
        exact G_iret dX2_readNext_186 ⟨Nat.zero_le _, Nat.zero_le _⟩ (X_i (by first | rfl | (show _ = nI (11); congr 1; have hd : ∀ h, dgt c h = 0 ∨ dgt c h = 1 := (by intro h; unfold dgt; split <;> simp); have h5 := hd 5; have h4 := hd 4; have h3 := hd 3; have h9 := hd 9; unfold dn; first | (rw [if_pos (by refine ⟨by decide, by omega⟩)]; done) | (rw [if_neg (by first | (intro z; exact absurd z.1 (by decide)) | (intro z; omega))]; first | rfl | (simp only [s_dm]; first | rfl | (rw [if_pos (by omega)]; done) | (rw [if_neg (by omega)]; done))))))
      · refine G_bipush (v := 10) dX2_readNext_179 (by decide) ?_
        refine G_goto 186 dX2_readNext_181 (by decide) ?_
        exact G_iret dX2_readNext_186 ⟨Nat.zero_le _, Nat.zero_le _⟩ (X_i (by first | rfl | (show _ = nI (10); congr 1; have hd : ∀ h, dgt c h = 0 ∨ dgt c h = 1 := (by intro h; unfold dgt; split <;> simp); have h5 := hd 5; have h4 := hd 4; have h3 := hd 3; have h9 := hd 9; unfold dn; first | (rw [if_pos (by refine ⟨by decide, by omega⟩)]; done) | (rw [if_neg (by first | (intro z; exact absurd z.1 (by decide)) | (intro z; omega))]; first | rfl | (simp only [s_dm]; first | rfl | (rw [if_pos (by omega)]; done) | (rw [if_neg (by omega)]; done))))))
    · refine G_iconst (v := 0) dX2_readNext_13 (by decide) ?_
      exact G_iret dX2_readNext_14 ⟨Nat.zero_le _, Nat.zero_le _⟩ (X_i (by first | rfl | (show _ = nI (0); congr 1; have hd : ∀ h, dgt c h = 0 ∨ dgt c h = 1 := (by intro h; unfold dgt; split <;> simp); have h5 := hd 5; have h4 := hd 4; have h3 := hd 3; have h9 := hd 9; unfold dn; first | (rw [if_pos (by refine ⟨by decide, by omega⟩)]; done) | (rw [if_neg (by first | (intro z; exact absurd z.1 (by decide)) | (intro z; omega))]; first | rfl | (simp only [s_dm]; first | rfl | (rw [if_pos (by omega)]; done) | (rw [if_neg (by omega)]; done))))))
theorem c_readNext_9 {w : mj_W} {c : Nat} (hc : c < 1000) : MC l yX2_readNext wsX2_readNext rmX2_readNext false [.int 9, .int (nI (c))] (w) (some (.int (nI (dn 9 c)))) (w) := by
  refine mj_MC (cc := cX2_readNext) (nl := 2) (ret := (some .int)) (plainFor_of_name (by decide)) rfl (⟨_, rfl, rfl⟩) (Nat.le_of_ble_eq_true rfl) ?_
  show GG l cX2_readNext MX2_readNext false (.inl ((some (.int (nI (dn 9 c)))), w)) 0 [some (.int 9), some (.int (nI (c)))] [] (w) 0 0
  refine G_iload_n dX2_readNext_0 rfl ?_
  refine G_callSi dX2_readNext_1 kX2_readNext_X2_endsPart ⟨rfl, rfl⟩ ⟨Nat.zero_le _, Nat.zero_le _⟩ (c_endsPart (r := 9) (by omega)) rfl rfl rfl ?_
  refine G_eqi (show nI (s_ep 9) = 1 from by decide) ?_
  refine G_if_eqN (a := 1) 15 dX2_readNext_4 (by decide) (by omega) (fun c4 => ?_) (fun c4 => ?_)
  · exact (show False by omega).elim
  · refine G_iload_n dX2_readNext_7 rfl ?_
    refine G_bipush (v := 59) dX2_readNext_8 (by decide) ?_
    refine G_icmp_neN (a := c) (c := 59) 15 dX2_readNext_10 (by decide) (by omega) (fun c10 => ?_) (fun c10 => ?_)
    · refine G_iload_n dX2_readNext_15 rfl ?_
      refine G_tabIn (off := 171) 187 dX2_readNext_16 (by decide) (by decide) (by decide) (by decide) ?_
      refine G_iload_n dX2_readNext_187 rfl ?_
      refine G_bipush (v := 48) dX2_readNext_188 (by decide) ?_
      refine G_icmp_neN (a := c) (c := 48) 198 dX2_readNext_190 (by decide) (by omega) (fun c190 => ?_) (fun c190 => ?_)
      · refine G_bipush (v := 11) dX2_readNext_198 (by decide) ?_
        exact G_iret dX2_readNext_200 ⟨Nat.zero_le _, Nat.zero_le _⟩ (X_i (by first | rfl | (show _ = nI (11); congr 1; have hd : ∀ h, dgt c h = 0 ∨ dgt c h = 1 := (by intro h; unfold dgt; split <;> simp); have h5 := hd 5; have h4 := hd 4; have h3 := hd 3; have h9 := hd 9; unfold dn; first | (rw [if_pos (by refine ⟨by decide, by omega⟩)]; done) | (rw [if_neg (by first | (intro z; exact absurd z.1 (by decide)) | (intro z; omega))]; first | rfl | (simp only [s_dm]; first | rfl | (rw [if_pos (by omega)]; done) | (rw [if_neg (by omega)]; done))))))
      · refine G_bipush (v := 10) dX2_readNext_193 (by decide) ?_
        refine G_goto 200 dX2_readNext_195 (by decide) ?_
        exact G_iret dX2_readNext_200 ⟨Nat.zero_le _, Nat.zero_le _⟩ (X_i (by first | rfl | (show _ = nI (10); congr 1; have hd : ∀ h, dgt c h = 0 ∨ dgt c h = 1 := (by intro h; unfold dgt; split <;> simp); have h5 := hd 5; have h4 := hd 4; have h3 := hd 3; have h9 := hd 9; unfold dn; first | (rw [if_pos (by refine ⟨by decide, by omega⟩)]; done) | (rw [if_neg (by first | (intro z; exact absurd z.1 (by decide)) | (intro z; omega))]; first | rfl | (simp only [s_dm]; first | rfl | (rw [if_pos (by omega)]; done) | (rw [if_neg (by omega)]; done))))))
    · refine G_iconst (v := 0) dX2_readNext_13 (by decide) ?_
      exact G_iret dX2_readNext_14 ⟨Nat.zero_le _, Nat.zero_le _⟩ (X_i (by first | rfl | (show _ = nI (0); congr 1; have hd : ∀ h, dgt c h = 0 ∨ dgt c h = 1 := (by intro h; unfold dgt; split <;> simp); have h5 := hd 5; have h4 := hd 4; have h3 := hd 3; have h9 := hd 9; unfold dn; first | (rw [if_pos (by refine ⟨by decide, by omega⟩)]; done) | (rw [if_neg (by first | (intro z; exact absurd z.1 (by decide)) | (intro z; omega))]; first | rfl | (simp only [s_dm]; first | rfl | (rw [if_pos (by omega)]; done) | (rw [if_neg (by omega)]; done))))))
theorem c_readNext_10 {w : mj_W} {c : Nat} (hc : c < 1000) : MC l yX2_readNext wsX2_readNext rmX2_readNext false [.int 10, .int (nI (c))] (w) (some (.int (nI (dn 10 c)))) (w) := by
  refine mj_MC (cc := cX2_readNext) (nl := 2) (ret := (some .int)) (plainFor_of_name (by decide)) rfl (⟨_, rfl, rfl⟩) (Nat.le_of_ble_eq_true rfl) ?_
  show GG l cX2_readNext MX2_readNext false (.inl ((some (.int (nI (dn 10 c)))), w)) 0 [some (.int 10), some (.int (nI (c)))] [] (w) 0 0
  refine G_iload_n dX2_readNext_0 rfl ?_
  refine G_callSi dX2_readNext_1 kX2_readNext_X2_endsPart ⟨rfl, rfl⟩ ⟨Nat.zero_le _, Nat.zero_le _⟩ (c_endsPart (r := 10) (by omega)) rfl rfl rfl ?_
  refine G_eqi (show nI (s_ep 10) = 1 from by decide) ?_
  refine G_if_eqN (a := 1) 15 dX2_readNext_4 (by decide) (by omega) (fun c4 => ?_) (fun c4 => ?_)
  · exact (show False by omega).elim
  · refine G_iload_n dX2_readNext_7 rfl ?_
    refine G_bipush (v := 59) dX2_readNext_8 (by decide) ?_
    refine G_icmp_neN (a := c) (c := 59) 15 dX2_readNext_10 (by decide) (by omega) (fun c10 => ?_) (fun c10 => ?_)
    · refine G_iload_n dX2_readNext_15 rfl ?_
      refine G_tabOut 201 dX2_readNext_16 (by decide) (by decide) ?_
      refine G_bipush (v := 11) dX2_readNext_201 (by decide) ?_
      exact G_iret dX2_readNext_203 ⟨Nat.zero_le _, Nat.zero_le _⟩ (X_i (by first | rfl | (show _ = nI (11); congr 1; have hd : ∀ h, dgt c h = 0 ∨ dgt c h = 1 := (by intro h; unfold dgt; split <;> simp); have h5 := hd 5; have h4 := hd 4; have h3 := hd 3; have h9 := hd 9; unfold dn; first | (rw [if_pos (by refine ⟨by decide, by omega⟩)]; done) | (rw [if_neg (by first | (intro z; exact absurd z.1 (by decide)) | (intro z; omega))]; first | rfl | (simp only [s_dm]; first | rfl | (rw [if_pos (by omega)]; done) | (rw [if_neg (by omega)]; done))))))
    · refine G_iconst (v := 0) dX2_readNext_13 (by decide) ?_
      exact G_iret dX2_readNext_14 ⟨Nat.zero_le _, Nat.zero_le _⟩ (X_i (by first | rfl | (show _ = nI (0); congr 1; have hd : ∀ h, dgt c h = 0 ∨ dgt c h = 1 := (by intro h; unfold dgt; split <;> simp); have h5 := hd 5; have h4 := hd 4; have h3 := hd 3; have h9 := hd 9; unfold dn; first | (rw [if_pos (by refine ⟨by decide, by omega⟩)]; done) | (rw [if_neg (by first | (intro z; exact absurd z.1 (by decide)) | (intro z; omega))]; first | rfl | (simp only [s_dm]; first | rfl | (rw [if_pos (by omega)]; done) | (rw [if_neg (by omega)]; done))))))
theorem c_readNext_11 {w : mj_W} {c : Nat} (hc : c < 1000) : MC l yX2_readNext wsX2_readNext rmX2_readNext false [.int 11, .int (nI (c))] (w) (some (.int (nI (dn 11 c)))) (w) := by
  refine mj_MC (cc := cX2_readNext) (nl := 2) (ret := (some .int)) (plainFor_of_name (by decide)) rfl (⟨_, rfl, rfl⟩) (Nat.le_of_ble_eq_true rfl) ?_
  show GG l cX2_readNext MX2_readNext false (.inl ((some (.int (nI (dn 11 c)))), w)) 0 [some (.int 11), some (.int (nI (c)))] [] (w) 0 0
  refine G_iload_n dX2_readNext_0 rfl ?_
  refine G_callSi dX2_readNext_1 kX2_readNext_X2_endsPart ⟨rfl, rfl⟩ ⟨Nat.zero_le _, Nat.zero_le _⟩ (c_endsPart (r := 11) (by omega)) rfl rfl rfl ?_
  refine G_eqi (show nI (s_ep 11) = 0 from by decide) ?_
  refine G_if_eqN (a := 0) 15 dX2_readNext_4 (by decide) (by omega) (fun c4 => ?_) (fun c4 => ?_)
  · refine G_iload_n dX2_readNext_15 rfl ?_
    refine G_tabOut 201 dX2_readNext_16 (by decide) (by decide) ?_
    refine G_bipush (v := 11) dX2_readNext_201 (by decide) ?_
    exact G_iret dX2_readNext_203 ⟨Nat.zero_le _, Nat.zero_le _⟩ (X_i (by first | rfl | (show _ = nI (11); congr 1; have hd : ∀ h, dgt c h = 0 ∨ dgt c h = 1 := (by intro h; unfold dgt; split <;> simp); have h5 := hd 5; have h4 := hd 4; have h3 := hd 3; have h9 := hd 9; unfold dn; first | (rw [if_pos (by refine ⟨by decide, by omega⟩)]; done) | (rw [if_neg (by first | (intro z; exact absurd z.1 (by decide)) | (intro z; omega))]; first | rfl | (simp only [s_dm]; first | rfl | (rw [if_pos (by omega)]; done) | (rw [if_neg (by omega)]; done))))))
  · exact (show False by omega).elim
theorem c_readNext {w : mj_W} {r c : Nat} (hr : r ≤ 11) (hc : c < 1000) : MC l yX2_readNext wsX2_readNext rmX2_readNext false [.int (nI (r)), .int (nI (c))] (w) (some (.int (nI (dn r c)))) (w) := by
  rcases (show r = 0 ∨ r = 1 ∨ r = 2 ∨ r = 3 ∨ r = 4 ∨ r = 5 ∨ r = 6 ∨ r = 7 ∨ r = 8 ∨ r = 9 ∨ r = 10 ∨ r = 11 by omega) with rfl | rfl | rfl | rfl | rfl | rfl | rfl | rfl | rfl | rfl | rfl | rfl
  · exact c_readNext_0 hc
  · exact c_readNext_1 hc
  · exact c_readNext_2 hc
  · exact c_readNext_3 hc
  · exact c_readNext_4 hc
  · exact c_readNext_5 hc
  · exact c_readNext_6 hc
  · exact c_readNext_7 hc
  · exact c_readNext_8 hc
  · exact c_readNext_9 hc
  · exact c_readNext_10 hc
  · exact c_readNext_11 hc
theorem c_tlen (hΩ : TV tp sp Ω) {g : mj_S} {n : Nat} : MC l yX2_length wsX2_length rmX2_length false [.ref tp] (Ω g n) (some (.int (nI n))) (Ω g n) := by
  refine mj_MC (cc := cX2_length) (nl := 1) (ret := (some .int)) (plainFor_of_name (by decide)) rfl (⟨_, rfl, rfl⟩) (Nat.le_of_ble_eq_true rfl) ?_
  show GG l cX2_length MX2_length false (.inl ((some (.int (nI n))), Ω g n)) 0 [some (.ref tp)] [] (Ω g n) 0 0
  refine G_aload_n dX2_length_0 rfl ?_
  refine G_getf dX2_length_1 fX2_length_15 ((hΩ _ _).1) rfl ?_
  exact G_iret dX2_length_4 ⟨Nat.zero_le _, Nat.zero_le _⟩ (rfl)
theorem c_wipe (hΩ : TV tp sp Ω) {g : mj_S} {n : Nat} : MC l yX2_wipe wsX2_wipe rmX2_wipe false [.ref tp] (Ω g n) none (Ω g 0) := by
  refine mj_MC (cc := cX2_wipe) (nl := 1) (ret := none) (plainFor_of_name (by decide)) rfl (rfl) (Nat.le_of_ble_eq_true rfl) ?_
  show GG l cX2_wipe MX2_wipe false (.inl (none, Ω g 0)) 0 [some (.ref tp)] [] (Ω g n) 0 0
  refine G_aload_n dX2_wipe_0 rfl ?_
  refine G_iconst (v := 0) dX2_wipe_1 (by decide) ?_
  refine G_putf dX2_wipe_2 pX2_wipe_15 ((hΩ _ _).1) (fun _ => ⟨rfl, rfl⟩) (by simp) ((hΩ _ _).2.2.1 _) ?_
  exact G_vret dX2_wipe_5 ⟨Nat.zero_le _, Nat.zero_le _⟩ (rfl)
theorem c_tpush (hΩ : TV tp sp Ω) {g : mj_S} {n c : Nat} (hn : n < 60) (hc : c < 65536) : MC l yX2_push wsX2_push rmX2_push false [.ref tp, .int (nI (c))] (Ω g n) none (Ω (upd g n (nI c)) (n + 1)) := by
  refine mj_MC (cc := cX2_push) (nl := 2) (ret := none) (plainFor_of_name (by decide)) rfl (rfl) (Nat.le_of_ble_eq_true rfl) ?_
  show GG l cX2_push MX2_push false (.inl (none, Ω (upd g n (nI c)) (n + 1))) 0 [some (.ref tp), some (.int (nI (c)))] [] (Ω g n) 0 0
  refine G_aload_n dX2_push_0 rfl ?_
  refine G_getf dX2_push_1 fX2_push_15 ((hΩ _ _).1) rfl ?_
  refine G_if_ltN (a := n) 39 dX2_push_4 (by decide) (by omega) ?_
  refine G_aload_n dX2_push_7 rfl ?_
  refine G_getf dX2_push_8 fX2_push_15 ((hΩ _ _).1) rfl ?_
  refine G_aload_n dX2_push_11 rfl ?_
  refine G_getf dX2_push_12 fX2_push_9 ((hΩ _ _).1) rfl ?_
  refine G_alen (v := 60) dX2_push_15 ((hΩ _ _).2.1) rfl ?_
  refine G_icmp_geN (a := n) (c := 60) 39 dX2_push_16 (by decide) (by omega) (fun c16 => ?_) (fun c16 => ?_)
  · exact (show False by omega).elim
  · refine G_aload_n dX2_push_19 rfl ?_
    refine G_getf dX2_push_20 fX2_push_9 ((hΩ _ _).1) rfl ?_
    refine G_aload_n dX2_push_23 rfl ?_
    refine G_getf dX2_push_24 fX2_push_15 ((hΩ _ _).1) rfl ?_
    refine G_iload_n dX2_push_27 rfl ?_
    refine G_castN (j := n) dX2_push_28 ((hΩ _ _).2.1) (by omega) ((hΩ _ _).2.2.2 _) ?_
    refine G_aload_n dX2_push_29 rfl ?_
    refine G_dup dX2_push_30 rfl ?_
    refine G_getf dX2_push_31 fX2_push_15 ((hΩ _ _).1) rfl ?_
    refine G_iconst (v := 1) dX2_push_34 (by decide) ?_
    refine G_iaddN (a := n) (c := 1) (s := n + 1) dX2_push_35 (by omega) ?_
    refine G_putf dX2_push_36 pX2_push_15 ((hΩ _ _).1) (fun _ => ⟨rfl, rfl⟩) (by simp) ((hΩ _ _).2.2.1 _) ?_
    exact G_vret dX2_push_39 ⟨Nat.zero_le _, Nat.zero_le _⟩ (X_w (by rw [show vp_nar .char (nI c) = nI c from by rw [vp_nar]; rw [(pk_charN hc).1]]))
theorem c_signAt (hΩ : TV tp sp Ω) {g : mj_S} {n : Nat} {t : Nat → Nat} (hX : TX g n t) {i : Nat} (hi : i < 2147483648) : MC l yX2_signAt wsX2_signAt rmX2_signAt false [.ref tp, .int (nI (i))] (Ω g n) (some (.int (nI (sg t n i)))) (Ω g n) := by
  refine mj_MC (cc := cX2_signAt) (nl := 2) (ret := (some .char)) (plainFor_of_name (by decide)) rfl (⟨_, rfl, (pk_charN (by have := sg_le hX i; omega)).1⟩) (Nat.le_of_ble_eq_true rfl) ?_
  show GG l cX2_signAt MX2_signAt false (.inl ((some (.int (nI (sg t n i)))), Ω g n)) 0 [some (.ref tp), some (.int (nI (i)))] [] (Ω g n) 0 0
  have hn60 := hX.1
  refine G_iload_n dX2_signAt_0 rfl ?_
  refine G_if_ltN (a := i) 30 dX2_signAt_1 (by decide) (by omega) ?_
  refine G_iload_n dX2_signAt_4 rfl ?_
  refine G_aload_n dX2_signAt_5 rfl ?_
  refine G_getf dX2_signAt_6 fX2_signAt_15 ((hΩ _ _).1) rfl ?_
  refine G_icmp_geN (a := i) (c := n) 30 dX2_signAt_9 (by decide) (by omega) (fun c9 => ?_) (fun c9 => ?_)
  · refine G_bipush (v := 32) dX2_signAt_30 (by decide) ?_
    exact G_iret dX2_signAt_32 ⟨Nat.zero_le _, Nat.zero_le _⟩ (X_i (by unfold sg; rw [if_neg (by omega)]; rfl))
  · refine G_iload_n dX2_signAt_12 rfl ?_
    refine G_aload_n dX2_signAt_13 rfl ?_
    refine G_getf dX2_signAt_14 fX2_signAt_9 ((hΩ _ _).1) rfl ?_
    refine G_alen (v := 60) dX2_signAt_17 ((hΩ _ _).2.1) rfl ?_
    refine G_icmp_geN (a := i) (c := 60) 30 dX2_signAt_18 (by decide) (by omega) (fun c18 => ?_) (fun c18 => ?_)
    · exact (show False by omega).elim
    · refine G_aload_n dX2_signAt_21 rfl ?_
      refine G_getf dX2_signAt_22 fX2_signAt_9 ((hΩ _ _).1) rfl ?_
      refine G_iload_n dX2_signAt_25 rfl ?_
      refine G_caldN (j := i) dX2_signAt_26 ((hΩ _ _).2.1) (by omega) ?_
      refine G_goto 32 dX2_signAt_27 (by decide) ?_
      exact G_iret dX2_signAt_32 ⟨Nat.zero_le _, Nat.zero_le _⟩ (X_i (by unfold sg; rw [if_pos (by omega), (hX.2 i (by omega)).1]))
theorem lp_right (hΩ : TV tp sp Ω) {g : mj_S} {n : Nat} {t : Nat → Nat} (hX : TX g n t) {res : Nat} : ∀ (d c r : Nat), r ≤ 11 → c + d = n → res = s_rs t d c r → GG l cX2_rightSigns MX2_rightSigns false (.inl (some (.int (nI res)), Ω g n)) 4 [some (.ref tp), some (.int (nI r)), some (.int (nI c))] [] (Ω g n) 0 0
  | 0, c, r, hr, hc, he => by
    have hn60 := hX.1
    refine G_iload_n dX2_rightSigns_4 rfl ?_
    refine G_aload_n dX2_rightSigns_5 rfl ?_
    refine G_getf dX2_rightSigns_6 fX2_rightSigns_15 ((hΩ _ _).1) rfl ?_
    refine G_icmp_geN (a := c) (c := n) 36 dX2_rightSigns_9 (by decide) (by omega) (fun c9 => ?_) (fun c9 => ?_)
    · refine G_aload_n dX2_rightSigns_36 rfl ?_
      refine G_getf dX2_rightSigns_37 fX2_rightSigns_15 ((hΩ _ _).1) rfl ?_
      exact G_iret dX2_rightSigns_40 ⟨Nat.zero_le _, Nat.zero_le _⟩ (X_i (congrArg nI (by rw [he, s_rs]; omega)))
    · exact (show False by omega).elim
  | d + 1, c, r, hr, hc, he => by
    have hn60 := hX.1
    refine G_iload_n dX2_rightSigns_4 rfl ?_
    refine G_aload_n dX2_rightSigns_5 rfl ?_
    refine G_getf dX2_rightSigns_6 fX2_rightSigns_15 ((hΩ _ _).1) rfl ?_
    refine G_icmp_geN (a := c) (c := n) 36 dX2_rightSigns_9 (by decide) (by omega) (fun c9 => ?_) (fun c9 => ?_)
    · exact (show False by omega).elim
    · have hsg : sg t n c = t c := by unfold sg; rw [if_pos (by omega)]
      have hsl := sg_le hX c
      refine G_iload_n dX2_rightSigns_12 rfl ?_
      refine G_aload_n dX2_rightSigns_13 rfl ?_
      refine G_iload_n dX2_rightSigns_14 rfl ?_
      refine G_callVi dX2_rightSigns_15 kX2_rightSigns_X2_signAt ⟨rfl, rfl⟩ ⟨Nat.zero_le _, Nat.zero_le _⟩ (c_signAt hΩ hX (i := c) (by omega)) rfl rfl ((hΩ _ _).1) rfl rfl ?_
      refine G_callSi dX2_rightSigns_18 kX2_rightSigns_X2_readNext ⟨rfl, rfl⟩ ⟨Nat.zero_le _, Nat.zero_le _⟩ (c_readNext (r := r) (c := (sg t n c)) (by omega) (by omega)) rfl rfl rfl ?_
      refine G_istore_n dX2_rightSigns_21 rfl (L' := [some (.ref tp), some (.int (nI ((dn r (sg t n c))))), some (.int (nI (c)))]) rfl ?_
      have hdn := dn_le r (sg t n c)
      refine G_iload_n dX2_rightSigns_22 rfl ?_
      refine G_bipush (v := 11) dX2_rightSigns_23 (by decide) ?_
      refine G_icmp_neN (a := (dn r (sg t n c))) (c := 11) 30 dX2_rightSigns_25 (by decide) (by omega) (fun c25 => ?_) (fun c25 => ?_)
      · refine G_iincN (a := c) (s := c + 1) dX2_rightSigns_30 rfl (by omega) (L' := [some (.ref tp), some (.int (nI ((dn r (sg t n c))))), some (.int (nI (c + 1)))]) rfl ?_
        refine G_goto 4 dX2_rightSigns_33 (by decide) ?_
        exact lp_right hΩ hX d (c + 1) _ hdn (by omega) (by rw [he, s_rs, ← hsg, if_neg (by omega)])
      · refine G_iload_n dX2_rightSigns_28 rfl ?_
        exact G_iret dX2_rightSigns_29 ⟨Nat.zero_le _, Nat.zero_le _⟩ (X_i (congrArg nI (by rw [he, s_rs, ← hsg, if_pos (by omega)])))
theorem c_rightSigns (hΩ : TV tp sp Ω) {g : mj_S} {n : Nat} {t : Nat → Nat} (hX : TX g n t) : MC l yX2_rightSigns wsX2_rightSigns rmX2_rightSigns false [.ref tp] (Ω g n) (some (.int (nI (s_rs t n 0 0)))) (Ω g n) := by
  refine mj_MC (cc := cX2_rightSigns) (nl := 3) (ret := (some .int)) (plainFor_of_name (by decide)) rfl (⟨_, rfl, rfl⟩) (Nat.le_of_ble_eq_true rfl) ?_
  show GG l cX2_rightSigns MX2_rightSigns false (.inl ((some (.int (nI (s_rs t n 0 0)))), Ω g n)) 0 [some (.ref tp), none, none] [] (Ω g n) 0 0
  refine G_iconst (v := 0) dX2_rightSigns_0 (by decide) ?_
  refine G_istore_n dX2_rightSigns_1 rfl (L' := [some (.ref tp), some (.int 0), none]) rfl ?_
  refine G_iconst (v := 0) dX2_rightSigns_2 (by decide) ?_
  refine G_istore_n dX2_rightSigns_3 rfl (L' := [some (.ref tp), some (.int 0), some (.int 0)]) rfl ?_
  exact lp_right hΩ hX n 0 0 (by omega) (by omega) rfl
theorem s_fd_le (t : Nat → Nat) : ∀ d i r, r ≤ 11 → s_fd t d i r ≤ 11
  | 0, _, _, h => h
  | d + 1, i, r, _ => s_fd_le t d (i + 1) _ (dn_le _ _)
theorem lp_complete (hΩ : TV tp sp Ω) {g : mj_S} {n : Nat} {t : Nat → Nat} (hX : TX g n t) {res : Nat} : ∀ (d c r : Nat), r ≤ 11 → c + d = n → res = s_fd t d c r → GG l cX2_isComplete MX2_isComplete false (.inl (some (.int (nI (s_ep res))), Ω g n)) 4 [some (.ref tp), some (.int (nI r)), some (.int (nI c))] [] (Ω g n) 0 0
  | 0, c, r, hr, hc, he => by
    have hn60 := hX.1
    refine G_iload_n dX2_isComplete_4 rfl ?_
    refine G_aload_n dX2_isComplete_5 rfl ?_
    refine G_getf dX2_isComplete_6 fX2_isComplete_15 ((hΩ _ _).1) rfl ?_
    refine G_icmp_geN (a := c) (c := n) 28 dX2_isComplete_9 (by decide) (by omega) (fun c9 => ?_) (fun c9 => ?_)
    · refine G_iload_n dX2_isComplete_28 rfl ?_
      refine G_callSi dX2_isComplete_29 kX2_isComplete_X2_endsPart ⟨rfl, rfl⟩ ⟨Nat.zero_le _, Nat.zero_le _⟩ (c_endsPart (r := r) (by omega)) rfl rfl rfl ?_
      exact G_iret dX2_isComplete_32 ⟨Nat.zero_le _, Nat.zero_le _⟩ (X_i (by rw [he, s_fd]))
    · exact (show False by omega).elim
  | d + 1, c, r, hr, hc, he => by
    have hn60 := hX.1
    refine G_iload_n dX2_isComplete_4 rfl ?_
    refine G_aload_n dX2_isComplete_5 rfl ?_
    refine G_getf dX2_isComplete_6 fX2_isComplete_15 ((hΩ _ _).1) rfl ?_
    refine G_icmp_geN (a := c) (c := n) 28 dX2_isComplete_9 (by decide) (by omega) (fun c9 => ?_) (fun c9 => ?_)
    · exact (show False by omega).elim
    · have hsg : sg t n c = t c := by unfold sg; rw [if_pos (by omega)]
      have hsl := sg_le hX c
      refine G_iload_n dX2_isComplete_12 rfl ?_
      refine G_aload_n dX2_isComplete_13 rfl ?_
      refine G_iload_n dX2_isComplete_14 rfl ?_
      refine G_callVi dX2_isComplete_15 kX2_isComplete_X2_signAt ⟨rfl, rfl⟩ ⟨Nat.zero_le _, Nat.zero_le _⟩ (c_signAt hΩ hX (i := c) (by omega)) rfl rfl ((hΩ _ _).1) rfl rfl ?_
      refine G_callSi dX2_isComplete_18 kX2_isComplete_X2_readNext ⟨rfl, rfl⟩ ⟨Nat.zero_le _, Nat.zero_le _⟩ (c_readNext (r := r) (c := (sg t n c)) (by omega) (by omega)) rfl rfl rfl ?_
      have hdn := dn_le r (sg t n c)
      refine G_istore_n dX2_isComplete_21 rfl (L' := [some (.ref tp), some (.int (nI ((dn r (sg t n c))))), some (.int (nI (c)))]) rfl ?_
      refine G_iincN (a := c) (s := c + 1) dX2_isComplete_22 rfl (by omega) (L' := [some (.ref tp), some (.int (nI ((dn r (sg t n c))))), some (.int (nI (c + 1)))]) rfl ?_
      refine G_goto 4 dX2_isComplete_25 (by decide) ?_
      exact lp_complete hΩ hX d (c + 1) _ hdn (by omega) (by rw [he, s_fd, ← hsg])
theorem c_isComplete (hΩ : TV tp sp Ω) {g : mj_S} {n : Nat} {t : Nat → Nat} (hX : TX g n t) : MC l yX2_isComplete wsX2_isComplete rmX2_isComplete false [.ref tp] (Ω g n) (some (.int (nI (s_ep (s_fd t n 0 0))))) (Ω g n) := by
  refine mj_MC (cc := cX2_isComplete) (nl := 3) (ret := (some .boolean)) (plainFor_of_name (by decide)) rfl (⟨_, rfl, by unfold s_ep; split <;> rfl⟩) (Nat.le_of_ble_eq_true rfl) ?_
  show GG l cX2_isComplete MX2_isComplete false (.inl ((some (.int (nI (s_ep (s_fd t n 0 0))))), Ω g n)) 0 [some (.ref tp), none, none] [] (Ω g n) 0 0
  refine G_iconst (v := 0) dX2_isComplete_0 (by decide) ?_
  refine G_istore_n dX2_isComplete_1 rfl (L' := [some (.ref tp), some (.int 0), none]) rfl ?_
  refine G_iconst (v := 0) dX2_isComplete_2 (by decide) ?_
  refine G_istore_n dX2_isComplete_3 rfl (L' := [some (.ref tp), some (.int 0), some (.int 0)]) rfl ?_
  exact lp_complete hΩ hX n 0 0 (by omega) (by omega) rfl
theorem c_isPartBegin (hΩ : TV tp sp Ω) {g : mj_S} {n : Nat} {t : Nat → Nat} (hX : TX g n t) {i : Nat} (hi : i < 2147483648) : MC l yX2_isPartBegin wsX2_isPartBegin rmX2_isPartBegin false [.ref tp, .int (nI (i))] (Ω g n) (some (.int (nI (s_pb t n i)))) (Ω g n) := by
  refine mj_MC (cc := cX2_isPartBegin) (nl := 2) (ret := (some .boolean)) (plainFor_of_name (by decide)) rfl (⟨_, rfl, by unfold s_pb; split <;> rfl⟩) (Nat.le_of_ble_eq_true rfl) ?_
  show GG l cX2_isPartBegin MX2_isPartBegin false (.inl ((some (.int (nI (s_pb t n i)))), Ω g n)) 0 [some (.ref tp), some (.int (nI (i)))] [] (Ω g n) 0 0
  refine G_iload_n dX2_isPartBegin_0 rfl ?_
  refine G_if_eqN (a := i) 16 dX2_isPartBegin_1 (by decide) (by omega) (fun c1 => ?_) (fun c1 => ?_)
  · refine G_iconst (v := 1) dX2_isPartBegin_16 (by decide) ?_
    refine G_goto 21 dX2_isPartBegin_17 (by decide) ?_
    exact G_iret dX2_isPartBegin_21 ⟨Nat.zero_le _, Nat.zero_le _⟩ (X_i (by unfold s_pb; rw [if_pos (by omega)]; rfl))
  · refine G_aload_n dX2_isPartBegin_4 rfl ?_
    refine G_iload_n dX2_isPartBegin_5 rfl ?_
    refine G_iconst (v := 1) dX2_isPartBegin_6 (by decide) ?_
    refine G_isubN (a := i) (c := 1) (s := ((i) - 1)) dX2_isPartBegin_7 (by omega) ?_
    refine G_callVi dX2_isPartBegin_8 kX2_isPartBegin_X2_signAt ⟨rfl, rfl⟩ ⟨Nat.zero_le _, Nat.zero_le _⟩ (c_signAt hΩ hX (i := ((i) - 1)) (by omega)) rfl rfl ((hΩ _ _).1) rfl rfl ?_
    have hsl := sg_le hX (i - 1)
    refine G_bipush (v := 59) dX2_isPartBegin_11 (by decide) ?_
    refine G_icmp_neN (a := (sg t n ((i) - 1))) (c := 59) 20 dX2_isPartBegin_13 (by decide) (by omega) (fun c13 => ?_) (fun c13 => ?_)
    · refine G_iconst (v := 0) dX2_isPartBegin_20 (by decide) ?_
      exact G_iret dX2_isPartBegin_21 ⟨Nat.zero_le _, Nat.zero_le _⟩ (X_i (by unfold s_pb; rw [if_neg (by omega)]; rfl))
    · refine G_iconst (v := 1) dX2_isPartBegin_16 (by decide) ?_
      refine G_goto 21 dX2_isPartBegin_17 (by decide) ?_
      exact G_iret dX2_isPartBegin_21 ⟨Nat.zero_le _, Nat.zero_le _⟩ (X_i (by unfold s_pb; rw [if_pos (by omega)]; rfl))
theorem c_numberAt (hΩ : TV tp sp Ω) {g : mj_S} {n : Nat} {t : Nat → Nat} (hX : TX g n t) {i : Nat} (hi : i < 1000) : MC l yX2_numberAt wsX2_numberAt rmX2_numberAt false [.ref tp, .int (nI (i))] (Ω g n) (some (.int (nI (s_nm t n i)))) (Ω g n) := by
  refine mj_MC (cc := cX2_numberAt) (nl := 3) (ret := (some .int)) (plainFor_of_name (by decide)) rfl (⟨_, rfl, rfl⟩) (Nat.le_of_ble_eq_true rfl) ?_
  show GG l cX2_numberAt MX2_numberAt false (.inl ((some (.int (nI (s_nm t n i)))), Ω g n)) 0 [some (.ref tp), some (.int (nI (i))), none] [] (Ω g n) 0 0
  refine G_aload_n dX2_numberAt_0 rfl ?_
  refine G_iload_n dX2_numberAt_1 rfl ?_
  refine G_callVi dX2_numberAt_2 kX2_numberAt_X2_signAt ⟨rfl, rfl⟩ ⟨Nat.zero_le _, Nat.zero_le _⟩ (c_signAt hΩ hX (i := i) (by omega)) rfl rfl ((hΩ _ _).1) rfl rfl ?_
  refine G_bipush (v := 9) dX2_numberAt_5 (by decide) ?_
  have hsl := sg_le hX i
  refine G_callSi dX2_numberAt_7 kX2_numberAt_X2_isDigit ⟨rfl, rfl⟩ ⟨Nat.zero_le _, Nat.zero_le _⟩ (c_isDigit (c := (sg t n i)) (h := 9) (by omega)) rfl rfl rfl ?_
  have hsl := sg_le hX i
  have hdb : dgt (sg t n i) 9 < 2 := by unfold dgt; split <;> omega
  refine G_if_neN (a := (dgt (sg t n i) 9)) 15 dX2_numberAt_10 (by decide) (by omega) (fun c10 => ?_) (fun c10 => ?_)
  · have h48 : 48 ≤ sg t n i := by unfold dgt at c10; split at c10 <;> omega
    refine G_aload_n dX2_numberAt_15 rfl ?_
    refine G_iload_n dX2_numberAt_16 rfl ?_
    refine G_callVi dX2_numberAt_17 kX2_numberAt_X2_signAt ⟨rfl, rfl⟩ ⟨Nat.zero_le _, Nat.zero_le _⟩ (c_signAt hΩ hX (i := i) (by omega)) rfl rfl ((hΩ _ _).1) rfl rfl ?_
    refine G_bipush (v := 48) dX2_numberAt_20 (by decide) ?_
    refine G_isubN (a := (sg t n i)) (c := 48) (s := (((sg t n i)) - 48)) dX2_numberAt_22 (by omega) ?_
    refine G_istore_n dX2_numberAt_23 rfl (L' := [some (.ref tp), some (.int (nI (i))), some (.int (nI ((((sg t n i)) - 48))))]) rfl ?_
    refine G_aload_n dX2_numberAt_24 rfl ?_
    refine G_iload_n dX2_numberAt_25 rfl ?_
    refine G_iconst (v := 1) dX2_numberAt_26 (by decide) ?_
    refine G_iaddN (a := i) (c := 1) (s := i + 1) dX2_numberAt_27 (by omega) ?_
    refine G_callVi dX2_numberAt_28 kX2_numberAt_X2_signAt ⟨rfl, rfl⟩ ⟨Nat.zero_le _, Nat.zero_le _⟩ (c_signAt hΩ hX (i := i + 1) (by omega)) rfl rfl ((hΩ _ _).1) rfl rfl ?_
    refine G_bipush (v := 9) dX2_numberAt_31 (by decide) ?_
    have hsl2 := sg_le hX (i + 1)
    refine G_callSi dX2_numberAt_33 kX2_numberAt_X2_isDigit ⟨rfl, rfl⟩ ⟨Nat.zero_le _, Nat.zero_le _⟩ (c_isDigit (c := (sg t n (i + 1))) (h := 9) (by omega)) rfl rfl rfl ?_
    have hsl2 := sg_le hX (i + 1)
    have hdb2 : dgt (sg t n (i + 1)) 9 < 2 := by unfold dgt; split <;> omega
    refine G_if_eqN (a := (dgt (sg t n (i + 1)) 9)) 57 dX2_numberAt_36 (by decide) (by omega) (fun c36 => ?_) (fun c36 => ?_)
    · refine G_iload_n dX2_numberAt_57 rfl ?_
      exact G_iret dX2_numberAt_58 ⟨Nat.zero_le _, Nat.zero_le _⟩ (X_i (congrArg nI (by unfold s_nm; rw [if_neg (by omega), if_pos c36])))
    · have h482 : 48 ≤ sg t n (i + 1) := by unfold dgt at c36; split at c36 <;> omega
      refine G_bipush (v := 10) dX2_numberAt_39 (by decide) ?_
      refine G_iload_n dX2_numberAt_41 rfl ?_
      refine G_imulN (a := 10) (c := (((sg t n i)) - 48)) (s := 10 * (((sg t n i)) - 48)) dX2_numberAt_42 (by omega) ?_
      refine G_aload_n dX2_numberAt_43 rfl ?_
      refine G_iload_n dX2_numberAt_44 rfl ?_
      refine G_iconst (v := 1) dX2_numberAt_45 (by decide) ?_
      refine G_iaddN (a := i) (c := 1) (s := i + 1) dX2_numberAt_46 (by omega) ?_
      refine G_callVi dX2_numberAt_47 kX2_numberAt_X2_signAt ⟨rfl, rfl⟩ ⟨Nat.zero_le _, Nat.zero_le _⟩ (c_signAt hΩ hX (i := i + 1) (by omega)) rfl rfl ((hΩ _ _).1) rfl rfl ?_
      refine G_iaddN (a := 10 * (((sg t n i)) - 48)) (c := (sg t n (i + 1))) (s := 10 * (((sg t n i)) - 48) + (sg t n (i + 1))) dX2_numberAt_50 (by omega) ?_
      refine G_bipush (v := 48) dX2_numberAt_51 (by decide) ?_
      refine G_isubN (a := 10 * (((sg t n i)) - 48) + (sg t n (i + 1))) (c := 48) (s := ((10 * (((sg t n i)) - 48) + (sg t n (i + 1))) - 48)) dX2_numberAt_53 (by omega) ?_
      refine G_goto 58 dX2_numberAt_54 (by decide) ?_
      exact G_iret dX2_numberAt_58 ⟨Nat.zero_le _, Nat.zero_le _⟩ (X_i (congrArg nI (by unfold s_nm; rw [if_neg (by omega), if_neg (by omega)])))
  · refine G_iconst (v := 0) dX2_numberAt_13 (by decide) ?_
    exact G_iret dX2_numberAt_14 ⟨Nat.zero_le _, Nat.zero_le _⟩ (X_i (by unfold s_nm; rw [if_pos c10]; rfl))
end TT
