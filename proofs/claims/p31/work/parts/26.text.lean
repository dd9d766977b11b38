/-! TEXT: the buffer, and what works as a text are -/
def dgt (c h : Nat) : Nat := if 48 ≤ c ∧ c ≤ 48 + h then 1 else 0
def s_ep (r : Nat) : Nat := if r = 10 ∨ r = 8 ∨ r = 9 then 1 else 0
def s_bp (c : Nat) : Nat := if c = 99 then 1 else if c = 114 then 6 else if c = 43 then 7 else if c = 42 then 10 else 11
def s_bd (c : Nat) : Nat := if c = 48 ∨ dgt c 9 = 0 then 11 else if c = 54 then 9 else if c < 54 then 8 else 10
def s_dm (r c : Nat) : Nat := match r with
  | 0 => s_bp c
  | 1 => if dgt c 5 = 1 then 2 else 11
  | 2 => if c = 62 then 3 else 11
  | 3 => if dgt c 4 = 1 then 4 else 11
  | 4 => if c = 47 then 5 else 11
  | 5 => if dgt c 3 = 1 then 10 else 11
  | 6 => if dgt c 5 = 1 then 10 else 11
  | 7 => s_bd c
  | 8 => if dgt c 9 = 1 then 10 else 11
  | 9 => if c = 48 then 10 else 11
  | _ => 11
def dn (r c : Nat) : Nat := if s_ep r = 1 ∧ c = 59 then 0 else s_dm r c
theorem s_bp_le (c : Nat) : s_bp c ≤ 11 := by unfold s_bp; repeat' split
                                              all_goals omega
theorem s_bd_le (c : Nat) : s_bd c ≤ 11 := by unfold s_bd; repeat' split
                                              all_goals omega
theorem dn_le (r c : Nat) : dn r c ≤ 11 := by
  unfold dn
  split
  · omega
  · unfold s_dm
    split <;> first | exact s_bp_le c | exact s_bd_le c | (split <;> omega) | omega
def sg (t : Nat → Nat) (n i : Nat) : Nat := if i < n then t i else 32
def s_rs (t : Nat → Nat) : Nat → Nat → Nat → Nat
  | 0, i, _ => i
  | d + 1, i, r => if dn r (t i) = 11 then i else s_rs t d (i + 1) (dn r (t i))
def s_fd (t : Nat → Nat) : Nat → Nat → Nat → Nat
  | 0, _, r => r
  | d + 1, i, r => s_fd t d (i + 1) (dn r (t i))
def s_pb (t : Nat → Nat) (n i : Nat) : Nat := if i = 0 ∨ sg t n (i - 1) = 59 then 1 else 0
def s_nm (t : Nat → Nat) (n i : Nat) : Nat := if dgt (sg t n i) 9 = 0 then 0 else if dgt (sg t n (i + 1)) 9 = 0 then sg t n i - 48 else 10 * (sg t n i - 48) + sg t n (i + 1) - 48
/-- the buffer: n signs, t of them, each 33 to 126 -/
def TX (g : mj_S) (n : Nat) (t : Nat → Nat) : Prop := n ≤ 60 ∧ ∀ i, i < n → g i = nI (t i) ∧ 33 ≤ t i ∧ t i ≤ 126
theorem sg_le {g : mj_S} {n : Nat} {t : Nat → Nat} (h : TX g n t) (i : Nat) : sg t n i ≤ 126 ∧ 32 ≤ sg t n i := by
  unfold sg
  split
  · rename_i hi; have := h.2 i hi; omega
  · omega
def TV (tp sp : Nat) (Ω : mj_S → Nat → mj_W) : Prop := ∀ g n, (Ω g n)[tp]? = some (.inr (2, [.ref sp, .int (nI n)])) ∧ (Ω g n)[sp]? = some (.inl (.char, (60, .inl g))) ∧ (∀ n', (Ω g n).set tp (.inr (2, [.ref sp, .int (nI n')])) = Ω g n') ∧ ∀ g', (Ω g n).set sp (.inl (.char, (60, .inl g'))) = Ω g' n
section TT
variable {l : Launch} {tp sp : Nat} {Ω : mj_S → Nat → mj_W}
theorem look4 {c : Nat} (h1 : ¬ c = 42) (h2 : ¬ c = 43) (h3 : ¬ c = 99) (h4 : ¬ c = 114) : Op.lookupswitch.offset #[((42 : Int), (51 : Int)), (43, 48), (99, 43), (114, 45)].toList 54 (c : Int) = 54 := by
  have e1 : ¬ (42 : Int) = c := by omega
  have e2 : ¬ (43 : Int) = c := by omega
  have e3 : ¬ (99 : Int) = c := by omega
  have e4 : ¬ (114 : Int) = c := by omega
  simp [Op.lookupswitch.offset, e1, e2, e3, e4]
theorem s_fd_le (t : Nat → Nat) : ∀ d i r, r ≤ 11 → s_fd t d i r ≤ 11
  | 0, _, _, h => h
  | d + 1, i, r, _ => s_fd_le t d (i + 1) _ (dn_le _ _)
end TT
