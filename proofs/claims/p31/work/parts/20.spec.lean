/-! WHAT THE METHODS COMPUTE: plain functions over the state, a row of numbers in the reference's order -/
abbrev mj_S : Type := Nat → Int32
def itr {α : Type} (g : Nat → α → α) : Nat → Nat → α → α
  | 0, _, a => a
  | d + 1, c, a => itr g d (c + 1) (g c a)
theorem itr_0 {α : Type} (g : Nat → α → α) (c : Nat) (a : α) : itr g 0 c a = a := rfl
theorem itr_s {α : Type} (g : Nat → α → α) (d c : Nat) (a : α) : itr g (d + 1) c a = itr g d (c + 1) (g c a) := rfl
theorem itr_inv {α : Type} {g : Nat → α → α} (I : Nat → α → Prop) (h : ∀ c a, I c a → I (c + 1) (g c a)) : ∀ d c a, I c a → I (c + d) (itr g d c a)
  | 0, _, _, h0 => h0
  | d + 1, c, a, h0 => by
    rw [itr_s, show c + (d + 1) = (c + 1) + d by omega]
    exact itr_inv I h d (c + 1) (g c a) (h c a h0)
theorem itr_last {α : Type} (g : Nat → α → α) : ∀ d c a, itr g (d + 1) c a = g (c + d) (itr g d c a)
  | 0, _, _ => rfl
  | d + 1, c, a => by
    rw [itr_s, itr_last g d (c + 1) (g c a), itr_s, show c + 1 + d = c + (d + 1) by omega]
theorem itr_congr {α : Type} {g g' : Nat → α → α} : ∀ (d c : Nat) (a : α), (∀ k, c ≤ k → k < c + d → ∀ x, g k x = g' k x) → itr g d c a = itr g' d c a
  | 0, _, _, _ => rfl
  | d + 1, c, a, h => by
    rw [itr_s, itr_s, h c (Nat.le_refl _) (by omega) a]
    exact itr_congr d (c + 1) _ (fun k h1 h2 x => h k (by omega) (by omega) x)
def mn (a b : Int32) : Int32 := if b < a then b else a
theorem mn_flip (a b : Int32) : (if a < b then a else b) = mn a b := by
  unfold mn
  by_cases h1 : a < b <;> by_cases h2 : b < a <;> simp only [h1, h2, if_true, if_false]
  · exact absurd (Int32.lt_trans h1 h2) Int32.lt_irrefl
  · exact Int32.le_antisymm (Int32.not_lt.mp h1) (Int32.not_lt.mp h2)
/-- the class's row: four more numbers, the commons, behind the 53rd -/
def row (q f : mj_S) : mj_S := fun k => if k < 53 then f k else if k < 57 then q (k - 53) else f (k - 4)
theorem row_lo {q f : mj_S} {j : Nat} (h : j < 53) : row q f j = f j := by simp [row, h]
theorem row_hi {q f : mj_S} {j j' : Nat} (e : j = j' + 4) (h : 53 ≤ j') : row q f j = f j' := by
  subst e; simp only [row]; rw [if_neg (by omega), if_neg (by omega)]; congr 1
theorem row_q {q f : mj_S} {j i : Nat} (e : j = 53 + i) (h : i < 4) : row q f j = q i := by
  subst e; simp only [row]; rw [if_neg (by omega), if_pos (by omega)]; congr 1; omega
theorem row_put_lo {q f : mj_S} {j : Nat} {v : Int32} (h : j < 53) : upd (row q f) j v = row q (upd f j v) := by
  funext k
  simp only [upd, row]
  by_cases e : k = j
  · subst e; simp [h]
  · by_cases h1 : k < 53
    · simp [e, h1]
    · have : ¬ k - 4 = j ∨ k < 57 := by omega
      rcases this with h2 | h2
      · simp [e, h1, h2]
      · simp [e, h1, h2]
theorem row_put_hi {q f : mj_S} {j j' : Nat} {v : Int32} (e : j = j' + 4) (h : 53 ≤ j') : upd (row q f) j v = row q (upd f j' v) := by
  subst e
  funext k
  simp only [upd, row]
  by_cases e : k = j' + 4
  · subst e
    rw [if_pos rfl, if_neg (by omega), if_neg (by omega), if_pos (by omega)]
  · rw [if_neg e]
    by_cases h1 : k < 53
    · rw [if_pos h1, if_pos h1, if_neg (by omega)]
    · rw [if_neg h1, if_neg h1]
      by_cases h2 : k < 57
      · rw [if_pos h2, if_pos h2]
      · rw [if_neg h2, if_neg h2, if_neg (by omega)]
theorem row_put_q {q f : mj_S} {j i : Nat} {v : Int32} (e : j = 53 + i) (h : i < 4) : upd (row q f) j v = row (upd q i v) f := by
  subst e
  funext k
  simp only [upd, row]
  by_cases e : k = 53 + i
  · subst e
    rw [if_pos rfl, if_neg (by omega), if_pos (by omega), if_pos (by omega)]
  · rw [if_neg e]
    by_cases h1 : k < 53
    · rw [if_pos h1, if_pos h1]
    · rw [if_neg h1, if_neg h1]
      by_cases h2 : k < 57
      · rw [if_pos h2, if_pos h2, if_neg (by omega)]
      · rw [if_neg h2, if_neg h2]
theorem upd_s (f : mj_S) (j : Nat) (v : Int32) : upd f j v j = v := by simp [upd]
theorem upd_n {f : mj_S} {j k : Nat} {v : Int32} (h : k ≠ j) : upd f j v k = f k := by simp [upd, h]
theorem upd_id (f : mj_S) (j : Nat) : upd f j (f j) = f := by funext k; simp only [upd]; split <;> simp_all
theorem upd_comm {f : mj_S} {i j : Nat} {u v : Int32} (h : i ≠ j) : upd (upd f i u) j v = upd (upd f j v) i u := by
  funext k; simp only [upd]
  by_cases h1 : k = j
  · subst h1; rw [if_pos rfl, if_neg (by omega), if_pos rfl]
  · rw [if_neg h1]; by_cases h2 : k = i
    · subst h2; rw [if_pos rfl, if_pos rfl]
    · rw [if_neg h2, if_neg h2, if_neg h1]
theorem upd_upd (f : mj_S) (j : Nat) (u v : Int32) : upd (upd f j u) j v = upd f j v := by funext k; simp only [upd]; split <;> rfl
-- sums and counts
def s_sum (f : mj_S) (a n : Nat) : Int32 := itr (fun i x => x + f (a + i)) n 0 0
def s_cnt (f : mj_S) (h b : Int32) : Int32 := itr (fun c a => if f (139 + c) = h ∧ f (145 + c) = b then a + 1 else a) 6 0 0
def s_cntB (f : mj_S) (b : Int32) : Int32 := itr (fun h a => a + s_cnt f (nI h) b) 5 0 0
def s_cntA (f : mj_S) : Int32 := itr (fun b a => a + s_cntB f (nI b)) 4 0 0
def s_why (f : mj_S) (h b : Nat) : Int32 := if f (53 + b + 4 * h) = 0 then 1 else if f (53 + b + 4 * h) ≤ s_cnt f (nI h) (nI b) then 2 else if f (45 + b) = 0 then 3 else if f 1 = 1 then 4 else 0
def s_setw (f : mj_S) (c : Nat) (h b : Int32) : mj_S := upd (upd f (139 + c) h) (145 + c) b
def s_turn (f : mj_S) : mj_S := if 1 - f 1 = 1 then itr (fun c a => s_setw a c (-1) (-1)) 6 0 (upd f 1 (1 - f 1)) else upd f 1 (1 - f 1)
-- a day
def s_rain (f : mj_S) (d : Nat) : Nat := (7 * d + (f 2).toNatClampNeg) % 10
def s_cut (c : Nat) (f : mj_S) : mj_S :=
  if f (139 + c) = -1 then f else
    let h := (f (139 + c)).toNatClampNeg
    let b := (f (145 + c)).toNatClampNeg
    let m := mn (f (133 + c)) (f (45 + b))
    let f1 := upd f (45 + b) (f (45 + b) - m)
    let f2 := upd f1 (73 + b + 4 * h) (f1 (73 + b + 4 * h) + m)
    let f3 := upd f2 (20 + h) (f2 (20 + h) + m)
    upd f3 (151 + c) (f3 (151 + c) + m)
def s_cuts (f : mj_S) : mj_S := itr s_cut 6 0 f
def s_soak (p : Nat) (f : mj_S) : mj_S := upd (upd (upd f (113 + p) (f (113 + p) - (f (113 + p) + 1) / 2)) (93 + p) (f (93 + p) - (f (93 + p) + 1) / 2)) (73 + p) (f (73 + p) + ((f (113 + p) + 1) / 2 + (f (93 + p) + 1) / 2))
def s_dry (p : Nat) (f : mj_S) : mj_S := upd (upd (upd f (73 + p) (f (73 + p) - (f (73 + p) + 1) / 2)) (93 + p) (f (93 + p) - mn (f (93 + p) / 3 + 1) (f (93 + p)) + (f (73 + p) + 1) / 2)) (113 + p) (f (113 + p) + mn (f (93 + p) / 3 + 1) (f (93 + p)))
def s_wth (r : Nat) (f : mj_S) : mj_S := if 6 < r then itr s_soak 20 0 f else if r < 4 then itr s_dry 20 0 f else f
def s_poor (f : mj_S) : Int32 := itr (fun h a => if f (5 + h) = 1 ∧ (a = -1 ∨ f (15 + h) < f (15 + a.toNatClampNeg)) then nI h else a) 5 0 (-1)
def s_bring (f : mj_S) (h b : Nat) (m : Int32) : mj_S :=
  let f1 := upd f (113 + b + 4 * h) (f (113 + b + 4 * h) - m)
  let f2 := upd f1 (15 + h) (f1 (15 + h) + m)
  if f2 (5 + h) = 1 then f2 else if s_poor f2 = -1 then f2 else
    let g := m * f2 3 / 100
    let v := (s_poor f2).toNatClampNeg
    let f3 := upd f2 (15 + h) (f2 (15 + h) - g)
    let f4 := upd f3 (30 + h) (f3 (30 + h) + g)
    let f5 := upd f4 (15 + v) (f4 (15 + v) + g)
    upd f5 (25 + v) (f5 (25 + v) + g)
def s_cart1 (d b : Nat) (k : Nat) (p : mj_S × Int32) : mj_S × Int32 := (s_bring p.1 ((d + k) % 5) b (mn (p.1 (113 + b + 4 * ((d + k) % 5))) p.2), p.2 - mn (p.1 (113 + b + 4 * ((d + k) % 5))) p.2)
def s_cart (d : Nat) (b : Nat) (f : mj_S) : mj_S × Int32 := itr (s_cart1 d b) 5 0 (f, f (49 + b))
def s_carts1 (d : Nat) (b : Nat) (p : mj_S × Int32) : mj_S × Int32 := ((s_cart d b p.1).1, p.2 + (p.1 (49 + b) - (s_cart d b p.1).2))
def s_carts (d : Nat) (f : mj_S) : mj_S × Int32 := itr (s_carts1 d) 4 0 (f, 0)
def s_burn1 (h : Nat) (f : mj_S) : mj_S :=
  let m := mn (f 4) (f (15 + h))
  let f1 := upd f (15 + h) (f (15 + h) - m)
  let f2 := upd f1 (35 + h) (f1 (35 + h) + m)
  upd f2 (40 + h) (f2 (40 + h) + (f 4 - m))
def s_burn (f : mj_S) : mj_S := itr s_burn1 5 0 f
def s_day (f : mj_S) : mj_S × Int32 :=
  let f0 := upd f 0 (f 0 + 1)
  let d := (f0 0).toNatClampNeg
  if f 1 = 1 then (s_burn (s_wth 0 f0), 0) else s_carts d (s_wth (s_rain f0 d) (s_cuts f0))
def s_days1 (_ : Nat) (p : mj_S × Int32) : mj_S × Int32 := ((s_day p.1).1, p.2 + (s_day p.1).2)
def s_days (n : Nat) (f : mj_S) : mj_S × Int32 := itr s_days1 n 0 (f, 0)
-- looks
def s_tv (f : mj_S) (p : Nat) : Int32 := f (73 + p) + f (93 + p) + f (113 + p)
def s_tvH (f : mj_S) (h : Nat) : Int32 := itr (fun b a => a + s_tv f (b + 4 * h)) 4 0 0
def s_tvB (f : mj_S) (b : Nat) : Int32 := itr (fun h a => a + s_tv f (b + 4 * h)) 5 0 0
def s_tvA (f : mj_S) : Int32 := itr (fun p a => a + s_tv f p) 20 0 0
def mx0 (v : Int32) : Int32 := if v < 0 then 0 else v
def s_sh (f : mj_S) (h : Nat) : Int32 := mx0 (f (10 + h) - f (15 + h))
def s_sh2 (f : mj_S) (h : Nat) : Int32 := mx0 (f (10 + h) - f (15 + h) - s_tvH f h)
def s_sh3 (f : mj_S) (h : Nat) : Int32 := mx0 (f (10 + h) - (f (20 + h) + f (25 + h) - f (30 + h) - f (35 + h)))
def s_shs (f : mj_S) : Int32 := itr (fun h a => if 0 < s_sh f h then a + 1 else a) 5 0 0
def s_shs2 (f : mj_S) : Int32 := itr (fun h a => if 0 < s_sh2 f h then a + 1 else a) 5 0 0
def s_ofH (f : mj_S) (h : Nat) : Nat → Int32
  | 0 => f (5 + h)
  | 1 => f (10 + h)
  | 2 => f (15 + h)
  | 3 => s_tvH f h
  | 4 => s_sh f h
  | 5 => s_sh2 f h
  | 6 => s_sh3 f h
  | 7 => f (20 + h)
  | 8 => f (25 + h)
  | 9 => f (30 + h)
  | 10 => f (35 + h)
  | _ => f (40 + h)
/-- q: what the commons of each bank are -/
def s_ofB (q f : mj_S) (b : Nat) : Nat → Int32
  | 0 => f (45 + b)
  | 1 => f (49 + b)
  | 2 => q b
  | 3 => s_cntB f (nI b)
  | _ => s_tvB f b
def s_ofP (f : mj_S) (h b : Nat) : Nat → Int32
  | 0 => f (53 + b + 4 * h)
  | 1 => f (73 + b + 4 * h)
  | 2 => f (93 + b + 4 * h)
  | 3 => f (113 + b + 4 * h)
  | _ => s_cnt f (nI h) (nI b)
def s_ofA (f : mj_S) : Nat → Int32
  | 0 => f 0
  | 1 => f 1
  | 2 => s_cntA f
  | 3 => s_sum f 45 4
  | 4 => s_tvA f
  | 5 => s_sum f 15 5
  | 6 => s_sum f 35 5
  | 7 => s_shs f
  | 8 => s_shs2 f
  | 9 => f 2
  | 10 => f 3
  | _ => f 4
