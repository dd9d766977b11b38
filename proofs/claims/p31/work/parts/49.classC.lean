/-! THE CLASS: the sum of all it tells -/
def s_rt1 (q f : mj_S) (h : Nat) (_ : mj_S) : mj_S := itr (s_btr1 q f 0 h) 4 0 (row q (s_und h 201 f))
theorem nest45 (G : Nat → Nat → Int64 → Int64) (a : Int64) : itr (fun k a => G (k / 5) (k % 5) a) 20 0 a = itr (fun b a => itr (fun k a => G b k a) 5 0 a) 4 0 a := rfl
theorem nest64 (G : Nat → Nat → Int64 → Int64) (a : Int64) : itr (fun k a => G (k / 4) (k % 4) a) 24 0 a = itr (fun c a => itr (fun k a => G c k a) 4 0 a) 6 0 a := rfl
section XC
variable {l : Launch} {xp lp ap tp up hp rp kp sp yp zp : Nat} {Ω : CT}
theorem x_countA (hΩ : CV xp lp ap tp up hp rp kp sp yp zp Ω) {q f rt R R1 g : mj_S} {T m T1 m1 n : Nat} {k : Nat} (hk : k < 13) : MC l yX3_count wsX3_count rmX3_count false [.ref xp, .int (nI (k))] (Ω (row q f) rt R T m R1 T1 m1 g n) (some (.int (s_ofC f m k))) (Ω (row q f) rt R T m R1 T1 m1 g n) := by
  unfold s_ofC
  by_cases h : k = 12
  · subst h; rw [if_pos rfl]; exact x_count12 hΩ
  · rw [if_neg h]; exact x_count hΩ (by omega)
end XC
