def k_fg (M : gj_M) : gj_M := gj_u (gj_cp M 36 36 5 0 65) 35 0 13
def k_pt (M : gj_M) (kd w a b c : Int) : gj_M := gj_u (gj_u (gj_u (gj_u (gj_u (gj_u M 36 (M 35 0 * 5) kd) 36 (M 35 0 * 5 + 1) w) 36 (M 35 0 * 5 + 2) a) 36 (M 35 0 * 5 + 3) b) 36 (M 35 0 * 5 + 4) c) 35 0 (M 35 0 + 1)
def k_ad (M : gj_M) (kd w a b c : Int) : gj_M := if M 35 0 < 14 then k_pt M kd w a b c else k_pt (k_fg M) kd w a b c
/-- a setting as it was before an act of a kind, done to whom, with what was told then -/
def k_in (M : gj_M) (kd w a b c : Int) : gj_M := if kd = 0 then gj_u (gj_u M 16 w a) 17 w b else if kd = 1 then gj_u M 18 w a else if kd = 2 then gj_u (gj_u (gj_u M 19 w a) 20 w b) 21 w c else if kd = 3 then gj_u M 15 6 (M 15 6 - 1) else gj_u (gj_u (gj_u M 22 (M 15 6) a) 23 (M 15 6) b) 15 6 (M 15 6 + 1)
def k_bk (M : gj_M) : gj_M := k_in (gj_u M 35 0 (M 35 0 - 1)) (M 36 ((M 35 0 - 1) * 5)) (M 36 ((M 35 0 - 1) * 5 + 1)) (M 36 ((M 35 0 - 1) * 5 + 2)) (M 36 ((M 35 0 - 1) * 5 + 3)) (M 36 ((M 35 0 - 1) * 5 + 4))
def k_ok (M : gj_M) (kd w : Int) : Prop := (kd = 0 ∧ 0 ≤ w ∧ w < 6) ∨ (kd = 1 ∧ 0 ≤ w ∧ w < 4) ∨ (kd = 2 ∧ 0 ≤ w ∧ w < 5) ∨ (kd = 3 ∧ 1 ≤ M 15 6) ∨ (kd = 4 ∧ 0 ≤ M 15 6 ∧ M 15 6 < 4)
def g_ad (M : gj_M) (f c v : Int) : gj_M := gj_u (gj_u (gj_u (gj_u M 38 (M 37 0) f) 39 (M 37 0) c) 40 (M 37 0) v) 37 0 (M 37 0 + 1)
def g_al (M : gj_M) (d : Int) : Nat → Nat → Int
  | 0, _ => 1
  | n + 1, i => if c_seen M (M 38 i) (M 39 i) d = M 40 i then g_al M d n (i + 1) else 0
theorem g_al_01 (M : gj_M) (d : Int) : ∀ n i, g_al M d n i = 0 ∨ g_al M d n i = 1 := by
  intro n
  induction n with
  | zero => intro i; exact Or.inr rfl
  | succ n ih => intro i; simp only [g_al]; split
                 · exact ih _
                 · exact Or.inl rfl
def b_tp (M : gj_M) : Nat → gj_M
  | 0 => M
  | n + 1 => gj_u (gj_u (gj_u (b_tp M n) 19 n 0) 20 n 0) 21 n 1
def b_bg (M : gj_M) : gj_M := gj_u (b_tp (p_clr (gj_cp (gj_cp M 11 16 0 0 6) 12 17 0 0 6) 18 4) 5) 15 6 0
/-- a setting is as another one -/
def b_cp (M : gj_M) (t u : Nat) : gj_M :=
  let M8 := gj_cp (gj_cp (gj_cp (gj_cp (gj_cp (gj_cp (gj_cp (gj_cp M (u + 1) (t + 1) 0 0 6) (u + 2) (t + 2) 0 0 6) (u + 3) (t + 3) 0 0 4) (u + 4) (t + 4) 0 0 5) (u + 5) (t + 5) 0 0 5) (u + 6) (t + 6) 0 0 5) (u + 7) (t + 7) 0 0 4) (u + 8) (t + 8) 0 0 4
  gj_u M8 t 6 (M u 6)
def b_rc (M : gj_M) : gj_M := gj_cp (gj_cp (gj_cp (gj_cp (gj_u (gj_u M 10 0 (M 3 0)) 10 1 (M 3 1)) 4 11 0 0 6) 5 12 0 0 6) 6 13 0 0 4) 7 14 0 0 192
