theorem c_eq.sd {M : gj_M} {v : Int} : c_eq M (gj_u M 5000 12 v) := by
  intro h hh
  funext i
  refine gj_u_o (fun q => ?_)
  subst q
  revert hh
  decide
/-- a doing: whether it can be; the setting behind it -/
def j_ok (M : gj_M) (q : Int) : Int :=
  if q / 1000 = 1 then (if q / 10 % 10 = 0 ∧ 0 ≤ q / 100 % 10 ∧ q / 100 % 10 < M 10 1 then 1 else 0)
  else if q / 1000 = 2 then (if q / 10 % 100 < 48 ∧ q % 10 < M 10 1 ∧ c_ex M (q % 10) (q / 10 % 100) ≠ -9 then 1 else 0)
  else if q / 1000 = 3 then (if q / 10 % 100 < 48 ∧ c_seen M (q / 10 % 100) (q % 10) (-1) ≠ -9 then 1 else 0)
  else if q / 1000 = 4 then (if q / 100 % 10 < M 10 0 ∧ 1 ≤ q % 10 ∧ q % 10 ≤ 5 then 1 else 0)
  else if q / 1000 = 5 then (if q / 100 % 10 = 0 ∧ c_cels M = q % 100 then 1 else 0)
  else if q / 1000 = 6 then (if q / 10 % 100 < 48 ∧ q % 10 < M 10 1 ∧ p_li (M 10 1) (c_ord M (q / 10 % 100)) 0 = q % 10 then 1 else 0)
  else if q / 1000 = 7 then (if q = 7000 ∧ 1 ≤ M 15 6 then 1 else 0) else 0
def j_do (M : gj_M) (q : Int) : gj_M :=
  if j_ok M q = 0 then M
  else if q / 1000 = 1 then gj_u M 18 (q / 100 % 10) (q % 10)
  else if q / 1000 = 4 then gj_u (gj_u M 16 (q / 100 % 10) (q / 10 % 10)) 17 (q / 100 % 10) (q % 10)
  else if q / 1000 = 7 then gj_u M 15 6 (M 15 6 - 1) else M
theorem j_ok_01 (M : gj_M) (q : Int) : j_ok M q = 0 ∨ j_ok M q = 1 := by
  unfold j_ok
  split
  · split <;> simp
  split
  · split <;> simp
  split
  · split <;> simp
  split
  · split <;> simp
  split
  · split <;> simp
  split
  · split <;> simp
  split
  · split <;> simp
  simp
theorem c_I.xw {M : gj_M} (hI : c_I M) {d x w : Int} (hx : 0 ≤ x ∧ x ≤ 9) (hw : 0 ≤ w ∧ w ≤ 5) : c_I (gj_u (gj_u M 16 d x) 17 d w) := by
  obtain ⟨h1, h2, h3, h4, h5, h6, h7, h8⟩ := hI
  refine ⟨h1, h2, h3, h4, h5, fun d' h0 h6' => ?_, h7, h8⟩
  have := h6 d' h0 h6'
  constructor
  · show 0 ≤ gj_u (gj_u M 16 d x) 17 d w 16 d' ∧ gj_u (gj_u M 16 d x) 17 d w 16 d' ≤ 9
    rw [gj_u_o (by decide)]
    unfold gj_u
    split
    · exact hx
    · exact this.1
  · show 0 ≤ gj_u (gj_u M 16 d x) 17 d w 17 d' ∧ gj_u (gj_u M 16 d x) 17 d w 17 d' ≤ 5
    by_cases q : d' = d
    · rw [q, gj_u_s]; exact hw
    · rw [gj_u_i q, gj_u_i q]; exact this.2
theorem c_I.ds {M : gj_M} (hI : c_I M) (hs : 1 ≤ M 15 6) : c_I (gj_u M 15 6 (M 15 6 - 1)) := by
  obtain ⟨h1, h2, h3, h4, h5, h6, h7, h8⟩ := hI
  refine ⟨h1, h2, ?_, h4, h5, h6, fun k h0 hk => h7 k h0 ?_, h8⟩
  · show 0 ≤ M 15 6 - 1 ∧ M 15 6 - 1 ≤ 4
    omega
  · have : k < M 15 6 - 1 := hk
    omega
theorem j_do_I {M : gj_M} (hI : c_I M) {q : Int} (hq : 0 ≤ q ∧ q < 10000) : c_I (j_do M q) := by
  unfold j_do
  split
  · exact hI
  next hk =>
  have h01 := j_ok_01 M q
  have hk1 : j_ok M q = 1 := by omega
  split
  · exact hI.dl (by omega)
  split
  · next h4 =>
    refine hI.xw (by omega) ?_
    unfold j_ok at hk1
    rw [if_neg (by omega), if_neg (by omega), if_neg (by omega), if_pos h4] at hk1
    split at hk1 <;> omega
  split
  · next h7 =>
    refine hI.ds ?_
    unfold j_ok at hk1
    rw [if_neg (by omega), if_neg (by omega), if_neg (by omega), if_neg (by omega), if_neg (by omega), if_neg (by omega), if_pos h7] at hk1
    split at hk1 <;> omega
  · exact hI
/-- n doings are left, unit tells which comes next -/
def j_run (M : gj_M) (row : Int) : Nat → Nat → Int
  | 0, _ => -9
  | n + 1, i => if j_ok M (row / (10000 ^ n) % 10000) = 0 then i else j_run (j_do M (row / (10000 ^ n) % 10000)) row n (i + 1)
theorem j_do_E (M : gj_M) (q : Int) : gj_E [15, 16, 17, 18] M (j_do M q) := by
  unfold j_do
  split
  · exact gj_E.rf
  split
  · exact gj_E.u (by decide)
  split
  · exact (gj_E.u (by decide)).u2 (by decide)
  split
  · exact gj_E.u (by decide)
  · exact gj_E.rf
theorem c_eq.run {row : Int} : ∀ (n i : Nat) (M M1 : gj_M), c_eq M M1 → j_run M1 row n i = j_run M row n i := by
  intro n
  induction n with
  | zero => intro i M M1 _; rfl
  | succ n ih =>
    intro i M M1 h
    have eo : ∀ q, j_ok M1 q = j_ok M q := by
      intro q
      unfold j_ok
      rw [h.ex, h.seen, h.cels, h.ord, h 10 (by decide), h 15 (by decide)]
    simp only [j_run]
    rw [eo]
    split
    · rfl
    · apply ih
      intro x hx
      unfold j_do
      rw [eo]
      split
      · exact h x hx
      split
      · funext j; unfold gj_u; rw [h x hx]
      split
      · funext j; unfold gj_u; rw [h x hx]
      split
      · rw [h 15 (by decide)]; funext j; unfold gj_u; rw [h x hx]
      · exact h x hx
def x_judge (M : gj_M) (n row : Int) : Int := if n < 1 ∨ 4 < n ∨ row < 0 ∨ 10000 ^ n.toNat ≤ row then -2 else j_run M row n.toNat 0
