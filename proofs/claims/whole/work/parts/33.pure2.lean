def p_clr (M : gj_M) (h : Nat) : Nat → gj_M
  | 0 => M
  | n + 1 => gj_u (p_clr M h n) h n 0
theorem p_clr_o {M : gj_M} {h h' : Nat} (hne : h' ≠ h) (i : Int) : ∀ n, p_clr M h n h' i = M h' i := by
  intro n
  induction n with
  | zero => rfl
  | succ n ih => simp only [p_clr]; rw [gj_u_o hne, ih]
theorem p_clr_i {M : gj_M} {h : Nat} {i : Int} : ∀ n : Nat, 0 ≤ i → i < n → p_clr M h n h i = 0 := by
  intro n
  induction n with
  | zero => intro h0 h1; omega
  | succ n ih =>
    intro h0 h1
    simp only [p_clr]
    by_cases q : i = n
    · rw [q]; exact gj_u_s
    · rw [gj_u_i q]; exact ih h0 (by omega)
def p_ct (M : gj_M) (d : Int) : gj_M := if 0 ≤ d ∧ d < 6 then gj_u (gj_u M 33 d (M 33 d + 1)) 34 d (max (M 34 d) (M 33 d + 1)) else M
/-- how many levels have a drawing exposed at a frame; the most over the first frames -/
def p_cn (ex : Int → Int → Int) (L : Nat) (d : Int) (f : Nat) : Int := p_sum (fun l : Nat => if ex l f = d then 1 else 0) L
def p_mo (ex : Int → Int → Int) (L : Nat) (d : Int) : Nat → Int
  | 0 => 0
  | n + 1 => max (p_mo ex L d n) (p_cn ex L d n)
theorem p_cn_b (ex : Int → Int → Int) (L : Nat) (d : Int) (f : Nat) : 0 ≤ p_cn ex L d f ∧ p_cn ex L d f ≤ L := by
  have := p_sum_b (g := fun l : Nat => if ex l f = d then (1 : Int) else 0) (m := 1) L (fun i _ => by split <;> omega)
  unfold p_cn
  omega
theorem p_mo_b (ex : Int → Int → Int) (L : Nat) (d : Int) : ∀ n, 0 ≤ p_mo ex L d n ∧ p_mo ex L d n ≤ L := by
  intro n
  induction n with
  | zero => simp [p_mo]
  | succ n ih =>
    have := p_cn_b ex L d n
    simp only [p_mo]
    omega
def p_cels (ex : Int → Int → Int) (L D : Nat) : Int := p_sum (fun d : Nat => p_mo ex L d 48) D
def c_mo (M : gj_M) (d : Int) : Int := p_mo (c_ex M) (M 10 1).toNat d 48
def c_cels (M : gj_M) : Int := p_cels (c_ex M) (M 10 1).toNat (M 10 0).toNat
/-- differs what is seen: 1 or 0 -/
def p_df (s t : Nat → Int) : Nat → Int
  | 0 => 0
  | n + 1 => if p_df s t n ≠ 0 ∨ s n ≠ t n then 1 else 0
theorem p_df_01 (s t : Nat → Int) : ∀ n, p_df s t n = 0 ∨ p_df s t n = 1 := by
  intro n
  cases n with
  | zero => exact Or.inl rfl
  | succ n => simp only [p_df]; split <;> simp
def c_chg (M : gj_M) : Nat → Int
  | 0 => 0
  | n + 1 => c_chg M n + p_df (fun c : Nat => c_seen M ((n : Int) + 1) c (-1)) (fun c : Nat => c_seen M n c (-1)) 10
theorem c_eq.mo {M M1 : gj_M} (h : c_eq M M1) (d : Int) : c_mo M1 d = c_mo M d := by
  unfold c_mo
  have e : c_ex M1 = c_ex M := by funext l f; exact h.ex l f
  rw [e, h 10 (by decide)]
theorem c_eq.cels {M M1 : gj_M} (h : c_eq M M1) : c_cels M1 = c_cels M := by
  unfold c_cels
  have e : c_ex M1 = c_ex M := by funext l f; exact h.ex l f
  rw [e, h 10 (by decide)]
def c_sh (M : gj_M) (l : Int) (f c : Nat) : Int := if c_cw M l f c = 1 then 12 / c_lc M f c else 0
def c_share (M : gj_M) (l : Int) : Int := p_sum (fun f => p_sum (fun c => c_sh M l f c) 10) 24
