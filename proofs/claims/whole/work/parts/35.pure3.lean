theorem gj_in32 (x : Int32) : gj_in x.toInt := by
  have h1 := Int32.le_toInt x
  have h2 := Int32.toInt_lt x
  exact ⟨by omega, by omega⟩
def p_bl (cost : Nat → Int) : Nat → Int
  | 0 => 0
  | n + 1 => if n = 0 ∨ cost n < p_bl cost n then cost n else p_bl cost n
def p_bb (cost : Nat → Int) : Nat → Int
  | 0 => 0
  | n + 1 => if n = 0 ∨ cost n < p_bl cost n then n else p_bb cost n
def c_best (M : gj_M) (l : Int) : Int := p_bb (fun v : Nat => c_cels (gj_u M 18 l v)) 10
theorem c_I.dl {M : gj_M} (hI : c_I M) {l v : Int} (hv : 0 ≤ v ∧ v ≤ 9) : c_I (gj_u M 18 l v) := by
  obtain ⟨h1, h2, h3, h4, h5, h6, h7, h8⟩ := hI
  refine ⟨h1, h2, h3, fun l' h0 h4' => ⟨?_, (h4 l' h0 h4').2⟩, h5, h6, h7, h8⟩
  show 0 ≤ gj_u M 18 l v 18 l' ∧ gj_u M 18 l v 18 l' ≤ 9
  unfold gj_u
  split
  · exact hv
  · exact (h4 l' h0 h4').1
theorem p_df_congr {s t s' t' : Nat → Int} : ∀ n, (∀ i, i < n → s i = s' i ∧ t i = t' i) → p_df s t n = p_df s' t' n := by
  intro n
  induction n with
  | zero => intro _; rfl
  | succ n ih =>
    intro h
    have h1 := h n (by omega)
    simp only [p_df]
    rw [ih (fun i hi => h i (by omega)), h1.1, h1.2]
theorem p_sum_congr {g g' : Nat → Int} : ∀ n, (∀ i, i < n → g i = g' i) → p_sum g n = p_sum g' n := by
  intro n
  induction n with
  | zero => intro _; rfl
  | succ n ih =>
    intro h
    simp only [p_sum]
    rw [ih (fun i hi => h i (by omega)), h n (by omega)]
theorem c_cels_b {M : gj_M} (hI : c_I M) : 0 ≤ c_cels M ∧ c_cels M ≤ 24 := by
  have hL := hI.1
  have hD := hI.2.1
  have := p_sum_b (g := fun d : Nat => p_mo (c_ex M) (M 10 1).toNat d 48) (m := 4) (M 10 0).toNat (fun i _ => by have := p_mo_b (c_ex M) (M 10 1).toNat i 48; omega)
  unfold c_cels p_cels
  omega
def p_met (L o : Int) : Nat → Int
  | 0 => 0
  | k + 1 => (Int32.ofInt (p_met L o k) ||| Int32.ofInt (Int32.ofInt 1 <<< (Int32.ofInt (p_li L o k) &&& 31)).toInt).toInt
def p_io (L o : Int) : Int := if 0 ≤ o ∧ o < gj_tens L.toNat ∧ p_met L o L.toNat = (Int32.ofInt 1 <<< (Int32.ofInt L &&& 31)).toInt - 1 then 1 else 0
theorem p_met_in (L o : Int) (k : Nat) : gj_in (p_met L o k) := by
  cases k with
  | zero => show gj_in 0; decide
  | succ k => exact gj_in32 _
