theorem p_pan_t (K : gj_M) (q s b e : Int) (he : 1 ≤ e) : p_pan (gj_u (gj_u (gj_u K 19 q s) 20 q b) 21 q e 19) (gj_u (gj_u (gj_u K 19 q s) 20 q b) 21 q e 20) (gj_u (gj_u (gj_u K 19 q s) 20 q b) 21 q e 21) q 47 = s + b * (47 / e) := by
  unfold p_pan
  rw [gj_u_s, gj_u_o (by decide), gj_u_o (by decide), gj_u_s, gj_u_o (by decide), gj_u_s, if_neg (by omega)]
theorem k_bk_sz (M : gj_M) : k_bk M 35 0 = M 35 0 - 1 := by
  unfold k_bk k_in
  split
  · rfl
  split
  · rfl
  split
  · rfl
  split <;> rfl
theorem gj_u_id (M : gj_M) (h : Nat) (i : Int) : gj_u M h i (M h i) = M := by
  funext h' i'
  unfold gj_u
  split
  · next q => rw [q.1, q.2]
  · rfl
theorem gj_u_u (M : gj_M) (h : Nat) (i a b : Int) : gj_u (gj_u M h i a) h i b = gj_u M h i b := by
  funext h' i'
  unfold gj_u
  split <;> rfl
theorem x_wh_in (M : gj_M) : ∀ k, gj_in (x_wh M k) := by
  intro k
  induction k with
  | zero => show gj_in 0; decide
  | succ k ih =>
    simp only [x_wh]
    split
    · exact ih
    · exact gj_in32 _
theorem e_cd_b : ∀ (n : Nat) (h l : Int), 0 ≤ h → 0 ≤ l → 0 ≤ e_cd n h l ∧ e_cd n h l ≤ max h l := by
  intro n
  induction n with
  | zero => intro h l h0 l0; simp only [e_cd]; omega
  | succ n ih =>
    intro h l h0 l0
    simp only [e_cd]
    split
    · omega
    · have h1 := Int.emod_nonneg h (show l ≠ 0 by omega)
      have h2 := Int.emod_lt_of_pos h (show 0 < l by omega)
      have := ih l (h % l) l0 h1
      omega
theorem e_v_b (x : Int) : 0 ≤ e_v x ∧ e_v x ≤ 2147483647 := by
  unfold e_v
  have h1 := Int.emod_nonneg x (by decide : (18446744073709551616 : Int) ≠ 0)
  have h2 := Int.emod_lt_of_pos x (by decide : (0 : Int) < 18446744073709551616)
  omega
theorem e_pw_b {x : Int} (hx : 0 ≤ x ∧ x ≤ 10) : ∀ n : Nat, n ≤ 4 → 0 ≤ e_pw x n ∧ e_pw x n ≤ 10000 := by
  intro n hn
  have h3 : x = 0 ∨ x = 1 ∨ x = 2 ∨ x = 3 ∨ x = 4 ∨ x = 5 ∨ x = 6 ∨ x = 7 ∨ x = 8 ∨ x = 9 ∨ x = 10 := by omega
  have h4 : n = 0 ∨ n = 1 ∨ n = 2 ∨ n = 3 ∨ n = 4 := by omega
  rcases h3 with h | h | h | h | h | h | h | h | h | h | h <;> rcases h4 with g | g | g | g | g <;> rw [h, g] <;> decide
theorem e_pw_le {x : Int} (hx : 0 ≤ x ∧ x ≤ 10) : ∀ n : Nat, n ≤ 4 → e_pw x n ≤ e_pw 10 n ∧ 1 ≤ e_pw 10 n := by
  intro n hn
  have h3 : x = 0 ∨ x = 1 ∨ x = 2 ∨ x = 3 ∨ x = 4 ∨ x = 5 ∨ x = 6 ∨ x = 7 ∨ x = 8 ∨ x = 9 ∨ x = 10 := by omega
  have h4 : n = 0 ∨ n = 1 ∨ n = 2 ∨ n = 3 ∨ n = 4 := by omega
  rcases h3 with h | h | h | h | h | h | h | h | h | h | h <;> rcases h4 with g | g | g | g | g <;> rw [h, g] <;> decide
theorem c_share_b {M : gj_M} (hI : c_I M) (l : Int) : 0 ≤ c_share M l ∧ c_share M l ≤ 2880 := by
  have h1 : ∀ f, f < 24 → 0 ≤ p_sum (fun c => c_sh M l f c) 10 ∧ p_sum (fun c => c_sh M l f c) 10 ≤ 120 := by
    intro f _
    have := p_sum_b (g := fun c => c_sh M l f c) (m := 12) 10 (fun c _ => by
      unfold c_sh
      split
      · have := c_lc_b hI f c
        have h2 : c_lc M f c = 0 ∨ c_lc M f c = 1 ∨ c_lc M f c = 2 ∨ c_lc M f c = 3 ∨ c_lc M f c = 4 := by omega
        rcases h2 with h | h | h | h | h <;> rw [h] <;> decide
      · omega)
    omega
  have := p_sum_b (g := fun f => p_sum (fun c => c_sh M l f c) 10) (m := 120) 24 h1
  unfold c_share
  omega
