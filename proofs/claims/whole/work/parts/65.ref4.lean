theorem y_I.dl {M : gj_M} (hI : y_I M 78) {l v : Int} (hl : 0 ≤ l ∧ l < 4) (hv : 0 ≤ v ∧ v ≤ 9) : y_I (gj_u M 78 (12 + l) v) 78 := by
  obtain ⟨h1, h2, h3, h4, h5, h6, h7, h8⟩ := hI
  have hne : ∀ i : Int, i ≠ 12 + l → gj_u M 78 (12 + l) v 78 i = M 78 i := fun i hi => gj_u_i hi
  refine ⟨h1, h2, by rw [hne 31 (by omega)]; exact h3, fun l' a b => ⟨?_, (h4 l' a b).2⟩, fun q a b => ?_, fun d a b => ?_, fun k a b => ?_, h8⟩
  · unfold gj_u
    split
    · exact hv
    · exact (h4 l' a b).1
  · rw [hne _ (by omega), hne _ (by omega), hne _ (by omega)]; exact h5 q a b
  · rw [hne _ (by omega), hne _ (by omega)]; exact h6 d a b
  · rw [hne 31 (by omega)] at b
    rw [hne _ (by omega), hne _ (by omega)]; exact h7 k a b
theorem y_cels_b {M : gj_M} {r : Nat} (hI : y_I M r) : 0 ≤ y_cels M r ∧ y_cels M r ≤ 24 := by
  have hL := hI.1
  have hD := hI.2.1
  have := p_sum_b (g := fun d : Nat => p_mo (y_ex M r) (M 69 5).toNat d 48) (m := 4) (M 69 4).toNat (fun i _ => by have := p_mo_b (y_ex M r) (M 69 5).toNat i 48; omega)
  unfold y_cels p_cels
  omega
theorem y_bl_b {M : gj_M} (hI : y_I M 78) {l : Int} (hl : 0 ≤ l ∧ l < 4) : ∀ k : Nat, k ≤ 10 → 0 ≤ p_bl (fun v : Nat => y_cels (gj_u M 78 (12 + l) v) 78) k ∧ p_bl (fun v : Nat => y_cels (gj_u M 78 (12 + l) v) 78) k ≤ 24 := by
  intro k
  induction k with
  | zero => intro _; simp [p_bl]
  | succ k ih =>
    intro h
    have h1 := y_cels_b (hI.dl (l := l) (v := (k : Int)) hl (by omega))
    have h2 := ih (by omega)
    simp only [p_bl]
    split
    · exact h1
    · exact h2
/-- the trial page, laid anew, with one number told otherwise, is like the page with it -/
theorem y_eq.tr {M M1 : gj_M} {i v : Int} (hE : gj_E [79] M M1) (hi : 0 ≤ i ∧ i < 40) : y_eq (gj_u M 78 i v) 78 (gj_u (y_cp M1 78 79 40) 79 i v) 79 := by
  have e : ∀ h : Nat, h ≠ 79 → ∀ j, y_cp M1 78 79 40 h j = M h j := fun h hh j => by rw [y_cp_o hh]; exact hE h (by simpa using hh) j
  refine ⟨fun j h0 h1 => ?_, e 69 (by decide) 4, e 69 (by decide) 5, ?_, ?_⟩
  · by_cases q : j = i
    · rw [q, gj_u_s, gj_u_s]
    · rw [gj_u_i q, gj_u_i q, y_cp_i (by decide), if_pos ⟨h0, h1⟩]
      exact hE 78 (by decide) j
  · funext j; exact e 71 (by decide) j
  · funext j; exact e 72 (by decide) j
theorem y_sh_o {M : gj_M} {h : Nat} (hne : h ≠ 80) (i : Int) : ∀ n, y_sh M n h i = M h i := by
  intro n
  induction n with
  | zero => rfl
  | succ n ih => simp only [y_sh]; rw [gj_u_o hne, ih]
theorem y_sh_i {M : gj_M} {i : Int} : ∀ n : Nat, y_sh M n 80 i = if 0 ≤ i ∧ i < n then M 80 (i + 40) else M 80 i := by
  intro n
  induction n generalizing i with
  | zero => rw [if_neg (by omega)]; rfl
  | succ n ih =>
    simp only [y_sh]
    by_cases q : i = n
    · rw [q, gj_u_s, ih, if_neg (by omega), if_pos (by omega)]
    · rw [gj_u_i q, ih]
      by_cases z : 0 ≤ i ∧ i < n
      · rw [if_pos z, if_pos (by omega)]
      · rw [if_neg z, if_neg (by omega)]
theorem y_pg_o {M : gj_M} {b : Int} {h : Nat} (hne : h ≠ 80) (i : Int) : ∀ n, y_pg M b n h i = M h i := by
  intro n
  induction n with
  | zero => rfl
  | succ n ih => simp only [y_pg]; rw [gj_u_o hne, ih]
theorem y_pg_i {M : gj_M} {b i : Int} : ∀ n : Nat, y_pg M b n 80 i = if 40 * b ≤ i ∧ i < 40 * b + n then M 78 (i - 40 * b) else M 80 i := by
  intro n
  induction n with
  | zero => rw [if_neg (by omega)]; rfl
  | succ n ih =>
    simp only [y_pg]
    by_cases q : i = 40 * b + n
    · rw [q, gj_u_s, y_pg_o (by decide), if_pos (by omega)]
      congr 1
      omega
    · rw [gj_u_i q, ih]
      by_cases z : 40 * b ≤ i ∧ i < 40 * b + n
      · rw [if_pos z, if_pos (by omega)]
      · rw [if_neg z, if_neg (by omega)]
