/-! the class's reader, as changes of memory -/
def r_ll (M : gj_M) : Int := if M 3 1 < 1 then 0 else M 6 (M 3 1 - 1)
def r_ap (M : gj_M) (d : Int) : gj_M := if M 3 1 - 1 < 0 ∨ 48 ≤ M 6 (M 3 1 - 1) then M else gj_u (gj_u M 7 ((M 3 1 - 1) * 48 + M 6 (M 3 1 - 1)) d) 6 (M 3 1 - 1) (M 6 (M 3 1 - 1) + 1)
def r_ho (M : gj_M) (d : Int) : Nat → gj_M
  | 0 => M
  | n + 1 => r_ap (r_ho M d n) d
def r_r1 (M : gj_M) (sh st : Int) : Nat → gj_M
  | 0 => M
  | j + 1 => r_ap (r_r1 M sh st j) (r_r1 M sh st j 7 (sh + (st + j)))
def r_rp (M : gj_M) (sh st : Int) (len : Nat) : Nat → gj_M
  | 0 => M
  | k + 1 => r_r1 (r_rp M sh st len k) sh st len
def r_rf (M : gj_M) (st k : Int) : gj_M := if (M 3 1 - 1) * 48 < 0 ∨ st < 0 then M else r_rp M ((M 3 1 - 1) * 48) st (r_ll M - st).toNat (k - 1).toNat
def r_cl (M : gj_M) : gj_M := gj_u (gj_u M 3 0 0) 3 1 0
def r_ad (M : gj_M) (x w : Int) : gj_M := if M 3 0 < 6 then gj_u (gj_u (gj_u M 4 (M 3 0) x) 5 (M 3 0) w) 3 0 (M 3 0 + 1) else M
def r_al (M : gj_M) : gj_M := if M 3 1 < 4 then gj_u (gj_u M 6 (M 3 1) 0) 3 1 (M 3 1 + 1) else M
def r_dr (M : gj_M) : gj_M := gj_u M 2 1 2
def a_dr (M : gj_M) : Int := if M 3 0 < 6 then 1 else 0
def r_wd (M : gj_M) (w : Int) : gj_M := if w < 1 ∨ 5 < w then M else gj_u (r_ad M (M 2 3) w) 2 1 1
def a_wd (w : Int) : Int := if w < 1 ∨ 5 < w then 0 else 1
def r_lv (M : gj_M) (c : Int) : gj_M := if c ≠ 118 ∨ 4 ≤ M 3 1 then M else gj_u (r_al M) 2 1 5
def a_lv (M : gj_M) (c : Int) : Int := if c ≠ 118 ∨ 4 ≤ M 3 1 then 0 else 1
def r_op (M : gj_M) : gj_M := if M 2 2 < 0 ∨ 2 ≤ M 2 2 then M else gj_u (gj_u (gj_u M 8 (M 2 2) (r_ll M)) 2 2 (M 2 2 + 1)) 2 1 6
def a_op (M : gj_M) : Int := if M 2 2 < 0 ∨ 2 ≤ M 2 2 then 0 else 1
def r_it (M : gj_M) (c : Int) : gj_M := if c = 40 then r_op M else if c = 45 then gj_u (gj_u M 2 4 (-9)) 2 1 7 else if 0 ≤ c - 97 ∧ c - 97 < M 3 0 then gj_u (gj_u M 2 4 (c - 97)) 2 1 7 else M
def a_it (M : gj_M) (c : Int) : Int := if c = 40 then a_op M else if c = 45 then 1 else if 0 ≤ c - 97 ∧ c - 97 < M 3 0 then 1 else 0
def r_ie (M : gj_M) (c : Int) : gj_M := if c = 46 then gj_u M 2 1 4 else if c = 41 then gj_u M 2 1 8 else r_it M c
def a_ie (M : gj_M) (c : Int) : Int := if c = 46 then (if M 2 2 = 0 then 1 else 0) else if c = 41 then (if 0 < M 2 2 then 1 else 0) else a_it M c
def r_hd (M : gj_M) (n : Int) : gj_M := if n < 1 ∨ 9 < n then M else gj_u (r_ho M (M 2 4) n.toNat) 2 1 5
def a_hd (n : Int) : Int := if n < 1 ∨ 9 < n then 0 else 1
def r_tm (M : gj_M) (k : Int) : gj_M := if k < 2 ∨ 9 < k ∨ M 2 2 < 1 ∨ 2 < M 2 2 then M else gj_u (r_rf (gj_u M 2 2 (M 2 2 - 1)) (M 8 (M 2 2 - 1)) k) 2 1 5
def a_tm (M : gj_M) (k : Int) : Int := if k < 2 ∨ 9 < k ∨ M 2 2 < 1 ∨ 2 < M 2 2 then 0 else 1
def r_tk (M : gj_M) (c : Int) : gj_M := if M 2 1 = 0 then gj_u M 2 1 1 else if M 2 1 = 1 then (if c = 100 then r_dr M else r_lv M c) else if M 2 1 = 2 then gj_u (gj_u M 2 3 (c - 48)) 2 1 3 else if M 2 1 = 3 then r_wd M (c - 48) else if M 2 1 = 4 then r_lv M c else if M 2 1 = 5 then r_ie M c else if M 2 1 = 6 then r_it M c else if M 2 1 = 7 then r_hd M (c - 48) else r_tm M (c - 48)
def a_tk (M : gj_M) (c : Int) : Int := if M 2 1 = 0 then (if c = 75 then 1 else 0) else if M 2 1 = 1 then (if c = 100 then a_dr M else a_lv M c) else if M 2 1 = 2 then (if c - 48 < 0 ∨ 9 < c - 48 then 0 else 1) else if M 2 1 = 3 then a_wd (c - 48) else if M 2 1 = 4 then a_lv M c else if M 2 1 = 5 then a_ie M c else if M 2 1 = 6 then a_it M c else if M 2 1 = 7 then a_hd (c - 48) else a_tm M (c - 48)
/-- memory behind n letters -/
def r_in (M : gj_M) : gj_M := gj_u (gj_u (r_cl M) 2 1 0) 2 2 0
def r_ru (M : gj_M) (t : Int → Int) : Nat → gj_M
  | 0 => r_in M
  | n + 1 => r_tk (r_ru M t n) (t n)
/-- the first fault: fuel, place -/
def r_ff (M : gj_M) (t : Int → Int) : Nat → Nat → Int
  | 0, p => if r_ru M t p 2 1 = 1 ∨ r_ru M t p 2 1 = 4 then -9 else p
  | n + 1, p => if a_tk (r_ru M t p) (t p) = 0 then p else r_ff M t n (p + 1)
/-- how many letters were fed -/
def r_fn (M : gj_M) (t : Int → Int) : Nat → Nat → Nat
  | 0, p => p
  | n + 1, p => if a_tk (r_ru M t p) (t p) = 0 then p + 1 else r_fn M t n (p + 1)
def r_I (M : gj_M) : Prop := (0 ≤ M 3 0 ∧ M 3 0 ≤ 6) ∧ (0 ≤ M 3 1 ∧ M 3 1 ≤ 4) ∧ (0 ≤ M 2 1 ∧ M 2 1 ≤ 8) ∧ (0 ≤ M 2 2 ∧ M 2 2 ≤ 2) ∧ (∀ l : Int, 0 ≤ l → l < 4 → 0 ≤ M 6 l ∧ M 6 l ≤ 48) ∧ (∀ i : Int, 0 ≤ i → i < 2 → 0 ≤ M 8 i ∧ M 8 i ≤ 48)
theorem r_ap_I {M : gj_M} {d : Int} (h : r_I M) : r_I (r_ap M d) := by
  obtain ⟨h1, h2, h3, h4, h5, h6⟩ := h
  unfold r_ap
  split
  · exact ⟨h1, h2, h3, h4, h5, h6⟩
  · refine ⟨h1, h2, h3, h4, fun l h0 hl => ?_, h6⟩
    by_cases q : l = M 3 1 - 1
    · subst q
      rw [gj_u_s]
      have := h5 (M 3 1 - 1) h0 hl
      omega
    · rw [gj_u_i q, gj_u_o (by decide)]
      exact h5 l h0 hl
theorem r_ho_I {M : gj_M} {d : Int} (h : r_I M) : ∀ n, r_I (r_ho M d n) := by
  intro n
  induction n with
  | zero => exact h
  | succ n ih => exact r_ap_I ih
theorem r_r1_I {M : gj_M} {sh st : Int} (h : r_I M) : ∀ n, r_I (r_r1 M sh st n) := by
  intro n
  induction n with
  | zero => exact h
  | succ n ih => exact r_ap_I ih
theorem r_rp_I {M : gj_M} {sh st : Int} {len : Nat} (h : r_I M) : ∀ n, r_I (r_rp M sh st len n) := by
  intro n
  induction n with
  | zero => exact h
  | succ n ih => exact r_r1_I ih len
theorem r_rf_I {M : gj_M} {st k : Int} (h : r_I M) : r_I (r_rf M st k) := by
  unfold r_rf
  split
  · exact h
  · exact r_rp_I h _
theorem r_I.aw {M : gj_M} (h : r_I M) {v : Int} (hv : 0 ≤ v ∧ v ≤ 8) : r_I (gj_u M 2 1 v) := ⟨h.1, h.2.1, hv, h.2.2.2.1, h.2.2.2.2.1, h.2.2.2.2.2⟩
theorem r_I.dp {M : gj_M} (h : r_I M) {v : Int} (hv : 0 ≤ v ∧ v ≤ 2) : r_I (gj_u M 2 2 v) := ⟨h.1, h.2.1, h.2.2.1, hv, h.2.2.2.2.1, h.2.2.2.2.2⟩
theorem r_I.x {M : gj_M} (h : r_I M) {v : Int} : r_I (gj_u M 2 3 v) := ⟨h.1, h.2.1, h.2.2.1, h.2.2.2.1, h.2.2.2.2.1, h.2.2.2.2.2⟩
theorem r_I.hd {M : gj_M} (h : r_I M) {v : Int} : r_I (gj_u M 2 4 v) := ⟨h.1, h.2.1, h.2.2.1, h.2.2.2.1, h.2.2.2.2.1, h.2.2.2.2.2⟩
theorem r_ad_I {M : gj_M} {x w : Int} (h : r_I M) : r_I (r_ad M x w) := by
  unfold r_ad
  split
  · next q =>
    refine ⟨?_, h.2.1, h.2.2.1, h.2.2.2.1, h.2.2.2.2.1, h.2.2.2.2.2⟩
    rw [gj_u_s]
    have := h.1
    omega
  · exact h
theorem r_al_I {M : gj_M} (h : r_I M) : r_I (r_al M) := by
  unfold r_al
  split
  · next q =>
    refine ⟨h.1, ?_, h.2.2.1, h.2.2.2.1, fun l h0 hl => ?_, h.2.2.2.2.2⟩
    · rw [gj_u_s]
      have := h.2.1
      omega
    · rw [gj_u_o (by decide)]
      by_cases z : l = M 3 1
      · rw [z, gj_u_s]; omega
      · rw [gj_u_i z]; exact h.2.2.2.2.1 l h0 hl
  · exact h
theorem r_ll_b {M : gj_M} (h : r_I M) : 0 ≤ r_ll M ∧ r_ll M ≤ 48 := by
  unfold r_ll
  split
  · omega
  · have h2 := h.2.1
    exact h.2.2.2.2.1 _ (by omega) (by omega)
theorem r_op_I {M : gj_M} (h : r_I M) : r_I (r_op M) := by
  have hb := r_ll_b h
  have h4 := h.2.2.2.1
  unfold r_op
  split
  · exact h
  · have hz : r_I (gj_u M 8 (M 2 2) (r_ll M)) := by
      refine ⟨h.1, h.2.1, h.2.2.1, h.2.2.2.1, h.2.2.2.2.1, fun i h0 hi => ?_⟩
      by_cases z : i = M 2 2
      · rw [z, gj_u_s]; exact hb
      · rw [gj_u_i z]; exact h.2.2.2.2.2 i h0 hi
    exact (hz.dp (v := M 2 2 + 1) (by omega)).aw (by omega)
theorem r_it_I {M : gj_M} {c : Int} (h : r_I M) : r_I (r_it M c) := by
  unfold r_it
  split
  · exact r_op_I h
  · split
    · exact h.hd.aw (by omega)
    · split
      · exact h.hd.aw (by omega)
      · exact h
theorem r_lv_I {M : gj_M} {c : Int} (h : r_I M) : r_I (r_lv M c) := by
  unfold r_lv
  split
  · exact h
  · exact (r_al_I h).aw (by omega)
theorem r_tk_I {M : gj_M} {c : Int} (h : r_I M) : r_I (r_tk M c) := by
  have h4 := h.2.2.2.1
  unfold r_tk
  split
  · exact h.aw (by omega)
  split
  · split
    · exact h.aw (by omega)
    · exact r_lv_I h
  split
  · exact h.x.aw (by omega)
  split
  · unfold r_wd
    split
    · exact h
    · exact (r_ad_I h).aw (by omega)
  split
  · exact r_lv_I h
  split
  · unfold r_ie
    split
    · exact h.aw (by omega)
    · split
      · exact h.aw (by omega)
      · exact r_it_I h
  split
  · exact r_it_I h
  split
  · unfold r_hd
    split
    · exact h
    · exact (r_ho_I h _).aw (by omega)
  · unfold r_tm
    split
    · exact h
    · exact (r_rf_I (h.dp (by omega))).aw (by omega)
theorem r_in_I {M : gj_M} (h5 : ∀ l : Int, 0 ≤ l → l < 4 → 0 ≤ M 6 l ∧ M 6 l ≤ 48) (h6 : ∀ i : Int, 0 ≤ i → i < 2 → 0 ≤ M 8 i ∧ M 8 i ≤ 48) : r_I (r_in M) := by
  refine ⟨?_, ?_, ?_, ?_, h5, h6⟩
  · show 0 ≤ (0 : Int) ∧ (0 : Int) ≤ 6; omega
  · show 0 ≤ (0 : Int) ∧ (0 : Int) ≤ 4; omega
  · show 0 ≤ (0 : Int) ∧ (0 : Int) ≤ 8; omega
  · show 0 ≤ (0 : Int) ∧ (0 : Int) ≤ 2; omega
theorem r_ru_I {M : gj_M} {t : Int → Int} (h5 : ∀ l : Int, 0 ≤ l → l < 4 → 0 ≤ M 6 l ∧ M 6 l ≤ 48) (h6 : ∀ i : Int, 0 ≤ i → i < 2 → 0 ≤ M 8 i ∧ M 8 i ≤ 48) : ∀ n, r_I (r_ru M t n) := by
  intro n
  induction n with
  | zero => exact r_in_I h5 h6
  | succ n ih => exact r_tk_I ih
