/-! the reference's face: answers and memories -/
theorem gj_u0 {M : gj_M} (h : M 69 0 = 0) : gj_u M 69 0 0 = M := by
  have := gj_u_id M 69 0
  rw [h] at this
  exact this
def z_write (M : gj_M) (c : Int) : Int := if c < 0 ∨ 255 < c then -2 else if M 69 2 = 80 then -4 else M 69 2 + 1
def n_write (M : gj_M) (c : Int) : gj_M := if c < 0 ∨ 255 < c then M else if M 69 2 = 80 then M else gj_u (gj_u M 70 (M 69 2) c) 69 2 (M 69 2 + 1)
def n_reel (M : gj_M) : gj_M := gj_u (gj_u (gj_u (y_cp (y_cp (y_cp (gj_u (gj_u M 69 4 (M 69 8)) 69 5 (M 69 9)) 73 71 192) 74 72 4) 75 78 40) 69 18 0) 82 0 0) 82 1 0
def z_drawing (M : gj_M) (d w : Int) : Int := if 0 ≤ d ∧ d < M 69 4 then (if w = 0 then M 78 (0 + d) else if w = 1 then M 78 (6 + d) else if w = 2 then y_mo M 78 d else -2) else -1
def z_where (M : gj_M) (l f : Int) : Int := if l = 9 ∨ (0 ≤ l ∧ l < M 69 5) then (if 0 ≤ f ∧ f < 48 then y_wh M 78 (x_panOf l) f + 1000 else -2) else -1
def z_redraw (M : gj_M) (d x w : Int) : Int := if 0 ≤ d ∧ d < M 69 4 then (if x < 0 ∨ 9 < x ∨ w < 1 ∨ 5 < w then -2 else 10 * M 78 (0 + d) + M 78 (6 + d)) else -1
def n_redraw (M : gj_M) (d x w : Int) : gj_M := if 0 ≤ d ∧ d < M 69 4 then (if x < 0 ∨ 9 < x ∨ w < 1 ∨ 5 < w then M else gj_u (gj_u (y_nt M) 78 (0 + d) x) 78 (6 + d) w) else M
def z_delay (M : gj_M) (l v : Int) : Int := if 0 ≤ l ∧ l < M 69 5 then (if v < 0 ∨ 9 < v then -2 else M 78 (12 + l)) else -1
def n_delay (M : gj_M) (l v : Int) : gj_M := if 0 ≤ l ∧ l < M 69 5 then (if v < 0 ∨ 9 < v then M else gj_u (y_nt M) 78 (12 + l) v) else M
def z_pan (M : gj_M) (l s b e : Int) : Int := if l = 9 ∨ (0 ≤ l ∧ l < M 69 5) then (if s < -9 ∨ 9 < s ∨ b < -3 ∨ 3 < b ∨ e < 1 ∨ 9 < e then -2 else s + b * (47 / e) + 1000) else -1
def n_pan (M : gj_M) (l s b e : Int) : gj_M := if l = 9 ∨ (0 ≤ l ∧ l < M 69 5) then (if s < -9 ∨ 9 < s ∨ b < -3 ∨ 3 < b ∨ e < 1 ∨ 9 < e then M else gj_u (gj_u (gj_u (y_nt M) 78 (16 + 3 * x_panOf l) s) 78 (16 + 3 * x_panOf l + 1) b) 78 (16 + 3 * x_panOf l + 2) e) else M
def z_swap (M : gj_M) (f od : Int) : Int := if (0 ≤ f ∧ f < 48) ∧ y_io (M 69 5) od = 1 then (if M 78 31 = 4 then -4 else M 78 31 + 1) else -2
def n_swap (M : gj_M) (f od : Int) : gj_M := if (0 ≤ f ∧ f < 48) ∧ y_io (M 69 5) od = 1 then (if M 78 31 = 4 then M else gj_u (gj_u (gj_u (y_nt M) 78 (32 + M 78 31) f) 78 (36 + M 78 31) od) 78 31 (M 78 31 + 1)) else M
def z_back (M : gj_M) : Int := if M 78 31 = 0 then -3 else M 78 31 - 1
def n_back (M : gj_M) : gj_M := if M 78 31 = 0 then M else gj_u (y_nt M) 78 31 (M 78 31 - 1)
def y_ub (M : gj_M) (h : Nat) (b : Int) : Nat → gj_M
  | 0 => M
  | n + 1 => gj_u (y_ub M h b n) 78 n (y_ub M h b n h (40 * b + n))
def z_undo (M : gj_M) : Int := if M 69 18 = 0 then -3 else M 69 18 - 1
def n_undo (M : gj_M) : gj_M := if M 69 18 = 0 then M else y_ub (gj_u M 69 18 (M 69 18 - 1)) 80 (M 69 18 - 1) 40
def z_exposed (M : gj_M) (l f : Int) : Int := if 0 ≤ l ∧ l < M 69 5 then (if 0 ≤ f ∧ f < 48 then y_ex M 78 l f else -2) else -1
def z_order (M : gj_M) (f : Int) : Int := if 0 ≤ f ∧ f < 48 then y_ord M 78 f else -2
def z_look (M : gj_M) (f c : Int) : Int := if (0 ≤ f ∧ f < 48) ∧ 0 ≤ c ∧ c < 10 then y_look M 78 f c (y_all (M 69 5)) (-9) else -2
def z_ask (M : gj_M) (w : Int) : Int := if w = 0 then y_chg M 47 else if w = 1 then y_cels M 78 else -2
def z_see (M : gj_M) (f c v : Int) : Int := if (0 ≤ f ∧ f < 48) ∧ (0 ≤ c ∧ c < 10) ∧ (v = -9 ∨ (0 ≤ v ∧ v ≤ 39)) then (if M 69 21 = 6 then -4 else M 69 21 + 1) else -2
def n_see (M : gj_M) (f c v : Int) : gj_M := if (0 ≤ f ∧ f < 48) ∧ (0 ≤ c ∧ c < 10) ∧ (v = -9 ∨ (0 ≤ v ∧ v ≤ 39)) then (if M 69 21 = 6 then M else gj_u (gj_u (gj_u (gj_u M 83 (M 69 21) f) 84 (M 69 21) c) 85 (M 69 21) v) 69 21 (M 69 21 + 1)) else M
def y_al (M : gj_M) (d : Int) : Nat → Int
  | 0 => 1
  | k + 1 => if y_al M d k ≠ 0 ∧ y_look M 78 (M 83 k) (M 84 k) (y_all (M 69 5)) d = M 85 k then 1 else 0
def y_ws (M : gj_M) : Nat → Int
  | 0 => 0
  | d + 1 => (Int32.ofInt (y_ws M d) ||| Int32.ofInt (if y_al M d (M 69 21).toNat = 0 then 0 else (Int32.ofInt 1 <<< (Int32.ofInt d &&& 31)).toInt)).toInt
def y_us (M : gj_M) (l : Int) : Nat → Int
  | 0 => 0
  | s + 1 => y_us M l s + (if y_has s l = 0 then y_fc (y_ones s).toNat * y_fc (M 69 5 - 1 - y_ones s).toNat * (y_cov M (Int32.ofInt (s : Int) ||| Int32.ofInt (Int32.ofInt 1 <<< (Int32.ofInt l &&& 31)).toInt).toInt - y_cov M s) else 0)
def y_fp (a b u : Int) : Int := if u = 0 then b / y_gd b.toNat a b else a / y_gd b.toNat a b
def z_share (M : gj_M) (l u : Int) : Int := if 0 ≤ l ∧ l < M 69 5 then y_fp (y_us M l (y_all (M 69 5) + 1).toNat) (y_fc (M 69 5).toNat) u else -1
def y_ul (M : gj_M) (f c x : Int) : Nat → Int
  | 0 => 0
  | s + 1 => y_ul M f c x s + (if y_look M 78 f c s (-9) = -9 then 0 else e_pw (10 - x) (y_ones s).toNat * e_pw x (M 69 5 - y_ones s).toNat)
def z_lost (M : gj_M) (f c x u : Int) : Int := if (0 ≤ f ∧ f < 48) ∧ (0 ≤ c ∧ c < 10) ∧ 0 ≤ x ∧ x ≤ 10 then y_fp (y_ul M f c x (y_all (M 69 5) + 1).toNat) (e_pw 10 (M 69 5).toNat) u else -2
def y_lk (M : gj_M) : Nat → Int
  | 0 => 0
  | n + 1 => y_lk M n + (if y_look M 78 (e_v (e_sd (M 5069 25) (n + 1)) % 48) (e_v (e_sd (M 5069 25) (n + 1)) / 48 % 10) (y_all (M 69 5)) (-9) = -9 then 0 else 1)
def z_looks (M : gj_M) (m : Int) : Int := if m < 1 ∨ 40 < m then -2 else y_lk M m.toNat
def n_looks (M : gj_M) (m : Int) : gj_M := if m < 1 ∨ 40 < m then M else gj_u M 5069 25 (e_sd (M 5069 25) m.toNat)
def y_kp (M : gj_M) (s : Int) : Nat → gj_M
  | 0 => M
  | n + 1 => gj_u (y_kp M s n) 81 (40 * s + n) (y_kp M s n 78 n)
def z_keep (M : gj_M) (s : Int) : Int := if s < 0 ∨ 2 ≤ s then -1 else M 78 31
def n_keep (M : gj_M) (s : Int) : gj_M := if s < 0 ∨ 2 ≤ s then M else y_kp (gj_u M 82 s 1) s 40
def z_again (M : gj_M) (s : Int) : Int := if s < 0 ∨ 2 ≤ s then -1 else if M 82 s = 0 then -3 else M 81 (40 * s + 31)
def n_again (M : gj_M) (s : Int) : gj_M := if s < 0 ∨ 2 ≤ s then M else if M 82 s = 0 then M else gj_u (y_ub M 81 s 40) 69 18 0
def z_count (M : gj_M) (w : Int) : Int := if w = 0 then M 69 2 else if w = 1 then M 69 4 else if w = 2 then M 69 5 else if w = 3 then M 78 31 else if w = 4 then M 69 18 else if w = 5 then M 69 21 else -2
theorem y_nt_o {M : gj_M} {h : Nat} (h1 : h ≠ 69) (h2 : h ≠ 80) (i : Int) : y_nt M h i = M h i := by
  unfold y_nt
  rw [gj_u_o h1, y_pg_o h2]
  unfold y_n1
  split
  · rw [gj_u_o h1, y_sh_o h2]
  · rfl
theorem y_nt_69 {M : gj_M} {i : Int} (hi : i ≠ 18) : y_nt M 69 i = M 69 i := by
  unfold y_nt
  rw [gj_u_i hi, y_pg_o (by decide)]
  unfold y_n1
  split
  · rw [gj_u_i hi, y_sh_o (by decide)]
  · rfl
theorem y_ub_o {M : gj_M} {h g : Nat} {b : Int} (hg : g ≠ 78) (i : Int) : ∀ n, y_ub M h b n g i = M g i := by
  intro n
  induction n with
  | zero => rfl
  | succ n ih => simp only [y_ub]; rw [gj_u_o hg, ih]
theorem y_ub_i {M : gj_M} {h : Nat} {b i : Int} (hh : h ≠ 78) : ∀ n : Nat, y_ub M h b n 78 i = if 0 ≤ i ∧ i < n then M h (40 * b + i) else M 78 i := by
  intro n
  induction n with
  | zero => rw [if_neg (by omega)]; rfl
  | succ n ih =>
    simp only [y_ub]
    by_cases q : i = n
    · rw [q, gj_u_s, if_pos (by omega), y_ub_o hh]
    · rw [gj_u_i q, ih]
      by_cases z : 0 ≤ i ∧ i < n
      · rw [if_pos z, if_pos (by omega)]
      · rw [if_neg z, if_neg (by omega)]
theorem y_kp_o {M : gj_M} {g : Nat} {s : Int} (hg : g ≠ 81) (i : Int) : ∀ n, y_kp M s n g i = M g i := by
  intro n
  induction n with
  | zero => rfl
  | succ n ih => simp only [y_kp]; rw [gj_u_o hg, ih]
theorem y_kp_i {M : gj_M} {s i : Int} : ∀ n : Nat, y_kp M s n 81 i = if 40 * s ≤ i ∧ i < 40 * s + n then M 78 (i - 40 * s) else M 81 i := by
  intro n
  induction n with
  | zero => rw [if_neg (by omega)]; rfl
  | succ n ih =>
    simp only [y_kp]
    by_cases q : i = 40 * s + n
    · rw [q, gj_u_s, y_kp_o (by decide), if_pos (by omega)]
      congr 1
      omega
    · rw [gj_u_i q, ih]
      by_cases z : 40 * s ≤ i ∧ i < 40 * s + n
      · rw [if_pos z, if_pos (by omega)]
      · rw [if_neg z, if_neg (by omega)]
theorem y_al_01 (M : gj_M) (d : Int) : ∀ k, y_al M d k = 0 ∨ y_al M d k = 1 := by
  intro k
  cases k with
  | zero => exact Or.inr rfl
  | succ k => simp only [y_al]; split <;> simp
theorem y_ws_in (M : gj_M) : ∀ k, gj_in (y_ws M k) := by
  intro k
  cases k with
  | zero => show gj_in 0; decide
  | succ k => exact gj_in32 _
theorem y_has_01 (s l : Int) : y_has s l = 0 ∨ y_has s l = 1 := by unfold y_has; split <;> simp
theorem y_ones_b : ∀ s : Nat, s ≤ 15 → 0 ≤ y_ones s ∧ y_ones s ≤ 4 := by decide
theorem y_ones_L : ∀ L : Nat, L ≤ 4 → ∀ s : Nat, (s : Int) ≤ y_all L → y_ones s ≤ L := by
  intro L hL s hs
  have h5 : L = 0 ∨ L = 1 ∨ L = 2 ∨ L = 3 ∨ L = 4 := by omega
  have key : ∀ L : Nat, L ≤ 4 → ∀ s : Nat, s ≤ 15 → (s : Int) ≤ y_all L → y_ones s ≤ L := by decide
  have hb := y_all_b (L := L) (by omega)
  exact key L hL s (by omega) hs
theorem y_ones_n : ∀ L : Nat, L ≤ 4 → ∀ s : Nat, s ≤ 15 → (s : Int) ≤ y_all L → ∀ l : Nat, l < L → y_has s l = 0 → y_ones s ≤ L - 1 := by decide
theorem y_gd_b : ∀ (n : Nat) (p q : Int), 0 ≤ p → 0 ≤ q → q ≤ n → (1 ≤ p ∨ 1 ≤ q) → 1 ≤ y_gd n p q ∧ y_gd n p q ≤ max p q := by
  intro n
  induction n with
  | zero => intro p q p0 q0 qn hpq; simp only [y_gd]; omega
  | succ n ih =>
    intro p q p0 q0 qn hpq
    simp only [y_gd]
    split
    · omega
    · have h1 := Int.emod_nonneg p (show q ≠ 0 by omega)
      have h2 := Int.emod_lt_of_pos p (show 0 < q by omega)
      have := ih q (p % q) q0 h1 (by omega) (by omega)
      omega
/-! told doings -/
def y_dk (M : gj_M) (h a b c : Int) : Int :=
  if h = 1 then (if a < M 69 5 ∧ b = 0 then 1 else 0)
  else if h = 2 then (if 10 * a + b < 48 ∧ c < M 69 5 ∧ y_ex M 79 c (10 * a + b) ≠ -9 then 1 else 0)
  else if h = 3 then (if 10 * a + b < 48 ∧ y_look M 79 (10 * a + b) c (y_all (M 69 5)) (-9) ≠ -9 then 1 else 0)
  else if h = 4 then (if a < M 69 4 ∧ 1 ≤ c ∧ c ≤ 5 then 1 else 0)
  else if h = 5 then (if a = 0 ∧ y_cels M 79 = 10 * b + c then 1 else 0)
  else if h = 6 then (if 10 * a + b < 48 ∧ c < M 69 5 ∧ y_ord M 79 (10 * a + b) / e_pw 10 (M 69 5 - 1).toNat = c then 1 else 0)
  else if h = 7 then (if a = 0 ∧ b = 0 ∧ c = 0 ∧ M 79 31 ≠ 0 then 1 else 0) else 0
def y_dm (M : gj_M) (h a b c : Int) : gj_M :=
  if y_dk M h a b c = 0 then M
  else if h = 1 then gj_u M 79 (12 + a) c
  else if h = 4 then gj_u (gj_u M 79 (0 + a) b) 79 (6 + a) c
  else if h = 7 then gj_u M 79 31 (M 79 31 - 1) else M
theorem y_dk_01 (M : gj_M) (h a b c : Int) : y_dk M h a b c = 0 ∨ y_dk M h a b c = 1 := by
  unfold y_dk
  repeat (split; (split <;> simp))
  simp
def y_qk (M : gj_M) (q : Int) : Int := y_dk M (q / 1000) (q / 100 % 10) (q / 10 % 10) (q % 10)
def y_qm (M : gj_M) (q : Int) : gj_M := y_dm M (q / 1000) (q / 100 % 10) (q / 10 % 10) (q % 10)
def y_jr (M : gj_M) (row : Int) : Nat → Nat → Int
  | 0, _ => -9
  | n + 1, i => if y_qk M (row / (10000 ^ n) % 10000) = 0 then i else y_jr (y_qm M (row / (10000 ^ n) % 10000)) row n (i + 1)
def z_judge (M : gj_M) (n row : Int) : Int := if n < 1 ∨ 4 < n ∨ row < 0 ∨ 10000 ^ n.toNat ≤ row then -2 else y_jr (y_cp M 78 79 40) row n.toNat 0
theorem y_dm_E (M : gj_M) (h a b c : Int) : gj_E [79] M (y_dm M h a b c) := by
  unfold y_dm
  split
  · exact gj_E.rf
  split
  · exact gj_E.u (by decide)
  split
  · exact (gj_E.u (by decide)).u2 (by decide)
  split
  · exact gj_E.u (by decide)
  · exact gj_E.rf
theorem y_dm_I {M : gj_M} (hI : y_I M 79) {h a b c : Int} (ha : 0 ≤ a ∧ a ≤ 9) (hb : 0 ≤ b ∧ b ≤ 9) (hc : 0 ≤ c ∧ c ≤ 9) : y_I (y_dm M h a b c) 79 := by
  have h01 := y_dk_01 M h a b c
  unfold y_dm
  split
  · exact hI
  next hk =>
  have hk1 : y_dk M h a b c = 1 := by omega
  obtain ⟨h1, h2, h3, h4, h5, h6, h7, h8⟩ := hI
  split
  · next q =>
    have hne : ∀ i : Int, i ≠ 12 + a → gj_u M 79 (12 + a) c 79 i = M 79 i := fun i hi => gj_u_i hi
    have haL : a < M 69 5 := by
      unfold y_dk at hk1
      rw [if_pos q] at hk1
      split at hk1 <;> omega
    refine ⟨h1, h2, by rw [hne 31 (by omega)]; exact h3, fun l' z b' => ⟨?_, (h4 l' z b').2⟩, fun q a b => ?_, fun d a b => ?_, fun k a b => ?_, h8⟩
    · unfold gj_u
      split
      · exact hc
      · exact (h4 l' z b').1
    · rw [hne _ (by omega), hne _ (by omega), hne _ (by omega)]; exact h5 q a b
    · rw [hne _ (by omega), hne _ (by omega)]; exact h6 d a b
    · rw [hne 31 (by omega)] at b
      rw [hne _ (by omega), hne _ (by omega)]; exact h7 k a b
  split
  · next q1 q =>
    have haL : a < M 69 4 ∧ 1 ≤ c ∧ c ≤ 5 := by
      unfold y_dk at hk1
      rw [if_neg (by omega), if_neg (by omega), if_neg (by omega), if_pos q] at hk1
      split at hk1 <;> omega
    have hne : ∀ i : Int, 12 ≤ i → gj_u (gj_u M 79 (0 + a) b) 79 (6 + a) c 79 i = M 79 i := fun i hi => by rw [gj_u_i (by omega), gj_u_i (by omega)]
    refine ⟨h1, h2, by rw [hne 31 (by omega)]; exact h3, fun l' z b' => by rw [hne _ (by omega)]; exact h4 l' z b', fun q a b => ?_, fun d d0 d1 => ?_, fun k a b => ?_, h8⟩
    · rw [hne _ (by omega), hne _ (by omega), hne _ (by omega)]; exact h5 q a b
    · have := h6 d d0 d1
      constructor
      · rw [gj_u_i (by omega)]
        unfold gj_u
        split
        · exact hb
        · exact this.1
      · unfold gj_u
        split
        · omega
        · split
          · next z => omega
          · exact this.2
    · rw [hne 31 (by omega)] at b
      rw [hne _ (by omega), hne _ (by omega)]; exact h7 k a b
  split
  · next q1 q2 q =>
    have haL : M 79 31 ≠ 0 := by
      unfold y_dk at hk1
      rw [if_neg (by omega), if_neg (by omega), if_neg (by omega), if_neg (by omega), if_neg (by omega), if_neg (by omega), if_pos q] at hk1
      split at hk1 <;> omega
    have hne : ∀ i : Int, i ≠ 31 → gj_u M 79 31 (M 79 31 - 1) 79 i = M 79 i := fun i hi => gj_u_i hi
    refine ⟨h1, h2, by rw [gj_u_s]; omega, fun l' z b' => by rw [hne _ (by omega)]; exact h4 l' z b', fun q a b => ?_, fun d d0 d1 => ?_, fun k a b => ?_, h8⟩
    · rw [hne _ (by omega), hne _ (by omega), hne _ (by omega)]; exact h5 q a b
    · rw [hne _ (by omega), hne _ (by omega)]; exact h6 d d0 d1
    · rw [gj_u_s] at b
      rw [hne _ (by omega), hne _ (by omega)]; exact h7 k a (by omega)
  · exact ⟨h1, h2, h3, h4, h5, h6, h7, h8⟩
