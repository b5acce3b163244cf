/-! the reference: words of it -/
def y_in (v a b : Int) : Int := if a ≤ v ∧ v ≤ b then 1 else 0
theorem y_in_c (v a b : Int) : (y_in v a b = 1 ∧ a ≤ v ∧ v ≤ b) ∨ (y_in v a b = 0 ∧ ¬ (a ≤ v ∧ v ≤ b)) := by unfold y_in; split <;> simp [*]
def y_bit (s k : Int) : Int := (Int32.ofInt (Int32.ofInt s >>> (Int32.ofInt k &&& 31)).toInt &&& Int32.ofInt 1).toInt
def y_has (s k : Int) : Int := if y_bit s k = 1 then 1 else 0
def y_ones (s : Int) : Int := p_sum (fun k : Nat => y_bit s k) 6
def y_fi (k : Int) : Int := if 16 ≤ k ∧ k < 31 ∧ (k - 16) % 3 = 2 then 1 else 0
def y_fr (M : gj_M) (r : Nat) : Nat → gj_M
  | 0 => M
  | n + 1 => gj_u (y_fr M r n) r n (y_fi n)
def y_cp (M : gj_M) (a b : Nat) : Nat → gj_M
  | 0 => M
  | n + 1 => gj_u (y_cp M a b n) b n (y_cp M a b n a n)
theorem y_cp_o {M : gj_M} {a b h : Nat} (hne : h ≠ b) (i : Int) : ∀ n, y_cp M a b n h i = M h i := by
  intro n
  induction n with
  | zero => rfl
  | succ n ih => simp only [y_cp]; rw [gj_u_o hne, ih]
theorem y_cp_i {M : gj_M} {a b : Nat} (hab : a ≠ b) {i : Int} : ∀ n : Nat, y_cp M a b n b i = if 0 ≤ i ∧ i < n then M a i else M b i := by
  intro n
  induction n with
  | zero => rw [if_neg (by omega)]; rfl
  | succ n ih =>
    simp only [y_cp]
    by_cases q : i = n
    · rw [q, gj_u_s, if_pos (by omega), y_cp_o hab]
    · rw [gj_u_i q, ih]
      by_cases z : 0 ≤ i ∧ i < n
      · rw [if_pos z, if_pos (by omega)]
      · rw [if_neg z, if_neg (by omega)]
theorem y_fr_o {M : gj_M} {r h : Nat} (hne : h ≠ r) (i : Int) : ∀ n, y_fr M r n h i = M h i := by
  intro n
  induction n with
  | zero => rfl
  | succ n ih => simp only [y_fr]; rw [gj_u_o hne, ih]
theorem y_fr_i {M : gj_M} {r : Nat} {i : Int} : ∀ n : Nat, 0 ≤ i → i < n → y_fr M r n r i = y_fi i := by
  intro n
  induction n with
  | zero => intro h0 h1; omega
  | succ n ih =>
    intro h0 h1
    simp only [y_fr]
    by_cases q : i = n
    · rw [q]; exact gj_u_s
    · rw [gj_u_i q]; exact ih h0 (by omega)
def y_ex (M : gj_M) (r : Nat) (l f : Int) : Int := if 0 ≤ f - M r (12 + l) ∧ f - M r (12 + l) ≤ M 72 l - 1 then M 71 (48 * l + (f - M r (12 + l))) else -9
def y_wh (M : gj_M) (r : Nat) (p f : Int) : Int := M r (16 + 3 * p) + M r (16 + 3 * p + 1) * (f / M r (16 + 3 * p + 2))
def y_fo : Nat → Int
  | 0 => 0
  | n + 1 => 10 * y_fo n + n
def y_lt (M : gj_M) (r : Nat) (f : Int) : Nat → Int
  | 0 => -1
  | n + 1 => if M r (32 + n) ≤ f ∧ y_lt M r f n ≤ M r (32 + n) then M r (32 + n) else y_lt M r f n
def y_od (M : gj_M) (r : Nat) (f : Int) : Nat → Int
  | 0 => y_fo (M 69 5).toNat
  | n + 1 => if M r (32 + n) ≤ f ∧ y_lt M r f n ≤ M r (32 + n) then M r (36 + n) else y_od M r f n
def y_ord (M : gj_M) (r : Nat) (f : Int) : Int := y_od M r f (M r 31).toNat
def y_va (M : gj_M) (r : Nat) (o f c some_ rub : Int) (k : Nat) : Int := if (y_ex M r (p_li (M 69 5) o k) f ≠ -9 ∧ y_ex M r (p_li (M 69 5) o k) f ≠ rub ∧ y_has some_ (p_li (M 69 5) o k) = 1) ∧ M r (0 + y_ex M r (p_li (M 69 5) o k) f) + y_wh M r (p_li (M 69 5) o k) f ≤ c + y_wh M r 4 f ∧ c + y_wh M r 4 f ≤ M r (0 + y_ex M r (p_li (M 69 5) o k) f) + y_wh M r (p_li (M 69 5) o k) f + M r (6 + y_ex M r (p_li (M 69 5) o k) f) - 1 then 10 * p_li (M 69 5) o k + y_ex M r (p_li (M 69 5) o k) f else -9
def y_look (M : gj_M) (r : Nat) (f c some_ rub : Int) : Int := p_first (y_va M r (y_ord M r f) f c some_ rub) (M 69 5).toNat 0
def y_all (L : Int) : Int := (Int32.ofInt 1 <<< (Int32.ofInt L &&& 31)).toInt - 1
def y_I (M : gj_M) (r : Nat) : Prop := (0 ≤ M 69 5 ∧ M 69 5 ≤ 4) ∧ (0 ≤ M 69 4 ∧ M 69 4 ≤ 6) ∧ (0 ≤ M r 31 ∧ M r 31 ≤ 4) ∧
  (∀ l : Int, 0 ≤ l → l < 4 → (0 ≤ M r (12 + l) ∧ M r (12 + l) ≤ 9) ∧ 0 ≤ M 72 l ∧ M 72 l ≤ 48) ∧
  (∀ q : Int, 0 ≤ q → q < 5 → (-9 ≤ M r (16 + 3 * q) ∧ M r (16 + 3 * q) ≤ 9) ∧ (-3 ≤ M r (16 + 3 * q + 1) ∧ M r (16 + 3 * q + 1) ≤ 3) ∧ 1 ≤ M r (16 + 3 * q + 2) ∧ M r (16 + 3 * q + 2) ≤ 9) ∧
  (∀ d : Int, 0 ≤ d → d < 6 → (0 ≤ M r (0 + d) ∧ M r (0 + d) ≤ 9) ∧ 0 ≤ M r (6 + d) ∧ M r (6 + d) ≤ 5) ∧
  (∀ k : Int, 0 ≤ k → k < M r 31 → (0 ≤ M r (32 + k) ∧ M r (32 + k) ≤ 47) ∧ p_od (M 69 5) (M r (36 + k))) ∧
  (∀ l g : Int, 0 ≤ l → l < M 69 5 → 0 ≤ g → g < M 72 l → M 71 (48 * l + g) = -9 ∨ (0 ≤ M 71 (48 * l + g) ∧ M 71 (48 * l + g) < M 69 4))
theorem y_fo_eq : ∀ n, y_fo n = p_fo n := by
  intro n
  induction n with
  | zero => rfl
  | succ n ih => simp only [y_fo, p_fo]; rw [ih]; omega
theorem y_I.od {M : gj_M} {r : Nat} (hI : y_I M r) (f : Int) : p_od (M 69 5) (y_ord M r f) := by
  have key : ∀ n : Nat, (n : Int) ≤ M r 31 → p_od (M 69 5) (y_od M r f n) := by
    intro n
    induction n with
    | zero => intro _; simp only [y_od]; rw [y_fo_eq]; exact p_fo_od hI.1
    | succ n ih =>
      intro hn
      simp only [y_od]
      split
      · exact (hI.2.2.2.2.2.2.1 n (by omega) (by omega)).2
      · exact ih (by omega)
  exact key _ (by have := hI.2.2.1; omega)
theorem y_lt_b {M : gj_M} {r : Nat} (hI : y_I M r) (f : Int) : ∀ n : Nat, (n : Int) ≤ M r 31 → -1 ≤ y_lt M r f n ∧ y_lt M r f n ≤ 47 := by
  intro n
  induction n with
  | zero => intro _; simp [y_lt]
  | succ n ih =>
    intro hn
    have h1 := ih (by omega)
    have h2 := (hI.2.2.2.2.2.2.1 n (by omega) (by omega)).1
    simp only [y_lt]
    split <;> omega
theorem y_wh_b {M : gj_M} {r : Nat} (hI : y_I M r) {q f : Int} (hq : 0 ≤ q ∧ q < 5) (hf : 0 ≤ f ∧ f < 48) : -150 ≤ y_wh M r q f ∧ y_wh M r q f ≤ 150 := by
  have h := hI.2.2.2.2.1 q hq.1 hq.2
  unfold y_wh
  have h1 : 0 ≤ f / M r (16 + 3 * q + 2) := Int.ediv_nonneg hf.1 (by omega)
  have h2 : f / M r (16 + 3 * q + 2) ≤ f := Int.ediv_le_self _ hf.1
  generalize f / M r (16 + 3 * q + 2) = z at *
  generalize M r (16 + 3 * q + 1) = b at *
  have h3 : b = -3 ∨ b = -2 ∨ b = -1 ∨ b = 0 ∨ b = 1 ∨ b = 2 ∨ b = 3 := by omega
  rcases h3 with h | h | h | h | h | h | h <;> rw [h] <;> omega
theorem y_ex_b {M : gj_M} {r : Nat} (hI : y_I M r) {l f : Int} (hl : 0 ≤ l ∧ l < M 69 5) : y_ex M r l f = -9 ∨ (0 ≤ y_ex M r l f ∧ y_ex M r l f < M 69 4) := by
  unfold y_ex
  split
  · exact hI.2.2.2.2.2.2.2 l _ hl.1 hl.2 (by omega) (by omega)
  · exact Or.inl rfl
theorem gj_tens_pw : ∀ n : Nat, n ≤ 4 → gj_tens n = e_pw 10 n := by decide
theorem p_li_pw {L o k : Int} (hL : 0 ≤ L ∧ L ≤ 4) (hk : 0 ≤ k ∧ k < L) : p_li L o k = o / e_pw 10 (L - 1 - k).toNat % 10 := by
  unfold p_li
  rw [if_neg (by omega), gj_tens_pw _ (by omega)]
