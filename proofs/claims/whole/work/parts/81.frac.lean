/-! fractions -/
theorem e_half {l r : Nat} (h0 : 0 < r) (h1 : r < l) : 2 * (l % r) < l := by
  by_cases h : 2 * r ≤ l
  · have := Nat.mod_lt l h0
    omega
  · have e : l % r = l - r := by
      rw [Nat.mod_eq_sub_mod (by omega), Nat.mod_eq_of_lt (by omega)]
    omega
theorem e_cd_gcd : ∀ (k n a b : Nat), b < 2 ^ k → 2 * k ≤ n → e_cd n a b = (Nat.gcd a b : Int) := by
  intro k
  induction k with
  | zero =>
    intro n a b hb _
    have : b = 0 := by simpa using hb
    subst this
    cases n with
    | zero => simp [e_cd]
    | succ n => simp [e_cd]
  | succ k ih =>
    intro n a b hb hn
    obtain ⟨m, rfl⟩ : ∃ m, n = m + 2 := ⟨n - 2, by omega⟩
    by_cases h0 : b = 0
    · subst h0; simp [e_cd]
    · show (if (b : Int) = 0 then (a : Int) else e_cd (m + 1) b ((a : Int) % b)) = _
      rw [if_neg (by omega)]
      have e1 : ((a : Int) % b) = ((a % b : Nat) : Int) := by rw [Int.natCast_emod]
      rw [e1]
      have g1 : Nat.gcd a b = Nat.gcd b (a % b) := by rw [Nat.gcd_comm a b, Nat.gcd_rec b a, Nat.gcd_comm]
      have hr := Nat.mod_lt a (show 0 < b by omega)
      by_cases h1 : a % b = 0
      · rw [g1, h1]; simp [e_cd]
      · show (if ((a % b : Nat) : Int) = 0 then (b : Int) else e_cd m ((a % b : Nat) : Int) ((b : Int) % ((a % b : Nat) : Int))) = _
        rw [if_neg (by omega)]
        have e2 : ((b : Int) % ((a % b : Nat) : Int)) = ((b % (a % b) : Nat) : Int) := (Int.natCast_emod b (a % b)).symm
        rw [e2]
        have hh := e_half (show 0 < a % b by omega) hr
        have hp : 2 ^ (k + 1) = 2 * 2 ^ k := by rw [Nat.pow_succ]; omega
        rw [ih m (a % b) (b % (a % b)) (by omega) (by omega), g1]
        congr 1
        rw [Nat.gcd_comm b, Nat.gcd_rec (a % b) b, Nat.gcd_comm]
theorem y_gd_gcd : ∀ (n a b : Nat), b ≤ n → y_gd n a b = (Nat.gcd a b : Int) := by
  intro n
  induction n with
  | zero =>
    intro a b hb
    have : b = 0 := by omega
    subst this
    simp [y_gd]
  | succ n ih =>
    intro a b hb
    by_cases h0 : b = 0
    · subst h0; simp [y_gd]
    · show (if (b : Int) = 0 then (a : Int) else y_gd n b ((a : Int) % b)) = _
      rw [if_neg (by omega)]
      have e1 : ((a : Int) % b) = ((a % b : Nat) : Int) := by rw [Int.natCast_emod]
      have hr := Nat.mod_lt a (show 0 < b by omega)
      rw [e1, ih b (a % b) (by omega)]
      congr 1
      rw [Nat.gcd_comm a b, Nat.gcd_rec b a, Nat.gcd_comm]
theorem e_cross {a b c d : Nat} (hb : 0 < b) (hd : 0 < d) (h : a * d = c * b) : a / Nat.gcd a b = c / Nat.gcd c d ∧ b / Nat.gcd a b = d / Nat.gcd c d := by
  have g0 : 0 < Nat.gcd a b := Nat.gcd_pos_of_pos_right _ hb
  have k0 : 0 < Nat.gcd c d := Nat.gcd_pos_of_pos_right _ hd
  have e1 : Nat.gcd a b * d = b * Nat.gcd c d := by
    rw [← Nat.gcd_mul_right, h, Nat.mul_comm c b, ← Nat.gcd_mul_left]
  obtain ⟨a', ha⟩ := Nat.gcd_dvd_left a b
  obtain ⟨b', hb'⟩ := Nat.gcd_dvd_right a b
  obtain ⟨c', hc⟩ := Nat.gcd_dvd_left c d
  obtain ⟨d', hd'⟩ := Nat.gcd_dvd_right c d
  generalize hg : Nat.gcd a b = g at *
  generalize hk : Nat.gcd c d = k at *
  have e2 : d' = b' := by
    rw [hb', hd'] at e1
    have : g * k * d' = g * k * b' := by
      rw [Nat.mul_assoc, e1, Nat.mul_assoc, Nat.mul_assoc, Nat.mul_comm b' k]
    exact Nat.eq_of_mul_eq_mul_left (Nat.mul_pos g0 k0) this
  have hbp : 0 < b' := by
    rcases Nat.eq_zero_or_pos b' with z | z
    · rw [z] at hb'; omega
    · exact z
  have e3 : a' = c' := by
    rw [ha, hb', hc, hd', e2] at h
    have : g * k * b' * a' = g * k * b' * c' := by
      have e : g * a' * (k * b') = k * c' * (g * b') := h
      calc g * k * b' * a' = g * a' * (k * b') := by ac_rfl
        _ = k * c' * (g * b') := e
        _ = g * k * b' * c' := by ac_rfl
    exact Nat.eq_of_mul_eq_mul_left (Nat.mul_pos (Nat.mul_pos g0 k0) hbp) this
  constructor
  · rw [ha, hc, Nat.mul_div_cancel_left _ g0, Nat.mul_div_cancel_left _ k0, e3]
  · rw [hb', hd', Nat.mul_div_cancel_left _ g0, Nat.mul_div_cancel_left _ k0, e2]
/-- two ways to tell one fraction -/
theorem e_frac {a b c d u : Int} (ha : 0 ≤ a) (hb : 0 < b) (hc : 0 ≤ c) (hd : 0 < d ∧ d < 2 ^ 30) (h : a * d = c * b) : e_fp c d u = y_fp a b u := by
  obtain ⟨a, rfl⟩ := Int.eq_ofNat_of_zero_le ha
  obtain ⟨b, rfl⟩ := Int.eq_ofNat_of_zero_le (show 0 ≤ b by omega)
  obtain ⟨c, rfl⟩ := Int.eq_ofNat_of_zero_le hc
  obtain ⟨d, rfl⟩ := Int.eq_ofNat_of_zero_le (show 0 ≤ d by omega)
  have hh : a * d = c * b := by exact_mod_cast h
  have hd2 : d < 2 ^ 30 := by have := hd.2; omega
  have he := e_cross (a := a) (b := b) (c := c) (d := d) (by omega) (by omega) hh
  have k0 : 0 < Nat.gcd c d := Nat.gcd_pos_of_pos_right _ (by omega)
  unfold e_fp y_fp
  rw [e_cd_gcd 30 64 c d hd2 (by omega), Int.toNat_natCast, y_gd_gcd b a b (Nat.le_refl _), if_neg (by omega)]
  split
  · rw [← Int.natCast_ediv, ← Int.natCast_ediv, he.2]
  · rw [← Int.natCast_ediv, ← Int.natCast_ediv, he.1]
/-! sets of levels -/
def u_o (s : Nat) : Nat := s % 2 + s / 2 % 2 + s / 4 % 2 + s / 8 % 2
def u_h (m s : Nat) : Nat → Nat
  | 0 => 0
  | n + 1 => if m / 2 ^ n % 2 = 1 ∧ s / 2 ^ n % 2 = 1 then 1 else u_h m s n
def u_n (m : Nat) : Nat → Nat
  | 0 => 0
  | n + 1 => u_n m n + m / 2 ^ n % 2
def u_f : Nat → Nat
  | 0 => 1
  | n + 1 => u_f n * (n + 1)
def u_L (m L x : Nat) : Nat → Nat
  | 0 => 0
  | s + 1 => u_L m L x s + (if u_h m s L = 0 then 0 else (10 - x) ^ u_o s * x ^ (L - u_o s))
def u_S (m L l : Nat) : Nat → Int
  | 0 => 0
  | s + 1 => u_S m L l s + (if s / 2 ^ l % 2 = 0 then ((u_f (u_o s) * u_f (L - 1 - u_o s) : Nat) : Int) * ((u_h m (s + 2 ^ l) L : Int) - (u_h m s L : Int)) else 0)
def u_cL : Bool := (List.range 5).all fun L => (List.range 16).all fun m => (List.range 11).all fun x => u_L m L x (2 ^ L) * 10 ^ u_n m L == (10 ^ u_n m L - x ^ u_n m L) * 10 ^ L
def u_cS : Bool := (List.range 5).all fun L => (List.range 16).all fun m => (List.range L).all fun l => decide (12 * u_S m L l (2 ^ L) = (u_f L : Int) * (if m / 2 ^ l % 2 = 1 then ((12 / u_n m L : Nat) : Int) else 0))
theorem u_cL_t : u_cL = true := by decide +kernel
theorem u_cS_t : u_cS = true := by decide +kernel
theorem u_L_eq {L m x : Nat} (hL : L ≤ 4) (hm : m < 16) (hx : x ≤ 10) : u_L m L x (2 ^ L) * 10 ^ u_n m L = (10 ^ u_n m L - x ^ u_n m L) * 10 ^ L := by
  have h := u_cL_t
  unfold u_cL at h
  have h1 := List.all_eq_true.mp h L (List.mem_range.mpr (by omega))
  have h2 := List.all_eq_true.mp h1 m (List.mem_range.mpr hm)
  have h3 := List.all_eq_true.mp h2 x (List.mem_range.mpr (by omega))
  exact of_decide_eq_true (by simpa using h3)
theorem u_S_eq {L m l : Nat} (hL : L ≤ 4) (hm : m < 16) (hl : l < L) : 12 * u_S m L l (2 ^ L) = (u_f L : Int) * (if m / 2 ^ l % 2 = 1 then ((12 / u_n m L : Nat) : Int) else 0) := by
  have h := u_cS_t
  unfold u_cS at h
  have h1 := List.all_eq_true.mp h L (List.mem_range.mpr (by omega))
  have h2 := List.all_eq_true.mp h1 m (List.mem_range.mpr hm)
  have h3 := List.all_eq_true.mp h2 l (List.mem_range.mpr hl)
  exact of_decide_eq_true h3
theorem u_mask {b : Nat → Int} (h : ∀ n, b n = 0 ∨ b n = 1) : ∃ m : Nat, m < 16 ∧ ∀ n : Nat, n < 4 → b n = ((m / 2 ^ n % 2 : Nat) : Int) := by
  have key : ∀ m : Nat, m < 16 → b 0 = ((m / 2 ^ 0 % 2 : Nat) : Int) → b 1 = ((m / 2 ^ 1 % 2 : Nat) : Int) → b 2 = ((m / 2 ^ 2 % 2 : Nat) : Int) → b 3 = ((m / 2 ^ 3 % 2 : Nat) : Int) → ∃ m : Nat, m < 16 ∧ ∀ n : Nat, n < 4 → b n = ((m / 2 ^ n % 2 : Nat) : Int) := by
    intro m hm h0 h1 h2 h3
    refine ⟨m, hm, fun n hn => ?_⟩
    have h4 : n = 0 ∨ n = 1 ∨ n = 2 ∨ n = 3 := by omega
    rcases h4 with rfl | rfl | rfl | rfl
    · exact h0
    · exact h1
    · exact h2
    · exact h3
  rcases h 0 with a | a <;> rcases h 1 with c | c <;> rcases h 2 with d | d <;> rcases h 3 with e | e
  · exact key 0 (by decide) a c d e
  · exact key 8 (by decide) a c d e
  · exact key 4 (by decide) a c d e
  · exact key 12 (by decide) a c d e
  · exact key 2 (by decide) a c d e
  · exact key 10 (by decide) a c d e
  · exact key 6 (by decide) a c d e
  · exact key 14 (by decide) a c d e
  · exact key 1 (by decide) a c d e
  · exact key 9 (by decide) a c d e
  · exact key 5 (by decide) a c d e
  · exact key 13 (by decide) a c d e
  · exact key 3 (by decide) a c d e
  · exact key 11 (by decide) a c d e
  · exact key 7 (by decide) a c d e
  · exact key 15 (by decide) a c d e
theorem u_o_eq : ∀ s : Nat, s < 16 → y_ones s = (u_o s : Int) := by decide
theorem u_has : ∀ s : Nat, s < 16 → ∀ n : Nat, n < 4 → y_has s n = ((s / 2 ^ n % 2 : Nat) : Int) := by decide
theorem u_or : ∀ s : Nat, s < 16 → ∀ l : Nat, l < 4 → s / 2 ^ l % 2 = 0 → (Int32.ofInt (s : Int) ||| Int32.ofInt (Int32.ofInt 1 <<< (Int32.ofInt (l : Int) &&& 31)).toInt).toInt = ((s + 2 ^ l : Nat) : Int) := by decide
theorem u_f_eq : ∀ n : Nat, y_fc n = (u_f n : Int) := by
  intro n
  induction n with
  | zero => rfl
  | succ n ih => simp only [y_fc, u_f]; rw [ih]; push_cast; rfl
theorem u_pw (x : Nat) : ∀ n : Nat, e_pw x n = ((x ^ n : Nat) : Int) := by
  intro n
  induction n with
  | zero => rfl
  | succ n ih => simp only [e_pw, Nat.pow_succ]; rw [ih]; push_cast; rfl
theorem u_all : ∀ L : Nat, L ≤ 4 → y_all L + 1 = ((2 ^ L : Nat) : Int) := by decide
