theorem q_pb {a b : Int} (ha : 0 ≤ a ∧ a ≤ 10) (hb : 0 ≤ b ∧ b ≤ 49) : 0 ≤ a * b ∧ a * b ≤ 490 := by
  refine ⟨Int.mul_nonneg ha.1 hb.1, ?_⟩
  have h1 : a * b ≤ 10 * b := Int.mul_le_mul_of_nonneg_right ha.2 hb.1
  omega
theorem q_it_stop {lk inner : Int → Int} {P m : Int} (hm : 1 ≤ m) (hP : 0 ≤ P) : ∀ (d : Nat) (K : Int), 1 ≤ K → K + d = 9 → (∀ K' : Int, K ≤ K' → K' < 9 → ¬ (m = (K' + 1) * (P + 1) ∧ K' * (P + 1) ≤ lk (P + 1))) → q_it lk inner P K m 8 = q_it lk inner P 9 m 8 := by
  intro d
  induction d with
  | zero => intro K _ hd _; rw [show K = 9 by omega]
  | succ d ih =>
    intro K hK hd hn
    rw [← ih (K + 1) (by omega) (by omega) (fun K' h1 h2 => hn K' (by omega) h2), q_it_step hm hP hK 8, if_neg (fun q => hn K (by omega) (by omega) ⟨q.1, q.2.1⟩)]
theorem q_it_grow {lk inner : Int → Int} {P P' m : Int} (hm : 0 ≤ m) (hP : m ≤ 2 * P + 1) (hPP : P ≤ P') : ∀ t : Nat, q_it lk inner P 1 m t = q_it lk inner P' 1 m t := by
  intro t
  induction t with
  | zero => rfl
  | succ t ih =>
    have h1 : m / ((t : Int) + 2) ≤ P := by
      have h2 := Int.emod_add_mul_ediv m ((t : Int) + 2)
      have h3 := Int.emod_nonneg m (show (t : Int) + 2 ≠ 0 by omega)
      have h4 : 0 ≤ m / ((t : Int) + 2) := Int.ediv_nonneg hm (by omega)
      have h5 : 2 * (m / ((t : Int) + 2)) ≤ ((t : Int) + 2) * (m / ((t : Int) + 2)) := Int.mul_le_mul_of_nonneg_right (by omega) h4
      omega
    simp only [q_it]
    rw [ih]
    congr 1
    apply propext
    constructor
    · rintro ⟨a, b, _⟩
      exact ⟨a, b, Or.inl (by omega)⟩
    · rintro ⟨a, b, _⟩
      exact ⟨a, b, Or.inl h1⟩
theorem q_it_congr {lk lk' inner inner' : Int → Int} {P K m : Int} (hm : 1 ≤ m) (hlk : ∀ p : Int, 1 ≤ p → p ≤ m → lk p = lk' p) (hin : ∀ p : Int, 1 ≤ p → p < m → inner p = inner' p) : ∀ t : Nat, q_it lk inner P K m t = q_it lk' inner' P K m t := by
  intro t
  induction t with
  | zero => simp only [q_it]; rw [hlk 1 (by omega) hm]
  | succ t ih =>
    simp only [q_it]
    rw [ih]
    by_cases hr : m % ((t : Int) + 2) = 0
    · have h2 := Int.emod_add_mul_ediv m ((t : Int) + 2)
      rw [hr] at h2
      have h3 : 0 ≤ m / ((t : Int) + 2) := Int.ediv_nonneg (by omega) (by omega)
      have h1 : 1 ≤ m / ((t : Int) + 2) := by
        rcases Int.lt_or_le 0 (m / ((t : Int) + 2)) with q | q
        · omega
        · rw [show m / ((t : Int) + 2) = 0 by omega] at h2; omega
      have h4 : m / ((t : Int) + 2) < m := by
        have h5 : 2 * (m / ((t : Int) + 2)) ≤ ((t : Int) + 2) * (m / ((t : Int) + 2)) := Int.mul_le_mul_of_nonneg_right (by omega) h3
        omega
      rw [hlk _ h1 (by omega), hin _ h1 h4]
    · rw [if_neg (fun q => hr q.1), if_neg (fun q => hr q.1)]
/-- how long two stretches, p apart, are like -/
def q_lk (F : Int → Int) (p : Int) : Nat → Int → Int
  | 0, _ => 0
  | m + 1, i => if F i = F (i + p) then q_lk F p m (i + 1) + 1 else 0
def q_L (F : Int → Int) (n i p : Int) : Int := q_lk F p (n - p - i).toNat i
theorem q_lk_b (F : Int → Int) (p : Int) : ∀ (m : Nat) (i : Int), 0 ≤ q_lk F p m i ∧ q_lk F p m i ≤ m := by
  intro m
  induction m with
  | zero => intro i; simp [q_lk]
  | succ m ih => intro i; have := ih (i + 1); simp only [q_lk]; split <;> omega
/-- letters of stretches with ( no deeper than 1, letters of the rest with ( no deeper than 2, as they hang together -/
def q_on (F : Int → Int) (n lo : Int) (f : Int → Int → Int) : Prop := (∀ j : Int, lo ≤ j → j ≤ n → f j 0 = 0) ∧ ∀ j p : Int, lo ≤ j → j < n → 1 ≤ p → j + p ≤ n → f j p = q_mn (fun m => q_it (q_L F n j) (fun z => q_pl F j z.toNat) 48 1 m 8) (fun q => f (j + q) (p - q)) p.toNat
def q_tw (F : Int → Int) (n lo : Int) (f : Int → Int → Int) (g : Int → Int) : Prop := g n = 0 ∧ ∀ j : Int, lo ≤ j → j < n → g j = q_mt (fun m => q_it (q_L F n j) (f j) 48 1 m 8) (fun q => g (j + q)) (n - j).toNat
def q_sh (F : Int → Int) (n v : Int) : Prop := ∃ (f : Int → Int → Int) (g : Int → Int), q_on F n 0 f ∧ q_tw F n 0 f g ∧ v = g 0
theorem q_on_b {F : Int → Int} {n lo : Int} {f : Int → Int → Int} (h : q_on F n lo f) : ∀ (d : Nat) (j p : Int), (n - j).toNat = d → lo ≤ j → j ≤ n → 0 ≤ p → j + p ≤ n → 0 ≤ f j p ∧ f j p ≤ 1000 := by
  intro d
  induction d using Nat.strongRecOn with
  | ind d ih =>
    intro j p hd hlo hj hp hjp
    by_cases h0 : p = 0
    · rw [h0, h.1 j hlo hj]; omega
    · rw [h.2 j p hlo (by omega) (by omega) hjp]
      refine q_mn_b _ (fun q h1 hq => ⟨?_, ?_⟩)
      · exact (q_it_b (fun z hz1 hz2 => (q_pl_b F j z.toNat).1) h1 8).1
      · exact (ih (n - (j + q)).toNat (by omega) (j + q) (p - q) rfl (by omega) (by omega) (by omega) (by omega)).1
theorem q_tw_b {F : Int → Int} {n lo : Int} {f : Int → Int → Int} {g : Int → Int} (hf : q_on F n lo f) (h : q_tw F n lo f g) : ∀ (d : Nat) (j : Int), (n - j).toNat = d → lo ≤ j → j ≤ n → 0 ≤ g j ∧ g j ≤ 1000 := by
  intro d
  induction d using Nat.strongRecOn with
  | ind d ih =>
    intro j hd hlo hj
    by_cases h0 : j = n
    · rw [h0, h.1]; omega
    · rw [h.2 j hlo (by omega)]
      refine q_mt_b _ (fun q h1 hq => ⟨?_, ?_⟩)
      · exact (q_it_b (fun z hz1 hz2 => (q_on_b hf _ j z rfl hlo hj (by omega) (by omega)).1) h1 8).1
      · exact (ih (n - (j + q)).toNat (by omega) (j + q) rfl (by omega) (by omega)).1
