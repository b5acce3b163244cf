/-! the shortest sheet: words of it -/
def q_rn (F : Int → Int) (i : Int) : Nat → Int
  | 0 => 0
  | p + 1 => if 1 ≤ p ∧ q_rn F i p < 9 ∧ F (i + p) = F (i + p - 1) then q_rn F i p + 1 else 1
def q_pl (F : Int → Int) (i : Int) : Nat → Int
  | 0 => 0
  | p + 1 => if 1 ≤ p ∧ q_rn F i p < 9 ∧ F (i + p) = F (i + p - 1) then q_pl F i p else q_pl F i p + 2
def q_b (lk1 m : Int) : Int := if m ≤ 9 ∧ m - 1 ≤ lk1 then 2 else 1000
/-- an item of m frames, by k = 2 .. t + 1 times over; what comes over is p frames, p no more than P, or P + 1 with k no more than K -/
def q_it (lk inner : Int → Int) (P K m : Int) : Nat → Int
  | 0 => q_b (lk 1) m
  | t + 1 => if m % ((t : Int) + 2) = 0 ∧ m - m / ((t : Int) + 2) ≤ lk (m / ((t : Int) + 2)) ∧ (m / ((t : Int) + 2) ≤ P ∨ (m / ((t : Int) + 2) = P + 1 ∧ (t : Int) + 2 ≤ K)) then min (q_it lk inner P K m t) (inner (m / ((t : Int) + 2)) + 3) else q_it lk inner P K m t
def q_mn (it f : Int → Int) : Nat → Int
  | 0 => 1000
  | t + 1 => if it ((t : Int) + 1) < 1000 then min (q_mn it f t) (it ((t : Int) + 1) + f ((t : Int) + 1)) else q_mn it f t
def q_mt (it f : Int → Int) : Nat → Int
  | 0 => 1000
  | t + 1 => min (q_mt it f t) (it ((t : Int) + 1) + f ((t : Int) + 1))
theorem q_rn_b (F : Int → Int) (i : Int) : ∀ p : Nat, 0 ≤ q_rn F i p ∧ q_rn F i p ≤ 9 := by
  intro p
  induction p with
  | zero => simp [q_rn]
  | succ p ih => simp only [q_rn]; split <;> omega
theorem q_pl_b (F : Int → Int) (i : Int) : ∀ p : Nat, 0 ≤ q_pl F i p ∧ q_pl F i p ≤ 2 * p := by
  intro p
  induction p with
  | zero => simp [q_pl]
  | succ p ih => simp only [q_pl]; split <;> omega
theorem q_b_b (lk1 m : Int) : q_b lk1 m = 2 ∨ q_b lk1 m = 1000 := by unfold q_b; split <;> simp
theorem q_it_b {lk inner : Int → Int} {P K m : Int} (hi : ∀ p : Int, 1 ≤ p → p ≤ m → 0 ≤ inner p) (hm : 1 ≤ m) : ∀ t : Nat, 0 ≤ q_it lk inner P K m t ∧ q_it lk inner P K m t ≤ 1000 := by
  intro t
  induction t with
  | zero => have := q_b_b (lk 1) m; simp only [q_it]; omega
  | succ t ih =>
    simp only [q_it]
    split
    · next h =>
      have h1 : 1 ≤ m / ((t : Int) + 2) := by
        have h2 : m = ((t : Int) + 2) * (m / ((t : Int) + 2)) := by
          have := Int.emod_add_mul_ediv m ((t : Int) + 2)
          omega
        have h3 : 0 ≤ m / ((t : Int) + 2) := Int.ediv_nonneg (by omega) (by omega)
        rcases Int.lt_or_le 0 (m / ((t : Int) + 2)) with q | q
        · omega
        · have h4 : m / ((t : Int) + 2) = 0 := by omega
          rw [h4] at h2
          omega
      have h5 : m / ((t : Int) + 2) ≤ m := Int.ediv_le_self _ (by omega)
      have := hi _ h1 h5
      omega
    · exact ih
theorem q_mn_b {it f : Int → Int} : ∀ t : Nat, (∀ q : Int, 1 ≤ q → q ≤ t → 0 ≤ it q ∧ 0 ≤ f q) → 0 ≤ q_mn it f t ∧ q_mn it f t ≤ 1000 := by
  intro t
  induction t with
  | zero => intro _; simp [q_mn]
  | succ t ih =>
    intro h
    have h1 := ih (fun q h0 hq => h q h0 (by omega))
    have h2 := h ((t : Int) + 1) (by omega) (by omega)
    simp only [q_mn]
    split <;> omega
theorem q_mt_b {it f : Int → Int} : ∀ t : Nat, (∀ q : Int, 1 ≤ q → q ≤ t → 0 ≤ it q ∧ 0 ≤ f q) → 0 ≤ q_mt it f t ∧ q_mt it f t ≤ 1000 := by
  intro t
  induction t with
  | zero => intro _; simp [q_mt]
  | succ t ih =>
    intro h
    have h1 := ih (fun q h0 hq => h q h0 (by omega))
    have h2 := h ((t : Int) + 1) (by omega) (by omega)
    simp only [q_mt]
    omega
theorem q_mn_congr {it it' f f' : Int → Int} : ∀ t : Nat, (∀ q : Int, 1 ≤ q → q ≤ t → it q = it' q ∧ f q = f' q) → q_mn it f t = q_mn it' f' t := by
  intro t
  induction t with
  | zero => intro _; rfl
  | succ t ih =>
    intro h
    have h1 := ih (fun q h0 hq => h q h0 (by omega))
    have h2 := h ((t : Int) + 1) (by omega) (by omega)
    simp only [q_mn]
    rw [h1, h2.1, h2.2]
theorem q_mt_congr {it it' f f' : Int → Int} : ∀ t : Nat, (∀ q : Int, 1 ≤ q → q ≤ t → it q = it' q ∧ f q = f' q) → q_mt it f t = q_mt it' f' t := by
  intro t
  induction t with
  | zero => intro _; rfl
  | succ t ih =>
    intro h
    have h1 := ih (fun q h0 hq => h q h0 (by omega))
    have h2 := h ((t : Int) + 1) (by omega) (by omega)
    simp only [q_mt]
    rw [h1, h2.1, h2.2]
/-- one more stretch that comes over: what the inner loop does to an item -/
theorem q_it_step {lk inner : Int → Int} {P K m : Int} (hm : 1 ≤ m) (hP : 0 ≤ P) (hK : 1 ≤ K) : ∀ t : Nat, q_it lk inner P (K + 1) m t = if m = (K + 1) * (P + 1) ∧ K * (P + 1) ≤ lk (P + 1) ∧ K ≤ t then min (q_it lk inner P K m t) (inner (P + 1) + 3) else q_it lk inner P K m t := by
  intro t
  induction t with
  | zero =>
    rw [if_neg (by omega)]
    rfl
  | succ t ih =>
    simp only [q_it]
    rw [ih]
    generalize q_it lk inner P K m t = x
    by_cases hk : (t : Int) + 2 = K + 1
    · have n1 : ¬ (m = (K + 1) * (P + 1) ∧ K * (P + 1) ≤ lk (P + 1) ∧ K ≤ (t : Int)) := by omega
      have e2 : K ≤ ((t + 1 : Nat) : Int) := by omega
      rw [if_neg n1]
      by_cases hd : m = (K + 1) * (P + 1)
      · have hq : m / ((t : Int) + 2) = P + 1 := by rw [hk, hd]; exact Int.mul_ediv_cancel_left _ (by omega)
        have hr : m % ((t : Int) + 2) = 0 := by rw [hk, hd]; exact Int.mul_emod_right _ _
        have hs : m - (P + 1) = K * (P + 1) := by rw [hd, Int.add_mul]; omega
        rw [hq, hr, hs]
        have n3 : ¬ ((0 : Int) = 0 ∧ K * (P + 1) ≤ lk (P + 1) ∧ (P + 1 ≤ P ∨ P + 1 = P + 1 ∧ (t : Int) + 2 ≤ K)) := by omega
        rw [if_neg n3]
        by_cases hl : K * (P + 1) ≤ lk (P + 1)
        · have p1 : (0 : Int) = 0 ∧ K * (P + 1) ≤ lk (P + 1) ∧ (P + 1 ≤ P ∨ P + 1 = P + 1 ∧ (t : Int) + 2 ≤ K + 1) := ⟨rfl, hl, Or.inr ⟨rfl, by omega⟩⟩
          have p2 : m = (K + 1) * (P + 1) ∧ K * (P + 1) ≤ lk (P + 1) ∧ K ≤ ((t + 1 : Nat) : Int) := ⟨hd, hl, e2⟩
          rw [if_pos p1, if_pos p2]
        · have n4 : ¬ ((0 : Int) = 0 ∧ K * (P + 1) ≤ lk (P + 1) ∧ (P + 1 ≤ P ∨ P + 1 = P + 1 ∧ (t : Int) + 2 ≤ K + 1)) := fun q => hl q.2.1
          have n5 : ¬ (m = (K + 1) * (P + 1) ∧ K * (P + 1) ≤ lk (P + 1) ∧ K ≤ ((t + 1 : Nat) : Int)) := fun q => hl q.2.1
          rw [if_neg n4, if_neg n5]
      · have n5 : ¬ (m = (K + 1) * (P + 1) ∧ K * (P + 1) ≤ lk (P + 1) ∧ K ≤ ((t + 1 : Nat) : Int)) := fun q => hd q.1
        rw [if_neg n5]
        have hx : ¬ (m % ((t : Int) + 2) = 0 ∧ m / ((t : Int) + 2) = P + 1) := by
          rintro ⟨h1, h2⟩
          have := Int.emod_add_mul_ediv m ((t : Int) + 2)
          rw [h1, h2, hk] at this
          omega
        have e5 : (m % ((t : Int) + 2) = 0 ∧ m - m / ((t : Int) + 2) ≤ lk (m / ((t : Int) + 2)) ∧ (m / ((t : Int) + 2) ≤ P ∨ m / ((t : Int) + 2) = P + 1 ∧ (t : Int) + 2 ≤ K + 1)) ↔ (m % ((t : Int) + 2) = 0 ∧ m - m / ((t : Int) + 2) ≤ lk (m / ((t : Int) + 2)) ∧ (m / ((t : Int) + 2) ≤ P ∨ m / ((t : Int) + 2) = P + 1 ∧ (t : Int) + 2 ≤ K)) := by
          constructor
          · rintro ⟨a, b, c | c⟩
            · exact ⟨a, b, Or.inl c⟩
            · exact absurd ⟨a, c.1⟩ hx
          · rintro ⟨a, b, c | c⟩
            · exact ⟨a, b, Or.inl c⟩
            · exact absurd ⟨a, c.1⟩ hx
        simp only [e5]
    · have e3 : (K ≤ ((t + 1 : Nat) : Int)) ↔ (K ≤ (t : Int)) := by omega
      have e4 : ((t : Int) + 2 ≤ K + 1) ↔ ((t : Int) + 2 ≤ K) := by omega
      simp only [e3, e4]
      by_cases hA : m = (K + 1) * (P + 1) ∧ K * (P + 1) ≤ lk (P + 1) ∧ K ≤ (t : Int)
      · rw [if_pos hA, if_pos hA]
        split
        · omega
        · rfl
      · rw [if_neg hA, if_neg hA]
theorem q_it_next {lk inner : Int → Int} {P m : Int} (hm : 1 ≤ m) (hP : 0 ≤ P) : ∀ t : Nat, q_it lk inner (P + 1) 1 m t = q_it lk inner P ((t : Int) + 1) m t := by
  intro t
  have key : ∀ (t : Nat) (K : Int), (t : Int) + 1 ≤ K → q_it lk inner (P + 1) 1 m t = q_it lk inner P K m t := by
    intro t
    induction t with
    | zero => intro K _; rfl
    | succ t ih =>
      intro K hK
      simp only [q_it]
      rw [ih K (by omega)]
      congr 1
      apply propext
      constructor
      · rintro ⟨a, b, c | c⟩
        · by_cases hq : m / ((t : Int) + 2) ≤ P
          · exact ⟨a, b, Or.inl hq⟩
          · exact ⟨a, b, Or.inr ⟨by omega, by omega⟩⟩
        · omega
      · rintro ⟨a, b, c | c⟩
        · exact ⟨a, b, Or.inl (by omega)⟩
        · exact ⟨a, b, Or.inl (by omega)⟩
  exact key t _ (by omega)
