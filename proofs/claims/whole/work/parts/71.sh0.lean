/-! the reference's shortest: words, and how they go with the class's -/
def y_W (F : Int → Int) (n : Int) : Nat → Int → Int → Int
  | 0, _, _ => 0
  | k + 1, a, b => if a < n ∧ b < n ∧ F a = F b then y_W F n k (a + 1) (b + 1) + 1 else 0
def y_Wt (F : Int → Int) (n a b : Int) : Int := y_W F n (49 - a).toNat a b
theorem y_Wt_s {F : Int → Int} {n a b : Int} (ha : a ≤ 48) : y_Wt F n a b = if a < n ∧ b < n ∧ F a = F b then y_Wt F n (a + 1) (b + 1) + 1 else 0 := by
  unfold y_Wt
  rw [show (49 - a).toNat = (49 - (a + 1)).toNat + 1 by omega]
  rfl
theorem y_W_b (F : Int → Int) (n : Int) : ∀ (k : Nat) (a b : Int), 0 ≤ y_W F n k a b ∧ y_W F n k a b ≤ k := by
  intro k
  induction k with
  | zero => intro a b; simp [y_W]
  | succ k ih => intro a b; have := ih (a + 1) (b + 1); simp only [y_W]; split <;> omega
theorem y_Wt_L {F : Int → Int} {n p : Int} (hn : n ≤ 48) (hp : 1 ≤ p) : ∀ (m : Nat) (a : Int), (n - p - a).toNat = m → 0 ≤ a → y_Wt F n a (a + p) = q_lk F p m a := by
  intro m
  induction m with
  | zero =>
    intro a hm ha
    by_cases h : a ≤ 48
    · rw [y_Wt_s h, if_neg (by omega)]; rfl
    · unfold y_Wt; rw [show (49 - a).toNat = 0 by omega]; rfl
  | succ m ih =>
    intro a hm ha
    rw [y_Wt_s (by omega)]
    simp only [q_lk]
    have := ih (a + 1) (by omega) (by omega)
    rw [show a + p + 1 = a + 1 + p by omega, this]
    by_cases q : F a = F (a + p)
    · rw [if_pos ⟨by omega, by omega, q⟩, if_pos q]
    · rw [if_neg (fun z => q z.2.2), if_neg q]
theorem q_lk_iff {F : Int → Int} {p : Int} : ∀ (m : Nat) (i c : Int), c ≤ m → (c ≤ q_lk F p m i ↔ ∀ g : Nat, (g : Int) < c → F (i + g) = F (i + g + p)) := by
  intro m
  induction m with
  | zero =>
    intro i c hc
    simp only [q_lk]
    constructor
    · intro h g hg; omega
    · intro _; omega
  | succ m ih =>
    intro i c hc
    simp only [q_lk]
    have hb := (q_lk_b F p m (i + 1)).1
    by_cases q : F i = F (i + p)
    · rw [if_pos q]
      have h1 := ih (i + 1) (c - 1) (by omega)
      constructor
      · intro h g hg
        cases g with
        | zero => simpa using q
        | succ g =>
          have := h1.mp (by omega) g (by omega)
          rw [show i + ((g + 1 : Nat) : Int) = i + 1 + g by omega]
          exact this
      · intro h
        have := h1.mpr (fun g hg => by
          have := h (g + 1) (by omega)
          rw [show i + ((g + 1 : Nat) : Int) = i + 1 + g by omega] at this
          exact this)
        omega
    · rw [if_neg q]
      constructor
      · intro h g hg; omega
      · intro h
        by_cases z : c ≤ 0
        · exact z
        · exact absurd (by simpa using h 0 (by omega)) q
/-- all of m frames from i are alike -/
def q_cs (F : Int → Int) (i : Int) (m : Nat) : Prop := ∀ g : Nat, g + 1 < m → F (i + g) = F (i + g + 1)
theorem q_pl_1 (F : Int → Int) (i : Int) : q_pl F i 1 = 2 ∧ q_rn F i 1 = 1 := by
  constructor
  · show (if 1 ≤ 0 ∧ _ then _ else _) = _; rw [if_neg (by omega)]; rfl
  · show (if 1 ≤ 0 ∧ _ then _ else _) = _; rw [if_neg (by omega)]
theorem q_pl_cs {F : Int → Int} {i : Int} : ∀ m : Nat, 1 ≤ m → m ≤ 9 → q_cs F i m → q_pl F i m = 2 ∧ q_rn F i m = m := by
  intro m
  induction m with
  | zero => intro h; omega
  | succ m ih =>
    intro _ h9 hc
    by_cases h0 : m = 0
    · subst h0; exact q_pl_1 F i
    · have h1 := ih (by omega) (by omega) (fun g hg => hc g (by omega))
      have h2 := hc (m - 1) (by omega)
      rw [show i + ((m - 1 : Nat) : Int) + 1 = i + m by omega, show i + ((m - 1 : Nat) : Int) = i + m - 1 by omega] at h2
      simp only [q_pl, q_rn]
      rw [if_pos ⟨by omega, by omega, h2.symm⟩, if_pos ⟨by omega, by omega, h2.symm⟩]
      omega
theorem q_pl_ev (F : Int → Int) (i : Int) : ∀ p : Nat, q_pl F i p % 2 = 0 := by
  intro p
  induction p with
  | zero => rfl
  | succ p ih => simp only [q_pl]; split <;> omega
/-- a first stretch and the rest never tell it shorter -/
theorem q_pl_le {F : Int → Int} {i : Int} {m : Nat} (hm : 1 ≤ m ∧ m ≤ 9) (hc : q_cs F i m) : ∀ d : Nat, q_pl F i (m + d) + 2 ≤ 2 + q_pl F (i + m) d ∨ (q_pl F i (m + d) = 2 + q_pl F (i + m) d ∧ (d = 0 ∨ q_rn F i (m + d) ≤ q_rn F (i + m) d)) := by
  intro d
  have hb := q_pl_cs m hm.1 hm.2 hc
  induction d with
  | zero => right; exact ⟨by rw [show m + 0 = m by omega, hb.1]; rfl, Or.inl rfl⟩
  | succ d ih =>
    have e1 : q_pl F i (m + (d + 1)) = if 1 ≤ m + d ∧ q_rn F i (m + d) < 9 ∧ F (i + (m + d : Nat)) = F (i + (m + d : Nat) - 1) then q_pl F i (m + d) else q_pl F i (m + d) + 2 := rfl
    have e2 : q_rn F i (m + (d + 1)) = if 1 ≤ m + d ∧ q_rn F i (m + d) < 9 ∧ F (i + (m + d : Nat)) = F (i + (m + d : Nat) - 1) then q_rn F i (m + d) + 1 else 1 := rfl
    have e3 : q_pl F (i + m) (d + 1) = if 1 ≤ d ∧ q_rn F (i + m) d < 9 ∧ F (i + m + d) = F (i + m + d - 1) then q_pl F (i + m) d else q_pl F (i + m) d + 2 := rfl
    have e4 : q_rn F (i + m) (d + 1) = if 1 ≤ d ∧ q_rn F (i + m) d < 9 ∧ F (i + m + d) = F (i + m + d - 1) then q_rn F (i + m) d + 1 else 1 := rfl
    have b1 := q_rn_b F i (m + d)
    have b2 := q_rn_b F (i + m) d
    have v1 := q_pl_ev F i (m + d)
    have v2 := q_pl_ev F (i + m) d
    rw [e1, e2, e3, e4, show i + ((m + d : Nat) : Int) = i + m + d by omega]
    by_cases q : F (i + m + d) = F (i + m + d - 1)
    · simp only [q, and_true]
      by_cases h0 : d = 0
      · subst h0
        rw [if_neg (show ¬ (1 ≤ 0 ∧ q_rn F (i + m) 0 < 9) by omega), if_neg (show ¬ (1 ≤ 0 ∧ q_rn F (i + m) 0 < 9) by omega)]
        have hb1 := hb.1
        have z : q_pl F (i + m) 0 = 0 := rfl
        simp only [Nat.add_zero]
        split
        · left; omega
        · right; exact ⟨by omega, Or.inr (by omega)⟩
      · by_cases r1 : q_rn F i (m + d) < 9
        · rw [if_pos (show 1 ≤ m + d ∧ q_rn F i (m + d) < 9 by omega), if_pos (show 1 ≤ m + d ∧ q_rn F i (m + d) < 9 by omega)]
          split
          · omega
          · omega
        · rw [if_neg (show ¬ (1 ≤ m + d ∧ q_rn F i (m + d) < 9) by omega), if_neg (show ¬ (1 ≤ m + d ∧ q_rn F i (m + d) < 9) by omega)]
          split
          · omega
          · omega
    · rw [if_neg (fun z => q z.2.2), if_neg (fun z => q z.2.2), if_neg (fun z => q z.2.2), if_neg (fun z => q z.2.2)]
      omega
/-- and one does as well -/
theorem q_pl_ex {F : Int → Int} {i : Int} : ∀ p : Nat, 1 ≤ p → ∃ m : Nat, 1 ≤ m ∧ m ≤ 9 ∧ m ≤ p ∧ q_cs F i m ∧ ((m = p ∧ q_pl F i p = 2 ∧ q_rn F i p = p) ∨ (m < p ∧ q_pl F i p = 2 + q_pl F (i + m) (p - m) ∧ q_rn F i p = q_rn F (i + m) (p - m))) := by
  intro p
  induction p with
  | zero => intro h; omega
  | succ p ih =>
    intro _
    by_cases h0 : p = 0
    · subst h0
      have := q_pl_1 F i
      exact ⟨1, by omega, by omega, by omega, fun g hg => by omega, Or.inl ⟨rfl, this.1, this.2⟩⟩
    · obtain ⟨m, m1, m9, mp, mc, hm⟩ := ih (by omega)
      have e1 : q_pl F i (p + 1) = if 1 ≤ p ∧ q_rn F i p < 9 ∧ F (i + p) = F (i + p - 1) then q_pl F i p else q_pl F i p + 2 := rfl
      have e2 : q_rn F i (p + 1) = if 1 ≤ p ∧ q_rn F i p < 9 ∧ F (i + p) = F (i + p - 1) then q_rn F i p + 1 else 1 := rfl
      rcases hm with ⟨rfl, ha, hb⟩ | ⟨hlt, ha, hb⟩
      · by_cases q : m < 9 ∧ F (i + m) = F (i + m - 1)
        · refine ⟨m + 1, by omega, by omega, by omega, fun g hg => ?_, Or.inl ⟨rfl, ?_, ?_⟩⟩
          · by_cases z : g + 1 < m
            · exact mc g z
            · rw [show i + (g : Int) + 1 = i + m by omega, show i + (g : Int) = i + m - 1 by omega]; exact q.2.symm
          · rw [e1, if_pos ⟨by omega, by omega, q.2⟩]; exact ha
          · rw [e2, if_pos ⟨by omega, by omega, q.2⟩]; omega
        · have hq : ¬ (1 ≤ m ∧ q_rn F i m < 9 ∧ F (i + m) = F (i + m - 1)) := fun z => q ⟨by omega, z.2.2⟩
          have h1 := q_pl_1 F (i + m)
          refine ⟨m, m1, m9, by omega, mc, Or.inr ⟨by omega, ?_, ?_⟩⟩
          · rw [e1, if_neg hq, ha, show m + 1 - m = 1 by omega, h1.1]
          · rw [e2, if_neg hq, show m + 1 - m = 1 by omega, h1.2]
      · refine ⟨m, m1, m9, by omega, mc, Or.inr ⟨by omega, ?_, ?_⟩⟩
        · obtain ⟨d, hd⟩ : ∃ d, p = m + d := ⟨p - m, by omega⟩
          subst hd
          rw [show m + d + 1 - m = d + 1 by omega]
          rw [show m + d - m = d by omega] at ha hb
          have e3 : q_pl F (i + m) (d + 1) = if 1 ≤ d ∧ q_rn F (i + m) d < 9 ∧ F (i + m + d) = F (i + m + d - 1) then q_pl F (i + m) d else q_pl F (i + m) d + 2 := rfl
          rw [e1, e3, show i + ((m + d : Nat) : Int) = i + m + d by omega, hb, ha]
          by_cases q : q_rn F (i + m) d < 9 ∧ F (i + m + d) = F (i + m + d - 1)
          · rw [if_pos ⟨by omega, q⟩, if_pos ⟨by omega, q⟩]
          · rw [if_neg (fun z => q z.2), if_neg (fun z => q z.2)]; omega
        · obtain ⟨d, hd⟩ : ∃ d, p = m + d := ⟨p - m, by omega⟩
          subst hd
          rw [show m + d + 1 - m = d + 1 by omega]
          rw [show m + d - m = d by omega] at ha hb
          have e4 : q_rn F (i + m) (d + 1) = if 1 ≤ d ∧ q_rn F (i + m) d < 9 ∧ F (i + m + d) = F (i + m + d - 1) then q_rn F (i + m) d + 1 else 1 := rfl
          rw [e2, e4, show i + ((m + d : Nat) : Int) = i + m + d by omega, hb]
          by_cases q : q_rn F (i + m) d < 9 ∧ F (i + m + d) = F (i + m + d - 1)
          · rw [if_pos ⟨by omega, q⟩, if_pos ⟨by omega, q⟩]
          · rw [if_neg (fun z => q z.2), if_neg (fun z => q z.2)]
theorem q_mn_le {it f : Int → Int} {m : Nat} (h1 : 1 ≤ m) (hi : it m < 1000) : ∀ t : Nat, m ≤ t → q_mn it f t ≤ it m + f m := by
  intro t
  induction t with
  | zero => intro h; omega
  | succ t ih =>
    intro h
    simp only [q_mn]
    by_cases q : m = t + 1
    · rw [show ((t : Int) + 1) = (m : Int) by omega, if_pos hi]; omega
    · have := ih (by omega)
      split <;> omega
theorem q_mn_ge {it f : Int → Int} {x : Int} (hx : x ≤ 1000) : ∀ t : Nat, (∀ m : Nat, 1 ≤ m → m ≤ t → it m < 1000 → x ≤ it m + f m) → x ≤ q_mn it f t := by
  intro t
  induction t with
  | zero => intro _; exact hx
  | succ t ih =>
    intro h
    have h1 := ih (fun m a b => h m a (by omega))
    simp only [q_mn]
    split
    · next hi =>
      have h2 := h (t + 1) (by omega) (by omega) (by rw [show ((t + 1 : Nat) : Int) = (t : Int) + 1 by omega]; exact hi)
      rw [show ((t + 1 : Nat) : Int) = (t : Int) + 1 by omega] at h2
      omega
    · exact h1
/-- told without any (: the least is what comes of going on as long as it is alike -/
theorem q_plain {F : Int → Int} {n : Int} {E : Int → Int → Int} (hn : n ≤ 48) (h0 : ∀ j : Int, 0 ≤ j → j ≤ n → E j 0 = 0) (hs : ∀ j p : Int, 0 ≤ j → 1 ≤ p → j + p ≤ n → E j p = q_mn (fun m => q_b (q_L F n j 1) m) (fun q => E (j + q) (p - q)) p.toNat) : ∀ (p : Nat) (j : Int), 0 ≤ j → j + p ≤ n → E j p = q_pl F j p := by
  intro p
  induction p using Nat.strongRecOn with
  | ind p ih =>
    intro j hj hp
    by_cases hp0 : p = 0
    · subst hp0; rw [show ((0 : Nat) : Int) = 0 from rfl, h0 j hj (by omega)]; rfl
    · rw [hs j p hj (by omega) (by omega), Int.toNat_natCast]
      have hb : ∀ m : Nat, 1 ≤ m → m ≤ p → (q_b (q_L F n j 1) m < 1000 ↔ m ≤ 9 ∧ q_cs F j m) := by
        intro m m1 mp
        have hc : (m : Int) - 1 ≤ q_L F n j 1 ↔ q_cs F j m := by
          unfold q_L
          rw [q_lk_iff _ _ _ (by omega)]
          constructor
          · intro h g hg; exact h g (by omega)
          · intro h g hg; exact h g (by omega)
        unfold q_b
        by_cases z : (m : Int) ≤ 9 ∧ (m : Int) - 1 ≤ q_L F n j 1
        · rw [if_pos z]; exact ⟨fun _ => ⟨by omega, hc.mp z.2⟩, fun _ => by omega⟩
        · rw [if_neg z]; exact ⟨fun q => by omega, fun q => absurd ⟨by omega, hc.mpr q.2⟩ z⟩
      have hv : ∀ m : Nat, q_b (q_L F n j 1) m < 1000 → q_b (q_L F n j 1) m = 2 := fun m h => by have := q_b_b (q_L F n j 1) m; omega
      have hb2 := q_pl_b F j p
      apply Int.le_antisymm
      · obtain ⟨m, m1, m9, mp, mc, hm⟩ := q_pl_ex (F := F) (i := j) p (by omega)
        have hi := (hb m m1 mp).mpr ⟨m9, mc⟩
        have h2 := q_mn_le (it := fun m => q_b (q_L F n j 1) m) (f := fun q => E (j + q) (p - q)) m1 hi p mp
        have h3 : E (j + m) ((p : Int) - m) = q_pl F (j + m) (p - m) := by
          have := ih (p - m) (by omega) (j + m) (by omega) (by omega)
          rw [show ((p - m : Nat) : Int) = (p : Int) - m by omega] at this
          exact this
        simp only [h3, hv m hi] at h2
        rcases hm with ⟨rfl, ha, _⟩ | ⟨_, ha, _⟩
        · rw [show m - m = 0 by omega] at h2
          have : q_pl F (j + m) 0 = 0 := rfl
          omega
        · omega
      · apply q_mn_ge (by omega)
        intro m m1 mp hi
        have hc := (hb m m1 mp).mp hi
        have h3 : E (j + m) ((p : Int) - m) = q_pl F (j + m) (p - m) := by
          have := ih (p - m) (by omega) (j + m) (by omega) (by omega)
          rw [show ((p - m : Nat) : Int) = (p : Int) - m by omega] at this
          exact this
        simp only [h3, hv m hi]
        have := q_pl_le (F := F) (i := j) ⟨m1, hc.1⟩ hc.2 (p - m)
        rw [show m + (p - m) = p by omega] at this
        omega
