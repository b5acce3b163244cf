/-! shares, chances: both sides are counts over sets of levels -/
theorem p_first_no {v : Nat → Int} : ∀ (n i : Nat), p_first v n i = -9 ↔ ∀ j : Nat, i ≤ j → j < i + n → v j = -9 := by
  intro n
  induction n with
  | zero => intro i; exact ⟨fun _ j h1 h2 => by omega, fun _ => rfl⟩
  | succ n ih =>
    intro i
    simp only [p_first]
    by_cases q : v i = -9
    · rw [if_pos q, ih (i + 1)]
      constructor
      · intro h j h1 h2
        by_cases z : j = i
        · rw [z]; exact q
        · exact h j (by omega) (by omega)
      · intro h j h1 h2
        exact h j (by omega) (by omega)
    · rw [if_neg q]
      exact ⟨fun h => absurd h q, fun h => absurd (h i (by omega) (by omega)) q⟩
theorem W_.lk {M K : gj_M} (h : W_ M K 78) (f c s : Int) : y_look K 78 f c s (-9) = -9 ↔ ∀ l : Nat, (l : Int) < M 10 1 → ¬ (y_has s l = 1 ∧ c_cw M l f c = 1) := by
  have hL := h.1.1
  have hod := h.1.od f
  unfold y_look
  rw [p_first_no, ← h.ord f, h.2.2.1.2]
  have hv : ∀ i : Nat, (i : Int) < M 10 1 → (y_va K 78 (c_ord M f) f c s (-9) i = -9 ↔ ¬ (y_has s (p_li (M 10 1) (c_ord M f) i) = 1 ∧ c_cw M (p_li (M 10 1) (c_ord M f) i) f c = 1)) := by
    intro i hi
    have hl2 := hod.2.1 i (by omega) hi
    have hl1 := p_li_b (L := M 10 1) (i := (i : Int)) hod.1.1
    rw [h.va (rub := -1) (rub' := -9) i ⟨hl1.1, hl2⟩ (Or.inl ⟨rfl, rfl⟩)]
    by_cases q : y_has s (p_li (M 10 1) (c_ord M f) i) = 1
    · rw [if_pos q]
      unfold p_va
      by_cases z : c_cw M (p_li (M 10 1) (c_ord M f) i) f c = 1
      · have z2 := z
        unfold c_cw at z
        have hd : 0 ≤ p_ex (M 18) (M 13) (M 14) (p_li (M 10 1) (c_ord M f) i) f := by
          unfold p_cw at z
          split at z
          · next w => exact w.1.1
          · omega
        rw [if_pos ⟨by omega, z⟩]
        exact ⟨fun w => by omega, fun w => absurd ⟨q, z2⟩ w⟩
      · rw [if_neg (fun w => z w.2)]
        exact ⟨fun _ w => z w.2, fun _ => rfl⟩
    · rw [if_neg q]
      exact ⟨fun _ w => q w.1, fun _ => rfl⟩
  constructor
  · intro hh l hl
    obtain ⟨i, i0, i1, e⟩ := hod.2.2 l (by omega) hl
    have := (hv i.toNat (by omega)).mp (hh i.toNat (by omega) (by omega))
    rw [show (i.toNat : Int) = i by omega, e] at this
    exact this
  · intro hh j _ hj
    have hl2 := hod.2.1 j (by omega) (by omega)
    have hl1 := p_li_b (L := M 10 1) (i := (j : Int)) hod.1.1
    refine (hv j (by omega)).mpr ?_
    have := hh (p_li (M 10 1) (c_ord M f) j).toNat (by omega)
    rw [show ((p_li (M 10 1) (c_ord M f) j).toNat : Int) = p_li (M 10 1) (c_ord M f) j by omega] at this
    exact this
theorem u_h_0 {m s : Nat} : ∀ n : Nat, u_h m s n = 0 ↔ ∀ l : Nat, l < n → ¬ (m / 2 ^ l % 2 = 1 ∧ s / 2 ^ l % 2 = 1) := by
  intro n
  induction n with
  | zero => exact ⟨fun _ l h => by omega, fun _ => rfl⟩
  | succ n ih =>
    simp only [u_h]
    by_cases q : m / 2 ^ n % 2 = 1 ∧ s / 2 ^ n % 2 = 1
    · rw [if_pos q]
      exact ⟨fun h => by omega, fun h => absurd q (h n (by omega))⟩
    · rw [if_neg q, ih]
      constructor
      · intro h l hl
        by_cases z : l = n
        · rw [z]; exact q
        · exact h l (by omega)
      · intro h l hl
        exact h l (by omega)
theorem u_h_01 (m s : Nat) : ∀ n : Nat, u_h m s n = 0 ∨ u_h m s n = 1 := by
  intro n
  induction n with
  | zero => exact Or.inl rfl
  | succ n ih =>
    simp only [u_h]
    split
    · exact Or.inr rfl
    · exact ih
/-- m tells which levels cover a place -/
def u_is (M : gj_M) (f c : Int) (m : Nat) : Prop := m < 16 ∧ ∀ n : Nat, n < 4 → c_cw M n f c = ((m / 2 ^ n % 2 : Nat) : Int)
theorem u_is_ex (M : gj_M) (f c : Int) : ∃ m : Nat, u_is M f c m := u_mask (b := fun n : Nat => c_cw M n f c) (fun n => c_cw_01 M n f c)
theorem u_is.h {M K : gj_M} {f c : Int} {m : Nat} (hm : u_is M f c m) (h : W_ M K 78) {s : Nat} (hs : s < 16) : y_look K 78 f c s (-9) = -9 ↔ u_h m s (M 10 1).toNat = 0 := by
  have hL := h.1.1
  rw [h.lk, u_h_0]
  constructor
  · intro hh l hl
    have := hh l (by omega)
    rw [u_has s hs l (by omega), hm.2 l (by omega)] at this
    intro z
    exact this ⟨by omega, by omega⟩
  · intro hh l hl
    rw [u_has s hs l (by omega), hm.2 l (by omega)]
    have := hh l (by omega)
    intro z
    exact this ⟨by omega, by omega⟩
theorem u_is.n {M : gj_M} {f c : Int} {m : Nat} (hm : u_is M f c m) : ∀ n : Nat, n ≤ 4 → p_sum (fun l : Nat => c_cw M l f c) n = (u_n m n : Int) := by
  intro n
  induction n with
  | zero => intro _; rfl
  | succ n ih =>
    intro hn
    simp only [p_sum, u_n]
    rw [ih (by omega), hm.2 n (by omega)]
    push_cast
    rfl
theorem u_is.lc {M : gj_M} {f c : Int} {m : Nat} (hm : u_is M f c m) (hI : c_I M) : c_lc M f c = (u_n m (M 10 1).toNat : Int) := by
  have hL := hI.1
  exact hm.n _ (by omega)
theorem u_o_b : ∀ L : Nat, L ≤ 4 → ∀ s : Nat, s < 2 ^ L → u_o s ≤ L := by
  intro L hL s hs
  have key : ∀ L : Nat, L < 5 → ∀ s : Nat, s < 16 → s < 2 ^ L → u_o s ≤ L := by decide
  have h16 : 2 ^ L ≤ 16 := Nat.pow_le_pow_right (n := 2) (by decide) hL
  exact key L (by omega) s (by omega) hs
theorem u_ul {M K : gj_M} (h : W_ M K 78) {f c : Int} {m : Nat} (hm : u_is M f c m) {x : Nat} (hx : x ≤ 10) : ∀ s : Nat, s ≤ 2 ^ (M 10 1).toNat → y_ul K f c x s = (u_L m (M 10 1).toNat x s : Int) := by
  have hL := h.1.1
  have h16 : 2 ^ (M 10 1).toNat ≤ 16 := Nat.pow_le_pow_right (n := 2) (j := 4) (by decide) (by omega)
  intro s
  induction s with
  | zero => intro _; rfl
  | succ s ih =>
    intro hs
    have ho := u_o_b (M 10 1).toNat (by omega) s (by omega)
    simp only [y_ul, u_L]
    rw [ih (by omega)]
    have hiff := hm.h h (s := s) (by omega)
    by_cases q : u_h m s (M 10 1).toNat = 0
    · rw [if_pos (hiff.mpr q), if_pos q]
      push_cast
      rfl
    · rw [if_neg (fun z => q (hiff.mp z)), if_neg q, u_o_eq s (by omega), h.2.2.1.2, show (10 : Int) - (x : Int) = ((10 - x : Nat) : Int) by omega, u_pw, u_pw, Int.toNat_natCast, show (M 10 1 - (u_o s : Int)).toNat = (M 10 1).toNat - u_o s by omega]
      push_cast
      rfl
theorem u_pow_le {x n : Nat} (hx : x ≤ 10) : x ^ n ≤ 10 ^ n := Nat.pow_le_pow_left hx n
theorem W_.up {M K : gj_M} (h : W_ M K 78) (f c : Int) {x : Int} (hx : 0 ≤ x ∧ x ≤ 10) : 0 ≤ y_ul K f c x (y_all (K 69 5) + 1).toNat ∧ y_ul K f c x (y_all (K 69 5) + 1).toNat ≤ 2147483647 ∧ ∀ u : Int, e_fp (e_pw 10 (c_lc M f c).toNat - e_pw x (c_lc M f c).toNat) (e_pw 10 (c_lc M f c).toNat) u = y_fp (y_ul K f c x (y_all (K 69 5) + 1).toNat) (e_pw 10 (K 69 5).toNat) u := by
  have hL := h.1.1
  obtain ⟨m, hm⟩ := u_is_ex M f c
  obtain ⟨x, rfl⟩ := Int.eq_ofNat_of_zero_le hx.1
  have hlb := c_lc_b h.1 f c
  have hal := u_all (M 10 1).toNat (by omega)
  rw [show ((M 10 1).toNat : Int) = M 10 1 by omega] at hal
  have hu := u_ul h hm (x := x) (by omega) (2 ^ (M 10 1).toNat) (Nat.le_refl _)
  have he := u_L_eq (L := (M 10 1).toNat) (m := m) (x := x) (by omega) hm.1 (by omega)
  have hn := hm.lc h.1
  rw [h.2.2.1.2, hal, Int.toNat_natCast, hu, hn, Int.toNat_natCast, show (10 : Int) = ((10 : Nat) : Int) from rfl, u_pw, u_pw, u_pw]
  generalize u_L m (M 10 1).toNat x (2 ^ (M 10 1).toNat) = A at *
  have hn4 : u_n m (M 10 1).toNat ≤ 4 := by omega
  generalize u_n m (M 10 1).toNat = n at *
  have hL4 : (M 10 1).toNat ≤ 4 := by omega
  generalize (M 10 1).toNat = L at *
  have hxn : x ^ n ≤ 10 ^ n := u_pow_le (by omega)
  have hp : 0 < 10 ^ n := Nat.pow_pos (by decide)
  have hpL : 0 < 10 ^ L := Nat.pow_pos (by decide)
  have h10 : 10 ^ n ≤ 10000 := Nat.pow_le_pow_right (n := 10) (j := 4) (by decide) hn4
  have h10L : 10 ^ L ≤ 10000 := Nat.pow_le_pow_right (n := 10) (j := 4) (by decide) hL4
  have hA : A ≤ 10 ^ L := by
    have h1 : A * 10 ^ n ≤ 10 ^ L * 10 ^ n := by
      rw [he, Nat.mul_comm (10 ^ L)]
      exact Nat.mul_le_mul_right _ (Nat.sub_le _ _)
    exact Nat.le_of_mul_le_mul_right h1 hp
  refine ⟨by omega, by omega, fun u => ?_⟩
  refine e_frac (by omega) (by omega) (by omega) ⟨by omega, by omega⟩ ?_
  rw [show ((10 ^ n : Nat) : Int) - ((x ^ n : Nat) : Int) = ((10 ^ n - x ^ n : Nat) : Int) by omega]
  exact_mod_cast he
theorem p_sum_add {g g' : Nat → Int} : ∀ n : Nat, p_sum (fun i => g i + g' i) n = p_sum g n + p_sum g' n := by
  intro n
  induction n with
  | zero => rfl
  | succ n ih => simp only [p_sum]; rw [ih]; omega
theorem p_sum_mul {g : Nat → Int} {k : Int} : ∀ n : Nat, p_sum (fun i => k * g i) n = k * p_sum g n := by
  intro n
  induction n with
  | zero => simp [p_sum]
  | succ n ih => simp only [p_sum]; rw [ih, Int.mul_add]
theorem p_sum_zero : ∀ n : Nat, p_sum (fun _ => 0) n = 0 := by
  intro n
  induction n with
  | zero => rfl
  | succ n ih => simp only [p_sum]; rw [ih]; rfl
def u_dd (g : Nat → Nat → Int) : Int := p_sum (fun f => p_sum (fun c => g f c) 10) 24
theorem u_dd_add (g g' : Nat → Nat → Int) : u_dd (fun f c => g f c + g' f c) = u_dd g + u_dd g' := by
  unfold u_dd
  rw [← p_sum_add]
  exact p_sum_congr _ (fun f _ => p_sum_add 10)
theorem u_dd_mul (k : Int) (g : Nat → Nat → Int) : u_dd (fun f c => k * g f c) = k * u_dd g := by
  unfold u_dd
  rw [← p_sum_mul]
  exact p_sum_congr _ (fun f _ => p_sum_mul 10)
theorem u_dd_congr {g g' : Nat → Nat → Int} (h : ∀ f c, g f c = g' f c) : u_dd g = u_dd g' := p_sum_congr _ (fun f _ => p_sum_congr _ (fun c _ => h f c))
theorem u_cov {M K : gj_M} (h : W_ M K 78) {mk : Nat → Nat → Nat} (hm : ∀ f c : Nat, u_is M f c (mk f c)) {s : Nat} (hs : s < 16) : y_cov K s = u_dd (fun f c => (u_h (mk f c) s (M 10 1).toNat : Int)) := by
  refine u_dd_congr (fun f c => ?_)
  have hiff := (hm f c).h h hs
  have h01 := u_h_01 (mk f c) s (M 10 1).toNat
  by_cases q : u_h (mk f c) s (M 10 1).toNat = 0
  · rw [if_pos (hiff.mpr q), q]; rfl
  · rw [if_neg (fun z => q (hiff.mp z)), h01.resolve_left q]; rfl
theorem u_lt_add : ∀ L : Nat, L ≤ 4 → ∀ l : Nat, l < L → ∀ s : Nat, s < 2 ^ L → s / 2 ^ l % 2 = 0 → s + 2 ^ l < 16 := by
  intro L hL l hl s hs h0
  have key : ∀ l : Nat, l < 4 → ∀ s : Nat, s < 16 → s / 2 ^ l % 2 = 0 → s + 2 ^ l < 16 := by decide
  have h16 : 2 ^ L ≤ 16 := Nat.pow_le_pow_right (n := 2) (by decide) hL
  exact key l (by omega) s (by omega) h0
theorem u_us {M K : gj_M} (h : W_ M K 78) {mk : Nat → Nat → Nat} (hm : ∀ f c : Nat, u_is M f c (mk f c)) {l : Nat} (hl : (l : Int) < M 10 1) : ∀ s : Nat, s ≤ 2 ^ (M 10 1).toNat → y_us K l s = u_dd (fun f c => u_S (mk f c) (M 10 1).toNat l s) := by
  have hL := h.1.1
  have h16 : 2 ^ (M 10 1).toNat ≤ 16 := Nat.pow_le_pow_right (n := 2) (j := 4) (by decide) (by omega)
  intro s
  induction s with
  | zero =>
    intro _
    show 0 = u_dd (fun f c => 0)
    unfold u_dd
    rw [p_sum_congr (g := fun f => p_sum (fun c => 0) 10) (g' := fun _ => 0) 24 (fun f _ => p_sum_zero 10), p_sum_zero]
  | succ s ih =>
    intro hs
    have ho := u_o_b (M 10 1).toNat (by omega) s (by omega)
    have ih := ih (by omega)
    have e1 : u_dd (fun f c => u_S (mk f c) (M 10 1).toNat l (s + 1)) = u_dd (fun f c => u_S (mk f c) (M 10 1).toNat l s) + u_dd (fun f c => if s / 2 ^ l % 2 = 0 then ((u_f (u_o s) * u_f ((M 10 1).toNat - 1 - u_o s) : Nat) : Int) * ((u_h (mk f c) (s + 2 ^ l) (M 10 1).toNat : Int) - (u_h (mk f c) s (M 10 1).toNat : Int)) else 0) := by
      rw [← u_dd_add]
      exact u_dd_congr (fun f c => rfl)
    rw [e1]
    simp only [y_us]
    rw [ih]
    congr 1
    rw [u_has s (by omega) l (by omega)]
    by_cases q : s / 2 ^ l % 2 = 0
    · have ha := u_lt_add (M 10 1).toNat (by omega) l (by omega) s (by omega) q
      have e2 : u_dd (fun f c => if s / 2 ^ l % 2 = 0 then ((u_f (u_o s) * u_f ((M 10 1).toNat - 1 - u_o s) : Nat) : Int) * ((u_h (mk f c) (s + 2 ^ l) (M 10 1).toNat : Int) - (u_h (mk f c) s (M 10 1).toNat : Int)) else 0) = ((u_f (u_o s) * u_f ((M 10 1).toNat - 1 - u_o s) : Nat) : Int) * (u_dd (fun f c => (u_h (mk f c) (s + 2 ^ l) (M 10 1).toNat : Int)) - u_dd (fun f c => (u_h (mk f c) s (M 10 1).toNat : Int))) := by
        have e3 : u_dd (fun f c => (u_h (mk f c) (s + 2 ^ l) (M 10 1).toNat : Int)) - u_dd (fun f c => (u_h (mk f c) s (M 10 1).toNat : Int)) = u_dd (fun f c => (u_h (mk f c) (s + 2 ^ l) (M 10 1).toNat : Int) - (u_h (mk f c) s (M 10 1).toNat : Int)) := by
          have := u_dd_add (fun f c => (u_h (mk f c) (s + 2 ^ l) (M 10 1).toNat : Int) - (u_h (mk f c) s (M 10 1).toNat : Int)) (fun f c => (u_h (mk f c) s (M 10 1).toNat : Int))
          rw [u_dd_congr (g' := fun f c => (u_h (mk f c) (s + 2 ^ l) (M 10 1).toNat : Int)) (fun f c => by omega)] at this
          omega
        rw [e3, ← u_dd_mul]
        exact u_dd_congr (fun f c => if_pos q)
      rw [e2, if_pos (by rw [q]; rfl), u_or s (by omega) l (by omega) q, u_cov h hm ha, u_cov h hm (by omega), u_o_eq s (by omega), Int.toNat_natCast, h.2.2.1.2, show (M 10 1 - 1 - (u_o s : Int)).toNat = (M 10 1).toNat - 1 - u_o s by omega, u_f_eq, u_f_eq]
      push_cast
      rfl
    · rw [if_neg (by omega)]
      have e2 : u_dd (fun f c => if s / 2 ^ l % 2 = 0 then ((u_f (u_o s) * u_f ((M 10 1).toNat - 1 - u_o s) : Nat) : Int) * ((u_h (mk f c) (s + 2 ^ l) (M 10 1).toNat : Int) - (u_h (mk f c) s (M 10 1).toNat : Int)) else 0) = u_dd (fun f c => 0 * 0) := u_dd_congr (fun f c => by rw [if_neg q]; rfl)
      rw [e2, u_dd_mul, Int.zero_mul]
theorem W_.sh {M K : gj_M} (h : W_ M K 78) {l : Int} (hl : 0 ≤ l ∧ l < M 10 1) : 0 ≤ y_us K l (y_all (K 69 5) + 1).toNat ∧ y_us K l (y_all (K 69 5) + 1).toNat ≤ 2147483647 ∧ ∀ u : Int, e_fp (c_share M l) 12 u = y_fp (y_us K l (y_all (K 69 5) + 1).toNat) (y_fc (K 69 5).toNat) u := by
  have hL := h.1.1
  obtain ⟨l, rfl⟩ := Int.eq_ofNat_of_zero_le hl.1
  have hsb := c_share_b h.1 (l : Int)
  have hal := u_all (M 10 1).toNat (by omega)
  rw [show ((M 10 1).toNat : Int) = M 10 1 by omega] at hal
  obtain ⟨mk, hm⟩ : ∃ mk : Nat → Nat → Nat, ∀ f c : Nat, u_is M f c (mk f c) := ⟨fun f c => (u_is_ex M f c).choose, fun f c => (u_is_ex M f c).choose_spec⟩
  have hu := u_us h hm (l := l) hl.2 (2 ^ (M 10 1).toNat) (Nat.le_refl _)
  have hfc := y_fc_b (M 10 1).toNat (by omega)
  have hf := u_f_eq (M 10 1).toNat
  have key : 12 * y_us K l (2 ^ (M 10 1).toNat) = y_fc (M 10 1).toNat * c_share M l := by
    rw [hu, ← u_dd_mul, hf]
    have e : c_share M l = u_dd (fun f c => c_sh M l f c) := rfl
    rw [e, ← u_dd_mul]
    refine u_dd_congr (fun f c => ?_)
    rw [u_S_eq (L := (M 10 1).toNat) (by omega) (hm f c).1 (by omega)]
    congr 1
    unfold c_sh
    rw [(hm f c).2 l (by omega), (hm f c).lc h.1]
    by_cases q : mk f c / 2 ^ l % 2 = 1
    · rw [if_pos q, if_pos (by omega)]
      exact Int.natCast_ediv 12 _
    · rw [if_neg q, if_neg (by omega)]
  rw [h.2.2.1.2, hal, Int.toNat_natCast]
  generalize y_us K l (2 ^ (M 10 1).toNat) = A at *
  generalize y_fc (M 10 1).toNat = B at *
  generalize c_share M l = S at *
  have hBS : 0 ≤ B * S := Int.mul_nonneg (by omega) hsb.1
  have hBS2 : B * S ≤ 24 * 2880 := by
    have h1 : B * S ≤ 24 * S := Int.mul_le_mul_of_nonneg_right hfc.2 hsb.1
    omega
  refine ⟨by omega, by omega, fun u => ?_⟩
  refine e_frac (by omega) (by omega) hsb.1 ⟨by decide, by decide⟩ ?_
  rw [Int.mul_comm A 12, key, Int.mul_comm]
