/-! class and reference, side by side -/
def S_ (D : Int) (M : gj_M) (h : Nat) (X : Int → Int) : Prop :=
  (∀ d : Int, 0 ≤ d → d < D → X (0 + d) = M (h + 1) d ∧ X (6 + d) = M (h + 2) d) ∧
  (∀ l : Int, 0 ≤ l → l < 4 → X (12 + l) = M (h + 3) l) ∧
  (∀ q : Int, 0 ≤ q → q < 5 → X (16 + 3 * q) = M (h + 4) q ∧ X (16 + 3 * q + 1) = M (h + 5) q ∧ X (16 + 3 * q + 2) = M (h + 6) q) ∧
  X 31 = M h 6 ∧ (∀ k : Int, 0 ≤ k → k < M h 6 → X (32 + k) = M (h + 7) k ∧ X (36 + k) = M (h + 8) k)
def W_ (M K : gj_M) (r : Nat) : Prop := c_I M ∧ y_I K r ∧ (K 69 4 = M 10 0 ∧ K 69 5 = M 10 1) ∧ (∀ l : Int, 0 ≤ l → l < M 10 1 → K 72 l = M 13 l ∧ ∀ g : Int, 0 ≤ g → g < M 13 l → K 71 (48 * l + g) = M 14 (l * 48 + g)) ∧ S_ (M 10 0) M 15 (K r)
theorem W_.xs {M K : gj_M} {r : Nat} (h : W_ M K r) {d : Int} (h0 : 0 ≤ d) (h1 : d < M 10 0) : K r (0 + d) = M 16 d ∧ K r (6 + d) = M 17 d := h.2.2.2.2.1 d h0 h1
theorem W_.dl {M K : gj_M} {r : Nat} (h : W_ M K r) {l : Int} (h0 : 0 ≤ l) (h1 : l < 4) : K r (12 + l) = M 18 l := h.2.2.2.2.2.1 l h0 h1
theorem W_.pn {M K : gj_M} {r : Nat} (h : W_ M K r) {q : Int} (h0 : 0 ≤ q) (h1 : q < 5) : K r (16 + 3 * q) = M 19 q ∧ K r (16 + 3 * q + 1) = M 20 q ∧ K r (16 + 3 * q + 2) = M 21 q := h.2.2.2.2.2.2.1 q h0 h1
theorem W_.sw {M K : gj_M} {r : Nat} (h : W_ M K r) : K r 31 = M 15 6 := h.2.2.2.2.2.2.2.1
theorem W_.st {M K : gj_M} {r : Nat} (h : W_ M K r) {k : Int} (h0 : 0 ≤ k) (h1 : k < M 15 6) : K r (32 + k) = M 22 k ∧ K r (36 + k) = M 23 k := h.2.2.2.2.2.2.2.2 k h0 h1
theorem W_.ex {M K : gj_M} {r : Nat} (h : W_ M K r) {l : Int} (h0 : 0 ≤ l) (h1 : l < M 10 1) (f : Int) : c_ex M l f = y_ex K r l f := by
  have hL := h.1.1
  have hs := h.2.2.2.1 l h0 h1
  unfold c_ex p_ex y_ex
  rw [h.dl h0 (by omega), hs.1]
  by_cases q : f - M 18 l < 0 ∨ M 13 l ≤ f - M 18 l
  · rw [if_pos q, if_neg (by omega)]
  · rw [if_neg q, if_pos (by omega)]
    exact (hs.2 _ (by omega) (by omega)).symm
theorem W_.wh {M K : gj_M} {r : Nat} (h : W_ M K r) {q : Int} (h0 : 0 ≤ q) (h1 : q < 5) (f : Int) : p_pan (M 19) (M 20) (M 21) q f = y_wh K r q f := by
  have hb := h.1.2.2.2.2.1 q h0 h1
  have hp := h.pn h0 h1
  unfold p_pan y_wh
  rw [hp.1, hp.2.1, hp.2.2, if_neg (by omega)]
theorem W_.ord {M K : gj_M} {r : Nat} (h : W_ M K r) (f : Int) : c_ord M f = y_ord K r f := by
  have hs := h.1.2.2.1
  have key : ∀ n : Nat, (n : Int) ≤ M 15 6 → (p_sf (M 22) f n < 0 ∧ y_lt K r f n = -1 ∧ y_od K r f n = p_fo (M 10 1).toNat) ∨ (0 ≤ p_sf (M 22) f n ∧ y_lt K r f n = M 22 (p_sf (M 22) f n) ∧ y_od K r f n = M 23 (p_sf (M 22) f n)) := by
    intro n
    induction n with
    | zero =>
      intro _
      refine Or.inl ⟨by show (-1 : Int) < 0; decide, rfl, ?_⟩
      show y_fo _ = _
      rw [y_fo_eq, h.2.2.1.2]
    | succ n ih =>
      intro hn
      have ih := ih (by omega)
      have hk := h.st (k := (n : Int)) (by omega) (by omega)
      have hb := (h.1.2.2.2.2.2.2.1 n (by omega) (by omega)).1
      have e1 : y_lt K r f (n + 1) = if K r (32 + n) ≤ f ∧ y_lt K r f n ≤ K r (32 + n) then K r (32 + n) else y_lt K r f n := rfl
      have e2 : y_od K r f (n + 1) = if K r (32 + n) ≤ f ∧ y_lt K r f n ≤ K r (32 + n) then K r (36 + n) else y_od K r f n := rfl
      have e3 : p_sf (M 22) f (n + 1) = if M 22 n ≤ f ∧ (p_sf (M 22) f n < 0 ∨ M 22 (p_sf (M 22) f n) ≤ M 22 n) then (n : Int) else p_sf (M 22) f n := rfl
      rw [hk.1] at e1 e2
      rw [hk.2] at e2
      rcases ih with ⟨a, b, c⟩ | ⟨a, b, c⟩
      · by_cases q : M 22 n ≤ f
        · rw [if_pos ⟨q, by omega⟩] at e1 e2
          rw [if_pos ⟨q, Or.inl a⟩] at e3
          exact Or.inr ⟨by omega, by rw [e1, e3], by rw [e2, e3]⟩
        · rw [if_neg (fun y => q y.1)] at e1 e2 e3
          exact Or.inl ⟨by omega, by omega, by rw [e2]; exact c⟩
      · by_cases q : M 22 n ≤ f ∧ M 22 (p_sf (M 22) f n) ≤ M 22 n
        · rw [if_pos ⟨q.1, by omega⟩] at e1 e2
          rw [if_pos ⟨q.1, Or.inr q.2⟩] at e3
          exact Or.inr ⟨by omega, by rw [e1, e3], by rw [e2, e3]⟩
        · rw [if_neg (fun y => q ⟨y.1, by omega⟩)] at e1 e2
          rw [if_neg (fun y => q ⟨y.1, y.2.resolve_left (by omega)⟩)] at e3
          exact Or.inr ⟨by omega, by rw [e1, e3]; exact b, by rw [e2, e3]; exact c⟩
  have := key (M 15 6).toNat (by omega)
  unfold c_ord p_or y_ord
  rw [h.sw]
  rcases this with ⟨a, b, c⟩ | ⟨a, b, c⟩
  · rw [if_neg (by omega), c]
  · rw [if_pos a, c]
theorem y_has_all : ∀ L : Nat, L ≤ 4 → ∀ l : Nat, l < L → y_has (y_all L) l = 1 := by decide
/-- what a level shows at a place, of those that some set holds -/
theorem W_.va {M K : gj_M} {r : Nat} (h : W_ M K r) {o f c sm rub rub' : Int} (i : Nat) (hl : 0 ≤ p_li (M 10 1) o i ∧ p_li (M 10 1) o i < M 10 1) (hr : (rub = -1 ∧ rub' = -9) ∨ (rub = rub' ∧ 0 ≤ rub)) : y_va K r o f c sm rub' i = if y_has sm (p_li (M 10 1) o i) = 1 then p_va (M 10 1) (M 10 0) o (M 18) (M 13) (M 14) (M 16) (M 17) (M 19) (M 20) (M 21) f c rub i else -9 := by
  have hL := h.1.1
  have hD := h.1.2.1
  have hx := y_ex_b h.2.1 (l := p_li (M 10 1) o i) (f := f) (by rw [h.2.2.1.2]; exact hl)
  have ex := h.ex hl.1 hl.2 f
  unfold c_ex at ex
  unfold y_va p_va
  rw [h.2.2.1.2]
  rw [h.2.2.1.1] at hx
  rw [← ex] at hx ⊢
  rw [← h.wh hl.1 (by omega), ← h.wh (q := 4) (by omega) (by omega)]
  generalize hd : p_ex (M 18) (M 13) (M 14) (p_li (M 10 1) o i) f = d at *
  by_cases z : d = -9
  · rw [if_neg (fun y => y.1.1 z)]
    split
    · rw [if_neg]
      intro y
      have := y.2
      unfold p_cw at this
      rw [if_neg (by omega)] at this
      omega
    · rfl
  · have hw := h.xs (d := d) (by omega) (by omega)
    rw [hw.1, hw.2]
    unfold p_cw
    by_cases q : y_has sm (p_li (M 10 1) o i) = 1
    · rw [if_pos q]
      by_cases w : (0 ≤ d ∧ d < M 10 0) ∧ M 16 d + p_pan (M 19) (M 20) (M 21) (p_li (M 10 1) o i) f ≤ c + p_pan (M 19) (M 20) (M 21) 4 f ∧ c + p_pan (M 19) (M 20) (M 21) 4 f < M 16 d + p_pan (M 19) (M 20) (M 21) (p_li (M 10 1) o i) f + M 17 d
      · rw [if_pos w]
        by_cases y : d = rub
        · have n1 : ¬ ((d ≠ -9 ∧ d ≠ rub' ∧ y_has sm (p_li (M 10 1) o i) = 1) ∧ M 16 d + p_pan (M 19) (M 20) (M 21) (p_li (M 10 1) o i) f ≤ c + p_pan (M 19) (M 20) (M 21) 4 f ∧ c + p_pan (M 19) (M 20) (M 21) 4 f ≤ M 16 d + p_pan (M 19) (M 20) (M 21) (p_li (M 10 1) o i) f + M 17 d - 1) := fun q => by have := q.1.2.1; omega
          rw [if_neg n1, if_neg (fun q => q.1 y)]
        · have n1 : ((d ≠ -9 ∧ d ≠ rub' ∧ y_has sm (p_li (M 10 1) o i) = 1) ∧ M 16 d + p_pan (M 19) (M 20) (M 21) (p_li (M 10 1) o i) f ≤ c + p_pan (M 19) (M 20) (M 21) 4 f ∧ c + p_pan (M 19) (M 20) (M 21) 4 f ≤ M 16 d + p_pan (M 19) (M 20) (M 21) (p_li (M 10 1) o i) f + M 17 d - 1) := ⟨⟨z, by omega, q⟩, by omega, by omega⟩
          rw [if_pos n1, if_pos ⟨y, rfl⟩]
      · have n1 : ¬ ((d ≠ -9 ∧ d ≠ rub' ∧ y_has sm (p_li (M 10 1) o i) = 1) ∧ M 16 d + p_pan (M 19) (M 20) (M 21) (p_li (M 10 1) o i) f ≤ c + p_pan (M 19) (M 20) (M 21) 4 f ∧ c + p_pan (M 19) (M 20) (M 21) 4 f ≤ M 16 d + p_pan (M 19) (M 20) (M 21) (p_li (M 10 1) o i) f + M 17 d - 1) := fun y => w ⟨by omega, by omega, by omega⟩
        have n2 : ¬ (d ≠ rub ∧ (0 : Int) = 1) := fun y => by omega
        rw [if_neg w, if_neg n1, if_neg n2]
    · rw [if_neg q, if_neg (fun y => q y.1.2.2)]
theorem W_.seen {M K : gj_M} {r : Nat} (h : W_ M K r) (f c : Int) {rub rub' : Int} (hr : (rub = -1 ∧ rub' = -9) ∨ (rub = rub' ∧ 0 ≤ rub)) : c_seen M f c rub = y_look K r f c (y_all (K 69 5)) rub' := by
  have hL := h.1.1
  have hod := h.1.od f
  unfold c_seen y_look
  rw [← h.ord f, h.2.2.1.2]
  apply p_first_congr
  intro i _ hi
  have hl2 := hod.2.1 i (by omega) (by omega)
  have hl1 := p_li_b (L := M 10 1) (i := (i : Int)) hod.1.1
  rw [h.va i ⟨hl1.1, hl2⟩ hr, if_pos]
  have := y_has_all (M 10 1).toNat (by omega) (p_li (M 10 1) (c_ord M f) i).toNat (by omega)
  rw [show ((M 10 1).toNat : Int) = M 10 1 by omega, show ((p_li (M 10 1) (c_ord M f) i).toNat : Int) = p_li (M 10 1) (c_ord M f) i by omega] at this
  exact this
theorem W_.mo {M K : gj_M} {r : Nat} (h : W_ M K r) (d : Int) : c_mo M d = y_mo K r d := by
  have hL := h.1.1
  unfold c_mo y_mo
  rw [h.2.2.1.2]
  exact p_mo_congr 48 (fun l f h1 _ => h.ex (by omega) (by omega) f)
theorem W_.cels {M K : gj_M} {r : Nat} (h : W_ M K r) : c_cels M = y_cels K r := by
  have hL := h.1.1
  unfold c_cels y_cels p_cels
  rw [h.2.2.1.1, h.2.2.1.2]
  exact p_sum_congr _ (fun d _ => p_mo_congr 48 (fun l f h1 _ => h.ex (by omega) (by omega) f))
theorem p_b_congr {c c' : Nat → Int} : ∀ n : Nat, (∀ k, k < n → c k = c' k) → p_bl c n = p_bl c' n ∧ p_bb c n = p_bb c' n := by
  intro n
  induction n with
  | zero => intro _; exact ⟨rfl, rfl⟩
  | succ n ih =>
    intro h
    have h1 := ih (fun k hk => h k (by omega))
    simp only [p_bl, p_bb]
    rw [h1.1, h1.2, h n (by omega)]
    exact ⟨rfl, rfl⟩
theorem W_.chg {M K : gj_M} (h : W_ M K 78) : ∀ n : Nat, c_chg M n = y_chg K n := by
  intro n
  induction n with
  | zero => rfl
  | succ n ih =>
    simp only [c_chg, y_chg]
    rw [ih, p_df_congr 10 (fun k _ => ⟨h.seen _ _ (Or.inl ⟨rfl, rfl⟩), h.seen _ _ (Or.inl ⟨rfl, rfl⟩)⟩)]
theorem W_.dlu {M K : gj_M} {r : Nat} (h : W_ M K r) (hr : r ≠ 69 ∧ r ≠ 71 ∧ r ≠ 72) {l v : Int} (hl : 0 ≤ l ∧ l < 4) (hv : 0 ≤ v ∧ v ≤ 9) : W_ (gj_u M 18 l v) (gj_u K r (12 + l) v) r := by
  obtain ⟨h1, h2, h3, h4, g1, g2, g3, g4, g5⟩ := h
  have e69 : ∀ i, gj_u K r (12 + l) v 69 i = K 69 i := fun i => gj_u_o hr.1.symm
  have e71 : gj_u K r (12 + l) v 71 = K 71 := funext fun i => gj_u_o hr.2.1.symm
  have e72 : gj_u K r (12 + l) v 72 = K 72 := funext fun i => gj_u_o hr.2.2.symm
  have hne : ∀ i : Int, i ≠ 12 + l → gj_u K r (12 + l) v r i = K r i := fun i hi => gj_u_i hi
  refine ⟨h1.dl hv, ?_, by rw [e69, e69]; exact h3, by rw [e71, e72]; exact h4, fun d d0 d1 => ?_, fun l' a b => ?_, fun q a b => ?_, ?_, fun k a b => ?_⟩
  · obtain ⟨i1, i2, i3, i4, i5, i6, i7, i8⟩ := h2
    unfold y_I
    rw [e69, e69, e71, e72]
    refine ⟨i1, i2, by rw [hne 31 (by omega)]; exact i3, fun l' a b => ⟨?_, (i4 l' a b).2⟩, fun q a b => ?_, fun d a b => ?_, fun k a b => ?_, i8⟩
    · unfold gj_u
      split
      · exact hv
      · exact (i4 l' a b).1
    · rw [hne _ (by omega), hne _ (by omega), hne _ (by omega)]; exact i5 q a b
    · rw [hne _ (by omega), hne _ (by omega)]; exact i6 d a b
    · rw [hne 31 (by omega)] at b
      rw [hne _ (by omega), hne _ (by omega)]; exact i7 k a b
  · have d2 : d < M 10 0 := d1
    have hD := h1.2.1
    rw [hne _ (by omega), hne _ (by omega)]; exact g1 d d0 d2
  · by_cases q : l' = l
    · rw [q, gj_u_s]; exact gj_u_s.symm
    · rw [hne _ (by omega), g2 l' a b]; exact (gj_u_i q).symm
  · rw [hne _ (by omega), hne _ (by omega), hne _ (by omega)]; exact g3 q a b
  · rw [hne _ (by omega)]; exact g4
  · have b2 : k < M 15 6 := b
    rw [hne _ (by omega), hne _ (by omega)]; exact g5 k a b2
theorem W_.best {M K : gj_M} (h : W_ M K 78) {l : Int} (hl : 0 ≤ l ∧ l < 4) : c_best M l = y_best K l := by
  unfold c_best y_best
  exact (p_b_congr 10 (fun v hv => (h.dlu (by decide) hl (v := (v : Int)) (by omega)).cels)).2
