/-! the reference's reader: words, and how it goes with the class's -/
def y_fg (M : gj_M) (a b : Int) : Int := if M 69 3 < M 69 2 ∧ a ≤ M 70 (M 69 3) - 48 ∧ M 70 (M 69 3) - 48 ≤ b then M 70 (M 69 3) - 48 else -9
def y_fm (M : gj_M) (a b : Int) : gj_M := if M 69 3 < M 69 2 ∧ a ≤ M 70 (M 69 3) - 48 ∧ M 70 (M 69 3) - 48 ≤ b then gj_u M 69 3 (M 69 3 + 1) else M
def y_ap (M : gj_M) (d : Int) : gj_M := if M 74 (M 69 9) < 48 then gj_u (gj_u M 73 (48 * M 69 9 + M 74 (M 69 9)) d) 74 (M 69 9) (M 74 (M 69 9) + 1) else M
def y_ho (M : gj_M) (d : Int) : Nat → gj_M
  | 0 => M
  | n + 1 => y_ap (y_ho M d n) d
def y_r1 (M : gj_M) (st : Int) : Nat → gj_M
  | 0 => M
  | j + 1 => y_ap (y_r1 M st j) (y_r1 M st j 73 (48 * y_r1 M st j 69 9 + (st + j)))
def y_rp (M : gj_M) (st : Int) (len : Nat) : Nat → gj_M
  | 0 => M
  | k + 1 => y_r1 (y_rp M st len k) st len
def y_RI (M : gj_M) : Prop := (0 ≤ M 69 9 ∧ M 69 9 < 4) ∧ 0 ≤ M 74 (M 69 9) ∧ M 74 (M 69 9) ≤ 48
theorem y_ap_9 (M : gj_M) (d : Int) (i : Int) : y_ap M d 69 i = M 69 i := by
  unfold y_ap
  split <;> rfl
theorem y_ap_E (M : gj_M) (d : Int) : gj_E [73, 74] M (y_ap M d) := by
  unfold y_ap
  split
  · exact (gj_E.u (by decide)).u2 (by decide)
  · exact gj_E.rf
theorem y_ap_RI {M : gj_M} {d : Int} (h : y_RI M) : y_RI (y_ap M d) := by
  obtain ⟨h1, h2⟩ := h
  unfold y_RI
  rw [y_ap_9]
  refine ⟨h1, ?_⟩
  unfold y_ap
  split
  · rw [gj_u_s]; omega
  · exact h2
theorem y_ho_RI {M : gj_M} {d : Int} (h : y_RI M) : ∀ n, y_RI (y_ho M d n) := by
  intro n
  induction n with
  | zero => exact h
  | succ n ih => exact y_ap_RI ih
theorem y_r1_RI {M : gj_M} {st : Int} (h : y_RI M) : ∀ n, y_RI (y_r1 M st n) := by
  intro n
  induction n with
  | zero => exact h
  | succ n ih => exact y_ap_RI ih
theorem y_rp_RI {M : gj_M} {st : Int} {len : Nat} (h : y_RI M) : ∀ n, y_RI (y_rp M st len n) := by
  intro n
  induction n with
  | zero => exact h
  | succ n ih => exact y_r1_RI ih len
theorem y_ho_full {M : gj_M} {d : Int} {k : Nat} (h : ¬ y_ho M d k 74 (y_ho M d k 69 9) < 48) : ∀ n : Nat, y_ho M d (k + n) = y_ho M d k := by
  intro n
  induction n with
  | zero => rfl
  | succ n ih =>
    show y_ap (y_ho M d (k + n)) d = _
    rw [ih]
    exact if_neg h
theorem y_ho_E (M : gj_M) (d : Int) : ∀ n, gj_E [73, 74] M (y_ho M d n) := by
  intro n
  induction n with
  | zero => exact gj_E.rf
  | succ n ih => exact ih.tr (y_ap_E _ _)
theorem y_r1_E (M : gj_M) (st : Int) : ∀ n, gj_E [73, 74] M (y_r1 M st n) := by
  intro n
  induction n with
  | zero => exact gj_E.rf
  | succ n ih => exact ih.tr (y_ap_E _ _)
theorem y_rp_E (M : gj_M) (st : Int) (len : Nat) : ∀ n, gj_E [73, 74] M (y_rp M st len n) := by
  intro n
  induction n with
  | zero => exact gj_E.rf
  | succ n ih => exact ih.tr (y_r1_E _ _ _)
/-! side by side -/
def v_R (A M1 : gj_M) : Prop := ∀ l : Int, 0 ≤ l → l < A 3 1 → M1 74 l = A 6 l ∧ ∀ g : Int, 0 ≤ g → g < A 6 l → M1 73 (48 * l + g) = A 7 (l * 48 + g)
theorem r_ap_67 (A : gj_M) (d : Int) : gj_E [6, 7] A (r_ap A d) := by
  unfold r_ap
  split
  · exact gj_E.rf
  · exact (gj_E.u (by decide)).u2 (by decide)
theorem r_ap_up {A : gj_M} {d : Int} (l : Int) : A 6 l ≤ r_ap A d 6 l := by
  unfold r_ap
  split
  · omega
  · by_cases q : l = A 3 1 - 1
    · rw [q, gj_u_s]; omega
    · rw [gj_u_i q, gj_u_o (by decide)]; omega
theorem v_ap {A M1 : gj_M} {d : Int} (hA : r_I A) (hl : A 3 1 = M1 69 9 + 1) (h0 : 0 ≤ M1 69 9) (h : v_R A M1) : v_R (r_ap A d) (y_ap M1 d) := by
  have hb := hA.2.1
  have e : A 3 1 - 1 = M1 69 9 := by omega
  have hL := h (M1 69 9) h0 (by omega)
  have hl6 := hA.2.2.2.2.1 (M1 69 9) h0 (by omega)
  unfold r_ap y_ap
  rw [e, hL.1]
  by_cases q : A 6 (M1 69 9) < 48
  · rw [if_neg (by omega), if_pos q]
    intro l z0 z1
    have z2 : l < A 3 1 := z1
    have hh := h l z0 z2
    have hl7 := hA.2.2.2.2.1 l z0 (by omega)
    by_cases ql : l = M1 69 9
    · subst ql
      rw [gj_u_s, gj_u_s]
      refine ⟨rfl, fun g g0 g1 => ?_⟩
      rw [gj_u_o (show (73 : Nat) ≠ 74 by decide), gj_u_o (show (7 : Nat) ≠ 6 by decide)]
      by_cases qg : g = A 6 (M1 69 9)
      · rw [qg, gj_u_s, gj_u_s]
      · rw [gj_u_i (by omega), gj_u_i (by omega)]
        exact hh.2 g g0 (by omega)
    · rw [gj_u_i ql, gj_u_i ql, gj_u_o (show (74 : Nat) ≠ 73 by decide), gj_u_o (show (6 : Nat) ≠ 7 by decide)]
      refine ⟨hh.1, fun g g0 g1 => ?_⟩
      rw [gj_u_o (show (73 : Nat) ≠ 74 by decide), gj_u_o (show (7 : Nat) ≠ 6 by decide), gj_u_i (by omega), gj_u_i (by omega)]
      exact hh.2 g g0 g1
  · rw [if_pos (by omega), if_neg q]
    exact h
theorem v_ho {A M1 : gj_M} {d : Int} (hA : r_I A) (hl : A 3 1 = M1 69 9 + 1) (h0 : 0 ≤ M1 69 9) (h : v_R A M1) : ∀ n, v_R (r_ho A d n) (y_ho M1 d n) ∧ r_ho A d n 3 1 = y_ho M1 d n 69 9 + 1 ∧ 0 ≤ y_ho M1 d n 69 9 := by
  intro n
  induction n with
  | zero => exact ⟨h, hl, h0⟩
  | succ n ih =>
    refine ⟨v_ap (r_ho_I hA n) ih.2.1 ih.2.2 ih.1, ?_, ?_⟩
    · show r_ap _ _ 3 1 = y_ap _ _ 69 9 + 1
      rw [y_ap_9, r_ap_67 _ _ 3 (by decide)]; exact ih.2.1
    · show 0 ≤ y_ap _ _ 69 9
      rw [y_ap_9]; exact ih.2.2
theorem v_r1 {A M1 : gj_M} {st L : Int} {len : Nat} (hA : r_I A) (h0 : 0 ≤ M1 69 9) (hL : M1 69 9 = L) (hl : A 3 1 = M1 69 9 + 1) (h : v_R A M1) (hs : 0 ≤ st) (hn : ∀ j : Nat, j < len → st + j < A 6 L) : ∀ n, n ≤ len → v_R (r_r1 A (L * 48) st n) (y_r1 M1 st n) ∧ r_r1 A (L * 48) st n 3 1 = L + 1 ∧ y_r1 M1 st n 69 9 = L ∧ A 6 L ≤ r_r1 A (L * 48) st n 6 L := by
  intro n
  induction n with
  | zero => intro _; exact ⟨h, by rw [← hL]; exact hl, hL, Int.le_refl _⟩
  | succ n ih =>
    intro hle
    have ih := ih (by omega)
    have hL0 : 0 ≤ L := by omega
    have e : r_r1 A (L * 48) st n 7 (L * 48 + (st + n)) = y_r1 M1 st n 73 (48 * y_r1 M1 st n 69 9 + (st + n)) := by
      rw [ih.2.2.1]
      have hj := hn n (by omega)
      exact ((ih.1 L hL0 (by omega)).2 (st + n) (by omega) (by omega)).symm
    refine ⟨?_, ?_, ?_, ?_⟩
    · show v_R (r_ap _ _) (y_ap _ _)
      rw [e]
      exact v_ap (r_r1_I hA n) (by omega) (by omega) ih.1
    · show r_ap _ _ 3 1 = _
      rw [r_ap_67 _ _ 3 (by decide)]; exact ih.2.1
    · show y_ap _ _ 69 9 = _
      rw [y_ap_9]; exact ih.2.2.1
    · exact Int.le_trans ih.2.2.2 (r_ap_up L)
theorem v_rp {A M1 : gj_M} {st L : Int} {len : Nat} (hA : r_I A) (h0 : 0 ≤ M1 69 9) (hL : M1 69 9 = L) (hl : A 3 1 = M1 69 9 + 1) (h : v_R A M1) (hs : 0 ≤ st) (hn : ∀ j : Nat, j < len → st + j < A 6 L) : ∀ k, v_R (r_rp A (L * 48) st len k) (y_rp M1 st len k) ∧ r_rp A (L * 48) st len k 3 1 = L + 1 ∧ y_rp M1 st len k 69 9 = L ∧ A 6 L ≤ r_rp A (L * 48) st len k 6 L := by
  intro k
  induction k with
  | zero => exact ⟨h, by rw [← hL]; exact hl, hL, Int.le_refl _⟩
  | succ k ih =>
    have hh := v_r1 (r_rp_I hA k) (by omega) ih.2.2.1 (by omega) ih.1 hs (fun j hj => by have := hn j hj; have := ih.2.2.2; omega) len (Nat.le_refl _)
    exact ⟨hh.1, hh.2.1, hh.2.2.1, Int.le_trans ih.2.2.2 hh.2.2.2⟩
theorem r_ho_67 (A : gj_M) (d : Int) : ∀ n, gj_E [6, 7] A (r_ho A d n) := by
  intro n
  induction n with
  | zero => exact gj_E.rf
  | succ n ih => exact ih.tr (r_ap_67 _ _)
theorem r_r1_67 (A : gj_M) (sh st : Int) : ∀ n, gj_E [6, 7] A (r_r1 A sh st n) := by
  intro n
  induction n with
  | zero => exact gj_E.rf
  | succ n ih => exact ih.tr (r_ap_67 _ _)
theorem r_rp_67 (A : gj_M) (sh st : Int) (len : Nat) : ∀ n, gj_E [6, 7] A (r_rp A sh st len n) := by
  intro n
  induction n with
  | zero => exact gj_E.rf
  | succ n ih => exact ih.tr (r_r1_67 _ _ _ _)
def y_Lb (M : gj_M) : Prop := ∀ l : Int, 0 ≤ l → l < 4 → 0 ≤ M 74 l ∧ M 74 l ≤ 48
theorem y_ap_Lb {M : gj_M} {d : Int} (h : y_Lb M) : y_Lb (y_ap M d) := by
  intro l h0 h4
  have := h l h0 h4
  unfold y_ap
  split
  · by_cases q : l = M 69 9
    · rw [q, gj_u_s]
      rw [q] at this
      omega
    · rw [gj_u_i q, gj_u_o (by decide)]; exact this
  · exact this
theorem y_ho_Lb {M : gj_M} {d : Int} (h : y_Lb M) : ∀ n, y_Lb (y_ho M d n) := by
  intro n
  induction n with
  | zero => exact h
  | succ n ih => exact y_ap_Lb ih
theorem y_r1_Lb {M : gj_M} {st : Int} (h : y_Lb M) : ∀ n, y_Lb (y_r1 M st n) := by
  intro n
  induction n with
  | zero => exact h
  | succ n ih => exact y_ap_Lb ih
theorem y_rp_Lb {M : gj_M} {st : Int} {len : Nat} (h : y_Lb M) : ∀ n, y_Lb (y_rp M st len n) := by
  intro n
  induction n with
  | zero => exact h
  | succ n ih => exact y_r1_Lb ih len
theorem y_Lb.o {M M1 : gj_M} (h : M1 74 = M 74) : y_Lb M → y_Lb M1 := fun q l a b => by rw [h]; exact q l a b
def v_F (M M1 : gj_M) : Prop := gj_E [69, 73, 74, 75, 76, 77] M M1 ∧ (∀ i : Int, i ≠ 3 → i ≠ 8 → i ≠ 9 → M1 69 i = M 69 i) ∧ (y_Lb M → y_Lb M1)
def v_P (A M1 : gj_M) : Prop := M1 69 8 = A 3 0 ∧ (∀ d : Int, 0 ≤ d → d < A 3 0 → M1 75 (0 + d) = A 4 d ∧ M1 75 (6 + d) = A 5 d) ∧ (∀ d : Int, 0 ≤ d → d < 6 → (0 ≤ M1 75 (0 + d) ∧ M1 75 (0 + d) ≤ 9) ∧ 0 ≤ M1 75 (6 + d) ∧ M1 75 (6 + d) ≤ 5) ∧ ∀ i : Int, 12 ≤ i → i < 40 → M1 75 i = y_fi i
def v_B (M A M1 : gj_M) (p : Nat) : Prop := v_F M M1 ∧ v_P A M1 ∧ v_R A M1 ∧ r_I A ∧ M1 69 3 = (p : Int)
theorem v_F.u {M M1 : gj_M} (h : v_F M M1) {k : Nat} {i v : Int} (hk : k ∈ [73, 75, 76, 77]) : v_F M (gj_u M1 k i v) := by
  refine ⟨h.1.u2 (by simp at hk ⊢; omega), fun j a b c => ?_, fun q => y_Lb.o (M := M1) (by funext j; rw [gj_u_o (by simp at hk; omega)]) (h.2.2 q)⟩
  rw [gj_u_o (by simp at hk; omega)]
  exact h.2.1 j a b c
theorem v_F.u4 {M M1 : gj_M} (h : v_F M M1) {i : Int} : v_F M (gj_u M1 74 i 0) := by
  refine ⟨h.1.u2 (by decide), fun j a b c => h.2.1 j a b c, fun q l a b => ?_⟩
  by_cases z : l = i
  · rw [z, gj_u_s]; omega
  · rw [gj_u_i z]; exact h.2.2 q l a b
theorem v_F.f {M M1 : gj_M} (h : v_F M M1) {i v : Int} (hi : i = 3 ∨ i = 8 ∨ i = 9) : v_F M (gj_u M1 69 i v) := by
  refine ⟨h.1.u2 (by decide), fun j a b c => ?_, fun q => y_Lb.o (M := M1) (by funext j; rw [gj_u_o (by decide)]) (h.2.2 q)⟩
  rw [gj_u_i (by omega)]
  exact h.2.1 j a b c
theorem v_F.e {M M1 M2 : gj_M} (h : v_F M M1) (hE : gj_E [73, 74] M1 M2) (hb : y_Lb M1 → y_Lb M2) : v_F M M2 :=
  ⟨h.1.tr (hE.mono (by decide)), fun j a b c => by rw [hE 69 (by decide)]; exact h.2.1 j a b c, fun q => hb (h.2.2 q)⟩
/-- the reader's own words are others -/
theorem v_B.p {M A A' M1 : gj_M} {p q : Nat} {v : Int} (h : v_B M A M1 p) (hI : r_I A') (he : ∀ k ∈ [3, 4, 5, 6, 7], A' k = A k) (hv : v = (q : Int)) : v_B M A' (gj_u M1 69 3 v) q := by
  obtain ⟨h1, h2, h3, h4, h5⟩ := h
  refine ⟨h1.f (by decide), ?_, ?_, hI, by rw [gj_u_s, hv]⟩
  · unfold v_P at h2 ⊢
    rw [he 3 (by decide), he 4 (by decide), he 5 (by decide)]
    exact h2
  · unfold v_R at h3 ⊢
    rw [he 3 (by decide), he 6 (by decide), he 7 (by decide)]
    exact h3
theorem v_B.q {M A A' M1 : gj_M} {p : Nat} (h : v_B M A M1 p) (hI : r_I A') (he : ∀ k ∈ [3, 4, 5, 6, 7], A' k = A k) : v_B M A' M1 p := by
  obtain ⟨h1, h2, h3, h4, h5⟩ := h
  refine ⟨h1, ?_, ?_, hI, h5⟩
  · unfold v_P at h2 ⊢
    rw [he 3 (by decide), he 4 (by decide), he 5 (by decide)]
    exact h2
  · unfold v_R at h3 ⊢
    rw [he 3 (by decide), he 6 (by decide), he 7 (by decide)]
    exact h3
theorem v_B.m {M A M1 : gj_M} {p k : Nat} {i v : Int} (h : v_B M A M1 p) (hk : k = 76 ∨ k = 77) : v_B M A (gj_u M1 k i v) p := by
  obtain ⟨h1, h2, h3, h4, h5⟩ := h
  rcases hk with rfl | rfl
  · exact ⟨h1.u (by decide), h2, h3, h4, h5⟩
  · exact ⟨h1.u (by decide), h2, h3, h4, h5⟩
theorem v_B.x {M A A' M1 M2 : gj_M} {p : Nat} (h : v_B M A M1 p) (hE : gj_E [73, 74] M1 M2) (hA : gj_E [6, 7] A A') (hI : r_I A') (hR : v_R A' M2) (hb : y_Lb M1 → y_Lb M2) : v_B M A' M2 p := by
  obtain ⟨h1, h2, h3, h4, h5⟩ := h
  have e69 : ∀ i, M2 69 i = M1 69 i := fun i => hE 69 (by decide) i
  have e75 : ∀ i, M2 75 i = M1 75 i := fun i => hE 75 (by decide) i
  have a3 : ∀ i, A' 3 i = A 3 i := fun i => hA 3 (by decide) i
  have a4 : ∀ i, A' 4 i = A 4 i := fun i => hA 4 (by decide) i
  have a5 : ∀ i, A' 5 i = A 5 i := fun i => hA 5 (by decide) i
  refine ⟨h1.e hE hb, ?_, hR, hI, by rw [e69]; exact h5⟩
  obtain ⟨g1, g2, g3, g4⟩ := h2
  refine ⟨by rw [e69, a3]; exact g1, fun d d0 d1 => ?_, fun d d0 d1 => ?_, fun i i0 i1 => by rw [e75]; exact g4 i i0 i1⟩
  · rw [a3] at d1
    rw [e75, e75, a4, a5]; exact g2 d d0 d1
  · rw [e75, e75]; exact g3 d d0 d1
/-! steps of the first fault -/
theorem ff_go {A : gj_M} {t : Int → Int} {N p : Nat} {v : Int} (hp : p < N) (ha : a_tk (r_ru A t p) (t p) ≠ 0) (hv : r_ff A t (N - p) p = v) : r_ff A t (N - (p + 1)) (p + 1) = v := by
  obtain ⟨n, hn⟩ : ∃ n, N - p = n + 1 := ⟨N - p - 1, by omega⟩
  rw [hn] at hv
  rw [show N - (p + 1) = n by omega]
  simp only [r_ff] at hv
  rw [if_neg ha] at hv
  exact hv
theorem ff_no {A : gj_M} {t : Int → Int} {N p : Nat} {v : Int} (hp : p < N) (ha : a_tk (r_ru A t p) (t p) = 0) (hv : r_ff A t (N - p) p = v) : v = (p : Int) := by
  obtain ⟨n, hn⟩ : ∃ n, N - p = n + 1 := ⟨N - p - 1, by omega⟩
  rw [hn] at hv
  simp only [r_ff] at hv
  rw [if_pos ha] at hv
  exact hv.symm
theorem ff_end {A : gj_M} {t : Int → Int} {N p : Nat} {v : Int} (hp : p = N) (ha : ¬ (r_ru A t p 2 1 = 1 ∨ r_ru A t p 2 1 = 4)) (hv : r_ff A t (N - p) p = v) : v = (p : Int) := by
  rw [show N - p = 0 by omega] at hv
  simp only [r_ff] at hv
  rw [if_neg ha] at hv
  exact hv.symm
theorem ff_ok {A : gj_M} {t : Int → Int} {N p : Nat} {v : Int} (hp : p = N) (ha : r_ru A t p 2 1 = 1 ∨ r_ru A t p 2 1 = 4) (hv : r_ff A t (N - p) p = v) : v = -9 := by
  rw [show N - p = 0 by omega] at hv
  simp only [r_ff] at hv
  rw [if_pos ha] at hv
  exact hv.symm
theorem tk_0 {A : gj_M} {c : Int} (h : A 2 1 = 0) : a_tk A c = (if c = 75 then 1 else 0) ∧ r_tk A c = gj_u A 2 1 1 := by
  unfold a_tk r_tk
  rw [h]
  exact ⟨rfl, rfl⟩
theorem tk_1 {A : gj_M} {c : Int} (h : A 2 1 = 1) : a_tk A c = (if c = 100 then a_dr A else a_lv A c) ∧ r_tk A c = (if c = 100 then r_dr A else r_lv A c) := by
  unfold a_tk r_tk
  rw [h]
  exact ⟨rfl, rfl⟩
theorem tk_2 {A : gj_M} {c : Int} (h : A 2 1 = 2) : a_tk A c = (if c - 48 < 0 ∨ 9 < c - 48 then 0 else 1) ∧ r_tk A c = gj_u (gj_u A 2 3 (c - 48)) 2 1 3 := by
  unfold a_tk r_tk
  rw [h]
  exact ⟨rfl, rfl⟩
theorem tk_3 {A : gj_M} {c : Int} (h : A 2 1 = 3) : a_tk A c = a_wd (c - 48) ∧ r_tk A c = r_wd A (c - 48) := by
  unfold a_tk r_tk
  rw [h]
  exact ⟨rfl, rfl⟩
theorem tk_4 {A : gj_M} {c : Int} (h : A 2 1 = 4) : a_tk A c = a_lv A c ∧ r_tk A c = r_lv A c := by
  unfold a_tk r_tk
  rw [h]
  exact ⟨rfl, rfl⟩
theorem tk_5 {A : gj_M} {c : Int} (h : A 2 1 = 5) : a_tk A c = a_ie A c ∧ r_tk A c = r_ie A c := by
  unfold a_tk r_tk
  rw [h]
  exact ⟨rfl, rfl⟩
theorem tk_6 {A : gj_M} {c : Int} (h : A 2 1 = 6) : a_tk A c = a_it A c ∧ r_tk A c = r_it A c := by
  unfold a_tk r_tk
  rw [h]
  exact ⟨rfl, rfl⟩
theorem tk_7 {A : gj_M} {c : Int} (h : A 2 1 = 7) : a_tk A c = a_hd (c - 48) ∧ r_tk A c = r_hd A (c - 48) := by
  unfold a_tk r_tk
  rw [h]
  exact ⟨rfl, rfl⟩
theorem tk_8 {A : gj_M} {c : Int} (h : A 2 1 = 8) : a_tk A c = a_tm A (c - 48) ∧ r_tk A c = r_tm A (c - 48) := by
  unfold a_tk r_tk
  rw [h]
  exact ⟨rfl, rfl⟩
theorem tk_56 {A : gj_M} {c : Int} (h : A 2 1 = 5 ∨ A 2 1 = 6) (h1 : c ≠ 46) (h2 : c ≠ 41) : a_tk A c = a_it A c ∧ r_tk A c = r_it A c := by
  rcases h with h | h
  · rw [(tk_5 h).1, (tk_5 h).2]
    unfold a_ie r_ie
    rw [if_neg h1, if_neg h2, if_neg h1, if_neg h2]
    exact ⟨rfl, rfl⟩
  · exact tk_6 h
