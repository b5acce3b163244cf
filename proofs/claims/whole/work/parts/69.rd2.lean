theorem rs_dot1 {A : gj_M} (h5 : A 2 1 = 5) (hd : A 2 2 = 0) : a_tk A 46 ≠ 0 ∧ r_tk A 46 = gj_u A 2 1 4 := by
  rw [(tk_5 h5).1, (tk_5 h5).2]
  unfold a_ie r_ie
  rw [if_pos rfl, if_pos hd, if_pos rfl]
  exact ⟨by decide, rfl⟩
theorem a_it_no {A : gj_M} {c : Int} (h1 : c ≠ 40) (h2 : c ≠ 45) (h3 : ¬ (0 ≤ c - 97 ∧ c - 97 < A 3 0)) : a_it A c = 0 := by
  unfold a_it
  rw [if_neg h1, if_neg h2, if_neg h3]
theorem rs_dot0 {A : gj_M} (h : A 2 1 = 5 ∨ A 2 1 = 6) (hd : A 2 2 ≠ 0) : a_tk A 46 = 0 := by
  rcases h with h | h
  · rw [(tk_5 h).1]
    unfold a_ie
    rw [if_pos rfl, if_neg hd]
  · rw [(tk_6 h).1]
    exact a_it_no (by decide) (by decide) (by omega)
theorem rs_op {A : gj_M} (h : A 2 1 = 5 ∨ A 2 1 = 6) : a_tk A 40 = a_op A ∧ r_tk A 40 = r_op A := by
  have := tk_56 (c := 40) h (by decide) (by decide)
  rw [this.1, this.2]
  exact ⟨if_pos rfl, if_pos rfl⟩
theorem rs_cl0 {A : gj_M} (h : (A 2 1 = 5 ∧ A 2 2 = 0) ∨ A 2 1 = 6) : a_tk A 41 = 0 := by
  rcases h with h | h
  · rw [(tk_5 h.1).1]
    unfold a_ie
    rw [if_neg (by decide), if_pos rfl, if_neg (by omega)]
  · rw [(tk_6 h).1]
    exact a_it_no (by decide) (by decide) (by omega)
theorem rs_cl1 {A : gj_M} (h5 : A 2 1 = 5) (hd : 0 < A 2 2) : a_tk A 41 ≠ 0 ∧ r_tk A 41 = gj_u A 2 1 8 := by
  rw [(tk_5 h5).1, (tk_5 h5).2]
  unfold a_ie r_ie
  rw [if_neg (by decide), if_pos rfl, if_pos hd, if_neg (by decide), if_pos rfl]
  exact ⟨by decide, rfl⟩
theorem rs_it0 {A : gj_M} {c : Int} (h : A 2 1 = 5 ∨ A 2 1 = 6) (h0 : c ≠ 46) (h1 : c ≠ 41) (h2 : c ≠ 40) (h3 : c ≠ 45) (h4 : ¬ (0 ≤ c - 97 ∧ c - 97 < A 3 0)) : a_tk A c = 0 := by
  rw [(tk_56 h h0 h1).1]
  exact a_it_no h2 h3 h4
theorem rs_it1 {A : gj_M} {c d : Int} (h : A 2 1 = 5 ∨ A 2 1 = 6) (hd : (c = 45 ∧ d = -9) ∨ (c - 97 = d ∧ 0 ≤ d ∧ d < A 3 0)) : a_tk A c ≠ 0 ∧ r_tk A c = gj_u (gj_u A 2 4 d) 2 1 7 := by
  have := tk_56 (c := c) h (by omega) (by omega)
  rw [this.1, this.2]
  unfold a_it r_it
  rcases hd with ⟨rfl, rfl⟩ | ⟨h1, h2, h3⟩
  · rw [if_neg (by decide), if_pos rfl, if_neg (by decide), if_pos rfl]
    exact ⟨by decide, rfl⟩
  · rw [if_neg (by omega), if_neg (by omega), if_pos (by omega), if_neg (by omega), if_neg (by omega), if_pos (by omega), h1]
    exact ⟨by decide, rfl⟩
/-- a drawing more -/
theorem v_dr {M0 A A' M : gj_M} {p : Nat} {x w : Int} (h : v_B M0 A M p) (hD : A 3 0 < 6) (hx : 0 ≤ x ∧ x ≤ 9) (hw : 1 ≤ w ∧ w ≤ 5) (hI : r_I A') (e30 : A' 3 0 = A 3 0 + 1) (e31 : A' 3 1 = A 3 1) (e4 : ∀ d, A' 4 d = if d = A 3 0 then x else A 4 d) (e5 : ∀ d, A' 5 d = if d = A 3 0 then w else A 5 d) (e6 : A' 6 = A 6) (e7 : A' 7 = A 7) : v_B M0 A' (gj_u (gj_u (gj_u (gj_u M 69 3 ((p + 3 : Nat) : Int)) 75 (0 + A 3 0) x) 75 (6 + A 3 0) w) 69 8 (A 3 0 + 1)) (p + 3) := by
  obtain ⟨h1, h2, h3, h4, h5⟩ := h
  have hD0 := h4.1.1
  refine ⟨(((h1.f (by decide)).u (by decide)).u (by decide)).f (by decide), ?_, ?_, hI, rfl⟩
  · obtain ⟨g1, g2, g3, g4⟩ := h2
    have m75 : ∀ i, gj_u (gj_u (gj_u (gj_u M 69 3 ((p + 3 : Nat) : Int)) 75 (0 + A 3 0) x) 75 (6 + A 3 0) w) 69 8 (A 3 0 + 1) 75 i = if i = 6 + A 3 0 then w else if i = 0 + A 3 0 then x else M 75 i := by
      intro i
      rw [gj_u_o (by decide)]
      by_cases q : i = 6 + A 3 0
      · rw [if_pos q, q, gj_u_s]
      · rw [if_neg q, gj_u_i q]
        by_cases q2 : i = 0 + A 3 0
        · rw [if_pos q2, q2, gj_u_s]
        · rw [if_neg q2, gj_u_i q2]; rfl
    refine ⟨by rw [e30]; rfl, fun d d0 d1 => ?_, fun d d0 d1 => ?_, fun i i0 i1 => ?_⟩
    · rw [e30] at d1
      rw [m75, m75, e4, e5]
      by_cases q : d = A 3 0
      · repeat (first | rw [if_pos (by omega)] | rw [if_neg (by omega)])
        exact ⟨rfl, rfl⟩
      · repeat (first | rw [if_pos (by omega)] | rw [if_neg (by omega)])
        exact g2 d d0 (by omega)
    · rw [m75, m75]
      have := g3 d d0 d1
      by_cases q : d = A 3 0
      · rw [if_neg (by omega), if_pos (by omega), if_pos (by omega)]; omega
      · rw [if_neg (by omega), if_neg (by omega), if_neg (by omega), if_neg (by omega)]; exact this
    · rw [m75, if_neg (by omega), if_neg (by omega)]; exact g4 i i0 i1
  · unfold v_R at h3 ⊢
    rw [e31, e6, e7]
    exact h3
theorem r_rf_eq {A : gj_M} {st k L : Int} (hL : A 3 1 = L + 1) (h0 : 0 ≤ L) (hs : 0 ≤ st) : r_rf A st k = r_rp A (L * 48) st (A 6 L - st).toNat (k - 1).toNat := by
  unfold r_rf r_ll
  rw [if_neg (by omega), if_neg (by omega), show A 3 1 - 1 = L by omega]
theorem v_ov {M0 A M : gj_M} {p : Nat} {st k L : Int} (h : v_B M0 A M p) (hl : A 3 1 = L + 1) (hL : M 69 9 = L) (h0 : 0 ≤ L) (hs : 0 ≤ st) : v_B M0 (r_rf A st k) (y_rp M st (M 74 (M 69 9) - st).toNat (k - 1).toNat) p ∧ r_rf A st k 3 1 = L + 1 ∧ y_rp M st (M 74 (M 69 9) - st).toNat (k - 1).toNat 69 9 = L := by
  have e := (h.2.2.1 L h0 (by omega)).1
  rw [hL, e, r_rf_eq hl h0 hs]
  have hh := v_rp (A := A) (M1 := M) (st := st) (L := L) (len := (A 6 L - st).toNat) h.2.2.2.1 (by omega) hL (by omega) h.2.2.1 hs (fun j hj => by omega) (k - 1).toNat
  exact ⟨h.x (y_rp_E _ _ _ _) (r_rp_67 _ _ _ _ _) (r_rp_I h.2.2.2.1 _) hh.1 (fun q => y_rp_Lb q _), hh.2.1, hh.2.2.1⟩
theorem v_hd {M0 A M : gj_M} {p : Nat} {d L : Int} (h : v_B M0 A M p) (hl : A 3 1 = L + 1) (hL : M 69 9 = L) (h0 : 0 ≤ L) (n : Nat) : v_B M0 (r_ho A d n) (y_ho M d n) p ∧ r_ho A d n 3 1 = L + 1 ∧ y_ho M d n 69 9 = L := by
  have hh := v_ho (A := A) (M1 := M) (d := d) h.2.2.2.1 (by omega) (by omega) h.2.2.1 n
  have e9 : y_ho M d n 69 9 = L := by rw [y_ho_E M d n 69 (by decide)]; exact hL
  exact ⟨h.x (y_ho_E _ _ _) (r_ho_67 _ _ _) (r_ho_I h.2.2.2.1 _) hh.1 (fun q => y_ho_Lb q _), by omega, e9⟩
theorem v_RI {M0 A M : gj_M} {p : Nat} {L : Int} (h : v_B M0 A M p) (hl : A 3 1 = L + 1) (hL : M 69 9 = L) (h0 : 0 ≤ L) : y_RI M := by
  have h4 := h.2.2.2.1
  have h5 := h4.2.1
  have e := (h.2.2.1 L h0 (by omega)).1
  have h6 := h4.2.2.2.2.1 L h0 (by omega)
  unfold y_RI
  rw [hL]
  omega
/-- where a sheet's reading stands -/
def v_S (A M : gj_M) (L : Int) : Prop := ((A 2 1 = 5 ∧ (A 2 2 = 0 ∨ M 77 (A 2 2) = 1)) ∨ (A 2 1 = 6 ∧ 1 ≤ A 2 2 ∧ M 77 (A 2 2) = 0)) ∧ (∀ i : Int, 1 ≤ i → i ≤ A 2 2 → M 76 i = A 8 (i - 1)) ∧ A 3 1 = L + 1 ∧ M 69 9 = L ∧ 0 ≤ L
theorem v_S.st {A M : gj_M} {L : Int} (h : v_S A M L) : A 2 1 = 5 ∨ A 2 1 = 6 := by
  rcases h.1 with z | z
  · exact Or.inl z.1
  · exact Or.inr z.1
/-- behind a ( -/
theorem v_opn {M0 A M : gj_M} {p : Nat} {L : Int} (h : v_B M0 A M p) (hS : v_S A M L) (hd : A 2 2 ≠ 2) : a_op A ≠ 0 ∧ v_B M0 (r_op A) (gj_u (gj_u (gj_u M 76 (A 2 2 + 1) (M 74 (M 69 9))) 77 (A 2 2 + 1) 0) 69 3 ((p + 1 : Nat) : Int)) (p + 1) ∧ v_S (r_op A) (gj_u (gj_u (gj_u M 76 (A 2 2 + 1) (M 74 (M 69 9))) 77 (A 2 2 + 1) 0) 69 3 ((p + 1 : Nat) : Int)) L ∧ r_op A 2 2 = A 2 2 + 1 := by
  have hI := h.2.2.2.1
  have hb := hI.2.2.2.1
  have eo : r_op A = gj_u (gj_u (gj_u A 8 (A 2 2) (r_ll A)) 2 2 (A 2 2 + 1)) 2 1 6 := if_neg (by omega)
  have hl : r_ll A = A 6 L := by
    unfold r_ll
    rw [if_neg (by have := hS.2.2; omega), show A 3 1 - 1 = L by have := hS.2.2; omega]
  have hm : M 74 (M 69 9) = A 6 L := by
    rw [hS.2.2.2.1]
    exact (h.2.2.1 L hS.2.2.2.2 (by have := hS.2.2.1; omega)).1
  refine ⟨by unfold a_op; rw [if_neg (by omega)]; decide, ?_, ?_, by rw [eo]; rfl⟩
  · exact ((h.m (Or.inl rfl)).m (Or.inr rfl)).p (r_op_I hI) (fun k hk => by rw [eo]; funext i; simp at hk; rw [gj_u_o (by omega), gj_u_o (by omega), gj_u_o (by omega)]) rfl
  · have e2 : r_op A 2 2 = A 2 2 + 1 := by rw [eo]; rfl
    refine ⟨Or.inr ⟨by rw [eo]; rfl, by omega, by rw [e2, gj_u_o (by decide), gj_u_s]⟩, fun i i1 i2 => ?_, by rw [eo]; exact hS.2.2.1, hS.2.2.2.1, hS.2.2.2.2⟩
    rw [e2] at i2
    rw [gj_u_o (by decide), gj_u_o (by decide), eo, gj_u_o (show (8 : Nat) ≠ 2 by decide), gj_u_o (show (8 : Nat) ≠ 2 by decide)]
    by_cases q : i = A 2 2 + 1
    · rw [q, gj_u_s, show A 2 2 + 1 - 1 = A 2 2 by omega, gj_u_s, hm, hl]
    · rw [gj_u_i q, gj_u_i (by omega)]
      exact hS.2.1 i i1 (by omega)
/-- behind a ) and its figure -/
theorem v_cls {M0 A M : gj_M} {p : Nat} {L k : Int} (h : v_B M0 A M p) (hS : v_S A M L) (hd : 1 ≤ A 2 2) (hk : 2 ≤ k ∧ k ≤ 9) : a_tm (gj_u A 2 1 8) k ≠ 0 ∧ v_B M0 (r_tm (gj_u A 2 1 8) k) (gj_u (y_rp (gj_u M 69 3 ((p + 2 : Nat) : Int)) (A 8 (A 2 2 - 1)) ((gj_u M 69 3 ((p + 2 : Nat) : Int)) 74 ((gj_u M 69 3 ((p + 2 : Nat) : Int)) 69 9) - (A 8 (A 2 2 - 1))).toNat (k - 1).toNat) 77 (A 2 2 - 1) 1) (p + 2) ∧ v_S (r_tm (gj_u A 2 1 8) k) (gj_u (y_rp (gj_u M 69 3 ((p + 2 : Nat) : Int)) (A 8 (A 2 2 - 1)) ((gj_u M 69 3 ((p + 2 : Nat) : Int)) 74 ((gj_u M 69 3 ((p + 2 : Nat) : Int)) 69 9) - (A 8 (A 2 2 - 1))).toNat (k - 1).toNat) 77 (A 2 2 - 1) 1) L ∧ r_tm (gj_u A 2 1 8) k 2 2 = A 2 2 - 1 := by
  have hI := h.2.2.2.1
  have hb := hI.2.2.2.1
  have h8 := hI.2.2.2.2.2 (A 2 2 - 1) (by omega) (by omega)
  have eo : r_tm (gj_u A 2 1 8) k = gj_u (r_rf (gj_u (gj_u A 2 1 8) 2 2 (A 2 2 - 1)) (A 8 (A 2 2 - 1)) k) 2 1 5 := if_neg (by show ¬ (k < 2 ∨ 9 < k ∨ A 2 2 < 1 ∨ 2 < A 2 2); omega)
  have hI2 : r_I (gj_u (gj_u A 2 1 8) 2 2 (A 2 2 - 1)) := (hI.aw (by omega)).dp (by omega)
  have hB2 : v_B M0 (gj_u (gj_u A 2 1 8) 2 2 (A 2 2 - 1)) (gj_u M 69 3 ((p + 2 : Nat) : Int)) (p + 2) := h.p hI2 (fun z hz => by funext i; simp at hz; rw [gj_u_o (by omega), gj_u_o (by omega)]) rfl
  have hv := v_ov (st := A 8 (A 2 2 - 1)) (k := k) (L := L) hB2 hS.2.2.1 hS.2.2.2.1 hS.2.2.2.2 h8.1
  have e67 : gj_E [6, 7] (gj_u (gj_u A 2 1 8) 2 2 (A 2 2 - 1)) (r_rf (gj_u (gj_u A 2 1 8) 2 2 (A 2 2 - 1)) (A 8 (A 2 2 - 1)) k) := by
    rw [r_rf_eq (A := gj_u (gj_u A 2 1 8) 2 2 (A 2 2 - 1)) (L := L) hS.2.2.1 hS.2.2.2.2 h8.1]
    exact r_rp_67 _ _ _ _ _
  have e22 : r_tm (gj_u A 2 1 8) k 2 2 = A 2 2 - 1 := by
    rw [eo, gj_u_i (by decide), e67 2 (by decide)]
    rfl
  refine ⟨?_, ?_, ?_, e22⟩
  · unfold a_tm
    rw [if_neg (by show ¬ (k < 2 ∨ 9 < k ∨ A 2 2 < 1 ∨ 2 < A 2 2); omega)]
    decide
  · rw [eo]
    exact (hv.1.q ((r_rf_I hI2).aw (by omega)) (fun z hz => by funext i; simp at hz; rw [gj_u_o (by omega)])).m (Or.inr rfl)
  · refine ⟨Or.inl ⟨by rw [eo]; rfl, Or.inr (by rw [e22]; exact gj_u_s)⟩, fun i i1 i2 => ?_, ?_, hv.2.2, hS.2.2.2.2⟩
    · rw [e22] at i2
      rw [gj_u_o (by decide), y_rp_E _ _ _ _ 76 (by decide), eo, gj_u_o (show (76 : Nat) ≠ 69 by decide), gj_u_o (show (8 : Nat) ≠ 2 by decide), e67 8 (by decide)]
      exact hS.2.1 i i1 (by omega)
    · rw [eo]
      exact hv.2.1
/-- behind what is held and its figure -/
theorem v_itm {M0 A M : gj_M} {p : Nat} {L d n : Int} (h : v_B M0 A M p) (hS : v_S A M L) (hn : 1 ≤ n ∧ n ≤ 9) : a_hd n ≠ 0 ∧ v_B M0 (r_hd (gj_u (gj_u A 2 4 d) 2 1 7) n) (gj_u (y_ho (gj_u M 69 3 ((p + 2 : Nat) : Int)) d n.toNat) 77 (A 2 2) 1) (p + 2) ∧ v_S (r_hd (gj_u (gj_u A 2 4 d) 2 1 7) n) (gj_u (y_ho (gj_u M 69 3 ((p + 2 : Nat) : Int)) d n.toNat) 77 (A 2 2) 1) L ∧ r_hd (gj_u (gj_u A 2 4 d) 2 1 7) n 2 2 = A 2 2 := by
  have hI := h.2.2.2.1
  have eo : r_hd (gj_u (gj_u A 2 4 d) 2 1 7) n = gj_u (r_ho (gj_u (gj_u A 2 4 d) 2 1 7) d n.toNat) 2 1 5 := if_neg (by omega)
  have hI2 : r_I (gj_u (gj_u A 2 4 d) 2 1 7) := hI.hd.aw (by omega)
  have hB2 : v_B M0 (gj_u (gj_u A 2 4 d) 2 1 7) (gj_u M 69 3 ((p + 2 : Nat) : Int)) (p + 2) := h.p hI2 (fun z hz => by funext i; simp at hz; rw [gj_u_o (by omega), gj_u_o (by omega)]) rfl
  have hv := v_hd (d := d) (L := L) hB2 hS.2.2.1 hS.2.2.2.1 hS.2.2.2.2 n.toNat
  have e67 := r_ho_67 (gj_u (gj_u A 2 4 d) 2 1 7) d n.toNat
  have e22 : r_hd (gj_u (gj_u A 2 4 d) 2 1 7) n 2 2 = A 2 2 := by
    rw [eo, gj_u_i (by decide), e67 2 (by decide)]
    rfl
  refine ⟨?_, ?_, ?_, e22⟩
  · unfold a_hd
    rw [if_neg (by omega)]
    decide
  · rw [eo]
    exact (hv.1.q ((r_ho_I hI2 _).aw (by omega)) (fun z hz => by funext i; simp at hz; rw [gj_u_o (by omega)])).m (Or.inr rfl)
  · refine ⟨Or.inl ⟨by rw [eo]; rfl, Or.inr (by rw [e22]; exact gj_u_s)⟩, fun i i1 i2 => ?_, ?_, hv.2.2, hS.2.2.2.2⟩
    · rw [e22] at i2
      rw [gj_u_o (by decide), y_ho_E _ _ _ 76 (by decide), eo, gj_u_o (show (76 : Nat) ≠ 69 by decide), gj_u_o (show (8 : Nat) ≠ 2 by decide), e67 8 (by decide)]
      exact hS.2.1 i i1 i2
    · rw [eo]
      exact hv.2.1
