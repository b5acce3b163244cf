def r_hs : List Nat := [2, 3, 4, 5, 6, 7, 8]
theorem gj_E.u2 {hs : List Nat} {M M' : gj_M} {h : Nat} {i v : Int} (hE : gj_E hs M M') (hh : h ∈ hs) : gj_E hs M (gj_u M' h i v) := hE.tr (gj_E.u hh)
theorem r_ap_E (M : gj_M) (d : Int) : gj_E r_hs M (r_ap M d) := by
  unfold r_ap
  split
  · exact gj_E.rf
  · exact (gj_E.u (by decide)).u2 (by decide)
theorem r_ho_E (M : gj_M) (d : Int) : ∀ n, gj_E r_hs M (r_ho M d n) := by
  intro n
  induction n with
  | zero => exact gj_E.rf
  | succ n ih => exact ih.tr (r_ap_E _ _)
theorem r_r1_E (M : gj_M) (sh st : Int) : ∀ n, gj_E r_hs M (r_r1 M sh st n) := by
  intro n
  induction n with
  | zero => exact gj_E.rf
  | succ n ih => exact ih.tr (r_ap_E _ _)
theorem r_rp_E (M : gj_M) (sh st : Int) (len : Nat) : ∀ n, gj_E r_hs M (r_rp M sh st len n) := by
  intro n
  induction n with
  | zero => exact gj_E.rf
  | succ n ih => exact ih.tr (r_r1_E _ _ _ _)
theorem r_rf_E (M : gj_M) (st k : Int) : gj_E r_hs M (r_rf M st k) := by
  unfold r_rf
  split
  · exact gj_E.rf
  · exact r_rp_E _ _ _ _ _
theorem r_ad_E (M : gj_M) (x w : Int) : gj_E r_hs M (r_ad M x w) := by
  unfold r_ad
  split
  · exact ((gj_E.u (by decide)).u2 (by decide)).u2 (by decide)
  · exact gj_E.rf
theorem r_al_E (M : gj_M) : gj_E r_hs M (r_al M) := by
  unfold r_al
  split
  · exact (gj_E.u (by decide)).u2 (by decide)
  · exact gj_E.rf
theorem r_lv_E (M : gj_M) (c : Int) : gj_E r_hs M (r_lv M c) := by
  unfold r_lv
  split
  · exact gj_E.rf
  · exact (r_al_E M).u2 (by decide)
theorem r_op_E (M : gj_M) : gj_E r_hs M (r_op M) := by
  unfold r_op
  split
  · exact gj_E.rf
  · exact ((gj_E.u (by decide)).u2 (by decide)).u2 (by decide)
theorem r_it_E (M : gj_M) (c : Int) : gj_E r_hs M (r_it M c) := by
  unfold r_it
  split
  · exact r_op_E M
  · split
    · exact (gj_E.u (by decide)).u2 (by decide)
    · split
      · exact (gj_E.u (by decide)).u2 (by decide)
      · exact gj_E.rf
theorem r_tk_E (M : gj_M) (c : Int) : gj_E r_hs M (r_tk M c) := by
  unfold r_tk
  split
  · exact gj_E.u (by decide)
  split
  · split
    · exact gj_E.u (by decide)
    · exact r_lv_E M c
  split
  · exact (gj_E.u (by decide)).u2 (by decide)
  split
  · unfold r_wd
    split
    · exact gj_E.rf
    · exact (r_ad_E _ _ _).u2 (by decide)
  split
  · exact r_lv_E M c
  split
  · unfold r_ie
    split
    · exact gj_E.u (by decide)
    · split
      · exact gj_E.u (by decide)
      · exact r_it_E M c
  split
  · exact r_it_E M c
  split
  · unfold r_hd
    split
    · exact gj_E.rf
    · exact (r_ho_E _ _ _).u2 (by decide)
  · unfold r_tm
    split
    · exact gj_E.rf
    · have h1 : gj_E r_hs M (gj_u M 2 2 (M 2 2 - 1)) := gj_E.u (by decide)
      exact (h1.tr (r_rf_E _ _ _)).u2 (by decide)
theorem r_in_E (M : gj_M) : gj_E r_hs M (r_in M) := (((gj_E.u (by decide)).u2 (by decide)).u2 (by decide)).u2 (by decide)
theorem r_ru_E (M : gj_M) (t : Int → Int) : ∀ n, gj_E r_hs M (r_ru M t n) := by
  intro n
  induction n with
  | zero => exact r_in_E M
  | succ n ih => exact ih.tr (r_tk_E _ _)
theorem a_dr_01 (M : gj_M) : a_dr M = 0 ∨ a_dr M = 1 := by unfold a_dr; split <;> simp
theorem a_wd_01 (w : Int) : a_wd w = 0 ∨ a_wd w = 1 := by unfold a_wd; split <;> simp
theorem a_lv_01 (M : gj_M) (c : Int) : a_lv M c = 0 ∨ a_lv M c = 1 := by unfold a_lv; split <;> simp
theorem a_hd_01 (w : Int) : a_hd w = 0 ∨ a_hd w = 1 := by unfold a_hd; split <;> simp
theorem a_tm_01 (M : gj_M) (c : Int) : a_tm M c = 0 ∨ a_tm M c = 1 := by unfold a_tm; split <;> simp
theorem a_ie_01 (M : gj_M) (c : Int) : a_ie M c = 0 ∨ a_ie M c = 1 := by
  unfold a_ie
  split
  · split <;> simp
  split
  · split <;> simp
  exact a_it_01 M c
theorem a_tk_01 (M : gj_M) (c : Int) : a_tk M c = 0 ∨ a_tk M c = 1 := by
  unfold a_tk
  split
  · split <;> simp
  split
  · split
    · exact a_dr_01 M
    · exact a_lv_01 M c
  split
  · split <;> simp
  split
  · exact a_wd_01 _
  split
  · exact a_lv_01 M c
  split
  · exact a_ie_01 M c
  split
  · exact a_it_01 M c
  split
  · exact a_hd_01 _
  exact a_tm_01 M _
