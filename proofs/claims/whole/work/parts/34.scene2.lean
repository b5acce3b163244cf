set_option maxRecDepth 100000 in
set_option maxHeartbeats 1000000 in
theorem s3_clear_l {xt : Nat × (Nat → Int)} {M : gj_M} {h : Nat} (hs : gS[h]? = some (.inr (false, 6)))  : ∀ (n k : Nat), (k : Int) + n = 6 → gj_G xt Y3_clearDrawings gS 0 0 2 [some (gR h), some (gI (k : Int))] [] (p_clr M h k) (fun r S2 M2 => S2 = gS ∧ r = none ∧ M2 = p_clr M h 6) := by
  intro n
  induction n with
  | zero =>
    intro k hk
    refine gj_iload_n 3 dX3_clearDrawings_2 rfl rfl ?_
    refine gj_aload_n 4 dX3_clearDrawings_3 rfl rfl ?_
    refine gj_alen (z := 6) 5 dX3_clearDrawings_4 rfl hs rfl ?_
    refine gj_icmp_ge 18 8 dX3_clearDrawings_5 (by decide) rfl (by omega) (by omega) (fun c_5 => ?_) (fun c_5 => absurd c_5 (by omega))
    refine gj_vret dX3_clearDrawings_18 rfl ⟨Nat.zero_le _, Nat.zero_le _⟩ ?_
    exact ⟨rfl, rfl, by rw [show k = 6 by omega]⟩
  | succ n ih =>
    intro k hk
    refine gj_iload_n 3 dX3_clearDrawings_2 rfl rfl ?_
    refine gj_aload_n 4 dX3_clearDrawings_3 rfl rfl ?_
    refine gj_alen (z := 6) 5 dX3_clearDrawings_4 rfl hs rfl ?_
    refine gj_icmp_ge 18 8 dX3_clearDrawings_5 (by decide) rfl (by omega) (by omega) (fun c_5 => absurd c_5 (by omega)) (fun c_5 => ?_)
    refine gj_aload_n 9 dX3_clearDrawings_8 rfl rfl ?_
    refine gj_iload_n 10 dX3_clearDrawings_9 rfl rfl ?_
    refine gj_iconst 11 dX3_clearDrawings_10 rfl ?_
    refine gj_iast 12 dX3_clearDrawings_11 rfl hs (by omega) (by omega) (by omega) ?_
    refine gj_iinc (b := ((k + 1 : Nat) : Int)) (lv' := [_, _]) 15 dX3_clearDrawings_12 rfl rfl (by omega) (by decide) rfl ?_
    refine gj_goto 2 dX3_clearDrawings_15 (by decide) ?_
    exact gj_wk (ih (k + 1) (by omega)) ⟨rfl, rfl, trivial⟩

set_option maxRecDepth 100000 in
set_option maxHeartbeats 1000000 in
theorem s3_clear {xt : Nat × (Nat → Int)} {M : gj_M} {h : Nat} (hs : gS[h]? = some (.inr (false, 6))) : gj_F xt Y3_clearDrawings gS [gR h] M none (p_clr M h 6) := by
  show gj_G _ Y3_clearDrawings gS 0 0 0 [_, _] [] M _
  refine gj_iconst 1 dX3_clearDrawings_0 rfl ?_
  refine gj_istore_n (lv' := [_, _]) 2 dX3_clearDrawings_1 rfl (by decide) rfl ?_
  exact gj_wk (s3_clear_l hs 6 0 (by omega)) ⟨rfl, rfl, trivial⟩

set_option maxRecDepth 100000 in
set_option maxHeartbeats 1000000 in
theorem s3_countDrawing {xt : Nat × (Nat → Int)} {M : gj_M} {d : Int} (hd : gj_in d) (hb : 0 ≤ d → d < 6 → 0 ≤ M 33 d ∧ M 33 d ≤ 100) : gj_F xt Y3_countDrawing gS [gR 9, gI d] M none (p_ct M d) := by
  show gj_G _ Y3_countDrawing gS 0 0 0 [_, _] [] M _
  refine gj_iload_n 1 dX3_countDrawing_0 rfl rfl ?_
  refine gj_if_lt 41 4 dX3_countDrawing_1 (by decide) rfl (by omega) (fun c_1 => ?_) (fun c_1 => ?_)
  · refine gj_vret dX3_countDrawing_41 rfl ⟨Nat.zero_le _, Nat.zero_le _⟩ ?_
    exact ⟨rfl, rfl, by unfold p_ct; first | rw [if_pos (by omega)] | rw [if_neg (by omega)]⟩
  · refine gj_iload_n 5 dX3_countDrawing_4 rfl rfl ?_
    refine gj_bipush 7 dX3_countDrawing_5 rfl (by decide) ?_
    refine gj_icmp_ge 41 10 dX3_countDrawing_7 (by decide) rfl (by omega) (by omega) (fun c_7 => ?_) (fun c_7 => ?_)
    · refine gj_vret dX3_countDrawing_41 rfl ⟨Nat.zero_le _, Nat.zero_le _⟩ ?_
      exact ⟨rfl, rfl, by unfold p_ct; first | rw [if_pos (by omega)] | rw [if_neg (by omega)]⟩
    · have hb2 := hb (by omega) (by omega)
      refine gj_aload_n 11 dX3_countDrawing_10 rfl rfl ?_
      refine gj_getfr 14 dX3_countDrawing_11 rfl fl_3_39 rfl rfl ?_
      refine gj_iload_n 15 dX3_countDrawing_14 rfl rfl ?_
      refine gj_dup2 16 dX3_countDrawing_15 rfl (fun _ => rfl) (fun _ => rfl) ?_
      refine gj_iald 17 dX3_countDrawing_16 rfl rfl (by omega) (by omega) (fun r_16 => ?_)
      refine gj_iconst 18 dX3_countDrawing_17 rfl ?_
      refine gj_iadd 19 dX3_countDrawing_18 rfl ?_
      refine gj_iast 20 dX3_countDrawing_19 rfl rfl (by omega) (by omega) (by omega) ?_
      refine gj_aload_n 21 dX3_countDrawing_20 rfl rfl ?_
      refine gj_getfr 24 dX3_countDrawing_21 rfl fl_3_42 rfl rfl ?_
      refine gj_iload_n 25 dX3_countDrawing_24 rfl rfl ?_
      refine gj_aload_n 26 dX3_countDrawing_25 rfl rfl ?_
      refine gj_getfr 29 dX3_countDrawing_26 rfl fl_3_42 rfl rfl ?_
      refine gj_iload_n 30 dX3_countDrawing_29 rfl rfl ?_
      refine gj_ialdE (M 34 d) 31 dX3_countDrawing_30 rfl rfl (by omega) (by omega) rfl (fun r_30 => ?_)
      refine gj_aload_n 32 dX3_countDrawing_31 rfl rfl ?_
      refine gj_getfr 35 dX3_countDrawing_32 rfl fl_3_39 rfl rfl ?_
      refine gj_iload_n 36 dX3_countDrawing_35 rfl rfl ?_
      refine gj_ialdE (M 33 d + 1) 37 dX3_countDrawing_36 rfl rfl (by omega) (by omega) gj_u_s (fun r_36 => ?_)
      refine gj_max 40 dX3_countDrawing_37 rfl ml_3_117 (by omega) (by omega) (by decide) (Nat.le_of_ble_eq_true rfl) ⟨Nat.zero_le _, Nat.zero_le _⟩ ?_
      refine gj_iast 41 dX3_countDrawing_40 rfl rfl (by omega) (by omega) (by omega) ?_
      refine gj_vret dX3_countDrawing_41 rfl ⟨Nat.zero_le _, Nat.zero_le _⟩ ?_
      exact ⟨rfl, rfl, by unfold p_ct; first | rw [if_pos (by omega)] | rw [if_neg (by omega)]⟩

set_option maxRecDepth 100000 in
set_option maxHeartbeats 1000000 in
theorem s3_findMost_i {xt : Nat × (Nat → Int)} {M : gj_M} {Q : Option gj_V → List gj_H → gj_M → Prop} (hI : c_I M) (f : Nat) (hf : f < 48) (kk : ∀ M1, gj_E [33, 34] M M1 → (∀ d : Int, 0 ≤ d → d < 6 → M1 34 d = p_mo (c_ex M) (M 10 1).toNat d (f + 1)) → gj_G xt Y3_findMost gS 0 0 51 [some (gR 9), some (gI (f : Int)), some (gI (((M 10 1).toNat : Nat) : Int))] [] M1 Q) : ∀ (n k : Nat) (M1 : gj_M), (k : Int) + n = M 10 1 → gj_E [33, 34] M M1 → (∀ d : Int, 0 ≤ d → d < 6 → M1 33 d = p_sum (fun l : Nat => if c_ex M l f = d then 1 else 0) k ∧ M1 34 d = max (p_mo (c_ex M) (M 10 1).toNat d f) (p_sum (fun l : Nat => if c_ex M l f = d then 1 else 0) k)) → gj_G xt Y3_findMost gS 0 0 24 [some (gR 9), some (gI (f : Int)), some (gI (k : Int))] [] M1 Q := by
  intro n
  induction n with
  | zero =>
    intro k M1 hk hE hd
    have hkL : ((M 10 1).toNat : Nat) = k := by omega
    rw [hkL] at kk
    have hc := c_eq.of hE (by decide)
    have hI1 := hc.I hI
    have e10 : M1 10 1 = M 10 1 := by rw [hc 10 (by decide)]
    have hLb := hI.1
    refine gj_iload_n 25 dX3_findMost_24 rfl rfl ?_
    refine gj_aload_n 26 dX3_findMost_25 rfl rfl ?_
    refine gj_getfr 29 dX3_findMost_26 rfl fl_3_12 rfl rfl ?_
    refine gj_getfi 32 dX3_findMost_29 rfl fl_3_57 rfl rfl (fun r_29 => ?_)
    refine gj_icmp_ge 51 35 dX3_findMost_32 (by decide) rfl (by omega) (by omega) (fun c_32 => ?_) (fun c_32 => absurd c_32 (by omega))
    exact kk M1 hE (fun d h0 h6 => by
      have hx := (hd d h0 h6).2
      rw [hx]
      show _ = max _ (p_cn _ _ d f)
      unfold p_cn
      rw [show (M 10 1).toNat = k by omega])
  | succ n ih =>
    intro k M1 hk hE hd
    have hc := c_eq.of hE (by decide)
    have hI1 := hc.I hI
    have e10 : M1 10 1 = M 10 1 := by rw [hc 10 (by decide)]
    have hLb := hI.1
    refine gj_iload_n 25 dX3_findMost_24 rfl rfl ?_
    refine gj_aload_n 26 dX3_findMost_25 rfl rfl ?_
    refine gj_getfr 29 dX3_findMost_26 rfl fl_3_12 rfl rfl ?_
    refine gj_getfi 32 dX3_findMost_29 rfl fl_3_57 rfl rfl (fun r_29 => ?_)
    refine gj_icmp_ge 51 35 dX3_findMost_32 (by decide) rfl (by omega) (by omega) (fun c_32 => absurd c_32 (by omega)) (fun c_32 => ?_)
    have sp := t3_drawingOn (xt := xt) (l := (k : Int)) (f := (f : Int)) hI1 (by omega) (by omega)
    rw [hc.ex] at sp
    refine gj_aload_n 36 dX3_findMost_35 rfl rfl ?_
    refine gj_aload_n 37 dX3_findMost_36 rfl rfl ?_
    refine gj_iload_n 38 dX3_findMost_37 rfl rfl ?_
    refine gj_iload_n 39 dX3_findMost_38 rfl rfl ?_
    refine gj_fV 42 dX3_findMost_39 rfl ok_3_drawingOn ml_3_84 iv_3_drawingOn (As := [gI _, gI _]) rfl rfl rfl rfl (Nat.le_of_ble_eq_true rfl) ⟨Nat.le_of_ble_eq_true rfl, Nat.le_of_ble_eq_true rfl⟩ (Nat.le_of_ble_eq_true rfl) ⟨rfl, rfl⟩ ⟨Nat.zero_le _, Nat.zero_le _⟩ (sp) ?_
    refine gj_rg (fun hR => ?_)
    have hin : gj_in (c_ex M k f) := by rw [← hc.ex]; exact p_ex_in (hR 14 (by decide)) _ _
    refine gj_vV 45 dX3_findMost_42 rfl ok_3_countDrawing ml_3_113 iv_3_countDrawing (As := [gI _]) rfl rfl rfl rfl (Nat.le_of_ble_eq_true rfl) ⟨Nat.le_of_ble_eq_true rfl, Nat.le_of_ble_eq_true rfl⟩ (Nat.le_of_ble_eq_true rfl) ⟨rfl, rfl⟩ ⟨Nat.zero_le _, Nat.zero_le _⟩ (s3_countDrawing hin (fun h0 h6 => by have hx := (hd _ h0 h6).1; have hy := p_sum_b (g := fun l : Nat => if c_ex M l f = c_ex M k f then (1 : Int) else 0) (m := 1) k (fun i _ => by split <;> omega); omega)) ?_
    refine gj_iinc (b := ((k + 1 : Nat) : Int)) (lv' := [_, _, _]) 48 dX3_findMost_45 rfl rfl (by omega) (by decide) rfl ?_
    refine gj_goto 24 dX3_findMost_48 (by decide) ?_
    refine gj_wk (ih (k + 1) _ (by omega) ?_ ?_) ⟨rfl, rfl, rfl, trivial⟩
    · intro x hx i
      unfold p_ct
      split
      · have h1 : x ≠ 33 := fun q => hx (by rw [q]; decide)
        have h2 : x ≠ 34 := fun q => hx (by rw [q]; decide)
        rw [gj_u_o h2, gj_u_o h1]
        exact hE x hx i
      · exact hE x hx i
    · intro d h0 h6
      have hx := hd d h0 h6
      simp only [p_sum]
      by_cases q : c_ex M k f = d
      · rw [if_pos q]
        unfold p_ct
        rw [if_pos (by omega), q]
        have hy := p_sum_b (g := fun l : Nat => if c_ex M l f = d then (1 : Int) else 0) (m := 1) k (fun i _ => by split <;> omega)
        have hz := p_mo_b (c_ex M) (M 10 1).toNat d f
        constructor
        · rw [gj_u_o (by decide), gj_u_s, hx.1]
        · rw [gj_u_s, hx.1, hx.2]
          omega
      · rw [if_neg q]
        unfold p_ct
        split
        · rw [gj_u_i (Ne.symm q), gj_u_i (Ne.symm q), gj_u_i (Ne.symm q), gj_u_i (Ne.symm q), hx.1, hx.2]
          constructor <;> omega
        · rw [hx.1, hx.2]
          constructor <;> omega

set_option maxRecDepth 100000 in
set_option maxHeartbeats 1000000 in
theorem s3_findMost_o {xt : Nat × (Nat → Int)} {M : gj_M} (hI : c_I M) : ∀ (n k : Nat) (M1 : gj_M), k + n = 48 → gj_E [33, 34] M M1 → (∀ d : Int, 0 ≤ d → d < 6 → M1 34 d = p_mo (c_ex M) (M 10 1).toNat d k) → gj_G xt Y3_findMost gS 0 0 9 [some (gR 9), some (gI (k : Int)), none] [] M1 (fun r S2 M2 => S2 = gS ∧ r = none ∧ gj_E [33, 34] M M2 ∧ ∀ d : Int, 0 ≤ d → d < 6 → M2 34 d = c_mo M d) := by
  intro n
  induction n with
  | zero =>
    intro k M1 hk hE hd
    refine gj_iload_n 10 dX3_findMost_9 rfl rfl ?_
    refine gj_bipush 12 dX3_findMost_10 rfl (by decide) ?_
    refine gj_icmp_ge 57 15 dX3_findMost_12 (by decide) rfl (by omega) (by omega) (fun c_12 => ?_) (fun c_12 => absurd c_12 (by omega))
    refine gj_vret dX3_findMost_57 rfl ⟨Nat.zero_le _, Nat.zero_le _⟩ ?_
    exact ⟨rfl, rfl, hE, fun d h0 h6 => by rw [hd d h0 h6]; unfold c_mo; rw [show k = 48 by omega]⟩
  | succ n ih =>
    intro k M1 hk hE hd
    refine gj_iload_n 10 dX3_findMost_9 rfl rfl ?_
    refine gj_bipush 12 dX3_findMost_10 rfl (by decide) ?_
    refine gj_icmp_ge 57 15 dX3_findMost_12 (by decide) rfl (by omega) (by omega) (fun c_12 => absurd c_12 (by omega)) (fun c_12 => ?_)
    refine gj_aload_n 16 dX3_findMost_15 rfl rfl ?_
    refine gj_getfr 19 dX3_findMost_16 rfl fl_3_39 rfl rfl ?_
    refine gj_vS 22 dX3_findMost_19 rfl ok_3_clearDrawings ml_3_109 is_3_clearDrawings (As := [gR _]) rfl rfl (Nat.le_of_ble_eq_true rfl) ⟨Nat.le_of_ble_eq_true rfl, Nat.le_of_ble_eq_true rfl⟩ (Nat.le_of_ble_eq_true rfl) ⟨rfl, rfl⟩ ⟨Nat.zero_le _, Nat.zero_le _⟩ (s3_clear rfl) ?_
    refine gj_iconst 23 dX3_findMost_22 rfl ?_
    refine gj_istore_n (lv' := [_, _, _]) 24 dX3_findMost_23 rfl (by decide) rfl ?_
    refine gj_wk (s3_findMost_i hI k (by omega) (fun M2 hE2 hd2 => ?_) (M 10 1).toNat 0 (p_clr M1 33 6) (by have := hI.1; omega) ?_ ?_) ⟨rfl, rfl, rfl, trivial⟩
    · refine gj_iinc (b := ((k + 1 : Nat) : Int)) (lv' := [_, _, _]) 54 dX3_findMost_51 rfl rfl (by omega) (by decide) rfl ?_
      refine gj_goto 9 dX3_findMost_54 (by decide) ?_
      exact gj_wk (ih (k + 1) M2 (by omega) hE2 hd2) ⟨rfl, rfl, trivial⟩
    · intro x hx i
      rw [p_clr_o (fun q => hx (by rw [q]; decide))]
      exact hE x hx i
    · intro d h0 h6
      have hz := p_mo_b (c_ex M) (M 10 1).toNat d k
      constructor
      · rw [p_clr_i 6 h0 h6]; rfl
      · rw [p_clr_o (by decide), hd d h0 h6]
        simp only [p_sum]
        omega

set_option maxRecDepth 100000 in
set_option maxHeartbeats 1000000 in
theorem s3_findMost {xt : Nat × (Nat → Int)} {M : gj_M} (hI : c_I M) : gj_T xt Y3_findMost gS [gR 9] M (fun r M2 => r = none ∧ gj_E [33, 34] M M2 ∧ ∀ d : Int, 0 ≤ d → d < 6 → M2 34 d = c_mo M d) := by
  show gj_G _ Y3_findMost gS 0 0 0 [_, _, _] [] M _
  refine gj_aload_n 1 dX3_findMost_0 rfl rfl ?_
  refine gj_getfr 4 dX3_findMost_1 rfl fl_3_42 rfl rfl ?_
  refine gj_vS 7 dX3_findMost_4 rfl ok_3_clearDrawings ml_3_109 is_3_clearDrawings (As := [gR _]) rfl rfl (Nat.le_of_ble_eq_true rfl) ⟨Nat.le_of_ble_eq_true rfl, Nat.le_of_ble_eq_true rfl⟩ (Nat.le_of_ble_eq_true rfl) ⟨rfl, rfl⟩ ⟨Nat.zero_le _, Nat.zero_le _⟩ (s3_clear rfl) ?_
  refine gj_iconst 8 dX3_findMost_7 rfl ?_
  refine gj_istore_n (lv' := [_, _, _]) 9 dX3_findMost_8 rfl (by decide) rfl ?_
  refine gj_wk (s3_findMost_o hI 48 0 (p_clr M 34 6) rfl ?_ ?_) ⟨rfl, rfl, trivial⟩
  · intro x hx i
    exact p_clr_o (fun q => hx (by rw [q]; decide)) i 6
  · intro d h0 h6
    rw [p_clr_i 6 h0 h6]
    rfl
