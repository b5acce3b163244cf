theorem p_bl_b {M : gj_M} (hI : c_I M) (l : Int) : ∀ k : Nat, k ≤ 10 → 0 ≤ p_bl (fun v : Nat => c_cels (gj_u M 18 l v)) k ∧ p_bl (fun v : Nat => c_cels (gj_u M 18 l v)) k ≤ 24 := by
  intro k
  induction k with
  | zero => intro _; simp [p_bl]
  | succ k ih =>
    intro h
    have h1 := c_cels_b (hI.dl (l := l) (v := (k : Int)) (by omega))
    have h2 := ih (by omega)
    simp only [p_bl]
    split
    · exact h1
    · exact h2

set_option maxRecDepth 100000 in
set_option maxHeartbeats 4000000 in
theorem s3_best_l {xt : Nat × (Nat → Int)} {M : gj_M} {l : Int} (hI : c_I M) (hl : 0 ≤ l ∧ l < 4) (hw : 0 ≤ M 18 l ∧ M 18 l ≤ 9) : ∀ (n k : Nat) (M1 : gj_M), k + n = 10 → gj_E [18, 33, 34] M M1 → (∀ i : Int, i ≠ l → M1 18 i = M 18 i) → gj_G xt Y3_bestOf gS 0 0 18 [some (gR 9), some (gI l), some (gI (M 18 l)), some (gI (p_bb (fun v : Nat => c_cels (gj_u M 18 l v)) k)), some (gI (p_bl (fun v : Nat => c_cels (gj_u M 18 l v)) k)), some (gI (k : Int)), none] [] M1 (fun r S2 M2 => S2 = gS ∧ r = some (gI (c_best M l)) ∧ gj_E [33, 34] M M2) := by
  intro n
  induction n with
  | zero =>
    intro k M1 hk hE hn
    have hq : c_eq (gj_u M 18 l k) (gj_u M1 18 l k) := by
      intro x hx
      funext i
      by_cases q : x = 18
      · subst q
        by_cases r : i = l
        · subst r; rw [gj_u_s, gj_u_s]
        · rw [gj_u_i r, gj_u_i r]; exact hn i r
      · rw [gj_u_o q, gj_u_o q]
        refine hE x (fun z => ?_) i
        have h3 : x = 18 ∨ x = 33 ∨ x = 34 := by simpa using z
        rcases h3 with rfl | rfl | rfl
        · exact q rfl
        · revert hx; decide
        · revert hx; decide
    refine gj_iload 20 dX3_bestOf_18 rfl rfl ?_
    refine gj_bipush 22 dX3_bestOf_20 rfl (by decide) ?_
    refine gj_icmp_gt 67 25 dX3_bestOf_22 (by decide) rfl (by omega) (by omega) (fun c_22 => ?_) (fun c_22 => absurd c_22 (by omega))
    refine gj_aload_n 68 dX3_bestOf_67 rfl rfl ?_
    refine gj_getfr 71 dX3_bestOf_68 rfl fl_3_21 rfl rfl ?_
    refine gj_getfr 74 dX3_bestOf_71 rfl fl_3_45 rfl rfl ?_
    refine gj_iload_n 75 dX3_bestOf_74 rfl rfl ?_
    refine gj_iload_n 76 dX3_bestOf_75 rfl rfl ?_
    refine gj_iast 77 dX3_bestOf_76 rfl rfl (by omega) (by omega) (by omega) ?_
    refine gj_iload_n 78 dX3_bestOf_77 rfl rfl ?_
    refine gj_iret dX3_bestOf_78 rfl ⟨Nat.zero_le _, Nat.zero_le _⟩ ?_
    have hk3 : k = 10 := by omega
    subst hk3
    refine ⟨rfl, rfl, fun x hx i => ?_⟩
    by_cases q : x = 18
    · subst q
      by_cases r : i = l
      · subst r; exact gj_u_s
      · rw [gj_u_i r]; exact hn i r
    · rw [gj_u_o q]
      exact hE x (fun z => hx (by have h3 : x = 18 ∨ x = 33 ∨ x = 34 := by simpa using z
                                  rcases h3 with rfl | rfl | rfl
                                  · exact absurd rfl q
                                  · decide
                                  · decide)) i
  | succ n ih =>
    intro k M1 hk hE hn
    have hq : c_eq (gj_u M 18 l k) (gj_u M1 18 l k) := by
      intro x hx
      funext i
      by_cases q : x = 18
      · subst q
        by_cases r : i = l
        · subst r; rw [gj_u_s, gj_u_s]
        · rw [gj_u_i r, gj_u_i r]; exact hn i r
      · rw [gj_u_o q, gj_u_o q]
        refine hE x (fun z => ?_) i
        have h3 : x = 18 ∨ x = 33 ∨ x = 34 := by simpa using z
        rcases h3 with rfl | rfl | rfl
        · exact q rfl
        · revert hx; decide
        · revert hx; decide
    refine gj_iload 20 dX3_bestOf_18 rfl rfl ?_
    refine gj_bipush 22 dX3_bestOf_20 rfl (by decide) ?_
    refine gj_icmp_gt 67 25 dX3_bestOf_22 (by decide) rfl (by omega) (by omega) (fun c_22 => absurd c_22 (by omega)) (fun c_22 => ?_)
    refine gj_aload_n 26 dX3_bestOf_25 rfl rfl ?_
    refine gj_getfr 29 dX3_bestOf_26 rfl fl_3_21 rfl rfl ?_
    refine gj_getfr 32 dX3_bestOf_29 rfl fl_3_45 rfl rfl ?_
    refine gj_iload_n 33 dX3_bestOf_32 rfl rfl ?_
    refine gj_iload 35 dX3_bestOf_33 rfl rfl ?_
    refine gj_iast 36 dX3_bestOf_35 rfl rfl (by omega) (by omega) (by omega) ?_
    refine gj_aload_n 37 dX3_bestOf_36 rfl rfl ?_
    refine gj_callV 40 dX3_bestOf_37 rfl ok_3_cels ml_3_126 iv_3_cels (As := []) rfl rfl rfl rfl (Nat.le_of_ble_eq_true rfl) ⟨Nat.le_of_ble_eq_true rfl, Nat.le_of_ble_eq_true rfl⟩ (Nat.le_of_ble_eq_true rfl) ⟨rfl, rfl⟩ ⟨Nat.zero_le _, Nat.zero_le _⟩ (s3_cels (hq.I (hI.dl (by omega)))) (fun r_37 M_37 q_37 => ?_)
    obtain ⟨rfl, hE2⟩ := q_37
    rw [hq.cels]
    have hcb := c_cels_b (hI.dl (l := l) (v := (k : Int)) (by omega))
    have hlb := p_bl_b hI l k (by omega)
    show gj_G _ _ gS 0 0 40 _ [gI (c_cels (gj_u M 18 l k))] M_37 _
    refine gj_istore (lv' := [_, _, _, _, _, _, _]) 42 dX3_bestOf_40 rfl (by decide) rfl ?_
    refine gj_iload 44 dX3_bestOf_42 rfl rfl ?_
    refine gj_if_eq 54 47 dX3_bestOf_44 (by decide) rfl (by omega) (fun c_44 => ?_) (fun c_44 => ?_)
    · refine gj_iload 56 dX3_bestOf_54 rfl rfl ?_
      refine gj_istore (lv' := [_, _, _, _, _, _, _]) 58 dX3_bestOf_56 rfl (by decide) rfl ?_
      refine gj_iload 60 dX3_bestOf_58 rfl rfl ?_
      refine gj_istore_n (lv' := [_, _, _, _, _, _, _]) 61 dX3_bestOf_60 rfl (by decide) rfl ?_
      refine gj_iinc (b := ((k + 1 : Nat) : Int)) (lv' := [_, _, _, _, _, _, _]) 64 dX3_bestOf_61 rfl rfl (by omega) (by decide) rfl ?_
      refine gj_goto 18 dX3_bestOf_64 (by decide) ?_
      have h := ih (k + 1) M_37 (by omega) (fun x hx i => by
        rw [hE2 x (fun z => hx (by have h3 : x = 33 ∨ x = 34 := by simpa using z
                                   rcases h3 with rfl | rfl <;> decide)) i, gj_u_o (fun z => hx (by rw [z]; decide))]
        exact hE x hx i) (fun i hi => by rw [hE2 18 (by decide) i, gj_u_i hi]; exact hn i hi)
      first
      | (rw [show p_bl (fun v : Nat => c_cels (gj_u M 18 l v)) (k + 1) = c_cels (gj_u M 18 l k) from if_pos (by show k = 0 ∨ c_cels (gj_u M 18 l k) < p_bl (fun v : Nat => c_cels (gj_u M 18 l v)) k; omega), show p_bb (fun v : Nat => c_cels (gj_u M 18 l v)) (k + 1) = (k : Int) from if_pos (by show k = 0 ∨ c_cels (gj_u M 18 l k) < p_bl (fun v : Nat => c_cels (gj_u M 18 l v)) k; omega)] at h; exact gj_wk h ⟨rfl, rfl, rfl, rfl, rfl, rfl, trivial⟩)
      | (rw [show p_bl (fun v : Nat => c_cels (gj_u M 18 l v)) (k + 1) = p_bl (fun v : Nat => c_cels (gj_u M 18 l v)) k from if_neg (by show ¬ (k = 0 ∨ c_cels (gj_u M 18 l k) < p_bl (fun v : Nat => c_cels (gj_u M 18 l v)) k); omega), show p_bb (fun v : Nat => c_cels (gj_u M 18 l v)) (k + 1) = p_bb (fun v : Nat => c_cels (gj_u M 18 l v)) k from if_neg (by show ¬ (k = 0 ∨ c_cels (gj_u M 18 l k) < p_bl (fun v : Nat => c_cels (gj_u M 18 l v)) k); omega)] at h; exact gj_wk h ⟨rfl, rfl, rfl, rfl, rfl, rfl, trivial⟩)
    · refine gj_iload 49 dX3_bestOf_47 rfl rfl ?_
      refine gj_iload 51 dX3_bestOf_49 rfl rfl ?_
      refine gj_icmp_ge 61 54 dX3_bestOf_51 (by decide) rfl (by omega) (by omega) (fun c_51 => ?_) (fun c_51 => ?_)
      · refine gj_iinc (b := ((k + 1 : Nat) : Int)) (lv' := [_, _, _, _, _, _, _]) 64 dX3_bestOf_61 rfl rfl (by omega) (by decide) rfl ?_
        refine gj_goto 18 dX3_bestOf_64 (by decide) ?_
        have h := ih (k + 1) M_37 (by omega) (fun x hx i => by
          rw [hE2 x (fun z => hx (by have h3 : x = 33 ∨ x = 34 := by simpa using z
                                     rcases h3 with rfl | rfl <;> decide)) i, gj_u_o (fun z => hx (by rw [z]; decide))]
          exact hE x hx i) (fun i hi => by rw [hE2 18 (by decide) i, gj_u_i hi]; exact hn i hi)
        first
        | (rw [show p_bl (fun v : Nat => c_cels (gj_u M 18 l v)) (k + 1) = c_cels (gj_u M 18 l k) from if_pos (by show k = 0 ∨ c_cels (gj_u M 18 l k) < p_bl (fun v : Nat => c_cels (gj_u M 18 l v)) k; omega), show p_bb (fun v : Nat => c_cels (gj_u M 18 l v)) (k + 1) = (k : Int) from if_pos (by show k = 0 ∨ c_cels (gj_u M 18 l k) < p_bl (fun v : Nat => c_cels (gj_u M 18 l v)) k; omega)] at h; exact gj_wk h ⟨rfl, rfl, rfl, rfl, rfl, rfl, trivial⟩)
        | (rw [show p_bl (fun v : Nat => c_cels (gj_u M 18 l v)) (k + 1) = p_bl (fun v : Nat => c_cels (gj_u M 18 l v)) k from if_neg (by show ¬ (k = 0 ∨ c_cels (gj_u M 18 l k) < p_bl (fun v : Nat => c_cels (gj_u M 18 l v)) k); omega), show p_bb (fun v : Nat => c_cels (gj_u M 18 l v)) (k + 1) = p_bb (fun v : Nat => c_cels (gj_u M 18 l v)) k from if_neg (by show ¬ (k = 0 ∨ c_cels (gj_u M 18 l k) < p_bl (fun v : Nat => c_cels (gj_u M 18 l v)) k); omega)] at h; exact gj_wk h ⟨rfl, rfl, rfl, rfl, rfl, rfl, trivial⟩)
      · refine gj_iload 56 dX3_bestOf_54 rfl rfl ?_
        refine gj_istore (lv' := [_, _, _, _, _, _, _]) 58 dX3_bestOf_56 rfl (by decide) rfl ?_
        refine gj_iload 60 dX3_bestOf_58 rfl rfl ?_
        refine gj_istore_n (lv' := [_, _, _, _, _, _, _]) 61 dX3_bestOf_60 rfl (by decide) rfl ?_
        refine gj_iinc (b := ((k + 1 : Nat) : Int)) (lv' := [_, _, _, _, _, _, _]) 64 dX3_bestOf_61 rfl rfl (by omega) (by decide) rfl ?_
        refine gj_goto 18 dX3_bestOf_64 (by decide) ?_
        have h := ih (k + 1) M_37 (by omega) (fun x hx i => by
          rw [hE2 x (fun z => hx (by have h3 : x = 33 ∨ x = 34 := by simpa using z
                                     rcases h3 with rfl | rfl <;> decide)) i, gj_u_o (fun z => hx (by rw [z]; decide))]
          exact hE x hx i) (fun i hi => by rw [hE2 18 (by decide) i, gj_u_i hi]; exact hn i hi)
        first
        | (rw [show p_bl (fun v : Nat => c_cels (gj_u M 18 l v)) (k + 1) = c_cels (gj_u M 18 l k) from if_pos (by show k = 0 ∨ c_cels (gj_u M 18 l k) < p_bl (fun v : Nat => c_cels (gj_u M 18 l v)) k; omega), show p_bb (fun v : Nat => c_cels (gj_u M 18 l v)) (k + 1) = (k : Int) from if_pos (by show k = 0 ∨ c_cels (gj_u M 18 l k) < p_bl (fun v : Nat => c_cels (gj_u M 18 l v)) k; omega)] at h; exact gj_wk h ⟨rfl, rfl, rfl, rfl, rfl, rfl, trivial⟩)
        | (rw [show p_bl (fun v : Nat => c_cels (gj_u M 18 l v)) (k + 1) = p_bl (fun v : Nat => c_cels (gj_u M 18 l v)) k from if_neg (by show ¬ (k = 0 ∨ c_cels (gj_u M 18 l k) < p_bl (fun v : Nat => c_cels (gj_u M 18 l v)) k); omega), show p_bb (fun v : Nat => c_cels (gj_u M 18 l v)) (k + 1) = p_bb (fun v : Nat => c_cels (gj_u M 18 l v)) k from if_neg (by show ¬ (k = 0 ∨ c_cels (gj_u M 18 l k) < p_bl (fun v : Nat => c_cels (gj_u M 18 l v)) k); omega)] at h; exact gj_wk h ⟨rfl, rfl, rfl, rfl, rfl, rfl, trivial⟩)

set_option maxRecDepth 100000 in
set_option maxHeartbeats 4000000 in
theorem s3_best {xt : Nat × (Nat → Int)} {M : gj_M} {l : Int} (hI : c_I M) (hl : 0 ≤ l ∧ l < 4) : gj_T xt Y3_bestOf gS [gR 9, gI l] M (fun r M2 => r = some (gI (c_best M l)) ∧ gj_E [33, 34] M M2) := by
  show gj_G _ Y3_bestOf gS 0 0 0 [_, _, _, _, _, _, _] [] M _
  refine gj_aload_n 1 dX3_bestOf_0 rfl rfl ?_
  refine gj_getfr 4 dX3_bestOf_1 rfl fl_3_21 rfl rfl ?_
  refine gj_getfr 7 dX3_bestOf_4 rfl fl_3_45 rfl rfl ?_
  refine gj_iload_n 8 dX3_bestOf_7 rfl rfl ?_
  refine gj_iald 9 dX3_bestOf_8 rfl rfl (by omega) (by omega) (fun r_8 => ?_)
  refine gj_istore_n (lv' := [_, _, _, _, _, _, _]) 10 dX3_bestOf_9 rfl (by decide) rfl ?_
  refine gj_iconst 11 dX3_bestOf_10 rfl ?_
  refine gj_istore_n (lv' := [_, _, _, _, _, _, _]) 12 dX3_bestOf_11 rfl (by decide) rfl ?_
  refine gj_iconst 13 dX3_bestOf_12 rfl ?_
  refine gj_istore (lv' := [_, _, _, _, _, _, _]) 15 dX3_bestOf_13 rfl (by decide) rfl ?_
  refine gj_iconst 16 dX3_bestOf_15 rfl ?_
  refine gj_istore (lv' := [_, _, _, _, _, _, _]) 18 dX3_bestOf_16 rfl (by decide) rfl ?_
  exact gj_wk (s3_best_l hI hl (hI.2.2.2.1 l hl.1 hl.2).1 10 0 M rfl gj_E.rf (fun _ _ => rfl)) ⟨rfl, rfl, rfl, rfl, rfl, rfl, trivial⟩

set_option maxRecDepth 100000 in
set_option maxHeartbeats 4000000 in
theorem s3_share_i {xt : Nat × (Nat → Int)} {M : gj_M} {l acc : Int} {Q : Option gj_V → List gj_H → gj_M → Prop} (hI : c_I M) (hl : 0 ≤ l ∧ l < 4) (f : Nat) (hf : f < 24) (kk : gj_G xt Y3_shareInTwelfths gS 0 0 68 [some (gR 9), some (gI l), some (gI (acc + p_sum (fun c => c_sh M l f c) 10)), some (gI (f : Int)), some (gI ((10 : Nat) : Int)), none] [] M Q) : ∀ (n k : Nat), k + n = 10 → gj_G xt Y3_shareInTwelfths gS 0 0 13 [some (gR 9), some (gI l), some (gI (acc + p_sum (fun c => c_sh M l f c) k)), some (gI (f : Int)), some (gI (k : Int)), none] [] M Q := by
  intro n
  induction n with
  | zero =>
    intro k hk
    have h01 := c_cw_01 M l f k
    have hlb := c_lc_b hI f k
    refine gj_iload 15 dX3_shareInTwelfths_13 rfl rfl ?_
    refine gj_bipush 17 dX3_shareInTwelfths_15 rfl (by decide) ?_
    refine gj_icmp_ge 68 20 dX3_shareInTwelfths_17 (by decide) rfl (by omega) (by omega) (fun c_17 => ?_) (fun c_17 => absurd c_17 (by omega))
    have hk3 : k = 10 := by omega
    subst hk3
    exact kk
  | succ n ih =>
    intro k hk
    have h01 := c_cw_01 M l f k
    have hlb := c_lc_b hI f k
    refine gj_iload 15 dX3_shareInTwelfths_13 rfl rfl ?_
    refine gj_bipush 17 dX3_shareInTwelfths_15 rfl (by decide) ?_
    refine gj_icmp_ge 68 20 dX3_shareInTwelfths_17 (by decide) rfl (by omega) (by omega) (fun c_17 => absurd c_17 (by omega)) (fun c_17 => ?_)
    refine gj_aload_n 21 dX3_shareInTwelfths_20 rfl rfl ?_
    refine gj_iload_n 22 dX3_shareInTwelfths_21 rfl rfl ?_
    refine gj_iload_n 23 dX3_shareInTwelfths_22 rfl rfl ?_
    refine gj_iload 25 dX3_shareInTwelfths_23 rfl rfl ?_
    refine gj_fV 28 dX3_shareInTwelfths_25 rfl ok_3_levelCovers ml_3_94 iv_3_levelCovers (As := [gI _, gI _, gI _]) rfl rfl rfl rfl (Nat.le_of_ble_eq_true rfl) ⟨Nat.le_of_ble_eq_true rfl, Nat.le_of_ble_eq_true rfl⟩ (Nat.le_of_ble_eq_true rfl) ⟨rfl, rfl⟩ ⟨Nat.zero_le _, Nat.zero_le _⟩ (t3_levelCovers hI hl (by omega) (by omega)) ?_
    refine gj_if_eq 41 31 dX3_shareInTwelfths_28 (by decide) rfl (by omega) (fun c_28 => ?_) (fun c_28 => ?_)
    · refine gj_iconst 42 dX3_shareInTwelfths_41 rfl ?_
      refine gj_istore (lv' := [_, _, _, _, _, _]) 44 dX3_shareInTwelfths_42 rfl (by decide) rfl ?_
      refine gj_iload_n 45 dX3_shareInTwelfths_44 rfl rfl ?_
      refine gj_iload 47 dX3_shareInTwelfths_45 rfl rfl ?_
      refine gj_iconst 48 dX3_shareInTwelfths_47 rfl ?_
      refine gj_icmp_ge 55 51 dX3_shareInTwelfths_48 (by decide) rfl (by omega) (by omega) (fun c_48 => absurd c_48 (by decide)) (fun c_48 => ?_)
      refine gj_iconst 52 dX3_shareInTwelfths_51 rfl ?_
      refine gj_goto 60 dX3_shareInTwelfths_52 (by decide) ?_
      refine gj_iadd 61 dX3_shareInTwelfths_60 rfl ?_
      refine gj_istore_n (lv' := [_, _, _, _, _, _]) 62 dX3_shareInTwelfths_61 rfl (by decide) rfl ?_
      refine gj_iinc (b := ((k + 1 : Nat) : Int)) (lv' := [_, _, _, _, _, _]) 65 dX3_shareInTwelfths_62 rfl rfl (by omega) (by decide) rfl ?_
      refine gj_goto 13 dX3_shareInTwelfths_65 (by decide) ?_
      have h := ih (k + 1) (by omega)
      first
      | (rw [show p_sum (fun c => c_sh M l f c) (k + 1) = p_sum (fun c => c_sh M l f c) k + 12 / c_lc M f k by show p_sum (fun c => c_sh M l f c) k + c_sh M l f k = _; rw [show c_sh M l f k = 12 / c_lc M f k from if_pos (by omega)]] at h; rw [← Int.add_assoc] at h; exact gj_wk h ⟨rfl, rfl, rfl, rfl, rfl, trivial⟩)
      | (rw [show p_sum (fun c => c_sh M l f c) (k + 1) = p_sum (fun c => c_sh M l f c) k + 0 by show p_sum (fun c => c_sh M l f c) k + c_sh M l f k = _; rw [show c_sh M l f k = 0 from if_neg (by omega)]] at h; rw [← Int.add_assoc] at h; exact gj_wk h ⟨rfl, rfl, rfl, rfl, rfl, trivial⟩)
      | (rw [show p_sum (fun c => c_sh M l f c) (k + 1) = p_sum (fun c => c_sh M l f c) k + 0 by show p_sum (fun c => c_sh M l f c) k + c_sh M l f k = _; rw [show c_sh M l f k = 12 / c_lc M f k from if_pos (by omega), show c_lc M f k = 0 by omega]; rfl] at h; rw [← Int.add_assoc] at h; exact gj_wk h ⟨rfl, rfl, rfl, rfl, rfl, trivial⟩)
    · refine gj_aload_n 32 dX3_shareInTwelfths_31 rfl rfl ?_
      refine gj_iload_n 33 dX3_shareInTwelfths_32 rfl rfl ?_
      refine gj_iload 35 dX3_shareInTwelfths_33 rfl rfl ?_
      refine gj_fV 38 dX3_shareInTwelfths_35 rfl ok_3_levelsCovering ml_3_130 iv_3_levelsCovering (As := [gI _, gI _]) rfl rfl rfl rfl (Nat.le_of_ble_eq_true rfl) ⟨Nat.le_of_ble_eq_true rfl, Nat.le_of_ble_eq_true rfl⟩ (Nat.le_of_ble_eq_true rfl) ⟨rfl, rfl⟩ ⟨Nat.zero_le _, Nat.zero_le _⟩ (t3_levelsCovering hI (by omega) (by omega)) ?_
      refine gj_goto 42 dX3_shareInTwelfths_38 (by decide) ?_
      refine gj_istore (lv' := [_, _, _, _, _, _]) 44 dX3_shareInTwelfths_42 rfl (by decide) rfl ?_
      refine gj_iload_n 45 dX3_shareInTwelfths_44 rfl rfl ?_
      refine gj_iload 47 dX3_shareInTwelfths_45 rfl rfl ?_
      refine gj_iconst 48 dX3_shareInTwelfths_47 rfl ?_
      refine gj_icmp_ge 55 51 dX3_shareInTwelfths_48 (by decide) rfl (by omega) (by omega) (fun c_48 => ?_) (fun c_48 => ?_)
      · refine gj_bipush 57 dX3_shareInTwelfths_55 rfl (by decide) ?_
        refine gj_iload 59 dX3_shareInTwelfths_57 rfl rfl ?_
        refine gj_idiv 60 dX3_shareInTwelfths_59 rfl (by omega) (by omega) ?_
        refine gj_iadd 61 dX3_shareInTwelfths_60 rfl ?_
        refine gj_istore_n (lv' := [_, _, _, _, _, _]) 62 dX3_shareInTwelfths_61 rfl (by decide) rfl ?_
        refine gj_iinc (b := ((k + 1 : Nat) : Int)) (lv' := [_, _, _, _, _, _]) 65 dX3_shareInTwelfths_62 rfl rfl (by omega) (by decide) rfl ?_
        refine gj_goto 13 dX3_shareInTwelfths_65 (by decide) ?_
        have h := ih (k + 1) (by omega)
        first
        | (rw [show p_sum (fun c => c_sh M l f c) (k + 1) = p_sum (fun c => c_sh M l f c) k + 12 / c_lc M f k by show p_sum (fun c => c_sh M l f c) k + c_sh M l f k = _; rw [show c_sh M l f k = 12 / c_lc M f k from if_pos (by omega)]] at h; rw [← Int.add_assoc] at h; exact gj_wk h ⟨rfl, rfl, rfl, rfl, rfl, trivial⟩)
        | (rw [show p_sum (fun c => c_sh M l f c) (k + 1) = p_sum (fun c => c_sh M l f c) k + 0 by show p_sum (fun c => c_sh M l f c) k + c_sh M l f k = _; rw [show c_sh M l f k = 0 from if_neg (by omega)]] at h; rw [← Int.add_assoc] at h; exact gj_wk h ⟨rfl, rfl, rfl, rfl, rfl, trivial⟩)
        | (rw [show p_sum (fun c => c_sh M l f c) (k + 1) = p_sum (fun c => c_sh M l f c) k + 0 by show p_sum (fun c => c_sh M l f c) k + c_sh M l f k = _; rw [show c_sh M l f k = 12 / c_lc M f k from if_pos (by omega), show c_lc M f k = 0 by omega]; rfl] at h; rw [← Int.add_assoc] at h; exact gj_wk h ⟨rfl, rfl, rfl, rfl, rfl, trivial⟩)
      · refine gj_iconst 52 dX3_shareInTwelfths_51 rfl ?_
        refine gj_goto 60 dX3_shareInTwelfths_52 (by decide) ?_
        refine gj_iadd 61 dX3_shareInTwelfths_60 rfl ?_
        refine gj_istore_n (lv' := [_, _, _, _, _, _]) 62 dX3_shareInTwelfths_61 rfl (by decide) rfl ?_
        refine gj_iinc (b := ((k + 1 : Nat) : Int)) (lv' := [_, _, _, _, _, _]) 65 dX3_shareInTwelfths_62 rfl rfl (by omega) (by decide) rfl ?_
        refine gj_goto 13 dX3_shareInTwelfths_65 (by decide) ?_
        have h := ih (k + 1) (by omega)
        first
        | (rw [show p_sum (fun c => c_sh M l f c) (k + 1) = p_sum (fun c => c_sh M l f c) k + 12 / c_lc M f k by show p_sum (fun c => c_sh M l f c) k + c_sh M l f k = _; rw [show c_sh M l f k = 12 / c_lc M f k from if_pos (by omega)]] at h; rw [← Int.add_assoc] at h; exact gj_wk h ⟨rfl, rfl, rfl, rfl, rfl, trivial⟩)
        | (rw [show p_sum (fun c => c_sh M l f c) (k + 1) = p_sum (fun c => c_sh M l f c) k + 0 by show p_sum (fun c => c_sh M l f c) k + c_sh M l f k = _; rw [show c_sh M l f k = 0 from if_neg (by omega)]] at h; rw [← Int.add_assoc] at h; exact gj_wk h ⟨rfl, rfl, rfl, rfl, rfl, trivial⟩)
        | (rw [show p_sum (fun c => c_sh M l f c) (k + 1) = p_sum (fun c => c_sh M l f c) k + 0 by show p_sum (fun c => c_sh M l f c) k + c_sh M l f k = _; rw [show c_sh M l f k = 12 / c_lc M f k from if_pos (by omega), show c_lc M f k = 0 by omega]; rfl] at h; rw [← Int.add_assoc] at h; exact gj_wk h ⟨rfl, rfl, rfl, rfl, rfl, trivial⟩)

set_option maxRecDepth 100000 in
set_option maxHeartbeats 4000000 in
theorem s3_share_o {xt : Nat × (Nat → Int)} {M : gj_M} {l : Int} (hI : c_I M) (hl : 0 ≤ l ∧ l < 4) : ∀ (n k : Nat), k + n = 24 → gj_G xt Y3_shareInTwelfths gS 0 0 4 [some (gR 9), some (gI l), some (gI (p_sum (fun f => p_sum (fun c => c_sh M l f c) 10) k)), some (gI (k : Int)), none, none] [] M (fun r S2 M2 => S2 = gS ∧ r = some (gI (c_share M l)) ∧ M2 = M) := by
  intro n
  induction n with
  | zero =>
    intro k hk
    refine gj_iload_n 5 dX3_shareInTwelfths_4 rfl rfl ?_
    refine gj_bipush 7 dX3_shareInTwelfths_5 rfl (by decide) ?_
    refine gj_icmp_ge 74 10 dX3_shareInTwelfths_7 (by decide) rfl (by omega) (by omega) (fun c_7 => ?_) (fun c_7 => absurd c_7 (by omega))
    refine gj_iload_n 75 dX3_shareInTwelfths_74 rfl rfl ?_
    refine gj_iret dX3_shareInTwelfths_75 rfl ⟨Nat.zero_le _, Nat.zero_le _⟩ ?_
    have hk3 : k = 24 := by omega
    subst hk3
    exact ⟨rfl, rfl, rfl⟩
  | succ n ih =>
    intro k hk
    refine gj_iload_n 5 dX3_shareInTwelfths_4 rfl rfl ?_
    refine gj_bipush 7 dX3_shareInTwelfths_5 rfl (by decide) ?_
    refine gj_icmp_ge 74 10 dX3_shareInTwelfths_7 (by decide) rfl (by omega) (by omega) (fun c_7 => absurd c_7 (by omega)) (fun c_7 => ?_)
    refine gj_iconst 11 dX3_shareInTwelfths_10 rfl ?_
    refine gj_istore (lv' := [_, _, _, _, _, _]) 13 dX3_shareInTwelfths_11 rfl (by decide) rfl ?_
    refine gj_wk (lv' := [some (gR 9), some (gI l), some (gI (p_sum (fun f => p_sum (fun c => c_sh M l f c) 10) k + p_sum (fun c => c_sh M l k c) 0)), some (gI (k : Int)), some (gI ((0 : Nat) : Int)), none]) (s3_share_i hI hl k (by omega) ?_ 10 0 rfl) ⟨rfl, rfl, by simp [p_sum], rfl, rfl, trivial⟩
    refine gj_iinc (b := ((k + 1 : Nat) : Int)) (lv' := [_, _, _, _, _, _]) 71 dX3_shareInTwelfths_68 rfl rfl (by omega) (by decide) rfl ?_
    refine gj_goto 4 dX3_shareInTwelfths_71 (by decide) ?_
    exact gj_wk (ih (k + 1) (by omega)) ⟨rfl, rfl, rfl, rfl, trivial⟩

set_option maxRecDepth 100000 in
set_option maxHeartbeats 4000000 in
theorem s3_share {xt : Nat × (Nat → Int)} {M : gj_M} {l : Int} (hI : c_I M) (hl : 0 ≤ l ∧ l < 4) : gj_F xt Y3_shareInTwelfths gS [gR 9, gI l] M (some (gI (c_share M l))) M := by
  show gj_G _ Y3_shareInTwelfths gS 0 0 0 [_, _, _, _, _, _] [] M _
  refine gj_iconst 1 dX3_shareInTwelfths_0 rfl ?_
  refine gj_istore_n (lv' := [_, _, _, _, _, _]) 2 dX3_shareInTwelfths_1 rfl (by decide) rfl ?_
  refine gj_iconst 3 dX3_shareInTwelfths_2 rfl ?_
  refine gj_istore_n (lv' := [_, _, _, _, _, _]) 4 dX3_shareInTwelfths_3 rfl (by decide) rfl ?_
  exact gj_wk (s3_share_o hI hl 24 0 rfl) ⟨rfl, rfl, rfl, rfl, trivial⟩

set_option maxRecDepth 100000 in
set_option maxHeartbeats 4000000 in
theorem s3_isOrder_l {xt : Nat × (Nat → Int)} {M : gj_M} {od : Int} (hL : 0 ≤ M 10 1 ∧ M 10 1 ≤ 4) (ho : 0 ≤ od ∧ od < gj_tens (M 10 1).toNat) : ∀ (n k : Nat), (k : Int) + n = M 10 1 → gj_G xt Y3_isOrder gS 0 0 25 [some (gR 9), some (gI od), some (gI (p_met (M 10 1) od k)), some (gI (k : Int))] [] M (fun r S2 M2 => S2 = gS ∧ r = some (gI (p_io (M 10 1) od)) ∧ M2 = M) := by
  intro n
  induction n with
  | zero =>
    intro k hk
    have htb := gj_tens_b (M 10 1).toNat
    have hmi := p_met_in (M 10 1) od k
    have hsi := gj_in32 (Int32.ofInt 1 <<< (Int32.ofInt (M 10 1) &&& 31))
    have hs2 : 0 ≤ (Int32.ofInt 1 <<< (Int32.ofInt (M 10 1) &&& 31)).toInt := by
      have h5 : M 10 1 = 0 ∨ M 10 1 = 1 ∨ M 10 1 = 2 ∨ M 10 1 = 3 ∨ M 10 1 = 4 := by omega
      rcases h5 with h | h | h | h | h <;> rw [h] <;> decide
    refine gj_iload_n 26 dX3_isOrder_25 rfl rfl ?_
    refine gj_aload_n 27 dX3_isOrder_26 rfl rfl ?_
    refine gj_getfr 30 dX3_isOrder_27 rfl fl_3_12 rfl rfl ?_
    refine gj_getfi 33 dX3_isOrder_30 rfl fl_3_57 rfl rfl (fun r_30 => ?_)
    refine gj_icmp_ge 53 36 dX3_isOrder_33 (by decide) rfl (by omega) (by omega) (fun c_33 => ?_) (fun c_33 => absurd c_33 (by omega))
    refine gj_iload_n 54 dX3_isOrder_53 rfl rfl ?_
    refine gj_iconst 55 dX3_isOrder_54 rfl ?_
    refine gj_aload_n 56 dX3_isOrder_55 rfl rfl ?_
    refine gj_getfr 59 dX3_isOrder_56 rfl fl_3_12 rfl rfl ?_
    refine gj_getfi 62 dX3_isOrder_59 rfl fl_3_57 rfl rfl (fun r_59 => ?_)
    refine gj_ishl 63 dX3_isOrder_62 rfl ?_
    refine gj_iconst 64 dX3_isOrder_63 rfl ?_
    refine gj_isub 65 dX3_isOrder_64 rfl ?_
    refine gj_icmp_ne 72 68 dX3_isOrder_65 (by decide) rfl (by omega) (by omega) (fun c_65 => ?_) (fun c_65 => ?_)
    · refine gj_iconst 73 dX3_isOrder_72 rfl ?_
      refine gj_zret dX3_isOrder_73 rfl (by omega) ⟨Nat.zero_le _, Nat.zero_le _⟩ ?_
      have hk3 : k = (M 10 1).toNat := by omega
      subst hk3
      exact ⟨rfl, by unfold p_io; first | rw [if_pos ⟨ho.1, ho.2, by omega⟩] | rw [if_neg (fun q => by have q3 := q.2.2; omega)], rfl⟩
    · refine gj_iconst 69 dX3_isOrder_68 rfl ?_
      refine gj_goto 73 dX3_isOrder_69 (by decide) ?_
      refine gj_zret dX3_isOrder_73 rfl (by omega) ⟨Nat.zero_le _, Nat.zero_le _⟩ ?_
      have hk3 : k = (M 10 1).toNat := by omega
      subst hk3
      exact ⟨rfl, by unfold p_io; first | rw [if_pos ⟨ho.1, ho.2, by omega⟩] | rw [if_neg (fun q => by have q3 := q.2.2; omega)], rfl⟩
  | succ n ih =>
    intro k hk
    have htb := gj_tens_b (M 10 1).toNat
    have hmi := p_met_in (M 10 1) od k
    have hsi := gj_in32 (Int32.ofInt 1 <<< (Int32.ofInt (M 10 1) &&& 31))
    have hs2 : 0 ≤ (Int32.ofInt 1 <<< (Int32.ofInt (M 10 1) &&& 31)).toInt := by
      have h5 : M 10 1 = 0 ∨ M 10 1 = 1 ∨ M 10 1 = 2 ∨ M 10 1 = 3 ∨ M 10 1 = 4 := by omega
      rcases h5 with h | h | h | h | h <;> rw [h] <;> decide
    refine gj_iload_n 26 dX3_isOrder_25 rfl rfl ?_
    refine gj_aload_n 27 dX3_isOrder_26 rfl rfl ?_
    refine gj_getfr 30 dX3_isOrder_27 rfl fl_3_12 rfl rfl ?_
    refine gj_getfi 33 dX3_isOrder_30 rfl fl_3_57 rfl rfl (fun r_30 => ?_)
    refine gj_icmp_ge 53 36 dX3_isOrder_33 (by decide) rfl (by omega) (by omega) (fun c_33 => absurd c_33 (by omega)) (fun c_33 => ?_)
    refine gj_iload_n 37 dX3_isOrder_36 rfl rfl ?_
    refine gj_iconst 38 dX3_isOrder_37 rfl ?_
    refine gj_aload_n 39 dX3_isOrder_38 rfl rfl ?_
    refine gj_iload_n 40 dX3_isOrder_39 rfl rfl ?_
    refine gj_iload_n 41 dX3_isOrder_40 rfl rfl ?_
    refine gj_fV 44 dX3_isOrder_41 rfl ok_3_levelInOrder ml_3_61 iv_3_levelInOrder (As := [gI _, gI _]) rfl rfl rfl rfl (Nat.le_of_ble_eq_true rfl) ⟨Nat.le_of_ble_eq_true rfl, Nat.le_of_ble_eq_true rfl⟩ (Nat.le_of_ble_eq_true rfl) ⟨rfl, rfl⟩ ⟨Nat.zero_le _, Nat.zero_le _⟩ (s3_levelInOrder (by omega) (by omega) hL) ?_
    refine gj_ishl 45 dX3_isOrder_44 rfl ?_
    refine gj_ior 46 dX3_isOrder_45 rfl ?_
    refine gj_istore_n (lv' := [_, _, _, _]) 47 dX3_isOrder_46 rfl (by decide) rfl ?_
    refine gj_iinc (b := ((k + 1 : Nat) : Int)) (lv' := [_, _, _, _]) 50 dX3_isOrder_47 rfl rfl (by omega) (by decide) rfl ?_
    refine gj_goto 25 dX3_isOrder_50 (by decide) ?_
    exact gj_wk (ih (k + 1) (by omega)) ⟨rfl, rfl, rfl, rfl, trivial⟩

set_option maxRecDepth 100000 in
set_option maxHeartbeats 4000000 in
theorem s3_isOrder {xt : Nat × (Nat → Int)} {M : gj_M} {od : Int} (hL : 0 ≤ M 10 1 ∧ M 10 1 ≤ 4) (ho : gj_in od) : gj_F xt Y3_isOrder gS [gR 9, gI od] M (some (gI (p_io (M 10 1) od))) M := by
  show gj_G _ Y3_isOrder gS 0 0 0 [_, _, _, _] [] M _
  have htb := gj_tens_b (M 10 1).toNat
  refine gj_iload_n 1 dX3_isOrder_0 rfl rfl ?_
  refine gj_if_lt 19 4 dX3_isOrder_1 (by decide) rfl (by omega) (fun c_1 => ?_) (fun c_1 => ?_)
  · refine gj_iconst 20 dX3_isOrder_19 rfl ?_
    refine gj_zret dX3_isOrder_20 rfl (by omega) ⟨Nat.zero_le _, Nat.zero_le _⟩ ?_
    exact ⟨rfl, by unfold p_io; rw [if_neg (by omega)], rfl⟩
  · refine gj_iload_n 5 dX3_isOrder_4 rfl rfl ?_
    refine gj_gets 8 dX3_isOrder_5 rfl tn_3_54 ?_
    refine gj_aload_n 9 dX3_isOrder_8 rfl rfl ?_
    refine gj_getfr 12 dX3_isOrder_9 rfl fl_3_12 rfl rfl ?_
    refine gj_getfi 15 dX3_isOrder_12 rfl fl_3_57 rfl rfl (fun r_12 => ?_)
    refine gj_tld 16 dX3_isOrder_15 rfl (by omega) ?_
    refine gj_icmp_lt 21 19 dX3_isOrder_16 (by decide) rfl (by omega) (by omega) (fun c_16 => ?_) (fun c_16 => ?_)
    · refine gj_iconst 22 dX3_isOrder_21 rfl ?_
      refine gj_istore_n (lv' := [_, _, _, _]) 23 dX3_isOrder_22 rfl (by decide) rfl ?_
      refine gj_iconst 24 dX3_isOrder_23 rfl ?_
      refine gj_istore_n (lv' := [_, _, _, _]) 25 dX3_isOrder_24 rfl (by decide) rfl ?_
      exact gj_wk (s3_isOrder_l hL (by omega) (M 10 1).toNat 0 (by omega)) ⟨rfl, rfl, rfl, rfl, trivial⟩
    · refine gj_iconst 20 dX3_isOrder_19 rfl ?_
      refine gj_zret dX3_isOrder_20 rfl (by omega) ⟨Nat.zero_le _, Nat.zero_le _⟩ ?_
      exact ⟨rfl, by unfold p_io; rw [if_neg (by omega)], rfl⟩

set_option maxRecDepth 100000 in
set_option maxHeartbeats 4000000 in
theorem s3_forget_l {xt : Nat × (Nat → Int)} {M : gj_M}  : ∀ (n k : Nat), (k : Int) + n = 4 → gj_G xt Y3_forgetShorts gS 0 0 2 [some (gR 9), some (gI (k : Int))] [] (p_clr M 31 k) (fun r S2 M2 => S2 = gS ∧ r = none ∧ M2 = p_clr M 31 4) := by
  intro n
  induction n with
  | zero =>
    intro k hk
    refine gj_iload_n 3 dX3_forgetShorts_2 rfl rfl ?_
    refine gj_iconst 4 dX3_forgetShorts_3 rfl ?_
    refine gj_icmp_ge 20 7 dX3_forgetShorts_4 (by decide) rfl (by omega) (by omega) (fun c_4 => ?_) (fun c_4 => absurd c_4 (by omega))
    refine gj_vret dX3_forgetShorts_20 rfl ⟨Nat.zero_le _, Nat.zero_le _⟩ ?_
    exact ⟨rfl, rfl, by rw [show k = 4 by omega]⟩
  | succ n ih =>
    intro k hk
    refine gj_iload_n 3 dX3_forgetShorts_2 rfl rfl ?_
    refine gj_iconst 4 dX3_forgetShorts_3 rfl ?_
    refine gj_icmp_ge 20 7 dX3_forgetShorts_4 (by decide) rfl (by omega) (by omega) (fun c_4 => absurd c_4 (by omega)) (fun c_4 => ?_)
    refine gj_aload_n 8 dX3_forgetShorts_7 rfl rfl ?_
    refine gj_getfr 11 dX3_forgetShorts_8 rfl fl_3_32 rfl rfl ?_
    refine gj_iload_n 12 dX3_forgetShorts_11 rfl rfl ?_
    refine gj_iconst 13 dX3_forgetShorts_12 rfl ?_
    refine gj_iast 14 dX3_forgetShorts_13 rfl rfl (by omega) (by omega) (by omega) ?_
    refine gj_iinc (b := ((k + 1 : Nat) : Int)) (lv' := [_, _]) 17 dX3_forgetShorts_14 rfl rfl (by omega) (by decide) rfl ?_
    refine gj_goto 2 dX3_forgetShorts_17 (by decide) ?_
    exact gj_wk (ih (k + 1) (by omega)) ⟨rfl, rfl, trivial⟩

set_option maxRecDepth 100000 in
set_option maxHeartbeats 4000000 in
theorem s3_forget {xt : Nat × (Nat → Int)} {M : gj_M}  : gj_F xt Y3_forgetShorts gS [gR 9] M none (p_clr M 31 4) := by
  show gj_G _ Y3_forgetShorts gS 0 0 0 [_, _] [] M _
  refine gj_iconst 1 dX3_forgetShorts_0 rfl ?_
  refine gj_istore_n (lv' := [_, _]) 2 dX3_forgetShorts_1 rfl (by decide) rfl ?_
  exact gj_wk (s3_forget_l 4 0 (by omega)) ⟨rfl, rfl, trivial⟩
