set_option maxRecDepth 100000 in
set_option maxHeartbeats 1000000 in
theorem s3_cels_l {xt : Nat × (Nat → Int)} {M : gj_M} {M1 : gj_M} (hI : c_I M) (hE : gj_E [33, 34] M M1) (hd : ∀ d : Int, 0 ≤ d → d < 6 → M1 34 d = c_mo M d) : ∀ (n k : Nat), (k : Int) + n = M 10 0 → gj_G xt Y3_cels gS 0 0 8 [some (gR 9), some (gI (p_sum (fun d : Nat => c_mo M d) k)), some (gI (k : Int))] [] M1 (fun r S2 M2 => S2 = gS ∧ r = some (gI (c_cels M)) ∧ gj_E [33, 34] M M2) := by
  intro n
  induction n with
  | zero =>
    intro k hk
    have hc := c_eq.of hE (by decide)
    have e10 : M1 10 0 = M 10 0 := by rw [hc 10 (by decide)]
    have hD := hI.2.1
    refine gj_iload_n 9 dX3_cels_8 rfl rfl ?_
    refine gj_aload_n 10 dX3_cels_9 rfl rfl ?_
    refine gj_getfr 13 dX3_cels_10 rfl fl_3_12 rfl rfl ?_
    refine gj_getfiE (M 10 0) 16 dX3_cels_13 rfl fl_3_72 rfl rfl e10 (fun r_13 => ?_)
    refine gj_icmp_ge 34 19 dX3_cels_16 (by decide) rfl (by omega) (by omega) (fun c_16 => ?_) (fun c_16 => absurd c_16 (by omega))
    refine gj_iload_n 35 dX3_cels_34 rfl rfl ?_
    refine gj_iret dX3_cels_35 rfl ⟨Nat.zero_le _, Nat.zero_le _⟩ ?_
    exact ⟨rfl, by rw [show k = (M 10 0).toNat by omega]; rfl, hE⟩
  | succ n ih =>
    intro k hk
    have hc := c_eq.of hE (by decide)
    have e10 : M1 10 0 = M 10 0 := by rw [hc 10 (by decide)]
    have hD := hI.2.1
    refine gj_iload_n 9 dX3_cels_8 rfl rfl ?_
    refine gj_aload_n 10 dX3_cels_9 rfl rfl ?_
    refine gj_getfr 13 dX3_cels_10 rfl fl_3_12 rfl rfl ?_
    refine gj_getfiE (M 10 0) 16 dX3_cels_13 rfl fl_3_72 rfl rfl e10 (fun r_13 => ?_)
    refine gj_icmp_ge 34 19 dX3_cels_16 (by decide) rfl (by omega) (by omega) (fun c_16 => absurd c_16 (by omega)) (fun c_16 => ?_)
    refine gj_iload_n 20 dX3_cels_19 rfl rfl ?_
    refine gj_aload_n 21 dX3_cels_20 rfl rfl ?_
    refine gj_getfr 24 dX3_cels_21 rfl fl_3_42 rfl rfl ?_
    refine gj_iload_n 25 dX3_cels_24 rfl rfl ?_
    refine gj_ialdE (c_mo M k) 26 dX3_cels_25 rfl rfl (by omega) (by omega) (hd k (by omega) (by omega)) (fun r_25 => ?_)
    refine gj_iadd 27 dX3_cels_26 rfl ?_
    refine gj_istore_n (lv' := [_, _, _]) 28 dX3_cels_27 rfl (by decide) rfl ?_
    refine gj_iinc (b := ((k + 1 : Nat) : Int)) (lv' := [_, _, _]) 31 dX3_cels_28 rfl rfl (by omega) (by decide) rfl ?_
    refine gj_goto 8 dX3_cels_31 (by decide) ?_
    exact gj_wk (ih (k + 1) (by omega)) ⟨rfl, rfl, rfl, trivial⟩

set_option maxRecDepth 100000 in
set_option maxHeartbeats 1000000 in
theorem s3_cels {xt : Nat × (Nat → Int)} {M : gj_M} (hI : c_I M) : gj_T xt Y3_cels gS [gR 9] M (fun r M2 => r = some (gI (c_cels M)) ∧ gj_E [33, 34] M M2) := by
  show gj_G _ Y3_cels gS 0 0 0 [_, _, _] [] M _
  refine gj_aload_n 1 dX3_cels_0 rfl rfl ?_
  refine gj_callV 4 dX3_cels_1 rfl ok_3_findMost ml_3_106 iv_3_findMost (As := []) rfl rfl rfl rfl (Nat.le_of_ble_eq_true rfl) ⟨Nat.le_of_ble_eq_true rfl, Nat.le_of_ble_eq_true rfl⟩ (Nat.le_of_ble_eq_true rfl) ⟨rfl, rfl⟩ ⟨Nat.zero_le _, Nat.zero_le _⟩ (s3_findMost hI) (fun r_1 M_1 q_1 => ?_)
  obtain ⟨rfl, hE, hd⟩ := q_1
  show gj_G _ _ gS 0 0 4 _ [] M_1 _
  refine gj_iconst 5 dX3_cels_4 rfl ?_
  refine gj_istore_n (lv' := [_, _, _]) 6 dX3_cels_5 rfl (by decide) rfl ?_
  refine gj_iconst 7 dX3_cels_6 rfl ?_
  refine gj_istore_n (lv' := [_, _, _]) 8 dX3_cels_7 rfl (by decide) rfl ?_
  exact gj_wk (s3_cels_l hI hE hd (M 10 0).toNat 0 (by have := hI.2.1; omega)) ⟨rfl, rfl, rfl, trivial⟩

set_option maxRecDepth 100000 in
set_option maxHeartbeats 1000000 in
theorem s3_mostLevelsOf {xt : Nat × (Nat → Int)} {M : gj_M} {d : Int} (hI : c_I M) (hd : 0 ≤ d ∧ d < 6) : gj_T xt Y3_mostLevelsOf gS [gR 9, gI d] M (fun r M2 => r = some (gI (c_mo M d)) ∧ gj_E [33, 34] M M2) := by
  show gj_G _ Y3_mostLevelsOf gS 0 0 0 [_, _] [] M _
  refine gj_aload_n 1 dX3_mostLevelsOf_0 rfl rfl ?_
  refine gj_callV 4 dX3_mostLevelsOf_1 rfl ok_3_findMost ml_3_106 iv_3_findMost (As := []) rfl rfl rfl rfl (Nat.le_of_ble_eq_true rfl) ⟨Nat.le_of_ble_eq_true rfl, Nat.le_of_ble_eq_true rfl⟩ (Nat.le_of_ble_eq_true rfl) ⟨rfl, rfl⟩ ⟨Nat.zero_le _, Nat.zero_le _⟩ (s3_findMost hI) (fun r_1 M_1 q_1 => ?_)
  obtain ⟨rfl, hE, hm⟩ := q_1
  show gj_G _ _ gS 0 0 4 _ [] M_1 _
  refine gj_aload_n 5 dX3_mostLevelsOf_4 rfl rfl ?_
  refine gj_getfr 8 dX3_mostLevelsOf_5 rfl fl_3_42 rfl rfl ?_
  refine gj_iload_n 9 dX3_mostLevelsOf_8 rfl rfl ?_
  refine gj_ialdE (c_mo M d) 10 dX3_mostLevelsOf_9 rfl rfl (by omega) (by omega) (hm d hd.1 hd.2) (fun r_9 => ?_)
  refine gj_iret dX3_mostLevelsOf_10 rfl ⟨Nat.zero_le _, Nat.zero_le _⟩ ?_
  exact ⟨rfl, rfl, hE⟩

set_option maxRecDepth 100000 in
set_option maxHeartbeats 1000000 in
theorem s3_view_l {xt : Nat × (Nat → Int)} {M : gj_M} {f : Int} (hI : c_I M) (hf : 0 ≤ f ∧ f < 48) : ∀ (n k : Nat) (M1 : gj_M), k + n = 10 → gj_E [32] M M1 → (∀ c : Nat, c < k → M1 32 c = c_seen M f c (-1)) → (∀ c : Nat, k ≤ c → c < 10 → M1 32 c = M 32 c) → gj_G xt Y3_viewBecomes gS 0 0 4 [some (gR 9), some (gI f), some (gI (p_df (fun c : Nat => c_seen M f c (-1)) (fun c : Nat => M 32 c) k)), some (gI (k : Int)), none] [] M1 (fun r S2 M2 => S2 = gS ∧ r = some (gI (p_df (fun c : Nat => c_seen M f c (-1)) (fun c : Nat => M 32 c) 10)) ∧ gj_E [32] M M2 ∧ ∀ c : Nat, c < 10 → M2 32 c = c_seen M f c (-1)) := by
  intro n
  induction n with
  | zero =>
    intro k M1 hk hE hs ht
    have hc := c_eq.of hE (by decide)
    have hI1 := hc.I hI
    have hdf := p_df_01 (fun c : Nat => c_seen M f c (-1)) (fun c : Nat => M 32 c) k
    refine gj_iload_n 5 dX3_viewBecomes_4 rfl rfl ?_
    refine gj_bipush 7 dX3_viewBecomes_5 rfl (by decide) ?_
    refine gj_icmp_ge 54 10 dX3_viewBecomes_7 (by decide) rfl (by omega) (by omega) (fun c_7 => ?_) (fun c_7 => absurd c_7 (by omega))
    refine gj_iload_n 55 dX3_viewBecomes_54 rfl rfl ?_
    refine gj_zret dX3_viewBecomes_55 rfl (by omega) ⟨Nat.zero_le _, Nat.zero_le _⟩ ?_
    have hk3 : k = 10 := by omega
    subst hk3
    exact ⟨rfl, rfl, hE, hs⟩
  | succ n ih =>
    intro k M1 hk hE hs ht
    have hc := c_eq.of hE (by decide)
    have hI1 := hc.I hI
    have hdf := p_df_01 (fun c : Nat => c_seen M f c (-1)) (fun c : Nat => M 32 c) k
    refine gj_iload_n 5 dX3_viewBecomes_4 rfl rfl ?_
    refine gj_bipush 7 dX3_viewBecomes_5 rfl (by decide) ?_
    refine gj_icmp_ge 54 10 dX3_viewBecomes_7 (by decide) rfl (by omega) (by omega) (fun c_7 => absurd c_7 (by omega)) (fun c_7 => ?_)
    have hsb := c_seen_in hI f k (-1)
    have sp := t3_seenAt (xt := xt) (M := M1) (f := f) (c := (k : Int)) (rub := -1) hI1 hf (by omega) (by decide)
    rw [hc.seen] at sp
    have hk4 := ht k (by omega) (by omega)
    refine gj_aload_n 11 dX3_viewBecomes_10 rfl rfl ?_
    refine gj_iload_n 12 dX3_viewBecomes_11 rfl rfl ?_
    refine gj_iload_n 13 dX3_viewBecomes_12 rfl rfl ?_
    refine gj_iconst 14 dX3_viewBecomes_13 rfl ?_
    refine gj_fV 17 dX3_viewBecomes_14 rfl ok_3_seenAt ml_3_102 iv_3_seenAt (As := [gI _, gI _, gI _]) rfl rfl rfl rfl (Nat.le_of_ble_eq_true rfl) ⟨Nat.le_of_ble_eq_true rfl, Nat.le_of_ble_eq_true rfl⟩ (Nat.le_of_ble_eq_true rfl) ⟨rfl, rfl⟩ ⟨Nat.zero_le _, Nat.zero_le _⟩ (sp) ?_
    refine gj_istore (lv' := [_, _, _, _, _]) 19 dX3_viewBecomes_17 rfl (by decide) rfl ?_
    refine gj_iload_n 20 dX3_viewBecomes_19 rfl rfl ?_
    refine gj_if_ne 34 23 dX3_viewBecomes_20 (by decide) rfl (by omega) (fun c_20 => ?_) (fun c_20 => ?_)
    · refine gj_iconst 35 dX3_viewBecomes_34 rfl ?_
      refine gj_goto 39 dX3_viewBecomes_35 (by decide) ?_
      refine gj_istore_n (lv' := [_, _, _, _, _]) 40 dX3_viewBecomes_39 rfl (by decide) rfl ?_
      refine gj_aload_n 41 dX3_viewBecomes_40 rfl rfl ?_
      refine gj_getfr 44 dX3_viewBecomes_41 rfl fl_3_36 rfl rfl ?_
      refine gj_iload_n 45 dX3_viewBecomes_44 rfl rfl ?_
      refine gj_iload 47 dX3_viewBecomes_45 rfl rfl ?_
      refine gj_iast 48 dX3_viewBecomes_47 rfl rfl (by omega) (by omega) (by omega) ?_
      refine gj_iinc (b := ((k + 1 : Nat) : Int)) (lv' := [_, _, _, _, _]) 51 dX3_viewBecomes_48 rfl rfl (by omega) (by decide) rfl ?_
      refine gj_goto 4 dX3_viewBecomes_51 (by decide) ?_
      have hk2 : k < 10 := by omega
      have h := fun H1 H2 H3 => ih (k + 1) (gj_u M1 32 k (c_seen M f k (-1))) (by omega) H1 H2 H3
      have h2 := h (hE.tr (gj_E.u (by decide))) (fun c hck => by
        by_cases q : c = k
        · rw [q]; exact gj_u_s
        · rw [gj_u_i (by omega)]; exact hs c (by omega)) (fun c hck hc10 => by
        rw [gj_u_i (by omega)]; exact ht c (by omega) hc10)
      have e9 := ht k (by omega) (by omega)
      first
      | (rw [show p_df (fun c : Nat => c_seen M f c (-1)) (fun c : Nat => M 32 c) (k + 1) = 1 from if_pos (by first | (left; omega) | (right; show c_seen M f k (-1) ≠ M 32 k; omega))] at h2; exact gj_wk h2 ⟨rfl, rfl, rfl, rfl, trivial⟩)
      | (rw [show p_df (fun c : Nat => c_seen M f c (-1)) (fun c : Nat => M 32 c) (k + 1) = 0 from if_neg (by show ¬ (p_df (fun c : Nat => c_seen M f c (-1)) (fun c : Nat => M 32 c) k ≠ 0 ∨ c_seen M f k (-1) ≠ M 32 k); omega)] at h2; exact gj_wk h2 ⟨rfl, rfl, rfl, rfl, trivial⟩)
    · refine gj_iload 25 dX3_viewBecomes_23 rfl rfl ?_
      refine gj_aload_n 26 dX3_viewBecomes_25 rfl rfl ?_
      refine gj_getfr 29 dX3_viewBecomes_26 rfl fl_3_36 rfl rfl ?_
      refine gj_iload_n 30 dX3_viewBecomes_29 rfl rfl ?_
      refine gj_ialdE (M 32 k) 31 dX3_viewBecomes_30 rfl rfl (by omega) (by omega) hk4 (fun r_30 => ?_)
      refine gj_icmp_eq 38 34 dX3_viewBecomes_31 (by decide) rfl (by omega) (by omega) (fun c_31 => ?_) (fun c_31 => ?_)
      · refine gj_iconst 39 dX3_viewBecomes_38 rfl ?_
        refine gj_istore_n (lv' := [_, _, _, _, _]) 40 dX3_viewBecomes_39 rfl (by decide) rfl ?_
        refine gj_aload_n 41 dX3_viewBecomes_40 rfl rfl ?_
        refine gj_getfr 44 dX3_viewBecomes_41 rfl fl_3_36 rfl rfl ?_
        refine gj_iload_n 45 dX3_viewBecomes_44 rfl rfl ?_
        refine gj_iload 47 dX3_viewBecomes_45 rfl rfl ?_
        refine gj_iast 48 dX3_viewBecomes_47 rfl rfl (by omega) (by omega) (by omega) ?_
        refine gj_iinc (b := ((k + 1 : Nat) : Int)) (lv' := [_, _, _, _, _]) 51 dX3_viewBecomes_48 rfl rfl (by omega) (by decide) rfl ?_
        refine gj_goto 4 dX3_viewBecomes_51 (by decide) ?_
        have hk2 : k < 10 := by omega
        have h := fun H1 H2 H3 => ih (k + 1) (gj_u M1 32 k (c_seen M f k (-1))) (by omega) H1 H2 H3
        have h2 := h (hE.tr (gj_E.u (by decide))) (fun c hck => by
          by_cases q : c = k
          · rw [q]; exact gj_u_s
          · rw [gj_u_i (by omega)]; exact hs c (by omega)) (fun c hck hc10 => by
          rw [gj_u_i (by omega)]; exact ht c (by omega) hc10)
        have e9 := ht k (by omega) (by omega)
        first
        | (rw [show p_df (fun c : Nat => c_seen M f c (-1)) (fun c : Nat => M 32 c) (k + 1) = 1 from if_pos (by first | (left; omega) | (right; show c_seen M f k (-1) ≠ M 32 k; omega))] at h2; exact gj_wk h2 ⟨rfl, rfl, rfl, rfl, trivial⟩)
        | (rw [show p_df (fun c : Nat => c_seen M f c (-1)) (fun c : Nat => M 32 c) (k + 1) = 0 from if_neg (by show ¬ (p_df (fun c : Nat => c_seen M f c (-1)) (fun c : Nat => M 32 c) k ≠ 0 ∨ c_seen M f k (-1) ≠ M 32 k); omega)] at h2; exact gj_wk h2 ⟨rfl, rfl, rfl, rfl, trivial⟩)
      · refine gj_iconst 35 dX3_viewBecomes_34 rfl ?_
        refine gj_goto 39 dX3_viewBecomes_35 (by decide) ?_
        refine gj_istore_n (lv' := [_, _, _, _, _]) 40 dX3_viewBecomes_39 rfl (by decide) rfl ?_
        refine gj_aload_n 41 dX3_viewBecomes_40 rfl rfl ?_
        refine gj_getfr 44 dX3_viewBecomes_41 rfl fl_3_36 rfl rfl ?_
        refine gj_iload_n 45 dX3_viewBecomes_44 rfl rfl ?_
        refine gj_iload 47 dX3_viewBecomes_45 rfl rfl ?_
        refine gj_iast 48 dX3_viewBecomes_47 rfl rfl (by omega) (by omega) (by omega) ?_
        refine gj_iinc (b := ((k + 1 : Nat) : Int)) (lv' := [_, _, _, _, _]) 51 dX3_viewBecomes_48 rfl rfl (by omega) (by decide) rfl ?_
        refine gj_goto 4 dX3_viewBecomes_51 (by decide) ?_
        have hk2 : k < 10 := by omega
        have h := fun H1 H2 H3 => ih (k + 1) (gj_u M1 32 k (c_seen M f k (-1))) (by omega) H1 H2 H3
        have h2 := h (hE.tr (gj_E.u (by decide))) (fun c hck => by
          by_cases q : c = k
          · rw [q]; exact gj_u_s
          · rw [gj_u_i (by omega)]; exact hs c (by omega)) (fun c hck hc10 => by
          rw [gj_u_i (by omega)]; exact ht c (by omega) hc10)
        have e9 := ht k (by omega) (by omega)
        first
        | (rw [show p_df (fun c : Nat => c_seen M f c (-1)) (fun c : Nat => M 32 c) (k + 1) = 1 from if_pos (by first | (left; omega) | (right; show c_seen M f k (-1) ≠ M 32 k; omega))] at h2; exact gj_wk h2 ⟨rfl, rfl, rfl, rfl, trivial⟩)
        | (rw [show p_df (fun c : Nat => c_seen M f c (-1)) (fun c : Nat => M 32 c) (k + 1) = 0 from if_neg (by show ¬ (p_df (fun c : Nat => c_seen M f c (-1)) (fun c : Nat => M 32 c) k ≠ 0 ∨ c_seen M f k (-1) ≠ M 32 k); omega)] at h2; exact gj_wk h2 ⟨rfl, rfl, rfl, rfl, trivial⟩)

set_option maxRecDepth 100000 in
set_option maxHeartbeats 1000000 in
theorem s3_view {xt : Nat × (Nat → Int)} {M : gj_M} {f : Int} (hI : c_I M) (hf : 0 ≤ f ∧ f < 48) : gj_T xt Y3_viewBecomes gS [gR 9, gI f] M (fun r M2 => r = some (gI (p_df (fun c : Nat => c_seen M f c (-1)) (fun c : Nat => M 32 c) 10)) ∧ gj_E [32] M M2 ∧ ∀ c : Nat, c < 10 → M2 32 c = c_seen M f c (-1)) := by
  show gj_G _ Y3_viewBecomes gS 0 0 0 [_, _, _, _, _] [] M _
  refine gj_iconst 1 dX3_viewBecomes_0 rfl ?_
  refine gj_istore_n (lv' := [_, _, _, _, _]) 2 dX3_viewBecomes_1 rfl (by decide) rfl ?_
  refine gj_iconst 3 dX3_viewBecomes_2 rfl ?_
  refine gj_istore_n (lv' := [_, _, _, _, _]) 4 dX3_viewBecomes_3 rfl (by decide) rfl ?_
  exact gj_wk (s3_view_l hI hf 10 0 M rfl gj_E.rf (fun c h => absurd h (by omega)) (fun c _ _ => rfl)) ⟨rfl, rfl, rfl, rfl, trivial⟩

set_option maxRecDepth 100000 in
set_option maxHeartbeats 1000000 in
theorem s3_changes_l {xt : Nat × (Nat → Int)} {M : gj_M} (hI : c_I M) : ∀ (n k : Nat) (M1 : gj_M), k + n = 47 → gj_E [32] M M1 → (∀ c : Nat, c < 10 → M1 32 c = c_seen M k c (-1)) → gj_G xt Y3_changes gS 0 0 10 [some (gR 9), some (gI (c_chg M k)), some (gI ((k : Int) + 1))] [] M1 (fun r S2 M2 => S2 = gS ∧ r = some (gI (c_chg M 47)) ∧ gj_E [32] M M2) := by
  intro n
  induction n with
  | zero =>
    intro k M1 hk hE hs
    have hc := c_eq.of hE (by decide)
    have hI1 := hc.I hI
    refine gj_iload_n 11 dX3_changes_10 rfl rfl ?_
    refine gj_bipush 13 dX3_changes_11 rfl (by decide) ?_
    refine gj_icmp_ge 33 16 dX3_changes_13 (by decide) rfl (by omega) (by omega) (fun c_13 => ?_) (fun c_13 => absurd c_13 (by omega))
    refine gj_iload_n 34 dX3_changes_33 rfl rfl ?_
    refine gj_iret dX3_changes_34 rfl ⟨Nat.zero_le _, Nat.zero_le _⟩ ?_
    have hk3 : k = 47 := by omega
    subst hk3
    exact ⟨rfl, rfl, hE⟩
  | succ n ih =>
    intro k M1 hk hE hs
    have hc := c_eq.of hE (by decide)
    have hI1 := hc.I hI
    refine gj_iload_n 11 dX3_changes_10 rfl rfl ?_
    refine gj_bipush 13 dX3_changes_11 rfl (by decide) ?_
    refine gj_icmp_ge 33 16 dX3_changes_13 (by decide) rfl (by omega) (by omega) (fun c_13 => absurd c_13 (by omega)) (fun c_13 => ?_)
    refine gj_aload_n 17 dX3_changes_16 rfl rfl ?_
    refine gj_iload_n 18 dX3_changes_17 rfl rfl ?_
    refine gj_callV 21 dX3_changes_18 rfl ok_3_viewBecomes ml_3_98 iv_3_viewBecomes (As := [gI _]) rfl rfl rfl rfl (Nat.le_of_ble_eq_true rfl) ⟨Nat.le_of_ble_eq_true rfl, Nat.le_of_ble_eq_true rfl⟩ (Nat.le_of_ble_eq_true rfl) ⟨rfl, rfl⟩ ⟨Nat.zero_le _, Nat.zero_le _⟩ (s3_view hI1 (by omega)) (fun r_18 M_18 q_18 => ?_)
    obtain ⟨rfl, hE2, hv2⟩ := q_18
    rw [p_df_congr (s' := fun c : Nat => c_seen M ((k : Int) + 1) c (-1)) (t' := fun c : Nat => c_seen M k c (-1)) 10 (fun i hi => ⟨hc.seen _ _ _, hs i hi⟩)]
    have hdf := p_df_01 (fun c : Nat => c_seen M ((k : Int) + 1) c (-1)) (fun c : Nat => c_seen M k c (-1)) 10
    show gj_G _ _ gS 0 0 21 _ [gI (p_df (fun c : Nat => c_seen M ((k : Int) + 1) c (-1)) (fun c : Nat => c_seen M k c (-1)) 10)] M_18 _
    refine gj_if_eq 27 24 dX3_changes_21 (by decide) rfl (by omega) (fun c_21 => ?_) (fun c_21 => ?_)
    · refine gj_iinc (b := ((k + 1 : Nat) : Int) + 1) (lv' := [_, _, _]) 30 dX3_changes_27 rfl rfl (by omega) (by decide) rfl ?_
      refine gj_goto 10 dX3_changes_30 (by decide) ?_
      have h := ih (k + 1) M_18 (by omega) (hE.tr hE2) (fun c h10 => by
        rw [hv2 c h10, hc.seen]
        congr 1)
      first
      | (rw [show c_chg M (k + 1) = c_chg M k + 1 by show c_chg M k + _ = _; omega] at h; exact gj_wk h ⟨rfl, rfl, rfl, trivial⟩)
      | (rw [show c_chg M (k + 1) = c_chg M k by show c_chg M k + _ = _; omega] at h; exact gj_wk h ⟨rfl, rfl, rfl, trivial⟩)
    · refine gj_iinc (lv' := [_, _, _]) 27 dX3_changes_24 rfl rfl rfl (by decide) rfl ?_
      refine gj_iinc (b := ((k + 1 : Nat) : Int) + 1) (lv' := [_, _, _]) 30 dX3_changes_27 rfl rfl (by omega) (by decide) rfl ?_
      refine gj_goto 10 dX3_changes_30 (by decide) ?_
      have h := ih (k + 1) M_18 (by omega) (hE.tr hE2) (fun c h10 => by
        rw [hv2 c h10, hc.seen]
        congr 1)
      first
      | (rw [show c_chg M (k + 1) = c_chg M k + 1 by show c_chg M k + _ = _; omega] at h; exact gj_wk h ⟨rfl, rfl, rfl, trivial⟩)
      | (rw [show c_chg M (k + 1) = c_chg M k by show c_chg M k + _ = _; omega] at h; exact gj_wk h ⟨rfl, rfl, rfl, trivial⟩)

set_option maxRecDepth 100000 in
set_option maxHeartbeats 1000000 in
theorem s3_changes {xt : Nat × (Nat → Int)} {M : gj_M} (hI : c_I M) : gj_T xt Y3_changes gS [gR 9] M (fun r M2 => r = some (gI (c_chg M 47)) ∧ gj_E [32] M M2) := by
  show gj_G _ Y3_changes gS 0 0 0 [_, _, _] [] M _
  refine gj_iconst 1 dX3_changes_0 rfl ?_
  refine gj_istore_n (lv' := [_, _, _]) 2 dX3_changes_1 rfl (by decide) rfl ?_
  refine gj_aload_n 3 dX3_changes_2 rfl rfl ?_
  refine gj_iconst 4 dX3_changes_3 rfl ?_
  refine gj_callV 7 dX3_changes_4 rfl ok_3_viewBecomes ml_3_98 iv_3_viewBecomes (As := [gI _]) rfl rfl rfl rfl (Nat.le_of_ble_eq_true rfl) ⟨Nat.le_of_ble_eq_true rfl, Nat.le_of_ble_eq_true rfl⟩ (Nat.le_of_ble_eq_true rfl) ⟨rfl, rfl⟩ ⟨Nat.zero_le _, Nat.zero_le _⟩ (s3_view hI (by omega)) (fun r_4 M_4 q_4 => ?_)
  obtain ⟨rfl, hE, hv⟩ := q_4
  show gj_G _ _ gS 0 0 7 _ [gI _] M_4 _
  refine gj_pop 8 dX3_changes_7 rfl (fun _ => rfl) ?_
  refine gj_iconst 9 dX3_changes_8 rfl ?_
  refine gj_istore_n (lv' := [_, _, _]) 10 dX3_changes_9 rfl (by decide) rfl ?_
  exact gj_wk (s3_changes_l hI 47 0 M_4 rfl hE (fun c h => hv c h)) ⟨rfl, rfl, rfl, trivial⟩
