set_option maxRecDepth 100000 in
set_option maxHeartbeats 1000000 in
theorem s7_isD {xt : Nat × (Nat → Int)} {M : gj_M} (hD : 0 ≤ M 10 0 ∧ M 10 0 ≤ 6) {d : Int} (h : gj_in d) : gj_F xt Y7_isDrawing gS [gR 0, gI d] M (some (gI (x_isD M d))) M := by
  show gj_G _ Y7_isDrawing gS 0 0 0 [_, _] [] M _
  refine gj_iload_n 1 dX7_isDrawing_0 rfl rfl ?_
  refine gj_if_lt 19 4 dX7_isDrawing_1 (by decide) rfl (by omega) (fun c_1 => ?_) (fun c_1 => ?_)
  · refine gj_iconst 20 dX7_isDrawing_19 rfl ?_
    refine gj_zret dX7_isDrawing_20 rfl (by decide) ⟨Nat.zero_le _, Nat.zero_le _⟩ ?_
    exact ⟨rfl, by (unfold x_isD; (repeat (first | rw [if_pos (by omega)] | rw [if_neg (by omega)])); try rfl), rfl⟩
  · refine gj_iload_n 5 dX7_isDrawing_4 rfl rfl ?_
    refine gj_aload_n 6 dX7_isDrawing_5 rfl rfl ?_
    refine gj_getfr 9 dX7_isDrawing_6 rfl fl_7_31 rfl rfl ?_
    refine gj_getfi 12 dX7_isDrawing_9 rfl fl_7_219 rfl rfl (fun r_9 => ?_)
    refine gj_icmp_ge 19 15 dX7_isDrawing_12 (by decide) rfl (by omega) (by omega) (fun c_12 => ?_) (fun c_12 => ?_)
    · refine gj_iconst 20 dX7_isDrawing_19 rfl ?_
      refine gj_zret dX7_isDrawing_20 rfl (by decide) ⟨Nat.zero_le _, Nat.zero_le _⟩ ?_
      exact ⟨rfl, by (unfold x_isD; (repeat (first | rw [if_pos (by omega)] | rw [if_neg (by omega)])); try rfl), rfl⟩
    · refine gj_iconst 16 dX7_isDrawing_15 rfl ?_
      refine gj_goto 20 dX7_isDrawing_16 (by decide) ?_
      refine gj_zret dX7_isDrawing_20 rfl (by decide) ⟨Nat.zero_le _, Nat.zero_le _⟩ ?_
      exact ⟨rfl, by (unfold x_isD; (repeat (first | rw [if_pos (by omega)] | rw [if_neg (by omega)])); try rfl), rfl⟩

set_option maxRecDepth 100000 in
set_option maxHeartbeats 1000000 in
theorem s7_isL {xt : Nat × (Nat → Int)} {M : gj_M} (hL : 0 ≤ M 10 1 ∧ M 10 1 ≤ 4) {d : Int} (h : gj_in d) : gj_F xt Y7_isLevel gS [gR 0, gI d] M (some (gI (x_isL M d))) M := by
  show gj_G _ Y7_isLevel gS 0 0 0 [_, _] [] M _
  refine gj_iload_n 1 dX7_isLevel_0 rfl rfl ?_
  refine gj_if_lt 19 4 dX7_isLevel_1 (by decide) rfl (by omega) (fun c_1 => ?_) (fun c_1 => ?_)
  · refine gj_iconst 20 dX7_isLevel_19 rfl ?_
    refine gj_zret dX7_isLevel_20 rfl (by decide) ⟨Nat.zero_le _, Nat.zero_le _⟩ ?_
    exact ⟨rfl, by (unfold x_isL; (repeat (first | rw [if_pos (by omega)] | rw [if_neg (by omega)])); try rfl), rfl⟩
  · refine gj_iload_n 5 dX7_isLevel_4 rfl rfl ?_
    refine gj_aload_n 6 dX7_isLevel_5 rfl rfl ?_
    refine gj_getfr 9 dX7_isLevel_6 rfl fl_7_31 rfl rfl ?_
    refine gj_getfi 12 dX7_isLevel_9 rfl fl_7_97 rfl rfl (fun r_9 => ?_)
    refine gj_icmp_ge 19 15 dX7_isLevel_12 (by decide) rfl (by omega) (by omega) (fun c_12 => ?_) (fun c_12 => ?_)
    · refine gj_iconst 20 dX7_isLevel_19 rfl ?_
      refine gj_zret dX7_isLevel_20 rfl (by decide) ⟨Nat.zero_le _, Nat.zero_le _⟩ ?_
      exact ⟨rfl, by (unfold x_isL; (repeat (first | rw [if_pos (by omega)] | rw [if_neg (by omega)])); try rfl), rfl⟩
    · refine gj_iconst 16 dX7_isLevel_15 rfl ?_
      refine gj_goto 20 dX7_isLevel_16 (by decide) ?_
      refine gj_zret dX7_isLevel_20 rfl (by decide) ⟨Nat.zero_le _, Nat.zero_le _⟩ ?_
      exact ⟨rfl, by (unfold x_isL; (repeat (first | rw [if_pos (by omega)] | rw [if_neg (by omega)])); try rfl), rfl⟩

set_option maxRecDepth 100000 in
set_option maxHeartbeats 1000000 in
theorem s7_isF {xt : Nat × (Nat → Int)} {M : gj_M} {d : Int} (h : gj_in d) : gj_F xt Y7_isFrame gS [gI d] M (some (gI (x_isF d))) M := by
  show gj_G _ Y7_isFrame gS 0 0 0 [_] [] M _
  refine gj_iload_n 1 dX7_isFrame_0 rfl rfl ?_
  refine gj_if_lt 14 4 dX7_isFrame_1 (by decide) rfl (by omega) (fun c_1 => ?_) (fun c_1 => ?_)
  · refine gj_iconst 15 dX7_isFrame_14 rfl ?_
    refine gj_zret dX7_isFrame_15 rfl (by decide) ⟨Nat.zero_le _, Nat.zero_le _⟩ ?_
    exact ⟨rfl, by (unfold x_isF; (repeat (first | rw [if_pos (by omega)] | rw [if_neg (by omega)])); try rfl), rfl⟩
  · refine gj_iload_n 5 dX7_isFrame_4 rfl rfl ?_
    refine gj_bipush 7 dX7_isFrame_5 rfl (by decide) ?_
    refine gj_icmp_ge 14 10 dX7_isFrame_7 (by decide) rfl (by omega) (by omega) (fun c_7 => ?_) (fun c_7 => ?_)
    · refine gj_iconst 15 dX7_isFrame_14 rfl ?_
      refine gj_zret dX7_isFrame_15 rfl (by decide) ⟨Nat.zero_le _, Nat.zero_le _⟩ ?_
      exact ⟨rfl, by (unfold x_isF; (repeat (first | rw [if_pos (by omega)] | rw [if_neg (by omega)])); try rfl), rfl⟩
    · refine gj_iconst 11 dX7_isFrame_10 rfl ?_
      refine gj_goto 15 dX7_isFrame_11 (by decide) ?_
      refine gj_zret dX7_isFrame_15 rfl (by decide) ⟨Nat.zero_le _, Nat.zero_le _⟩ ?_
      exact ⟨rfl, by (unfold x_isF; (repeat (first | rw [if_pos (by omega)] | rw [if_neg (by omega)])); try rfl), rfl⟩

set_option maxRecDepth 100000 in
set_option maxHeartbeats 1000000 in
theorem s7_isW {xt : Nat × (Nat → Int)} {M : gj_M} {d : Int} (h : gj_in d) : gj_F xt Y7_isWindow gS [gI d] M (some (gI (x_isW d))) M := by
  show gj_G _ Y7_isWindow gS 0 0 0 [_] [] M _
  refine gj_iload_n 1 dX7_isWindow_0 rfl rfl ?_
  refine gj_if_lt 14 4 dX7_isWindow_1 (by decide) rfl (by omega) (fun c_1 => ?_) (fun c_1 => ?_)
  · refine gj_iconst 15 dX7_isWindow_14 rfl ?_
    refine gj_zret dX7_isWindow_15 rfl (by decide) ⟨Nat.zero_le _, Nat.zero_le _⟩ ?_
    exact ⟨rfl, by (unfold x_isW; (repeat (first | rw [if_pos (by omega)] | rw [if_neg (by omega)])); try rfl), rfl⟩
  · refine gj_iload_n 5 dX7_isWindow_4 rfl rfl ?_
    refine gj_bipush 7 dX7_isWindow_5 rfl (by decide) ?_
    refine gj_icmp_ge 14 10 dX7_isWindow_7 (by decide) rfl (by omega) (by omega) (fun c_7 => ?_) (fun c_7 => ?_)
    · refine gj_iconst 15 dX7_isWindow_14 rfl ?_
      refine gj_zret dX7_isWindow_15 rfl (by decide) ⟨Nat.zero_le _, Nat.zero_le _⟩ ?_
      exact ⟨rfl, by (unfold x_isW; (repeat (first | rw [if_pos (by omega)] | rw [if_neg (by omega)])); try rfl), rfl⟩
    · refine gj_iconst 11 dX7_isWindow_10 rfl ?_
      refine gj_goto 15 dX7_isWindow_11 (by decide) ?_
      refine gj_zret dX7_isWindow_15 rfl (by decide) ⟨Nat.zero_le _, Nat.zero_le _⟩ ?_
      exact ⟨rfl, by (unfold x_isW; (repeat (first | rw [if_pos (by omega)] | rw [if_neg (by omega)])); try rfl), rfl⟩

theorem x_isL_c (M : gj_M) (l : Int) : (x_isL M l = 1 ∧ 0 ≤ l ∧ l < M 10 1) ∨ (x_isL M l = 0 ∧ ¬ (0 ≤ l ∧ l < M 10 1)) := by unfold x_isL; split <;> simp [*]
theorem x_isD_c (M : gj_M) (l : Int) : (x_isD M l = 1 ∧ 0 ≤ l ∧ l < M 10 0) ∨ (x_isD M l = 0 ∧ ¬ (0 ≤ l ∧ l < M 10 0)) := by unfold x_isD; split <;> simp [*]
theorem x_isF_c (l : Int) : (x_isF l = 1 ∧ 0 ≤ l ∧ l < 48) ∨ (x_isF l = 0 ∧ ¬ (0 ≤ l ∧ l < 48)) := by unfold x_isF; split <;> simp [*]
theorem x_isW_c (l : Int) : (x_isW l = 1 ∧ 0 ≤ l ∧ l < 10) ∨ (x_isW l = 0 ∧ ¬ (0 ≤ l ∧ l < 10)) := by unfold x_isW; split <;> simp [*]
theorem x_hasP_c (M : gj_M) (l : Int) : (x_hasP M l = 1 ∧ (l = 9 ∨ (0 ≤ l ∧ l < M 10 1))) ∨ (x_hasP M l = 0 ∧ ¬ (l = 9 ∨ (0 ≤ l ∧ l < M 10 1))) := by unfold x_hasP; split <;> simp [*]
theorem x_panOf_c {M : gj_M} {l : Int} (hL : 0 ≤ M 10 1 ∧ M 10 1 ≤ 4) (h : l = 9 ∨ (0 ≤ l ∧ l < M 10 1)) : 0 ≤ x_panOf l ∧ x_panOf l < 5 := by unfold x_panOf; split <;> omega

set_option maxRecDepth 100000 in
set_option maxHeartbeats 1000000 in
theorem s7_hasP {xt : Nat × (Nat → Int)} {M : gj_M} (hL : 0 ≤ M 10 1 ∧ M 10 1 ≤ 4) {d : Int} (h : gj_in d) : gj_F xt Y7_hasPan gS [gR 0, gI d] M (some (gI (x_hasP M d))) M := by
  show gj_G _ Y7_hasPan gS 0 0 0 [_, _] [] M _
  refine gj_iload_n 1 dX7_hasPan_0 rfl rfl ?_
  refine gj_bipush 3 dX7_hasPan_1 rfl (by decide) ?_
  refine gj_icmp_eq 14 6 dX7_hasPan_3 (by decide) rfl (by omega) (by omega) (fun c_3 => ?_) (fun c_3 => ?_)
  · refine gj_iconst 15 dX7_hasPan_14 rfl ?_
    refine gj_goto 19 dX7_hasPan_15 (by decide) ?_
    refine gj_zret dX7_hasPan_19 rfl (by decide) ⟨Nat.zero_le _, Nat.zero_le _⟩ ?_
    exact ⟨rfl, by (unfold x_hasP; (repeat (first | rw [if_pos (by omega)] | rw [if_neg (by omega)])); try rfl), rfl⟩
  · refine gj_aload_n 7 dX7_hasPan_6 rfl rfl ?_
    refine gj_iload_n 8 dX7_hasPan_7 rfl rfl ?_
    refine gj_fV 11 dX7_hasPan_8 rfl ok_7_isLevel ml_7_114 iv_7_isLevel (As := [gI _]) rfl rfl rfl rfl (Nat.le_of_ble_eq_true rfl) ⟨Nat.le_of_ble_eq_true rfl, Nat.le_of_ble_eq_true rfl⟩ (Nat.le_of_ble_eq_true rfl) ⟨rfl, rfl⟩ ⟨Nat.zero_le _, Nat.zero_le _⟩ (s7_isL hL h) ?_
    have hc := x_isL_c M d
    refine gj_if_eq 18 14 dX7_hasPan_11 (by decide) rfl (by omega) (fun c_11 => ?_) (fun c_11 => ?_)
    · refine gj_iconst 19 dX7_hasPan_18 rfl ?_
      refine gj_zret dX7_hasPan_19 rfl (by decide) ⟨Nat.zero_le _, Nat.zero_le _⟩ ?_
      exact ⟨rfl, by (unfold x_hasP; (repeat (first | rw [if_pos (by omega)] | rw [if_neg (by omega)])); try rfl), rfl⟩
    · refine gj_iconst 15 dX7_hasPan_14 rfl ?_
      refine gj_goto 19 dX7_hasPan_15 (by decide) ?_
      refine gj_zret dX7_hasPan_19 rfl (by decide) ⟨Nat.zero_le _, Nat.zero_le _⟩ ?_
      exact ⟨rfl, by (unfold x_hasP; (repeat (first | rw [if_pos (by omega)] | rw [if_neg (by omega)])); try rfl), rfl⟩

set_option maxRecDepth 100000 in
set_option maxHeartbeats 1000000 in
theorem s7_panOf {xt : Nat × (Nat → Int)} {M : gj_M} {d : Int} (h : gj_in d) : gj_F xt Y7_panOf gS [gI d] M (some (gI (x_panOf d))) M := by
  show gj_G _ Y7_panOf gS 0 0 0 [_] [] M _
  refine gj_iload_n 1 dX7_panOf_0 rfl rfl ?_
  refine gj_bipush 3 dX7_panOf_1 rfl (by decide) ?_
  refine gj_icmp_ne 10 6 dX7_panOf_3 (by decide) rfl (by omega) (by omega) (fun c_3 => ?_) (fun c_3 => ?_)
  · refine gj_iload_n 11 dX7_panOf_10 rfl rfl ?_
    refine gj_iret dX7_panOf_11 rfl ⟨Nat.zero_le _, Nat.zero_le _⟩ ?_
    exact ⟨rfl, by (unfold x_panOf; (repeat (first | rw [if_pos (by omega)] | rw [if_neg (by omega)])); try rfl), rfl⟩
  · refine gj_iconst 7 dX7_panOf_6 rfl ?_
    refine gj_goto 11 dX7_panOf_7 (by decide) ?_
    refine gj_iret dX7_panOf_11 rfl ⟨Nat.zero_le _, Nat.zero_le _⟩ ?_
    exact ⟨rfl, by (unfold x_panOf; (repeat (first | rw [if_pos (by omega)] | rw [if_neg (by omega)])); try rfl), rfl⟩

set_option maxRecDepth 100000 in
set_option maxHeartbeats 1000000 in
theorem s7_write {xt : Nat × (Nat → Int)} {M : gj_M} {c : Int} (h : gj_in c) (ht : 0 ≤ M 0 1 ∧ M 0 1 ≤ 80) : gj_F xt Y7_write gS [gR 0, gI c] M (some (gI (x_write M c))) (m_write M c) := by
  show gj_G _ Y7_write gS 0 0 0 [_, _] [] M _
  refine gj_iload_n 1 dX7_write_0 rfl rfl ?_
  refine gj_if_lt 11 4 dX7_write_1 (by decide) rfl (by omega) (fun c_1 => ?_) (fun c_1 => ?_)
  · refine gj_bipush 13 dX7_write_11 rfl (by decide) ?_
    refine gj_iret dX7_write_13 rfl ⟨Nat.zero_le _, Nat.zero_le _⟩ ?_
    exact ⟨rfl, by (unfold x_write; (repeat (first | rw [if_pos (by omega)] | rw [if_neg (by omega)])); try rfl), by (unfold m_write; (repeat (first | rw [if_pos (by omega)] | rw [if_neg (by omega)])); try rfl)⟩
  · refine gj_iload_n 5 dX7_write_4 rfl rfl ?_
    refine gj_sipush 8 dX7_write_5 rfl (by decide) ?_
    refine gj_icmp_le 14 11 dX7_write_8 (by decide) rfl (by omega) (by omega) (fun c_8 => ?_) (fun c_8 => ?_)
    · refine gj_aload_n 15 dX7_write_14 rfl rfl ?_
      refine gj_getfi 18 dX7_write_15 rfl fl_7_71 rfl rfl (fun r_15 => ?_)
      refine gj_bipush 20 dX7_write_18 rfl (by decide) ?_
      refine gj_icmp_lt 26 23 dX7_write_20 (by decide) rfl (by omega) (by omega) (fun c_20 => ?_) (fun c_20 => ?_)
      · refine gj_aload_n 27 dX7_write_26 rfl rfl ?_
        refine gj_getfr 30 dX7_write_27 rfl fl_7_9 rfl rfl ?_
        refine gj_aload_n 31 dX7_write_30 rfl rfl ?_
        refine gj_getfiE (M 0 1) 34 dX7_write_31 rfl fl_7_71 rfl rfl rfl (fun r_31 => ?_)
        refine gj_iload_n 35 dX7_write_34 rfl rfl ?_
        refine gj_iast 36 dX7_write_35 rfl rfl (by omega) (by omega) (by omega) ?_
        refine gj_aload_n 37 dX7_write_36 rfl rfl ?_
        refine gj_dup 38 dX7_write_37 rfl (fun _ => rfl) ?_
        refine gj_getfiE (M 0 1) 41 dX7_write_38 rfl fl_7_71 rfl rfl rfl (fun r_38 => ?_)
        refine gj_iconst 42 dX7_write_41 rfl ?_
        refine gj_iadd 43 dX7_write_42 rfl ?_
        refine gj_putfi 46 dX7_write_43 rfl fw_7_71 rfl rfl (by omega) ?_
        refine gj_aload_n 47 dX7_write_46 rfl rfl ?_
        refine gj_getfiE (M 0 1 + 1) 50 dX7_write_47 rfl fl_7_71 rfl rfl gj_u_s (fun r_47 => ?_)
        refine gj_iret dX7_write_50 rfl ⟨Nat.zero_le _, Nat.zero_le _⟩ ?_
        exact ⟨rfl, by (unfold x_write; (repeat (first | rw [if_pos (by omega)] | rw [if_neg (by omega)])); try rfl), by (unfold m_write; (repeat (first | rw [if_pos (by omega)] | rw [if_neg (by omega)])); try rfl)⟩
      · refine gj_bipush 25 dX7_write_23 rfl (by decide) ?_
        refine gj_iret dX7_write_25 rfl ⟨Nat.zero_le _, Nat.zero_le _⟩ ?_
        exact ⟨rfl, by (unfold x_write; (repeat (first | rw [if_pos (by omega)] | rw [if_neg (by omega)])); try rfl), by (unfold m_write; (repeat (first | rw [if_pos (by omega)] | rw [if_neg (by omega)])); try rfl)⟩
    · refine gj_bipush 13 dX7_write_11 rfl (by decide) ?_
      refine gj_iret dX7_write_13 rfl ⟨Nat.zero_le _, Nat.zero_le _⟩ ?_
      exact ⟨rfl, by (unfold x_write; (repeat (first | rw [if_pos (by omega)] | rw [if_neg (by omega)])); try rfl), by (unfold m_write; (repeat (first | rw [if_pos (by omega)] | rw [if_neg (by omega)])); try rfl)⟩

set_option maxRecDepth 100000 in
set_option maxHeartbeats 1000000 in
theorem s7_wipe {xt : Nat × (Nat → Int)} {M : gj_M}  : gj_F xt Y7_wipe gS [gR 0] M (some (gI (M 0 1))) (gj_u M 0 1 0) := by
  show gj_G _ Y7_wipe gS 0 0 0 [_, _] [] M _
  refine gj_aload_n 1 dX7_wipe_0 rfl rfl ?_
  refine gj_getfi 4 dX7_wipe_1 rfl fl_7_71 rfl rfl (fun r_1 => ?_)
  refine gj_istore_n (lv' := [_, _]) 5 dX7_wipe_4 rfl (by decide) rfl ?_
  refine gj_aload_n 6 dX7_wipe_5 rfl rfl ?_
  refine gj_iconst 7 dX7_wipe_6 rfl ?_
  refine gj_putfi 10 dX7_wipe_7 rfl fw_7_71 rfl rfl (by omega) ?_
  refine gj_iload_n 11 dX7_wipe_10 rfl rfl ?_
  refine gj_iret dX7_wipe_11 rfl ⟨Nat.zero_le _, Nat.zero_le _⟩ ?_
  exact ⟨rfl, rfl, rfl⟩

set_option maxRecDepth 100000 in
set_option maxHeartbeats 1000000 in
theorem s7_fault {xt : Nat × (Nat → Int)} {M : gj_M} (hlen : 0 ≤ M 0 1 ∧ M 0 1 ≤ 80) (ht : ∀ i : Int, 0 ≤ i → i < M 0 1 → 0 ≤ M 1 i ∧ M 1 i ≤ 255) (h5 : ∀ l : Int, 0 ≤ l → l < 4 → 0 ≤ M 6 l ∧ M 6 l ≤ 48) (h6 : ∀ i : Int, 0 ≤ i → i < 2 → 0 ≤ M 8 i ∧ M 8 i ≤ 48) : gj_F xt Y7_fault gS [gR 0] M (some (gI (x_fault M))) (m_fault M) := by
  show gj_G _ Y7_fault gS 0 0 0 [_] [] M _
  refine gj_aload_n 1 dX7_fault_0 rfl rfl ?_
  refine gj_getfr 4 dX7_fault_1 rfl fl_7_16 rfl rfl ?_
  refine gj_aload_n 5 dX7_fault_4 rfl rfl ?_
  refine gj_getfr 8 dX7_fault_5 rfl fl_7_9 rfl rfl ?_
  refine gj_aload_n 9 dX7_fault_8 rfl rfl ?_
  refine gj_getfi 12 dX7_fault_9 rfl fl_7_71 rfl rfl (fun r_9 => ?_)
  refine gj_fV 15 dX7_fault_12 rfl ok_1_firstFault ml_7_75 iv_1_firstFault (As := [gR _, gI _]) rfl rfl rfl rfl (Nat.le_of_ble_eq_true rfl) ⟨Nat.le_of_ble_eq_true rfl, Nat.le_of_ble_eq_true rfl⟩ (Nat.le_of_ble_eq_true rfl) ⟨rfl, rfl⟩ ⟨Nat.zero_le _, Nat.zero_le _⟩ (s1_firstFault hlen ht h5 h6) ?_
  refine gj_iret dX7_fault_15 rfl ⟨Nat.zero_le _, Nat.zero_le _⟩ ?_
  exact ⟨rfl, rfl, rfl⟩

theorem r_ff_b (M : gj_M) (t : Int → Int) : ∀ n p : Nat, r_ff M t n p = -9 ∨ ((p : Int) ≤ r_ff M t n p ∧ r_ff M t n p ≤ (p : Int) + n) := by
  intro n
  induction n with
  | zero => intro p; simp only [r_ff]; split <;> omega
  | succ n ih =>
    intro p
    simp only [r_ff]
    split
    · omega
    · have := ih (p + 1)
      omega

set_option maxRecDepth 100000 in
set_option maxHeartbeats 1000000 in
theorem s7_reel_l {xt : Nat × (Nat → Int)} {M : gj_M} (hff : x_fault M = -9) : ∀ (n k : Nat), k + n = 2 → gj_G xt Y7_reel gS 0 0 64 [some (gR 0), some (gI (k : Int))] [] (p_clr (gj_u (p_clr (b_bg (b_rc (m_fault M))) 31 4) 35 0 0) 68 k) (fun r S2 M2 => S2 = gS ∧ r = some (gI (x_reel M)) ∧ M2 = m_reel M) := by
  intro n
  induction n with
  | zero =>
    intro k hk
    refine gj_iload_n 65 dX7_reel_64 rfl rfl ?_
    refine gj_iconst 66 dX7_reel_65 rfl ?_
    refine gj_icmp_ge 82 69 dX7_reel_66 (by decide) rfl (by omega) (by omega) (fun c_66 => ?_) (fun c_66 => absurd c_66 (by omega))
    refine gj_aload_n 83 dX7_reel_82 rfl rfl ?_
    refine gj_getfr 86 dX7_reel_83 rfl fl_7_31 rfl rfl ?_
    refine gj_getfiE (m_fault M 3 1) 89 dX7_reel_86 rfl fl_7_97 rfl rfl (show p_clr (gj_u (p_clr (b_bg (b_rc (m_fault M))) 31 4) 35 0 0) 68 k 10 1 = _ by rw [p_clr_o (by decide)]; rfl) (fun r_86 => ?_)
    refine gj_iret dX7_reel_89 rfl ⟨Nat.zero_le _, Nat.zero_le _⟩ ?_
    have hk5 : k = 2 := by omega
    subst hk5
    exact ⟨rfl, by unfold x_reel; rw [if_pos hff], by unfold m_reel; rw [if_pos hff]⟩
  | succ n ih =>
    intro k hk
    refine gj_iload_n 65 dX7_reel_64 rfl rfl ?_
    refine gj_iconst 66 dX7_reel_65 rfl ?_
    refine gj_icmp_ge 82 69 dX7_reel_66 (by decide) rfl (by omega) (by omega) (fun c_66 => absurd c_66 (by omega)) (fun c_66 => ?_)
    refine gj_aload_n 70 dX7_reel_69 rfl rfl ?_
    refine gj_getfr 73 dX7_reel_70 rfl fl_7_67 rfl rfl ?_
    refine gj_iload_n 74 dX7_reel_73 rfl rfl ?_
    refine gj_iconst 75 dX7_reel_74 rfl ?_
    refine gj_bast 76 dX7_reel_75 rfl rfl (by omega) (by omega) (by decide) ?_
    refine gj_iinc (b := ((k + 1 : Nat) : Int)) (lv' := [_, _]) 79 dX7_reel_76 rfl rfl (by omega) (by decide) rfl ?_
    refine gj_goto 64 dX7_reel_79 (by decide) ?_
    exact gj_wk (ih (k + 1) (by omega)) ⟨rfl, rfl, trivial⟩

theorem s7_ffx {xt : Nat × (Nat → Int)} {M : gj_M} (hlen : 0 ≤ M 0 1 ∧ M 0 1 ≤ 80) (ht : ∀ i : Int, 0 ≤ i → i < M 0 1 → 0 ≤ M 1 i ∧ M 1 i ≤ 255) (h5 : ∀ l : Int, 0 ≤ l → l < 4 → 0 ≤ M 6 l ∧ M 6 l ≤ 48) (h6 : ∀ i : Int, 0 ≤ i → i < 2 → 0 ≤ M 8 i ∧ M 8 i ≤ 48) : gj_F xt Y1_firstFault gS [gR 2, gR 1, gI (M 0 1)] M (some (gI (x_fault M))) (m_fault M) := s1_firstFault hlen ht h5 h6

set_option maxRecDepth 100000 in
set_option maxHeartbeats 1000000 in
theorem s7_reel {xt : Nat × (Nat → Int)} {M : gj_M} (hlen : 0 ≤ M 0 1 ∧ M 0 1 ≤ 80) (ht : ∀ i : Int, 0 ≤ i → i < M 0 1 → 0 ≤ M 1 i ∧ M 1 i ≤ 255) (h5 : ∀ l : Int, 0 ≤ l → l < 4 → 0 ≤ M 6 l ∧ M 6 l ≤ 48) (h6 : ∀ i : Int, 0 ≤ i → i < 2 → 0 ≤ M 8 i ∧ M 8 i ≤ 48) : gj_F xt Y7_reel gS [gR 0] M (some (gI (x_reel M))) (m_reel M) := by
  show gj_G _ Y7_reel gS 0 0 0 [_, _] [] M _
  have hb := r_ff_b M (M 1) (M 0 1).toNat 0
  have hb2 : x_fault M = r_ff M (M 1) (M 0 1).toNat 0 := rfl
  refine gj_aload_n 1 dX7_reel_0 rfl rfl ?_
  refine gj_getfr 4 dX7_reel_1 rfl fl_7_16 rfl rfl ?_
  refine gj_aload_n 5 dX7_reel_4 rfl rfl ?_
  refine gj_getfr 8 dX7_reel_5 rfl fl_7_9 rfl rfl ?_
  refine gj_aload_n 9 dX7_reel_8 rfl rfl ?_
  refine gj_getfi 12 dX7_reel_9 rfl fl_7_71 rfl rfl (fun r_9 => ?_)
  refine gj_fV 15 dX7_reel_12 rfl ok_1_firstFault ml_7_75 iv_1_firstFault (As := [gR _, gI _]) rfl rfl rfl rfl (Nat.le_of_ble_eq_true rfl) ⟨Nat.le_of_ble_eq_true rfl, Nat.le_of_ble_eq_true rfl⟩ (Nat.le_of_ble_eq_true rfl) ⟨rfl, rfl⟩ ⟨Nat.zero_le _, Nat.zero_le _⟩ (s7_ffx hlen ht h5 h6) ?_
  refine gj_bipush 17 dX7_reel_15 rfl (by decide) ?_
  refine gj_icmp_eq 23 20 dX7_reel_17 (by decide) rfl (by omega) (by omega) (fun c_17 => ?_) (fun c_17 => ?_)
  · refine gj_aload_n 24 dX7_reel_23 rfl rfl ?_
    refine gj_getfr 27 dX7_reel_24 rfl fl_7_31 rfl rfl ?_
    refine gj_aload_n 28 dX7_reel_27 rfl rfl ?_
    refine gj_getfr 31 dX7_reel_28 rfl fl_7_16 rfl rfl ?_
    refine gj_getfr 34 dX7_reel_31 rfl fl_7_79 rfl rfl ?_
    refine gj_vV 37 dX7_reel_34 rfl ok_2_copyFrom ml_7_82 iv_2_copyFrom (As := [gR _]) rfl rfl rfl rfl (Nat.le_of_ble_eq_true rfl) ⟨Nat.le_of_ble_eq_true rfl, Nat.le_of_ble_eq_true rfl⟩ (Nat.le_of_ble_eq_true rfl) ⟨rfl, rfl⟩ ⟨Nat.zero_le _, Nat.zero_le _⟩ (s2_copy) ?_
    refine gj_aload_n 38 dX7_reel_37 rfl rfl ?_
    refine gj_getfr 41 dX7_reel_38 rfl fl_7_38 rfl rfl ?_
    refine gj_aload_n 42 dX7_reel_41 rfl rfl ?_
    refine gj_getfr 45 dX7_reel_42 rfl fl_7_31 rfl rfl ?_
    refine gj_vV 48 dX7_reel_45 rfl ok_4_beginWith ml_7_88 iv_4_beginWith (As := [gR _]) rfl rfl rfl rfl (Nat.le_of_ble_eq_true rfl) ⟨Nat.le_of_ble_eq_true rfl, Nat.le_of_ble_eq_true rfl⟩ (Nat.le_of_ble_eq_true rfl) ⟨rfl, rfl⟩ ⟨Nat.zero_le _, Nat.zero_le _⟩ (s4_begin) ?_
    refine gj_aload_n 49 dX7_reel_48 rfl rfl ?_
    refine gj_getfr 52 dX7_reel_49 rfl fl_7_23 rfl rfl ?_
    refine gj_vV 55 dX7_reel_52 rfl ok_3_forgetShorts ml_7_91 iv_3_forgetShorts (As := []) rfl rfl rfl rfl (Nat.le_of_ble_eq_true rfl) ⟨Nat.le_of_ble_eq_true rfl, Nat.le_of_ble_eq_true rfl⟩ (Nat.le_of_ble_eq_true rfl) ⟨rfl, rfl⟩ ⟨Nat.zero_le _, Nat.zero_le _⟩ (s3_forget) ?_
    refine gj_aload_n 56 dX7_reel_55 rfl rfl ?_
    refine gj_getfr 59 dX7_reel_56 rfl fl_7_44 rfl rfl ?_
    refine gj_vV 62 dX7_reel_59 rfl ok_0_clear ml_7_94 iv_0_clear (As := []) rfl rfl rfl rfl (Nat.le_of_ble_eq_true rfl) ⟨Nat.le_of_ble_eq_true rfl, Nat.le_of_ble_eq_true rfl⟩ (Nat.le_of_ble_eq_true rfl) ⟨rfl, rfl⟩ ⟨Nat.zero_le _, Nat.zero_le _⟩ (s0_clear) ?_
    refine gj_iconst 63 dX7_reel_62 rfl ?_
    refine gj_istore_n (lv' := [_, _]) 64 dX7_reel_63 rfl (by decide) rfl ?_
    exact gj_wk (s7_reel_l (by omega) 2 0 rfl) ⟨rfl, rfl, trivial⟩
  · refine gj_bipush 22 dX7_reel_20 rfl (by decide) ?_
    refine gj_iret dX7_reel_22 rfl ⟨Nat.zero_le _, Nat.zero_le _⟩ ?_
    exact ⟨rfl, by (unfold x_reel; (repeat (first | rw [if_pos (by omega)] | rw [if_neg (by omega)])); try rfl), by (unfold m_reel; (repeat (first | rw [if_pos (by omega)] | rw [if_neg (by omega)])); try rfl)⟩
