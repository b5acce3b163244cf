set_option maxRecDepth 100000 in
set_option maxHeartbeats 1000000 in
theorem s8_write {xt : Nat × (Nat → Int)} {M : gj_M} (h0 : M 69 0 = 0) {c : Int} (hc : gj_in c) (ht : 0 ≤ M 69 2 ∧ M 69 2 ≤ 80) : gj_F xt Y8_write gS [gR 69, gI c] M (some (gI (z_write M c))) (n_write M c) := by
  show gj_G _ Y8_write gS 0 0 0 [_, _] [] M _
  refine gj_aload_n 1 dX8_write_0 rfl rfl ?_
  refine gj_iconst 2 dX8_write_1 rfl ?_
  refine gj_putfi 5 dX8_write_2 rfl fw_8_69 rfl rfl (by omega) ?_
  refine gj_mem (gj_u0 h0) ?_
  refine gj_iload_n 6 dX8_write_5 rfl rfl ?_
  refine gj_i2l 7 dX8_write_6 rfl (by omega) ?_
  refine gj_lconst (a := 0) 8 dX8_write_7 rfl rfl ?_
  refine gj_ldc2 (a := 255) 11 dX8_write_8 rfl lc_8_85 ?_
  refine gj_fS 14 dX8_write_11 rfl ok_8_in ml_8_76 is_8_in (As := [gL _, gL _, gL _]) rfl rfl (Nat.le_of_ble_eq_true rfl) ⟨Nat.le_of_ble_eq_true rfl, Nat.le_of_ble_eq_true rfl⟩ (Nat.le_of_ble_eq_true rfl) ⟨rfl, rfl⟩ ⟨Nat.zero_le _, Nat.zero_le _⟩ (s8_in (by omega) (by omega) (by omega)) ?_
  have hc11 := y_in_c (c) (0) (255)
  refine gj_if_ne 20 17 dX8_write_14 (by decide) rfl (by omega) (fun c_14 => ?_) (fun c_14 => ?_)
  · refine gj_aload_n 21 dX8_write_20 rfl rfl ?_
    refine gj_getfi 24 dX8_write_21 rfl fl_8_87 rfl rfl (fun r_21 => ?_)
    refine gj_bipush 26 dX8_write_24 rfl (by decide) ?_
    refine gj_icmp_ne 32 29 dX8_write_26 (by decide) rfl (by omega) (by omega) (fun c_26 => ?_) (fun c_26 => ?_)
    · refine gj_aload_n 33 dX8_write_32 rfl rfl ?_
      refine gj_getfr 36 dX8_write_33 rfl fl_8_7 rfl rfl ?_
      refine gj_aload_n 37 dX8_write_36 rfl rfl ?_
      refine gj_getfi 40 dX8_write_37 rfl fl_8_87 rfl rfl (fun r_37 => ?_)
      refine gj_iload_n 41 dX8_write_40 rfl rfl ?_
      refine gj_iast 42 dX8_write_41 rfl rfl (by omega) (by omega) (by omega) ?_
      refine gj_aload_n 43 dX8_write_42 rfl rfl ?_
      refine gj_dup 44 dX8_write_43 rfl (fun _ => rfl) ?_
      refine gj_getfiE (M 69 2) 47 dX8_write_44 rfl fl_8_87 rfl rfl rfl (fun r_44 => ?_)
      refine gj_iconst 48 dX8_write_47 rfl ?_
      refine gj_iadd 49 dX8_write_48 rfl ?_
      refine gj_putfi 52 dX8_write_49 rfl fw_8_87 rfl rfl (by omega) ?_
      refine gj_aload_n 53 dX8_write_52 rfl rfl ?_
      refine gj_getfi 56 dX8_write_53 rfl fl_8_87 rfl rfl (fun r_53 => ?_)
      refine gj_iret dX8_write_56 rfl ⟨Nat.zero_le _, Nat.zero_le _⟩ ?_
      exact ⟨rfl, by (unfold z_write; (repeat (first | rw [if_pos (by omega)] | rw [if_neg (by omega)])); try rfl), by (unfold n_write; (repeat (first | rw [if_pos (by omega)] | rw [if_neg (by omega)])); try rfl)⟩
    · refine gj_bipush 31 dX8_write_29 rfl (by decide) ?_
      refine gj_iret dX8_write_31 rfl ⟨Nat.zero_le _, Nat.zero_le _⟩ ?_
      exact ⟨rfl, by (unfold z_write; (repeat (first | rw [if_pos (by omega)] | rw [if_neg (by omega)])); try rfl), by (unfold n_write; (repeat (first | rw [if_pos (by omega)] | rw [if_neg (by omega)])); try rfl)⟩
  · refine gj_bipush 19 dX8_write_17 rfl (by decide) ?_
    refine gj_iret dX8_write_19 rfl ⟨Nat.zero_le _, Nat.zero_le _⟩ ?_
    exact ⟨rfl, by (unfold z_write; (repeat (first | rw [if_pos (by omega)] | rw [if_neg (by omega)])); try rfl), by (unfold n_write; (repeat (first | rw [if_pos (by omega)] | rw [if_neg (by omega)])); try rfl)⟩

set_option maxRecDepth 100000 in
set_option maxHeartbeats 1000000 in
theorem s8_wipe {xt : Nat × (Nat → Int)} {M : gj_M} (h0 : M 69 0 = 0)  : gj_F xt Y8_wipe gS [gR 69] M (some (gI (M 69 2))) (gj_u M 69 2 0) := by
  show gj_G _ Y8_wipe gS 0 0 0 [_, _] [] M _
  refine gj_aload_n 1 dX8_wipe_0 rfl rfl ?_
  refine gj_iconst 2 dX8_wipe_1 rfl ?_
  refine gj_putfi 5 dX8_wipe_2 rfl fw_8_69 rfl rfl (by omega) ?_
  refine gj_mem (gj_u0 h0) ?_
  refine gj_aload_n 6 dX8_wipe_5 rfl rfl ?_
  refine gj_getfi 9 dX8_wipe_6 rfl fl_8_87 rfl rfl (fun r_6 => ?_)
  refine gj_istore_n (lv' := [_, _]) 10 dX8_wipe_9 rfl (by decide) rfl ?_
  refine gj_aload_n 11 dX8_wipe_10 rfl rfl ?_
  refine gj_iconst 12 dX8_wipe_11 rfl ?_
  refine gj_putfi 15 dX8_wipe_12 rfl fw_8_87 rfl rfl (by omega) ?_
  refine gj_iload_n 16 dX8_wipe_15 rfl rfl ?_
  refine gj_iret dX8_wipe_16 rfl ⟨Nat.zero_le _, Nat.zero_le _⟩ ?_
  exact ⟨rfl, rfl, rfl⟩

set_option maxRecDepth 100000 in
set_option maxHeartbeats 1000000 in
theorem s8_drawing {xt : Nat × (Nat → Int)} {M : gj_M} (h0 : M 69 0 = 0) (hI : y_I M 78) {d w : Int} (hd : gj_in d) (hw : gj_in w) : gj_F xt Y8_drawing gS [gR 69, gI d, gI w] M (some (gI (z_drawing M d w))) M := by
  show gj_G _ Y8_drawing gS 0 0 0 [_, _, _] [] M _
  have hL := hI.1
  have hD := hI.2.1
  have hsw := hI.2.2.1
  refine gj_aload_n 1 dX8_drawing_0 rfl rfl ?_
  refine gj_iconst 2 dX8_drawing_1 rfl ?_
  refine gj_putfi 5 dX8_drawing_2 rfl fw_8_69 rfl rfl (by omega) ?_
  refine gj_mem (gj_u0 h0) ?_
  refine gj_aload_n 6 dX8_drawing_5 rfl rfl ?_
  refine gj_iload_n 7 dX8_drawing_6 rfl rfl ?_
  refine gj_fV 10 dX8_drawing_7 rfl ok_8_noDrawing ml_8_169 iv_8_noDrawing (As := [gI _]) rfl rfl rfl rfl (Nat.le_of_ble_eq_true rfl) ⟨Nat.le_of_ble_eq_true rfl, Nat.le_of_ble_eq_true rfl⟩ (Nat.le_of_ble_eq_true rfl) ⟨rfl, rfl⟩ ⟨Nat.zero_le _, Nat.zero_le _⟩ (s8_noD (by omega) hI.2.1) ?_
  have hc7 := y_in_c d 0 (M 69 4 - 1)
  refine gj_if_eq 15 13 dX8_drawing_10 (by decide) rfl (by omega) (fun c_10 => ?_) (fun c_10 => ?_)
  · refine gj_iload_n 16 dX8_drawing_15 rfl rfl ?_
    rcases (show w = 0 ∨ w = 1 ∨ w = 2 ∨ (w < 0 ∨ 2 < w) by omega) with t_16 | t_16 | t_16 | t_16
    · refine gj_tabI (off := 28) 44 dX8_drawing_16 (by omega) (by omega) (by rw [t_16]; rfl) (by decide) ?_
      refine gj_aload_n 45 dX8_drawing_44 rfl rfl ?_
      refine gj_getfr 48 dX8_drawing_45 rfl fl_8_35 rfl rfl ?_
      refine gj_iconst 49 dX8_drawing_48 rfl ?_
      refine gj_iload_n 50 dX8_drawing_49 rfl rfl ?_
      refine gj_iadd 51 dX8_drawing_50 rfl ?_
      refine gj_iald 52 dX8_drawing_51 rfl rfl (by omega) (by omega) (fun r_51 => ?_)
      refine gj_iret dX8_drawing_52 rfl ⟨Nat.zero_le _, Nat.zero_le _⟩ ?_
      exact ⟨rfl, by (unfold z_drawing; (repeat (first | rw [if_pos (by omega)] | rw [if_neg (by omega)])); try rfl), rfl⟩
    · refine gj_tabI (off := 37) 53 dX8_drawing_16 (by omega) (by omega) (by rw [t_16]; rfl) (by decide) ?_
      refine gj_aload_n 54 dX8_drawing_53 rfl rfl ?_
      refine gj_getfr 57 dX8_drawing_54 rfl fl_8_35 rfl rfl ?_
      refine gj_bipush 59 dX8_drawing_57 rfl (by decide) ?_
      refine gj_iload_n 60 dX8_drawing_59 rfl rfl ?_
      refine gj_iadd 61 dX8_drawing_60 rfl ?_
      refine gj_iald 62 dX8_drawing_61 rfl rfl (by omega) (by omega) (fun r_61 => ?_)
      refine gj_iret dX8_drawing_62 rfl ⟨Nat.zero_le _, Nat.zero_le _⟩ ?_
      exact ⟨rfl, by (unfold z_drawing; (repeat (first | rw [if_pos (by omega)] | rw [if_neg (by omega)])); try rfl), rfl⟩
    · refine gj_tabI (off := 47) 63 dX8_drawing_16 (by omega) (by omega) (by rw [t_16]; rfl) (by decide) ?_
      refine gj_aload_n 64 dX8_drawing_63 rfl rfl ?_
      refine gj_aload_n 65 dX8_drawing_64 rfl rfl ?_
      refine gj_getfr 68 dX8_drawing_65 rfl fl_8_35 rfl rfl ?_
      refine gj_iload_n 69 dX8_drawing_68 rfl rfl ?_
      refine gj_fV 72 dX8_drawing_69 rfl ok_8_mostOf ml_8_144 iv_8_mostOf (As := [gR _, gI _]) rfl rfl rfl rfl (Nat.le_of_ble_eq_true rfl) ⟨Nat.le_of_ble_eq_true rfl, Nat.le_of_ble_eq_true rfl⟩ (Nat.le_of_ble_eq_true rfl) ⟨rfl, rfl⟩ ⟨Nat.zero_le _, Nat.zero_le _⟩ (s8_mo rfl hI (by omega)) ?_
      refine gj_iret dX8_drawing_72 rfl ⟨Nat.zero_le _, Nat.zero_le _⟩ ?_
      exact ⟨rfl, by (unfold z_drawing; (repeat (first | rw [if_pos (by omega)] | rw [if_neg (by omega)])); try rfl), rfl⟩
    · refine gj_tabO 73 dX8_drawing_16 (by omega) t_16 (by decide) ?_
      refine gj_bipush 75 dX8_drawing_73 rfl (by decide) ?_
      refine gj_iret dX8_drawing_75 rfl ⟨Nat.zero_le _, Nat.zero_le _⟩ ?_
      exact ⟨rfl, by (unfold z_drawing; (repeat (first | rw [if_pos (by omega)] | rw [if_neg (by omega)])); try rfl), rfl⟩
  · refine gj_iconst 14 dX8_drawing_13 rfl ?_
    refine gj_iret dX8_drawing_14 rfl ⟨Nat.zero_le _, Nat.zero_le _⟩ ?_
    exact ⟨rfl, by (unfold z_drawing; (repeat (first | rw [if_pos (by omega)] | rw [if_neg (by omega)])); try rfl), rfl⟩

set_option maxRecDepth 100000 in
set_option maxHeartbeats 1000000 in
theorem s8_where {xt : Nat × (Nat → Int)} {M : gj_M} (h0 : M 69 0 = 0) (hI : y_I M 78) {l f : Int} (hl : gj_in l) (hf : gj_in f) : gj_F xt Y8_where gS [gR 69, gI l, gI f] M (some (gI (z_where M l f))) M := by
  show gj_G _ Y8_where gS 0 0 0 [_, _, _] [] M _
  have hL := hI.1
  have hD := hI.2.1
  have hsw := hI.2.2.1
  refine gj_aload_n 1 dX8_where_0 rfl rfl ?_
  refine gj_iconst 2 dX8_where_1 rfl ?_
  refine gj_putfi 5 dX8_where_2 rfl fw_8_69 rfl rfl (by omega) ?_
  refine gj_mem (gj_u0 h0) ?_
  refine gj_iload_n 6 dX8_where_5 rfl rfl ?_
  refine gj_bipush 8 dX8_where_6 rfl (by decide) ?_
  refine gj_icmp_eq 21 11 dX8_where_8 (by decide) rfl (by omega) (by omega) (fun c_8 => ?_) (fun c_8 => ?_)
  · refine gj_iload_n 22 dX8_where_21 rfl rfl ?_
    refine gj_fS 25 dX8_where_22 rfl ok_8_isFrame ml_8_183 is_8_isFrame (As := [gI _]) rfl rfl (Nat.le_of_ble_eq_true rfl) ⟨Nat.le_of_ble_eq_true rfl, Nat.le_of_ble_eq_true rfl⟩ (Nat.le_of_ble_eq_true rfl) ⟨rfl, rfl⟩ ⟨Nat.zero_le _, Nat.zero_le _⟩ (s8_isF (by omega)) ?_
    have hc22 := y_in_c f 0 47
    refine gj_if_eq 54 28 dX8_where_25 (by decide) rfl (by omega) (fun c_25 => ?_) (fun c_25 => ?_)
    · refine gj_bipush 56 dX8_where_54 rfl (by decide) ?_
      refine gj_iret dX8_where_56 rfl ⟨Nat.zero_le _, Nat.zero_le _⟩ ?_
      exact ⟨rfl, by (unfold z_where; (repeat (first | rw [if_pos (by omega)] | rw [if_neg (by omega)])); try rfl), rfl⟩
    · refine gj_aload_n 29 dX8_where_28 rfl rfl ?_
      refine gj_getfr 32 dX8_where_29 rfl fl_8_35 rfl rfl ?_
      refine gj_iload_n 33 dX8_where_32 rfl rfl ?_
      refine gj_bipush 35 dX8_where_33 rfl (by decide) ?_
      refine gj_icmp_ne 42 38 dX8_where_35 (by decide) rfl (by omega) (by omega) (fun c_35 => ?_) (fun c_35 => ?_)
      · refine gj_iload_n 43 dX8_where_42 rfl rfl ?_
        refine gj_top (x_panOf l) (by unfold x_panOf; first | (exfalso; omega) | rw [if_pos (by omega)] | rw [if_neg (by omega)]) ?_
        have hpo : x_panOf l = 4 ∨ (0 ≤ x_panOf l ∧ x_panOf l < 4) := by unfold x_panOf; split <;> omega
        refine gj_iload_n 44 dX8_where_43 rfl rfl ?_
        refine gj_fS 47 dX8_where_44 rfl ok_8_whereIs ml_8_131 is_8_whereIs (As := [gR _, gI _, gI _]) rfl rfl (Nat.le_of_ble_eq_true rfl) ⟨Nat.le_of_ble_eq_true rfl, Nat.le_of_ble_eq_true rfl⟩ (Nat.le_of_ble_eq_true rfl) ⟨rfl, rfl⟩ ⟨Nat.zero_le _, Nat.zero_le _⟩ (s8_wh rfl hI (by omega) (by omega)) ?_
        refine gj_sipush 50 dX8_where_47 rfl (by decide) ?_
        refine gj_iadd 51 dX8_where_50 rfl ?_
        refine gj_goto 56 dX8_where_51 (by decide) ?_
        refine gj_iret dX8_where_56 rfl ⟨Nat.zero_le _, Nat.zero_le _⟩ ?_
        exact ⟨rfl, by (unfold z_where; (repeat (first | rw [if_pos (by omega)] | rw [if_neg (by omega)])); try rfl), rfl⟩
      · refine gj_iconst 39 dX8_where_38 rfl ?_
        refine gj_goto 43 dX8_where_39 (by decide) ?_
        refine gj_top (x_panOf l) (by unfold x_panOf; first | (exfalso; omega) | rw [if_pos (by omega)] | rw [if_neg (by omega)]) ?_
        have hpo : x_panOf l = 4 ∨ (0 ≤ x_panOf l ∧ x_panOf l < 4) := by unfold x_panOf; split <;> omega
        refine gj_iload_n 44 dX8_where_43 rfl rfl ?_
        refine gj_fS 47 dX8_where_44 rfl ok_8_whereIs ml_8_131 is_8_whereIs (As := [gR _, gI _, gI _]) rfl rfl (Nat.le_of_ble_eq_true rfl) ⟨Nat.le_of_ble_eq_true rfl, Nat.le_of_ble_eq_true rfl⟩ (Nat.le_of_ble_eq_true rfl) ⟨rfl, rfl⟩ ⟨Nat.zero_le _, Nat.zero_le _⟩ (s8_wh rfl hI (by omega) (by omega)) ?_
        refine gj_sipush 50 dX8_where_47 rfl (by decide) ?_
        refine gj_iadd 51 dX8_where_50 rfl ?_
        refine gj_goto 56 dX8_where_51 (by decide) ?_
        refine gj_iret dX8_where_56 rfl ⟨Nat.zero_le _, Nat.zero_le _⟩ ?_
        exact ⟨rfl, by (unfold z_where; (repeat (first | rw [if_pos (by omega)] | rw [if_neg (by omega)])); try rfl), rfl⟩
  · refine gj_aload_n 12 dX8_where_11 rfl rfl ?_
    refine gj_iload_n 13 dX8_where_12 rfl rfl ?_
    refine gj_fV 16 dX8_where_13 rfl ok_8_noLevel ml_8_173 iv_8_noLevel (As := [gI _]) rfl rfl rfl rfl (Nat.le_of_ble_eq_true rfl) ⟨Nat.le_of_ble_eq_true rfl, Nat.le_of_ble_eq_true rfl⟩ (Nat.le_of_ble_eq_true rfl) ⟨rfl, rfl⟩ ⟨Nat.zero_le _, Nat.zero_le _⟩ (s8_noL (by omega) hI.1) ?_
    have hc13 := y_in_c l 0 (M 69 5 - 1)
    refine gj_if_eq 21 19 dX8_where_16 (by decide) rfl (by omega) (fun c_16 => ?_) (fun c_16 => ?_)
    · refine gj_iload_n 22 dX8_where_21 rfl rfl ?_
      refine gj_fS 25 dX8_where_22 rfl ok_8_isFrame ml_8_183 is_8_isFrame (As := [gI _]) rfl rfl (Nat.le_of_ble_eq_true rfl) ⟨Nat.le_of_ble_eq_true rfl, Nat.le_of_ble_eq_true rfl⟩ (Nat.le_of_ble_eq_true rfl) ⟨rfl, rfl⟩ ⟨Nat.zero_le _, Nat.zero_le _⟩ (s8_isF (by omega)) ?_
      have hc22 := y_in_c f 0 47
      refine gj_if_eq 54 28 dX8_where_25 (by decide) rfl (by omega) (fun c_25 => ?_) (fun c_25 => ?_)
      · refine gj_bipush 56 dX8_where_54 rfl (by decide) ?_
        refine gj_iret dX8_where_56 rfl ⟨Nat.zero_le _, Nat.zero_le _⟩ ?_
        exact ⟨rfl, by (unfold z_where; (repeat (first | rw [if_pos (by omega)] | rw [if_neg (by omega)])); try rfl), rfl⟩
      · refine gj_aload_n 29 dX8_where_28 rfl rfl ?_
        refine gj_getfr 32 dX8_where_29 rfl fl_8_35 rfl rfl ?_
        refine gj_iload_n 33 dX8_where_32 rfl rfl ?_
        refine gj_bipush 35 dX8_where_33 rfl (by decide) ?_
        refine gj_icmp_ne 42 38 dX8_where_35 (by decide) rfl (by omega) (by omega) (fun c_35 => ?_) (fun c_35 => ?_)
        · refine gj_iload_n 43 dX8_where_42 rfl rfl ?_
          refine gj_top (x_panOf l) (by unfold x_panOf; first | (exfalso; omega) | rw [if_pos (by omega)] | rw [if_neg (by omega)]) ?_
          have hpo : x_panOf l = 4 ∨ (0 ≤ x_panOf l ∧ x_panOf l < 4) := by unfold x_panOf; split <;> omega
          refine gj_iload_n 44 dX8_where_43 rfl rfl ?_
          refine gj_fS 47 dX8_where_44 rfl ok_8_whereIs ml_8_131 is_8_whereIs (As := [gR _, gI _, gI _]) rfl rfl (Nat.le_of_ble_eq_true rfl) ⟨Nat.le_of_ble_eq_true rfl, Nat.le_of_ble_eq_true rfl⟩ (Nat.le_of_ble_eq_true rfl) ⟨rfl, rfl⟩ ⟨Nat.zero_le _, Nat.zero_le _⟩ (s8_wh rfl hI (by omega) (by omega)) ?_
          refine gj_sipush 50 dX8_where_47 rfl (by decide) ?_
          refine gj_iadd 51 dX8_where_50 rfl ?_
          refine gj_goto 56 dX8_where_51 (by decide) ?_
          refine gj_iret dX8_where_56 rfl ⟨Nat.zero_le _, Nat.zero_le _⟩ ?_
          exact ⟨rfl, by (unfold z_where; (repeat (first | rw [if_pos (by omega)] | rw [if_neg (by omega)])); try rfl), rfl⟩
        · refine gj_iconst 39 dX8_where_38 rfl ?_
          refine gj_goto 43 dX8_where_39 (by decide) ?_
          refine gj_top (x_panOf l) (by unfold x_panOf; first | (exfalso; omega) | rw [if_pos (by omega)] | rw [if_neg (by omega)]) ?_
          have hpo : x_panOf l = 4 ∨ (0 ≤ x_panOf l ∧ x_panOf l < 4) := by unfold x_panOf; split <;> omega
          refine gj_iload_n 44 dX8_where_43 rfl rfl ?_
          refine gj_fS 47 dX8_where_44 rfl ok_8_whereIs ml_8_131 is_8_whereIs (As := [gR _, gI _, gI _]) rfl rfl (Nat.le_of_ble_eq_true rfl) ⟨Nat.le_of_ble_eq_true rfl, Nat.le_of_ble_eq_true rfl⟩ (Nat.le_of_ble_eq_true rfl) ⟨rfl, rfl⟩ ⟨Nat.zero_le _, Nat.zero_le _⟩ (s8_wh rfl hI (by omega) (by omega)) ?_
          refine gj_sipush 50 dX8_where_47 rfl (by decide) ?_
          refine gj_iadd 51 dX8_where_50 rfl ?_
          refine gj_goto 56 dX8_where_51 (by decide) ?_
          refine gj_iret dX8_where_56 rfl ⟨Nat.zero_le _, Nat.zero_le _⟩ ?_
          exact ⟨rfl, by (unfold z_where; (repeat (first | rw [if_pos (by omega)] | rw [if_neg (by omega)])); try rfl), rfl⟩
    · refine gj_iconst 20 dX8_where_19 rfl ?_
      refine gj_iret dX8_where_20 rfl ⟨Nat.zero_le _, Nat.zero_le _⟩ ?_
      exact ⟨rfl, by (unfold z_where; (repeat (first | rw [if_pos (by omega)] | rw [if_neg (by omega)])); try rfl), rfl⟩

set_option maxRecDepth 100000 in
set_option maxHeartbeats 1000000 in
theorem s8_redraw {xt : Nat × (Nat → Int)} {M : gj_M} (h0 : M 69 0 = 0) (hI : y_I M 78) (hd14 : 0 ≤ M 69 18 ∧ M 69 18 ≤ 14) {d x w : Int} (hd : gj_in d) (hx : gj_in x) (hw : gj_in w) : gj_F xt Y8_redraw gS [gR 69, gI d, gI x, gI w] M (some (gI (z_redraw M d x w))) (n_redraw M d x w) := by
  show gj_G _ Y8_redraw gS 0 0 0 [_, _, _, _, _] [] M _
  have hL := hI.1
  have hD := hI.2.1
  have hsw := hI.2.2.1
  refine gj_aload_n 1 dX8_redraw_0 rfl rfl ?_
  refine gj_iconst 2 dX8_redraw_1 rfl ?_
  refine gj_putfi 5 dX8_redraw_2 rfl fw_8_69 rfl rfl (by omega) ?_
  refine gj_mem (gj_u0 h0) ?_
  refine gj_aload_n 6 dX8_redraw_5 rfl rfl ?_
  refine gj_iload_n 7 dX8_redraw_6 rfl rfl ?_
  refine gj_fV 10 dX8_redraw_7 rfl ok_8_noDrawing ml_8_169 iv_8_noDrawing (As := [gI _]) rfl rfl rfl rfl (Nat.le_of_ble_eq_true rfl) ⟨Nat.le_of_ble_eq_true rfl, Nat.le_of_ble_eq_true rfl⟩ (Nat.le_of_ble_eq_true rfl) ⟨rfl, rfl⟩ ⟨Nat.zero_le _, Nat.zero_le _⟩ (s8_noD (by omega) hI.2.1) ?_
  have hc7 := y_in_c d 0 (M 69 4 - 1)
  refine gj_if_eq 15 13 dX8_redraw_10 (by decide) rfl (by omega) (fun c_10 => ?_) (fun c_10 => ?_)
  · refine gj_iload_n 16 dX8_redraw_15 rfl rfl ?_
    refine gj_i2l 17 dX8_redraw_16 rfl (by omega) ?_
    refine gj_lconst (a := 0) 18 dX8_redraw_17 rfl rfl ?_
    refine gj_ldc2 (a := 9) 21 dX8_redraw_18 rfl lc_8_186 ?_
    refine gj_fS 24 dX8_redraw_21 rfl ok_8_in ml_8_76 is_8_in (As := [gL _, gL _, gL _]) rfl rfl (Nat.le_of_ble_eq_true rfl) ⟨Nat.le_of_ble_eq_true rfl, Nat.le_of_ble_eq_true rfl⟩ (Nat.le_of_ble_eq_true rfl) ⟨rfl, rfl⟩ ⟨Nat.zero_le _, Nat.zero_le _⟩ (s8_in (by omega) (by omega) (by omega)) ?_
    have hc21 := y_in_c (x) (0) (9)
    refine gj_if_eq 39 27 dX8_redraw_24 (by decide) rfl (by omega) (fun c_24 => ?_) (fun c_24 => ?_)
    · refine gj_bipush 41 dX8_redraw_39 rfl (by decide) ?_
      refine gj_iret dX8_redraw_41 rfl ⟨Nat.zero_le _, Nat.zero_le _⟩ ?_
      exact ⟨rfl, by (unfold z_redraw; (repeat (first | rw [if_pos (by omega)] | rw [if_neg (by omega)])); try rfl), by (unfold n_redraw; (repeat (first | rw [if_pos (by omega)] | rw [if_neg (by omega)])); try rfl)⟩
    · refine gj_iload_n 28 dX8_redraw_27 rfl rfl ?_
      refine gj_i2l 29 dX8_redraw_28 rfl (by omega) ?_
      refine gj_lconst (a := 1) 30 dX8_redraw_29 rfl rfl ?_
      refine gj_ldc2 (a := 5) 33 dX8_redraw_30 rfl lc_8_188 ?_
      refine gj_fS 36 dX8_redraw_33 rfl ok_8_in ml_8_76 is_8_in (As := [gL _, gL _, gL _]) rfl rfl (Nat.le_of_ble_eq_true rfl) ⟨Nat.le_of_ble_eq_true rfl, Nat.le_of_ble_eq_true rfl⟩ (Nat.le_of_ble_eq_true rfl) ⟨rfl, rfl⟩ ⟨Nat.zero_le _, Nat.zero_le _⟩ (s8_in (by omega) (by omega) (by omega)) ?_
      have hc33 := y_in_c (w) (1) (5)
      refine gj_if_ne 42 39 dX8_redraw_36 (by decide) rfl (by omega) (fun c_36 => ?_) (fun c_36 => ?_)
      · refine gj_aload_n 43 dX8_redraw_42 rfl rfl ?_
        refine gj_vV 46 dX8_redraw_43 rfl ok_8_note ml_8_190 iv_8_note (As := []) rfl rfl rfl rfl (Nat.le_of_ble_eq_true rfl) ⟨Nat.le_of_ble_eq_true rfl, Nat.le_of_ble_eq_true rfl⟩ (Nat.le_of_ble_eq_true rfl) ⟨rfl, rfl⟩ ⟨Nat.zero_le _, Nat.zero_le _⟩ (s8_note hd14) ?_
        refine gj_bipush 48 dX8_redraw_46 rfl (by decide) ?_
        refine gj_aload_n 49 dX8_redraw_48 rfl rfl ?_
        refine gj_getfr 52 dX8_redraw_49 rfl fl_8_35 rfl rfl ?_
        refine gj_iconst 53 dX8_redraw_52 rfl ?_
        refine gj_iload_n 54 dX8_redraw_53 rfl rfl ?_
        refine gj_iadd 55 dX8_redraw_54 rfl ?_
        refine gj_ialdE (M 78 (0 + d)) 56 dX8_redraw_55 rfl rfl (by omega) (by omega) (y_nt_o (by decide) (by decide) _) (fun r_55 => ?_)
        refine gj_imul 57 dX8_redraw_56 rfl ?_
        refine gj_aload_n 58 dX8_redraw_57 rfl rfl ?_
        refine gj_getfr 61 dX8_redraw_58 rfl fl_8_35 rfl rfl ?_
        refine gj_bipush 63 dX8_redraw_61 rfl (by decide) ?_
        refine gj_iload_n 64 dX8_redraw_63 rfl rfl ?_
        refine gj_iadd 65 dX8_redraw_64 rfl ?_
        refine gj_ialdE (M 78 (6 + d)) 66 dX8_redraw_65 rfl rfl (by omega) (by omega) (y_nt_o (by decide) (by decide) _) (fun r_65 => ?_)
        refine gj_iadd 67 dX8_redraw_66 rfl ?_
        refine gj_istore (lv' := [_, _, _, _, _]) 69 dX8_redraw_67 rfl (by decide) rfl ?_
        refine gj_aload_n 70 dX8_redraw_69 rfl rfl ?_
        refine gj_getfr 73 dX8_redraw_70 rfl fl_8_35 rfl rfl ?_
        refine gj_iconst 74 dX8_redraw_73 rfl ?_
        refine gj_iload_n 75 dX8_redraw_74 rfl rfl ?_
        refine gj_iadd 76 dX8_redraw_75 rfl ?_
        refine gj_iload_n 77 dX8_redraw_76 rfl rfl ?_
        refine gj_iast 78 dX8_redraw_77 rfl rfl (by omega) (by omega) (by omega) ?_
        refine gj_aload_n 79 dX8_redraw_78 rfl rfl ?_
        refine gj_getfr 82 dX8_redraw_79 rfl fl_8_35 rfl rfl ?_
        refine gj_bipush 84 dX8_redraw_82 rfl (by decide) ?_
        refine gj_iload_n 85 dX8_redraw_84 rfl rfl ?_
        refine gj_iadd 86 dX8_redraw_85 rfl ?_
        refine gj_iload_n 87 dX8_redraw_86 rfl rfl ?_
        refine gj_iast 88 dX8_redraw_87 rfl rfl (by omega) (by omega) (by omega) ?_
        refine gj_iload 90 dX8_redraw_88 rfl rfl ?_
        refine gj_iret dX8_redraw_90 rfl ⟨Nat.zero_le _, Nat.zero_le _⟩ ?_
        exact ⟨rfl, by (unfold z_redraw; (repeat (first | rw [if_pos (by omega)] | rw [if_neg (by omega)])); try rfl), by (unfold n_redraw; (repeat (first | rw [if_pos (by omega)] | rw [if_neg (by omega)])); try rfl)⟩
      · refine gj_bipush 41 dX8_redraw_39 rfl (by decide) ?_
        refine gj_iret dX8_redraw_41 rfl ⟨Nat.zero_le _, Nat.zero_le _⟩ ?_
        exact ⟨rfl, by (unfold z_redraw; (repeat (first | rw [if_pos (by omega)] | rw [if_neg (by omega)])); try rfl), by (unfold n_redraw; (repeat (first | rw [if_pos (by omega)] | rw [if_neg (by omega)])); try rfl)⟩
  · refine gj_iconst 14 dX8_redraw_13 rfl ?_
    refine gj_iret dX8_redraw_14 rfl ⟨Nat.zero_le _, Nat.zero_le _⟩ ?_
    exact ⟨rfl, by (unfold z_redraw; (repeat (first | rw [if_pos (by omega)] | rw [if_neg (by omega)])); try rfl), by (unfold n_redraw; (repeat (first | rw [if_pos (by omega)] | rw [if_neg (by omega)])); try rfl)⟩

set_option maxRecDepth 100000 in
set_option maxHeartbeats 1000000 in
theorem s8_delay {xt : Nat × (Nat → Int)} {M : gj_M} (h0 : M 69 0 = 0) (hI : y_I M 78) (hd14 : 0 ≤ M 69 18 ∧ M 69 18 ≤ 14) {l v : Int} (hl : gj_in l) (hv : gj_in v) : gj_F xt Y8_delay gS [gR 69, gI l, gI v] M (some (gI (z_delay M l v))) (n_delay M l v) := by
  show gj_G _ Y8_delay gS 0 0 0 [_, _, _, _] [] M _
  have hL := hI.1
  have hD := hI.2.1
  have hsw := hI.2.2.1
  refine gj_aload_n 1 dX8_delay_0 rfl rfl ?_
  refine gj_iconst 2 dX8_delay_1 rfl ?_
  refine gj_putfi 5 dX8_delay_2 rfl fw_8_69 rfl rfl (by omega) ?_
  refine gj_mem (gj_u0 h0) ?_
  refine gj_aload_n 6 dX8_delay_5 rfl rfl ?_
  refine gj_iload_n 7 dX8_delay_6 rfl rfl ?_
  refine gj_fV 10 dX8_delay_7 rfl ok_8_noLevel ml_8_173 iv_8_noLevel (As := [gI _]) rfl rfl rfl rfl (Nat.le_of_ble_eq_true rfl) ⟨Nat.le_of_ble_eq_true rfl, Nat.le_of_ble_eq_true rfl⟩ (Nat.le_of_ble_eq_true rfl) ⟨rfl, rfl⟩ ⟨Nat.zero_le _, Nat.zero_le _⟩ (s8_noL (by omega) hI.1) ?_
  have hc7 := y_in_c l 0 (M 69 5 - 1)
  refine gj_if_eq 15 13 dX8_delay_10 (by decide) rfl (by omega) (fun c_10 => ?_) (fun c_10 => ?_)
  · refine gj_iload_n 16 dX8_delay_15 rfl rfl ?_
    refine gj_i2l 17 dX8_delay_16 rfl (by omega) ?_
    refine gj_lconst (a := 0) 18 dX8_delay_17 rfl rfl ?_
    refine gj_ldc2 (a := 9) 21 dX8_delay_18 rfl lc_8_186 ?_
    refine gj_fS 24 dX8_delay_21 rfl ok_8_in ml_8_76 is_8_in (As := [gL _, gL _, gL _]) rfl rfl (Nat.le_of_ble_eq_true rfl) ⟨Nat.le_of_ble_eq_true rfl, Nat.le_of_ble_eq_true rfl⟩ (Nat.le_of_ble_eq_true rfl) ⟨rfl, rfl⟩ ⟨Nat.zero_le _, Nat.zero_le _⟩ (s8_in (by omega) (by omega) (by omega)) ?_
    have hc21 := y_in_c (v) (0) (9)
    refine gj_if_ne 30 27 dX8_delay_24 (by decide) rfl (by omega) (fun c_24 => ?_) (fun c_24 => ?_)
    · refine gj_aload_n 31 dX8_delay_30 rfl rfl ?_
      refine gj_vV 34 dX8_delay_31 rfl ok_8_note ml_8_190 iv_8_note (As := []) rfl rfl rfl rfl (Nat.le_of_ble_eq_true rfl) ⟨Nat.le_of_ble_eq_true rfl, Nat.le_of_ble_eq_true rfl⟩ (Nat.le_of_ble_eq_true rfl) ⟨rfl, rfl⟩ ⟨Nat.zero_le _, Nat.zero_le _⟩ (s8_note hd14) ?_
      refine gj_aload_n 35 dX8_delay_34 rfl rfl ?_
      refine gj_getfr 38 dX8_delay_35 rfl fl_8_35 rfl rfl ?_
      refine gj_bipush 40 dX8_delay_38 rfl (by decide) ?_
      refine gj_iload_n 41 dX8_delay_40 rfl rfl ?_
      refine gj_iadd 42 dX8_delay_41 rfl ?_
      refine gj_ialdE (M 78 (12 + l)) 43 dX8_delay_42 rfl rfl (by omega) (by omega) (y_nt_o (by decide) (by decide) _) (fun r_42 => ?_)
      refine gj_istore_n (lv' := [_, _, _, _]) 44 dX8_delay_43 rfl (by decide) rfl ?_
      refine gj_aload_n 45 dX8_delay_44 rfl rfl ?_
      refine gj_getfr 48 dX8_delay_45 rfl fl_8_35 rfl rfl ?_
      refine gj_bipush 50 dX8_delay_48 rfl (by decide) ?_
      refine gj_iload_n 51 dX8_delay_50 rfl rfl ?_
      refine gj_iadd 52 dX8_delay_51 rfl ?_
      refine gj_iload_n 53 dX8_delay_52 rfl rfl ?_
      refine gj_iast 54 dX8_delay_53 rfl rfl (by omega) (by omega) (by omega) ?_
      refine gj_iload_n 55 dX8_delay_54 rfl rfl ?_
      refine gj_iret dX8_delay_55 rfl ⟨Nat.zero_le _, Nat.zero_le _⟩ ?_
      exact ⟨rfl, by (unfold z_delay; (repeat (first | rw [if_pos (by omega)] | rw [if_neg (by omega)])); try rfl), by (unfold n_delay; (repeat (first | rw [if_pos (by omega)] | rw [if_neg (by omega)])); try rfl)⟩
    · refine gj_bipush 29 dX8_delay_27 rfl (by decide) ?_
      refine gj_iret dX8_delay_29 rfl ⟨Nat.zero_le _, Nat.zero_le _⟩ ?_
      exact ⟨rfl, by (unfold z_delay; (repeat (first | rw [if_pos (by omega)] | rw [if_neg (by omega)])); try rfl), by (unfold n_delay; (repeat (first | rw [if_pos (by omega)] | rw [if_neg (by omega)])); try rfl)⟩
  · refine gj_iconst 14 dX8_delay_13 rfl ?_
    refine gj_iret dX8_delay_14 rfl ⟨Nat.zero_le _, Nat.zero_le _⟩ ?_
    exact ⟨rfl, by (unfold z_delay; (repeat (first | rw [if_pos (by omega)] | rw [if_neg (by omega)])); try rfl), by (unfold n_delay; (repeat (first | rw [if_pos (by omega)] | rw [if_neg (by omega)])); try rfl)⟩

set_option maxRecDepth 100000 in
set_option maxHeartbeats 1000000 in
theorem s8_wh2 {xt : Nat × (Nat → Int)} {M : gj_M} {r : Nat} (hs : gS[r]? = some (.inr (false, 40))) {p f : Int} (h1 : (-9 ≤ M r (16 + 3 * p) ∧ M r (16 + 3 * p) ≤ 9) ∧ (-3 ≤ M r (16 + 3 * p + 1) ∧ M r (16 + 3 * p + 1) ≤ 3) ∧ 1 ≤ M r (16 + 3 * p + 2) ∧ M r (16 + 3 * p + 2) ≤ 9) (hp : 0 ≤ p ∧ p < 5) (hf : 0 ≤ f ∧ f < 48) : gj_F xt Y8_whereIs gS [gR r, gI p, gI f] M (some (gI (y_wh M r p f))) M := by
  show gj_G _ Y8_whereIs gS 0 0 0 [_, _, _, _] [] M _
  refine gj_bipush 2 dX8_whereIs_0 rfl (by decide) ?_
  refine gj_iconst 3 dX8_whereIs_2 rfl ?_
  refine gj_iload_n 4 dX8_whereIs_3 rfl rfl ?_
  refine gj_imul 5 dX8_whereIs_4 rfl ?_
  refine gj_iadd 6 dX8_whereIs_5 rfl ?_
  refine gj_istore_n (lv' := [_, _, _, _]) 7 dX8_whereIs_6 rfl (by decide) rfl ?_
  refine gj_aload_n 8 dX8_whereIs_7 rfl rfl ?_
  refine gj_iload_n 9 dX8_whereIs_8 rfl rfl ?_
  refine gj_iald 10 dX8_whereIs_9 rfl hs (by omega) (by omega) (fun r_9 => ?_)
  refine gj_aload_n 11 dX8_whereIs_10 rfl rfl ?_
  refine gj_iload_n 12 dX8_whereIs_11 rfl rfl ?_
  refine gj_iconst 13 dX8_whereIs_12 rfl ?_
  refine gj_iadd 14 dX8_whereIs_13 rfl ?_
  refine gj_iald 15 dX8_whereIs_14 rfl hs (by omega) (by omega) (fun r_14 => ?_)
  refine gj_iload_n 16 dX8_whereIs_15 rfl rfl ?_
  refine gj_aload_n 17 dX8_whereIs_16 rfl rfl ?_
  refine gj_iload_n 18 dX8_whereIs_17 rfl rfl ?_
  refine gj_iconst 19 dX8_whereIs_18 rfl ?_
  refine gj_iadd 20 dX8_whereIs_19 rfl ?_
  refine gj_iald 21 dX8_whereIs_20 rfl hs (by omega) (by omega) (fun r_20 => ?_)
  refine gj_idiv 22 dX8_whereIs_21 rfl (by omega) (by omega) ?_
  refine gj_imul 23 dX8_whereIs_22 rfl ?_
  refine gj_iadd 24 dX8_whereIs_23 rfl ?_
  refine gj_iret dX8_whereIs_24 rfl ⟨Nat.zero_le _, Nat.zero_le _⟩ ?_
  exact ⟨rfl, rfl, rfl⟩

set_option maxRecDepth 100000 in
set_option maxHeartbeats 1000000 in
theorem s8_pan {xt : Nat × (Nat → Int)} {M : gj_M} (h0 : M 69 0 = 0) (hI : y_I M 78) (hd14 : 0 ≤ M 69 18 ∧ M 69 18 ≤ 14) {l s b e : Int} (hl : gj_in l) (hs : gj_in s) (hb : gj_in b) (he : gj_in e) : gj_F xt Y8_pan gS [gR 69, gI l, gI s, gI b, gI e] M (some (gI (z_pan M l s b e))) (n_pan M l s b e) := by
  show gj_G _ Y8_pan gS 0 0 0 [_, _, _, _, _, _] [] M _
  have hL := hI.1
  have hD := hI.2.1
  have hsw := hI.2.2.1
  refine gj_aload_n 1 dX8_pan_0 rfl rfl ?_
  refine gj_iconst 2 dX8_pan_1 rfl ?_
  refine gj_putfi 5 dX8_pan_2 rfl fw_8_69 rfl rfl (by omega) ?_
  refine gj_mem (gj_u0 h0) ?_
  refine gj_iload_n 6 dX8_pan_5 rfl rfl ?_
  refine gj_bipush 8 dX8_pan_6 rfl (by decide) ?_
  refine gj_icmp_eq 21 11 dX8_pan_8 (by decide) rfl (by omega) (by omega) (fun c_8 => ?_) (fun c_8 => ?_)
  · refine gj_iload_n 22 dX8_pan_21 rfl rfl ?_
    refine gj_i2l 23 dX8_pan_22 rfl (by omega) ?_
    refine gj_ldc2 (a := -9) 26 dX8_pan_23 rfl lc_8_193 ?_
    refine gj_ldc2 (a := 9) 29 dX8_pan_26 rfl lc_8_186 ?_
    refine gj_fS 32 dX8_pan_29 rfl ok_8_in ml_8_76 is_8_in (As := [gL _, gL _, gL _]) rfl rfl (Nat.le_of_ble_eq_true rfl) ⟨Nat.le_of_ble_eq_true rfl, Nat.le_of_ble_eq_true rfl⟩ (Nat.le_of_ble_eq_true rfl) ⟨rfl, rfl⟩ ⟨Nat.zero_le _, Nat.zero_le _⟩ (s8_in (by omega) (by omega) (by omega)) ?_
    have hc29 := y_in_c (s) (-9) (9)
    refine gj_if_eq 62 35 dX8_pan_32 (by decide) rfl (by omega) (fun c_32 => ?_) (fun c_32 => ?_)
    · refine gj_bipush 64 dX8_pan_62 rfl (by decide) ?_
      refine gj_iret dX8_pan_64 rfl ⟨Nat.zero_le _, Nat.zero_le _⟩ ?_
      first
      | (exfalso; omega)
      | exact ⟨rfl, by (unfold z_pan; (repeat (first | rw [if_pos (by omega)] | rw [if_neg (by omega)])); try rfl), by (unfold n_pan; (repeat (first | rw [if_pos (by omega)] | rw [if_neg (by omega)])); try rfl)⟩
    · refine gj_iload_n 36 dX8_pan_35 rfl rfl ?_
      refine gj_i2l 37 dX8_pan_36 rfl (by omega) ?_
      refine gj_ldc2 (a := -3) 40 dX8_pan_37 rfl lc_8_195 ?_
      refine gj_ldc2 (a := 3) 43 dX8_pan_40 rfl lc_8_197 ?_
      refine gj_fS 46 dX8_pan_43 rfl ok_8_in ml_8_76 is_8_in (As := [gL _, gL _, gL _]) rfl rfl (Nat.le_of_ble_eq_true rfl) ⟨Nat.le_of_ble_eq_true rfl, Nat.le_of_ble_eq_true rfl⟩ (Nat.le_of_ble_eq_true rfl) ⟨rfl, rfl⟩ ⟨Nat.zero_le _, Nat.zero_le _⟩ (s8_in (by omega) (by omega) (by omega)) ?_
      have hc43 := y_in_c (b) (-3) (3)
      refine gj_if_eq 62 49 dX8_pan_46 (by decide) rfl (by omega) (fun c_46 => ?_) (fun c_46 => ?_)
      · refine gj_bipush 64 dX8_pan_62 rfl (by decide) ?_
        refine gj_iret dX8_pan_64 rfl ⟨Nat.zero_le _, Nat.zero_le _⟩ ?_
        first
        | (exfalso; omega)
        | exact ⟨rfl, by (unfold z_pan; (repeat (first | rw [if_pos (by omega)] | rw [if_neg (by omega)])); try rfl), by (unfold n_pan; (repeat (first | rw [if_pos (by omega)] | rw [if_neg (by omega)])); try rfl)⟩
      · refine gj_iload 51 dX8_pan_49 rfl rfl ?_
        refine gj_i2l 52 dX8_pan_51 rfl (by omega) ?_
        refine gj_lconst (a := 1) 53 dX8_pan_52 rfl rfl ?_
        refine gj_ldc2 (a := 9) 56 dX8_pan_53 rfl lc_8_186 ?_
        refine gj_fS 59 dX8_pan_56 rfl ok_8_in ml_8_76 is_8_in (As := [gL _, gL _, gL _]) rfl rfl (Nat.le_of_ble_eq_true rfl) ⟨Nat.le_of_ble_eq_true rfl, Nat.le_of_ble_eq_true rfl⟩ (Nat.le_of_ble_eq_true rfl) ⟨rfl, rfl⟩ ⟨Nat.zero_le _, Nat.zero_le _⟩ (s8_in (by omega) (by omega) (by omega)) ?_
        have hc56 := y_in_c (e) (1) (9)
        refine gj_if_ne 65 62 dX8_pan_59 (by decide) rfl (by omega) (fun c_59 => ?_) (fun c_59 => ?_)
        · refine gj_aload_n 66 dX8_pan_65 rfl rfl ?_
          refine gj_vV 69 dX8_pan_66 rfl ok_8_note ml_8_190 iv_8_note (As := []) rfl rfl rfl rfl (Nat.le_of_ble_eq_true rfl) ⟨Nat.le_of_ble_eq_true rfl, Nat.le_of_ble_eq_true rfl⟩ (Nat.le_of_ble_eq_true rfl) ⟨rfl, rfl⟩ ⟨Nat.zero_le _, Nat.zero_le _⟩ (s8_note hd14) ?_
          refine gj_iload_n 70 dX8_pan_69 rfl rfl ?_
          refine gj_bipush 72 dX8_pan_70 rfl (by decide) ?_
          refine gj_icmp_ne 79 75 dX8_pan_72 (by decide) rfl (by omega) (by omega) (fun c_72 => ?_) (fun c_72 => ?_)
          · refine gj_iload_n 80 dX8_pan_79 rfl rfl ?_
            refine gj_top (x_panOf l) (by unfold x_panOf; first | (exfalso; omega) | rw [if_pos (by omega)] | rw [if_neg (by omega)]) ?_
            have hpo : x_panOf l = 4 ∨ (0 ≤ x_panOf l ∧ x_panOf l < 4) := by unfold x_panOf; split <;> omega
            refine gj_istore (lv' := [_, _, _, _, _, _]) 82 dX8_pan_80 rfl (by decide) rfl ?_
            refine gj_aload_n 83 dX8_pan_82 rfl rfl ?_
            refine gj_getfr 86 dX8_pan_83 rfl fl_8_35 rfl rfl ?_
            refine gj_bipush 88 dX8_pan_86 rfl (by decide) ?_
            refine gj_iconst 89 dX8_pan_88 rfl ?_
            refine gj_iload 91 dX8_pan_89 rfl rfl ?_
            refine gj_imul 92 dX8_pan_91 rfl ?_
            refine gj_iadd 93 dX8_pan_92 rfl ?_
            refine gj_iload_n 94 dX8_pan_93 rfl rfl ?_
            refine gj_iast 95 dX8_pan_94 rfl rfl (by omega) (by omega) (by omega) ?_
            refine gj_aload_n 96 dX8_pan_95 rfl rfl ?_
            refine gj_getfr 99 dX8_pan_96 rfl fl_8_35 rfl rfl ?_
            refine gj_bipush 101 dX8_pan_99 rfl (by decide) ?_
            refine gj_iconst 102 dX8_pan_101 rfl ?_
            refine gj_iload 104 dX8_pan_102 rfl rfl ?_
            refine gj_imul 105 dX8_pan_104 rfl ?_
            refine gj_iadd 106 dX8_pan_105 rfl ?_
            refine gj_iconst 107 dX8_pan_106 rfl ?_
            refine gj_iadd 108 dX8_pan_107 rfl ?_
            refine gj_iload_n 109 dX8_pan_108 rfl rfl ?_
            refine gj_iast 110 dX8_pan_109 rfl rfl (by omega) (by omega) (by omega) ?_
            refine gj_aload_n 111 dX8_pan_110 rfl rfl ?_
            refine gj_getfr 114 dX8_pan_111 rfl fl_8_35 rfl rfl ?_
            refine gj_bipush 116 dX8_pan_114 rfl (by decide) ?_
            refine gj_iconst 117 dX8_pan_116 rfl ?_
            refine gj_iload 119 dX8_pan_117 rfl rfl ?_
            refine gj_imul 120 dX8_pan_119 rfl ?_
            refine gj_iadd 121 dX8_pan_120 rfl ?_
            refine gj_iconst 122 dX8_pan_121 rfl ?_
            refine gj_iadd 123 dX8_pan_122 rfl ?_
            refine gj_iload 125 dX8_pan_123 rfl rfl ?_
            refine gj_iast 126 dX8_pan_125 rfl rfl (by omega) (by omega) (by omega) ?_
            have w0 : (gj_u (gj_u (gj_u (y_nt M) 78 (16 + 3 * x_panOf l) s) 78 (16 + 3 * x_panOf l + 1) b) 78 (16 + 3 * x_panOf l + 2) e) 78 (16 + 3 * x_panOf l) = s := by rw [gj_u_i (by omega), gj_u_i (by omega), gj_u_s]
            have w1 : (gj_u (gj_u (gj_u (y_nt M) 78 (16 + 3 * x_panOf l) s) 78 (16 + 3 * x_panOf l + 1) b) 78 (16 + 3 * x_panOf l + 2) e) 78 (16 + 3 * x_panOf l + 1) = b := by rw [gj_u_i (by omega), gj_u_s]
            have w2 : (gj_u (gj_u (gj_u (y_nt M) 78 (16 + 3 * x_panOf l) s) 78 (16 + 3 * x_panOf l + 1) b) 78 (16 + 3 * x_panOf l + 2) e) 78 (16 + 3 * x_panOf l + 2) = e := gj_u_s
            have sp := s8_wh2 (xt := xt) (M := (gj_u (gj_u (gj_u (y_nt M) 78 (16 + 3 * x_panOf l) s) 78 (16 + 3 * x_panOf l + 1) b) 78 (16 + 3 * x_panOf l + 2) e)) (r := 78) (p := x_panOf l) (f := 47) rfl (by rw [w0, w1, w2]; omega) (by omega) (by omega)
            unfold y_wh at sp
            rw [w0, w1, w2] at sp
            refine gj_aload_n 127 dX8_pan_126 rfl rfl ?_
            refine gj_getfr 130 dX8_pan_127 rfl fl_8_35 rfl rfl ?_
            refine gj_iload 132 dX8_pan_130 rfl rfl ?_
            refine gj_bipush 134 dX8_pan_132 rfl (by decide) ?_
            refine gj_fS 137 dX8_pan_134 rfl ok_8_whereIs ml_8_131 is_8_whereIs (As := [gR _, gI _, gI _]) rfl rfl (Nat.le_of_ble_eq_true rfl) ⟨Nat.le_of_ble_eq_true rfl, Nat.le_of_ble_eq_true rfl⟩ (Nat.le_of_ble_eq_true rfl) ⟨rfl, rfl⟩ ⟨Nat.zero_le _, Nat.zero_le _⟩ (sp) ?_
            refine gj_sipush 140 dX8_pan_137 rfl (by decide) ?_
            refine gj_iadd 141 dX8_pan_140 rfl ?_
            refine gj_iret dX8_pan_141 rfl ⟨Nat.zero_le _, Nat.zero_le _⟩ ?_
            first
            | (exfalso; omega)
            | exact ⟨rfl, by (unfold z_pan; (repeat (first | rw [if_pos (by omega)] | rw [if_neg (by omega)])); try rfl), by (unfold n_pan; (repeat (first | rw [if_pos (by omega)] | rw [if_neg (by omega)])); try rfl)⟩
          · refine gj_iconst 76 dX8_pan_75 rfl ?_
            refine gj_goto 80 dX8_pan_76 (by decide) ?_
            refine gj_top (x_panOf l) (by unfold x_panOf; first | (exfalso; omega) | rw [if_pos (by omega)] | rw [if_neg (by omega)]) ?_
            have hpo : x_panOf l = 4 ∨ (0 ≤ x_panOf l ∧ x_panOf l < 4) := by unfold x_panOf; split <;> omega
            refine gj_istore (lv' := [_, _, _, _, _, _]) 82 dX8_pan_80 rfl (by decide) rfl ?_
            refine gj_aload_n 83 dX8_pan_82 rfl rfl ?_
            refine gj_getfr 86 dX8_pan_83 rfl fl_8_35 rfl rfl ?_
            refine gj_bipush 88 dX8_pan_86 rfl (by decide) ?_
            refine gj_iconst 89 dX8_pan_88 rfl ?_
            refine gj_iload 91 dX8_pan_89 rfl rfl ?_
            refine gj_imul 92 dX8_pan_91 rfl ?_
            refine gj_iadd 93 dX8_pan_92 rfl ?_
            refine gj_iload_n 94 dX8_pan_93 rfl rfl ?_
            refine gj_iast 95 dX8_pan_94 rfl rfl (by omega) (by omega) (by omega) ?_
            refine gj_aload_n 96 dX8_pan_95 rfl rfl ?_
            refine gj_getfr 99 dX8_pan_96 rfl fl_8_35 rfl rfl ?_
            refine gj_bipush 101 dX8_pan_99 rfl (by decide) ?_
            refine gj_iconst 102 dX8_pan_101 rfl ?_
            refine gj_iload 104 dX8_pan_102 rfl rfl ?_
            refine gj_imul 105 dX8_pan_104 rfl ?_
            refine gj_iadd 106 dX8_pan_105 rfl ?_
            refine gj_iconst 107 dX8_pan_106 rfl ?_
            refine gj_iadd 108 dX8_pan_107 rfl ?_
            refine gj_iload_n 109 dX8_pan_108 rfl rfl ?_
            refine gj_iast 110 dX8_pan_109 rfl rfl (by omega) (by omega) (by omega) ?_
            refine gj_aload_n 111 dX8_pan_110 rfl rfl ?_
            refine gj_getfr 114 dX8_pan_111 rfl fl_8_35 rfl rfl ?_
            refine gj_bipush 116 dX8_pan_114 rfl (by decide) ?_
            refine gj_iconst 117 dX8_pan_116 rfl ?_
            refine gj_iload 119 dX8_pan_117 rfl rfl ?_
            refine gj_imul 120 dX8_pan_119 rfl ?_
            refine gj_iadd 121 dX8_pan_120 rfl ?_
            refine gj_iconst 122 dX8_pan_121 rfl ?_
            refine gj_iadd 123 dX8_pan_122 rfl ?_
            refine gj_iload 125 dX8_pan_123 rfl rfl ?_
            refine gj_iast 126 dX8_pan_125 rfl rfl (by omega) (by omega) (by omega) ?_
            have w0 : (gj_u (gj_u (gj_u (y_nt M) 78 (16 + 3 * x_panOf l) s) 78 (16 + 3 * x_panOf l + 1) b) 78 (16 + 3 * x_panOf l + 2) e) 78 (16 + 3 * x_panOf l) = s := by rw [gj_u_i (by omega), gj_u_i (by omega), gj_u_s]
            have w1 : (gj_u (gj_u (gj_u (y_nt M) 78 (16 + 3 * x_panOf l) s) 78 (16 + 3 * x_panOf l + 1) b) 78 (16 + 3 * x_panOf l + 2) e) 78 (16 + 3 * x_panOf l + 1) = b := by rw [gj_u_i (by omega), gj_u_s]
            have w2 : (gj_u (gj_u (gj_u (y_nt M) 78 (16 + 3 * x_panOf l) s) 78 (16 + 3 * x_panOf l + 1) b) 78 (16 + 3 * x_panOf l + 2) e) 78 (16 + 3 * x_panOf l + 2) = e := gj_u_s
            have sp := s8_wh2 (xt := xt) (M := (gj_u (gj_u (gj_u (y_nt M) 78 (16 + 3 * x_panOf l) s) 78 (16 + 3 * x_panOf l + 1) b) 78 (16 + 3 * x_panOf l + 2) e)) (r := 78) (p := x_panOf l) (f := 47) rfl (by rw [w0, w1, w2]; omega) (by omega) (by omega)
            unfold y_wh at sp
            rw [w0, w1, w2] at sp
            refine gj_aload_n 127 dX8_pan_126 rfl rfl ?_
            refine gj_getfr 130 dX8_pan_127 rfl fl_8_35 rfl rfl ?_
            refine gj_iload 132 dX8_pan_130 rfl rfl ?_
            refine gj_bipush 134 dX8_pan_132 rfl (by decide) ?_
            refine gj_fS 137 dX8_pan_134 rfl ok_8_whereIs ml_8_131 is_8_whereIs (As := [gR _, gI _, gI _]) rfl rfl (Nat.le_of_ble_eq_true rfl) ⟨Nat.le_of_ble_eq_true rfl, Nat.le_of_ble_eq_true rfl⟩ (Nat.le_of_ble_eq_true rfl) ⟨rfl, rfl⟩ ⟨Nat.zero_le _, Nat.zero_le _⟩ (sp) ?_
            refine gj_sipush 140 dX8_pan_137 rfl (by decide) ?_
            refine gj_iadd 141 dX8_pan_140 rfl ?_
            refine gj_iret dX8_pan_141 rfl ⟨Nat.zero_le _, Nat.zero_le _⟩ ?_
            first
            | (exfalso; omega)
            | exact ⟨rfl, by (unfold z_pan; (repeat (first | rw [if_pos (by omega)] | rw [if_neg (by omega)])); try rfl), by (unfold n_pan; (repeat (first | rw [if_pos (by omega)] | rw [if_neg (by omega)])); try rfl)⟩
        · refine gj_bipush 64 dX8_pan_62 rfl (by decide) ?_
          refine gj_iret dX8_pan_64 rfl ⟨Nat.zero_le _, Nat.zero_le _⟩ ?_
          first
          | (exfalso; omega)
          | exact ⟨rfl, by (unfold z_pan; (repeat (first | rw [if_pos (by omega)] | rw [if_neg (by omega)])); try rfl), by (unfold n_pan; (repeat (first | rw [if_pos (by omega)] | rw [if_neg (by omega)])); try rfl)⟩
  · refine gj_aload_n 12 dX8_pan_11 rfl rfl ?_
    refine gj_iload_n 13 dX8_pan_12 rfl rfl ?_
    refine gj_fV 16 dX8_pan_13 rfl ok_8_noLevel ml_8_173 iv_8_noLevel (As := [gI _]) rfl rfl rfl rfl (Nat.le_of_ble_eq_true rfl) ⟨Nat.le_of_ble_eq_true rfl, Nat.le_of_ble_eq_true rfl⟩ (Nat.le_of_ble_eq_true rfl) ⟨rfl, rfl⟩ ⟨Nat.zero_le _, Nat.zero_le _⟩ (s8_noL (by omega) hI.1) ?_
    have hc13 := y_in_c l 0 (M 69 5 - 1)
    refine gj_if_eq 21 19 dX8_pan_16 (by decide) rfl (by omega) (fun c_16 => ?_) (fun c_16 => ?_)
    · refine gj_iload_n 22 dX8_pan_21 rfl rfl ?_
      refine gj_i2l 23 dX8_pan_22 rfl (by omega) ?_
      refine gj_ldc2 (a := -9) 26 dX8_pan_23 rfl lc_8_193 ?_
      refine gj_ldc2 (a := 9) 29 dX8_pan_26 rfl lc_8_186 ?_
      refine gj_fS 32 dX8_pan_29 rfl ok_8_in ml_8_76 is_8_in (As := [gL _, gL _, gL _]) rfl rfl (Nat.le_of_ble_eq_true rfl) ⟨Nat.le_of_ble_eq_true rfl, Nat.le_of_ble_eq_true rfl⟩ (Nat.le_of_ble_eq_true rfl) ⟨rfl, rfl⟩ ⟨Nat.zero_le _, Nat.zero_le _⟩ (s8_in (by omega) (by omega) (by omega)) ?_
      have hc29 := y_in_c (s) (-9) (9)
      refine gj_if_eq 62 35 dX8_pan_32 (by decide) rfl (by omega) (fun c_32 => ?_) (fun c_32 => ?_)
      · refine gj_bipush 64 dX8_pan_62 rfl (by decide) ?_
        refine gj_iret dX8_pan_64 rfl ⟨Nat.zero_le _, Nat.zero_le _⟩ ?_
        first
        | (exfalso; omega)
        | exact ⟨rfl, by (unfold z_pan; (repeat (first | rw [if_pos (by omega)] | rw [if_neg (by omega)])); try rfl), by (unfold n_pan; (repeat (first | rw [if_pos (by omega)] | rw [if_neg (by omega)])); try rfl)⟩
      · refine gj_iload_n 36 dX8_pan_35 rfl rfl ?_
        refine gj_i2l 37 dX8_pan_36 rfl (by omega) ?_
        refine gj_ldc2 (a := -3) 40 dX8_pan_37 rfl lc_8_195 ?_
        refine gj_ldc2 (a := 3) 43 dX8_pan_40 rfl lc_8_197 ?_
        refine gj_fS 46 dX8_pan_43 rfl ok_8_in ml_8_76 is_8_in (As := [gL _, gL _, gL _]) rfl rfl (Nat.le_of_ble_eq_true rfl) ⟨Nat.le_of_ble_eq_true rfl, Nat.le_of_ble_eq_true rfl⟩ (Nat.le_of_ble_eq_true rfl) ⟨rfl, rfl⟩ ⟨Nat.zero_le _, Nat.zero_le _⟩ (s8_in (by omega) (by omega) (by omega)) ?_
        have hc43 := y_in_c (b) (-3) (3)
        refine gj_if_eq 62 49 dX8_pan_46 (by decide) rfl (by omega) (fun c_46 => ?_) (fun c_46 => ?_)
        · refine gj_bipush 64 dX8_pan_62 rfl (by decide) ?_
          refine gj_iret dX8_pan_64 rfl ⟨Nat.zero_le _, Nat.zero_le _⟩ ?_
          first
          | (exfalso; omega)
          | exact ⟨rfl, by (unfold z_pan; (repeat (first | rw [if_pos (by omega)] | rw [if_neg (by omega)])); try rfl), by (unfold n_pan; (repeat (first | rw [if_pos (by omega)] | rw [if_neg (by omega)])); try rfl)⟩
        · refine gj_iload 51 dX8_pan_49 rfl rfl ?_
          refine gj_i2l 52 dX8_pan_51 rfl (by omega) ?_
          refine gj_lconst (a := 1) 53 dX8_pan_52 rfl rfl ?_
          refine gj_ldc2 (a := 9) 56 dX8_pan_53 rfl lc_8_186 ?_
          refine gj_fS 59 dX8_pan_56 rfl ok_8_in ml_8_76 is_8_in (As := [gL _, gL _, gL _]) rfl rfl (Nat.le_of_ble_eq_true rfl) ⟨Nat.le_of_ble_eq_true rfl, Nat.le_of_ble_eq_true rfl⟩ (Nat.le_of_ble_eq_true rfl) ⟨rfl, rfl⟩ ⟨Nat.zero_le _, Nat.zero_le _⟩ (s8_in (by omega) (by omega) (by omega)) ?_
          have hc56 := y_in_c (e) (1) (9)
          refine gj_if_ne 65 62 dX8_pan_59 (by decide) rfl (by omega) (fun c_59 => ?_) (fun c_59 => ?_)
          · refine gj_aload_n 66 dX8_pan_65 rfl rfl ?_
            refine gj_vV 69 dX8_pan_66 rfl ok_8_note ml_8_190 iv_8_note (As := []) rfl rfl rfl rfl (Nat.le_of_ble_eq_true rfl) ⟨Nat.le_of_ble_eq_true rfl, Nat.le_of_ble_eq_true rfl⟩ (Nat.le_of_ble_eq_true rfl) ⟨rfl, rfl⟩ ⟨Nat.zero_le _, Nat.zero_le _⟩ (s8_note hd14) ?_
            refine gj_iload_n 70 dX8_pan_69 rfl rfl ?_
            refine gj_bipush 72 dX8_pan_70 rfl (by decide) ?_
            refine gj_icmp_ne 79 75 dX8_pan_72 (by decide) rfl (by omega) (by omega) (fun c_72 => ?_) (fun c_72 => ?_)
            · refine gj_iload_n 80 dX8_pan_79 rfl rfl ?_
              refine gj_top (x_panOf l) (by unfold x_panOf; first | (exfalso; omega) | rw [if_pos (by omega)] | rw [if_neg (by omega)]) ?_
              have hpo : x_panOf l = 4 ∨ (0 ≤ x_panOf l ∧ x_panOf l < 4) := by unfold x_panOf; split <;> omega
              refine gj_istore (lv' := [_, _, _, _, _, _]) 82 dX8_pan_80 rfl (by decide) rfl ?_
              refine gj_aload_n 83 dX8_pan_82 rfl rfl ?_
              refine gj_getfr 86 dX8_pan_83 rfl fl_8_35 rfl rfl ?_
              refine gj_bipush 88 dX8_pan_86 rfl (by decide) ?_
              refine gj_iconst 89 dX8_pan_88 rfl ?_
              refine gj_iload 91 dX8_pan_89 rfl rfl ?_
              refine gj_imul 92 dX8_pan_91 rfl ?_
              refine gj_iadd 93 dX8_pan_92 rfl ?_
              refine gj_iload_n 94 dX8_pan_93 rfl rfl ?_
              refine gj_iast 95 dX8_pan_94 rfl rfl (by omega) (by omega) (by omega) ?_
              refine gj_aload_n 96 dX8_pan_95 rfl rfl ?_
              refine gj_getfr 99 dX8_pan_96 rfl fl_8_35 rfl rfl ?_
              refine gj_bipush 101 dX8_pan_99 rfl (by decide) ?_
              refine gj_iconst 102 dX8_pan_101 rfl ?_
              refine gj_iload 104 dX8_pan_102 rfl rfl ?_
              refine gj_imul 105 dX8_pan_104 rfl ?_
              refine gj_iadd 106 dX8_pan_105 rfl ?_
              refine gj_iconst 107 dX8_pan_106 rfl ?_
              refine gj_iadd 108 dX8_pan_107 rfl ?_
              refine gj_iload_n 109 dX8_pan_108 rfl rfl ?_
              refine gj_iast 110 dX8_pan_109 rfl rfl (by omega) (by omega) (by omega) ?_
              refine gj_aload_n 111 dX8_pan_110 rfl rfl ?_
              refine gj_getfr 114 dX8_pan_111 rfl fl_8_35 rfl rfl ?_
              refine gj_bipush 116 dX8_pan_114 rfl (by decide) ?_
              refine gj_iconst 117 dX8_pan_116 rfl ?_
              refine gj_iload 119 dX8_pan_117 rfl rfl ?_
              refine gj_imul 120 dX8_pan_119 rfl ?_
              refine gj_iadd 121 dX8_pan_120 rfl ?_
              refine gj_iconst 122 dX8_pan_121 rfl ?_
              refine gj_iadd 123 dX8_pan_122 rfl ?_
              refine gj_iload 125 dX8_pan_123 rfl rfl ?_
              refine gj_iast 126 dX8_pan_125 rfl rfl (by omega) (by omega) (by omega) ?_
              have w0 : (gj_u (gj_u (gj_u (y_nt M) 78 (16 + 3 * x_panOf l) s) 78 (16 + 3 * x_panOf l + 1) b) 78 (16 + 3 * x_panOf l + 2) e) 78 (16 + 3 * x_panOf l) = s := by rw [gj_u_i (by omega), gj_u_i (by omega), gj_u_s]
              have w1 : (gj_u (gj_u (gj_u (y_nt M) 78 (16 + 3 * x_panOf l) s) 78 (16 + 3 * x_panOf l + 1) b) 78 (16 + 3 * x_panOf l + 2) e) 78 (16 + 3 * x_panOf l + 1) = b := by rw [gj_u_i (by omega), gj_u_s]
              have w2 : (gj_u (gj_u (gj_u (y_nt M) 78 (16 + 3 * x_panOf l) s) 78 (16 + 3 * x_panOf l + 1) b) 78 (16 + 3 * x_panOf l + 2) e) 78 (16 + 3 * x_panOf l + 2) = e := gj_u_s
              have sp := s8_wh2 (xt := xt) (M := (gj_u (gj_u (gj_u (y_nt M) 78 (16 + 3 * x_panOf l) s) 78 (16 + 3 * x_panOf l + 1) b) 78 (16 + 3 * x_panOf l + 2) e)) (r := 78) (p := x_panOf l) (f := 47) rfl (by rw [w0, w1, w2]; omega) (by omega) (by omega)
              unfold y_wh at sp
              rw [w0, w1, w2] at sp
              refine gj_aload_n 127 dX8_pan_126 rfl rfl ?_
              refine gj_getfr 130 dX8_pan_127 rfl fl_8_35 rfl rfl ?_
              refine gj_iload 132 dX8_pan_130 rfl rfl ?_
              refine gj_bipush 134 dX8_pan_132 rfl (by decide) ?_
              refine gj_fS 137 dX8_pan_134 rfl ok_8_whereIs ml_8_131 is_8_whereIs (As := [gR _, gI _, gI _]) rfl rfl (Nat.le_of_ble_eq_true rfl) ⟨Nat.le_of_ble_eq_true rfl, Nat.le_of_ble_eq_true rfl⟩ (Nat.le_of_ble_eq_true rfl) ⟨rfl, rfl⟩ ⟨Nat.zero_le _, Nat.zero_le _⟩ (sp) ?_
              refine gj_sipush 140 dX8_pan_137 rfl (by decide) ?_
              refine gj_iadd 141 dX8_pan_140 rfl ?_
              refine gj_iret dX8_pan_141 rfl ⟨Nat.zero_le _, Nat.zero_le _⟩ ?_
              first
              | (exfalso; omega)
              | exact ⟨rfl, by (unfold z_pan; (repeat (first | rw [if_pos (by omega)] | rw [if_neg (by omega)])); try rfl), by (unfold n_pan; (repeat (first | rw [if_pos (by omega)] | rw [if_neg (by omega)])); try rfl)⟩
            · refine gj_iconst 76 dX8_pan_75 rfl ?_
              refine gj_goto 80 dX8_pan_76 (by decide) ?_
              refine gj_top (x_panOf l) (by unfold x_panOf; first | (exfalso; omega) | rw [if_pos (by omega)] | rw [if_neg (by omega)]) ?_
              have hpo : x_panOf l = 4 ∨ (0 ≤ x_panOf l ∧ x_panOf l < 4) := by unfold x_panOf; split <;> omega
              refine gj_istore (lv' := [_, _, _, _, _, _]) 82 dX8_pan_80 rfl (by decide) rfl ?_
              refine gj_aload_n 83 dX8_pan_82 rfl rfl ?_
              refine gj_getfr 86 dX8_pan_83 rfl fl_8_35 rfl rfl ?_
              refine gj_bipush 88 dX8_pan_86 rfl (by decide) ?_
              refine gj_iconst 89 dX8_pan_88 rfl ?_
              refine gj_iload 91 dX8_pan_89 rfl rfl ?_
              refine gj_imul 92 dX8_pan_91 rfl ?_
              refine gj_iadd 93 dX8_pan_92 rfl ?_
              refine gj_iload_n 94 dX8_pan_93 rfl rfl ?_
              refine gj_iast 95 dX8_pan_94 rfl rfl (by omega) (by omega) (by omega) ?_
              refine gj_aload_n 96 dX8_pan_95 rfl rfl ?_
              refine gj_getfr 99 dX8_pan_96 rfl fl_8_35 rfl rfl ?_
              refine gj_bipush 101 dX8_pan_99 rfl (by decide) ?_
              refine gj_iconst 102 dX8_pan_101 rfl ?_
              refine gj_iload 104 dX8_pan_102 rfl rfl ?_
              refine gj_imul 105 dX8_pan_104 rfl ?_
              refine gj_iadd 106 dX8_pan_105 rfl ?_
              refine gj_iconst 107 dX8_pan_106 rfl ?_
              refine gj_iadd 108 dX8_pan_107 rfl ?_
              refine gj_iload_n 109 dX8_pan_108 rfl rfl ?_
              refine gj_iast 110 dX8_pan_109 rfl rfl (by omega) (by omega) (by omega) ?_
              refine gj_aload_n 111 dX8_pan_110 rfl rfl ?_
              refine gj_getfr 114 dX8_pan_111 rfl fl_8_35 rfl rfl ?_
              refine gj_bipush 116 dX8_pan_114 rfl (by decide) ?_
              refine gj_iconst 117 dX8_pan_116 rfl ?_
              refine gj_iload 119 dX8_pan_117 rfl rfl ?_
              refine gj_imul 120 dX8_pan_119 rfl ?_
              refine gj_iadd 121 dX8_pan_120 rfl ?_
              refine gj_iconst 122 dX8_pan_121 rfl ?_
              refine gj_iadd 123 dX8_pan_122 rfl ?_
              refine gj_iload 125 dX8_pan_123 rfl rfl ?_
              refine gj_iast 126 dX8_pan_125 rfl rfl (by omega) (by omega) (by omega) ?_
              have w0 : (gj_u (gj_u (gj_u (y_nt M) 78 (16 + 3 * x_panOf l) s) 78 (16 + 3 * x_panOf l + 1) b) 78 (16 + 3 * x_panOf l + 2) e) 78 (16 + 3 * x_panOf l) = s := by rw [gj_u_i (by omega), gj_u_i (by omega), gj_u_s]
              have w1 : (gj_u (gj_u (gj_u (y_nt M) 78 (16 + 3 * x_panOf l) s) 78 (16 + 3 * x_panOf l + 1) b) 78 (16 + 3 * x_panOf l + 2) e) 78 (16 + 3 * x_panOf l + 1) = b := by rw [gj_u_i (by omega), gj_u_s]
              have w2 : (gj_u (gj_u (gj_u (y_nt M) 78 (16 + 3 * x_panOf l) s) 78 (16 + 3 * x_panOf l + 1) b) 78 (16 + 3 * x_panOf l + 2) e) 78 (16 + 3 * x_panOf l + 2) = e := gj_u_s
              have sp := s8_wh2 (xt := xt) (M := (gj_u (gj_u (gj_u (y_nt M) 78 (16 + 3 * x_panOf l) s) 78 (16 + 3 * x_panOf l + 1) b) 78 (16 + 3 * x_panOf l + 2) e)) (r := 78) (p := x_panOf l) (f := 47) rfl (by rw [w0, w1, w2]; omega) (by omega) (by omega)
              unfold y_wh at sp
              rw [w0, w1, w2] at sp
              refine gj_aload_n 127 dX8_pan_126 rfl rfl ?_
              refine gj_getfr 130 dX8_pan_127 rfl fl_8_35 rfl rfl ?_
              refine gj_iload 132 dX8_pan_130 rfl rfl ?_
              refine gj_bipush 134 dX8_pan_132 rfl (by decide) ?_
              refine gj_fS 137 dX8_pan_134 rfl ok_8_whereIs ml_8_131 is_8_whereIs (As := [gR _, gI _, gI _]) rfl rfl (Nat.le_of_ble_eq_true rfl) ⟨Nat.le_of_ble_eq_true rfl, Nat.le_of_ble_eq_true rfl⟩ (Nat.le_of_ble_eq_true rfl) ⟨rfl, rfl⟩ ⟨Nat.zero_le _, Nat.zero_le _⟩ (sp) ?_
              refine gj_sipush 140 dX8_pan_137 rfl (by decide) ?_
              refine gj_iadd 141 dX8_pan_140 rfl ?_
              refine gj_iret dX8_pan_141 rfl ⟨Nat.zero_le _, Nat.zero_le _⟩ ?_
              first
              | (exfalso; omega)
              | exact ⟨rfl, by (unfold z_pan; (repeat (first | rw [if_pos (by omega)] | rw [if_neg (by omega)])); try rfl), by (unfold n_pan; (repeat (first | rw [if_pos (by omega)] | rw [if_neg (by omega)])); try rfl)⟩
          · refine gj_bipush 64 dX8_pan_62 rfl (by decide) ?_
            refine gj_iret dX8_pan_64 rfl ⟨Nat.zero_le _, Nat.zero_le _⟩ ?_
            first
            | (exfalso; omega)
            | exact ⟨rfl, by (unfold z_pan; (repeat (first | rw [if_pos (by omega)] | rw [if_neg (by omega)])); try rfl), by (unfold n_pan; (repeat (first | rw [if_pos (by omega)] | rw [if_neg (by omega)])); try rfl)⟩
    · refine gj_iconst 20 dX8_pan_19 rfl ?_
      refine gj_iret dX8_pan_20 rfl ⟨Nat.zero_le _, Nat.zero_le _⟩ ?_
      first
      | (exfalso; omega)
      | exact ⟨rfl, by (unfold z_pan; (repeat (first | rw [if_pos (by omega)] | rw [if_neg (by omega)])); try rfl), by (unfold n_pan; (repeat (first | rw [if_pos (by omega)] | rw [if_neg (by omega)])); try rfl)⟩

set_option maxRecDepth 100000 in
set_option maxHeartbeats 1000000 in
theorem s8_swap {xt : Nat × (Nat → Int)} {M : gj_M} (h0 : M 69 0 = 0) (hI : y_I M 78) (hd14 : 0 ≤ M 69 18 ∧ M 69 18 ≤ 14) {f od : Int} (hf : gj_in f) (ho : gj_in od) : gj_F xt Y8_swap gS [gR 69, gI f, gI od] M (some (gI (z_swap M f od))) (n_swap M f od) := by
  show gj_G _ Y8_swap gS 0 0 0 [_, _, _] [] M _
  have hL := hI.1
  have hD := hI.2.1
  have hsw := hI.2.2.1
  refine gj_aload_n 1 dX8_swap_0 rfl rfl ?_
  refine gj_iconst 2 dX8_swap_1 rfl ?_
  refine gj_putfi 5 dX8_swap_2 rfl fw_8_69 rfl rfl (by omega) ?_
  refine gj_mem (gj_u0 h0) ?_
  refine gj_iload_n 6 dX8_swap_5 rfl rfl ?_
  refine gj_fS 9 dX8_swap_6 rfl ok_8_isFrame ml_8_183 is_8_isFrame (As := [gI _]) rfl rfl (Nat.le_of_ble_eq_true rfl) ⟨Nat.le_of_ble_eq_true rfl, Nat.le_of_ble_eq_true rfl⟩ (Nat.le_of_ble_eq_true rfl) ⟨rfl, rfl⟩ ⟨Nat.zero_le _, Nat.zero_le _⟩ (s8_isF (by omega)) ?_
  have hc6 := y_in_c f 0 47
  refine gj_if_eq 20 12 dX8_swap_9 (by decide) rfl (by omega) (fun c_9 => ?_) (fun c_9 => ?_)
  · refine gj_bipush 22 dX8_swap_20 rfl (by decide) ?_
    refine gj_iret dX8_swap_22 rfl ⟨Nat.zero_le _, Nat.zero_le _⟩ ?_
    exact ⟨rfl, by (unfold z_swap; (repeat (first | rw [if_pos (by omega)] | rw [if_neg (by omega)])); try rfl), by (unfold n_swap; (repeat (first | rw [if_pos (by omega)] | rw [if_neg (by omega)])); try rfl)⟩
  · refine gj_aload_n 13 dX8_swap_12 rfl rfl ?_
    refine gj_iload_n 14 dX8_swap_13 rfl rfl ?_
    refine gj_fV 17 dX8_swap_14 rfl ok_8_isOrder ml_8_199 iv_8_isOrder (As := [gI _]) rfl rfl rfl rfl (Nat.le_of_ble_eq_true rfl) ⟨Nat.le_of_ble_eq_true rfl, Nat.le_of_ble_eq_true rfl⟩ (Nat.le_of_ble_eq_true rfl) ⟨rfl, rfl⟩ ⟨Nat.zero_le _, Nat.zero_le _⟩ (s8_io hI.1 ho) ?_
    have hio : y_io (M 69 5) od = 0 ∨ y_io (M 69 5) od = 1 := by unfold y_io; split <;> simp
    refine gj_if_ne 23 20 dX8_swap_17 (by decide) rfl (by omega) (fun c_17 => ?_) (fun c_17 => ?_)
    · refine gj_aload_n 24 dX8_swap_23 rfl rfl ?_
      refine gj_getfr 27 dX8_swap_24 rfl fl_8_35 rfl rfl ?_
      refine gj_bipush 29 dX8_swap_27 rfl (by decide) ?_
      refine gj_iald 30 dX8_swap_29 rfl rfl (by omega) (by omega) (fun r_29 => ?_)
      refine gj_iconst 31 dX8_swap_30 rfl ?_
      refine gj_icmp_ne 37 34 dX8_swap_31 (by decide) rfl (by omega) (by omega) (fun c_31 => ?_) (fun c_31 => ?_)
      · refine gj_aload_n 38 dX8_swap_37 rfl rfl ?_
        refine gj_vV 41 dX8_swap_38 rfl ok_8_note ml_8_190 iv_8_note (As := []) rfl rfl rfl rfl (Nat.le_of_ble_eq_true rfl) ⟨Nat.le_of_ble_eq_true rfl, Nat.le_of_ble_eq_true rfl⟩ (Nat.le_of_ble_eq_true rfl) ⟨rfl, rfl⟩ ⟨Nat.zero_le _, Nat.zero_le _⟩ (s8_note hd14) ?_
        refine gj_aload_n 42 dX8_swap_41 rfl rfl ?_
        refine gj_getfr 45 dX8_swap_42 rfl fl_8_35 rfl rfl ?_
        refine gj_bipush 47 dX8_swap_45 rfl (by decide) ?_
        refine gj_aload_n 48 dX8_swap_47 rfl rfl ?_
        refine gj_getfr 51 dX8_swap_48 rfl fl_8_35 rfl rfl ?_
        refine gj_bipush 53 dX8_swap_51 rfl (by decide) ?_
        refine gj_ialdE (M 78 31) 54 dX8_swap_53 rfl rfl (by omega) (by omega) (y_nt_o (by decide) (by decide) _) (fun r_53 => ?_)
        refine gj_iadd 55 dX8_swap_54 rfl ?_
        refine gj_iload_n 56 dX8_swap_55 rfl rfl ?_
        refine gj_iast 57 dX8_swap_56 rfl rfl (by omega) (by omega) (by omega) ?_
        refine gj_aload_n 58 dX8_swap_57 rfl rfl ?_
        refine gj_getfr 61 dX8_swap_58 rfl fl_8_35 rfl rfl ?_
        refine gj_bipush 63 dX8_swap_61 rfl (by decide) ?_
        refine gj_aload_n 64 dX8_swap_63 rfl rfl ?_
        refine gj_getfr 67 dX8_swap_64 rfl fl_8_35 rfl rfl ?_
        refine gj_bipush 69 dX8_swap_67 rfl (by decide) ?_
        refine gj_ialdE (M 78 31) 70 dX8_swap_69 rfl rfl (by omega) (by omega) (by rw [gj_u_i (by omega)]; exact y_nt_o (by decide) (by decide) _) (fun r_69 => ?_)
        refine gj_iadd 71 dX8_swap_70 rfl ?_
        refine gj_iload_n 72 dX8_swap_71 rfl rfl ?_
        refine gj_iast 73 dX8_swap_72 rfl rfl (by omega) (by omega) (by omega) ?_
        refine gj_aload_n 74 dX8_swap_73 rfl rfl ?_
        refine gj_getfr 77 dX8_swap_74 rfl fl_8_35 rfl rfl ?_
        refine gj_bipush 79 dX8_swap_77 rfl (by decide) ?_
        refine gj_dup2 80 dX8_swap_79 rfl (fun _ => rfl) (fun _ => rfl) ?_
        refine gj_ialdE (M 78 31) 81 dX8_swap_80 rfl rfl (by omega) (by omega) (by rw [gj_u_i (by omega), gj_u_i (by omega)]; exact y_nt_o (by decide) (by decide) _) (fun r_80 => ?_)
        refine gj_iconst 82 dX8_swap_81 rfl ?_
        refine gj_iadd 83 dX8_swap_82 rfl ?_
        refine gj_iast 84 dX8_swap_83 rfl rfl (by omega) (by omega) (by omega) ?_
        refine gj_aload_n 85 dX8_swap_84 rfl rfl ?_
        refine gj_getfr 88 dX8_swap_85 rfl fl_8_35 rfl rfl ?_
        refine gj_bipush 90 dX8_swap_88 rfl (by decide) ?_
        refine gj_ialdE (M 78 31 + 1) 91 dX8_swap_90 rfl rfl (by omega) (by omega) gj_u_s (fun r_90 => ?_)
        refine gj_iret dX8_swap_91 rfl ⟨Nat.zero_le _, Nat.zero_le _⟩ ?_
        exact ⟨rfl, by (unfold z_swap; (repeat (first | rw [if_pos (by omega)] | rw [if_neg (by omega)])); try rfl), by (unfold n_swap; (repeat (first | rw [if_pos (by omega)] | rw [if_neg (by omega)])); try rfl)⟩
      · refine gj_bipush 36 dX8_swap_34 rfl (by decide) ?_
        refine gj_iret dX8_swap_36 rfl ⟨Nat.zero_le _, Nat.zero_le _⟩ ?_
        exact ⟨rfl, by (unfold z_swap; (repeat (first | rw [if_pos (by omega)] | rw [if_neg (by omega)])); try rfl), by (unfold n_swap; (repeat (first | rw [if_pos (by omega)] | rw [if_neg (by omega)])); try rfl)⟩
    · refine gj_bipush 22 dX8_swap_20 rfl (by decide) ?_
      refine gj_iret dX8_swap_22 rfl ⟨Nat.zero_le _, Nat.zero_le _⟩ ?_
      exact ⟨rfl, by (unfold z_swap; (repeat (first | rw [if_pos (by omega)] | rw [if_neg (by omega)])); try rfl), by (unfold n_swap; (repeat (first | rw [if_pos (by omega)] | rw [if_neg (by omega)])); try rfl)⟩

set_option maxRecDepth 100000 in
set_option maxHeartbeats 1000000 in
theorem s8_back {xt : Nat × (Nat → Int)} {M : gj_M} (h0 : M 69 0 = 0) (hI : y_I M 78) (hd14 : 0 ≤ M 69 18 ∧ M 69 18 ≤ 14)  : gj_F xt Y8_back gS [gR 69] M (some (gI (z_back M))) (n_back M) := by
  show gj_G _ Y8_back gS 0 0 0 [_] [] M _
  have hL := hI.1
  have hD := hI.2.1
  have hsw := hI.2.2.1
  refine gj_aload_n 1 dX8_back_0 rfl rfl ?_
  refine gj_iconst 2 dX8_back_1 rfl ?_
  refine gj_putfi 5 dX8_back_2 rfl fw_8_69 rfl rfl (by omega) ?_
  refine gj_mem (gj_u0 h0) ?_
  refine gj_aload_n 6 dX8_back_5 rfl rfl ?_
  refine gj_getfr 9 dX8_back_6 rfl fl_8_35 rfl rfl ?_
  refine gj_bipush 11 dX8_back_9 rfl (by decide) ?_
  refine gj_iald 12 dX8_back_11 rfl rfl (by omega) (by omega) (fun r_11 => ?_)
  refine gj_if_ne 18 15 dX8_back_12 (by decide) rfl (by omega) (fun c_12 => ?_) (fun c_12 => ?_)
  · refine gj_aload_n 19 dX8_back_18 rfl rfl ?_
    refine gj_vV 22 dX8_back_19 rfl ok_8_note ml_8_190 iv_8_note (As := []) rfl rfl rfl rfl (Nat.le_of_ble_eq_true rfl) ⟨Nat.le_of_ble_eq_true rfl, Nat.le_of_ble_eq_true rfl⟩ (Nat.le_of_ble_eq_true rfl) ⟨rfl, rfl⟩ ⟨Nat.zero_le _, Nat.zero_le _⟩ (s8_note hd14) ?_
    refine gj_aload_n 23 dX8_back_22 rfl rfl ?_
    refine gj_getfr 26 dX8_back_23 rfl fl_8_35 rfl rfl ?_
    refine gj_bipush 28 dX8_back_26 rfl (by decide) ?_
    refine gj_dup2 29 dX8_back_28 rfl (fun _ => rfl) (fun _ => rfl) ?_
    refine gj_ialdE (M 78 31) 30 dX8_back_29 rfl rfl (by omega) (by omega) (y_nt_o (by decide) (by decide) _) (fun r_29 => ?_)
    refine gj_iconst 31 dX8_back_30 rfl ?_
    refine gj_isub 32 dX8_back_31 rfl ?_
    refine gj_iast 33 dX8_back_32 rfl rfl (by omega) (by omega) (by omega) ?_
    refine gj_aload_n 34 dX8_back_33 rfl rfl ?_
    refine gj_getfr 37 dX8_back_34 rfl fl_8_35 rfl rfl ?_
    refine gj_bipush 39 dX8_back_37 rfl (by decide) ?_
    refine gj_ialdE (M 78 31 - 1) 40 dX8_back_39 rfl rfl (by omega) (by omega) gj_u_s (fun r_39 => ?_)
    refine gj_iret dX8_back_40 rfl ⟨Nat.zero_le _, Nat.zero_le _⟩ ?_
    exact ⟨rfl, by (unfold z_back; (repeat (first | rw [if_pos (by omega)] | rw [if_neg (by omega)])); try rfl), by (unfold n_back; (repeat (first | rw [if_pos (by omega)] | rw [if_neg (by omega)])); try rfl)⟩
  · refine gj_bipush 17 dX8_back_15 rfl (by decide) ?_
    refine gj_iret dX8_back_17 rfl ⟨Nat.zero_le _, Nat.zero_le _⟩ ?_
    exact ⟨rfl, by (unfold z_back; (repeat (first | rw [if_pos (by omega)] | rw [if_neg (by omega)])); try rfl), by (unfold n_back; (repeat (first | rw [if_pos (by omega)] | rw [if_neg (by omega)])); try rfl)⟩

set_option maxRecDepth 100000 in
set_option maxHeartbeats 1000000 in
theorem s8_undo_l {xt : Nat × (Nat → Int)} {M : gj_M} (hd : 1 ≤ M 69 18 ∧ M 69 18 ≤ 14) : ∀ (n k : Nat), k + n = 40 → gj_G xt Y8_undo gS 0 0 27 [some (gR 69), some (gI (k : Int))] [] (y_ub (gj_u M 69 18 (M 69 18 - 1)) 80 (M 69 18 - 1) k) (fun r S2 M2 => S2 = gS ∧ r = some (gI (z_undo M)) ∧ M2 = n_undo M) := by
  intro n
  induction n with
  | zero =>
    intro k hk
    refine gj_iload_n 28 dX8_undo_27 rfl rfl ?_
    refine gj_bipush 30 dX8_undo_28 rfl (by decide) ?_
    refine gj_icmp_ge 59 33 dX8_undo_30 (by decide) rfl (by omega) (by omega) (fun c_30 => ?_) (fun c_30 => absurd c_30 (by omega))
    refine gj_aload_n 60 dX8_undo_59 rfl rfl ?_
    refine gj_getfiE (M 69 18 - 1) 63 dX8_undo_60 rfl fl_8_121 rfl rfl (by rw [y_ub_o (by decide)]; exact gj_u_s) (fun r_60 => ?_)
    refine gj_iret dX8_undo_63 rfl ⟨Nat.zero_le _, Nat.zero_le _⟩ ?_
    have hk3 : k = 40 := by omega
    subst hk3
    exact ⟨rfl, by unfold z_undo; rw [if_neg (by omega)], by unfold n_undo; rw [if_neg (by omega)]⟩
  | succ n ih =>
    intro k hk
    refine gj_iload_n 28 dX8_undo_27 rfl rfl ?_
    refine gj_bipush 30 dX8_undo_28 rfl (by decide) ?_
    refine gj_icmp_ge 59 33 dX8_undo_30 (by decide) rfl (by omega) (by omega) (fun c_30 => absurd c_30 (by omega)) (fun c_30 => ?_)
    refine gj_aload_n 34 dX8_undo_33 rfl rfl ?_
    refine gj_getfr 37 dX8_undo_34 rfl fl_8_35 rfl rfl ?_
    refine gj_iload_n 38 dX8_undo_37 rfl rfl ?_
    refine gj_aload_n 39 dX8_undo_38 rfl rfl ?_
    refine gj_getfr 42 dX8_undo_39 rfl fl_8_41 rfl rfl ?_
    refine gj_bipush 44 dX8_undo_42 rfl (by decide) ?_
    refine gj_aload_n 45 dX8_undo_44 rfl rfl ?_
    refine gj_getfiE (M 69 18 - 1) 48 dX8_undo_45 rfl fl_8_121 rfl rfl (by rw [y_ub_o (by decide)]; exact gj_u_s) (fun r_45 => ?_)
    refine gj_imul 49 dX8_undo_48 rfl ?_
    refine gj_iload_n 50 dX8_undo_49 rfl rfl ?_
    refine gj_iadd 51 dX8_undo_50 rfl ?_
    refine gj_iald 52 dX8_undo_51 rfl rfl (by omega) (by omega) (fun r_51 => ?_)
    refine gj_iast 53 dX8_undo_52 rfl rfl (by omega) (by omega) r_51 ?_
    refine gj_iinc (b := ((k + 1 : Nat) : Int)) (lv' := [_, _]) 56 dX8_undo_53 rfl rfl (by omega) (by decide) rfl ?_
    refine gj_goto 27 dX8_undo_56 (by decide) ?_
    exact gj_wk (ih (k + 1) (by omega)) ⟨rfl, rfl, trivial⟩

set_option maxRecDepth 100000 in
set_option maxHeartbeats 1000000 in
theorem s8_undo {xt : Nat × (Nat → Int)} {M : gj_M} (h0 : M 69 0 = 0) (hd14 : 0 ≤ M 69 18 ∧ M 69 18 ≤ 14)  : gj_F xt Y8_undo gS [gR 69] M (some (gI (z_undo M))) (n_undo M) := by
  show gj_G _ Y8_undo gS 0 0 0 [_, _] [] M _
  refine gj_aload_n 1 dX8_undo_0 rfl rfl ?_
  refine gj_iconst 2 dX8_undo_1 rfl ?_
  refine gj_putfi 5 dX8_undo_2 rfl fw_8_69 rfl rfl (by omega) ?_
  refine gj_mem (gj_u0 h0) ?_
  refine gj_aload_n 6 dX8_undo_5 rfl rfl ?_
  refine gj_getfi 9 dX8_undo_6 rfl fl_8_121 rfl rfl (fun r_6 => ?_)
  refine gj_if_ne 15 12 dX8_undo_9 (by decide) rfl (by omega) (fun c_9 => ?_) (fun c_9 => ?_)
  · refine gj_aload_n 16 dX8_undo_15 rfl rfl ?_
    refine gj_dup 17 dX8_undo_16 rfl (fun _ => rfl) ?_
    refine gj_getfi 20 dX8_undo_17 rfl fl_8_121 rfl rfl (fun r_17 => ?_)
    refine gj_iconst 21 dX8_undo_20 rfl ?_
    refine gj_isub 22 dX8_undo_21 rfl ?_
    refine gj_putfi 25 dX8_undo_22 rfl fw_8_121 rfl rfl (by omega) ?_
    refine gj_iconst 26 dX8_undo_25 rfl ?_
    refine gj_istore_n (lv' := [_, _]) 27 dX8_undo_26 rfl (by decide) rfl ?_
    exact gj_wk (s8_undo_l (by omega) 40 0 rfl) ⟨rfl, rfl, trivial⟩
  · refine gj_bipush 14 dX8_undo_12 rfl (by decide) ?_
    refine gj_iret dX8_undo_14 rfl ⟨Nat.zero_le _, Nat.zero_le _⟩ ?_
    exact ⟨rfl, by (unfold z_undo; (repeat (first | rw [if_pos (by omega)] | rw [if_neg (by omega)])); try rfl), by (unfold n_undo; (repeat (first | rw [if_pos (by omega)] | rw [if_neg (by omega)])); try rfl)⟩

set_option maxRecDepth 100000 in
set_option maxHeartbeats 1000000 in
theorem s8_exposed {xt : Nat × (Nat → Int)} {M : gj_M} (h0 : M 69 0 = 0) (hI : y_I M 78) {l f : Int} (hl : gj_in l) (hf : gj_in f) : gj_F xt Y8_exposed gS [gR 69, gI l, gI f] M (some (gI (z_exposed M l f))) M := by
  show gj_G _ Y8_exposed gS 0 0 0 [_, _, _] [] M _
  have hL := hI.1
  have hD := hI.2.1
  have hsw := hI.2.2.1
  refine gj_aload_n 1 dX8_exposed_0 rfl rfl ?_
  refine gj_iconst 2 dX8_exposed_1 rfl ?_
  refine gj_putfi 5 dX8_exposed_2 rfl fw_8_69 rfl rfl (by omega) ?_
  refine gj_mem (gj_u0 h0) ?_
  refine gj_aload_n 6 dX8_exposed_5 rfl rfl ?_
  refine gj_iload_n 7 dX8_exposed_6 rfl rfl ?_
  refine gj_fV 10 dX8_exposed_7 rfl ok_8_noLevel ml_8_173 iv_8_noLevel (As := [gI _]) rfl rfl rfl rfl (Nat.le_of_ble_eq_true rfl) ⟨Nat.le_of_ble_eq_true rfl, Nat.le_of_ble_eq_true rfl⟩ (Nat.le_of_ble_eq_true rfl) ⟨rfl, rfl⟩ ⟨Nat.zero_le _, Nat.zero_le _⟩ (s8_noL (by omega) hI.1) ?_
  have hc7 := y_in_c l 0 (M 69 5 - 1)
  refine gj_if_eq 15 13 dX8_exposed_10 (by decide) rfl (by omega) (fun c_10 => ?_) (fun c_10 => ?_)
  · refine gj_iload_n 16 dX8_exposed_15 rfl rfl ?_
    refine gj_fS 19 dX8_exposed_16 rfl ok_8_isFrame ml_8_183 is_8_isFrame (As := [gI _]) rfl rfl (Nat.le_of_ble_eq_true rfl) ⟨Nat.le_of_ble_eq_true rfl, Nat.le_of_ble_eq_true rfl⟩ (Nat.le_of_ble_eq_true rfl) ⟨rfl, rfl⟩ ⟨Nat.zero_le _, Nat.zero_le _⟩ (s8_isF (by omega)) ?_
    have hc16 := y_in_c f 0 47
    refine gj_if_eq 35 22 dX8_exposed_19 (by decide) rfl (by omega) (fun c_19 => ?_) (fun c_19 => ?_)
    · refine gj_bipush 37 dX8_exposed_35 rfl (by decide) ?_
      refine gj_iret dX8_exposed_37 rfl ⟨Nat.zero_le _, Nat.zero_le _⟩ ?_
      exact ⟨rfl, by (unfold z_exposed; (repeat (first | rw [if_pos (by omega)] | rw [if_neg (by omega)])); try rfl), rfl⟩
    · refine gj_aload_n 23 dX8_exposed_22 rfl rfl ?_
      refine gj_aload_n 24 dX8_exposed_23 rfl rfl ?_
      refine gj_getfr 27 dX8_exposed_24 rfl fl_8_35 rfl rfl ?_
      refine gj_iload_n 28 dX8_exposed_27 rfl rfl ?_
      refine gj_iload_n 29 dX8_exposed_28 rfl rfl ?_
      refine gj_fV 32 dX8_exposed_29 rfl ok_8_exposedOn ml_8_138 iv_8_exposedOn (As := [gR _, gI _, gI _]) rfl rfl rfl rfl (Nat.le_of_ble_eq_true rfl) ⟨Nat.le_of_ble_eq_true rfl, Nat.le_of_ble_eq_true rfl⟩ (Nat.le_of_ble_eq_true rfl) ⟨rfl, rfl⟩ ⟨Nat.zero_le _, Nat.zero_le _⟩ (s8_ex rfl hI (by omega) (by omega)) ?_
      refine gj_goto 37 dX8_exposed_32 (by decide) ?_
      refine gj_iret dX8_exposed_37 rfl ⟨Nat.zero_le _, Nat.zero_le _⟩ ?_
      exact ⟨rfl, by (unfold z_exposed; (repeat (first | rw [if_pos (by omega)] | rw [if_neg (by omega)])); try rfl), rfl⟩
  · refine gj_iconst 14 dX8_exposed_13 rfl ?_
    refine gj_iret dX8_exposed_14 rfl ⟨Nat.zero_le _, Nat.zero_le _⟩ ?_
    exact ⟨rfl, by (unfold z_exposed; (repeat (first | rw [if_pos (by omega)] | rw [if_neg (by omega)])); try rfl), rfl⟩

set_option maxRecDepth 100000 in
set_option maxHeartbeats 1000000 in
theorem s8_order {xt : Nat × (Nat → Int)} {M : gj_M} (h0 : M 69 0 = 0) (hI : y_I M 78) {f : Int} (hf : gj_in f) : gj_F xt Y8_order gS [gR 69, gI f] M (some (gI (z_order M f))) M := by
  show gj_G _ Y8_order gS 0 0 0 [_, _] [] M _
  have hL := hI.1
  have hD := hI.2.1
  have hsw := hI.2.2.1
  refine gj_aload_n 1 dX8_order_0 rfl rfl ?_
  refine gj_iconst 2 dX8_order_1 rfl ?_
  refine gj_putfi 5 dX8_order_2 rfl fw_8_69 rfl rfl (by omega) ?_
  refine gj_mem (gj_u0 h0) ?_
  refine gj_iload_n 6 dX8_order_5 rfl rfl ?_
  refine gj_fS 9 dX8_order_6 rfl ok_8_isFrame ml_8_183 is_8_isFrame (As := [gI _]) rfl rfl (Nat.le_of_ble_eq_true rfl) ⟨Nat.le_of_ble_eq_true rfl, Nat.le_of_ble_eq_true rfl⟩ (Nat.le_of_ble_eq_true rfl) ⟨rfl, rfl⟩ ⟨Nat.zero_le _, Nat.zero_le _⟩ (s8_isF (by omega)) ?_
  have hc6 := y_in_c f 0 47
  refine gj_if_eq 24 12 dX8_order_9 (by decide) rfl (by omega) (fun c_9 => ?_) (fun c_9 => ?_)
  · refine gj_bipush 26 dX8_order_24 rfl (by decide) ?_
    refine gj_iret dX8_order_26 rfl ⟨Nat.zero_le _, Nat.zero_le _⟩ ?_
    exact ⟨rfl, by (unfold z_order; (repeat (first | rw [if_pos (by omega)] | rw [if_neg (by omega)])); try rfl), rfl⟩
  · refine gj_aload_n 13 dX8_order_12 rfl rfl ?_
    refine gj_aload_n 14 dX8_order_13 rfl rfl ?_
    refine gj_getfr 17 dX8_order_14 rfl fl_8_35 rfl rfl ?_
    refine gj_iload_n 18 dX8_order_17 rfl rfl ?_
    refine gj_fV 21 dX8_order_18 rfl ok_8_orderAt ml_8_127 iv_8_orderAt (As := [gR _, gI _]) rfl rfl rfl rfl (Nat.le_of_ble_eq_true rfl) ⟨Nat.le_of_ble_eq_true rfl, Nat.le_of_ble_eq_true rfl⟩ (Nat.le_of_ble_eq_true rfl) ⟨rfl, rfl⟩ ⟨Nat.zero_le _, Nat.zero_le _⟩ (s8_ord rfl hI (by omega)) ?_
    refine gj_goto 26 dX8_order_21 (by decide) ?_
    refine gj_iret dX8_order_26 rfl ⟨Nat.zero_le _, Nat.zero_le _⟩ ?_
    exact ⟨rfl, by (unfold z_order; (repeat (first | rw [if_pos (by omega)] | rw [if_neg (by omega)])); try rfl), rfl⟩

set_option maxRecDepth 100000 in
set_option maxHeartbeats 1000000 in
theorem s8_lookp {xt : Nat × (Nat → Int)} {M : gj_M} (h0 : M 69 0 = 0) (hI : y_I M 78) {f c : Int} (hf : gj_in f) (hc : gj_in c) : gj_F xt Y8_look gS [gR 69, gI f, gI c] M (some (gI (z_look M f c))) M := by
  show gj_G _ Y8_look gS 0 0 0 [_, _, _] [] M _
  have hL := hI.1
  have hD := hI.2.1
  have hsw := hI.2.2.1
  refine gj_aload_n 1 dX8_look_0 rfl rfl ?_
  refine gj_iconst 2 dX8_look_1 rfl ?_
  refine gj_putfi 5 dX8_look_2 rfl fw_8_69 rfl rfl (by omega) ?_
  refine gj_mem (gj_u0 h0) ?_
  refine gj_iload_n 6 dX8_look_5 rfl rfl ?_
  refine gj_fS 9 dX8_look_6 rfl ok_8_isFrame ml_8_183 is_8_isFrame (As := [gI _]) rfl rfl (Nat.le_of_ble_eq_true rfl) ⟨Nat.le_of_ble_eq_true rfl, Nat.le_of_ble_eq_true rfl⟩ (Nat.le_of_ble_eq_true rfl) ⟨rfl, rfl⟩ ⟨Nat.zero_le _, Nat.zero_le _⟩ (s8_isF (by omega)) ?_
  have hc6 := y_in_c f 0 47
  refine gj_if_eq 43 12 dX8_look_9 (by decide) rfl (by omega) (fun c_9 => ?_) (fun c_9 => ?_)
  · refine gj_bipush 45 dX8_look_43 rfl (by decide) ?_
    refine gj_iret dX8_look_45 rfl ⟨Nat.zero_le _, Nat.zero_le _⟩ ?_
    exact ⟨rfl, by (unfold z_look; (repeat (first | rw [if_pos (by omega)] | rw [if_neg (by omega)])); try rfl), rfl⟩
  · refine gj_iload_n 13 dX8_look_12 rfl rfl ?_
    refine gj_i2l 14 dX8_look_13 rfl (by omega) ?_
    refine gj_lconst (a := 0) 15 dX8_look_14 rfl rfl ?_
    refine gj_ldc2 (a := 9) 18 dX8_look_15 rfl lc_8_186 ?_
    refine gj_fS 21 dX8_look_18 rfl ok_8_in ml_8_76 is_8_in (As := [gL _, gL _, gL _]) rfl rfl (Nat.le_of_ble_eq_true rfl) ⟨Nat.le_of_ble_eq_true rfl, Nat.le_of_ble_eq_true rfl⟩ (Nat.le_of_ble_eq_true rfl) ⟨rfl, rfl⟩ ⟨Nat.zero_le _, Nat.zero_le _⟩ (s8_in (by omega) (by omega) (by omega)) ?_
    have hc18 := y_in_c (c) (0) (9)
    refine gj_if_eq 43 24 dX8_look_21 (by decide) rfl (by omega) (fun c_21 => ?_) (fun c_21 => ?_)
    · refine gj_bipush 45 dX8_look_43 rfl (by decide) ?_
      refine gj_iret dX8_look_45 rfl ⟨Nat.zero_le _, Nat.zero_le _⟩ ?_
      exact ⟨rfl, by (unfold z_look; (repeat (first | rw [if_pos (by omega)] | rw [if_neg (by omega)])); try rfl), rfl⟩
    · refine gj_aload_n 25 dX8_look_24 rfl rfl ?_
      refine gj_aload_n 26 dX8_look_25 rfl rfl ?_
      refine gj_getfr 29 dX8_look_26 rfl fl_8_35 rfl rfl ?_
      refine gj_iload_n 30 dX8_look_29 rfl rfl ?_
      refine gj_iload_n 31 dX8_look_30 rfl rfl ?_
      refine gj_aload_n 32 dX8_look_31 rfl rfl ?_
      refine gj_fV 35 dX8_look_32 rfl ok_8_every ml_8_147 iv_8_every (As := []) rfl rfl rfl rfl (Nat.le_of_ble_eq_true rfl) ⟨Nat.le_of_ble_eq_true rfl, Nat.le_of_ble_eq_true rfl⟩ (Nat.le_of_ble_eq_true rfl) ⟨rfl, rfl⟩ ⟨Nat.zero_le _, Nat.zero_le _⟩ (s8_every) ?_
      refine gj_bipush 37 dX8_look_35 rfl (by decide) ?_
      refine gj_fV 40 dX8_look_37 rfl ok_8_lookBy ml_8_150 iv_8_lookBy (As := [gR _, gI _, gI _, gI _, gI _]) rfl rfl rfl rfl (Nat.le_of_ble_eq_true rfl) ⟨Nat.le_of_ble_eq_true rfl, Nat.le_of_ble_eq_true rfl⟩ (Nat.le_of_ble_eq_true rfl) ⟨rfl, rfl⟩ ⟨Nat.zero_le _, Nat.zero_le _⟩ (s8_look rfl hI (by omega) (by omega) (by omega)) ?_
      refine gj_goto 45 dX8_look_40 (by decide) ?_
      refine gj_iret dX8_look_45 rfl ⟨Nat.zero_le _, Nat.zero_le _⟩ ?_
      exact ⟨rfl, by (unfold z_look; (repeat (first | rw [if_pos (by omega)] | rw [if_neg (by omega)])); try rfl), rfl⟩

set_option maxRecDepth 100000 in
set_option maxHeartbeats 1000000 in
theorem s8_ask {xt : Nat × (Nat → Int)} {M : gj_M} (h0 : M 69 0 = 0) (hI : y_I M 78) {w : Int} (hw : gj_in w) : gj_F xt Y8_ask gS [gR 69, gI w] M (some (gI (z_ask M w))) M := by
  show gj_G _ Y8_ask gS 0 0 0 [_, _] [] M _
  have hL := hI.1
  have hD := hI.2.1
  have hsw := hI.2.2.1
  refine gj_aload_n 1 dX8_ask_0 rfl rfl ?_
  refine gj_iconst 2 dX8_ask_1 rfl ?_
  refine gj_putfi 5 dX8_ask_2 rfl fw_8_69 rfl rfl (by omega) ?_
  refine gj_mem (gj_u0 h0) ?_
  refine gj_iload_n 6 dX8_ask_5 rfl rfl ?_
  refine gj_if_ne 16 9 dX8_ask_6 (by decide) rfl (by omega) (fun c_6 => ?_) (fun c_6 => ?_)
  · refine gj_iload_n 17 dX8_ask_16 rfl rfl ?_
    refine gj_iconst 18 dX8_ask_17 rfl ?_
    refine gj_icmp_ne 32 21 dX8_ask_18 (by decide) rfl (by omega) (by omega) (fun c_18 => ?_) (fun c_18 => ?_)
    · refine gj_bipush 34 dX8_ask_32 rfl (by decide) ?_
      refine gj_iret dX8_ask_34 rfl ⟨Nat.zero_le _, Nat.zero_le _⟩ ?_
      exact ⟨rfl, by (unfold z_ask; (repeat (first | rw [if_pos (by omega)] | rw [if_neg (by omega)])); try rfl), rfl⟩
    · refine gj_aload_n 22 dX8_ask_21 rfl rfl ?_
      refine gj_aload_n 23 dX8_ask_22 rfl rfl ?_
      refine gj_getfr 26 dX8_ask_23 rfl fl_8_35 rfl rfl ?_
      refine gj_fV 29 dX8_ask_26 rfl ok_8_cels ml_8_165 iv_8_cels (As := [gR _]) rfl rfl rfl rfl (Nat.le_of_ble_eq_true rfl) ⟨Nat.le_of_ble_eq_true rfl, Nat.le_of_ble_eq_true rfl⟩ (Nat.le_of_ble_eq_true rfl) ⟨rfl, rfl⟩ ⟨Nat.zero_le _, Nat.zero_le _⟩ (s8_cels rfl hI) ?_
      refine gj_goto 34 dX8_ask_29 (by decide) ?_
      refine gj_iret dX8_ask_34 rfl ⟨Nat.zero_le _, Nat.zero_le _⟩ ?_
      exact ⟨rfl, by (unfold z_ask; (repeat (first | rw [if_pos (by omega)] | rw [if_neg (by omega)])); try rfl), rfl⟩
  · refine gj_aload_n 10 dX8_ask_9 rfl rfl ?_
    refine gj_fV 13 dX8_ask_10 rfl ok_8_changes ml_8_202 iv_8_changes (As := []) rfl rfl rfl rfl (Nat.le_of_ble_eq_true rfl) ⟨Nat.le_of_ble_eq_true rfl, Nat.le_of_ble_eq_true rfl⟩ (Nat.le_of_ble_eq_true rfl) ⟨rfl, rfl⟩ ⟨Nat.zero_le _, Nat.zero_le _⟩ (s8_chg hI) ?_
    refine gj_goto 34 dX8_ask_13 (by decide) ?_
    refine gj_iret dX8_ask_34 rfl ⟨Nat.zero_le _, Nat.zero_le _⟩ ?_
    exact ⟨rfl, by (unfold z_ask; (repeat (first | rw [if_pos (by omega)] | rw [if_neg (by omega)])); try rfl), rfl⟩

set_option maxRecDepth 100000 in
set_option maxHeartbeats 1000000 in
theorem s8_see {xt : Nat × (Nat → Int)} {M : gj_M} (h0 : M 69 0 = 0) (hs : 0 ≤ M 69 21 ∧ M 69 21 ≤ 6) {f c v : Int} (hf : gj_in f) (hc : gj_in c) (hv : gj_in v) : gj_F xt Y8_see gS [gR 69, gI f, gI c, gI v] M (some (gI (z_see M f c v))) (n_see M f c v) := by
  show gj_G _ Y8_see gS 0 0 0 [_, _, _, _] [] M _
  refine gj_aload_n 1 dX8_see_0 rfl rfl ?_
  refine gj_iconst 2 dX8_see_1 rfl ?_
  refine gj_putfi 5 dX8_see_2 rfl fw_8_69 rfl rfl (by omega) ?_
  refine gj_mem (gj_u0 h0) ?_
  refine gj_iload_n 6 dX8_see_5 rfl rfl ?_
  refine gj_fS 9 dX8_see_6 rfl ok_8_isFrame ml_8_183 is_8_isFrame (As := [gI _]) rfl rfl (Nat.le_of_ble_eq_true rfl) ⟨Nat.le_of_ble_eq_true rfl, Nat.le_of_ble_eq_true rfl⟩ (Nat.le_of_ble_eq_true rfl) ⟨rfl, rfl⟩ ⟨Nat.zero_le _, Nat.zero_le _⟩ (s8_isF (by omega)) ?_
  have hc6 := y_in_c f 0 47
  refine gj_if_eq 42 12 dX8_see_9 (by decide) rfl (by omega) (fun c_9 => ?_) (fun c_9 => ?_)
  · refine gj_bipush 44 dX8_see_42 rfl (by decide) ?_
    refine gj_iret dX8_see_44 rfl ⟨Nat.zero_le _, Nat.zero_le _⟩ ?_
    exact ⟨rfl, by (unfold z_see; (repeat (first | rw [if_pos (by omega)] | rw [if_neg (by omega)])); try rfl), by (unfold n_see; (repeat (first | rw [if_pos (by omega)] | rw [if_neg (by omega)])); try rfl)⟩
  · refine gj_iload_n 13 dX8_see_12 rfl rfl ?_
    refine gj_i2l 14 dX8_see_13 rfl (by omega) ?_
    refine gj_lconst (a := 0) 15 dX8_see_14 rfl rfl ?_
    refine gj_ldc2 (a := 9) 18 dX8_see_15 rfl lc_8_186 ?_
    refine gj_fS 21 dX8_see_18 rfl ok_8_in ml_8_76 is_8_in (As := [gL _, gL _, gL _]) rfl rfl (Nat.le_of_ble_eq_true rfl) ⟨Nat.le_of_ble_eq_true rfl, Nat.le_of_ble_eq_true rfl⟩ (Nat.le_of_ble_eq_true rfl) ⟨rfl, rfl⟩ ⟨Nat.zero_le _, Nat.zero_le _⟩ (s8_in (by omega) (by omega) (by omega)) ?_
    have hc18 := y_in_c (c) (0) (9)
    refine gj_if_eq 42 24 dX8_see_21 (by decide) rfl (by omega) (fun c_21 => ?_) (fun c_21 => ?_)
    · refine gj_bipush 44 dX8_see_42 rfl (by decide) ?_
      refine gj_iret dX8_see_44 rfl ⟨Nat.zero_le _, Nat.zero_le _⟩ ?_
      exact ⟨rfl, by (unfold z_see; (repeat (first | rw [if_pos (by omega)] | rw [if_neg (by omega)])); try rfl), by (unfold n_see; (repeat (first | rw [if_pos (by omega)] | rw [if_neg (by omega)])); try rfl)⟩
    · refine gj_iload_n 25 dX8_see_24 rfl rfl ?_
      refine gj_bipush 27 dX8_see_25 rfl (by decide) ?_
      refine gj_icmp_eq 45 30 dX8_see_27 (by decide) rfl (by omega) (by omega) (fun c_27 => ?_) (fun c_27 => ?_)
      · refine gj_aload_n 46 dX8_see_45 rfl rfl ?_
        refine gj_getfi 49 dX8_see_46 rfl fl_8_219 rfl rfl (fun r_46 => ?_)
        refine gj_bipush 51 dX8_see_49 rfl (by decide) ?_
        refine gj_icmp_ne 57 54 dX8_see_51 (by decide) rfl (by omega) (by omega) (fun c_51 => ?_) (fun c_51 => ?_)
        · refine gj_aload_n 58 dX8_see_57 rfl rfl ?_
          refine gj_getfr 61 dX8_see_58 rfl fl_8_50 rfl rfl ?_
          refine gj_aload_n 62 dX8_see_61 rfl rfl ?_
          refine gj_getfi 65 dX8_see_62 rfl fl_8_219 rfl rfl (fun r_62 => ?_)
          refine gj_iload_n 66 dX8_see_65 rfl rfl ?_
          refine gj_iast 67 dX8_see_66 rfl rfl (by omega) (by omega) (by omega) ?_
          refine gj_aload_n 68 dX8_see_67 rfl rfl ?_
          refine gj_getfr 71 dX8_see_68 rfl fl_8_53 rfl rfl ?_
          refine gj_aload_n 72 dX8_see_71 rfl rfl ?_
          refine gj_getfiE (M 69 21) 75 dX8_see_72 rfl fl_8_219 rfl rfl rfl (fun r_72 => ?_)
          refine gj_iload_n 76 dX8_see_75 rfl rfl ?_
          refine gj_iast 77 dX8_see_76 rfl rfl (by omega) (by omega) (by omega) ?_
          refine gj_aload_n 78 dX8_see_77 rfl rfl ?_
          refine gj_getfr 81 dX8_see_78 rfl fl_8_56 rfl rfl ?_
          refine gj_aload_n 82 dX8_see_81 rfl rfl ?_
          refine gj_getfiE (M 69 21) 85 dX8_see_82 rfl fl_8_219 rfl rfl rfl (fun r_82 => ?_)
          refine gj_iload_n 86 dX8_see_85 rfl rfl ?_
          refine gj_iast 87 dX8_see_86 rfl rfl (by omega) (by omega) (by omega) ?_
          refine gj_aload_n 88 dX8_see_87 rfl rfl ?_
          refine gj_dup 89 dX8_see_88 rfl (fun _ => rfl) ?_
          refine gj_getfiE (M 69 21) 92 dX8_see_89 rfl fl_8_219 rfl rfl rfl (fun r_89 => ?_)
          refine gj_iconst 93 dX8_see_92 rfl ?_
          refine gj_iadd 94 dX8_see_93 rfl ?_
          refine gj_putfi 97 dX8_see_94 rfl fw_8_219 rfl rfl (by omega) ?_
          refine gj_aload_n 98 dX8_see_97 rfl rfl ?_
          refine gj_getfi 101 dX8_see_98 rfl fl_8_219 rfl rfl (fun r_98 => ?_)
          refine gj_iret dX8_see_101 rfl ⟨Nat.zero_le _, Nat.zero_le _⟩ ?_
          exact ⟨rfl, by (unfold z_see; (repeat (first | rw [if_pos (by omega)] | rw [if_neg (by omega)])); try rfl), by (unfold n_see; (repeat (first | rw [if_pos (by omega)] | rw [if_neg (by omega)])); try rfl)⟩
        · refine gj_bipush 56 dX8_see_54 rfl (by decide) ?_
          refine gj_iret dX8_see_56 rfl ⟨Nat.zero_le _, Nat.zero_le _⟩ ?_
          exact ⟨rfl, by (unfold z_see; (repeat (first | rw [if_pos (by omega)] | rw [if_neg (by omega)])); try rfl), by (unfold n_see; (repeat (first | rw [if_pos (by omega)] | rw [if_neg (by omega)])); try rfl)⟩
      · refine gj_iload_n 31 dX8_see_30 rfl rfl ?_
        refine gj_i2l 32 dX8_see_31 rfl (by omega) ?_
        refine gj_lconst (a := 0) 33 dX8_see_32 rfl rfl ?_
        refine gj_ldc2 (a := 39) 36 dX8_see_33 rfl lc_8_217 ?_
        refine gj_fS 39 dX8_see_36 rfl ok_8_in ml_8_76 is_8_in (As := [gL _, gL _, gL _]) rfl rfl (Nat.le_of_ble_eq_true rfl) ⟨Nat.le_of_ble_eq_true rfl, Nat.le_of_ble_eq_true rfl⟩ (Nat.le_of_ble_eq_true rfl) ⟨rfl, rfl⟩ ⟨Nat.zero_le _, Nat.zero_le _⟩ (s8_in (by omega) (by omega) (by omega)) ?_
        have hc36 := y_in_c (v) (0) (39)
        refine gj_if_ne 45 42 dX8_see_39 (by decide) rfl (by omega) (fun c_39 => ?_) (fun c_39 => ?_)
        · refine gj_aload_n 46 dX8_see_45 rfl rfl ?_
          refine gj_getfi 49 dX8_see_46 rfl fl_8_219 rfl rfl (fun r_46 => ?_)
          refine gj_bipush 51 dX8_see_49 rfl (by decide) ?_
          refine gj_icmp_ne 57 54 dX8_see_51 (by decide) rfl (by omega) (by omega) (fun c_51 => ?_) (fun c_51 => ?_)
          · refine gj_aload_n 58 dX8_see_57 rfl rfl ?_
            refine gj_getfr 61 dX8_see_58 rfl fl_8_50 rfl rfl ?_
            refine gj_aload_n 62 dX8_see_61 rfl rfl ?_
            refine gj_getfi 65 dX8_see_62 rfl fl_8_219 rfl rfl (fun r_62 => ?_)
            refine gj_iload_n 66 dX8_see_65 rfl rfl ?_
            refine gj_iast 67 dX8_see_66 rfl rfl (by omega) (by omega) (by omega) ?_
            refine gj_aload_n 68 dX8_see_67 rfl rfl ?_
            refine gj_getfr 71 dX8_see_68 rfl fl_8_53 rfl rfl ?_
            refine gj_aload_n 72 dX8_see_71 rfl rfl ?_
            refine gj_getfiE (M 69 21) 75 dX8_see_72 rfl fl_8_219 rfl rfl rfl (fun r_72 => ?_)
            refine gj_iload_n 76 dX8_see_75 rfl rfl ?_
            refine gj_iast 77 dX8_see_76 rfl rfl (by omega) (by omega) (by omega) ?_
            refine gj_aload_n 78 dX8_see_77 rfl rfl ?_
            refine gj_getfr 81 dX8_see_78 rfl fl_8_56 rfl rfl ?_
            refine gj_aload_n 82 dX8_see_81 rfl rfl ?_
            refine gj_getfiE (M 69 21) 85 dX8_see_82 rfl fl_8_219 rfl rfl rfl (fun r_82 => ?_)
            refine gj_iload_n 86 dX8_see_85 rfl rfl ?_
            refine gj_iast 87 dX8_see_86 rfl rfl (by omega) (by omega) (by omega) ?_
            refine gj_aload_n 88 dX8_see_87 rfl rfl ?_
            refine gj_dup 89 dX8_see_88 rfl (fun _ => rfl) ?_
            refine gj_getfiE (M 69 21) 92 dX8_see_89 rfl fl_8_219 rfl rfl rfl (fun r_89 => ?_)
            refine gj_iconst 93 dX8_see_92 rfl ?_
            refine gj_iadd 94 dX8_see_93 rfl ?_
            refine gj_putfi 97 dX8_see_94 rfl fw_8_219 rfl rfl (by omega) ?_
            refine gj_aload_n 98 dX8_see_97 rfl rfl ?_
            refine gj_getfi 101 dX8_see_98 rfl fl_8_219 rfl rfl (fun r_98 => ?_)
            refine gj_iret dX8_see_101 rfl ⟨Nat.zero_le _, Nat.zero_le _⟩ ?_
            exact ⟨rfl, by (unfold z_see; (repeat (first | rw [if_pos (by omega)] | rw [if_neg (by omega)])); try rfl), by (unfold n_see; (repeat (first | rw [if_pos (by omega)] | rw [if_neg (by omega)])); try rfl)⟩
          · refine gj_bipush 56 dX8_see_54 rfl (by decide) ?_
            refine gj_iret dX8_see_56 rfl ⟨Nat.zero_le _, Nat.zero_le _⟩ ?_
            exact ⟨rfl, by (unfold z_see; (repeat (first | rw [if_pos (by omega)] | rw [if_neg (by omega)])); try rfl), by (unfold n_see; (repeat (first | rw [if_pos (by omega)] | rw [if_neg (by omega)])); try rfl)⟩
        · refine gj_bipush 44 dX8_see_42 rfl (by decide) ?_
          refine gj_iret dX8_see_44 rfl ⟨Nat.zero_le _, Nat.zero_le _⟩ ?_
          exact ⟨rfl, by (unfold z_see; (repeat (first | rw [if_pos (by omega)] | rw [if_neg (by omega)])); try rfl), by (unfold n_see; (repeat (first | rw [if_pos (by omega)] | rw [if_neg (by omega)])); try rfl)⟩

set_option maxRecDepth 100000 in
set_option maxHeartbeats 1000000 in
theorem s8_unsee {xt : Nat × (Nat → Int)} {M : gj_M} (h0 : M 69 0 = 0)  : gj_F xt Y8_unsee gS [gR 69] M (some (gI (M 69 21))) (gj_u M 69 21 0) := by
  show gj_G _ Y8_unsee gS 0 0 0 [_, _] [] M _
  refine gj_aload_n 1 dX8_unsee_0 rfl rfl ?_
  refine gj_iconst 2 dX8_unsee_1 rfl ?_
  refine gj_putfi 5 dX8_unsee_2 rfl fw_8_69 rfl rfl (by omega) ?_
  refine gj_mem (gj_u0 h0) ?_
  refine gj_aload_n 6 dX8_unsee_5 rfl rfl ?_
  refine gj_getfi 9 dX8_unsee_6 rfl fl_8_219 rfl rfl (fun r_6 => ?_)
  refine gj_istore_n (lv' := [_, _]) 10 dX8_unsee_9 rfl (by decide) rfl ?_
  refine gj_aload_n 11 dX8_unsee_10 rfl rfl ?_
  refine gj_iconst 12 dX8_unsee_11 rfl ?_
  refine gj_putfi 15 dX8_unsee_12 rfl fw_8_219 rfl rfl (by omega) ?_
  refine gj_iload_n 16 dX8_unsee_15 rfl rfl ?_
  refine gj_iret dX8_unsee_16 rfl ⟨Nat.zero_le _, Nat.zero_le _⟩ ?_
  exact ⟨rfl, rfl, rfl⟩

set_option maxRecDepth 100000 in
set_option maxHeartbeats 1000000 in
theorem s8_seed {xt : Nat × (Nat → Int)} {M : gj_M} (h0 : M 69 0 = 0) {v : Int}  : gj_F xt Y8_seed gS [gR 69, gL v] M (some (gL (M 5069 25))) (gj_u M 5069 25 v) := by
  show gj_G _ Y8_seed gS 0 0 0 [_, _, _, _, _] [] M _
  refine gj_aload_n 1 dX8_seed_0 rfl rfl ?_
  refine gj_iconst 2 dX8_seed_1 rfl ?_
  refine gj_putfi 5 dX8_seed_2 rfl fw_8_69 rfl rfl (by omega) ?_
  refine gj_mem (gj_u0 h0) ?_
  refine gj_aload_n 6 dX8_seed_5 rfl rfl ?_
  refine gj_getfl 9 dX8_seed_6 rfl fl_8_240 rfl rfl ?_
  refine gj_lstore_n (lv' := [_, _, _, _, _]) 10 dX8_seed_9 rfl (by decide) rfl ?_
  refine gj_aload_n 11 dX8_seed_10 rfl rfl ?_
  refine gj_lload_n 12 dX8_seed_11 rfl rfl ?_
  refine gj_putfl 15 dX8_seed_12 rfl fw_8_240 rfl rfl ?_
  refine gj_lload_n 16 dX8_seed_15 rfl rfl ?_
  refine gj_lret dX8_seed_16 rfl ⟨Nat.zero_le _, Nat.zero_le _⟩ ?_
  exact ⟨rfl, rfl, rfl⟩

set_option maxRecDepth 100000 in
set_option maxHeartbeats 1000000 in
theorem s8_count {xt : Nat × (Nat → Int)} {M : gj_M} (h0 : M 69 0 = 0) {w : Int} (hw : gj_in w) : gj_F xt Y8_count gS [gR 69, gI w] M (some (gI (z_count M w))) M := by
  show gj_G _ Y8_count gS 0 0 0 [_, _] [] M _
  refine gj_aload_n 1 dX8_count_0 rfl rfl ?_
  refine gj_iconst 2 dX8_count_1 rfl ?_
  refine gj_putfi 5 dX8_count_2 rfl fw_8_69 rfl rfl (by omega) ?_
  refine gj_mem (gj_u0 h0) ?_
  refine gj_iload_n 6 dX8_count_5 rfl rfl ?_
  rcases (show w = 0 ∨ w = 1 ∨ w = 2 ∨ w = 3 ∨ w = 4 ∨ w = 5 ∨ (w < 0 ∨ 5 < w) by omega) with t_6 | t_6 | t_6 | t_6 | t_6 | t_6 | t_6
  · refine gj_tabI (off := 38) 44 dX8_count_6 (by omega) (by omega) (by rw [t_6]; rfl) (by decide) ?_
    refine gj_aload_n 45 dX8_count_44 rfl rfl ?_
    refine gj_getfi 48 dX8_count_45 rfl fl_8_87 rfl rfl (fun r_45 => ?_)
    refine gj_iret dX8_count_48 rfl ⟨Nat.zero_le _, Nat.zero_le _⟩ ?_
    exact ⟨rfl, by (unfold z_count; (repeat (first | rw [if_pos (by omega)] | rw [if_neg (by omega)])); try rfl), rfl⟩
  · refine gj_tabI (off := 43) 49 dX8_count_6 (by omega) (by omega) (by rw [t_6]; rfl) (by decide) ?_
    refine gj_aload_n 50 dX8_count_49 rfl rfl ?_
    refine gj_getfi 53 dX8_count_50 rfl fl_8_80 rfl rfl (fun r_50 => ?_)
    refine gj_iret dX8_count_53 rfl ⟨Nat.zero_le _, Nat.zero_le _⟩ ?_
    exact ⟨rfl, by (unfold z_count; (repeat (first | rw [if_pos (by omega)] | rw [if_neg (by omega)])); try rfl), rfl⟩
  · refine gj_tabI (off := 48) 54 dX8_count_6 (by omega) (by omega) (by rw [t_6]; rfl) (by decide) ?_
    refine gj_aload_n 55 dX8_count_54 rfl rfl ?_
    refine gj_getfi 58 dX8_count_55 rfl fl_8_73 rfl rfl (fun r_55 => ?_)
    refine gj_iret dX8_count_58 rfl ⟨Nat.zero_le _, Nat.zero_le _⟩ ?_
    exact ⟨rfl, by (unfold z_count; (repeat (first | rw [if_pos (by omega)] | rw [if_neg (by omega)])); try rfl), rfl⟩
  · refine gj_tabI (off := 53) 59 dX8_count_6 (by omega) (by omega) (by rw [t_6]; rfl) (by decide) ?_
    refine gj_aload_n 60 dX8_count_59 rfl rfl ?_
    refine gj_getfr 63 dX8_count_60 rfl fl_8_35 rfl rfl ?_
    refine gj_bipush 65 dX8_count_63 rfl (by decide) ?_
    refine gj_iald 66 dX8_count_65 rfl rfl (by omega) (by omega) (fun r_65 => ?_)
    refine gj_iret dX8_count_66 rfl ⟨Nat.zero_le _, Nat.zero_le _⟩ ?_
    exact ⟨rfl, by (unfold z_count; (repeat (first | rw [if_pos (by omega)] | rw [if_neg (by omega)])); try rfl), rfl⟩
  · refine gj_tabI (off := 61) 67 dX8_count_6 (by omega) (by omega) (by rw [t_6]; rfl) (by decide) ?_
    refine gj_aload_n 68 dX8_count_67 rfl rfl ?_
    refine gj_getfi 71 dX8_count_68 rfl fl_8_121 rfl rfl (fun r_68 => ?_)
    refine gj_iret dX8_count_71 rfl ⟨Nat.zero_le _, Nat.zero_le _⟩ ?_
    exact ⟨rfl, by (unfold z_count; (repeat (first | rw [if_pos (by omega)] | rw [if_neg (by omega)])); try rfl), rfl⟩
  · refine gj_tabI (off := 66) 72 dX8_count_6 (by omega) (by omega) (by rw [t_6]; rfl) (by decide) ?_
    refine gj_aload_n 73 dX8_count_72 rfl rfl ?_
    refine gj_getfi 76 dX8_count_73 rfl fl_8_219 rfl rfl (fun r_73 => ?_)
    refine gj_iret dX8_count_76 rfl ⟨Nat.zero_le _, Nat.zero_le _⟩ ?_
    exact ⟨rfl, by (unfold z_count; (repeat (first | rw [if_pos (by omega)] | rw [if_neg (by omega)])); try rfl), rfl⟩
  · refine gj_tabO 77 dX8_count_6 (by omega) t_6 (by decide) ?_
    refine gj_bipush 79 dX8_count_77 rfl (by decide) ?_
    refine gj_iret dX8_count_79 rfl ⟨Nat.zero_le _, Nat.zero_le _⟩ ?_
    exact ⟨rfl, by (unfold z_count; (repeat (first | rw [if_pos (by omega)] | rw [if_neg (by omega)])); try rfl), rfl⟩

set_option maxRecDepth 100000 in
set_option maxHeartbeats 1000000 in
theorem s8_keep_l {xt : Nat × (Nat → Int)} {M : gj_M} {s : Int} (hs : 0 ≤ s ∧ s < 2) : ∀ (n k : Nat), k + n = 40 → gj_G xt Y8_keep gS 0 0 26 [some (gR 69), some (gI s), some (gI (k : Int))] [] (y_kp (gj_u M 82 s 1) s k) (fun r S2 M2 => S2 = gS ∧ r = some (gI (z_keep M s)) ∧ M2 = n_keep M s) := by
  intro n
  induction n with
  | zero =>
    intro k hk
    refine gj_iload_n 27 dX8_keep_26 rfl rfl ?_
    refine gj_bipush 29 dX8_keep_27 rfl (by decide) ?_
    refine gj_icmp_ge 55 32 dX8_keep_29 (by decide) rfl (by omega) (by omega) (fun c_29 => ?_) (fun c_29 => absurd c_29 (by omega))
    refine gj_aload_n 56 dX8_keep_55 rfl rfl ?_
    refine gj_getfr 59 dX8_keep_56 rfl fl_8_35 rfl rfl ?_
    refine gj_bipush 61 dX8_keep_59 rfl (by decide) ?_
    refine gj_ialdE (M 78 31) 62 dX8_keep_61 rfl rfl (by omega) (by omega) (by rw [y_kp_o (by decide)]; rfl) (fun r_61 => ?_)
    refine gj_iret dX8_keep_62 rfl ⟨Nat.zero_le _, Nat.zero_le _⟩ ?_
    have hk3 : k = 40 := by omega
    subst hk3
    exact ⟨rfl, by unfold z_keep; rw [if_neg (by omega)], by unfold n_keep; rw [if_neg (by omega)]⟩
  | succ n ih =>
    intro k hk
    refine gj_iload_n 27 dX8_keep_26 rfl rfl ?_
    refine gj_bipush 29 dX8_keep_27 rfl (by decide) ?_
    refine gj_icmp_ge 55 32 dX8_keep_29 (by decide) rfl (by omega) (by omega) (fun c_29 => absurd c_29 (by omega)) (fun c_29 => ?_)
    refine gj_aload_n 33 dX8_keep_32 rfl rfl ?_
    refine gj_getfr 36 dX8_keep_33 rfl fl_8_44 rfl rfl ?_
    refine gj_bipush 38 dX8_keep_36 rfl (by decide) ?_
    refine gj_iload_n 39 dX8_keep_38 rfl rfl ?_
    refine gj_imul 40 dX8_keep_39 rfl ?_
    refine gj_iload_n 41 dX8_keep_40 rfl rfl ?_
    refine gj_iadd 42 dX8_keep_41 rfl ?_
    refine gj_aload_n 43 dX8_keep_42 rfl rfl ?_
    refine gj_getfr 46 dX8_keep_43 rfl fl_8_35 rfl rfl ?_
    refine gj_iload_n 47 dX8_keep_46 rfl rfl ?_
    refine gj_iald 48 dX8_keep_47 rfl rfl (by omega) (by omega) (fun r_47 => ?_)
    refine gj_iast 49 dX8_keep_48 rfl rfl (by omega) (by omega) r_47 ?_
    refine gj_iinc (b := ((k + 1 : Nat) : Int)) (lv' := [_, _, _]) 52 dX8_keep_49 rfl rfl (by omega) (by decide) rfl ?_
    refine gj_goto 26 dX8_keep_52 (by decide) ?_
    exact gj_wk (ih (k + 1) (by omega)) ⟨rfl, rfl, rfl, trivial⟩

set_option maxRecDepth 100000 in
set_option maxHeartbeats 1000000 in
theorem s8_keep {xt : Nat × (Nat → Int)} {M : gj_M} (h0 : M 69 0 = 0) {s : Int} (hs : gj_in s) : gj_F xt Y8_keep gS [gR 69, gI s] M (some (gI (z_keep M s))) (n_keep M s) := by
  show gj_G _ Y8_keep gS 0 0 0 [_, _, _] [] M _
  refine gj_aload_n 1 dX8_keep_0 rfl rfl ?_
  refine gj_iconst 2 dX8_keep_1 rfl ?_
  refine gj_putfi 5 dX8_keep_2 rfl fw_8_69 rfl rfl (by omega) ?_
  refine gj_mem (gj_u0 h0) ?_
  refine gj_iload_n 6 dX8_keep_5 rfl rfl ?_
  refine gj_i2l 7 dX8_keep_6 rfl (by omega) ?_
  refine gj_lconst (a := 0) 8 dX8_keep_7 rfl rfl ?_
  refine gj_lconst (a := 1) 9 dX8_keep_8 rfl rfl ?_
  refine gj_fS 12 dX8_keep_9 rfl ok_8_in ml_8_76 is_8_in (As := [gL _, gL _, gL _]) rfl rfl (Nat.le_of_ble_eq_true rfl) ⟨Nat.le_of_ble_eq_true rfl, Nat.le_of_ble_eq_true rfl⟩ (Nat.le_of_ble_eq_true rfl) ⟨rfl, rfl⟩ ⟨Nat.zero_le _, Nat.zero_le _⟩ (s8_in (by omega) (by omega) (by omega)) ?_
  have hc9 := y_in_c (s) (0) (1)
  refine gj_if_ne 17 15 dX8_keep_12 (by decide) rfl (by omega) (fun c_12 => ?_) (fun c_12 => ?_)
  · refine gj_aload_n 18 dX8_keep_17 rfl rfl ?_
    refine gj_getfr 21 dX8_keep_18 rfl fl_8_47 rfl rfl ?_
    refine gj_iload_n 22 dX8_keep_21 rfl rfl ?_
    refine gj_iconst 23 dX8_keep_22 rfl ?_
    refine gj_bast 24 dX8_keep_23 rfl rfl (by omega) (by omega) (by decide) ?_
    refine gj_iconst 25 dX8_keep_24 rfl ?_
    refine gj_istore_n (lv' := [_, _, _]) 26 dX8_keep_25 rfl (by decide) rfl ?_
    exact gj_wk (s8_keep_l (by omega) 40 0 rfl) ⟨rfl, rfl, rfl, trivial⟩
  · refine gj_iconst 16 dX8_keep_15 rfl ?_
    refine gj_iret dX8_keep_16 rfl ⟨Nat.zero_le _, Nat.zero_le _⟩ ?_
    exact ⟨rfl, by (unfold z_keep; (repeat (first | rw [if_pos (by omega)] | rw [if_neg (by omega)])); try rfl), by (unfold n_keep; (repeat (first | rw [if_pos (by omega)] | rw [if_neg (by omega)])); try rfl)⟩

set_option maxRecDepth 100000 in
set_option maxHeartbeats 1000000 in
theorem s8_again_l {xt : Nat × (Nat → Int)} {M : gj_M} {s : Int} (hs : 0 ≤ s ∧ s < 2) (hk0 : ¬ M 82 s = 0) : ∀ (n k : Nat), k + n = 40 → gj_G xt Y8_again gS 0 0 31 [some (gR 69), some (gI s), some (gI (k : Int))] [] (y_ub M 81 s k) (fun r S2 M2 => S2 = gS ∧ r = some (gI (z_again M s)) ∧ M2 = n_again M s) := by
  intro n
  induction n with
  | zero =>
    intro k hk
    refine gj_iload_n 32 dX8_again_31 rfl rfl ?_
    refine gj_bipush 34 dX8_again_32 rfl (by decide) ?_
    refine gj_icmp_ge 60 37 dX8_again_34 (by decide) rfl (by omega) (by omega) (fun c_34 => ?_) (fun c_34 => absurd c_34 (by omega))
    have hk3 : k = 40 := by omega
    subst hk3
    refine gj_aload_n 61 dX8_again_60 rfl rfl ?_
    refine gj_iconst 62 dX8_again_61 rfl ?_
    refine gj_putfi 65 dX8_again_62 rfl fw_8_121 rfl rfl (by omega) ?_
    refine gj_aload_n 66 dX8_again_65 rfl rfl ?_
    refine gj_getfr 69 dX8_again_66 rfl fl_8_35 rfl rfl ?_
    refine gj_bipush 71 dX8_again_69 rfl (by decide) ?_
    refine gj_ialdE (M 81 (40 * s + 31)) 72 dX8_again_71 rfl rfl (by omega) (by omega) (by rw [gj_u_o (by decide), y_ub_i (by decide), if_pos (by omega)]) (fun r_71 => ?_)
    refine gj_iret dX8_again_72 rfl ⟨Nat.zero_le _, Nat.zero_le _⟩ ?_
    exact ⟨rfl, by unfold z_again; rw [if_neg (by omega), if_neg hk0], by unfold n_again; rw [if_neg (by omega), if_neg hk0]⟩
  | succ n ih =>
    intro k hk
    refine gj_iload_n 32 dX8_again_31 rfl rfl ?_
    refine gj_bipush 34 dX8_again_32 rfl (by decide) ?_
    refine gj_icmp_ge 60 37 dX8_again_34 (by decide) rfl (by omega) (by omega) (fun c_34 => absurd c_34 (by omega)) (fun c_34 => ?_)
    refine gj_aload_n 38 dX8_again_37 rfl rfl ?_
    refine gj_getfr 41 dX8_again_38 rfl fl_8_35 rfl rfl ?_
    refine gj_iload_n 42 dX8_again_41 rfl rfl ?_
    refine gj_aload_n 43 dX8_again_42 rfl rfl ?_
    refine gj_getfr 46 dX8_again_43 rfl fl_8_44 rfl rfl ?_
    refine gj_bipush 48 dX8_again_46 rfl (by decide) ?_
    refine gj_iload_n 49 dX8_again_48 rfl rfl ?_
    refine gj_imul 50 dX8_again_49 rfl ?_
    refine gj_iload_n 51 dX8_again_50 rfl rfl ?_
    refine gj_iadd 52 dX8_again_51 rfl ?_
    refine gj_iald 53 dX8_again_52 rfl rfl (by omega) (by omega) (fun r_52 => ?_)
    refine gj_iast 54 dX8_again_53 rfl rfl (by omega) (by omega) r_52 ?_
    refine gj_iinc (b := ((k + 1 : Nat) : Int)) (lv' := [_, _, _]) 57 dX8_again_54 rfl rfl (by omega) (by decide) rfl ?_
    refine gj_goto 31 dX8_again_57 (by decide) ?_
    exact gj_wk (ih (k + 1) (by omega)) ⟨rfl, rfl, rfl, trivial⟩

set_option maxRecDepth 100000 in
set_option maxHeartbeats 1000000 in
theorem s8_again {xt : Nat × (Nat → Int)} {M : gj_M} (h0 : M 69 0 = 0) {s : Int} (hs : gj_in s) : gj_F xt Y8_again gS [gR 69, gI s] M (some (gI (z_again M s))) (n_again M s) := by
  show gj_G _ Y8_again gS 0 0 0 [_, _, _] [] M _
  refine gj_aload_n 1 dX8_again_0 rfl rfl ?_
  refine gj_iconst 2 dX8_again_1 rfl ?_
  refine gj_putfi 5 dX8_again_2 rfl fw_8_69 rfl rfl (by omega) ?_
  refine gj_mem (gj_u0 h0) ?_
  refine gj_iload_n 6 dX8_again_5 rfl rfl ?_
  refine gj_i2l 7 dX8_again_6 rfl (by omega) ?_
  refine gj_lconst (a := 0) 8 dX8_again_7 rfl rfl ?_
  refine gj_lconst (a := 1) 9 dX8_again_8 rfl rfl ?_
  refine gj_fS 12 dX8_again_9 rfl ok_8_in ml_8_76 is_8_in (As := [gL _, gL _, gL _]) rfl rfl (Nat.le_of_ble_eq_true rfl) ⟨Nat.le_of_ble_eq_true rfl, Nat.le_of_ble_eq_true rfl⟩ (Nat.le_of_ble_eq_true rfl) ⟨rfl, rfl⟩ ⟨Nat.zero_le _, Nat.zero_le _⟩ (s8_in (by omega) (by omega) (by omega)) ?_
  have hc9 := y_in_c (s) (0) (1)
  refine gj_if_ne 17 15 dX8_again_12 (by decide) rfl (by omega) (fun c_12 => ?_) (fun c_12 => ?_)
  · refine gj_aload_n 18 dX8_again_17 rfl rfl ?_
    refine gj_getfr 21 dX8_again_18 rfl fl_8_47 rfl rfl ?_
    refine gj_iload_n 22 dX8_again_21 rfl rfl ?_
    refine gj_bald 23 dX8_again_22 rfl rfl (by omega) (by omega) (fun r_22 => ?_)
    refine gj_if_ne 29 26 dX8_again_23 (by decide) rfl (by omega) (fun c_23 => ?_) (fun c_23 => ?_)
    · refine gj_iconst 30 dX8_again_29 rfl ?_
      refine gj_istore_n (lv' := [_, _, _]) 31 dX8_again_30 rfl (by decide) rfl ?_
      exact gj_wk (s8_again_l (by omega) (by omega) 40 0 rfl) ⟨rfl, rfl, rfl, trivial⟩
    · refine gj_bipush 28 dX8_again_26 rfl (by decide) ?_
      refine gj_iret dX8_again_28 rfl ⟨Nat.zero_le _, Nat.zero_le _⟩ ?_
      exact ⟨rfl, by (unfold z_again; (repeat (first | rw [if_pos (by omega)] | rw [if_neg (by omega)])); try rfl), by (unfold n_again; (repeat (first | rw [if_pos (by omega)] | rw [if_neg (by omega)])); try rfl)⟩
  · refine gj_iconst 16 dX8_again_15 rfl ?_
    refine gj_iret dX8_again_16 rfl ⟨Nat.zero_le _, Nat.zero_le _⟩ ?_
    exact ⟨rfl, by (unfold z_again; (repeat (first | rw [if_pos (by omega)] | rw [if_neg (by omega)])); try rfl), by (unfold n_again; (repeat (first | rw [if_pos (by omega)] | rw [if_neg (by omega)])); try rfl)⟩

set_option maxRecDepth 100000 in
set_option maxHeartbeats 1000000 in
theorem s8_looks_l {xt : Nat × (Nat → Int)} {M : gj_M} {m : Int} (hI : y_I M 78) (hm : 1 ≤ m ∧ m ≤ 40) : ∀ (n k : Nat), (k : Int) + n = m → gj_G xt Y8_looks gS 0 0 24 [some (gR 69), some (gI m), some (gI (y_lk M k)), some (gI (k : Int)), none] [] (gj_u M 5069 25 (e_sd (M 5069 25) k)) (fun r S2 M2 => S2 = gS ∧ r = some (gI (z_looks M m)) ∧ M2 = n_looks M m) := by
  intro n
  induction n with
  | zero =>
    intro k hk
    refine gj_iload_n 25 dX8_looks_24 rfl rfl ?_
    refine gj_iload_n 26 dX8_looks_25 rfl rfl ?_
    refine gj_icmp_ge 101 29 dX8_looks_26 (by decide) rfl (by omega) (by omega) (fun c_26 => ?_) (fun c_26 => absurd c_26 (by omega))
    refine gj_iload_n 102 dX8_looks_101 rfl rfl ?_
    refine gj_iret dX8_looks_102 rfl ⟨Nat.zero_le _, Nat.zero_le _⟩ ?_
    exact ⟨rfl, by unfold z_looks; rw [if_neg (by omega), show m.toNat = k by omega], by unfold n_looks; rw [if_neg (by omega), show m.toNat = k by omega]⟩
  | succ n ih =>
    intro k hk
    refine gj_iload_n 25 dX8_looks_24 rfl rfl ?_
    refine gj_iload_n 26 dX8_looks_25 rfl rfl ?_
    refine gj_icmp_ge 101 29 dX8_looks_26 (by decide) rfl (by omega) (by omega) (fun c_26 => absurd c_26 (by omega)) (fun c_26 => ?_)
    refine gj_aload_n 30 dX8_looks_29 rfl rfl ?_
    refine gj_aload_n 31 dX8_looks_30 rfl rfl ?_
    refine gj_getflE ((e_sd (M 5069 25) k)) 34 dX8_looks_31 rfl fl_8_240 rfl rfl gj_u_s ?_
    refine gj_ldc2 (a := 6364136223846793005) 37 dX8_looks_34 rfl lc_8_246 ?_
    refine gj_lmul 38 dX8_looks_37 rfl ?_
    refine gj_ldc2 (a := 1442695040888963407) 41 dX8_looks_38 rfl lc_8_248 ?_
    refine gj_ladd 42 dX8_looks_41 rfl ?_
    refine gj_putfl 45 dX8_looks_42 rfl fw_8_240 rfl rfl ?_
    refine gj_aload_n 46 dX8_looks_45 rfl rfl ?_
    refine gj_getflE ((e_sd (M 5069 25) (k + 1))) 49 dX8_looks_46 rfl fl_8_240 rfl rfl gj_u_s ?_
    refine gj_bipush 51 dX8_looks_49 rfl (by decide) ?_
    refine gj_lushr 52 dX8_looks_51 rfl ?_
    refine gj_top6 (e_v (e_sd (M 5069 25) (k + 1))) rfl ?_
    have hvb := e_v_b (e_sd (M 5069 25) (k + 1))
    have hm1 := Int.emod_nonneg (e_v (e_sd (M 5069 25) (k + 1))) (by decide : (48 : Int) ≠ 0)
    have hm2 := Int.emod_lt_of_pos (e_v (e_sd (M 5069 25) (k + 1))) (by decide : (0 : Int) < 48)
    have hq1 : 0 ≤ (e_v (e_sd (M 5069 25) (k + 1))) / 48 := by omega
    have hn1 := Int.emod_nonneg ((e_v (e_sd (M 5069 25) (k + 1))) / 48) (by decide : (10 : Int) ≠ 0)
    have hn2 := Int.emod_lt_of_pos ((e_v (e_sd (M 5069 25) (k + 1))) / 48) (by decide : (0 : Int) < 10)
    have hq5 : y_eq M 78 (gj_u M 5069 25 (e_sd (M 5069 25) (k + 1))) 78 := ⟨fun _ _ _ => rfl, rfl, rfl, rfl, rfl⟩
    have hsb := y_look_b hI ((e_v (e_sd (M 5069 25) (k + 1))) % 48) ((e_v (e_sd (M 5069 25) (k + 1))) / 48 % 10) (y_all (M 69 5)) (-9)
    have sp := s8_look (xt := xt) (M := gj_u M 5069 25 (e_sd (M 5069 25) (k + 1))) (r := 78) (f := (e_v (e_sd (M 5069 25) (k + 1))) % 48) (c := (e_v (e_sd (M 5069 25) (k + 1))) / 48 % 10) (sm := y_all (M 69 5)) (rub := -9) rfl (hq5.I hI) (by omega) (by omega) (by omega)
    rw [hq5.look hI] at sp
    refine gj_mem (gj_u_u M 5069 25 _ _) ?_
    refine gj_l2i 53 dX8_looks_52 rfl (by omega) ?_
    refine gj_istore (lv' := [_, _, _, _, _]) 55 dX8_looks_53 rfl (by decide) rfl ?_
    refine gj_iload_n 56 dX8_looks_55 rfl rfl ?_
    refine gj_aload_n 57 dX8_looks_56 rfl rfl ?_
    refine gj_aload_n 58 dX8_looks_57 rfl rfl ?_
    refine gj_getfr 61 dX8_looks_58 rfl fl_8_35 rfl rfl ?_
    refine gj_iload 63 dX8_looks_61 rfl rfl ?_
    refine gj_bipush 65 dX8_looks_63 rfl (by decide) ?_
    refine gj_irem 66 dX8_looks_65 rfl (by omega) (by omega) ?_
    refine gj_iload 68 dX8_looks_66 rfl rfl ?_
    refine gj_bipush 70 dX8_looks_68 rfl (by decide) ?_
    refine gj_idiv 71 dX8_looks_70 rfl (by omega) (by omega) ?_
    refine gj_bipush 73 dX8_looks_71 rfl (by decide) ?_
    refine gj_irem 74 dX8_looks_73 rfl (by omega) (by omega) ?_
    refine gj_aload_n 75 dX8_looks_74 rfl rfl ?_
    refine gj_fV 78 dX8_looks_75 rfl ok_8_every ml_8_147 iv_8_every (As := []) rfl rfl rfl rfl (Nat.le_of_ble_eq_true rfl) ⟨Nat.le_of_ble_eq_true rfl, Nat.le_of_ble_eq_true rfl⟩ (Nat.le_of_ble_eq_true rfl) ⟨rfl, rfl⟩ ⟨Nat.zero_le _, Nat.zero_le _⟩ (s8_every) ?_
    refine gj_bipush 80 dX8_looks_78 rfl (by decide) ?_
    refine gj_fV 83 dX8_looks_80 rfl ok_8_lookBy ml_8_150 iv_8_lookBy (As := [gR _, gI _, gI _, gI _, gI _]) rfl rfl rfl rfl (Nat.le_of_ble_eq_true rfl) ⟨Nat.le_of_ble_eq_true rfl, Nat.le_of_ble_eq_true rfl⟩ (Nat.le_of_ble_eq_true rfl) ⟨rfl, rfl⟩ ⟨Nat.zero_le _, Nat.zero_le _⟩ (sp) ?_
    refine gj_bipush 85 dX8_looks_83 rfl (by decide) ?_
    refine gj_icmp_eq 92 88 dX8_looks_85 (by decide) rfl (by omega) (by omega) (fun c_85 => ?_) (fun c_85 => ?_)
    · refine gj_iconst 93 dX8_looks_92 rfl ?_
      refine gj_iadd 94 dX8_looks_93 rfl ?_
      refine gj_istore_n (lv' := [_, _, _, _, _]) 95 dX8_looks_94 rfl (by decide) rfl ?_
      refine gj_iinc (b := ((k + 1 : Nat) : Int)) (lv' := [_, _, _, _, _]) 98 dX8_looks_95 rfl rfl (by omega) (by decide) rfl ?_
      refine gj_goto 24 dX8_looks_98 (by decide) ?_
      have h := ih (k + 1) (by omega)
      first
      | (rw [show y_lk M (k + 1) = y_lk M k + 0 from congrArg (y_lk M k + ·) (if_pos (by omega))] at h; exact gj_wk h ⟨rfl, rfl, rfl, rfl, trivial⟩)
      | (rw [show y_lk M (k + 1) = y_lk M k + 1 from congrArg (y_lk M k + ·) (if_neg (by omega))] at h; exact gj_wk h ⟨rfl, rfl, rfl, rfl, trivial⟩)
    · refine gj_iconst 89 dX8_looks_88 rfl ?_
      refine gj_goto 93 dX8_looks_89 (by decide) ?_
      refine gj_iadd 94 dX8_looks_93 rfl ?_
      refine gj_istore_n (lv' := [_, _, _, _, _]) 95 dX8_looks_94 rfl (by decide) rfl ?_
      refine gj_iinc (b := ((k + 1 : Nat) : Int)) (lv' := [_, _, _, _, _]) 98 dX8_looks_95 rfl rfl (by omega) (by decide) rfl ?_
      refine gj_goto 24 dX8_looks_98 (by decide) ?_
      have h := ih (k + 1) (by omega)
      first
      | (rw [show y_lk M (k + 1) = y_lk M k + 0 from congrArg (y_lk M k + ·) (if_pos (by omega))] at h; exact gj_wk h ⟨rfl, rfl, rfl, rfl, trivial⟩)
      | (rw [show y_lk M (k + 1) = y_lk M k + 1 from congrArg (y_lk M k + ·) (if_neg (by omega))] at h; exact gj_wk h ⟨rfl, rfl, rfl, rfl, trivial⟩)

set_option maxRecDepth 100000 in
set_option maxHeartbeats 1000000 in
theorem s8_looks {xt : Nat × (Nat → Int)} {M : gj_M} (h0 : M 69 0 = 0) (hI : y_I M 78) {m : Int} (hm : gj_in m) : gj_F xt Y8_looks gS [gR 69, gI m] M (some (gI (z_looks M m))) (n_looks M m) := by
  show gj_G _ Y8_looks gS 0 0 0 [_, _, _, _, _] [] M _
  refine gj_aload_n 1 dX8_looks_0 rfl rfl ?_
  refine gj_iconst 2 dX8_looks_1 rfl ?_
  refine gj_putfi 5 dX8_looks_2 rfl fw_8_69 rfl rfl (by omega) ?_
  refine gj_mem (gj_u0 h0) ?_
  refine gj_iload_n 6 dX8_looks_5 rfl rfl ?_
  refine gj_i2l 7 dX8_looks_6 rfl (by omega) ?_
  refine gj_lconst (a := 1) 8 dX8_looks_7 rfl rfl ?_
  refine gj_ldc2 (a := 40) 11 dX8_looks_8 rfl lc_8_244 ?_
  refine gj_fS 14 dX8_looks_11 rfl ok_8_in ml_8_76 is_8_in (As := [gL _, gL _, gL _]) rfl rfl (Nat.le_of_ble_eq_true rfl) ⟨Nat.le_of_ble_eq_true rfl, Nat.le_of_ble_eq_true rfl⟩ (Nat.le_of_ble_eq_true rfl) ⟨rfl, rfl⟩ ⟨Nat.zero_le _, Nat.zero_le _⟩ (s8_in (by omega) (by omega) (by omega)) ?_
  have hc11 := y_in_c (m) (1) (40)
  refine gj_if_ne 20 17 dX8_looks_14 (by decide) rfl (by omega) (fun c_14 => ?_) (fun c_14 => ?_)
  · refine gj_iconst 21 dX8_looks_20 rfl ?_
    refine gj_istore_n (lv' := [_, _, _, _, _]) 22 dX8_looks_21 rfl (by decide) rfl ?_
    refine gj_iconst 23 dX8_looks_22 rfl ?_
    refine gj_istore_n (lv' := [_, _, _, _, _]) 24 dX8_looks_23 rfl (by decide) rfl ?_
    refine gj_mem (gj_u_id M 5069 25).symm ?_
    exact gj_wk (s8_looks_l hI (by omega) m.toNat 0 (by omega)) ⟨rfl, rfl, rfl, rfl, trivial⟩
  · refine gj_bipush 19 dX8_looks_17 rfl (by decide) ?_
    refine gj_iret dX8_looks_19 rfl ⟨Nat.zero_le _, Nat.zero_le _⟩ ?_
    exact ⟨rfl, by (unfold z_looks; (repeat (first | rw [if_pos (by omega)] | rw [if_neg (by omega)])); try rfl), by (unfold n_looks; (repeat (first | rw [if_pos (by omega)] | rw [if_neg (by omega)])); try rfl)⟩
