set_option maxRecDepth 100000 in
set_option maxHeartbeats 1000000 in
theorem s7_drawing {xt : Nat × (Nat → Int)} {M : gj_M} (hI : c_I M) {d w : Int} (hd : gj_in d) (hw : gj_in w) : gj_T xt Y7_drawing gS [gR 0, gI d, gI w] M (fun r M2 => r = some (gI (x_drawing M d w)) ∧ gj_E [33, 34] M M2) := by
  show gj_G _ Y7_drawing gS 0 0 0 [_, _, _] [] M _
  have hL := hI.1
  have hD := hI.2.1
  have hsw := hI.2.2.1
  refine gj_aload_n 1 dX7_drawing_0 rfl rfl ?_
  refine gj_iload_n 2 dX7_drawing_1 rfl rfl ?_
  refine gj_fV 5 dX7_drawing_2 rfl ok_7_isDrawing ml_7_100 iv_7_isDrawing (As := [gI _]) rfl rfl rfl rfl (Nat.le_of_ble_eq_true rfl) ⟨Nat.le_of_ble_eq_true rfl, Nat.le_of_ble_eq_true rfl⟩ (Nat.le_of_ble_eq_true rfl) ⟨rfl, rfl⟩ ⟨Nat.zero_le _, Nat.zero_le _⟩ (s7_isD hD hd) ?_
  have hc := x_isD_c M d
  refine gj_if_ne 10 8 dX7_drawing_5 (by decide) rfl (by omega) (fun c_5 => ?_) (fun c_5 => ?_)
  · refine gj_iload_n 11 dX7_drawing_10 rfl rfl ?_
    rcases (show w = 0 ∨ w = 1 ∨ w = 2 ∨ (w < 0 ∨ 2 < w) by omega) with t_11 | t_11 | t_11 | t_11
    · refine gj_tabI (off := 25) 36 dX7_drawing_11 (by omega) (by omega) (by rw [t_11]; rfl) (by decide) ?_
      refine gj_aload_n 37 dX7_drawing_36 rfl rfl ?_
      refine gj_getfr 40 dX7_drawing_37 rfl fl_7_38 rfl rfl ?_
      refine gj_getfr 43 dX7_drawing_40 rfl fl_7_104 rfl rfl ?_
      refine gj_iload_n 44 dX7_drawing_43 rfl rfl ?_
      refine gj_iald 45 dX7_drawing_44 rfl rfl (by omega) (by omega) (fun r_44 => ?_)
      refine gj_iret dX7_drawing_45 rfl ⟨Nat.zero_le _, Nat.zero_le _⟩ ?_
      exact ⟨rfl, by (unfold x_drawing; (repeat (first | rw [if_pos (by omega)] | rw [if_neg (by omega)])); try rfl), gj_E.rf⟩
    · refine gj_tabI (off := 35) 46 dX7_drawing_11 (by omega) (by omega) (by rw [t_11]; rfl) (by decide) ?_
      refine gj_aload_n 47 dX7_drawing_46 rfl rfl ?_
      refine gj_getfr 50 dX7_drawing_47 rfl fl_7_38 rfl rfl ?_
      refine gj_getfr 53 dX7_drawing_50 rfl fl_7_107 rfl rfl ?_
      refine gj_iload_n 54 dX7_drawing_53 rfl rfl ?_
      refine gj_iald 55 dX7_drawing_54 rfl rfl (by omega) (by omega) (fun r_54 => ?_)
      refine gj_iret dX7_drawing_55 rfl ⟨Nat.zero_le _, Nat.zero_le _⟩ ?_
      exact ⟨rfl, by (unfold x_drawing; (repeat (first | rw [if_pos (by omega)] | rw [if_neg (by omega)])); try rfl), gj_E.rf⟩
    · refine gj_tabI (off := 45) 56 dX7_drawing_11 (by omega) (by omega) (by rw [t_11]; rfl) (by decide) ?_
      refine gj_aload_n 57 dX7_drawing_56 rfl rfl ?_
      refine gj_getfr 60 dX7_drawing_57 rfl fl_7_23 rfl rfl ?_
      refine gj_iload_n 61 dX7_drawing_60 rfl rfl ?_
      refine gj_callV 64 dX7_drawing_61 rfl ok_3_mostLevelsOf ml_7_110 iv_3_mostLevelsOf (As := [gI _]) rfl rfl rfl rfl (Nat.le_of_ble_eq_true rfl) ⟨Nat.le_of_ble_eq_true rfl, Nat.le_of_ble_eq_true rfl⟩ (Nat.le_of_ble_eq_true rfl) ⟨rfl, rfl⟩ ⟨Nat.zero_le _, Nat.zero_le _⟩ (s3_mostLevelsOf hI (by omega)) (fun r_61 M_61 q_61 => ?_)
      obtain ⟨rfl, hE⟩ := q_61
      show gj_G _ _ gS 0 0 64 _ [gI (c_mo M d)] M_61 _
      refine gj_iret dX7_drawing_64 rfl ⟨Nat.zero_le _, Nat.zero_le _⟩ ?_
      exact ⟨rfl, by (unfold x_drawing; (repeat (first | rw [if_pos (by omega)] | rw [if_neg (by omega)])); try rfl), hE⟩
    · refine gj_tabO 65 dX7_drawing_11 (by omega) t_11 (by decide) ?_
      refine gj_bipush 67 dX7_drawing_65 rfl (by decide) ?_
      refine gj_iret dX7_drawing_67 rfl ⟨Nat.zero_le _, Nat.zero_le _⟩ ?_
      exact ⟨rfl, by (unfold x_drawing; (repeat (first | rw [if_pos (by omega)] | rw [if_neg (by omega)])); try rfl), gj_E.rf⟩
  · refine gj_iconst 9 dX7_drawing_8 rfl ?_
    refine gj_iret dX7_drawing_9 rfl ⟨Nat.zero_le _, Nat.zero_le _⟩ ?_
    exact ⟨rfl, by (unfold x_drawing; (repeat (first | rw [if_pos (by omega)] | rw [if_neg (by omega)])); try rfl), gj_E.rf⟩

set_option maxRecDepth 100000 in
set_option maxHeartbeats 1000000 in
theorem s7_where {xt : Nat × (Nat → Int)} {M : gj_M} (hI : c_I M) {l f : Int} (hl : gj_in l) (hf : gj_in f) : gj_F xt Y7_where gS [gR 0, gI l, gI f] M (some (gI (x_where M l f))) M := by
  show gj_G _ Y7_where gS 0 0 0 [_, _, _] [] M _
  have hL := hI.1
  have hD := hI.2.1
  have hsw := hI.2.2.1
  refine gj_aload_n 1 dX7_where_0 rfl rfl ?_
  refine gj_iload_n 2 dX7_where_1 rfl rfl ?_
  refine gj_fV 5 dX7_where_2 rfl ok_7_hasPan ml_7_129 iv_7_hasPan (As := [gI _]) rfl rfl rfl rfl (Nat.le_of_ble_eq_true rfl) ⟨Nat.le_of_ble_eq_true rfl, Nat.le_of_ble_eq_true rfl⟩ (Nat.le_of_ble_eq_true rfl) ⟨rfl, rfl⟩ ⟨Nat.zero_le _, Nat.zero_le _⟩ (s7_hasP hL hl) ?_
  have hc := x_hasP_c M l
  refine gj_if_ne 10 8 dX7_where_5 (by decide) rfl (by omega) (fun c_5 => ?_) (fun c_5 => ?_)
  · refine gj_iload_n 11 dX7_where_10 rfl rfl ?_
    refine gj_fS 14 dX7_where_11 rfl ok_7_isFrame ml_7_132 is_7_isFrame (As := [gI _]) rfl rfl (Nat.le_of_ble_eq_true rfl) ⟨Nat.le_of_ble_eq_true rfl, Nat.le_of_ble_eq_true rfl⟩ (Nat.le_of_ble_eq_true rfl) ⟨rfl, rfl⟩ ⟨Nat.zero_le _, Nat.zero_le _⟩ (s7_isF hf) ?_
    have hc2 := x_isF_c f
    refine gj_if_ne 20 17 dX7_where_14 (by decide) rfl (by omega) (fun c_14 => ?_) (fun c_14 => ?_)
    · refine gj_sipush 23 dX7_where_20 rfl (by decide) ?_
      refine gj_aload_n 24 dX7_where_23 rfl rfl ?_
      refine gj_getfr 27 dX7_where_24 rfl fl_7_38 rfl rfl ?_
      refine gj_iload_n 28 dX7_where_27 rfl rfl ?_
      refine gj_fS 31 dX7_where_28 rfl ok_7_panOf ml_7_135 is_7_panOf (As := [gI _]) rfl rfl (Nat.le_of_ble_eq_true rfl) ⟨Nat.le_of_ble_eq_true rfl, Nat.le_of_ble_eq_true rfl⟩ (Nat.le_of_ble_eq_true rfl) ⟨rfl, rfl⟩ ⟨Nat.zero_le _, Nat.zero_le _⟩ (s7_panOf hl) ?_
      refine gj_iload_n 32 dX7_where_31 rfl rfl ?_
      refine gj_fV 35 dX7_where_32 rfl ok_4_panAt ml_7_138 iv_4_panAt (As := [gI _, gI _]) rfl rfl rfl rfl (Nat.le_of_ble_eq_true rfl) ⟨Nat.le_of_ble_eq_true rfl, Nat.le_of_ble_eq_true rfl⟩ (Nat.le_of_ble_eq_true rfl) ⟨rfl, rfl⟩ ⟨Nat.zero_le _, Nat.zero_le _⟩ (s4_panAt (x_panOf_c hL (by omega)) (by omega)) ?_
      refine gj_iadd 36 dX7_where_35 rfl ?_
      refine gj_iret dX7_where_36 rfl ⟨Nat.zero_le _, Nat.zero_le _⟩ ?_
      exact ⟨rfl, by (unfold x_where; (repeat (first | rw [if_pos (by omega)] | rw [if_neg (by omega)])); try rfl), rfl⟩
    · refine gj_bipush 19 dX7_where_17 rfl (by decide) ?_
      refine gj_iret dX7_where_19 rfl ⟨Nat.zero_le _, Nat.zero_le _⟩ ?_
      exact ⟨rfl, by (unfold x_where; (repeat (first | rw [if_pos (by omega)] | rw [if_neg (by omega)])); try rfl), rfl⟩
  · refine gj_iconst 9 dX7_where_8 rfl ?_
    refine gj_iret dX7_where_9 rfl ⟨Nat.zero_le _, Nat.zero_le _⟩ ?_
    exact ⟨rfl, by (unfold x_where; (repeat (first | rw [if_pos (by omega)] | rw [if_neg (by omega)])); try rfl), rfl⟩

set_option maxRecDepth 100000 in
set_option maxHeartbeats 1000000 in
theorem s7_redraw {xt : Nat × (Nat → Int)} {M : gj_M} (hI : c_I M) (ha : 0 ≤ M 35 0 ∧ M 35 0 ≤ 14) {d x w : Int} (hd : gj_in d) (hx : gj_in x) (hw : gj_in w) : gj_F xt Y7_redraw gS [gR 0, gI d, gI x, gI w] M (some (gI (x_redraw M d x w))) (m_redraw M d x w) := by
  show gj_G _ Y7_redraw gS 0 0 0 [_, _, _, _, _, _] [] M _
  have hL := hI.1
  have hD := hI.2.1
  have hsw := hI.2.2.1
  refine gj_aload_n 1 dX7_redraw_0 rfl rfl ?_
  refine gj_iload_n 2 dX7_redraw_1 rfl rfl ?_
  refine gj_fV 5 dX7_redraw_2 rfl ok_7_isDrawing ml_7_100 iv_7_isDrawing (As := [gI _]) rfl rfl rfl rfl (Nat.le_of_ble_eq_true rfl) ⟨Nat.le_of_ble_eq_true rfl, Nat.le_of_ble_eq_true rfl⟩ (Nat.le_of_ble_eq_true rfl) ⟨rfl, rfl⟩ ⟨Nat.zero_le _, Nat.zero_le _⟩ (s7_isD hD hd) ?_
  have hc := x_isD_c M d
  refine gj_if_ne 10 8 dX7_redraw_5 (by decide) rfl (by omega) (fun c_5 => ?_) (fun c_5 => ?_)
  · refine gj_iload_n 11 dX7_redraw_10 rfl rfl ?_
    refine gj_if_lt 30 14 dX7_redraw_11 (by decide) rfl (by omega) (fun c_11 => ?_) (fun c_11 => ?_)
    · refine gj_bipush 32 dX7_redraw_30 rfl (by decide) ?_
      refine gj_iret dX7_redraw_32 rfl ⟨Nat.zero_le _, Nat.zero_le _⟩ ?_
      exact ⟨rfl, by (unfold x_redraw; (repeat (first | rw [if_pos (by omega)] | rw [if_neg (by omega)])); try rfl), by (unfold m_redraw; (repeat (first | rw [if_pos (by omega)] | rw [if_neg (by omega)])); try rfl)⟩
    · refine gj_iload_n 15 dX7_redraw_14 rfl rfl ?_
      refine gj_bipush 17 dX7_redraw_15 rfl (by decide) ?_
      refine gj_icmp_gt 30 20 dX7_redraw_17 (by decide) rfl (by omega) (by omega) (fun c_17 => ?_) (fun c_17 => ?_)
      · refine gj_bipush 32 dX7_redraw_30 rfl (by decide) ?_
        refine gj_iret dX7_redraw_32 rfl ⟨Nat.zero_le _, Nat.zero_le _⟩ ?_
        exact ⟨rfl, by (unfold x_redraw; (repeat (first | rw [if_pos (by omega)] | rw [if_neg (by omega)])); try rfl), by (unfold m_redraw; (repeat (first | rw [if_pos (by omega)] | rw [if_neg (by omega)])); try rfl)⟩
      · refine gj_iload_n 21 dX7_redraw_20 rfl rfl ?_
        refine gj_iconst 22 dX7_redraw_21 rfl ?_
        refine gj_icmp_lt 30 25 dX7_redraw_22 (by decide) rfl (by omega) (by omega) (fun c_22 => ?_) (fun c_22 => ?_)
        · refine gj_bipush 32 dX7_redraw_30 rfl (by decide) ?_
          refine gj_iret dX7_redraw_32 rfl ⟨Nat.zero_le _, Nat.zero_le _⟩ ?_
          exact ⟨rfl, by (unfold x_redraw; (repeat (first | rw [if_pos (by omega)] | rw [if_neg (by omega)])); try rfl), by (unfold m_redraw; (repeat (first | rw [if_pos (by omega)] | rw [if_neg (by omega)])); try rfl)⟩
        · refine gj_iload_n 26 dX7_redraw_25 rfl rfl ?_
          refine gj_iconst 27 dX7_redraw_26 rfl ?_
          refine gj_icmp_le 33 30 dX7_redraw_27 (by decide) rfl (by omega) (by omega) (fun c_27 => ?_) (fun c_27 => ?_)
          · refine gj_aload_n 34 dX7_redraw_33 rfl rfl ?_
            refine gj_getfr 37 dX7_redraw_34 rfl fl_7_38 rfl rfl ?_
            refine gj_getfr 40 dX7_redraw_37 rfl fl_7_104 rfl rfl ?_
            refine gj_iload_n 41 dX7_redraw_40 rfl rfl ?_
            refine gj_iald 42 dX7_redraw_41 rfl rfl (by omega) (by omega) (fun r_41 => ?_)
            refine gj_istore (lv' := [_, _, _, _, _, _]) 44 dX7_redraw_42 rfl (by decide) rfl ?_
            refine gj_aload_n 45 dX7_redraw_44 rfl rfl ?_
            refine gj_getfr 48 dX7_redraw_45 rfl fl_7_38 rfl rfl ?_
            refine gj_getfr 51 dX7_redraw_48 rfl fl_7_107 rfl rfl ?_
            refine gj_iload_n 52 dX7_redraw_51 rfl rfl ?_
            refine gj_iald 53 dX7_redraw_52 rfl rfl (by omega) (by omega) (fun r_52 => ?_)
            refine gj_istore (lv' := [_, _, _, _, _, _]) 55 dX7_redraw_53 rfl (by decide) rfl ?_
            refine gj_aload_n 56 dX7_redraw_55 rfl rfl ?_
            refine gj_getfr 59 dX7_redraw_56 rfl fl_7_44 rfl rfl ?_
            refine gj_iconst 60 dX7_redraw_59 rfl ?_
            refine gj_iload_n 61 dX7_redraw_60 rfl rfl ?_
            refine gj_iload 63 dX7_redraw_61 rfl rfl ?_
            refine gj_iload 65 dX7_redraw_63 rfl rfl ?_
            refine gj_iconst 66 dX7_redraw_65 rfl ?_
            refine gj_vV 69 dX7_redraw_66 rfl ok_0_add ml_7_142 iv_0_add (As := [gI _, gI _, gI _, gI _, gI _]) rfl rfl rfl rfl (Nat.le_of_ble_eq_true rfl) ⟨Nat.le_of_ble_eq_true rfl, Nat.le_of_ble_eq_true rfl⟩ (Nat.le_of_ble_eq_true rfl) ⟨rfl, rfl⟩ ⟨Nat.zero_le _, Nat.zero_le _⟩ (s0_add (by omega) hd r_41 r_52 (by omega) ha) ?_
            refine gj_aload_n 70 dX7_redraw_69 rfl rfl ?_
            refine gj_getfr 73 dX7_redraw_70 rfl fl_7_38 rfl rfl ?_
            refine gj_getfr 76 dX7_redraw_73 rfl fl_7_104 rfl rfl ?_
            refine gj_iload_n 77 dX7_redraw_76 rfl rfl ?_
            refine gj_iload_n 78 dX7_redraw_77 rfl rfl ?_
            refine gj_iast 79 dX7_redraw_78 rfl rfl (by omega) (by omega) (by omega) ?_
            refine gj_aload_n 80 dX7_redraw_79 rfl rfl ?_
            refine gj_getfr 83 dX7_redraw_80 rfl fl_7_38 rfl rfl ?_
            refine gj_getfr 86 dX7_redraw_83 rfl fl_7_107 rfl rfl ?_
            refine gj_iload_n 87 dX7_redraw_86 rfl rfl ?_
            refine gj_iload_n 88 dX7_redraw_87 rfl rfl ?_
            refine gj_iast 89 dX7_redraw_88 rfl rfl (by omega) (by omega) (by omega) ?_
            refine gj_bipush 91 dX7_redraw_89 rfl (by decide) ?_
            refine gj_iload 93 dX7_redraw_91 rfl rfl ?_
            refine gj_imul 94 dX7_redraw_93 rfl ?_
            refine gj_iload 96 dX7_redraw_94 rfl rfl ?_
            refine gj_iadd 97 dX7_redraw_96 rfl ?_
            refine gj_iret dX7_redraw_97 rfl ⟨Nat.zero_le _, Nat.zero_le _⟩ ?_
            exact ⟨rfl, by (unfold x_redraw; (repeat (first | rw [if_pos (by omega)] | rw [if_neg (by omega)])); try rfl), by (unfold m_redraw; (repeat (first | rw [if_pos (by omega)] | rw [if_neg (by omega)])); try rfl)⟩
          · refine gj_bipush 32 dX7_redraw_30 rfl (by decide) ?_
            refine gj_iret dX7_redraw_32 rfl ⟨Nat.zero_le _, Nat.zero_le _⟩ ?_
            exact ⟨rfl, by (unfold x_redraw; (repeat (first | rw [if_pos (by omega)] | rw [if_neg (by omega)])); try rfl), by (unfold m_redraw; (repeat (first | rw [if_pos (by omega)] | rw [if_neg (by omega)])); try rfl)⟩
  · refine gj_iconst 9 dX7_redraw_8 rfl ?_
    refine gj_iret dX7_redraw_9 rfl ⟨Nat.zero_le _, Nat.zero_le _⟩ ?_
    exact ⟨rfl, by (unfold x_redraw; (repeat (first | rw [if_pos (by omega)] | rw [if_neg (by omega)])); try rfl), by (unfold m_redraw; (repeat (first | rw [if_pos (by omega)] | rw [if_neg (by omega)])); try rfl)⟩

set_option maxRecDepth 100000 in
set_option maxHeartbeats 1000000 in
theorem s7_delay {xt : Nat × (Nat → Int)} {M : gj_M} (hI : c_I M) (ha : 0 ≤ M 35 0 ∧ M 35 0 ≤ 14) {l v : Int} (hl : gj_in l) (hv : gj_in v) : gj_F xt Y7_delay gS [gR 0, gI l, gI v] M (some (gI (x_delay M l v))) (m_delay M l v) := by
  show gj_G _ Y7_delay gS 0 0 0 [_, _, _, _] [] M _
  have hL := hI.1
  have hD := hI.2.1
  have hsw := hI.2.2.1
  refine gj_aload_n 1 dX7_delay_0 rfl rfl ?_
  refine gj_iload_n 2 dX7_delay_1 rfl rfl ?_
  refine gj_fV 5 dX7_delay_2 rfl ok_7_isLevel ml_7_114 iv_7_isLevel (As := [gI _]) rfl rfl rfl rfl (Nat.le_of_ble_eq_true rfl) ⟨Nat.le_of_ble_eq_true rfl, Nat.le_of_ble_eq_true rfl⟩ (Nat.le_of_ble_eq_true rfl) ⟨rfl, rfl⟩ ⟨Nat.zero_le _, Nat.zero_le _⟩ (s7_isL hL hl) ?_
  have hc := x_isL_c M l
  refine gj_if_ne 10 8 dX7_delay_5 (by decide) rfl (by omega) (fun c_5 => ?_) (fun c_5 => ?_)
  · refine gj_iload_n 11 dX7_delay_10 rfl rfl ?_
    refine gj_if_lt 20 14 dX7_delay_11 (by decide) rfl (by omega) (fun c_11 => ?_) (fun c_11 => ?_)
    · refine gj_bipush 22 dX7_delay_20 rfl (by decide) ?_
      refine gj_iret dX7_delay_22 rfl ⟨Nat.zero_le _, Nat.zero_le _⟩ ?_
      exact ⟨rfl, by (unfold x_delay; (repeat (first | rw [if_pos (by omega)] | rw [if_neg (by omega)])); try rfl), by (unfold m_delay; (repeat (first | rw [if_pos (by omega)] | rw [if_neg (by omega)])); try rfl)⟩
    · refine gj_iload_n 15 dX7_delay_14 rfl rfl ?_
      refine gj_bipush 17 dX7_delay_15 rfl (by decide) ?_
      refine gj_icmp_le 23 20 dX7_delay_17 (by decide) rfl (by omega) (by omega) (fun c_17 => ?_) (fun c_17 => ?_)
      · refine gj_aload_n 24 dX7_delay_23 rfl rfl ?_
        refine gj_getfr 27 dX7_delay_24 rfl fl_7_38 rfl rfl ?_
        refine gj_getfr 30 dX7_delay_27 rfl fl_7_120 rfl rfl ?_
        refine gj_iload_n 31 dX7_delay_30 rfl rfl ?_
        refine gj_iald 32 dX7_delay_31 rfl rfl (by omega) (by omega) (fun r_31 => ?_)
        refine gj_istore_n (lv' := [_, _, _, _]) 33 dX7_delay_32 rfl (by decide) rfl ?_
        refine gj_aload_n 34 dX7_delay_33 rfl rfl ?_
        refine gj_getfr 37 dX7_delay_34 rfl fl_7_44 rfl rfl ?_
        refine gj_iconst 38 dX7_delay_37 rfl ?_
        refine gj_iload_n 39 dX7_delay_38 rfl rfl ?_
        refine gj_iload_n 40 dX7_delay_39 rfl rfl ?_
        refine gj_iconst 41 dX7_delay_40 rfl ?_
        refine gj_iconst 42 dX7_delay_41 rfl ?_
        refine gj_vV 45 dX7_delay_42 rfl ok_0_add ml_7_142 iv_0_add (As := [gI _, gI _, gI _, gI _, gI _]) rfl rfl rfl rfl (Nat.le_of_ble_eq_true rfl) ⟨Nat.le_of_ble_eq_true rfl, Nat.le_of_ble_eq_true rfl⟩ (Nat.le_of_ble_eq_true rfl) ⟨rfl, rfl⟩ ⟨Nat.zero_le _, Nat.zero_le _⟩ (s0_add (by omega) hl r_31 (by omega) (by omega) ha) ?_
        refine gj_aload_n 46 dX7_delay_45 rfl rfl ?_
        refine gj_getfr 49 dX7_delay_46 rfl fl_7_38 rfl rfl ?_
        refine gj_getfr 52 dX7_delay_49 rfl fl_7_120 rfl rfl ?_
        refine gj_iload_n 53 dX7_delay_52 rfl rfl ?_
        refine gj_iload_n 54 dX7_delay_53 rfl rfl ?_
        refine gj_iast 55 dX7_delay_54 rfl rfl (by omega) (by omega) (by omega) ?_
        refine gj_iload_n 56 dX7_delay_55 rfl rfl ?_
        refine gj_iret dX7_delay_56 rfl ⟨Nat.zero_le _, Nat.zero_le _⟩ ?_
        exact ⟨rfl, by (unfold x_delay; (repeat (first | rw [if_pos (by omega)] | rw [if_neg (by omega)])); try rfl), by (unfold m_delay; (repeat (first | rw [if_pos (by omega)] | rw [if_neg (by omega)])); try rfl)⟩
      · refine gj_bipush 22 dX7_delay_20 rfl (by decide) ?_
        refine gj_iret dX7_delay_22 rfl ⟨Nat.zero_le _, Nat.zero_le _⟩ ?_
        exact ⟨rfl, by (unfold x_delay; (repeat (first | rw [if_pos (by omega)] | rw [if_neg (by omega)])); try rfl), by (unfold m_delay; (repeat (first | rw [if_pos (by omega)] | rw [if_neg (by omega)])); try rfl)⟩
  · refine gj_iconst 9 dX7_delay_8 rfl ?_
    refine gj_iret dX7_delay_9 rfl ⟨Nat.zero_le _, Nat.zero_le _⟩ ?_
    exact ⟨rfl, by (unfold x_delay; (repeat (first | rw [if_pos (by omega)] | rw [if_neg (by omega)])); try rfl), by (unfold m_delay; (repeat (first | rw [if_pos (by omega)] | rw [if_neg (by omega)])); try rfl)⟩

set_option maxRecDepth 100000 in
set_option maxHeartbeats 1000000 in
theorem s7_pan {xt : Nat × (Nat → Int)} {M : gj_M} (hI : c_I M) (ha : 0 ≤ M 35 0 ∧ M 35 0 ≤ 14) {l s b e : Int} (hl : gj_in l) (hs : gj_in s) (hb : gj_in b) (he : gj_in e) : gj_F xt Y7_pan gS [gR 0, gI l, gI s, gI b, gI e] M (some (gI (x_pan M l s b e))) (m_pan M l s b e) := by
  show gj_G _ Y7_pan gS 0 0 0 [_, _, _, _, _, _] [] M _
  have hL := hI.1
  have hD := hI.2.1
  have hsw := hI.2.2.1
  refine gj_aload_n 1 dX7_pan_0 rfl rfl ?_
  refine gj_iload_n 2 dX7_pan_1 rfl rfl ?_
  refine gj_fV 5 dX7_pan_2 rfl ok_7_hasPan ml_7_129 iv_7_hasPan (As := [gI _]) rfl rfl rfl rfl (Nat.le_of_ble_eq_true rfl) ⟨Nat.le_of_ble_eq_true rfl, Nat.le_of_ble_eq_true rfl⟩ (Nat.le_of_ble_eq_true rfl) ⟨rfl, rfl⟩ ⟨Nat.zero_le _, Nat.zero_le _⟩ (s7_hasP hL hl) ?_
  have hc := x_hasP_c M l
  refine gj_if_ne 10 8 dX7_pan_5 (by decide) rfl (by omega) (fun c_5 => ?_) (fun c_5 => ?_)
  · refine gj_iload_n 11 dX7_pan_10 rfl rfl ?_
    refine gj_bipush 13 dX7_pan_11 rfl (by decide) ?_
    refine gj_icmp_lt 46 16 dX7_pan_13 (by decide) rfl (by omega) (by omega) (fun c_13 => ?_) (fun c_13 => ?_)
    · refine gj_bipush 48 dX7_pan_46 rfl (by decide) ?_
      refine gj_iret dX7_pan_48 rfl ⟨Nat.zero_le _, Nat.zero_le _⟩ ?_
      exact ⟨rfl, by (unfold x_pan; (repeat (first | rw [if_pos (by omega)] | rw [if_neg (by omega)])); try rfl), by (unfold m_pan; (repeat (first | rw [if_pos (by omega)] | rw [if_neg (by omega)])); try rfl)⟩
    · refine gj_iload_n 17 dX7_pan_16 rfl rfl ?_
      refine gj_bipush 19 dX7_pan_17 rfl (by decide) ?_
      refine gj_icmp_gt 46 22 dX7_pan_19 (by decide) rfl (by omega) (by omega) (fun c_19 => ?_) (fun c_19 => ?_)
      · refine gj_bipush 48 dX7_pan_46 rfl (by decide) ?_
        refine gj_iret dX7_pan_48 rfl ⟨Nat.zero_le _, Nat.zero_le _⟩ ?_
        exact ⟨rfl, by (unfold x_pan; (repeat (first | rw [if_pos (by omega)] | rw [if_neg (by omega)])); try rfl), by (unfold m_pan; (repeat (first | rw [if_pos (by omega)] | rw [if_neg (by omega)])); try rfl)⟩
      · refine gj_iload_n 23 dX7_pan_22 rfl rfl ?_
        refine gj_bipush 25 dX7_pan_23 rfl (by decide) ?_
        refine gj_icmp_lt 46 28 dX7_pan_25 (by decide) rfl (by omega) (by omega) (fun c_25 => ?_) (fun c_25 => ?_)
        · refine gj_bipush 48 dX7_pan_46 rfl (by decide) ?_
          refine gj_iret dX7_pan_48 rfl ⟨Nat.zero_le _, Nat.zero_le _⟩ ?_
          exact ⟨rfl, by (unfold x_pan; (repeat (first | rw [if_pos (by omega)] | rw [if_neg (by omega)])); try rfl), by (unfold m_pan; (repeat (first | rw [if_pos (by omega)] | rw [if_neg (by omega)])); try rfl)⟩
        · refine gj_iload_n 29 dX7_pan_28 rfl rfl ?_
          refine gj_iconst 30 dX7_pan_29 rfl ?_
          refine gj_icmp_gt 46 33 dX7_pan_30 (by decide) rfl (by omega) (by omega) (fun c_30 => ?_) (fun c_30 => ?_)
          · refine gj_bipush 48 dX7_pan_46 rfl (by decide) ?_
            refine gj_iret dX7_pan_48 rfl ⟨Nat.zero_le _, Nat.zero_le _⟩ ?_
            exact ⟨rfl, by (unfold x_pan; (repeat (first | rw [if_pos (by omega)] | rw [if_neg (by omega)])); try rfl), by (unfold m_pan; (repeat (first | rw [if_pos (by omega)] | rw [if_neg (by omega)])); try rfl)⟩
          · refine gj_iload 35 dX7_pan_33 rfl rfl ?_
            refine gj_iconst 36 dX7_pan_35 rfl ?_
            refine gj_icmp_lt 46 39 dX7_pan_36 (by decide) rfl (by omega) (by omega) (fun c_36 => ?_) (fun c_36 => ?_)
            · refine gj_bipush 48 dX7_pan_46 rfl (by decide) ?_
              refine gj_iret dX7_pan_48 rfl ⟨Nat.zero_le _, Nat.zero_le _⟩ ?_
              exact ⟨rfl, by (unfold x_pan; (repeat (first | rw [if_pos (by omega)] | rw [if_neg (by omega)])); try rfl), by (unfold m_pan; (repeat (first | rw [if_pos (by omega)] | rw [if_neg (by omega)])); try rfl)⟩
            · refine gj_iload 41 dX7_pan_39 rfl rfl ?_
              refine gj_bipush 43 dX7_pan_41 rfl (by decide) ?_
              refine gj_icmp_le 49 46 dX7_pan_43 (by decide) rfl (by omega) (by omega) (fun c_43 => ?_) (fun c_43 => ?_)
              · refine gj_iload_n 50 dX7_pan_49 rfl rfl ?_
                refine gj_fS 53 dX7_pan_50 rfl ok_7_panOf ml_7_135 is_7_panOf (As := [gI _]) rfl rfl (Nat.le_of_ble_eq_true rfl) ⟨Nat.le_of_ble_eq_true rfl, Nat.le_of_ble_eq_true rfl⟩ (Nat.le_of_ble_eq_true rfl) ⟨rfl, rfl⟩ ⟨Nat.zero_le _, Nat.zero_le _⟩ (s7_panOf hl) ?_
                have hp := x_panOf_c hL (show l = 9 ∨ (0 ≤ l ∧ l < M 10 1) by omega)
                refine gj_istore (lv' := [_, _, _, _, _, _]) 55 dX7_pan_53 rfl (by decide) rfl ?_
                refine gj_aload_n 56 dX7_pan_55 rfl rfl ?_
                refine gj_getfr 59 dX7_pan_56 rfl fl_7_44 rfl rfl ?_
                refine gj_iconst 60 dX7_pan_59 rfl ?_
                refine gj_iload 62 dX7_pan_60 rfl rfl ?_
                refine gj_aload_n 63 dX7_pan_62 rfl rfl ?_
                refine gj_getfr 66 dX7_pan_63 rfl fl_7_38 rfl rfl ?_
                refine gj_getfr 69 dX7_pan_66 rfl fl_7_146 rfl rfl ?_
                refine gj_iload 71 dX7_pan_69 rfl rfl ?_
                refine gj_iald 72 dX7_pan_71 rfl rfl (by omega) (by omega) (fun r_71 => ?_)
                refine gj_aload_n 73 dX7_pan_72 rfl rfl ?_
                refine gj_getfr 76 dX7_pan_73 rfl fl_7_38 rfl rfl ?_
                refine gj_getfr 79 dX7_pan_76 rfl fl_7_149 rfl rfl ?_
                refine gj_iload 81 dX7_pan_79 rfl rfl ?_
                refine gj_iald 82 dX7_pan_81 rfl rfl (by omega) (by omega) (fun r_81 => ?_)
                refine gj_aload_n 83 dX7_pan_82 rfl rfl ?_
                refine gj_getfr 86 dX7_pan_83 rfl fl_7_38 rfl rfl ?_
                refine gj_getfr 89 dX7_pan_86 rfl fl_7_152 rfl rfl ?_
                refine gj_iload 91 dX7_pan_89 rfl rfl ?_
                refine gj_iald 92 dX7_pan_91 rfl rfl (by omega) (by omega) (fun r_91 => ?_)
                refine gj_vV 95 dX7_pan_92 rfl ok_0_add ml_7_142 iv_0_add (As := [gI _, gI _, gI _, gI _, gI _]) rfl rfl rfl rfl (Nat.le_of_ble_eq_true rfl) ⟨Nat.le_of_ble_eq_true rfl, Nat.le_of_ble_eq_true rfl⟩ (Nat.le_of_ble_eq_true rfl) ⟨rfl, rfl⟩ ⟨Nat.zero_le _, Nat.zero_le _⟩ (s0_add (by omega) (by omega) r_71 r_81 r_91 ha) ?_
                refine gj_aload_n 96 dX7_pan_95 rfl rfl ?_
                refine gj_getfr 99 dX7_pan_96 rfl fl_7_38 rfl rfl ?_
                refine gj_iload 101 dX7_pan_99 rfl rfl ?_
                refine gj_iload_n 102 dX7_pan_101 rfl rfl ?_
                refine gj_iload_n 103 dX7_pan_102 rfl rfl ?_
                refine gj_iload 105 dX7_pan_103 rfl rfl ?_
                refine gj_vV 108 dX7_pan_105 rfl ok_4_tellPan ml_7_155 iv_4_tellPan (As := [gI _, gI _, gI _, gI _]) rfl rfl rfl rfl (Nat.le_of_ble_eq_true rfl) ⟨Nat.le_of_ble_eq_true rfl, Nat.le_of_ble_eq_true rfl⟩ (Nat.le_of_ble_eq_true rfl) ⟨rfl, rfl⟩ ⟨Nat.zero_le _, Nat.zero_le _⟩ (s4_tellPan hp hs hb he) ?_
                refine gj_sipush 111 dX7_pan_108 rfl (by decide) ?_
                refine gj_aload_n 112 dX7_pan_111 rfl rfl ?_
                refine gj_getfr 115 dX7_pan_112 rfl fl_7_38 rfl rfl ?_
                refine gj_iload 117 dX7_pan_115 rfl rfl ?_
                refine gj_bipush 119 dX7_pan_117 rfl (by decide) ?_
                refine gj_fV 122 dX7_pan_119 rfl ok_4_panAt ml_7_138 iv_4_panAt (As := [gI _, gI _]) rfl rfl rfl rfl (Nat.le_of_ble_eq_true rfl) ⟨Nat.le_of_ble_eq_true rfl, Nat.le_of_ble_eq_true rfl⟩ (Nat.le_of_ble_eq_true rfl) ⟨rfl, rfl⟩ ⟨Nat.zero_le _, Nat.zero_le _⟩ (s4_panAt hp (by omega)) ?_
                refine gj_iadd 123 dX7_pan_122 rfl ?_
                refine gj_iret dX7_pan_123 rfl ⟨Nat.zero_le _, Nat.zero_le _⟩ ?_
                rw [p_pan_t _ _ _ _ _ (by omega)]
                exact ⟨rfl, by (unfold x_pan; (repeat (first | rw [if_pos (by omega)] | rw [if_neg (by omega)])); try rfl), by (unfold m_pan; (repeat (first | rw [if_pos (by omega)] | rw [if_neg (by omega)])); try rfl)⟩
              · refine gj_bipush 48 dX7_pan_46 rfl (by decide) ?_
                refine gj_iret dX7_pan_48 rfl ⟨Nat.zero_le _, Nat.zero_le _⟩ ?_
                exact ⟨rfl, by (unfold x_pan; (repeat (first | rw [if_pos (by omega)] | rw [if_neg (by omega)])); try rfl), by (unfold m_pan; (repeat (first | rw [if_pos (by omega)] | rw [if_neg (by omega)])); try rfl)⟩
  · refine gj_iconst 9 dX7_pan_8 rfl ?_
    refine gj_iret dX7_pan_9 rfl ⟨Nat.zero_le _, Nat.zero_le _⟩ ?_
    exact ⟨rfl, by (unfold x_pan; (repeat (first | rw [if_pos (by omega)] | rw [if_neg (by omega)])); try rfl), by (unfold m_pan; (repeat (first | rw [if_pos (by omega)] | rw [if_neg (by omega)])); try rfl)⟩

theorem p_io_01 (L o : Int) : p_io L o = 0 ∨ p_io L o = 1 := by unfold p_io; split <;> simp
theorem k_ad_o {M : gj_M} {kd w a b c i : Int} {h : Nat} (h1 : h ≠ 35) (h2 : h ≠ 36) : k_ad M kd w a b c h i = M h i := by
  unfold k_ad
  split
  · unfold k_pt
    rw [gj_u_o h1, gj_u_o h2, gj_u_o h2, gj_u_o h2, gj_u_o h2, gj_u_o h2]
  · unfold k_pt
    rw [gj_u_o h1, gj_u_o h2, gj_u_o h2, gj_u_o h2, gj_u_o h2, gj_u_o h2]
    unfold k_fg
    rw [gj_u_o h1]
    unfold gj_cp
    rw [if_neg (fun q => h2 q.1)]

set_option maxRecDepth 100000 in
set_option maxHeartbeats 1000000 in
theorem s7_swap {xt : Nat × (Nat → Int)} {M : gj_M} (hI : c_I M) (ha : 0 ≤ M 35 0 ∧ M 35 0 ≤ 14) {f od : Int} (hf : gj_in f) (ho : gj_in od) : gj_F xt Y7_swap gS [gR 0, gI f, gI od] M (some (gI (x_swap M f od))) (m_swap M f od) := by
  show gj_G _ Y7_swap gS 0 0 0 [_, _, _] [] M _
  have hL := hI.1
  have hD := hI.2.1
  have hsw := hI.2.2.1
  refine gj_iload_n 1 dX7_swap_0 rfl rfl ?_
  refine gj_fS 4 dX7_swap_1 rfl ok_7_isFrame ml_7_132 is_7_isFrame (As := [gI _]) rfl rfl (Nat.le_of_ble_eq_true rfl) ⟨Nat.le_of_ble_eq_true rfl, Nat.le_of_ble_eq_true rfl⟩ (Nat.le_of_ble_eq_true rfl) ⟨rfl, rfl⟩ ⟨Nat.zero_le _, Nat.zero_le _⟩ (s7_isF hf) ?_
  have hc2 := x_isF_c f
  refine gj_if_eq 18 7 dX7_swap_4 (by decide) rfl (by omega) (fun c_4 => ?_) (fun c_4 => ?_)
  · refine gj_bipush 20 dX7_swap_18 rfl (by decide) ?_
    refine gj_iret dX7_swap_20 rfl ⟨Nat.zero_le _, Nat.zero_le _⟩ ?_
    exact ⟨rfl, by (unfold x_swap; (repeat (first | rw [if_pos (by omega)] | rw [if_neg (by omega)])); try rfl), by (unfold m_swap; (repeat (first | rw [if_pos (by omega)] | rw [if_neg (by omega)])); try rfl)⟩
  · refine gj_aload_n 8 dX7_swap_7 rfl rfl ?_
    refine gj_getfr 11 dX7_swap_8 rfl fl_7_23 rfl rfl ?_
    refine gj_iload_n 12 dX7_swap_11 rfl rfl ?_
    refine gj_fV 15 dX7_swap_12 rfl ok_3_isOrder ml_7_159 iv_3_isOrder (As := [gI _]) rfl rfl rfl rfl (Nat.le_of_ble_eq_true rfl) ⟨Nat.le_of_ble_eq_true rfl, Nat.le_of_ble_eq_true rfl⟩ (Nat.le_of_ble_eq_true rfl) ⟨rfl, rfl⟩ ⟨Nat.zero_le _, Nat.zero_le _⟩ (s3_isOrder hL ho) ?_
    have hc := p_io_01 (M 10 1) od
    refine gj_if_ne 21 18 dX7_swap_15 (by decide) rfl (by omega) (fun c_15 => ?_) (fun c_15 => ?_)
    · refine gj_aload_n 22 dX7_swap_21 rfl rfl ?_
      refine gj_getfr 25 dX7_swap_22 rfl fl_7_38 rfl rfl ?_
      refine gj_getfi 28 dX7_swap_25 rfl fl_7_162 rfl rfl (fun r_25 => ?_)
      refine gj_iconst 29 dX7_swap_28 rfl ?_
      refine gj_icmp_lt 35 32 dX7_swap_29 (by decide) rfl (by omega) (by omega) (fun c_29 => ?_) (fun c_29 => ?_)
      · refine gj_aload_n 36 dX7_swap_35 rfl rfl ?_
        refine gj_getfr 39 dX7_swap_36 rfl fl_7_44 rfl rfl ?_
        refine gj_iconst 40 dX7_swap_39 rfl ?_
        refine gj_iconst 41 dX7_swap_40 rfl ?_
        refine gj_iconst 42 dX7_swap_41 rfl ?_
        refine gj_iconst 43 dX7_swap_42 rfl ?_
        refine gj_iconst 44 dX7_swap_43 rfl ?_
        refine gj_vV 47 dX7_swap_44 rfl ok_0_add ml_7_142 iv_0_add (As := [gI _, gI _, gI _, gI _, gI _]) rfl rfl rfl rfl (Nat.le_of_ble_eq_true rfl) ⟨Nat.le_of_ble_eq_true rfl, Nat.le_of_ble_eq_true rfl⟩ (Nat.le_of_ble_eq_true rfl) ⟨rfl, rfl⟩ ⟨Nat.zero_le _, Nat.zero_le _⟩ (s0_add (by omega) (by omega) (by omega) (by omega) (by omega) ha) ?_
        refine gj_aload_n 48 dX7_swap_47 rfl rfl ?_
        refine gj_getfr 51 dX7_swap_48 rfl fl_7_38 rfl rfl ?_
        refine gj_iload_n 52 dX7_swap_51 rfl rfl ?_
        refine gj_iload_n 53 dX7_swap_52 rfl rfl ?_
        refine gj_vV 56 dX7_swap_53 rfl ok_4_addSwitch ml_7_165 iv_4_addSwitch (As := [gI _, gI _]) rfl rfl rfl rfl (Nat.le_of_ble_eq_true rfl) ⟨Nat.le_of_ble_eq_true rfl, Nat.le_of_ble_eq_true rfl⟩ (Nat.le_of_ble_eq_true rfl) ⟨rfl, rfl⟩ ⟨Nat.zero_le _, Nat.zero_le _⟩ (s4_addSwitch (by rw [k_ad_o (by decide) (by decide)]; omega) hf ho) ?_
        refine gj_aload_n 57 dX7_swap_56 rfl rfl ?_
        refine gj_getfr 60 dX7_swap_57 rfl fl_7_38 rfl rfl ?_
        refine gj_getfiE (M 15 6 + 1) 63 dX7_swap_60 rfl fl_7_162 rfl rfl (by rw [gj_u_s, k_ad_o (by decide) (by decide)]) (fun r_60 => ?_)
        refine gj_iret dX7_swap_63 rfl ⟨Nat.zero_le _, Nat.zero_le _⟩ ?_
        exact ⟨rfl, by (unfold x_swap; (repeat (first | rw [if_pos (by omega)] | rw [if_neg (by omega)])); try rfl), by (unfold m_swap; (repeat (first | rw [if_pos (by omega)] | rw [if_neg (by omega)])); try rfl)⟩
      · refine gj_bipush 34 dX7_swap_32 rfl (by decide) ?_
        refine gj_iret dX7_swap_34 rfl ⟨Nat.zero_le _, Nat.zero_le _⟩ ?_
        exact ⟨rfl, by (unfold x_swap; (repeat (first | rw [if_pos (by omega)] | rw [if_neg (by omega)])); try rfl), by (unfold m_swap; (repeat (first | rw [if_pos (by omega)] | rw [if_neg (by omega)])); try rfl)⟩
    · refine gj_bipush 20 dX7_swap_18 rfl (by decide) ?_
      refine gj_iret dX7_swap_20 rfl ⟨Nat.zero_le _, Nat.zero_le _⟩ ?_
      exact ⟨rfl, by (unfold x_swap; (repeat (first | rw [if_pos (by omega)] | rw [if_neg (by omega)])); try rfl), by (unfold m_swap; (repeat (first | rw [if_pos (by omega)] | rw [if_neg (by omega)])); try rfl)⟩

set_option maxRecDepth 100000 in
set_option maxHeartbeats 1000000 in
theorem s7_back {xt : Nat × (Nat → Int)} {M : gj_M} (hI : c_I M) (ha : 0 ≤ M 35 0 ∧ M 35 0 ≤ 14)  : gj_F xt Y7_back gS [gR 0] M (some (gI (x_back M))) (m_back M) := by
  show gj_G _ Y7_back gS 0 0 0 [_, _] [] M _
  have hL := hI.1
  have hD := hI.2.1
  have hsw := hI.2.2.1
  refine gj_aload_n 1 dX7_back_0 rfl rfl ?_
  refine gj_getfr 4 dX7_back_1 rfl fl_7_38 rfl rfl ?_
  refine gj_getfi 7 dX7_back_4 rfl fl_7_162 rfl rfl (fun r_4 => ?_)
  refine gj_iconst 8 dX7_back_7 rfl ?_
  refine gj_isub 9 dX7_back_8 rfl ?_
  refine gj_istore_n (lv' := [_, _]) 10 dX7_back_9 rfl (by decide) rfl ?_
  refine gj_iload_n 11 dX7_back_10 rfl rfl ?_
  refine gj_if_ge 17 14 dX7_back_11 (by decide) rfl (by omega) (fun c_11 => ?_) (fun c_11 => ?_)
  · refine gj_aload_n 18 dX7_back_17 rfl rfl ?_
    refine gj_getfr 21 dX7_back_18 rfl fl_7_44 rfl rfl ?_
    refine gj_iconst 22 dX7_back_21 rfl ?_
    refine gj_iconst 23 dX7_back_22 rfl ?_
    refine gj_aload_n 24 dX7_back_23 rfl rfl ?_
    refine gj_getfr 27 dX7_back_24 rfl fl_7_38 rfl rfl ?_
    refine gj_getfr 30 dX7_back_27 rfl fl_7_169 rfl rfl ?_
    refine gj_iload_n 31 dX7_back_30 rfl rfl ?_
    refine gj_iald 32 dX7_back_31 rfl rfl (by omega) (by omega) (fun r_31 => ?_)
    refine gj_aload_n 33 dX7_back_32 rfl rfl ?_
    refine gj_getfr 36 dX7_back_33 rfl fl_7_38 rfl rfl ?_
    refine gj_getfr 39 dX7_back_36 rfl fl_7_172 rfl rfl ?_
    refine gj_iload_n 40 dX7_back_39 rfl rfl ?_
    refine gj_iald 41 dX7_back_40 rfl rfl (by omega) (by omega) (fun r_40 => ?_)
    refine gj_iconst 42 dX7_back_41 rfl ?_
    refine gj_vV 45 dX7_back_42 rfl ok_0_add ml_7_142 iv_0_add (As := [gI _, gI _, gI _, gI _, gI _]) rfl rfl rfl rfl (Nat.le_of_ble_eq_true rfl) ⟨Nat.le_of_ble_eq_true rfl, Nat.le_of_ble_eq_true rfl⟩ (Nat.le_of_ble_eq_true rfl) ⟨rfl, rfl⟩ ⟨Nat.zero_le _, Nat.zero_le _⟩ (s0_add (by omega) (by omega) r_31 r_40 (by omega) ha) ?_
    refine gj_aload_n 46 dX7_back_45 rfl rfl ?_
    refine gj_getfr 49 dX7_back_46 rfl fl_7_38 rfl rfl ?_
    refine gj_fV 52 dX7_back_49 rfl ok_4_dropSwitch ml_7_175 iv_4_dropSwitch (As := []) rfl rfl rfl rfl (Nat.le_of_ble_eq_true rfl) ⟨Nat.le_of_ble_eq_true rfl, Nat.le_of_ble_eq_true rfl⟩ (Nat.le_of_ble_eq_true rfl) ⟨rfl, rfl⟩ ⟨Nat.zero_le _, Nat.zero_le _⟩ (s4_dropSwitch1 (by rw [k_ad_o (by decide) (by decide)]; omega)) ?_
    refine gj_pop 53 dX7_back_52 rfl (fun _ => rfl) ?_
    refine gj_aload_n 54 dX7_back_53 rfl rfl ?_
    refine gj_getfr 57 dX7_back_54 rfl fl_7_38 rfl rfl ?_
    refine gj_getfiE (M 15 6 - 1) 60 dX7_back_57 rfl fl_7_162 rfl rfl (by rw [gj_u_s, k_ad_o (by decide) (by decide)]) (fun r_57 => ?_)
    refine gj_iret dX7_back_60 rfl ⟨Nat.zero_le _, Nat.zero_le _⟩ ?_
    exact ⟨rfl, by (unfold x_back; (repeat (first | rw [if_pos (by omega)] | rw [if_neg (by omega)])); try rfl), by unfold m_back; rw [if_neg (by omega), k_ad_o (by decide) (by decide)]⟩
  · refine gj_bipush 16 dX7_back_14 rfl (by decide) ?_
    refine gj_iret dX7_back_16 rfl ⟨Nat.zero_le _, Nat.zero_le _⟩ ?_
    exact ⟨rfl, by (unfold x_back; (repeat (first | rw [if_pos (by omega)] | rw [if_neg (by omega)])); try rfl), by (unfold m_back; (repeat (first | rw [if_pos (by omega)] | rw [if_neg (by omega)])); try rfl)⟩

set_option maxRecDepth 100000 in
set_option maxHeartbeats 1000000 in
theorem s7_undo {xt : Nat × (Nat → Int)} {M : gj_M} (ha : 0 ≤ M 35 0 ∧ M 35 0 ≤ 14) (hk : 0 < M 35 0 → k_ok M (M 36 ((M 35 0 - 1) * 5)) (M 36 ((M 35 0 - 1) * 5 + 1))) : gj_F xt Y7_undo gS [gR 0] M (some (gI (x_undo M))) (m_undo M) := by
  show gj_G _ Y7_undo gS 0 0 0 [_] [] M _
  refine gj_aload_n 1 dX7_undo_0 rfl rfl ?_
  refine gj_getfr 4 dX7_undo_1 rfl fl_7_44 rfl rfl ?_
  refine gj_getfi 7 dX7_undo_4 rfl fl_7_179 rfl rfl (fun r_4 => ?_)
  refine gj_if_ne 13 10 dX7_undo_7 (by decide) rfl (by omega) (fun c_7 => ?_) (fun c_7 => ?_)
  · refine gj_aload_n 14 dX7_undo_13 rfl rfl ?_
    refine gj_getfr 17 dX7_undo_14 rfl fl_7_44 rfl rfl ?_
    refine gj_aload_n 18 dX7_undo_17 rfl rfl ?_
    refine gj_getfr 21 dX7_undo_18 rfl fl_7_38 rfl rfl ?_
    refine gj_vV 24 dX7_undo_21 rfl ok_0_takeBackLast ml_7_182 iv_0_takeBackLast (As := [gR _]) rfl rfl rfl rfl (Nat.le_of_ble_eq_true rfl) ⟨Nat.le_of_ble_eq_true rfl, Nat.le_of_ble_eq_true rfl⟩ (Nat.le_of_ble_eq_true rfl) ⟨rfl, rfl⟩ ⟨Nat.zero_le _, Nat.zero_le _⟩ (s0_back (by omega) (hk (by omega))) ?_
    refine gj_aload_n 25 dX7_undo_24 rfl rfl ?_
    refine gj_getfr 28 dX7_undo_25 rfl fl_7_44 rfl rfl ?_
    refine gj_getfiE (M 35 0 - 1) 31 dX7_undo_28 rfl fl_7_179 rfl rfl (k_bk_sz M) (fun r_28 => ?_)
    refine gj_iret dX7_undo_31 rfl ⟨Nat.zero_le _, Nat.zero_le _⟩ ?_
    exact ⟨rfl, by (unfold x_undo; (repeat (first | rw [if_pos (by omega)] | rw [if_neg (by omega)])); try rfl), by (unfold m_undo; (repeat (first | rw [if_pos (by omega)] | rw [if_neg (by omega)])); try rfl)⟩
  · refine gj_bipush 12 dX7_undo_10 rfl (by decide) ?_
    refine gj_iret dX7_undo_12 rfl ⟨Nat.zero_le _, Nat.zero_le _⟩ ?_
    exact ⟨rfl, by (unfold x_undo; (repeat (first | rw [if_pos (by omega)] | rw [if_neg (by omega)])); try rfl), by (unfold m_undo; (repeat (first | rw [if_pos (by omega)] | rw [if_neg (by omega)])); try rfl)⟩

set_option maxRecDepth 100000 in
set_option maxHeartbeats 1000000 in
theorem s7_exposed {xt : Nat × (Nat → Int)} {M : gj_M} (hI : c_I M) {l f : Int} (hl : gj_in l) (hf : gj_in f) : gj_F xt Y7_exposed gS [gR 0, gI l, gI f] M (some (gI (x_exposed M l f))) M := by
  show gj_G _ Y7_exposed gS 0 0 0 [_, _, _] [] M _
  have hL := hI.1
  have hD := hI.2.1
  have hsw := hI.2.2.1
  refine gj_aload_n 1 dX7_exposed_0 rfl rfl ?_
  refine gj_iload_n 2 dX7_exposed_1 rfl rfl ?_
  refine gj_fV 5 dX7_exposed_2 rfl ok_7_isLevel ml_7_114 iv_7_isLevel (As := [gI _]) rfl rfl rfl rfl (Nat.le_of_ble_eq_true rfl) ⟨Nat.le_of_ble_eq_true rfl, Nat.le_of_ble_eq_true rfl⟩ (Nat.le_of_ble_eq_true rfl) ⟨rfl, rfl⟩ ⟨Nat.zero_le _, Nat.zero_le _⟩ (s7_isL hL hl) ?_
  have hc := x_isL_c M l
  refine gj_if_ne 10 8 dX7_exposed_5 (by decide) rfl (by omega) (fun c_5 => ?_) (fun c_5 => ?_)
  · refine gj_iload_n 11 dX7_exposed_10 rfl rfl ?_
    refine gj_fS 14 dX7_exposed_11 rfl ok_7_isFrame ml_7_132 is_7_isFrame (As := [gI _]) rfl rfl (Nat.le_of_ble_eq_true rfl) ⟨Nat.le_of_ble_eq_true rfl, Nat.le_of_ble_eq_true rfl⟩ (Nat.le_of_ble_eq_true rfl) ⟨rfl, rfl⟩ ⟨Nat.zero_le _, Nat.zero_le _⟩ (s7_isF hf) ?_
    have hc2 := x_isF_c f
    refine gj_if_ne 20 17 dX7_exposed_14 (by decide) rfl (by omega) (fun c_14 => ?_) (fun c_14 => ?_)
    · refine gj_aload_n 21 dX7_exposed_20 rfl rfl ?_
      refine gj_getfr 24 dX7_exposed_21 rfl fl_7_23 rfl rfl ?_
      refine gj_iload_n 25 dX7_exposed_24 rfl rfl ?_
      refine gj_iload_n 26 dX7_exposed_25 rfl rfl ?_
      refine gj_fV 29 dX7_exposed_26 rfl ok_3_drawingOn ml_7_186 iv_3_drawingOn (As := [gI _, gI _]) rfl rfl rfl rfl (Nat.le_of_ble_eq_true rfl) ⟨Nat.le_of_ble_eq_true rfl, Nat.le_of_ble_eq_true rfl⟩ (Nat.le_of_ble_eq_true rfl) ⟨rfl, rfl⟩ ⟨Nat.zero_le _, Nat.zero_le _⟩ (t3_drawingOn hI (by omega) (by omega)) ?_
      refine gj_iret dX7_exposed_29 rfl ⟨Nat.zero_le _, Nat.zero_le _⟩ ?_
      exact ⟨rfl, by (unfold x_exposed; (repeat (first | rw [if_pos (by omega)] | rw [if_neg (by omega)])); try rfl), rfl⟩
    · refine gj_bipush 19 dX7_exposed_17 rfl (by decide) ?_
      refine gj_iret dX7_exposed_19 rfl ⟨Nat.zero_le _, Nat.zero_le _⟩ ?_
      exact ⟨rfl, by (unfold x_exposed; (repeat (first | rw [if_pos (by omega)] | rw [if_neg (by omega)])); try rfl), rfl⟩
  · refine gj_iconst 9 dX7_exposed_8 rfl ?_
    refine gj_iret dX7_exposed_9 rfl ⟨Nat.zero_le _, Nat.zero_le _⟩ ?_
    exact ⟨rfl, by (unfold x_exposed; (repeat (first | rw [if_pos (by omega)] | rw [if_neg (by omega)])); try rfl), rfl⟩

set_option maxRecDepth 100000 in
set_option maxHeartbeats 1000000 in
theorem s7_order {xt : Nat × (Nat → Int)} {M : gj_M} (hI : c_I M) {f : Int} (hf : gj_in f) : gj_F xt Y7_order gS [gR 0, gI f] M (some (gI (x_order M f))) M := by
  show gj_G _ Y7_order gS 0 0 0 [_, _] [] M _
  have hL := hI.1
  have hD := hI.2.1
  have hsw := hI.2.2.1
  refine gj_iload_n 1 dX7_order_0 rfl rfl ?_
  refine gj_fS 4 dX7_order_1 rfl ok_7_isFrame ml_7_132 is_7_isFrame (As := [gI _]) rfl rfl (Nat.le_of_ble_eq_true rfl) ⟨Nat.le_of_ble_eq_true rfl, Nat.le_of_ble_eq_true rfl⟩ (Nat.le_of_ble_eq_true rfl) ⟨rfl, rfl⟩ ⟨Nat.zero_le _, Nat.zero_le _⟩ (s7_isF hf) ?_
  have hc2 := x_isF_c f
  refine gj_if_ne 10 7 dX7_order_4 (by decide) rfl (by omega) (fun c_4 => ?_) (fun c_4 => ?_)
  · refine gj_aload_n 11 dX7_order_10 rfl rfl ?_
    refine gj_getfr 14 dX7_order_11 rfl fl_7_23 rfl rfl ?_
    refine gj_iload_n 15 dX7_order_14 rfl rfl ?_
    refine gj_fV 18 dX7_order_15 rfl ok_3_orderAt ml_7_189 iv_3_orderAt (As := [gI _]) rfl rfl rfl rfl (Nat.le_of_ble_eq_true rfl) ⟨Nat.le_of_ble_eq_true rfl, Nat.le_of_ble_eq_true rfl⟩ (Nat.le_of_ble_eq_true rfl) ⟨rfl, rfl⟩ ⟨Nat.zero_le _, Nat.zero_le _⟩ (t3_orderAt hI (by omega)) ?_
    refine gj_iret dX7_order_18 rfl ⟨Nat.zero_le _, Nat.zero_le _⟩ ?_
    exact ⟨rfl, by (unfold x_order; (repeat (first | rw [if_pos (by omega)] | rw [if_neg (by omega)])); try rfl), rfl⟩
  · refine gj_bipush 9 dX7_order_7 rfl (by decide) ?_
    refine gj_iret dX7_order_9 rfl ⟨Nat.zero_le _, Nat.zero_le _⟩ ?_
    exact ⟨rfl, by (unfold x_order; (repeat (first | rw [if_pos (by omega)] | rw [if_neg (by omega)])); try rfl), rfl⟩

set_option maxRecDepth 100000 in
set_option maxHeartbeats 1000000 in
theorem s7_look {xt : Nat × (Nat → Int)} {M : gj_M} (hI : c_I M) {f c : Int} (hf : gj_in f) (hc : gj_in c) : gj_F xt Y7_look gS [gR 0, gI f, gI c] M (some (gI (x_look M f c))) M := by
  show gj_G _ Y7_look gS 0 0 0 [_, _, _] [] M _
  have hL := hI.1
  have hD := hI.2.1
  have hsw := hI.2.2.1
  refine gj_iload_n 1 dX7_look_0 rfl rfl ?_
  refine gj_fS 4 dX7_look_1 rfl ok_7_isFrame ml_7_132 is_7_isFrame (As := [gI _]) rfl rfl (Nat.le_of_ble_eq_true rfl) ⟨Nat.le_of_ble_eq_true rfl, Nat.le_of_ble_eq_true rfl⟩ (Nat.le_of_ble_eq_true rfl) ⟨rfl, rfl⟩ ⟨Nat.zero_le _, Nat.zero_le _⟩ (s7_isF hf) ?_
  have hc2 := x_isF_c f
  refine gj_if_eq 14 7 dX7_look_4 (by decide) rfl (by omega) (fun c_4 => ?_) (fun c_4 => ?_)
  · refine gj_bipush 16 dX7_look_14 rfl (by decide) ?_
    refine gj_iret dX7_look_16 rfl ⟨Nat.zero_le _, Nat.zero_le _⟩ ?_
    exact ⟨rfl, by (unfold x_look; (repeat (first | rw [if_pos (by omega)] | rw [if_neg (by omega)])); try rfl), rfl⟩
  · refine gj_iload_n 8 dX7_look_7 rfl rfl ?_
    refine gj_fS 11 dX7_look_8 rfl ok_7_isWindow ml_7_192 is_7_isWindow (As := [gI _]) rfl rfl (Nat.le_of_ble_eq_true rfl) ⟨Nat.le_of_ble_eq_true rfl, Nat.le_of_ble_eq_true rfl⟩ (Nat.le_of_ble_eq_true rfl) ⟨rfl, rfl⟩ ⟨Nat.zero_le _, Nat.zero_le _⟩ (s7_isW hc) ?_
    have hc3 := x_isW_c c
    refine gj_if_ne 17 14 dX7_look_11 (by decide) rfl (by omega) (fun c_11 => ?_) (fun c_11 => ?_)
    · refine gj_aload_n 18 dX7_look_17 rfl rfl ?_
      refine gj_getfr 21 dX7_look_18 rfl fl_7_23 rfl rfl ?_
      refine gj_iload_n 22 dX7_look_21 rfl rfl ?_
      refine gj_iload_n 23 dX7_look_22 rfl rfl ?_
      refine gj_iconst 24 dX7_look_23 rfl ?_
      refine gj_fV 27 dX7_look_24 rfl ok_3_seenAt ml_7_195 iv_3_seenAt (As := [gI _, gI _, gI _]) rfl rfl rfl rfl (Nat.le_of_ble_eq_true rfl) ⟨Nat.le_of_ble_eq_true rfl, Nat.le_of_ble_eq_true rfl⟩ (Nat.le_of_ble_eq_true rfl) ⟨rfl, rfl⟩ ⟨Nat.zero_le _, Nat.zero_le _⟩ (t3_seenAt hI (by omega) (by omega) (by omega)) ?_
      refine gj_iret dX7_look_27 rfl ⟨Nat.zero_le _, Nat.zero_le _⟩ ?_
      exact ⟨rfl, by (unfold x_look; (repeat (first | rw [if_pos (by omega)] | rw [if_neg (by omega)])); try rfl), rfl⟩
    · refine gj_bipush 16 dX7_look_14 rfl (by decide) ?_
      refine gj_iret dX7_look_16 rfl ⟨Nat.zero_le _, Nat.zero_le _⟩ ?_
      exact ⟨rfl, by (unfold x_look; (repeat (first | rw [if_pos (by omega)] | rw [if_neg (by omega)])); try rfl), rfl⟩

set_option maxRecDepth 100000 in
set_option maxHeartbeats 1000000 in
theorem s7_see {xt : Nat × (Nat → Int)} {M : gj_M} (hs : 0 ≤ M 37 0 ∧ M 37 0 ≤ 6) {f c v : Int} (hf : gj_in f) (hc : gj_in c) (hv : gj_in v) : gj_F xt Y7_see gS [gR 0, gI f, gI c, gI v] M (some (gI (x_see M f c v))) (m_see M f c v) := by
  show gj_G _ Y7_see gS 0 0 0 [_, _, _, _] [] M _
  refine gj_iload_n 1 dX7_see_0 rfl rfl ?_
  refine gj_fS 4 dX7_see_1 rfl ok_7_isFrame ml_7_132 is_7_isFrame (As := [gI _]) rfl rfl (Nat.le_of_ble_eq_true rfl) ⟨Nat.le_of_ble_eq_true rfl, Nat.le_of_ble_eq_true rfl⟩ (Nat.le_of_ble_eq_true rfl) ⟨rfl, rfl⟩ ⟨Nat.zero_le _, Nat.zero_le _⟩ (s7_isF hf) ?_
  have hc2 := x_isF_c f
  refine gj_if_eq 30 7 dX7_see_4 (by decide) rfl (by omega) (fun c_4 => ?_) (fun c_4 => ?_)
  · refine gj_bipush 32 dX7_see_30 rfl (by decide) ?_
    refine gj_iret dX7_see_32 rfl ⟨Nat.zero_le _, Nat.zero_le _⟩ ?_
    exact ⟨rfl, by (unfold x_see; (repeat (first | rw [if_pos (by omega)] | rw [if_neg (by omega)])); try rfl), by (unfold m_see; (repeat (first | rw [if_pos (by omega)] | rw [if_neg (by omega)])); try rfl)⟩
  · refine gj_iload_n 8 dX7_see_7 rfl rfl ?_
    refine gj_fS 11 dX7_see_8 rfl ok_7_isWindow ml_7_192 is_7_isWindow (As := [gI _]) rfl rfl (Nat.le_of_ble_eq_true rfl) ⟨Nat.le_of_ble_eq_true rfl, Nat.le_of_ble_eq_true rfl⟩ (Nat.le_of_ble_eq_true rfl) ⟨rfl, rfl⟩ ⟨Nat.zero_le _, Nat.zero_le _⟩ (s7_isW hc) ?_
    have hc3 := x_isW_c c
    refine gj_if_eq 30 14 dX7_see_11 (by decide) rfl (by omega) (fun c_11 => ?_) (fun c_11 => ?_)
    · refine gj_bipush 32 dX7_see_30 rfl (by decide) ?_
      refine gj_iret dX7_see_32 rfl ⟨Nat.zero_le _, Nat.zero_le _⟩ ?_
      exact ⟨rfl, by (unfold x_see; (repeat (first | rw [if_pos (by omega)] | rw [if_neg (by omega)])); try rfl), by (unfold m_see; (repeat (first | rw [if_pos (by omega)] | rw [if_neg (by omega)])); try rfl)⟩
    · refine gj_iload_n 15 dX7_see_14 rfl rfl ?_
      refine gj_bipush 17 dX7_see_15 rfl (by decide) ?_
      refine gj_icmp_eq 33 20 dX7_see_17 (by decide) rfl (by omega) (by omega) (fun c_17 => ?_) (fun c_17 => ?_)
      · refine gj_aload_n 34 dX7_see_33 rfl rfl ?_
        refine gj_getfr 37 dX7_see_34 rfl fl_7_51 rfl rfl ?_
        refine gj_getfi 40 dX7_see_37 rfl fl_7_214 rfl rfl (fun r_37 => ?_)
        refine gj_bipush 42 dX7_see_40 rfl (by decide) ?_
        refine gj_icmp_lt 48 45 dX7_see_42 (by decide) rfl (by omega) (by omega) (fun c_42 => ?_) (fun c_42 => ?_)
        · refine gj_aload_n 49 dX7_see_48 rfl rfl ?_
          refine gj_getfr 52 dX7_see_49 rfl fl_7_51 rfl rfl ?_
          refine gj_iload_n 53 dX7_see_52 rfl rfl ?_
          refine gj_iload_n 54 dX7_see_53 rfl rfl ?_
          refine gj_iload_n 55 dX7_see_54 rfl rfl ?_
          refine gj_vV 58 dX7_see_55 rfl ok_6_add ml_7_215 iv_6_add (As := [gI _, gI _, gI _]) rfl rfl rfl rfl (Nat.le_of_ble_eq_true rfl) ⟨Nat.le_of_ble_eq_true rfl, Nat.le_of_ble_eq_true rfl⟩ (Nat.le_of_ble_eq_true rfl) ⟨rfl, rfl⟩ ⟨Nat.zero_le _, Nat.zero_le _⟩ (s6_add (by omega) hf hc hv) ?_
          refine gj_aload_n 59 dX7_see_58 rfl rfl ?_
          refine gj_getfr 62 dX7_see_59 rfl fl_7_51 rfl rfl ?_
          refine gj_getfiE (M 37 0 + 1) 65 dX7_see_62 rfl fl_7_214 rfl rfl gj_u_s (fun r_62 => ?_)
          refine gj_iret dX7_see_65 rfl ⟨Nat.zero_le _, Nat.zero_le _⟩ ?_
          exact ⟨rfl, by (unfold x_see; (repeat (first | rw [if_pos (by omega)] | rw [if_neg (by omega)])); try rfl), by (unfold m_see; (repeat (first | rw [if_pos (by omega)] | rw [if_neg (by omega)])); try rfl)⟩
        · refine gj_bipush 47 dX7_see_45 rfl (by decide) ?_
          refine gj_iret dX7_see_47 rfl ⟨Nat.zero_le _, Nat.zero_le _⟩ ?_
          exact ⟨rfl, by (unfold x_see; (repeat (first | rw [if_pos (by omega)] | rw [if_neg (by omega)])); try rfl), by (unfold m_see; (repeat (first | rw [if_pos (by omega)] | rw [if_neg (by omega)])); try rfl)⟩
      · refine gj_iload_n 21 dX7_see_20 rfl rfl ?_
        refine gj_if_lt 30 24 dX7_see_21 (by decide) rfl (by omega) (fun c_21 => ?_) (fun c_21 => ?_)
        · refine gj_bipush 32 dX7_see_30 rfl (by decide) ?_
          refine gj_iret dX7_see_32 rfl ⟨Nat.zero_le _, Nat.zero_le _⟩ ?_
          exact ⟨rfl, by (unfold x_see; (repeat (first | rw [if_pos (by omega)] | rw [if_neg (by omega)])); try rfl), by (unfold m_see; (repeat (first | rw [if_pos (by omega)] | rw [if_neg (by omega)])); try rfl)⟩
        · refine gj_iload_n 25 dX7_see_24 rfl rfl ?_
          refine gj_bipush 27 dX7_see_25 rfl (by decide) ?_
          refine gj_icmp_le 33 30 dX7_see_27 (by decide) rfl (by omega) (by omega) (fun c_27 => ?_) (fun c_27 => ?_)
          · refine gj_aload_n 34 dX7_see_33 rfl rfl ?_
            refine gj_getfr 37 dX7_see_34 rfl fl_7_51 rfl rfl ?_
            refine gj_getfi 40 dX7_see_37 rfl fl_7_214 rfl rfl (fun r_37 => ?_)
            refine gj_bipush 42 dX7_see_40 rfl (by decide) ?_
            refine gj_icmp_lt 48 45 dX7_see_42 (by decide) rfl (by omega) (by omega) (fun c_42 => ?_) (fun c_42 => ?_)
            · refine gj_aload_n 49 dX7_see_48 rfl rfl ?_
              refine gj_getfr 52 dX7_see_49 rfl fl_7_51 rfl rfl ?_
              refine gj_iload_n 53 dX7_see_52 rfl rfl ?_
              refine gj_iload_n 54 dX7_see_53 rfl rfl ?_
              refine gj_iload_n 55 dX7_see_54 rfl rfl ?_
              refine gj_vV 58 dX7_see_55 rfl ok_6_add ml_7_215 iv_6_add (As := [gI _, gI _, gI _]) rfl rfl rfl rfl (Nat.le_of_ble_eq_true rfl) ⟨Nat.le_of_ble_eq_true rfl, Nat.le_of_ble_eq_true rfl⟩ (Nat.le_of_ble_eq_true rfl) ⟨rfl, rfl⟩ ⟨Nat.zero_le _, Nat.zero_le _⟩ (s6_add (by omega) hf hc hv) ?_
              refine gj_aload_n 59 dX7_see_58 rfl rfl ?_
              refine gj_getfr 62 dX7_see_59 rfl fl_7_51 rfl rfl ?_
              refine gj_getfiE (M 37 0 + 1) 65 dX7_see_62 rfl fl_7_214 rfl rfl gj_u_s (fun r_62 => ?_)
              refine gj_iret dX7_see_65 rfl ⟨Nat.zero_le _, Nat.zero_le _⟩ ?_
              exact ⟨rfl, by (unfold x_see; (repeat (first | rw [if_pos (by omega)] | rw [if_neg (by omega)])); try rfl), by (unfold m_see; (repeat (first | rw [if_pos (by omega)] | rw [if_neg (by omega)])); try rfl)⟩
            · refine gj_bipush 47 dX7_see_45 rfl (by decide) ?_
              refine gj_iret dX7_see_47 rfl ⟨Nat.zero_le _, Nat.zero_le _⟩ ?_
              exact ⟨rfl, by (unfold x_see; (repeat (first | rw [if_pos (by omega)] | rw [if_neg (by omega)])); try rfl), by (unfold m_see; (repeat (first | rw [if_pos (by omega)] | rw [if_neg (by omega)])); try rfl)⟩
          · refine gj_bipush 32 dX7_see_30 rfl (by decide) ?_
            refine gj_iret dX7_see_32 rfl ⟨Nat.zero_le _, Nat.zero_le _⟩ ?_
            exact ⟨rfl, by (unfold x_see; (repeat (first | rw [if_pos (by omega)] | rw [if_neg (by omega)])); try rfl), by (unfold m_see; (repeat (first | rw [if_pos (by omega)] | rw [if_neg (by omega)])); try rfl)⟩

set_option maxRecDepth 100000 in
set_option maxHeartbeats 1000000 in
theorem s7_unsee {xt : Nat × (Nat → Int)} {M : gj_M}  : gj_F xt Y7_unsee gS [gR 0] M (some (gI (M 37 0))) (gj_u M 37 0 0) := by
  show gj_G _ Y7_unsee gS 0 0 0 [_, _] [] M _
  refine gj_aload_n 1 dX7_unsee_0 rfl rfl ?_
  refine gj_getfr 4 dX7_unsee_1 rfl fl_7_51 rfl rfl ?_
  refine gj_getfi 7 dX7_unsee_4 rfl fl_7_214 rfl rfl (fun r_4 => ?_)
  refine gj_istore_n (lv' := [_, _]) 8 dX7_unsee_7 rfl (by decide) rfl ?_
  refine gj_aload_n 9 dX7_unsee_8 rfl rfl ?_
  refine gj_getfr 12 dX7_unsee_9 rfl fl_7_51 rfl rfl ?_
  refine gj_vV 15 dX7_unsee_12 rfl ok_6_clear ml_7_218 iv_6_clear (As := []) rfl rfl rfl rfl (Nat.le_of_ble_eq_true rfl) ⟨Nat.le_of_ble_eq_true rfl, Nat.le_of_ble_eq_true rfl⟩ (Nat.le_of_ble_eq_true rfl) ⟨rfl, rfl⟩ ⟨Nat.zero_le _, Nat.zero_le _⟩ (s6_clear) ?_
  refine gj_iload_n 16 dX7_unsee_15 rfl rfl ?_
  refine gj_iret dX7_unsee_16 rfl ⟨Nat.zero_le _, Nat.zero_le _⟩ ?_
  exact ⟨rfl, rfl, rfl⟩

set_option maxRecDepth 100000 in
set_option maxHeartbeats 1000000 in
theorem s7_which_l {xt : Nat × (Nat → Int)} {M : gj_M} (hI : c_I M) (hs : 0 ≤ M 37 0 ∧ M 37 0 ≤ 6) (hg : ∀ i : Int, 0 ≤ i → i < M 37 0 → (0 ≤ M 38 i ∧ M 38 i < 48) ∧ 0 ≤ M 39 i ∧ M 39 i < 10) : ∀ (n k : Nat), (k : Int) + n = M 10 0 → gj_G xt Y7_which gS 0 0 4 [some (gR 0), some (gI (x_wh M k)), some (gI (k : Int))] [] M (fun r S2 M2 => S2 = gS ∧ r = some (gI (x_wh M (M 10 0).toNat)) ∧ M2 = M) := by
  intro n
  induction n with
  | zero =>
    intro k hk
    have hD := hI.2.1
    refine gj_iload_n 5 dX7_which_4 rfl rfl ?_
    refine gj_aload_n 6 dX7_which_5 rfl rfl ?_
    refine gj_getfr 9 dX7_which_6 rfl fl_7_31 rfl rfl ?_
    refine gj_getfi 12 dX7_which_9 rfl fl_7_219 rfl rfl (fun r_9 => ?_)
    refine gj_icmp_ge 42 15 dX7_which_12 (by decide) rfl (by omega) (by omega) (fun c_12 => ?_) (fun c_12 => absurd c_12 (by omega))
    refine gj_iload_n 43 dX7_which_42 rfl rfl ?_
    refine gj_iret dX7_which_43 rfl ⟨Nat.zero_le _, Nat.zero_le _⟩ ?_
    exact ⟨rfl, by rw [show k = (M 10 0).toNat by omega], rfl⟩
  | succ n ih =>
    intro k hk
    have hD := hI.2.1
    refine gj_iload_n 5 dX7_which_4 rfl rfl ?_
    refine gj_aload_n 6 dX7_which_5 rfl rfl ?_
    refine gj_getfr 9 dX7_which_6 rfl fl_7_31 rfl rfl ?_
    refine gj_getfi 12 dX7_which_9 rfl fl_7_219 rfl rfl (fun r_9 => ?_)
    refine gj_icmp_ge 42 15 dX7_which_12 (by decide) rfl (by omega) (by omega) (fun c_12 => absurd c_12 (by omega)) (fun c_12 => ?_)
    have h01 := g_al_01 M k (M 37 0).toNat 0
    refine gj_aload_n 16 dX7_which_15 rfl rfl ?_
    refine gj_getfr 19 dX7_which_16 rfl fl_7_51 rfl rfl ?_
    refine gj_iload_n 20 dX7_which_19 rfl rfl ?_
    refine gj_aload_n 21 dX7_which_20 rfl rfl ?_
    refine gj_getfr 24 dX7_which_21 rfl fl_7_23 rfl rfl ?_
    refine gj_fV 27 dX7_which_24 rfl ok_6_allSoWithout ml_7_222 iv_6_allSoWithout (As := [gI _, gR _]) rfl rfl rfl rfl (Nat.le_of_ble_eq_true rfl) ⟨Nat.le_of_ble_eq_true rfl, Nat.le_of_ble_eq_true rfl⟩ (Nat.le_of_ble_eq_true rfl) ⟨rfl, rfl⟩ ⟨Nat.zero_le _, Nat.zero_le _⟩ (s6_all hI (by omega) hs hg) ?_
    refine gj_if_eq 36 30 dX7_which_27 (by decide) rfl (by omega) (fun c_27 => ?_) (fun c_27 => ?_)
    · refine gj_iinc (b := ((k + 1 : Nat) : Int)) (lv' := [_, _, _]) 39 dX7_which_36 rfl rfl (by omega) (by decide) rfl ?_
      refine gj_goto 4 dX7_which_39 (by decide) ?_
      have h := ih (k + 1) (by omega)
      first
      | (rw [show x_wh M (k + 1) = x_wh M k from if_pos (by omega)] at h; exact gj_wk h ⟨rfl, rfl, rfl, trivial⟩)
      | (rw [show x_wh M (k + 1) = _ from if_neg (by omega)] at h; exact gj_wk h ⟨rfl, rfl, rfl, trivial⟩)
    · refine gj_iload_n 31 dX7_which_30 rfl rfl ?_
      refine gj_iconst 32 dX7_which_31 rfl ?_
      refine gj_iload_n 33 dX7_which_32 rfl rfl ?_
      refine gj_ishl 34 dX7_which_33 rfl ?_
      refine gj_ior 35 dX7_which_34 rfl ?_
      refine gj_istore_n (lv' := [_, _, _]) 36 dX7_which_35 rfl (by decide) rfl ?_
      refine gj_iinc (b := ((k + 1 : Nat) : Int)) (lv' := [_, _, _]) 39 dX7_which_36 rfl rfl (by omega) (by decide) rfl ?_
      refine gj_goto 4 dX7_which_39 (by decide) ?_
      have h := ih (k + 1) (by omega)
      first
      | (rw [show x_wh M (k + 1) = x_wh M k from if_pos (by omega)] at h; exact gj_wk h ⟨rfl, rfl, rfl, trivial⟩)
      | (rw [show x_wh M (k + 1) = _ from if_neg (by omega)] at h; exact gj_wk h ⟨rfl, rfl, rfl, trivial⟩)

set_option maxRecDepth 100000 in
set_option maxHeartbeats 1000000 in
theorem s7_which {xt : Nat × (Nat → Int)} {M : gj_M} (hI : c_I M) (hs : 0 ≤ M 37 0 ∧ M 37 0 ≤ 6) (hg : ∀ i : Int, 0 ≤ i → i < M 37 0 → (0 ≤ M 38 i ∧ M 38 i < 48) ∧ 0 ≤ M 39 i ∧ M 39 i < 10) : gj_F xt Y7_which gS [gR 0] M (some (gI (x_wh M (M 10 0).toNat))) M := by
  show gj_G _ Y7_which gS 0 0 0 [_, _, _] [] M _
  refine gj_iconst 1 dX7_which_0 rfl ?_
  refine gj_istore_n (lv' := [_, _, _]) 2 dX7_which_1 rfl (by decide) rfl ?_
  refine gj_iconst 3 dX7_which_2 rfl ?_
  refine gj_istore_n (lv' := [_, _, _]) 4 dX7_which_3 rfl (by decide) rfl ?_
  exact gj_wk (s7_which_l hI hs hg (M 10 0).toNat 0 (by have := hI.2.1; omega)) ⟨rfl, rfl, rfl, trivial⟩

set_option maxRecDepth 100000 in
set_option maxHeartbeats 1000000 in
theorem s7_cd_l {xt : Nat × (Nat → Int)} {M : gj_M}  : ∀ (n k : Nat) (h l : Int), k + n = 64 → 0 ≤ h ∧ h ≤ 2147483647 → 0 ≤ l ∧ l ≤ 2147483647 → gj_G xt Y7_commonDivisor gS 0 0 7 [none, none, some (gI h), some (gI l), some (gI (k : Int)), none] [] M (fun r S2 M2 => S2 = gS ∧ r = some (gI (e_cd n h l)) ∧ M2 = M) := by
  intro n
  induction n with
  | zero =>
    intro k h l hk hh hl
    refine gj_iload 9 dX7_commonDivisor_7 rfl rfl ?_
    refine gj_bipush 11 dX7_commonDivisor_9 rfl (by decide) ?_
    refine gj_icmp_ge 34 14 dX7_commonDivisor_11 (by decide) rfl (by omega) (by omega) (fun c_11 => ?_) (fun c_11 => absurd c_11 (by omega))
    refine gj_iload_n 35 dX7_commonDivisor_34 rfl rfl ?_
    refine gj_iret dX7_commonDivisor_35 rfl ⟨Nat.zero_le _, Nat.zero_le _⟩ ?_
    exact ⟨rfl, rfl, rfl⟩
  | succ n ih =>
    intro k h l hk hh hl
    refine gj_iload 9 dX7_commonDivisor_7 rfl rfl ?_
    refine gj_bipush 11 dX7_commonDivisor_9 rfl (by decide) ?_
    refine gj_icmp_ge 34 14 dX7_commonDivisor_11 (by decide) rfl (by omega) (by omega) (fun c_11 => absurd c_11 (by omega)) (fun c_11 => ?_)
    refine gj_iload_n 15 dX7_commonDivisor_14 rfl rfl ?_
    refine gj_if_eq 34 18 dX7_commonDivisor_15 (by decide) rfl (by omega) (fun c_15 => ?_) (fun c_15 => ?_)
    · refine gj_iload_n 35 dX7_commonDivisor_34 rfl rfl ?_
      refine gj_iret dX7_commonDivisor_35 rfl ⟨Nat.zero_le _, Nat.zero_le _⟩ ?_
      exact ⟨rfl, by rw [show e_cd (n + 1) h l = h from if_pos (by omega)], rfl⟩
    · have g1 := Int.emod_nonneg h (show l ≠ 0 by omega)
      have g2 := Int.emod_lt_of_pos h (show 0 < l by omega)
      refine gj_iload_n 19 dX7_commonDivisor_18 rfl rfl ?_
      refine gj_iload_n 20 dX7_commonDivisor_19 rfl rfl ?_
      refine gj_irem 21 dX7_commonDivisor_20 rfl (by omega) (by omega) ?_
      refine gj_istore (lv' := [_, _, _, _, _, _]) 23 dX7_commonDivisor_21 rfl (by decide) rfl ?_
      refine gj_iload_n 24 dX7_commonDivisor_23 rfl rfl ?_
      refine gj_istore_n (lv' := [_, _, _, _, _, _]) 25 dX7_commonDivisor_24 rfl (by decide) rfl ?_
      refine gj_iload 27 dX7_commonDivisor_25 rfl rfl ?_
      refine gj_istore_n (lv' := [_, _, _, _, _, _]) 28 dX7_commonDivisor_27 rfl (by decide) rfl ?_
      refine gj_iinc (b := ((k + 1 : Nat) : Int)) (lv' := [_, _, _, _, _, _]) 31 dX7_commonDivisor_28 rfl rfl (by omega) (by decide) rfl ?_
      refine gj_goto 7 dX7_commonDivisor_31 (by decide) ?_
      have e : e_cd (n + 1) h l = e_cd n l (h % l) := if_neg (by omega)
      rw [e]
      exact gj_wk (ih (k + 1) l (h % l) (by omega) (by omega) (by omega)) ⟨rfl, rfl, rfl, trivial⟩

set_option maxRecDepth 100000 in
set_option maxHeartbeats 1000000 in
theorem s7_cd {xt : Nat × (Nat → Int)} {M : gj_M} {h l : Int} (hh : 0 ≤ h ∧ h ≤ 2147483647) (hl : 0 ≤ l ∧ l ≤ 2147483647) : gj_F xt Y7_commonDivisor gS [gI h, gI l] M (some (gI (e_cd 64 h l))) M := by
  show gj_G _ Y7_commonDivisor gS 0 0 0 [_, _, _, _, _, _] [] M _
  refine gj_iload_n 1 dX7_commonDivisor_0 rfl rfl ?_
  refine gj_istore_n (lv' := [_, _, _, _, _, _]) 2 dX7_commonDivisor_1 rfl (by decide) rfl ?_
  refine gj_iload_n 3 dX7_commonDivisor_2 rfl rfl ?_
  refine gj_istore_n (lv' := [_, _, _, _, _, _]) 4 dX7_commonDivisor_3 rfl (by decide) rfl ?_
  refine gj_iconst 5 dX7_commonDivisor_4 rfl ?_
  refine gj_istore (lv' := [_, _, _, _, _, _]) 7 dX7_commonDivisor_5 rfl (by decide) rfl ?_
  exact gj_wk (s7_cd_l 64 0 h l rfl hh hl) ⟨rfl, rfl, rfl, trivial⟩

set_option maxRecDepth 100000 in
set_option maxHeartbeats 1000000 in
theorem s7_fp {xt : Nat × (Nat → Int)} {M : gj_M} {a b u : Int} (ha : 0 ≤ a ∧ a ≤ 2147483647) (hb : 0 ≤ b ∧ b ≤ 2147483647) (hu : gj_in u) : gj_F xt Y7_fractionPart gS [gI a, gI b, gI u] M (some (gI (e_fp a b u))) M := by
  show gj_G _ Y7_fractionPart gS 0 0 0 [_, _, _, _, _] [] M _
  have hc := e_cd_b 64 a b ha.1 hb.1
  refine gj_iload_n 1 dX7_fractionPart_0 rfl rfl ?_
  refine gj_if_eq 8 4 dX7_fractionPart_1 (by decide) rfl (by omega) (fun c_1 => ?_) (fun c_1 => ?_)
  · refine gj_iload_n 9 dX7_fractionPart_8 rfl rfl ?_
    refine gj_istore_n (lv' := [_, _, _, _, _]) 10 dX7_fractionPart_9 rfl (by decide) rfl ?_
    refine gj_iload_n 11 dX7_fractionPart_10 rfl rfl ?_
    refine gj_iload_n 12 dX7_fractionPart_11 rfl rfl ?_
    refine gj_fS 15 dX7_fractionPart_12 rfl ok_7_commonDivisor ml_7_262 is_7_commonDivisor (As := [gI _, gI _]) rfl rfl (Nat.le_of_ble_eq_true rfl) ⟨Nat.le_of_ble_eq_true rfl, Nat.le_of_ble_eq_true rfl⟩ (Nat.le_of_ble_eq_true rfl) ⟨rfl, rfl⟩ ⟨Nat.zero_le _, Nat.zero_le _⟩ (s7_cd ha hb) ?_
    refine gj_istore (lv' := [_, _, _, _, _]) 17 dX7_fractionPart_15 rfl (by decide) rfl ?_
    refine gj_iload 19 dX7_fractionPart_17 rfl rfl ?_
    refine gj_iconst 20 dX7_fractionPart_19 rfl ?_
    refine gj_icmp_ge 27 23 dX7_fractionPart_20 (by decide) rfl (by omega) (by omega) (fun c_20 => ?_) (fun c_20 => ?_)
    · refine gj_iload_n 28 dX7_fractionPart_27 rfl rfl ?_
      refine gj_iload 30 dX7_fractionPart_28 rfl rfl ?_
      refine gj_idiv 31 dX7_fractionPart_30 rfl (by omega) (by omega) ?_
      refine gj_iret dX7_fractionPart_31 rfl ⟨Nat.zero_le _, Nat.zero_le _⟩ ?_
      exact ⟨rfl, by (unfold e_fp; (repeat (first | rw [if_pos (by omega)] | rw [if_neg (by omega)])); try rfl), rfl⟩
    · refine gj_iload_n 24 dX7_fractionPart_23 rfl rfl ?_
      refine gj_goto 31 dX7_fractionPart_24 (by decide) ?_
      refine gj_iret dX7_fractionPart_31 rfl ⟨Nat.zero_le _, Nat.zero_le _⟩ ?_
      exact ⟨rfl, by (unfold e_fp; (repeat (first | rw [if_pos (by omega)] | rw [if_neg (by omega)])); try rfl), rfl⟩
  · refine gj_iload_n 5 dX7_fractionPart_4 rfl rfl ?_
    refine gj_goto 9 dX7_fractionPart_5 (by decide) ?_
    refine gj_istore_n (lv' := [_, _, _, _, _]) 10 dX7_fractionPart_9 rfl (by decide) rfl ?_
    refine gj_iload_n 11 dX7_fractionPart_10 rfl rfl ?_
    refine gj_iload_n 12 dX7_fractionPart_11 rfl rfl ?_
    refine gj_fS 15 dX7_fractionPart_12 rfl ok_7_commonDivisor ml_7_262 is_7_commonDivisor (As := [gI _, gI _]) rfl rfl (Nat.le_of_ble_eq_true rfl) ⟨Nat.le_of_ble_eq_true rfl, Nat.le_of_ble_eq_true rfl⟩ (Nat.le_of_ble_eq_true rfl) ⟨rfl, rfl⟩ ⟨Nat.zero_le _, Nat.zero_le _⟩ (s7_cd ha hb) ?_
    refine gj_istore (lv' := [_, _, _, _, _]) 17 dX7_fractionPart_15 rfl (by decide) rfl ?_
    refine gj_iload 19 dX7_fractionPart_17 rfl rfl ?_
    refine gj_iconst 20 dX7_fractionPart_19 rfl ?_
    refine gj_icmp_ge 27 23 dX7_fractionPart_20 (by decide) rfl (by omega) (by omega) (fun c_20 => ?_) (fun c_20 => ?_)
    · refine gj_iload_n 28 dX7_fractionPart_27 rfl rfl ?_
      refine gj_iload 30 dX7_fractionPart_28 rfl rfl ?_
      refine gj_idiv 31 dX7_fractionPart_30 rfl (by omega) (by omega) ?_
      refine gj_iret dX7_fractionPart_31 rfl ⟨Nat.zero_le _, Nat.zero_le _⟩ ?_
      exact ⟨rfl, by (unfold e_fp; (repeat (first | rw [if_pos (by omega)] | rw [if_neg (by omega)])); try rfl), rfl⟩
    · refine gj_iload_n 24 dX7_fractionPart_23 rfl rfl ?_
      refine gj_goto 31 dX7_fractionPart_24 (by decide) ?_
      refine gj_iret dX7_fractionPart_31 rfl ⟨Nat.zero_le _, Nat.zero_le _⟩ ?_
      exact ⟨rfl, by (unfold e_fp; (repeat (first | rw [if_pos (by omega)] | rw [if_neg (by omega)])); try rfl), rfl⟩

set_option maxRecDepth 100000 in
set_option maxHeartbeats 1000000 in
theorem s7_share {xt : Nat × (Nat → Int)} {M : gj_M} (hI : c_I M) {l u : Int} (hl : gj_in l) (hu : gj_in u) : gj_F xt Y7_share gS [gR 0, gI l, gI u] M (some (gI (x_share M l u))) M := by
  show gj_G _ Y7_share gS 0 0 0 [_, _, _] [] M _
  have hL := hI.1
  have hD := hI.2.1
  have hsw := hI.2.2.1
  refine gj_aload_n 1 dX7_share_0 rfl rfl ?_
  refine gj_iload_n 2 dX7_share_1 rfl rfl ?_
  refine gj_fV 5 dX7_share_2 rfl ok_7_isLevel ml_7_114 iv_7_isLevel (As := [gI _]) rfl rfl rfl rfl (Nat.le_of_ble_eq_true rfl) ⟨Nat.le_of_ble_eq_true rfl, Nat.le_of_ble_eq_true rfl⟩ (Nat.le_of_ble_eq_true rfl) ⟨rfl, rfl⟩ ⟨Nat.zero_le _, Nat.zero_le _⟩ (s7_isL hL hl) ?_
  have hc := x_isL_c M l
  have hsb := c_share_b hI l
  refine gj_if_ne 10 8 dX7_share_5 (by decide) rfl (by omega) (fun c_5 => ?_) (fun c_5 => ?_)
  · refine gj_aload_n 11 dX7_share_10 rfl rfl ?_
    refine gj_getfr 14 dX7_share_11 rfl fl_7_23 rfl rfl ?_
    refine gj_iload_n 15 dX7_share_14 rfl rfl ?_
    refine gj_fV 18 dX7_share_15 rfl ok_3_shareInTwelfths ml_7_226 iv_3_shareInTwelfths (As := [gI _]) rfl rfl rfl rfl (Nat.le_of_ble_eq_true rfl) ⟨Nat.le_of_ble_eq_true rfl, Nat.le_of_ble_eq_true rfl⟩ (Nat.le_of_ble_eq_true rfl) ⟨rfl, rfl⟩ ⟨Nat.zero_le _, Nat.zero_le _⟩ (s3_share hI (by omega)) ?_
    refine gj_bipush 20 dX7_share_18 rfl (by decide) ?_
    refine gj_iload_n 21 dX7_share_20 rfl rfl ?_
    refine gj_fS 24 dX7_share_21 rfl ok_7_fractionPart ml_7_229 is_7_fractionPart (As := [gI _, gI _, gI _]) rfl rfl (Nat.le_of_ble_eq_true rfl) ⟨Nat.le_of_ble_eq_true rfl, Nat.le_of_ble_eq_true rfl⟩ (Nat.le_of_ble_eq_true rfl) ⟨rfl, rfl⟩ ⟨Nat.zero_le _, Nat.zero_le _⟩ (s7_fp (by omega) (by omega) hu) ?_
    refine gj_iret dX7_share_24 rfl ⟨Nat.zero_le _, Nat.zero_le _⟩ ?_
    exact ⟨rfl, by (unfold x_share; (repeat (first | rw [if_pos (by omega)] | rw [if_neg (by omega)])); try rfl), rfl⟩
  · refine gj_iconst 9 dX7_share_8 rfl ?_
    refine gj_iret dX7_share_9 rfl ⟨Nat.zero_le _, Nat.zero_le _⟩ ?_
    exact ⟨rfl, by (unfold x_share; (repeat (first | rw [if_pos (by omega)] | rw [if_neg (by omega)])); try rfl), rfl⟩

set_option maxRecDepth 100000 in
set_option maxHeartbeats 1000000 in
theorem s7_lost_l {xt : Nat × (Nat → Int)} {M : gj_M} {f c x u : Int} (hI : c_I M) (hx : 0 ≤ x ∧ x ≤ 10) (hu : gj_in u) : ∀ (n k : Nat), (k : Int) + n = (c_lc M f c) → gj_G xt Y7_lost gS 0 0 47 [some (gR 0), some (gI f), some (gI c), some (gI x), some (gI u), some (gI (c_lc M f c)), some (gI (e_pw 10 k)), some (gI (e_pw x k)), some (gI (k : Int))] [] M (fun r S2 M2 => S2 = gS ∧ r = some (gI (e_fp (e_pw 10 (c_lc M f c).toNat - e_pw x (c_lc M f c).toNat) (e_pw 10 (c_lc M f c).toNat) u)) ∧ M2 = M) := by
  intro n
  induction n with
  | zero =>
    intro k hk
    have hlb := c_lc_b hI f c
    have hp1 := e_pw_le hx k (by omega)
    have hp2 := e_pw_b hx k (by omega)
    have hp3 := e_pw_b (x := 10) (by omega) k (by omega)
    refine gj_iload 49 dX7_lost_47 rfl rfl ?_
    refine gj_iload 51 dX7_lost_49 rfl rfl ?_
    refine gj_icmp_ge 73 54 dX7_lost_51 (by decide) rfl (by omega) (by omega) (fun c_51 => ?_) (fun c_51 => absurd c_51 (by omega))
    refine gj_iload 75 dX7_lost_73 rfl rfl ?_
    refine gj_iload 77 dX7_lost_75 rfl rfl ?_
    refine gj_isub 78 dX7_lost_77 rfl ?_
    refine gj_iload 80 dX7_lost_78 rfl rfl ?_
    refine gj_iload 82 dX7_lost_80 rfl rfl ?_
    refine gj_fS 85 dX7_lost_82 rfl ok_7_fractionPart ml_7_229 is_7_fractionPart (As := [gI _, gI _, gI _]) rfl rfl (Nat.le_of_ble_eq_true rfl) ⟨Nat.le_of_ble_eq_true rfl, Nat.le_of_ble_eq_true rfl⟩ (Nat.le_of_ble_eq_true rfl) ⟨rfl, rfl⟩ ⟨Nat.zero_le _, Nat.zero_le _⟩ (s7_fp (by omega) (by omega) hu) ?_
    refine gj_iret dX7_lost_85 rfl ⟨Nat.zero_le _, Nat.zero_le _⟩ ?_
    exact ⟨rfl, by rw [show k = (c_lc M f c).toNat by omega], rfl⟩
  | succ n ih =>
    intro k hk
    have hlb := c_lc_b hI f c
    have hp1 := e_pw_le hx k (by omega)
    have hp2 := e_pw_b hx k (by omega)
    have hp3 := e_pw_b (x := 10) (by omega) k (by omega)
    refine gj_iload 49 dX7_lost_47 rfl rfl ?_
    refine gj_iload 51 dX7_lost_49 rfl rfl ?_
    refine gj_icmp_ge 73 54 dX7_lost_51 (by decide) rfl (by omega) (by omega) (fun c_51 => absurd c_51 (by omega)) (fun c_51 => ?_)
    refine gj_iload 56 dX7_lost_54 rfl rfl ?_
    refine gj_bipush 58 dX7_lost_56 rfl (by decide) ?_
    refine gj_imul 59 dX7_lost_58 rfl ?_
    refine gj_istore (lv' := [_, _, _, _, _, _, _, _, _]) 61 dX7_lost_59 rfl (by decide) rfl ?_
    refine gj_iload 63 dX7_lost_61 rfl rfl ?_
    refine gj_iload_n 64 dX7_lost_63 rfl rfl ?_
    refine gj_imul 65 dX7_lost_64 rfl ?_
    refine gj_istore (lv' := [_, _, _, _, _, _, _, _, _]) 67 dX7_lost_65 rfl (by decide) rfl ?_
    refine gj_iinc (b := ((k + 1 : Nat) : Int)) (lv' := [_, _, _, _, _, _, _, _, _]) 70 dX7_lost_67 rfl rfl (by omega) (by decide) rfl ?_
    refine gj_goto 47 dX7_lost_70 (by decide) ?_
    exact gj_wk (ih (k + 1) (by omega)) ⟨rfl, rfl, rfl, rfl, rfl, rfl, rfl, rfl, rfl, trivial⟩

set_option maxRecDepth 100000 in
set_option maxHeartbeats 1000000 in
theorem s7_lost {xt : Nat × (Nat → Int)} {M : gj_M} (hI : c_I M) {f c x u : Int} (hf : gj_in f) (hc : gj_in c) (hx : gj_in x) (hu : gj_in u) : gj_F xt Y7_lost gS [gR 0, gI f, gI c, gI x, gI u] M (some (gI (x_lost M f c x u))) M := by
  show gj_G _ Y7_lost gS 0 0 0 [_, _, _, _, _, _, _, _, _] [] M _
  have hL := hI.1
  have hD := hI.2.1
  have hsw := hI.2.2.1
  refine gj_iload_n 1 dX7_lost_0 rfl rfl ?_
  refine gj_fS 4 dX7_lost_1 rfl ok_7_isFrame ml_7_132 is_7_isFrame (As := [gI _]) rfl rfl (Nat.le_of_ble_eq_true rfl) ⟨Nat.le_of_ble_eq_true rfl, Nat.le_of_ble_eq_true rfl⟩ (Nat.le_of_ble_eq_true rfl) ⟨rfl, rfl⟩ ⟨Nat.zero_le _, Nat.zero_le _⟩ (s7_isF hf) ?_
  have hc2 := x_isF_c f
  refine gj_if_eq 24 7 dX7_lost_4 (by decide) rfl (by omega) (fun c_4 => ?_) (fun c_4 => ?_)
  · refine gj_bipush 26 dX7_lost_24 rfl (by decide) ?_
    refine gj_iret dX7_lost_26 rfl ⟨Nat.zero_le _, Nat.zero_le _⟩ ?_
    exact ⟨rfl, by (unfold x_lost; (repeat (first | rw [if_pos (by omega)] | rw [if_neg (by omega)])); try rfl), rfl⟩
  · refine gj_iload_n 8 dX7_lost_7 rfl rfl ?_
    refine gj_fS 11 dX7_lost_8 rfl ok_7_isWindow ml_7_192 is_7_isWindow (As := [gI _]) rfl rfl (Nat.le_of_ble_eq_true rfl) ⟨Nat.le_of_ble_eq_true rfl, Nat.le_of_ble_eq_true rfl⟩ (Nat.le_of_ble_eq_true rfl) ⟨rfl, rfl⟩ ⟨Nat.zero_le _, Nat.zero_le _⟩ (s7_isW hc) ?_
    have hc3 := x_isW_c c
    refine gj_if_eq 24 14 dX7_lost_11 (by decide) rfl (by omega) (fun c_11 => ?_) (fun c_11 => ?_)
    · refine gj_bipush 26 dX7_lost_24 rfl (by decide) ?_
      refine gj_iret dX7_lost_26 rfl ⟨Nat.zero_le _, Nat.zero_le _⟩ ?_
      exact ⟨rfl, by (unfold x_lost; (repeat (first | rw [if_pos (by omega)] | rw [if_neg (by omega)])); try rfl), rfl⟩
    · refine gj_iload_n 15 dX7_lost_14 rfl rfl ?_
      refine gj_if_lt 24 18 dX7_lost_15 (by decide) rfl (by omega) (fun c_15 => ?_) (fun c_15 => ?_)
      · refine gj_bipush 26 dX7_lost_24 rfl (by decide) ?_
        refine gj_iret dX7_lost_26 rfl ⟨Nat.zero_le _, Nat.zero_le _⟩ ?_
        exact ⟨rfl, by (unfold x_lost; (repeat (first | rw [if_pos (by omega)] | rw [if_neg (by omega)])); try rfl), rfl⟩
      · refine gj_iload_n 19 dX7_lost_18 rfl rfl ?_
        refine gj_bipush 21 dX7_lost_19 rfl (by decide) ?_
        refine gj_icmp_le 27 24 dX7_lost_21 (by decide) rfl (by omega) (by omega) (fun c_21 => ?_) (fun c_21 => ?_)
        · refine gj_aload_n 28 dX7_lost_27 rfl rfl ?_
          refine gj_getfr 31 dX7_lost_28 rfl fl_7_23 rfl rfl ?_
          refine gj_iload_n 32 dX7_lost_31 rfl rfl ?_
          refine gj_iload_n 33 dX7_lost_32 rfl rfl ?_
          refine gj_fV 36 dX7_lost_33 rfl ok_3_levelsCovering ml_7_233 iv_3_levelsCovering (As := [gI _, gI _]) rfl rfl rfl rfl (Nat.le_of_ble_eq_true rfl) ⟨Nat.le_of_ble_eq_true rfl, Nat.le_of_ble_eq_true rfl⟩ (Nat.le_of_ble_eq_true rfl) ⟨rfl, rfl⟩ ⟨Nat.zero_le _, Nat.zero_le _⟩ (t3_levelsCovering hI (by omega) (by omega)) ?_
          refine gj_istore (lv' := [_, _, _, _, _, _, _, _, _]) 38 dX7_lost_36 rfl (by decide) rfl ?_
          refine gj_iconst 39 dX7_lost_38 rfl ?_
          refine gj_istore (lv' := [_, _, _, _, _, _, _, _, _]) 41 dX7_lost_39 rfl (by decide) rfl ?_
          refine gj_iconst 42 dX7_lost_41 rfl ?_
          refine gj_istore (lv' := [_, _, _, _, _, _, _, _, _]) 44 dX7_lost_42 rfl (by decide) rfl ?_
          refine gj_iconst 45 dX7_lost_44 rfl ?_
          refine gj_istore (lv' := [_, _, _, _, _, _, _, _, _]) 47 dX7_lost_45 rfl (by decide) rfl ?_
          have e : x_lost M f c x u = e_fp (e_pw 10 (c_lc M f c).toNat - e_pw x (c_lc M f c).toNat) (e_pw 10 (c_lc M f c).toNat) u := if_pos (by omega)
          have hlb := c_lc_b hI f c
          rw [e]
          exact gj_wk (s7_lost_l hI (by omega) hu (c_lc M f c).toNat 0 (by omega)) ⟨rfl, rfl, rfl, rfl, rfl, rfl, rfl, rfl, rfl, trivial⟩
        · refine gj_bipush 26 dX7_lost_24 rfl (by decide) ?_
          refine gj_iret dX7_lost_26 rfl ⟨Nat.zero_le _, Nat.zero_le _⟩ ?_
          exact ⟨rfl, by (unfold x_lost; (repeat (first | rw [if_pos (by omega)] | rw [if_neg (by omega)])); try rfl), rfl⟩

set_option maxRecDepth 100000 in
set_option maxHeartbeats 1000000 in
theorem s7_seed {xt : Nat × (Nat → Int)} {M : gj_M} {v : Int} : gj_F xt Y7_seed gS [gR 0, gL v] M (some (gL (M 5000 12))) (gj_u M 5000 12 v) := by
  show gj_G _ Y7_seed gS 0 0 0 [_, _, _, _, _] [] M _
  refine gj_aload_n 1 dX7_seed_0 rfl rfl ?_
  refine gj_getfl 4 dX7_seed_1 rfl fl_7_236 rfl rfl ?_
  refine gj_lstore_n (lv' := [_, _, _, _, _]) 5 dX7_seed_4 rfl (by decide) rfl ?_
  refine gj_aload_n 6 dX7_seed_5 rfl rfl ?_
  refine gj_lload_n 7 dX7_seed_6 rfl rfl ?_
  refine gj_putfl 10 dX7_seed_7 rfl fw_7_236 rfl rfl ?_
  refine gj_lload_n 11 dX7_seed_10 rfl rfl ?_
  refine gj_lret dX7_seed_11 rfl ⟨Nat.zero_le _, Nat.zero_le _⟩ ?_
  exact ⟨rfl, rfl, rfl⟩
