set_option maxRecDepth 100000 in
set_option maxHeartbeats 4000000 in
theorem s0_clear {xt : Nat × (Nat → Int)} {M : gj_M}  : gj_F xt Y0_clear gS [gR 35] M none (gj_u M 35 0 0) := by
  show gj_G _ Y0_clear gS 0 0 0 [_] [] M _
  refine gj_aload_n 1 dX0_clear_0 rfl rfl ?_
  refine gj_iconst 2 dX0_clear_1 rfl ?_
  refine gj_putfi 5 dX0_clear_2 rfl fw_0_15 rfl rfl (by omega) ?_
  refine gj_vret dX0_clear_5 rfl ⟨Nat.zero_le _, Nat.zero_le _⟩ ?_
  exact ⟨rfl, rfl, rfl⟩

set_option maxRecDepth 100000 in
set_option maxHeartbeats 4000000 in
theorem s0_forgetFirst {xt : Nat × (Nat → Int)} {M : gj_M}  : gj_F xt Y0_forgetFirst gS [gR 35] M none (k_fg M) := by
  show gj_G _ Y0_forgetFirst gS 0 0 0 [_] [] M _
  refine gj_aload_n 1 dX0_forgetFirst_0 rfl rfl ?_
  refine gj_getfr 4 dX0_forgetFirst_1 rfl fl_0_11 rfl rfl ?_
  refine gj_iconst 5 dX0_forgetFirst_4 rfl ?_
  refine gj_aload_n 6 dX0_forgetFirst_5 rfl rfl ?_
  refine gj_getfr 9 dX0_forgetFirst_6 rfl fl_0_11 rfl rfl ?_
  refine gj_iconst 10 dX0_forgetFirst_9 rfl ?_
  refine gj_bipush 12 dX0_forgetFirst_10 rfl (by decide) ?_
  refine gj_copy 15 dX0_forgetFirst_12 rfl ml_0_22 rfl rfl (by omega) (by omega) (by decide) (by decide) (Nat.le_of_ble_eq_true rfl) ?_
  refine gj_aload_n 16 dX0_forgetFirst_15 rfl rfl ?_
  refine gj_bipush 18 dX0_forgetFirst_16 rfl (by decide) ?_
  refine gj_putfi 21 dX0_forgetFirst_18 rfl fw_0_15 rfl rfl (by omega) ?_
  refine gj_vret dX0_forgetFirst_21 rfl ⟨Nat.zero_le _, Nat.zero_le _⟩ ?_
  exact ⟨rfl, rfl, rfl⟩

set_option maxRecDepth 100000 in
set_option maxHeartbeats 4000000 in
theorem s0_add_lt {xt : Nat × (Nat → Int)} {M : gj_M} {kd w a b c : Int} (hk : gj_in kd) (hw : gj_in w) (ha : gj_in a) (hb : gj_in b) (hc : gj_in c) (hs : 0 ≤ M 35 0 ∧ M 35 0 < 14) : gj_F xt Y0_add gS [gR 35, gI kd, gI w, gI a, gI b, gI c] M none (k_pt M kd w a b c) := by
  show gj_G _ Y0_add gS 0 0 0 [_, _, _, _, _, _, _] [] M _
  refine gj_aload_n 1 dX0_add_0 rfl rfl ?_
  refine gj_getfi 4 dX0_add_1 rfl fl_0_15 rfl rfl (fun r_1 => ?_)
  refine gj_bipush 6 dX0_add_4 rfl (by decide) ?_
  refine gj_icmp_lt 13 9 dX0_add_6 (by decide) rfl (by omega) (by omega) (fun c_6 => ?_) (fun c_6 => absurd c_6 (by omega))
  refine gj_aload_n 14 dX0_add_13 rfl rfl ?_
  refine gj_getfiE (M 35 0) 17 dX0_add_14 rfl fl_0_15 rfl rfl rfl (fun r_14 => ?_)
  refine gj_iconst 18 dX0_add_17 rfl ?_
  refine gj_imul 19 dX0_add_18 rfl ?_
  refine gj_istore (lv' := [_, _, _, _, _, _, _]) 21 dX0_add_19 rfl (by decide) rfl ?_
  refine gj_aload_n 22 dX0_add_21 rfl rfl ?_
  refine gj_getfr 25 dX0_add_22 rfl fl_0_11 rfl rfl ?_
  refine gj_iload 27 dX0_add_25 rfl rfl ?_
  refine gj_iload_n 28 dX0_add_27 rfl rfl ?_
  refine gj_iast 29 dX0_add_28 rfl rfl (by omega) (by omega) (by omega) ?_
  refine gj_aload_n 30 dX0_add_29 rfl rfl ?_
  refine gj_getfr 33 dX0_add_30 rfl fl_0_11 rfl rfl ?_
  refine gj_iload 35 dX0_add_33 rfl rfl ?_
  refine gj_iconst 36 dX0_add_35 rfl ?_
  refine gj_iadd 37 dX0_add_36 rfl ?_
  refine gj_iload_n 38 dX0_add_37 rfl rfl ?_
  refine gj_iast 39 dX0_add_38 rfl rfl (by omega) (by omega) (by omega) ?_
  refine gj_aload_n 40 dX0_add_39 rfl rfl ?_
  refine gj_getfr 43 dX0_add_40 rfl fl_0_11 rfl rfl ?_
  refine gj_iload 45 dX0_add_43 rfl rfl ?_
  refine gj_iconst 46 dX0_add_45 rfl ?_
  refine gj_iadd 47 dX0_add_46 rfl ?_
  refine gj_iload_n 48 dX0_add_47 rfl rfl ?_
  refine gj_iast 49 dX0_add_48 rfl rfl (by omega) (by omega) (by omega) ?_
  refine gj_aload_n 50 dX0_add_49 rfl rfl ?_
  refine gj_getfr 53 dX0_add_50 rfl fl_0_11 rfl rfl ?_
  refine gj_iload 55 dX0_add_53 rfl rfl ?_
  refine gj_iconst 56 dX0_add_55 rfl ?_
  refine gj_iadd 57 dX0_add_56 rfl ?_
  refine gj_iload 59 dX0_add_57 rfl rfl ?_
  refine gj_iast 60 dX0_add_59 rfl rfl (by omega) (by omega) (by omega) ?_
  refine gj_aload_n 61 dX0_add_60 rfl rfl ?_
  refine gj_getfr 64 dX0_add_61 rfl fl_0_11 rfl rfl ?_
  refine gj_iload 66 dX0_add_64 rfl rfl ?_
  refine gj_iconst 67 dX0_add_66 rfl ?_
  refine gj_iadd 68 dX0_add_67 rfl ?_
  refine gj_iload 70 dX0_add_68 rfl rfl ?_
  refine gj_iast 71 dX0_add_70 rfl rfl (by omega) (by omega) (by omega) ?_
  refine gj_aload_n 72 dX0_add_71 rfl rfl ?_
  refine gj_dup 73 dX0_add_72 rfl (fun _ => rfl) ?_
  refine gj_getfiE (M 35 0) 76 dX0_add_73 rfl fl_0_15 rfl rfl rfl (fun r_73 => ?_)
  refine gj_iconst 77 dX0_add_76 rfl ?_
  refine gj_iadd 78 dX0_add_77 rfl ?_
  refine gj_putfi 81 dX0_add_78 rfl fw_0_15 rfl rfl (by omega) ?_
  refine gj_vret dX0_add_81 rfl ⟨Nat.zero_le _, Nat.zero_le _⟩ ?_
  exact ⟨rfl, rfl, rfl⟩

set_option maxRecDepth 100000 in
set_option maxHeartbeats 4000000 in
theorem s0_add_ge {xt : Nat × (Nat → Int)} {M : gj_M} {kd w a b c : Int} (hk : gj_in kd) (hw : gj_in w) (ha : gj_in a) (hb : gj_in b) (hc : gj_in c) (hs : M 35 0 = 14) : gj_F xt Y0_add gS [gR 35, gI kd, gI w, gI a, gI b, gI c] M none (k_pt (k_fg M) kd w a b c) := by
  show gj_G _ Y0_add gS 0 0 0 [_, _, _, _, _, _, _] [] M _
  refine gj_aload_n 1 dX0_add_0 rfl rfl ?_
  refine gj_getfi 4 dX0_add_1 rfl fl_0_15 rfl rfl (fun r_1 => ?_)
  refine gj_bipush 6 dX0_add_4 rfl (by decide) ?_
  refine gj_icmp_lt 13 9 dX0_add_6 (by decide) rfl (by omega) (by omega) (fun c_6 => absurd c_6 (by omega)) (fun c_6 => ?_)
  refine gj_aload_n 10 dX0_add_9 rfl rfl ?_
  refine gj_vV 13 dX0_add_10 rfl ok_0_forgetFirst ml_0_19 iv_0_forgetFirst (As := []) rfl rfl rfl rfl (Nat.le_of_ble_eq_true rfl) ⟨Nat.le_of_ble_eq_true rfl, Nat.le_of_ble_eq_true rfl⟩ (Nat.le_of_ble_eq_true rfl) ⟨rfl, rfl⟩ ⟨Nat.zero_le _, Nat.zero_le _⟩ (s0_forgetFirst) ?_
  refine gj_aload_n 14 dX0_add_13 rfl rfl ?_
  refine gj_getfiE (k_fg M 35 0) 17 dX0_add_14 rfl fl_0_15 rfl rfl rfl (fun r_14 => ?_)
  have h13 : k_fg M 35 0 = 13 := rfl
  refine gj_iconst 18 dX0_add_17 rfl ?_
  refine gj_imul 19 dX0_add_18 rfl ?_
  refine gj_istore (lv' := [_, _, _, _, _, _, _]) 21 dX0_add_19 rfl (by decide) rfl ?_
  refine gj_aload_n 22 dX0_add_21 rfl rfl ?_
  refine gj_getfr 25 dX0_add_22 rfl fl_0_11 rfl rfl ?_
  refine gj_iload 27 dX0_add_25 rfl rfl ?_
  refine gj_iload_n 28 dX0_add_27 rfl rfl ?_
  refine gj_iast 29 dX0_add_28 rfl rfl (by omega) (by omega) (by omega) ?_
  refine gj_aload_n 30 dX0_add_29 rfl rfl ?_
  refine gj_getfr 33 dX0_add_30 rfl fl_0_11 rfl rfl ?_
  refine gj_iload 35 dX0_add_33 rfl rfl ?_
  refine gj_iconst 36 dX0_add_35 rfl ?_
  refine gj_iadd 37 dX0_add_36 rfl ?_
  refine gj_iload_n 38 dX0_add_37 rfl rfl ?_
  refine gj_iast 39 dX0_add_38 rfl rfl (by omega) (by omega) (by omega) ?_
  refine gj_aload_n 40 dX0_add_39 rfl rfl ?_
  refine gj_getfr 43 dX0_add_40 rfl fl_0_11 rfl rfl ?_
  refine gj_iload 45 dX0_add_43 rfl rfl ?_
  refine gj_iconst 46 dX0_add_45 rfl ?_
  refine gj_iadd 47 dX0_add_46 rfl ?_
  refine gj_iload_n 48 dX0_add_47 rfl rfl ?_
  refine gj_iast 49 dX0_add_48 rfl rfl (by omega) (by omega) (by omega) ?_
  refine gj_aload_n 50 dX0_add_49 rfl rfl ?_
  refine gj_getfr 53 dX0_add_50 rfl fl_0_11 rfl rfl ?_
  refine gj_iload 55 dX0_add_53 rfl rfl ?_
  refine gj_iconst 56 dX0_add_55 rfl ?_
  refine gj_iadd 57 dX0_add_56 rfl ?_
  refine gj_iload 59 dX0_add_57 rfl rfl ?_
  refine gj_iast 60 dX0_add_59 rfl rfl (by omega) (by omega) (by omega) ?_
  refine gj_aload_n 61 dX0_add_60 rfl rfl ?_
  refine gj_getfr 64 dX0_add_61 rfl fl_0_11 rfl rfl ?_
  refine gj_iload 66 dX0_add_64 rfl rfl ?_
  refine gj_iconst 67 dX0_add_66 rfl ?_
  refine gj_iadd 68 dX0_add_67 rfl ?_
  refine gj_iload 70 dX0_add_68 rfl rfl ?_
  refine gj_iast 71 dX0_add_70 rfl rfl (by omega) (by omega) (by omega) ?_
  refine gj_aload_n 72 dX0_add_71 rfl rfl ?_
  refine gj_dup 73 dX0_add_72 rfl (fun _ => rfl) ?_
  refine gj_getfiE (k_fg M 35 0) 76 dX0_add_73 rfl fl_0_15 rfl rfl rfl (fun r_73 => ?_)
  refine gj_iconst 77 dX0_add_76 rfl ?_
  refine gj_iadd 78 dX0_add_77 rfl ?_
  refine gj_putfi 81 dX0_add_78 rfl fw_0_15 rfl rfl (by omega) ?_
  refine gj_vret dX0_add_81 rfl ⟨Nat.zero_le _, Nat.zero_le _⟩ ?_
  exact ⟨rfl, rfl, rfl⟩

theorem s0_add {xt : Nat × (Nat → Int)} {M : gj_M} {kd w a b c : Int} (hk : gj_in kd) (hw : gj_in w) (ha : gj_in a) (hb : gj_in b) (hc : gj_in c) (hs : 0 ≤ M 35 0 ∧ M 35 0 ≤ 14) : gj_F xt Y0_add gS [gR 35, gI kd, gI w, gI a, gI b, gI c] M none (k_ad M kd w a b c) := by
  unfold k_ad
  split
  · exact s0_add_lt hk hw ha hb hc (by omega)
  · exact s0_add_ge hk hw ha hb hc (by omega)

set_option maxRecDepth 100000 in
set_option maxHeartbeats 4000000 in
theorem s0_back {xt : Nat × (Nat → Int)} {M : gj_M} (hs : 1 ≤ M 35 0 ∧ M 35 0 ≤ 14) (hk : k_ok M (M 36 ((M 35 0 - 1) * 5)) (M 36 ((M 35 0 - 1) * 5 + 1))) : gj_F xt Y0_takeBackLast gS [gR 35, gR 15] M none (k_bk M) := by
  show gj_G _ Y0_takeBackLast gS 0 0 0 [_, _, _, _] [] M _
  unfold k_ok at hk
  refine gj_aload_n 1 dX0_takeBackLast_0 rfl rfl ?_
  refine gj_getfi 4 dX0_takeBackLast_1 rfl fl_0_15 rfl rfl (fun r_1 => ?_)
  refine gj_iconst 5 dX0_takeBackLast_4 rfl ?_
  refine gj_icmp_ge 9 8 dX0_takeBackLast_5 (by decide) rfl (by omega) (by omega) (fun c_5 => ?_) (fun c_5 => absurd c_5 (by omega))
  refine gj_aload_n 10 dX0_takeBackLast_9 rfl rfl ?_
  refine gj_dup 11 dX0_takeBackLast_10 rfl (fun _ => rfl) ?_
  refine gj_getfi 14 dX0_takeBackLast_11 rfl fl_0_15 rfl rfl (fun r_11 => ?_)
  refine gj_iconst 15 dX0_takeBackLast_14 rfl ?_
  refine gj_isub 16 dX0_takeBackLast_15 rfl ?_
  refine gj_putfi 19 dX0_takeBackLast_16 rfl fw_0_15 rfl rfl (by omega) ?_
  refine gj_aload_n 20 dX0_takeBackLast_19 rfl rfl ?_
  refine gj_getfiE (M 35 0 - 1) 23 dX0_takeBackLast_20 rfl fl_0_15 rfl rfl rfl (fun r_20 => ?_)
  refine gj_iconst 24 dX0_takeBackLast_23 rfl ?_
  refine gj_imul 25 dX0_takeBackLast_24 rfl ?_
  refine gj_istore_n (lv' := [_, _, _, _]) 26 dX0_takeBackLast_25 rfl (by decide) rfl ?_
  refine gj_aload_n 27 dX0_takeBackLast_26 rfl rfl ?_
  refine gj_getfr 30 dX0_takeBackLast_27 rfl fl_0_11 rfl rfl ?_
  refine gj_iload_n 31 dX0_takeBackLast_30 rfl rfl ?_
  refine gj_iconst 32 dX0_takeBackLast_31 rfl ?_
  refine gj_iadd 33 dX0_takeBackLast_32 rfl ?_
  refine gj_ialdE (M 36 ((M 35 0 - 1) * 5 + 1)) 34 dX0_takeBackLast_33 rfl rfl (by omega) (by omega) rfl (fun r_33 => ?_)
  refine gj_istore_n (lv' := [_, _, _, _]) 35 dX0_takeBackLast_34 rfl (by decide) rfl ?_
  refine gj_aload_n 36 dX0_takeBackLast_35 rfl rfl ?_
  refine gj_getfr 39 dX0_takeBackLast_36 rfl fl_0_11 rfl rfl ?_
  refine gj_iload_n 40 dX0_takeBackLast_39 rfl rfl ?_
  refine gj_ialdE (M 36 ((M 35 0 - 1) * 5)) 41 dX0_takeBackLast_40 rfl rfl (by omega) (by omega) rfl (fun r_40 => ?_)
  rcases (show M 36 ((M 35 0 - 1) * 5) = 0 ∨ M 36 ((M 35 0 - 1) * 5) = 1 ∨ M 36 ((M 35 0 - 1) * 5) = 2 ∨ M 36 ((M 35 0 - 1) * 5) = 3 ∨ (M 36 ((M 35 0 - 1) * 5) < 0 ∨ 3 < M 36 ((M 35 0 - 1) * 5)) by omega) with t_41 | t_41 | t_41 | t_41 | t_41
  · refine gj_tabI (off := 31) 72 dX0_takeBackLast_41 (by omega) (by omega) (by rw [t_41]; rfl) (by decide) ?_
    refine gj_aload_n 73 dX0_takeBackLast_72 rfl rfl ?_
    refine gj_getfr 76 dX0_takeBackLast_73 rfl fl_0_28 rfl rfl ?_
    refine gj_iload_n 77 dX0_takeBackLast_76 rfl rfl ?_
    refine gj_aload_n 78 dX0_takeBackLast_77 rfl rfl ?_
    refine gj_getfr 81 dX0_takeBackLast_78 rfl fl_0_11 rfl rfl ?_
    refine gj_iload_n 82 dX0_takeBackLast_81 rfl rfl ?_
    refine gj_iconst 83 dX0_takeBackLast_82 rfl ?_
    refine gj_iadd 84 dX0_takeBackLast_83 rfl ?_
    refine gj_ialdE (M 36 ((M 35 0 - 1) * 5 + 2)) 85 dX0_takeBackLast_84 rfl rfl (by omega) (by omega) rfl (fun r_84 => ?_)
    refine gj_iast 86 dX0_takeBackLast_85 rfl rfl (by omega) (by omega) (by omega) ?_
    refine gj_aload_n 87 dX0_takeBackLast_86 rfl rfl ?_
    refine gj_getfr 90 dX0_takeBackLast_87 rfl fl_0_33 rfl rfl ?_
    refine gj_iload_n 91 dX0_takeBackLast_90 rfl rfl ?_
    refine gj_aload_n 92 dX0_takeBackLast_91 rfl rfl ?_
    refine gj_getfr 95 dX0_takeBackLast_92 rfl fl_0_11 rfl rfl ?_
    refine gj_iload_n 96 dX0_takeBackLast_95 rfl rfl ?_
    refine gj_iconst 97 dX0_takeBackLast_96 rfl ?_
    refine gj_iadd 98 dX0_takeBackLast_97 rfl ?_
    refine gj_ialdE (M 36 ((M 35 0 - 1) * 5 + 3)) 99 dX0_takeBackLast_98 rfl rfl (by omega) (by omega) rfl (fun r_98 => ?_)
    refine gj_iast 100 dX0_takeBackLast_99 rfl rfl (by omega) (by omega) (by omega) ?_
    refine gj_goto 180 dX0_takeBackLast_100 (by decide) ?_
    refine gj_vret dX0_takeBackLast_180 rfl ⟨Nat.zero_le _, Nat.zero_le _⟩ ?_
    refine ⟨rfl, rfl, ?_⟩
    unfold k_bk k_in
    repeat (first | rw [if_pos (by omega)] | rw [if_neg (by omega)])
  · refine gj_tabI (off := 62) 103 dX0_takeBackLast_41 (by omega) (by omega) (by rw [t_41]; rfl) (by decide) ?_
    refine gj_aload_n 104 dX0_takeBackLast_103 rfl rfl ?_
    refine gj_getfr 107 dX0_takeBackLast_104 rfl fl_0_36 rfl rfl ?_
    refine gj_iload_n 108 dX0_takeBackLast_107 rfl rfl ?_
    refine gj_aload_n 109 dX0_takeBackLast_108 rfl rfl ?_
    refine gj_getfr 112 dX0_takeBackLast_109 rfl fl_0_11 rfl rfl ?_
    refine gj_iload_n 113 dX0_takeBackLast_112 rfl rfl ?_
    refine gj_iconst 114 dX0_takeBackLast_113 rfl ?_
    refine gj_iadd 115 dX0_takeBackLast_114 rfl ?_
    refine gj_ialdE (M 36 ((M 35 0 - 1) * 5 + 2)) 116 dX0_takeBackLast_115 rfl rfl (by omega) (by omega) rfl (fun r_115 => ?_)
    refine gj_iast 117 dX0_takeBackLast_116 rfl rfl (by omega) (by omega) (by omega) ?_
    refine gj_goto 180 dX0_takeBackLast_117 (by decide) ?_
    refine gj_vret dX0_takeBackLast_180 rfl ⟨Nat.zero_le _, Nat.zero_le _⟩ ?_
    refine ⟨rfl, rfl, ?_⟩
    unfold k_bk k_in
    repeat (first | rw [if_pos (by omega)] | rw [if_neg (by omega)])
  · refine gj_tabI (off := 79) 120 dX0_takeBackLast_41 (by omega) (by omega) (by rw [t_41]; rfl) (by decide) ?_
    refine gj_aload_n 121 dX0_takeBackLast_120 rfl rfl ?_
    refine gj_iload_n 122 dX0_takeBackLast_121 rfl rfl ?_
    refine gj_aload_n 123 dX0_takeBackLast_122 rfl rfl ?_
    refine gj_getfr 126 dX0_takeBackLast_123 rfl fl_0_11 rfl rfl ?_
    refine gj_iload_n 127 dX0_takeBackLast_126 rfl rfl ?_
    refine gj_iconst 128 dX0_takeBackLast_127 rfl ?_
    refine gj_iadd 129 dX0_takeBackLast_128 rfl ?_
    refine gj_ialdE (M 36 ((M 35 0 - 1) * 5 + 2)) 130 dX0_takeBackLast_129 rfl rfl (by omega) (by omega) rfl (fun r_129 => ?_)
    refine gj_aload_n 131 dX0_takeBackLast_130 rfl rfl ?_
    refine gj_getfr 134 dX0_takeBackLast_131 rfl fl_0_11 rfl rfl ?_
    refine gj_iload_n 135 dX0_takeBackLast_134 rfl rfl ?_
    refine gj_iconst 136 dX0_takeBackLast_135 rfl ?_
    refine gj_iadd 137 dX0_takeBackLast_136 rfl ?_
    refine gj_ialdE (M 36 ((M 35 0 - 1) * 5 + 3)) 138 dX0_takeBackLast_137 rfl rfl (by omega) (by omega) rfl (fun r_137 => ?_)
    refine gj_aload_n 139 dX0_takeBackLast_138 rfl rfl ?_
    refine gj_getfr 142 dX0_takeBackLast_139 rfl fl_0_11 rfl rfl ?_
    refine gj_iload_n 143 dX0_takeBackLast_142 rfl rfl ?_
    refine gj_iconst 144 dX0_takeBackLast_143 rfl ?_
    refine gj_iadd 145 dX0_takeBackLast_144 rfl ?_
    refine gj_ialdE (M 36 ((M 35 0 - 1) * 5 + 4)) 146 dX0_takeBackLast_145 rfl rfl (by omega) (by omega) rfl (fun r_145 => ?_)
    refine gj_vV 149 dX0_takeBackLast_146 rfl ok_4_tellPan ml_0_39 iv_4_tellPan (As := [gI _, gI _, gI _, gI _]) rfl rfl rfl rfl (Nat.le_of_ble_eq_true rfl) ⟨Nat.le_of_ble_eq_true rfl, Nat.le_of_ble_eq_true rfl⟩ (Nat.le_of_ble_eq_true rfl) ⟨rfl, rfl⟩ ⟨Nat.zero_le _, Nat.zero_le _⟩ (s4_tellPan (by omega) r_129 r_137 r_145) ?_
    refine gj_goto 180 dX0_takeBackLast_149 (by decide) ?_
    refine gj_vret dX0_takeBackLast_180 rfl ⟨Nat.zero_le _, Nat.zero_le _⟩ ?_
    refine ⟨rfl, rfl, ?_⟩
    unfold k_bk k_in
    repeat (first | rw [if_pos (by omega)] | rw [if_neg (by omega)])
  · refine gj_tabI (off := 111) 152 dX0_takeBackLast_41 (by omega) (by omega) (by rw [t_41]; rfl) (by decide) ?_
    refine gj_aload_n 153 dX0_takeBackLast_152 rfl rfl ?_
    refine gj_fV 156 dX0_takeBackLast_153 rfl ok_4_dropSwitch ml_0_43 iv_4_dropSwitch (As := []) rfl rfl rfl rfl (Nat.le_of_ble_eq_true rfl) ⟨Nat.le_of_ble_eq_true rfl, Nat.le_of_ble_eq_true rfl⟩ (Nat.le_of_ble_eq_true rfl) ⟨rfl, rfl⟩ ⟨Nat.zero_le _, Nat.zero_le _⟩ (s4_dropSwitch1 (by show 1 ≤ M 15 6; omega)) ?_
    refine gj_pop 157 dX0_takeBackLast_156 rfl (fun _ => rfl) ?_
    refine gj_goto 180 dX0_takeBackLast_157 (by decide) ?_
    refine gj_vret dX0_takeBackLast_180 rfl ⟨Nat.zero_le _, Nat.zero_le _⟩ ?_
    refine ⟨rfl, rfl, ?_⟩
    unfold k_bk k_in
    repeat (first | rw [if_pos (by omega)] | rw [if_neg (by omega)])
  · refine gj_tabO 160 dX0_takeBackLast_41 (by omega) t_41 (by decide) ?_
    refine gj_aload_n 161 dX0_takeBackLast_160 rfl rfl ?_
    refine gj_aload_n 162 dX0_takeBackLast_161 rfl rfl ?_
    refine gj_getfr 165 dX0_takeBackLast_162 rfl fl_0_11 rfl rfl ?_
    refine gj_iload_n 166 dX0_takeBackLast_165 rfl rfl ?_
    refine gj_iconst 167 dX0_takeBackLast_166 rfl ?_
    refine gj_iadd 168 dX0_takeBackLast_167 rfl ?_
    refine gj_ialdE (M 36 ((M 35 0 - 1) * 5 + 2)) 169 dX0_takeBackLast_168 rfl rfl (by omega) (by omega) rfl (fun r_168 => ?_)
    refine gj_aload_n 170 dX0_takeBackLast_169 rfl rfl ?_
    refine gj_getfr 173 dX0_takeBackLast_170 rfl fl_0_11 rfl rfl ?_
    refine gj_iload_n 174 dX0_takeBackLast_173 rfl rfl ?_
    refine gj_iconst 175 dX0_takeBackLast_174 rfl ?_
    refine gj_iadd 176 dX0_takeBackLast_175 rfl ?_
    refine gj_ialdE (M 36 ((M 35 0 - 1) * 5 + 3)) 177 dX0_takeBackLast_176 rfl rfl (by omega) (by omega) rfl (fun r_176 => ?_)
    refine gj_vV 180 dX0_takeBackLast_177 rfl ok_4_addSwitch ml_0_47 iv_4_addSwitch (As := [gI _, gI _]) rfl rfl rfl rfl (Nat.le_of_ble_eq_true rfl) ⟨Nat.le_of_ble_eq_true rfl, Nat.le_of_ble_eq_true rfl⟩ (Nat.le_of_ble_eq_true rfl) ⟨rfl, rfl⟩ ⟨Nat.zero_le _, Nat.zero_le _⟩ (s4_addSwitch (by show 0 ≤ M 15 6 ∧ M 15 6 < 4; omega) r_168 r_176) ?_
    refine gj_vret dX0_takeBackLast_180 rfl ⟨Nat.zero_le _, Nat.zero_le _⟩ ?_
    refine ⟨rfl, rfl, ?_⟩
    unfold k_bk k_in
    repeat (first | rw [if_pos (by omega)] | rw [if_neg (by omega)])

set_option maxRecDepth 100000 in
set_option maxHeartbeats 4000000 in
theorem s6_clear {xt : Nat × (Nat → Int)} {M : gj_M}  : gj_F xt Y6_clear gS [gR 37] M none (gj_u M 37 0 0) := by
  show gj_G _ Y6_clear gS 0 0 0 [_] [] M _
  refine gj_aload_n 1 dX6_clear_0 rfl rfl ?_
  refine gj_iconst 2 dX6_clear_1 rfl ?_
  refine gj_putfi 5 dX6_clear_2 rfl fw_6_21 rfl rfl (by omega) ?_
  refine gj_vret dX6_clear_5 rfl ⟨Nat.zero_le _, Nat.zero_le _⟩ ?_
  exact ⟨rfl, rfl, rfl⟩

set_option maxRecDepth 100000 in
set_option maxHeartbeats 4000000 in
theorem s6_add {xt : Nat × (Nat → Int)} {M : gj_M} {f c v : Int} (hs : 0 ≤ M 37 0 ∧ M 37 0 < 6) (hf : gj_in f) (hc : gj_in c) (hv : gj_in v) : gj_F xt Y6_add gS [gR 37, gI f, gI c, gI v] M none (g_ad M f c v) := by
  show gj_G _ Y6_add gS 0 0 0 [_, _, _, _] [] M _
  refine gj_aload_n 1 dX6_add_0 rfl rfl ?_
  refine gj_getfi 4 dX6_add_1 rfl fl_6_21 rfl rfl (fun r_1 => ?_)
  refine gj_bipush 6 dX6_add_4 rfl (by decide) ?_
  refine gj_icmp_ge 49 9 dX6_add_6 (by decide) rfl (by omega) (by omega) (fun c_6 => absurd c_6 (by omega)) (fun c_6 => ?_)
  refine gj_aload_n 10 dX6_add_9 rfl rfl ?_
  refine gj_getfr 13 dX6_add_10 rfl fl_6_9 rfl rfl ?_
  refine gj_aload_n 14 dX6_add_13 rfl rfl ?_
  refine gj_getfiE (M 37 0) 17 dX6_add_14 rfl fl_6_21 rfl rfl rfl (fun r_14 => ?_)
  refine gj_iload_n 18 dX6_add_17 rfl rfl ?_
  refine gj_iast 19 dX6_add_18 rfl rfl (by omega) (by omega) (by omega) ?_
  refine gj_aload_n 20 dX6_add_19 rfl rfl ?_
  refine gj_getfr 23 dX6_add_20 rfl fl_6_15 rfl rfl ?_
  refine gj_aload_n 24 dX6_add_23 rfl rfl ?_
  refine gj_getfiE (M 37 0) 27 dX6_add_24 rfl fl_6_21 rfl rfl rfl (fun r_24 => ?_)
  refine gj_iload_n 28 dX6_add_27 rfl rfl ?_
  refine gj_iast 29 dX6_add_28 rfl rfl (by omega) (by omega) (by omega) ?_
  refine gj_aload_n 30 dX6_add_29 rfl rfl ?_
  refine gj_getfr 33 dX6_add_30 rfl fl_6_18 rfl rfl ?_
  refine gj_aload_n 34 dX6_add_33 rfl rfl ?_
  refine gj_getfiE (M 37 0) 37 dX6_add_34 rfl fl_6_21 rfl rfl rfl (fun r_34 => ?_)
  refine gj_iload_n 38 dX6_add_37 rfl rfl ?_
  refine gj_iast 39 dX6_add_38 rfl rfl (by omega) (by omega) (by omega) ?_
  refine gj_aload_n 40 dX6_add_39 rfl rfl ?_
  refine gj_dup 41 dX6_add_40 rfl (fun _ => rfl) ?_
  refine gj_getfiE (M 37 0) 44 dX6_add_41 rfl fl_6_21 rfl rfl rfl (fun r_41 => ?_)
  refine gj_iconst 45 dX6_add_44 rfl ?_
  refine gj_iadd 46 dX6_add_45 rfl ?_
  refine gj_putfi 49 dX6_add_46 rfl fw_6_21 rfl rfl (by omega) ?_
  refine gj_vret dX6_add_49 rfl ⟨Nat.zero_le _, Nat.zero_le _⟩ ?_
  exact ⟨rfl, rfl, rfl⟩

set_option maxRecDepth 100000 in
set_option maxHeartbeats 4000000 in
theorem s6_all_l {xt : Nat × (Nat → Int)} {M : gj_M} {d : Int} (hI : c_I M) (hd : gj_in d) (hs : 0 ≤ M 37 0 ∧ M 37 0 ≤ 6) (hg : ∀ i : Int, 0 ≤ i → i < M 37 0 → (0 ≤ M 38 i ∧ M 38 i < 48) ∧ 0 ≤ M 39 i ∧ M 39 i < 10) : ∀ (n k : Nat), (k : Int) + n = M 37 0 → gj_G xt Y6_allSoWithout gS 0 0 2 [some (gR 37), some (gI d), some (gR 9), some (gI (k : Int))] [] M (fun r S2 M2 => S2 = gS ∧ r = some (gI (g_al M d n k)) ∧ M2 = M) := by
  intro n
  induction n with
  | zero =>
    intro k hk
    refine gj_iload_n 3 dX6_allSoWithout_2 rfl rfl ?_
    refine gj_aload_n 4 dX6_allSoWithout_3 rfl rfl ?_
    refine gj_getfi 7 dX6_allSoWithout_4 rfl fl_6_21 rfl rfl (fun r_4 => ?_)
    refine gj_icmp_ge 44 10 dX6_allSoWithout_7 (by decide) rfl (by omega) (by omega) (fun c_7 => ?_) (fun c_7 => absurd c_7 (by omega))
    refine gj_iconst 45 dX6_allSoWithout_44 rfl ?_
    refine gj_zret dX6_allSoWithout_45 rfl (by decide) ⟨Nat.zero_le _, Nat.zero_le _⟩ ?_
    exact ⟨rfl, rfl, rfl⟩
  | succ n ih =>
    intro k hk
    refine gj_iload_n 3 dX6_allSoWithout_2 rfl rfl ?_
    refine gj_aload_n 4 dX6_allSoWithout_3 rfl rfl ?_
    refine gj_getfi 7 dX6_allSoWithout_4 rfl fl_6_21 rfl rfl (fun r_4 => ?_)
    refine gj_icmp_ge 44 10 dX6_allSoWithout_7 (by decide) rfl (by omega) (by omega) (fun c_7 => absurd c_7 (by omega)) (fun c_7 => ?_)
    have hv := hg k (by omega) (by omega)
    have hb := c_seen_in hI (M 38 k) (M 39 k) d
    refine gj_aload_n 11 dX6_allSoWithout_10 rfl rfl ?_
    refine gj_aload_n 12 dX6_allSoWithout_11 rfl rfl ?_
    refine gj_getfr 15 dX6_allSoWithout_12 rfl fl_6_9 rfl rfl ?_
    refine gj_iload_n 16 dX6_allSoWithout_15 rfl rfl ?_
    refine gj_iald 17 dX6_allSoWithout_16 rfl rfl (by omega) (by omega) (fun r_16 => ?_)
    refine gj_aload_n 18 dX6_allSoWithout_17 rfl rfl ?_
    refine gj_getfr 21 dX6_allSoWithout_18 rfl fl_6_15 rfl rfl ?_
    refine gj_iload_n 22 dX6_allSoWithout_21 rfl rfl ?_
    refine gj_iald 23 dX6_allSoWithout_22 rfl rfl (by omega) (by omega) (fun r_22 => ?_)
    refine gj_iload_n 24 dX6_allSoWithout_23 rfl rfl ?_
    refine gj_fV 27 dX6_allSoWithout_24 rfl ok_3_seenAt ml_6_25 iv_3_seenAt (As := [gI _, gI _, gI _]) rfl rfl rfl rfl (Nat.le_of_ble_eq_true rfl) ⟨Nat.le_of_ble_eq_true rfl, Nat.le_of_ble_eq_true rfl⟩ (Nat.le_of_ble_eq_true rfl) ⟨rfl, rfl⟩ ⟨Nat.zero_le _, Nat.zero_le _⟩ (t3_seenAt hI (by omega) (by omega) hd) ?_
    refine gj_aload_n 28 dX6_allSoWithout_27 rfl rfl ?_
    refine gj_getfr 31 dX6_allSoWithout_28 rfl fl_6_18 rfl rfl ?_
    refine gj_iload_n 32 dX6_allSoWithout_31 rfl rfl ?_
    refine gj_iald 33 dX6_allSoWithout_32 rfl rfl (by omega) (by omega) (fun r_32 => ?_)
    refine gj_icmp_eq 38 36 dX6_allSoWithout_33 (by decide) rfl (by omega) (by omega) (fun c_33 => ?_) (fun c_33 => ?_)
    · refine gj_iinc (b := ((k + 1 : Nat) : Int)) (lv' := [_, _, _, _]) 41 dX6_allSoWithout_38 rfl rfl (by omega) (by decide) rfl ?_
      refine gj_goto 2 dX6_allSoWithout_41 (by decide) ?_
      have e : g_al M d (n + 1) k = g_al M d n (k + 1) := if_pos (by omega)
      rw [e]
      exact gj_wk (ih (k + 1) (by omega)) ⟨rfl, rfl, rfl, rfl, trivial⟩
    · refine gj_iconst 37 dX6_allSoWithout_36 rfl ?_
      refine gj_zret dX6_allSoWithout_37 rfl (by decide) ⟨Nat.zero_le _, Nat.zero_le _⟩ ?_
      exact ⟨rfl, by rw [show g_al M d (n + 1) k = 0 from if_neg (by omega)], rfl⟩

set_option maxRecDepth 100000 in
set_option maxHeartbeats 4000000 in
theorem s6_all {xt : Nat × (Nat → Int)} {M : gj_M} {d : Int} (hI : c_I M) (hd : gj_in d) (hs : 0 ≤ M 37 0 ∧ M 37 0 ≤ 6) (hg : ∀ i : Int, 0 ≤ i → i < M 37 0 → (0 ≤ M 38 i ∧ M 38 i < 48) ∧ 0 ≤ M 39 i ∧ M 39 i < 10) : gj_F xt Y6_allSoWithout gS [gR 37, gI d, gR 9] M (some (gI (g_al M d (M 37 0).toNat 0))) M := by
  show gj_G _ Y6_allSoWithout gS 0 0 0 [_, _, _, _] [] M _
  refine gj_iconst 1 dX6_allSoWithout_0 rfl ?_
  refine gj_istore_n (lv' := [_, _, _, _]) 2 dX6_allSoWithout_1 rfl (by decide) rfl ?_
  exact gj_wk (s6_all_l hI hd hs hg (M 37 0).toNat 0 (by omega)) ⟨rfl, rfl, rfl, rfl, trivial⟩

set_option maxRecDepth 100000 in
set_option maxHeartbeats 4000000 in
theorem s4_begin_2 {xt : Nat × (Nat → Int)} {M : gj_M}  : ∀ (n k : Nat), k + n = 5 → gj_G xt Y4_beginWith gS 0 0 52 [some (gR 15), some (gR 10), some (gI (k : Int))] [] (b_tp (p_clr (gj_cp (gj_cp M 11 16 0 0 6) 12 17 0 0 6) 18 4) k) (fun r S2 M2 => S2 = gS ∧ r = none ∧ M2 = b_bg M) := by
  intro n
  induction n with
  | zero =>
    intro k hk
    refine gj_iload_n 53 dX4_beginWith_52 rfl rfl ?_
    refine gj_iconst 54 dX4_beginWith_53 rfl ?_
    refine gj_icmp_ge 71 57 dX4_beginWith_54 (by decide) rfl (by omega) (by omega) (fun c_54 => ?_) (fun c_54 => absurd c_54 (by omega))
    refine gj_aload_n 72 dX4_beginWith_71 rfl rfl ?_
    refine gj_iconst 73 dX4_beginWith_72 rfl ?_
    refine gj_putfi 76 dX4_beginWith_73 rfl fw_4_54 rfl rfl (by omega) ?_
    refine gj_vret dX4_beginWith_76 rfl ⟨Nat.zero_le _, Nat.zero_le _⟩ ?_
    have hk5 : k = 5 := by omega
    subst hk5
    exact ⟨rfl, rfl, rfl⟩
  | succ n ih =>
    intro k hk
    refine gj_iload_n 53 dX4_beginWith_52 rfl rfl ?_
    refine gj_iconst 54 dX4_beginWith_53 rfl ?_
    refine gj_icmp_ge 71 57 dX4_beginWith_54 (by decide) rfl (by omega) (by omega) (fun c_54 => absurd c_54 (by omega)) (fun c_54 => ?_)
    refine gj_aload_n 58 dX4_beginWith_57 rfl rfl ?_
    refine gj_iload_n 59 dX4_beginWith_58 rfl rfl ?_
    refine gj_iconst 60 dX4_beginWith_59 rfl ?_
    refine gj_iconst 61 dX4_beginWith_60 rfl ?_
    refine gj_iconst 62 dX4_beginWith_61 rfl ?_
    refine gj_vV 65 dX4_beginWith_62 rfl ok_4_tellPan ml_4_50 iv_4_tellPan (As := [gI _, gI _, gI _, gI _]) rfl rfl rfl rfl (Nat.le_of_ble_eq_true rfl) ⟨Nat.le_of_ble_eq_true rfl, Nat.le_of_ble_eq_true rfl⟩ (Nat.le_of_ble_eq_true rfl) ⟨rfl, rfl⟩ ⟨Nat.zero_le _, Nat.zero_le _⟩ (s4_tellPan (by omega) (by omega) (by omega) (by omega)) ?_
    refine gj_iinc (b := ((k + 1 : Nat) : Int)) (lv' := [_, _, _]) 68 dX4_beginWith_65 rfl rfl (by omega) (by decide) rfl ?_
    refine gj_goto 52 dX4_beginWith_68 (by decide) ?_
    exact gj_wk (ih (k + 1) (by omega)) ⟨rfl, rfl, rfl, trivial⟩

set_option maxRecDepth 100000 in
set_option maxHeartbeats 4000000 in
theorem s4_begin_1 {xt : Nat × (Nat → Int)} {M : gj_M}  : ∀ (n k : Nat), k + n = 4 → gj_G xt Y4_beginWith gS 0 0 32 [some (gR 15), some (gR 10), some (gI (k : Int))] [] (p_clr (gj_cp (gj_cp M 11 16 0 0 6) 12 17 0 0 6) 18 k) (fun r S2 M2 => S2 = gS ∧ r = none ∧ M2 = b_bg M) := by
  intro n
  induction n with
  | zero =>
    intro k hk
    refine gj_iload_n 33 dX4_beginWith_32 rfl rfl ?_
    refine gj_iconst 34 dX4_beginWith_33 rfl ?_
    refine gj_icmp_ge 50 37 dX4_beginWith_34 (by decide) rfl (by omega) (by omega) (fun c_34 => ?_) (fun c_34 => absurd c_34 (by omega))
    refine gj_iconst 51 dX4_beginWith_50 rfl ?_
    refine gj_istore_n (lv' := [_, _, _]) 52 dX4_beginWith_51 rfl (by decide) rfl ?_
    have hk5 : k = 4 := by omega
    subst hk5
    exact gj_wk (s4_begin_2 5 0 rfl) ⟨rfl, rfl, rfl, trivial⟩
  | succ n ih =>
    intro k hk
    refine gj_iload_n 33 dX4_beginWith_32 rfl rfl ?_
    refine gj_iconst 34 dX4_beginWith_33 rfl ?_
    refine gj_icmp_ge 50 37 dX4_beginWith_34 (by decide) rfl (by omega) (by omega) (fun c_34 => absurd c_34 (by omega)) (fun c_34 => ?_)
    refine gj_aload_n 38 dX4_beginWith_37 rfl rfl ?_
    refine gj_getfr 41 dX4_beginWith_38 rfl fl_4_18 rfl rfl ?_
    refine gj_iload_n 42 dX4_beginWith_41 rfl rfl ?_
    refine gj_iconst 43 dX4_beginWith_42 rfl ?_
    refine gj_iast 44 dX4_beginWith_43 rfl rfl (by omega) (by omega) (by omega) ?_
    refine gj_iinc (b := ((k + 1 : Nat) : Int)) (lv' := [_, _, _]) 47 dX4_beginWith_44 rfl rfl (by omega) (by decide) rfl ?_
    refine gj_goto 32 dX4_beginWith_47 (by decide) ?_
    exact gj_wk (ih (k + 1) (by omega)) ⟨rfl, rfl, rfl, trivial⟩

set_option maxRecDepth 100000 in
set_option maxHeartbeats 4000000 in
theorem s4_begin {xt : Nat × (Nat → Int)} {M : gj_M}  : gj_F xt Y4_beginWith gS [gR 15, gR 10] M none (b_bg M) := by
  show gj_G _ Y4_beginWith gS 0 0 0 [_, _, _] [] M _
  refine gj_aload_n 1 dX4_beginWith_0 rfl rfl ?_
  refine gj_getfr 4 dX4_beginWith_1 rfl fl_4_36 rfl rfl ?_
  refine gj_iconst 5 dX4_beginWith_4 rfl ?_
  refine gj_aload_n 6 dX4_beginWith_5 rfl rfl ?_
  refine gj_getfr 9 dX4_beginWith_6 rfl fl_4_9 rfl rfl ?_
  refine gj_iconst 10 dX4_beginWith_9 rfl ?_
  refine gj_bipush 12 dX4_beginWith_10 rfl (by decide) ?_
  refine gj_copy 15 dX4_beginWith_12 rfl ml_4_41 rfl rfl (by omega) (by omega) (by decide) (by decide) (Nat.le_of_ble_eq_true rfl) ?_
  refine gj_aload_n 16 dX4_beginWith_15 rfl rfl ?_
  refine gj_getfr 19 dX4_beginWith_16 rfl fl_4_47 rfl rfl ?_
  refine gj_iconst 20 dX4_beginWith_19 rfl ?_
  refine gj_aload_n 21 dX4_beginWith_20 rfl rfl ?_
  refine gj_getfr 24 dX4_beginWith_21 rfl fl_4_15 rfl rfl ?_
  refine gj_iconst 25 dX4_beginWith_24 rfl ?_
  refine gj_bipush 27 dX4_beginWith_25 rfl (by decide) ?_
  refine gj_copy 30 dX4_beginWith_27 rfl ml_4_41 rfl rfl (by omega) (by omega) (by decide) (by decide) (Nat.le_of_ble_eq_true rfl) ?_
  refine gj_iconst 31 dX4_beginWith_30 rfl ?_
  refine gj_istore_n (lv' := [_, _, _]) 32 dX4_beginWith_31 rfl (by decide) rfl ?_
  exact gj_wk (s4_begin_1 4 0 rfl) ⟨rfl, rfl, rfl, trivial⟩

set_option maxRecDepth 100000 in
set_option maxHeartbeats 4000000 in
theorem s4_copy_41_15 {xt : Nat × (Nat → Int)} {M : gj_M}  : gj_F xt Y4_copyFrom gS [gR 41, gR 15] M none (b_cp M 41 15) := by
  show gj_G _ Y4_copyFrom gS 0 0 0 [_, _] [] M _
  refine gj_aload_n 1 dX4_copyFrom_0 rfl rfl ?_
  refine gj_getfr 4 dX4_copyFrom_1 rfl fl_4_9 rfl rfl ?_
  refine gj_iconst 5 dX4_copyFrom_4 rfl ?_
  refine gj_aload_n 6 dX4_copyFrom_5 rfl rfl ?_
  refine gj_getfr 9 dX4_copyFrom_6 rfl fl_4_9 rfl rfl ?_
  refine gj_iconst 10 dX4_copyFrom_9 rfl ?_
  refine gj_bipush 12 dX4_copyFrom_10 rfl (by decide) ?_
  refine gj_copy 15 dX4_copyFrom_12 rfl ml_4_41 rfl rfl (by omega) (by omega) (by decide) (by decide) (Nat.le_of_ble_eq_true rfl) ?_
  refine gj_aload_n 16 dX4_copyFrom_15 rfl rfl ?_
  refine gj_getfr 19 dX4_copyFrom_16 rfl fl_4_15 rfl rfl ?_
  refine gj_iconst 20 dX4_copyFrom_19 rfl ?_
  refine gj_aload_n 21 dX4_copyFrom_20 rfl rfl ?_
  refine gj_getfr 24 dX4_copyFrom_21 rfl fl_4_15 rfl rfl ?_
  refine gj_iconst 25 dX4_copyFrom_24 rfl ?_
  refine gj_bipush 27 dX4_copyFrom_25 rfl (by decide) ?_
  refine gj_copy 30 dX4_copyFrom_27 rfl ml_4_41 rfl rfl (by omega) (by omega) (by decide) (by decide) (Nat.le_of_ble_eq_true rfl) ?_
  refine gj_aload_n 31 dX4_copyFrom_30 rfl rfl ?_
  refine gj_getfr 34 dX4_copyFrom_31 rfl fl_4_18 rfl rfl ?_
  refine gj_iconst 35 dX4_copyFrom_34 rfl ?_
  refine gj_aload_n 36 dX4_copyFrom_35 rfl rfl ?_
  refine gj_getfr 39 dX4_copyFrom_36 rfl fl_4_18 rfl rfl ?_
  refine gj_iconst 40 dX4_copyFrom_39 rfl ?_
  refine gj_iconst 41 dX4_copyFrom_40 rfl ?_
  refine gj_copy 44 dX4_copyFrom_41 rfl ml_4_41 rfl rfl (by omega) (by omega) (by decide) (by decide) (Nat.le_of_ble_eq_true rfl) ?_
  refine gj_aload_n 45 dX4_copyFrom_44 rfl rfl ?_
  refine gj_getfr 48 dX4_copyFrom_45 rfl fl_4_21 rfl rfl ?_
  refine gj_iconst 49 dX4_copyFrom_48 rfl ?_
  refine gj_aload_n 50 dX4_copyFrom_49 rfl rfl ?_
  refine gj_getfr 53 dX4_copyFrom_50 rfl fl_4_21 rfl rfl ?_
  refine gj_iconst 54 dX4_copyFrom_53 rfl ?_
  refine gj_iconst 55 dX4_copyFrom_54 rfl ?_
  refine gj_copy 58 dX4_copyFrom_55 rfl ml_4_41 rfl rfl (by omega) (by omega) (by decide) (by decide) (Nat.le_of_ble_eq_true rfl) ?_
  refine gj_aload_n 59 dX4_copyFrom_58 rfl rfl ?_
  refine gj_getfr 62 dX4_copyFrom_59 rfl fl_4_24 rfl rfl ?_
  refine gj_iconst 63 dX4_copyFrom_62 rfl ?_
  refine gj_aload_n 64 dX4_copyFrom_63 rfl rfl ?_
  refine gj_getfr 67 dX4_copyFrom_64 rfl fl_4_24 rfl rfl ?_
  refine gj_iconst 68 dX4_copyFrom_67 rfl ?_
  refine gj_iconst 69 dX4_copyFrom_68 rfl ?_
  refine gj_copy 72 dX4_copyFrom_69 rfl ml_4_41 rfl rfl (by omega) (by omega) (by decide) (by decide) (Nat.le_of_ble_eq_true rfl) ?_
  refine gj_aload_n 73 dX4_copyFrom_72 rfl rfl ?_
  refine gj_getfr 76 dX4_copyFrom_73 rfl fl_4_27 rfl rfl ?_
  refine gj_iconst 77 dX4_copyFrom_76 rfl ?_
  refine gj_aload_n 78 dX4_copyFrom_77 rfl rfl ?_
  refine gj_getfr 81 dX4_copyFrom_78 rfl fl_4_27 rfl rfl ?_
  refine gj_iconst 82 dX4_copyFrom_81 rfl ?_
  refine gj_iconst 83 dX4_copyFrom_82 rfl ?_
  refine gj_copy 86 dX4_copyFrom_83 rfl ml_4_41 rfl rfl (by omega) (by omega) (by decide) (by decide) (Nat.le_of_ble_eq_true rfl) ?_
  refine gj_aload_n 87 dX4_copyFrom_86 rfl rfl ?_
  refine gj_getfr 90 dX4_copyFrom_87 rfl fl_4_30 rfl rfl ?_
  refine gj_iconst 91 dX4_copyFrom_90 rfl ?_
  refine gj_aload_n 92 dX4_copyFrom_91 rfl rfl ?_
  refine gj_getfr 95 dX4_copyFrom_92 rfl fl_4_30 rfl rfl ?_
  refine gj_iconst 96 dX4_copyFrom_95 rfl ?_
  refine gj_iconst 97 dX4_copyFrom_96 rfl ?_
  refine gj_copy 100 dX4_copyFrom_97 rfl ml_4_41 rfl rfl (by omega) (by omega) (by decide) (by decide) (Nat.le_of_ble_eq_true rfl) ?_
  refine gj_aload_n 101 dX4_copyFrom_100 rfl rfl ?_
  refine gj_getfr 104 dX4_copyFrom_101 rfl fl_4_33 rfl rfl ?_
  refine gj_iconst 105 dX4_copyFrom_104 rfl ?_
  refine gj_aload_n 106 dX4_copyFrom_105 rfl rfl ?_
  refine gj_getfr 109 dX4_copyFrom_106 rfl fl_4_33 rfl rfl ?_
  refine gj_iconst 110 dX4_copyFrom_109 rfl ?_
  refine gj_iconst 111 dX4_copyFrom_110 rfl ?_
  refine gj_copy 114 dX4_copyFrom_111 rfl ml_4_41 rfl rfl (by omega) (by omega) (by decide) (by decide) (Nat.le_of_ble_eq_true rfl) ?_
  refine gj_aload_n 115 dX4_copyFrom_114 rfl rfl ?_
  refine gj_aload_n 116 dX4_copyFrom_115 rfl rfl ?_
  refine gj_getfiE (M 15 6) 119 dX4_copyFrom_116 rfl fl_4_54 rfl rfl rfl (fun r_116 => ?_)
  refine gj_putfi 122 dX4_copyFrom_119 rfl fw_4_54 rfl rfl (by omega) ?_
  refine gj_vret dX4_copyFrom_122 rfl ⟨Nat.zero_le _, Nat.zero_le _⟩ ?_
  exact ⟨rfl, rfl, rfl⟩

set_option maxRecDepth 100000 in
set_option maxHeartbeats 4000000 in
theorem s4_copy_15_41 {xt : Nat × (Nat → Int)} {M : gj_M}  : gj_F xt Y4_copyFrom gS [gR 15, gR 41] M none (b_cp M 15 41) := by
  show gj_G _ Y4_copyFrom gS 0 0 0 [_, _] [] M _
  refine gj_aload_n 1 dX4_copyFrom_0 rfl rfl ?_
  refine gj_getfr 4 dX4_copyFrom_1 rfl fl_4_9 rfl rfl ?_
  refine gj_iconst 5 dX4_copyFrom_4 rfl ?_
  refine gj_aload_n 6 dX4_copyFrom_5 rfl rfl ?_
  refine gj_getfr 9 dX4_copyFrom_6 rfl fl_4_9 rfl rfl ?_
  refine gj_iconst 10 dX4_copyFrom_9 rfl ?_
  refine gj_bipush 12 dX4_copyFrom_10 rfl (by decide) ?_
  refine gj_copy 15 dX4_copyFrom_12 rfl ml_4_41 rfl rfl (by omega) (by omega) (by decide) (by decide) (Nat.le_of_ble_eq_true rfl) ?_
  refine gj_aload_n 16 dX4_copyFrom_15 rfl rfl ?_
  refine gj_getfr 19 dX4_copyFrom_16 rfl fl_4_15 rfl rfl ?_
  refine gj_iconst 20 dX4_copyFrom_19 rfl ?_
  refine gj_aload_n 21 dX4_copyFrom_20 rfl rfl ?_
  refine gj_getfr 24 dX4_copyFrom_21 rfl fl_4_15 rfl rfl ?_
  refine gj_iconst 25 dX4_copyFrom_24 rfl ?_
  refine gj_bipush 27 dX4_copyFrom_25 rfl (by decide) ?_
  refine gj_copy 30 dX4_copyFrom_27 rfl ml_4_41 rfl rfl (by omega) (by omega) (by decide) (by decide) (Nat.le_of_ble_eq_true rfl) ?_
  refine gj_aload_n 31 dX4_copyFrom_30 rfl rfl ?_
  refine gj_getfr 34 dX4_copyFrom_31 rfl fl_4_18 rfl rfl ?_
  refine gj_iconst 35 dX4_copyFrom_34 rfl ?_
  refine gj_aload_n 36 dX4_copyFrom_35 rfl rfl ?_
  refine gj_getfr 39 dX4_copyFrom_36 rfl fl_4_18 rfl rfl ?_
  refine gj_iconst 40 dX4_copyFrom_39 rfl ?_
  refine gj_iconst 41 dX4_copyFrom_40 rfl ?_
  refine gj_copy 44 dX4_copyFrom_41 rfl ml_4_41 rfl rfl (by omega) (by omega) (by decide) (by decide) (Nat.le_of_ble_eq_true rfl) ?_
  refine gj_aload_n 45 dX4_copyFrom_44 rfl rfl ?_
  refine gj_getfr 48 dX4_copyFrom_45 rfl fl_4_21 rfl rfl ?_
  refine gj_iconst 49 dX4_copyFrom_48 rfl ?_
  refine gj_aload_n 50 dX4_copyFrom_49 rfl rfl ?_
  refine gj_getfr 53 dX4_copyFrom_50 rfl fl_4_21 rfl rfl ?_
  refine gj_iconst 54 dX4_copyFrom_53 rfl ?_
  refine gj_iconst 55 dX4_copyFrom_54 rfl ?_
  refine gj_copy 58 dX4_copyFrom_55 rfl ml_4_41 rfl rfl (by omega) (by omega) (by decide) (by decide) (Nat.le_of_ble_eq_true rfl) ?_
  refine gj_aload_n 59 dX4_copyFrom_58 rfl rfl ?_
  refine gj_getfr 62 dX4_copyFrom_59 rfl fl_4_24 rfl rfl ?_
  refine gj_iconst 63 dX4_copyFrom_62 rfl ?_
  refine gj_aload_n 64 dX4_copyFrom_63 rfl rfl ?_
  refine gj_getfr 67 dX4_copyFrom_64 rfl fl_4_24 rfl rfl ?_
  refine gj_iconst 68 dX4_copyFrom_67 rfl ?_
  refine gj_iconst 69 dX4_copyFrom_68 rfl ?_
  refine gj_copy 72 dX4_copyFrom_69 rfl ml_4_41 rfl rfl (by omega) (by omega) (by decide) (by decide) (Nat.le_of_ble_eq_true rfl) ?_
  refine gj_aload_n 73 dX4_copyFrom_72 rfl rfl ?_
  refine gj_getfr 76 dX4_copyFrom_73 rfl fl_4_27 rfl rfl ?_
  refine gj_iconst 77 dX4_copyFrom_76 rfl ?_
  refine gj_aload_n 78 dX4_copyFrom_77 rfl rfl ?_
  refine gj_getfr 81 dX4_copyFrom_78 rfl fl_4_27 rfl rfl ?_
  refine gj_iconst 82 dX4_copyFrom_81 rfl ?_
  refine gj_iconst 83 dX4_copyFrom_82 rfl ?_
  refine gj_copy 86 dX4_copyFrom_83 rfl ml_4_41 rfl rfl (by omega) (by omega) (by decide) (by decide) (Nat.le_of_ble_eq_true rfl) ?_
  refine gj_aload_n 87 dX4_copyFrom_86 rfl rfl ?_
  refine gj_getfr 90 dX4_copyFrom_87 rfl fl_4_30 rfl rfl ?_
  refine gj_iconst 91 dX4_copyFrom_90 rfl ?_
  refine gj_aload_n 92 dX4_copyFrom_91 rfl rfl ?_
  refine gj_getfr 95 dX4_copyFrom_92 rfl fl_4_30 rfl rfl ?_
  refine gj_iconst 96 dX4_copyFrom_95 rfl ?_
  refine gj_iconst 97 dX4_copyFrom_96 rfl ?_
  refine gj_copy 100 dX4_copyFrom_97 rfl ml_4_41 rfl rfl (by omega) (by omega) (by decide) (by decide) (Nat.le_of_ble_eq_true rfl) ?_
  refine gj_aload_n 101 dX4_copyFrom_100 rfl rfl ?_
  refine gj_getfr 104 dX4_copyFrom_101 rfl fl_4_33 rfl rfl ?_
  refine gj_iconst 105 dX4_copyFrom_104 rfl ?_
  refine gj_aload_n 106 dX4_copyFrom_105 rfl rfl ?_
  refine gj_getfr 109 dX4_copyFrom_106 rfl fl_4_33 rfl rfl ?_
  refine gj_iconst 110 dX4_copyFrom_109 rfl ?_
  refine gj_iconst 111 dX4_copyFrom_110 rfl ?_
  refine gj_copy 114 dX4_copyFrom_111 rfl ml_4_41 rfl rfl (by omega) (by omega) (by decide) (by decide) (Nat.le_of_ble_eq_true rfl) ?_
  refine gj_aload_n 115 dX4_copyFrom_114 rfl rfl ?_
  refine gj_aload_n 116 dX4_copyFrom_115 rfl rfl ?_
  refine gj_getfiE (M 41 6) 119 dX4_copyFrom_116 rfl fl_4_54 rfl rfl rfl (fun r_116 => ?_)
  refine gj_putfi 122 dX4_copyFrom_119 rfl fw_4_54 rfl rfl (by omega) ?_
  refine gj_vret dX4_copyFrom_122 rfl ⟨Nat.zero_le _, Nat.zero_le _⟩ ?_
  exact ⟨rfl, rfl, rfl⟩

set_option maxRecDepth 100000 in
set_option maxHeartbeats 4000000 in
theorem s4_copy_50_15 {xt : Nat × (Nat → Int)} {M : gj_M}  : gj_F xt Y4_copyFrom gS [gR 50, gR 15] M none (b_cp M 50 15) := by
  show gj_G _ Y4_copyFrom gS 0 0 0 [_, _] [] M _
  refine gj_aload_n 1 dX4_copyFrom_0 rfl rfl ?_
  refine gj_getfr 4 dX4_copyFrom_1 rfl fl_4_9 rfl rfl ?_
  refine gj_iconst 5 dX4_copyFrom_4 rfl ?_
  refine gj_aload_n 6 dX4_copyFrom_5 rfl rfl ?_
  refine gj_getfr 9 dX4_copyFrom_6 rfl fl_4_9 rfl rfl ?_
  refine gj_iconst 10 dX4_copyFrom_9 rfl ?_
  refine gj_bipush 12 dX4_copyFrom_10 rfl (by decide) ?_
  refine gj_copy 15 dX4_copyFrom_12 rfl ml_4_41 rfl rfl (by omega) (by omega) (by decide) (by decide) (Nat.le_of_ble_eq_true rfl) ?_
  refine gj_aload_n 16 dX4_copyFrom_15 rfl rfl ?_
  refine gj_getfr 19 dX4_copyFrom_16 rfl fl_4_15 rfl rfl ?_
  refine gj_iconst 20 dX4_copyFrom_19 rfl ?_
  refine gj_aload_n 21 dX4_copyFrom_20 rfl rfl ?_
  refine gj_getfr 24 dX4_copyFrom_21 rfl fl_4_15 rfl rfl ?_
  refine gj_iconst 25 dX4_copyFrom_24 rfl ?_
  refine gj_bipush 27 dX4_copyFrom_25 rfl (by decide) ?_
  refine gj_copy 30 dX4_copyFrom_27 rfl ml_4_41 rfl rfl (by omega) (by omega) (by decide) (by decide) (Nat.le_of_ble_eq_true rfl) ?_
  refine gj_aload_n 31 dX4_copyFrom_30 rfl rfl ?_
  refine gj_getfr 34 dX4_copyFrom_31 rfl fl_4_18 rfl rfl ?_
  refine gj_iconst 35 dX4_copyFrom_34 rfl ?_
  refine gj_aload_n 36 dX4_copyFrom_35 rfl rfl ?_
  refine gj_getfr 39 dX4_copyFrom_36 rfl fl_4_18 rfl rfl ?_
  refine gj_iconst 40 dX4_copyFrom_39 rfl ?_
  refine gj_iconst 41 dX4_copyFrom_40 rfl ?_
  refine gj_copy 44 dX4_copyFrom_41 rfl ml_4_41 rfl rfl (by omega) (by omega) (by decide) (by decide) (Nat.le_of_ble_eq_true rfl) ?_
  refine gj_aload_n 45 dX4_copyFrom_44 rfl rfl ?_
  refine gj_getfr 48 dX4_copyFrom_45 rfl fl_4_21 rfl rfl ?_
  refine gj_iconst 49 dX4_copyFrom_48 rfl ?_
  refine gj_aload_n 50 dX4_copyFrom_49 rfl rfl ?_
  refine gj_getfr 53 dX4_copyFrom_50 rfl fl_4_21 rfl rfl ?_
  refine gj_iconst 54 dX4_copyFrom_53 rfl ?_
  refine gj_iconst 55 dX4_copyFrom_54 rfl ?_
  refine gj_copy 58 dX4_copyFrom_55 rfl ml_4_41 rfl rfl (by omega) (by omega) (by decide) (by decide) (Nat.le_of_ble_eq_true rfl) ?_
  refine gj_aload_n 59 dX4_copyFrom_58 rfl rfl ?_
  refine gj_getfr 62 dX4_copyFrom_59 rfl fl_4_24 rfl rfl ?_
  refine gj_iconst 63 dX4_copyFrom_62 rfl ?_
  refine gj_aload_n 64 dX4_copyFrom_63 rfl rfl ?_
  refine gj_getfr 67 dX4_copyFrom_64 rfl fl_4_24 rfl rfl ?_
  refine gj_iconst 68 dX4_copyFrom_67 rfl ?_
  refine gj_iconst 69 dX4_copyFrom_68 rfl ?_
  refine gj_copy 72 dX4_copyFrom_69 rfl ml_4_41 rfl rfl (by omega) (by omega) (by decide) (by decide) (Nat.le_of_ble_eq_true rfl) ?_
  refine gj_aload_n 73 dX4_copyFrom_72 rfl rfl ?_
  refine gj_getfr 76 dX4_copyFrom_73 rfl fl_4_27 rfl rfl ?_
  refine gj_iconst 77 dX4_copyFrom_76 rfl ?_
  refine gj_aload_n 78 dX4_copyFrom_77 rfl rfl ?_
  refine gj_getfr 81 dX4_copyFrom_78 rfl fl_4_27 rfl rfl ?_
  refine gj_iconst 82 dX4_copyFrom_81 rfl ?_
  refine gj_iconst 83 dX4_copyFrom_82 rfl ?_
  refine gj_copy 86 dX4_copyFrom_83 rfl ml_4_41 rfl rfl (by omega) (by omega) (by decide) (by decide) (Nat.le_of_ble_eq_true rfl) ?_
  refine gj_aload_n 87 dX4_copyFrom_86 rfl rfl ?_
  refine gj_getfr 90 dX4_copyFrom_87 rfl fl_4_30 rfl rfl ?_
  refine gj_iconst 91 dX4_copyFrom_90 rfl ?_
  refine gj_aload_n 92 dX4_copyFrom_91 rfl rfl ?_
  refine gj_getfr 95 dX4_copyFrom_92 rfl fl_4_30 rfl rfl ?_
  refine gj_iconst 96 dX4_copyFrom_95 rfl ?_
  refine gj_iconst 97 dX4_copyFrom_96 rfl ?_
  refine gj_copy 100 dX4_copyFrom_97 rfl ml_4_41 rfl rfl (by omega) (by omega) (by decide) (by decide) (Nat.le_of_ble_eq_true rfl) ?_
  refine gj_aload_n 101 dX4_copyFrom_100 rfl rfl ?_
  refine gj_getfr 104 dX4_copyFrom_101 rfl fl_4_33 rfl rfl ?_
  refine gj_iconst 105 dX4_copyFrom_104 rfl ?_
  refine gj_aload_n 106 dX4_copyFrom_105 rfl rfl ?_
  refine gj_getfr 109 dX4_copyFrom_106 rfl fl_4_33 rfl rfl ?_
  refine gj_iconst 110 dX4_copyFrom_109 rfl ?_
  refine gj_iconst 111 dX4_copyFrom_110 rfl ?_
  refine gj_copy 114 dX4_copyFrom_111 rfl ml_4_41 rfl rfl (by omega) (by omega) (by decide) (by decide) (Nat.le_of_ble_eq_true rfl) ?_
  refine gj_aload_n 115 dX4_copyFrom_114 rfl rfl ?_
  refine gj_aload_n 116 dX4_copyFrom_115 rfl rfl ?_
  refine gj_getfiE (M 15 6) 119 dX4_copyFrom_116 rfl fl_4_54 rfl rfl rfl (fun r_116 => ?_)
  refine gj_putfi 122 dX4_copyFrom_119 rfl fw_4_54 rfl rfl (by omega) ?_
  refine gj_vret dX4_copyFrom_122 rfl ⟨Nat.zero_le _, Nat.zero_le _⟩ ?_
  exact ⟨rfl, rfl, rfl⟩

set_option maxRecDepth 100000 in
set_option maxHeartbeats 4000000 in
theorem s4_copy_59_15 {xt : Nat × (Nat → Int)} {M : gj_M}  : gj_F xt Y4_copyFrom gS [gR 59, gR 15] M none (b_cp M 59 15) := by
  show gj_G _ Y4_copyFrom gS 0 0 0 [_, _] [] M _
  refine gj_aload_n 1 dX4_copyFrom_0 rfl rfl ?_
  refine gj_getfr 4 dX4_copyFrom_1 rfl fl_4_9 rfl rfl ?_
  refine gj_iconst 5 dX4_copyFrom_4 rfl ?_
  refine gj_aload_n 6 dX4_copyFrom_5 rfl rfl ?_
  refine gj_getfr 9 dX4_copyFrom_6 rfl fl_4_9 rfl rfl ?_
  refine gj_iconst 10 dX4_copyFrom_9 rfl ?_
  refine gj_bipush 12 dX4_copyFrom_10 rfl (by decide) ?_
  refine gj_copy 15 dX4_copyFrom_12 rfl ml_4_41 rfl rfl (by omega) (by omega) (by decide) (by decide) (Nat.le_of_ble_eq_true rfl) ?_
  refine gj_aload_n 16 dX4_copyFrom_15 rfl rfl ?_
  refine gj_getfr 19 dX4_copyFrom_16 rfl fl_4_15 rfl rfl ?_
  refine gj_iconst 20 dX4_copyFrom_19 rfl ?_
  refine gj_aload_n 21 dX4_copyFrom_20 rfl rfl ?_
  refine gj_getfr 24 dX4_copyFrom_21 rfl fl_4_15 rfl rfl ?_
  refine gj_iconst 25 dX4_copyFrom_24 rfl ?_
  refine gj_bipush 27 dX4_copyFrom_25 rfl (by decide) ?_
  refine gj_copy 30 dX4_copyFrom_27 rfl ml_4_41 rfl rfl (by omega) (by omega) (by decide) (by decide) (Nat.le_of_ble_eq_true rfl) ?_
  refine gj_aload_n 31 dX4_copyFrom_30 rfl rfl ?_
  refine gj_getfr 34 dX4_copyFrom_31 rfl fl_4_18 rfl rfl ?_
  refine gj_iconst 35 dX4_copyFrom_34 rfl ?_
  refine gj_aload_n 36 dX4_copyFrom_35 rfl rfl ?_
  refine gj_getfr 39 dX4_copyFrom_36 rfl fl_4_18 rfl rfl ?_
  refine gj_iconst 40 dX4_copyFrom_39 rfl ?_
  refine gj_iconst 41 dX4_copyFrom_40 rfl ?_
  refine gj_copy 44 dX4_copyFrom_41 rfl ml_4_41 rfl rfl (by omega) (by omega) (by decide) (by decide) (Nat.le_of_ble_eq_true rfl) ?_
  refine gj_aload_n 45 dX4_copyFrom_44 rfl rfl ?_
  refine gj_getfr 48 dX4_copyFrom_45 rfl fl_4_21 rfl rfl ?_
  refine gj_iconst 49 dX4_copyFrom_48 rfl ?_
  refine gj_aload_n 50 dX4_copyFrom_49 rfl rfl ?_
  refine gj_getfr 53 dX4_copyFrom_50 rfl fl_4_21 rfl rfl ?_
  refine gj_iconst 54 dX4_copyFrom_53 rfl ?_
  refine gj_iconst 55 dX4_copyFrom_54 rfl ?_
  refine gj_copy 58 dX4_copyFrom_55 rfl ml_4_41 rfl rfl (by omega) (by omega) (by decide) (by decide) (Nat.le_of_ble_eq_true rfl) ?_
  refine gj_aload_n 59 dX4_copyFrom_58 rfl rfl ?_
  refine gj_getfr 62 dX4_copyFrom_59 rfl fl_4_24 rfl rfl ?_
  refine gj_iconst 63 dX4_copyFrom_62 rfl ?_
  refine gj_aload_n 64 dX4_copyFrom_63 rfl rfl ?_
  refine gj_getfr 67 dX4_copyFrom_64 rfl fl_4_24 rfl rfl ?_
  refine gj_iconst 68 dX4_copyFrom_67 rfl ?_
  refine gj_iconst 69 dX4_copyFrom_68 rfl ?_
  refine gj_copy 72 dX4_copyFrom_69 rfl ml_4_41 rfl rfl (by omega) (by omega) (by decide) (by decide) (Nat.le_of_ble_eq_true rfl) ?_
  refine gj_aload_n 73 dX4_copyFrom_72 rfl rfl ?_
  refine gj_getfr 76 dX4_copyFrom_73 rfl fl_4_27 rfl rfl ?_
  refine gj_iconst 77 dX4_copyFrom_76 rfl ?_
  refine gj_aload_n 78 dX4_copyFrom_77 rfl rfl ?_
  refine gj_getfr 81 dX4_copyFrom_78 rfl fl_4_27 rfl rfl ?_
  refine gj_iconst 82 dX4_copyFrom_81 rfl ?_
  refine gj_iconst 83 dX4_copyFrom_82 rfl ?_
  refine gj_copy 86 dX4_copyFrom_83 rfl ml_4_41 rfl rfl (by omega) (by omega) (by decide) (by decide) (Nat.le_of_ble_eq_true rfl) ?_
  refine gj_aload_n 87 dX4_copyFrom_86 rfl rfl ?_
  refine gj_getfr 90 dX4_copyFrom_87 rfl fl_4_30 rfl rfl ?_
  refine gj_iconst 91 dX4_copyFrom_90 rfl ?_
  refine gj_aload_n 92 dX4_copyFrom_91 rfl rfl ?_
  refine gj_getfr 95 dX4_copyFrom_92 rfl fl_4_30 rfl rfl ?_
  refine gj_iconst 96 dX4_copyFrom_95 rfl ?_
  refine gj_iconst 97 dX4_copyFrom_96 rfl ?_
  refine gj_copy 100 dX4_copyFrom_97 rfl ml_4_41 rfl rfl (by omega) (by omega) (by decide) (by decide) (Nat.le_of_ble_eq_true rfl) ?_
  refine gj_aload_n 101 dX4_copyFrom_100 rfl rfl ?_
  refine gj_getfr 104 dX4_copyFrom_101 rfl fl_4_33 rfl rfl ?_
  refine gj_iconst 105 dX4_copyFrom_104 rfl ?_
  refine gj_aload_n 106 dX4_copyFrom_105 rfl rfl ?_
  refine gj_getfr 109 dX4_copyFrom_106 rfl fl_4_33 rfl rfl ?_
  refine gj_iconst 110 dX4_copyFrom_109 rfl ?_
  refine gj_iconst 111 dX4_copyFrom_110 rfl ?_
  refine gj_copy 114 dX4_copyFrom_111 rfl ml_4_41 rfl rfl (by omega) (by omega) (by decide) (by decide) (Nat.le_of_ble_eq_true rfl) ?_
  refine gj_aload_n 115 dX4_copyFrom_114 rfl rfl ?_
  refine gj_aload_n 116 dX4_copyFrom_115 rfl rfl ?_
  refine gj_getfiE (M 15 6) 119 dX4_copyFrom_116 rfl fl_4_54 rfl rfl rfl (fun r_116 => ?_)
  refine gj_putfi 122 dX4_copyFrom_119 rfl fw_4_54 rfl rfl (by omega) ?_
  refine gj_vret dX4_copyFrom_122 rfl ⟨Nat.zero_le _, Nat.zero_le _⟩ ?_
  exact ⟨rfl, rfl, rfl⟩

set_option maxRecDepth 100000 in
set_option maxHeartbeats 4000000 in
theorem s4_copy_15_50 {xt : Nat × (Nat → Int)} {M : gj_M}  : gj_F xt Y4_copyFrom gS [gR 15, gR 50] M none (b_cp M 15 50) := by
  show gj_G _ Y4_copyFrom gS 0 0 0 [_, _] [] M _
  refine gj_aload_n 1 dX4_copyFrom_0 rfl rfl ?_
  refine gj_getfr 4 dX4_copyFrom_1 rfl fl_4_9 rfl rfl ?_
  refine gj_iconst 5 dX4_copyFrom_4 rfl ?_
  refine gj_aload_n 6 dX4_copyFrom_5 rfl rfl ?_
  refine gj_getfr 9 dX4_copyFrom_6 rfl fl_4_9 rfl rfl ?_
  refine gj_iconst 10 dX4_copyFrom_9 rfl ?_
  refine gj_bipush 12 dX4_copyFrom_10 rfl (by decide) ?_
  refine gj_copy 15 dX4_copyFrom_12 rfl ml_4_41 rfl rfl (by omega) (by omega) (by decide) (by decide) (Nat.le_of_ble_eq_true rfl) ?_
  refine gj_aload_n 16 dX4_copyFrom_15 rfl rfl ?_
  refine gj_getfr 19 dX4_copyFrom_16 rfl fl_4_15 rfl rfl ?_
  refine gj_iconst 20 dX4_copyFrom_19 rfl ?_
  refine gj_aload_n 21 dX4_copyFrom_20 rfl rfl ?_
  refine gj_getfr 24 dX4_copyFrom_21 rfl fl_4_15 rfl rfl ?_
  refine gj_iconst 25 dX4_copyFrom_24 rfl ?_
  refine gj_bipush 27 dX4_copyFrom_25 rfl (by decide) ?_
  refine gj_copy 30 dX4_copyFrom_27 rfl ml_4_41 rfl rfl (by omega) (by omega) (by decide) (by decide) (Nat.le_of_ble_eq_true rfl) ?_
  refine gj_aload_n 31 dX4_copyFrom_30 rfl rfl ?_
  refine gj_getfr 34 dX4_copyFrom_31 rfl fl_4_18 rfl rfl ?_
  refine gj_iconst 35 dX4_copyFrom_34 rfl ?_
  refine gj_aload_n 36 dX4_copyFrom_35 rfl rfl ?_
  refine gj_getfr 39 dX4_copyFrom_36 rfl fl_4_18 rfl rfl ?_
  refine gj_iconst 40 dX4_copyFrom_39 rfl ?_
  refine gj_iconst 41 dX4_copyFrom_40 rfl ?_
  refine gj_copy 44 dX4_copyFrom_41 rfl ml_4_41 rfl rfl (by omega) (by omega) (by decide) (by decide) (Nat.le_of_ble_eq_true rfl) ?_
  refine gj_aload_n 45 dX4_copyFrom_44 rfl rfl ?_
  refine gj_getfr 48 dX4_copyFrom_45 rfl fl_4_21 rfl rfl ?_
  refine gj_iconst 49 dX4_copyFrom_48 rfl ?_
  refine gj_aload_n 50 dX4_copyFrom_49 rfl rfl ?_
  refine gj_getfr 53 dX4_copyFrom_50 rfl fl_4_21 rfl rfl ?_
  refine gj_iconst 54 dX4_copyFrom_53 rfl ?_
  refine gj_iconst 55 dX4_copyFrom_54 rfl ?_
  refine gj_copy 58 dX4_copyFrom_55 rfl ml_4_41 rfl rfl (by omega) (by omega) (by decide) (by decide) (Nat.le_of_ble_eq_true rfl) ?_
  refine gj_aload_n 59 dX4_copyFrom_58 rfl rfl ?_
  refine gj_getfr 62 dX4_copyFrom_59 rfl fl_4_24 rfl rfl ?_
  refine gj_iconst 63 dX4_copyFrom_62 rfl ?_
  refine gj_aload_n 64 dX4_copyFrom_63 rfl rfl ?_
  refine gj_getfr 67 dX4_copyFrom_64 rfl fl_4_24 rfl rfl ?_
  refine gj_iconst 68 dX4_copyFrom_67 rfl ?_
  refine gj_iconst 69 dX4_copyFrom_68 rfl ?_
  refine gj_copy 72 dX4_copyFrom_69 rfl ml_4_41 rfl rfl (by omega) (by omega) (by decide) (by decide) (Nat.le_of_ble_eq_true rfl) ?_
  refine gj_aload_n 73 dX4_copyFrom_72 rfl rfl ?_
  refine gj_getfr 76 dX4_copyFrom_73 rfl fl_4_27 rfl rfl ?_
  refine gj_iconst 77 dX4_copyFrom_76 rfl ?_
  refine gj_aload_n 78 dX4_copyFrom_77 rfl rfl ?_
  refine gj_getfr 81 dX4_copyFrom_78 rfl fl_4_27 rfl rfl ?_
  refine gj_iconst 82 dX4_copyFrom_81 rfl ?_
  refine gj_iconst 83 dX4_copyFrom_82 rfl ?_
  refine gj_copy 86 dX4_copyFrom_83 rfl ml_4_41 rfl rfl (by omega) (by omega) (by decide) (by decide) (Nat.le_of_ble_eq_true rfl) ?_
  refine gj_aload_n 87 dX4_copyFrom_86 rfl rfl ?_
  refine gj_getfr 90 dX4_copyFrom_87 rfl fl_4_30 rfl rfl ?_
  refine gj_iconst 91 dX4_copyFrom_90 rfl ?_
  refine gj_aload_n 92 dX4_copyFrom_91 rfl rfl ?_
  refine gj_getfr 95 dX4_copyFrom_92 rfl fl_4_30 rfl rfl ?_
  refine gj_iconst 96 dX4_copyFrom_95 rfl ?_
  refine gj_iconst 97 dX4_copyFrom_96 rfl ?_
  refine gj_copy 100 dX4_copyFrom_97 rfl ml_4_41 rfl rfl (by omega) (by omega) (by decide) (by decide) (Nat.le_of_ble_eq_true rfl) ?_
  refine gj_aload_n 101 dX4_copyFrom_100 rfl rfl ?_
  refine gj_getfr 104 dX4_copyFrom_101 rfl fl_4_33 rfl rfl ?_
  refine gj_iconst 105 dX4_copyFrom_104 rfl ?_
  refine gj_aload_n 106 dX4_copyFrom_105 rfl rfl ?_
  refine gj_getfr 109 dX4_copyFrom_106 rfl fl_4_33 rfl rfl ?_
  refine gj_iconst 110 dX4_copyFrom_109 rfl ?_
  refine gj_iconst 111 dX4_copyFrom_110 rfl ?_
  refine gj_copy 114 dX4_copyFrom_111 rfl ml_4_41 rfl rfl (by omega) (by omega) (by decide) (by decide) (Nat.le_of_ble_eq_true rfl) ?_
  refine gj_aload_n 115 dX4_copyFrom_114 rfl rfl ?_
  refine gj_aload_n 116 dX4_copyFrom_115 rfl rfl ?_
  refine gj_getfiE (M 50 6) 119 dX4_copyFrom_116 rfl fl_4_54 rfl rfl rfl (fun r_116 => ?_)
  refine gj_putfi 122 dX4_copyFrom_119 rfl fw_4_54 rfl rfl (by omega) ?_
  refine gj_vret dX4_copyFrom_122 rfl ⟨Nat.zero_le _, Nat.zero_le _⟩ ?_
  exact ⟨rfl, rfl, rfl⟩

set_option maxRecDepth 100000 in
set_option maxHeartbeats 4000000 in
theorem s4_copy_15_59 {xt : Nat × (Nat → Int)} {M : gj_M}  : gj_F xt Y4_copyFrom gS [gR 15, gR 59] M none (b_cp M 15 59) := by
  show gj_G _ Y4_copyFrom gS 0 0 0 [_, _] [] M _
  refine gj_aload_n 1 dX4_copyFrom_0 rfl rfl ?_
  refine gj_getfr 4 dX4_copyFrom_1 rfl fl_4_9 rfl rfl ?_
  refine gj_iconst 5 dX4_copyFrom_4 rfl ?_
  refine gj_aload_n 6 dX4_copyFrom_5 rfl rfl ?_
  refine gj_getfr 9 dX4_copyFrom_6 rfl fl_4_9 rfl rfl ?_
  refine gj_iconst 10 dX4_copyFrom_9 rfl ?_
  refine gj_bipush 12 dX4_copyFrom_10 rfl (by decide) ?_
  refine gj_copy 15 dX4_copyFrom_12 rfl ml_4_41 rfl rfl (by omega) (by omega) (by decide) (by decide) (Nat.le_of_ble_eq_true rfl) ?_
  refine gj_aload_n 16 dX4_copyFrom_15 rfl rfl ?_
  refine gj_getfr 19 dX4_copyFrom_16 rfl fl_4_15 rfl rfl ?_
  refine gj_iconst 20 dX4_copyFrom_19 rfl ?_
  refine gj_aload_n 21 dX4_copyFrom_20 rfl rfl ?_
  refine gj_getfr 24 dX4_copyFrom_21 rfl fl_4_15 rfl rfl ?_
  refine gj_iconst 25 dX4_copyFrom_24 rfl ?_
  refine gj_bipush 27 dX4_copyFrom_25 rfl (by decide) ?_
  refine gj_copy 30 dX4_copyFrom_27 rfl ml_4_41 rfl rfl (by omega) (by omega) (by decide) (by decide) (Nat.le_of_ble_eq_true rfl) ?_
  refine gj_aload_n 31 dX4_copyFrom_30 rfl rfl ?_
  refine gj_getfr 34 dX4_copyFrom_31 rfl fl_4_18 rfl rfl ?_
  refine gj_iconst 35 dX4_copyFrom_34 rfl ?_
  refine gj_aload_n 36 dX4_copyFrom_35 rfl rfl ?_
  refine gj_getfr 39 dX4_copyFrom_36 rfl fl_4_18 rfl rfl ?_
  refine gj_iconst 40 dX4_copyFrom_39 rfl ?_
  refine gj_iconst 41 dX4_copyFrom_40 rfl ?_
  refine gj_copy 44 dX4_copyFrom_41 rfl ml_4_41 rfl rfl (by omega) (by omega) (by decide) (by decide) (Nat.le_of_ble_eq_true rfl) ?_
  refine gj_aload_n 45 dX4_copyFrom_44 rfl rfl ?_
  refine gj_getfr 48 dX4_copyFrom_45 rfl fl_4_21 rfl rfl ?_
  refine gj_iconst 49 dX4_copyFrom_48 rfl ?_
  refine gj_aload_n 50 dX4_copyFrom_49 rfl rfl ?_
  refine gj_getfr 53 dX4_copyFrom_50 rfl fl_4_21 rfl rfl ?_
  refine gj_iconst 54 dX4_copyFrom_53 rfl ?_
  refine gj_iconst 55 dX4_copyFrom_54 rfl ?_
  refine gj_copy 58 dX4_copyFrom_55 rfl ml_4_41 rfl rfl (by omega) (by omega) (by decide) (by decide) (Nat.le_of_ble_eq_true rfl) ?_
  refine gj_aload_n 59 dX4_copyFrom_58 rfl rfl ?_
  refine gj_getfr 62 dX4_copyFrom_59 rfl fl_4_24 rfl rfl ?_
  refine gj_iconst 63 dX4_copyFrom_62 rfl ?_
  refine gj_aload_n 64 dX4_copyFrom_63 rfl rfl ?_
  refine gj_getfr 67 dX4_copyFrom_64 rfl fl_4_24 rfl rfl ?_
  refine gj_iconst 68 dX4_copyFrom_67 rfl ?_
  refine gj_iconst 69 dX4_copyFrom_68 rfl ?_
  refine gj_copy 72 dX4_copyFrom_69 rfl ml_4_41 rfl rfl (by omega) (by omega) (by decide) (by decide) (Nat.le_of_ble_eq_true rfl) ?_
  refine gj_aload_n 73 dX4_copyFrom_72 rfl rfl ?_
  refine gj_getfr 76 dX4_copyFrom_73 rfl fl_4_27 rfl rfl ?_
  refine gj_iconst 77 dX4_copyFrom_76 rfl ?_
  refine gj_aload_n 78 dX4_copyFrom_77 rfl rfl ?_
  refine gj_getfr 81 dX4_copyFrom_78 rfl fl_4_27 rfl rfl ?_
  refine gj_iconst 82 dX4_copyFrom_81 rfl ?_
  refine gj_iconst 83 dX4_copyFrom_82 rfl ?_
  refine gj_copy 86 dX4_copyFrom_83 rfl ml_4_41 rfl rfl (by omega) (by omega) (by decide) (by decide) (Nat.le_of_ble_eq_true rfl) ?_
  refine gj_aload_n 87 dX4_copyFrom_86 rfl rfl ?_
  refine gj_getfr 90 dX4_copyFrom_87 rfl fl_4_30 rfl rfl ?_
  refine gj_iconst 91 dX4_copyFrom_90 rfl ?_
  refine gj_aload_n 92 dX4_copyFrom_91 rfl rfl ?_
  refine gj_getfr 95 dX4_copyFrom_92 rfl fl_4_30 rfl rfl ?_
  refine gj_iconst 96 dX4_copyFrom_95 rfl ?_
  refine gj_iconst 97 dX4_copyFrom_96 rfl ?_
  refine gj_copy 100 dX4_copyFrom_97 rfl ml_4_41 rfl rfl (by omega) (by omega) (by decide) (by decide) (Nat.le_of_ble_eq_true rfl) ?_
  refine gj_aload_n 101 dX4_copyFrom_100 rfl rfl ?_
  refine gj_getfr 104 dX4_copyFrom_101 rfl fl_4_33 rfl rfl ?_
  refine gj_iconst 105 dX4_copyFrom_104 rfl ?_
  refine gj_aload_n 106 dX4_copyFrom_105 rfl rfl ?_
  refine gj_getfr 109 dX4_copyFrom_106 rfl fl_4_33 rfl rfl ?_
  refine gj_iconst 110 dX4_copyFrom_109 rfl ?_
  refine gj_iconst 111 dX4_copyFrom_110 rfl ?_
  refine gj_copy 114 dX4_copyFrom_111 rfl ml_4_41 rfl rfl (by omega) (by omega) (by decide) (by decide) (Nat.le_of_ble_eq_true rfl) ?_
  refine gj_aload_n 115 dX4_copyFrom_114 rfl rfl ?_
  refine gj_aload_n 116 dX4_copyFrom_115 rfl rfl ?_
  refine gj_getfiE (M 59 6) 119 dX4_copyFrom_116 rfl fl_4_54 rfl rfl rfl (fun r_116 => ?_)
  refine gj_putfi 122 dX4_copyFrom_119 rfl fw_4_54 rfl rfl (by omega) ?_
  refine gj_vret dX4_copyFrom_122 rfl ⟨Nat.zero_le _, Nat.zero_le _⟩ ?_
  exact ⟨rfl, rfl, rfl⟩

set_option maxRecDepth 100000 in
set_option maxHeartbeats 4000000 in
theorem s2_copy {xt : Nat × (Nat → Int)} {M : gj_M}  : gj_F xt Y2_copyFrom gS [gR 10, gR 3] M none (b_rc M) := by
  show gj_G _ Y2_copyFrom gS 0 0 0 [_, _] [] M _
  refine gj_aload_n 1 dX2_copyFrom_0 rfl rfl ?_
  refine gj_aload_n 2 dX2_copyFrom_1 rfl rfl ?_
  refine gj_getfiE (M 3 0) 5 dX2_copyFrom_2 rfl fl_2_24 rfl rfl rfl (fun r_2 => ?_)
  refine gj_putfi 8 dX2_copyFrom_5 rfl fw_2_24 rfl rfl (by omega) ?_
  refine gj_aload_n 9 dX2_copyFrom_8 rfl rfl ?_
  refine gj_aload_n 10 dX2_copyFrom_9 rfl rfl ?_
  refine gj_getfiE (M 3 1) 13 dX2_copyFrom_10 rfl fl_2_28 rfl rfl rfl (fun r_10 => ?_)
  refine gj_putfi 16 dX2_copyFrom_13 rfl fw_2_28 rfl rfl (by omega) ?_
  refine gj_aload_n 17 dX2_copyFrom_16 rfl rfl ?_
  refine gj_getfr 20 dX2_copyFrom_17 rfl fl_2_9 rfl rfl ?_
  refine gj_iconst 21 dX2_copyFrom_20 rfl ?_
  refine gj_aload_n 22 dX2_copyFrom_21 rfl rfl ?_
  refine gj_getfr 25 dX2_copyFrom_22 rfl fl_2_9 rfl rfl ?_
  refine gj_iconst 26 dX2_copyFrom_25 rfl ?_
  refine gj_bipush 28 dX2_copyFrom_26 rfl (by decide) ?_
  refine gj_copy 31 dX2_copyFrom_28 rfl ml_2_39 rfl rfl (by omega) (by omega) (by decide) (by decide) (Nat.le_of_ble_eq_true rfl) ?_
  refine gj_aload_n 32 dX2_copyFrom_31 rfl rfl ?_
  refine gj_getfr 35 dX2_copyFrom_32 rfl fl_2_15 rfl rfl ?_
  refine gj_iconst 36 dX2_copyFrom_35 rfl ?_
  refine gj_aload_n 37 dX2_copyFrom_36 rfl rfl ?_
  refine gj_getfr 40 dX2_copyFrom_37 rfl fl_2_15 rfl rfl ?_
  refine gj_iconst 41 dX2_copyFrom_40 rfl ?_
  refine gj_bipush 43 dX2_copyFrom_41 rfl (by decide) ?_
  refine gj_copy 46 dX2_copyFrom_43 rfl ml_2_39 rfl rfl (by omega) (by omega) (by decide) (by decide) (Nat.le_of_ble_eq_true rfl) ?_
  refine gj_aload_n 47 dX2_copyFrom_46 rfl rfl ?_
  refine gj_getfr 50 dX2_copyFrom_47 rfl fl_2_18 rfl rfl ?_
  refine gj_iconst 51 dX2_copyFrom_50 rfl ?_
  refine gj_aload_n 52 dX2_copyFrom_51 rfl rfl ?_
  refine gj_getfr 55 dX2_copyFrom_52 rfl fl_2_18 rfl rfl ?_
  refine gj_iconst 56 dX2_copyFrom_55 rfl ?_
  refine gj_iconst 57 dX2_copyFrom_56 rfl ?_
  refine gj_copy 60 dX2_copyFrom_57 rfl ml_2_39 rfl rfl (by omega) (by omega) (by decide) (by decide) (Nat.le_of_ble_eq_true rfl) ?_
  refine gj_aload_n 61 dX2_copyFrom_60 rfl rfl ?_
  refine gj_getfr 64 dX2_copyFrom_61 rfl fl_2_21 rfl rfl ?_
  refine gj_iconst 65 dX2_copyFrom_64 rfl ?_
  refine gj_aload_n 66 dX2_copyFrom_65 rfl rfl ?_
  refine gj_getfr 69 dX2_copyFrom_66 rfl fl_2_21 rfl rfl ?_
  refine gj_iconst 70 dX2_copyFrom_69 rfl ?_
  refine gj_sipush 73 dX2_copyFrom_70 rfl (by decide) ?_
  refine gj_copy 76 dX2_copyFrom_73 rfl ml_2_39 rfl rfl (by omega) (by omega) (by decide) (by decide) (Nat.le_of_ble_eq_true rfl) ?_
  refine gj_vret dX2_copyFrom_76 rfl ⟨Nat.zero_le _, Nat.zero_le _⟩ ?_
  exact ⟨rfl, rfl, rfl⟩
