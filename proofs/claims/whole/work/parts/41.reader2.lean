set_option maxRecDepth 100000 in
set_option maxHeartbeats 4000000 in
theorem s1_takes {xt : Nat × (Nat → Int)} {M : gj_M} {c : Int} (hI : r_I M) (hc : 0 ≤ c ∧ c ≤ 255) : gj_F xt Y1_takes gS [gR 2, gI c] M (some (gI (a_tk M c))) (r_tk M c) := by
  show gj_G _ Y1_takes gS 0 0 0 [_, _] [] M _
  have i1 := hI.1
  have i2 := hI.2.1
  have i3 := hI.2.2.1
  have i4 := hI.2.2.2.1
  refine gj_aload_n 1 dX1_takes_0 rfl rfl ?_
  refine gj_getfi 4 dX1_takes_1 rfl fl_1_25 rfl rfl (fun r_1 => ?_)
  rcases (show M 2 1 = 0 ∨ M 2 1 = 1 ∨ M 2 1 = 2 ∨ M 2 1 = 3 ∨ M 2 1 = 4 ∨ M 2 1 = 5 ∨ M 2 1 = 6 ∨ M 2 1 = 7 ∨ M 2 1 = 8 ∨ (M 2 1 < 0 ∨ 8 < M 2 1) by omega) with t_4 | t_4 | t_4 | t_4 | t_4 | t_4 | t_4 | t_4 | t_4 | t_4
  · refine gj_tabI (off := 52) 56 dX1_takes_4 (by omega) (by omega) (by rw [t_4]; rfl) (by decide) ?_
    refine gj_aload_n 57 dX1_takes_56 rfl rfl ?_
    refine gj_iconst 58 dX1_takes_57 rfl ?_
    refine gj_putfi 61 dX1_takes_58 rfl fw_1_25 rfl rfl (by omega) ?_
    refine gj_iload_n 62 dX1_takes_61 rfl rfl ?_
    refine gj_bipush 64 dX1_takes_62 rfl (by decide) ?_
    refine gj_icmp_ne 71 67 dX1_takes_64 (by decide) rfl (by omega) (by omega) (fun c_64 => ?_) (fun c_64 => ?_)
    · refine gj_iconst 72 dX1_takes_71 rfl ?_
      refine gj_zret dX1_takes_72 rfl (by decide) ⟨Nat.zero_le _, Nat.zero_le _⟩ ?_
      exact ⟨rfl, by (unfold a_tk; (repeat (first | rw [if_pos (by omega)] | rw [if_neg (by omega)])); try rfl), by (unfold r_tk; (repeat (first | rw [if_pos (by omega)] | rw [if_neg (by omega)])); try rfl)⟩
    · refine gj_iconst 68 dX1_takes_67 rfl ?_
      refine gj_goto 72 dX1_takes_68 (by decide) ?_
      refine gj_zret dX1_takes_72 rfl (by decide) ⟨Nat.zero_le _, Nat.zero_le _⟩ ?_
      exact ⟨rfl, by (unfold a_tk; (repeat (first | rw [if_pos (by omega)] | rw [if_neg (by omega)])); try rfl), by (unfold r_tk; (repeat (first | rw [if_pos (by omega)] | rw [if_neg (by omega)])); try rfl)⟩
  · refine gj_tabI (off := 69) 73 dX1_takes_4 (by omega) (by omega) (by rw [t_4]; rfl) (by decide) ?_
    refine gj_iload_n 74 dX1_takes_73 rfl rfl ?_
    refine gj_bipush 76 dX1_takes_74 rfl (by decide) ?_
    refine gj_icmp_ne 86 79 dX1_takes_76 (by decide) rfl (by omega) (by omega) (fun c_76 => ?_) (fun c_76 => ?_)
    · refine gj_aload_n 87 dX1_takes_86 rfl rfl ?_
      refine gj_iload_n 88 dX1_takes_87 rfl rfl ?_
      refine gj_fV 91 dX1_takes_88 rfl ok_1_takesLevel ml_1_40 iv_1_takesLevel (As := [gI _]) rfl rfl rfl rfl (Nat.le_of_ble_eq_true rfl) ⟨Nat.le_of_ble_eq_true rfl, Nat.le_of_ble_eq_true rfl⟩ (Nat.le_of_ble_eq_true rfl) ⟨rfl, rfl⟩ ⟨Nat.zero_le _, Nat.zero_le _⟩ (s1_takesLevel hI (by omega)) ?_
      refine gj_zret dX1_takes_91 rfl (by first | exact a_dr_01 _ | exact a_lv_01 _ _) ⟨Nat.zero_le _, Nat.zero_le _⟩ ?_
      exact ⟨rfl, by (unfold a_tk; (repeat (first | rw [if_pos (by omega)] | rw [if_neg (by omega)])); try rfl), by (unfold r_tk; (repeat (first | rw [if_pos (by omega)] | rw [if_neg (by omega)])); try rfl)⟩
    · refine gj_aload_n 80 dX1_takes_79 rfl rfl ?_
      refine gj_fV 83 dX1_takes_80 rfl ok_1_takesDrawing ml_1_36 iv_1_takesDrawing (As := []) rfl rfl rfl rfl (Nat.le_of_ble_eq_true rfl) ⟨Nat.le_of_ble_eq_true rfl, Nat.le_of_ble_eq_true rfl⟩ (Nat.le_of_ble_eq_true rfl) ⟨rfl, rfl⟩ ⟨Nat.zero_le _, Nat.zero_le _⟩ (s1_takesDrawing hI) ?_
      refine gj_goto 91 dX1_takes_83 (by decide) ?_
      refine gj_zret dX1_takes_91 rfl (by first | exact a_dr_01 _ | exact a_lv_01 _ _) ⟨Nat.zero_le _, Nat.zero_le _⟩ ?_
      exact ⟨rfl, by (unfold a_tk; (repeat (first | rw [if_pos (by omega)] | rw [if_neg (by omega)])); try rfl), by (unfold r_tk; (repeat (first | rw [if_pos (by omega)] | rw [if_neg (by omega)])); try rfl)⟩
  · refine gj_tabI (off := 88) 92 dX1_takes_4 (by omega) (by omega) (by rw [t_4]; rfl) (by decide) ?_
    refine gj_aload_n 93 dX1_takes_92 rfl rfl ?_
    refine gj_iload_n 94 dX1_takes_93 rfl rfl ?_
    refine gj_bipush 96 dX1_takes_94 rfl (by decide) ?_
    refine gj_isub 97 dX1_takes_96 rfl ?_
    refine gj_putfi 100 dX1_takes_97 rfl fw_1_43 rfl rfl (by omega) ?_
    refine gj_aload_n 101 dX1_takes_100 rfl rfl ?_
    refine gj_iconst 102 dX1_takes_101 rfl ?_
    refine gj_putfi 105 dX1_takes_102 rfl fw_1_25 rfl rfl (by omega) ?_
    refine gj_aload_n 106 dX1_takes_105 rfl rfl ?_
    refine gj_getfiE (c - 48) 109 dX1_takes_106 rfl fl_1_43 rfl rfl rfl (fun r_106 => ?_)
    refine gj_if_lt 125 112 dX1_takes_109 (by decide) rfl (by omega) (fun c_109 => ?_) (fun c_109 => ?_)
    · refine gj_iconst 126 dX1_takes_125 rfl ?_
      refine gj_zret dX1_takes_126 rfl (by decide) ⟨Nat.zero_le _, Nat.zero_le _⟩ ?_
      exact ⟨rfl, by (unfold a_tk; (repeat (first | rw [if_pos (by omega)] | rw [if_neg (by omega)])); try rfl), by (unfold r_tk; (repeat (first | rw [if_pos (by omega)] | rw [if_neg (by omega)])); try rfl)⟩
    · refine gj_aload_n 113 dX1_takes_112 rfl rfl ?_
      refine gj_getfiE (c - 48) 116 dX1_takes_113 rfl fl_1_43 rfl rfl rfl (fun r_113 => ?_)
      refine gj_bipush 118 dX1_takes_116 rfl (by decide) ?_
      refine gj_icmp_gt 125 121 dX1_takes_118 (by decide) rfl (by omega) (by omega) (fun c_118 => ?_) (fun c_118 => ?_)
      · refine gj_iconst 126 dX1_takes_125 rfl ?_
        refine gj_zret dX1_takes_126 rfl (by decide) ⟨Nat.zero_le _, Nat.zero_le _⟩ ?_
        exact ⟨rfl, by (unfold a_tk; (repeat (first | rw [if_pos (by omega)] | rw [if_neg (by omega)])); try rfl), by (unfold r_tk; (repeat (first | rw [if_pos (by omega)] | rw [if_neg (by omega)])); try rfl)⟩
      · refine gj_iconst 122 dX1_takes_121 rfl ?_
        refine gj_goto 126 dX1_takes_122 (by decide) ?_
        refine gj_zret dX1_takes_126 rfl (by decide) ⟨Nat.zero_le _, Nat.zero_le _⟩ ?_
        exact ⟨rfl, by (unfold a_tk; (repeat (first | rw [if_pos (by omega)] | rw [if_neg (by omega)])); try rfl), by (unfold r_tk; (repeat (first | rw [if_pos (by omega)] | rw [if_neg (by omega)])); try rfl)⟩
  · refine gj_tabI (off := 123) 127 dX1_takes_4 (by omega) (by omega) (by rw [t_4]; rfl) (by decide) ?_
    refine gj_aload_n 128 dX1_takes_127 rfl rfl ?_
    refine gj_iload_n 129 dX1_takes_128 rfl rfl ?_
    refine gj_bipush 131 dX1_takes_129 rfl (by decide) ?_
    refine gj_isub 132 dX1_takes_131 rfl ?_
    refine gj_fV 135 dX1_takes_132 rfl ok_1_takesWidth ml_1_46 iv_1_takesWidth (As := [gI _]) rfl rfl rfl rfl (Nat.le_of_ble_eq_true rfl) ⟨Nat.le_of_ble_eq_true rfl, Nat.le_of_ble_eq_true rfl⟩ (Nat.le_of_ble_eq_true rfl) ⟨rfl, rfl⟩ ⟨Nat.zero_le _, Nat.zero_le _⟩ (s1_takesWidth hI (by omega)) ?_
    refine gj_zret dX1_takes_135 rfl (a_wd_01 _) ⟨Nat.zero_le _, Nat.zero_le _⟩ ?_
    exact ⟨rfl, by (unfold a_tk; (repeat (first | rw [if_pos (by omega)] | rw [if_neg (by omega)])); try rfl), by (unfold r_tk; (repeat (first | rw [if_pos (by omega)] | rw [if_neg (by omega)])); try rfl)⟩
  · refine gj_tabI (off := 132) 136 dX1_takes_4 (by omega) (by omega) (by rw [t_4]; rfl) (by decide) ?_
    refine gj_aload_n 137 dX1_takes_136 rfl rfl ?_
    refine gj_iload_n 138 dX1_takes_137 rfl rfl ?_
    refine gj_fV 141 dX1_takes_138 rfl ok_1_takesLevel ml_1_40 iv_1_takesLevel (As := [gI _]) rfl rfl rfl rfl (Nat.le_of_ble_eq_true rfl) ⟨Nat.le_of_ble_eq_true rfl, Nat.le_of_ble_eq_true rfl⟩ (Nat.le_of_ble_eq_true rfl) ⟨rfl, rfl⟩ ⟨Nat.zero_le _, Nat.zero_le _⟩ (s1_takesLevel hI (by omega)) ?_
    refine gj_zret dX1_takes_141 rfl (a_lv_01 _ _) ⟨Nat.zero_le _, Nat.zero_le _⟩ ?_
    exact ⟨rfl, by (unfold a_tk; (repeat (first | rw [if_pos (by omega)] | rw [if_neg (by omega)])); try rfl), by (unfold r_tk; (repeat (first | rw [if_pos (by omega)] | rw [if_neg (by omega)])); try rfl)⟩
  · refine gj_tabI (off := 138) 142 dX1_takes_4 (by omega) (by omega) (by rw [t_4]; rfl) (by decide) ?_
    refine gj_aload_n 143 dX1_takes_142 rfl rfl ?_
    refine gj_iload_n 144 dX1_takes_143 rfl rfl ?_
    refine gj_fV 147 dX1_takes_144 rfl ok_1_takesItemOrEnd ml_1_49 iv_1_takesItemOrEnd (As := [gI _]) rfl rfl rfl rfl (Nat.le_of_ble_eq_true rfl) ⟨Nat.le_of_ble_eq_true rfl, Nat.le_of_ble_eq_true rfl⟩ (Nat.le_of_ble_eq_true rfl) ⟨rfl, rfl⟩ ⟨Nat.zero_le _, Nat.zero_le _⟩ (s1_takesItemOrEnd hI hc) ?_
    refine gj_zret dX1_takes_147 rfl (a_ie_01 _ _) ⟨Nat.zero_le _, Nat.zero_le _⟩ ?_
    exact ⟨rfl, by (unfold a_tk; (repeat (first | rw [if_pos (by omega)] | rw [if_neg (by omega)])); try rfl), by (unfold r_tk; (repeat (first | rw [if_pos (by omega)] | rw [if_neg (by omega)])); try rfl)⟩
  · refine gj_tabI (off := 144) 148 dX1_takes_4 (by omega) (by omega) (by rw [t_4]; rfl) (by decide) ?_
    refine gj_aload_n 149 dX1_takes_148 rfl rfl ?_
    refine gj_iload_n 150 dX1_takes_149 rfl rfl ?_
    refine gj_fV 153 dX1_takes_150 rfl ok_1_takesItem ml_1_52 iv_1_takesItem (As := [gI _]) rfl rfl rfl rfl (Nat.le_of_ble_eq_true rfl) ⟨Nat.le_of_ble_eq_true rfl, Nat.le_of_ble_eq_true rfl⟩ (Nat.le_of_ble_eq_true rfl) ⟨rfl, rfl⟩ ⟨Nat.zero_le _, Nat.zero_le _⟩ (s1_takesItem hI hc) ?_
    refine gj_zret dX1_takes_153 rfl (a_it_01 _ _) ⟨Nat.zero_le _, Nat.zero_le _⟩ ?_
    exact ⟨rfl, by (unfold a_tk; (repeat (first | rw [if_pos (by omega)] | rw [if_neg (by omega)])); try rfl), by (unfold r_tk; (repeat (first | rw [if_pos (by omega)] | rw [if_neg (by omega)])); try rfl)⟩
  · refine gj_tabI (off := 150) 154 dX1_takes_4 (by omega) (by omega) (by rw [t_4]; rfl) (by decide) ?_
    refine gj_aload_n 155 dX1_takes_154 rfl rfl ?_
    refine gj_iload_n 156 dX1_takes_155 rfl rfl ?_
    refine gj_bipush 158 dX1_takes_156 rfl (by decide) ?_
    refine gj_isub 159 dX1_takes_158 rfl ?_
    refine gj_fV 162 dX1_takes_159 rfl ok_1_takesHold ml_1_55 iv_1_takesHold (As := [gI _]) rfl rfl rfl rfl (Nat.le_of_ble_eq_true rfl) ⟨Nat.le_of_ble_eq_true rfl, Nat.le_of_ble_eq_true rfl⟩ (Nat.le_of_ble_eq_true rfl) ⟨rfl, rfl⟩ ⟨Nat.zero_le _, Nat.zero_le _⟩ (s1_takesHold hI (by omega)) ?_
    refine gj_zret dX1_takes_162 rfl (a_hd_01 _) ⟨Nat.zero_le _, Nat.zero_le _⟩ ?_
    exact ⟨rfl, by (unfold a_tk; (repeat (first | rw [if_pos (by omega)] | rw [if_neg (by omega)])); try rfl), by (unfold r_tk; (repeat (first | rw [if_pos (by omega)] | rw [if_neg (by omega)])); try rfl)⟩
  · refine gj_tabI (off := 159) 163 dX1_takes_4 (by omega) (by omega) (by rw [t_4]; rfl) (by decide) ?_
    refine gj_aload_n 164 dX1_takes_163 rfl rfl ?_
    refine gj_iload_n 165 dX1_takes_164 rfl rfl ?_
    refine gj_bipush 167 dX1_takes_165 rfl (by decide) ?_
    refine gj_isub 168 dX1_takes_167 rfl ?_
    refine gj_fV 171 dX1_takes_168 rfl ok_1_takesTimes ml_1_58 iv_1_takesTimes (As := [gI _]) rfl rfl rfl rfl (Nat.le_of_ble_eq_true rfl) ⟨Nat.le_of_ble_eq_true rfl, Nat.le_of_ble_eq_true rfl⟩ (Nat.le_of_ble_eq_true rfl) ⟨rfl, rfl⟩ ⟨Nat.zero_le _, Nat.zero_le _⟩ (s1_takesTimes hI (by omega)) ?_
    refine gj_zret dX1_takes_171 rfl (a_tm_01 _ _) ⟨Nat.zero_le _, Nat.zero_le _⟩ ?_
    exact ⟨rfl, by (unfold a_tk; (repeat (first | rw [if_pos (by omega)] | rw [if_neg (by omega)])); try rfl), by (unfold r_tk; (repeat (first | rw [if_pos (by omega)] | rw [if_neg (by omega)])); try rfl)⟩
  · refine gj_tabO 172 dX1_takes_4 (by omega) t_4 (by decide) ?_
    exact absurd t_4 (by omega)

set_option maxRecDepth 100000 in
set_option maxHeartbeats 4000000 in
theorem s1_ff_l {xt : Nat × (Nat → Int)} {M : gj_M} {len : Int} (hlen : 0 ≤ len ∧ len ≤ 80) (ht : ∀ i : Int, 0 ≤ i → i < len → 0 ≤ M 1 i ∧ M 1 i ≤ 255) (h5 : ∀ l : Int, 0 ≤ l → l < 4 → 0 ≤ M 6 l ∧ M 6 l ≤ 48) (h6 : ∀ i : Int, 0 ≤ i → i < 2 → 0 ≤ M 8 i ∧ M 8 i ≤ 48) : ∀ (n k : Nat), (k : Int) + n = len → gj_G xt Y1_firstFault gS 0 0 19 [some (gR 2), some (gR 1), some (gI len), some (gI (k : Int))] [] (r_ru M (M 1) k) (fun r S2 M2 => S2 = gS ∧ r = some (gI (r_ff M (M 1) n k)) ∧ M2 = r_ru M (M 1) (r_fn M (M 1) n k)) := by
  intro n
  induction n with
  | zero =>
    intro k hk
    have hIk := r_ru_I (t := M 1) h5 h6 k
    have hEk := r_ru_E M (M 1) k
    refine gj_iload_n 20 dX1_firstFault_19 rfl rfl ?_
    refine gj_iload_n 21 dX1_firstFault_20 rfl rfl ?_
    refine gj_icmp_ge 48 24 dX1_firstFault_21 (by decide) rfl (by omega) (by omega) (fun c_21 => ?_) (fun c_21 => absurd c_21 (by omega))
    refine gj_aload_n 49 dX1_firstFault_48 rfl rfl ?_
    refine gj_getfi 52 dX1_firstFault_49 rfl fl_1_25 rfl rfl (fun r_49 => ?_)
    refine gj_iconst 53 dX1_firstFault_52 rfl ?_
    refine gj_icmp_eq 64 56 dX1_firstFault_53 (by decide) rfl (by omega) (by omega) (fun c_53 => ?_) (fun c_53 => ?_)
    · refine gj_bipush 66 dX1_firstFault_64 rfl (by decide) ?_
      refine gj_goto 70 dX1_firstFault_66 (by decide) ?_
      refine gj_iret dX1_firstFault_70 rfl ⟨Nat.zero_le _, Nat.zero_le _⟩ ?_
      have hk4 : (k : Int) = len := by omega
      exact ⟨rfl, by simp only [r_ff]; first | rw [if_pos (by omega)] | (rw [if_neg (by omega)]; rw [hk4]), rfl⟩
    · refine gj_aload_n 57 dX1_firstFault_56 rfl rfl ?_
      refine gj_getfi 60 dX1_firstFault_57 rfl fl_1_25 rfl rfl (fun r_57 => ?_)
      refine gj_iconst 61 dX1_firstFault_60 rfl ?_
      refine gj_icmp_ne 69 64 dX1_firstFault_61 (by decide) rfl (by omega) (by omega) (fun c_61 => ?_) (fun c_61 => ?_)
      · refine gj_iload_n 70 dX1_firstFault_69 rfl rfl ?_
        refine gj_iret dX1_firstFault_70 rfl ⟨Nat.zero_le _, Nat.zero_le _⟩ ?_
        have hk4 : (k : Int) = len := by omega
        exact ⟨rfl, by simp only [r_ff]; first | rw [if_pos (by omega)] | (rw [if_neg (by omega)]; rw [hk4]), rfl⟩
      · refine gj_bipush 66 dX1_firstFault_64 rfl (by decide) ?_
        refine gj_goto 70 dX1_firstFault_66 (by decide) ?_
        refine gj_iret dX1_firstFault_70 rfl ⟨Nat.zero_le _, Nat.zero_le _⟩ ?_
        have hk4 : (k : Int) = len := by omega
        exact ⟨rfl, by simp only [r_ff]; first | rw [if_pos (by omega)] | (rw [if_neg (by omega)]; rw [hk4]), rfl⟩
  | succ n ih =>
    intro k hk
    have hIk := r_ru_I (t := M 1) h5 h6 k
    have hEk := r_ru_E M (M 1) k
    refine gj_iload_n 20 dX1_firstFault_19 rfl rfl ?_
    refine gj_iload_n 21 dX1_firstFault_20 rfl rfl ?_
    refine gj_icmp_ge 48 24 dX1_firstFault_21 (by decide) rfl (by omega) (by omega) (fun c_21 => absurd c_21 (by omega)) (fun c_21 => ?_)
    have hlt := ht k (by omega) (by omega)
    have h01 := a_tk_01 (r_ru M (M 1) k) (M 1 k)
    refine gj_iload_n 25 dX1_firstFault_24 rfl rfl ?_
    refine gj_aload_n 26 dX1_firstFault_25 rfl rfl ?_
    refine gj_alen (z := 80) 27 dX1_firstFault_26 rfl rfl rfl ?_
    refine gj_icmp_ge 48 30 dX1_firstFault_27 (by decide) rfl (by omega) (by omega) (fun c_27 => absurd c_27 (by omega)) (fun c_27 => ?_)
    refine gj_aload_n 31 dX1_firstFault_30 rfl rfl ?_
    refine gj_aload_n 32 dX1_firstFault_31 rfl rfl ?_
    refine gj_iload_n 33 dX1_firstFault_32 rfl rfl ?_
    refine gj_ialdE (M 1 k) 34 dX1_firstFault_33 rfl rfl (by omega) (by omega) (hEk 1 (by decide) k) (fun r_33 => ?_)
    refine gj_fV 37 dX1_firstFault_34 rfl ok_1_takes ml_1_32 iv_1_takes (As := [gI _]) rfl rfl rfl rfl (Nat.le_of_ble_eq_true rfl) ⟨Nat.le_of_ble_eq_true rfl, Nat.le_of_ble_eq_true rfl⟩ (Nat.le_of_ble_eq_true rfl) ⟨rfl, rfl⟩ ⟨Nat.zero_le _, Nat.zero_le _⟩ (s1_takes hIk hlt) ?_
    refine gj_if_ne 42 40 dX1_firstFault_37 (by decide) rfl (by omega) (fun c_37 => ?_) (fun c_37 => ?_)
    · refine gj_iinc (b := ((k + 1 : Nat) : Int)) (lv' := [_, _, _, _]) 45 dX1_firstFault_42 rfl rfl (by omega) (by decide) rfl ?_
      refine gj_goto 19 dX1_firstFault_45 (by decide) ?_
      have e0 : ¬ a_tk (r_ru M (M 1) k) (M 1 k) = 0 := by omega
      have e1 : r_ff M (M 1) (n + 1) k = r_ff M (M 1) n (k + 1) := if_neg e0
      have e2 : r_fn M (M 1) (n + 1) k = r_fn M (M 1) n (k + 1) := if_neg e0
      rw [e1, e2]
      exact gj_wk (ih (k + 1) (by omega)) ⟨rfl, rfl, rfl, rfl, trivial⟩
    · refine gj_iload_n 41 dX1_firstFault_40 rfl rfl ?_
      refine gj_iret dX1_firstFault_41 rfl ⟨Nat.zero_le _, Nat.zero_le _⟩ ?_
      have e1 : r_ff M (M 1) (n + 1) k = k := if_pos (by omega)
      have e2 : r_fn M (M 1) (n + 1) k = k + 1 := if_pos (by omega)
      exact ⟨rfl, by rw [e1], by rw [e2]; rfl⟩

set_option maxRecDepth 100000 in
set_option maxHeartbeats 4000000 in
theorem s1_firstFault {xt : Nat × (Nat → Int)} {M : gj_M} {len : Int} (hlen : 0 ≤ len ∧ len ≤ 80) (ht : ∀ i : Int, 0 ≤ i → i < len → 0 ≤ M 1 i ∧ M 1 i ≤ 255) (h5 : ∀ l : Int, 0 ≤ l → l < 4 → 0 ≤ M 6 l ∧ M 6 l ≤ 48) (h6 : ∀ i : Int, 0 ≤ i → i < 2 → 0 ≤ M 8 i ∧ M 8 i ≤ 48) : gj_F xt Y1_firstFault gS [gR 2, gR 1, gI len] M (some (gI (r_ff M (M 1) len.toNat 0))) (r_ru M (M 1) (r_fn M (M 1) len.toNat 0)) := by
  show gj_G _ Y1_firstFault gS 0 0 0 [_, _, _, _] [] M _
  refine gj_aload_n 1 dX1_firstFault_0 rfl rfl ?_
  refine gj_getfr 4 dX1_firstFault_1 rfl fl_1_12 rfl rfl ?_
  refine gj_vV 7 dX1_firstFault_4 rfl ok_2_clear ml_1_22 iv_2_clear (As := []) rfl rfl rfl rfl (Nat.le_of_ble_eq_true rfl) ⟨Nat.le_of_ble_eq_true rfl, Nat.le_of_ble_eq_true rfl⟩ (Nat.le_of_ble_eq_true rfl) ⟨rfl, rfl⟩ ⟨Nat.zero_le _, Nat.zero_le _⟩ (s2_clear) ?_
  refine gj_aload_n 8 dX1_firstFault_7 rfl rfl ?_
  refine gj_iconst 9 dX1_firstFault_8 rfl ?_
  refine gj_putfi 12 dX1_firstFault_9 rfl fw_1_25 rfl rfl (by omega) ?_
  refine gj_aload_n 13 dX1_firstFault_12 rfl rfl ?_
  refine gj_iconst 14 dX1_firstFault_13 rfl ?_
  refine gj_putfi 17 dX1_firstFault_14 rfl fw_1_29 rfl rfl (by omega) ?_
  refine gj_iconst 18 dX1_firstFault_17 rfl ?_
  refine gj_istore_n (lv' := [_, _, _, _]) 19 dX1_firstFault_18 rfl (by decide) rfl ?_
  exact gj_wk (s1_ff_l hlen ht h5 h6 len.toNat 0 (by omega)) ⟨rfl, rfl, rfl, rfl, trivial⟩
