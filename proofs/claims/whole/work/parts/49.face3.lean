theorem gj_top6 {xt : Nat × (Nat → Int)} {Y : gj_Y} {S : List gj_H} {k n pc : Nat} {lv : List (Option gj_V)} {st : List gj_V} {M : gj_M} {Q : Option gj_V → List gj_H → gj_M → Prop} {a : Int} (b : Int) (h : a = b) (kk : gj_G xt Y S k n pc lv (gL b :: st) M Q) : gj_G xt Y S k n pc lv (gL a :: st) M Q := by
  subst h
  exact kk

set_option maxRecDepth 100000 in
set_option maxHeartbeats 4000000 in
theorem s7_looks_l {xt : Nat × (Nat → Int)} {M : gj_M} {m : Int} (hI : c_I M) (hm : 1 ≤ m ∧ m ≤ 40) : ∀ (n k : Nat), (k : Int) + n = m → gj_G xt Y7_looks gS 0 0 18 [some (gR 0), some (gI m), some (gI (x_lk M k)), some (gI (k : Int)), none] [] (gj_u M 5000 12 (e_sd (M 5000 12) k)) (fun r S2 M2 => S2 = gS ∧ r = some (gI (x_looks M m)) ∧ M2 = m_looks M m) := by
  intro n
  induction n with
  | zero =>
    intro k hk
    refine gj_iload_n 19 dX7_looks_18 rfl rfl ?_
    refine gj_iload_n 20 dX7_looks_19 rfl rfl ?_
    refine gj_icmp_ge 84 23 dX7_looks_20 (by decide) rfl (by omega) (by omega) (fun c_20 => ?_) (fun c_20 => absurd c_20 (by omega))
    refine gj_iload_n 85 dX7_looks_84 rfl rfl ?_
    refine gj_iret dX7_looks_85 rfl ⟨Nat.zero_le _, Nat.zero_le _⟩ ?_
    have hk5 : (k : Int) = m := by omega
    exact ⟨rfl, by unfold x_looks; rw [if_neg (by omega), show m.toNat = k by omega], by unfold m_looks; rw [if_neg (by omega), show m.toNat = k by omega]⟩
  | succ n ih =>
    intro k hk
    refine gj_iload_n 19 dX7_looks_18 rfl rfl ?_
    refine gj_iload_n 20 dX7_looks_19 rfl rfl ?_
    refine gj_icmp_ge 84 23 dX7_looks_20 (by decide) rfl (by omega) (by omega) (fun c_20 => absurd c_20 (by omega)) (fun c_20 => ?_)
    refine gj_aload_n 24 dX7_looks_23 rfl rfl ?_
    refine gj_aload_n 25 dX7_looks_24 rfl rfl ?_
    refine gj_getflE ((e_sd (M 5000 12) k)) 28 dX7_looks_25 rfl fl_7_236 rfl rfl gj_u_s ?_
    refine gj_ldc2 (a := 6364136223846793005) 31 dX7_looks_28 rfl lc_7_240 ?_
    refine gj_lmul 32 dX7_looks_31 rfl ?_
    refine gj_ldc2 (a := 1442695040888963407) 35 dX7_looks_32 rfl lc_7_242 ?_
    refine gj_ladd 36 dX7_looks_35 rfl ?_
    refine gj_putfl 39 dX7_looks_36 rfl fw_7_236 rfl rfl ?_
    refine gj_aload_n 40 dX7_looks_39 rfl rfl ?_
    refine gj_getflE ((e_sd (M 5000 12) (k + 1))) 43 dX7_looks_40 rfl fl_7_236 rfl rfl gj_u_s ?_
    refine gj_bipush 45 dX7_looks_43 rfl (by decide) ?_
    refine gj_lushr 46 dX7_looks_45 rfl ?_
    refine gj_top6 (e_v (e_sd (M 5000 12) (k + 1))) rfl ?_
    have hvb := e_v_b (e_sd (M 5000 12) (k + 1))
    have hm1 := Int.emod_nonneg (e_v (e_sd (M 5000 12) (k + 1))) (by decide : (48 : Int) ≠ 0)
    have hm2 := Int.emod_lt_of_pos (e_v (e_sd (M 5000 12) (k + 1))) (by decide : (0 : Int) < 48)
    have hq1 : 0 ≤ (e_v (e_sd (M 5000 12) (k + 1))) / 48 := by omega
    have hn1 := Int.emod_nonneg ((e_v (e_sd (M 5000 12) (k + 1))) / 48) (by decide : (10 : Int) ≠ 0)
    have hn2 := Int.emod_lt_of_pos ((e_v (e_sd (M 5000 12) (k + 1))) / 48) (by decide : (0 : Int) < 10)
    have hsb := c_seen_in hI ((e_v (e_sd (M 5000 12) (k + 1))) % 48) ((e_v (e_sd (M 5000 12) (k + 1))) / 48 % 10) (-1)
    have sp := t3_seenAt (xt := xt) (M := gj_u (gj_u M 5000 12 (e_sd (M 5000 12) k)) 5000 12 (e_sd (M 5000 12) (k + 1))) (f := (e_v (e_sd (M 5000 12) (k + 1))) % 48) (c := (e_v (e_sd (M 5000 12) (k + 1))) / 48 % 10) (rub := -1) (by rw [gj_u_u]; exact c_eq.sd.I hI) (by omega) (by omega) (by omega)
    rw [gj_u_u, c_eq.sd.seen] at sp
    refine gj_mem (gj_u_u M 5000 12 _ _) ?_
    refine gj_l2i 47 dX7_looks_46 rfl (by omega) ?_
    refine gj_istore (lv' := [_, _, _, _, _]) 49 dX7_looks_47 rfl (by decide) rfl ?_
    refine gj_aload_n 50 dX7_looks_49 rfl rfl ?_
    refine gj_getfr 53 dX7_looks_50 rfl fl_7_23 rfl rfl ?_
    refine gj_iload 55 dX7_looks_53 rfl rfl ?_
    refine gj_bipush 57 dX7_looks_55 rfl (by decide) ?_
    refine gj_irem 58 dX7_looks_57 rfl (by omega) (by omega) ?_
    refine gj_iload 60 dX7_looks_58 rfl rfl ?_
    refine gj_bipush 62 dX7_looks_60 rfl (by decide) ?_
    refine gj_idiv 63 dX7_looks_62 rfl (by omega) (by omega) ?_
    refine gj_bipush 65 dX7_looks_63 rfl (by decide) ?_
    refine gj_irem 66 dX7_looks_65 rfl (by omega) (by omega) ?_
    refine gj_iconst 67 dX7_looks_66 rfl ?_
    refine gj_fV 70 dX7_looks_67 rfl ok_3_seenAt ml_7_195 iv_3_seenAt (As := [gI _, gI _, gI _]) rfl rfl rfl rfl (Nat.le_of_ble_eq_true rfl) ⟨Nat.le_of_ble_eq_true rfl, Nat.le_of_ble_eq_true rfl⟩ (Nat.le_of_ble_eq_true rfl) ⟨rfl, rfl⟩ ⟨Nat.zero_le _, Nat.zero_le _⟩ (sp) ?_
    refine gj_bipush 72 dX7_looks_70 rfl (by decide) ?_
    refine gj_icmp_eq 78 75 dX7_looks_72 (by decide) rfl (by omega) (by omega) (fun c_72 => ?_) (fun c_72 => ?_)
    · refine gj_iinc (b := ((k + 1 : Nat) : Int)) (lv' := [_, _, _, _, _]) 81 dX7_looks_78 rfl rfl (by omega) (by decide) rfl ?_
      refine gj_goto 18 dX7_looks_81 (by decide) ?_
      have h := ih (k + 1) (by omega)
      first
      | (rw [show x_lk M (k + 1) = x_lk M k from if_pos (by omega)] at h; exact gj_wk h ⟨rfl, rfl, rfl, rfl, trivial⟩)
      | (rw [show x_lk M (k + 1) = x_lk M k + 1 from if_neg (by omega)] at h; exact gj_wk h ⟨rfl, rfl, rfl, rfl, trivial⟩)
    · refine gj_iinc (lv' := [_, _, _, _, _]) 78 dX7_looks_75 rfl rfl rfl (by decide) rfl ?_
      refine gj_iinc (b := ((k + 1 : Nat) : Int)) (lv' := [_, _, _, _, _]) 81 dX7_looks_78 rfl rfl (by omega) (by decide) rfl ?_
      refine gj_goto 18 dX7_looks_81 (by decide) ?_
      have h := ih (k + 1) (by omega)
      first
      | (rw [show x_lk M (k + 1) = x_lk M k from if_pos (by omega)] at h; exact gj_wk h ⟨rfl, rfl, rfl, rfl, trivial⟩)
      | (rw [show x_lk M (k + 1) = x_lk M k + 1 from if_neg (by omega)] at h; exact gj_wk h ⟨rfl, rfl, rfl, rfl, trivial⟩)

set_option maxRecDepth 100000 in
set_option maxHeartbeats 4000000 in
theorem s7_looks {xt : Nat × (Nat → Int)} {M : gj_M} (hI : c_I M) {m : Int} (hm : gj_in m) : gj_F xt Y7_looks gS [gR 0, gI m] M (some (gI (x_looks M m))) (m_looks M m) := by
  show gj_G _ Y7_looks gS 0 0 0 [_, _, _, _, _] [] M _
  refine gj_iload_n 1 dX7_looks_0 rfl rfl ?_
  refine gj_iconst 2 dX7_looks_1 rfl ?_
  refine gj_icmp_lt 11 5 dX7_looks_2 (by decide) rfl (by omega) (by omega) (fun c_2 => ?_) (fun c_2 => ?_)
  · refine gj_bipush 13 dX7_looks_11 rfl (by decide) ?_
    refine gj_iret dX7_looks_13 rfl ⟨Nat.zero_le _, Nat.zero_le _⟩ ?_
    exact ⟨rfl, by (unfold x_looks; (repeat (first | rw [if_pos (by omega)] | rw [if_neg (by omega)])); try rfl), by (unfold m_looks; (repeat (first | rw [if_pos (by omega)] | rw [if_neg (by omega)])); try rfl)⟩
  · refine gj_iload_n 6 dX7_looks_5 rfl rfl ?_
    refine gj_bipush 8 dX7_looks_6 rfl (by decide) ?_
    refine gj_icmp_le 14 11 dX7_looks_8 (by decide) rfl (by omega) (by omega) (fun c_8 => ?_) (fun c_8 => ?_)
    · refine gj_iconst 15 dX7_looks_14 rfl ?_
      refine gj_istore_n (lv' := [_, _, _, _, _]) 16 dX7_looks_15 rfl (by decide) rfl ?_
      refine gj_iconst 17 dX7_looks_16 rfl ?_
      refine gj_istore_n (lv' := [_, _, _, _, _]) 18 dX7_looks_17 rfl (by decide) rfl ?_
      refine gj_mem (gj_u_id M 5000 12).symm ?_
      exact gj_wk (s7_looks_l hI (by omega) m.toNat 0 (by omega)) ⟨rfl, rfl, rfl, rfl, trivial⟩
    · refine gj_bipush 13 dX7_looks_11 rfl (by decide) ?_
      refine gj_iret dX7_looks_13 rfl ⟨Nat.zero_le _, Nat.zero_le _⟩ ?_
      exact ⟨rfl, by (unfold x_looks; (repeat (first | rw [if_pos (by omega)] | rw [if_neg (by omega)])); try rfl), by (unfold m_looks; (repeat (first | rw [if_pos (by omega)] | rw [if_neg (by omega)])); try rfl)⟩

set_option maxRecDepth 100000 in
set_option maxHeartbeats 4000000 in
theorem s7_keptIn_0 {xt : Nat × (Nat → Int)} {M : gj_M}  : gj_F xt Y7_keptIn gS [gR 0, gI 0] M (some (gR 50)) M := by
  show gj_G _ Y7_keptIn gS 0 0 0 [_, _] [] M _
  refine gj_iload_n 1 dX7_keptIn_0 rfl rfl ?_
  refine gj_if_ne 11 4 dX7_keptIn_1 (by decide) rfl (by omega) (fun c_1 => absurd c_1 (by decide)) (fun c_1 => ?_)
  refine gj_aload_n 5 dX7_keptIn_4 rfl rfl ?_
  refine gj_getfr 8 dX7_keptIn_5 rfl fl_7_61 rfl rfl ?_
  refine gj_goto 15 dX7_keptIn_8 (by decide) ?_
  refine gj_aret dX7_keptIn_15 rfl ⟨Nat.zero_le _, Nat.zero_le _⟩ ?_
  exact ⟨rfl, rfl, rfl⟩

set_option maxRecDepth 100000 in
set_option maxHeartbeats 4000000 in
theorem s7_keep_0 {xt : Nat × (Nat → Int)} {M : gj_M}  : gj_F xt Y7_keep gS [gR 0, gI 0] M (some (gI (M 15 6))) (gj_u (b_cp M 50 15) 68 0 1) := by
  show gj_G _ Y7_keep gS 0 0 0 [_, _] [] M _
  refine gj_iload_n 1 dX7_keep_0 rfl rfl ?_
  refine gj_if_lt 9 4 dX7_keep_1 (by decide) rfl (by omega) (fun c_1 => absurd c_1 (by decide)) (fun c_1 => ?_)
  refine gj_iload_n 5 dX7_keep_4 rfl rfl ?_
  refine gj_iconst 6 dX7_keep_5 rfl ?_
  refine gj_icmp_lt 11 9 dX7_keep_6 (by decide) rfl (by omega) (by omega) (fun c_6 => ?_) (fun c_6 => absurd c_6 (by decide))
  refine gj_aload_n 12 dX7_keep_11 rfl rfl ?_
  refine gj_iload_n 13 dX7_keep_12 rfl rfl ?_
  refine gj_fV 16 dX7_keep_13 rfl ok_7_keptIn ml_7_244 iv_7_keptIn (As := [gI _]) rfl rfl rfl rfl (Nat.le_of_ble_eq_true rfl) ⟨Nat.le_of_ble_eq_true rfl, Nat.le_of_ble_eq_true rfl⟩ (Nat.le_of_ble_eq_true rfl) ⟨rfl, rfl⟩ ⟨Nat.zero_le _, Nat.zero_le _⟩ (s7_keptIn_0) ?_
  refine gj_aload_n 17 dX7_keep_16 rfl rfl ?_
  refine gj_getfr 20 dX7_keep_17 rfl fl_7_38 rfl rfl ?_
  refine gj_vV 23 dX7_keep_20 rfl ok_4_copyFrom ml_7_208 iv_4_copyFrom (As := [gR _]) rfl rfl rfl rfl (Nat.le_of_ble_eq_true rfl) ⟨Nat.le_of_ble_eq_true rfl, Nat.le_of_ble_eq_true rfl⟩ (Nat.le_of_ble_eq_true rfl) ⟨rfl, rfl⟩ ⟨Nat.zero_le _, Nat.zero_le _⟩ (s4_copy_50_15) ?_
  refine gj_aload_n 24 dX7_keep_23 rfl rfl ?_
  refine gj_getfr 27 dX7_keep_24 rfl fl_7_67 rfl rfl ?_
  refine gj_iload_n 28 dX7_keep_27 rfl rfl ?_
  refine gj_iconst 29 dX7_keep_28 rfl ?_
  refine gj_bast 30 dX7_keep_29 rfl rfl (by omega) (by omega) (by decide) ?_
  refine gj_aload_n 31 dX7_keep_30 rfl rfl ?_
  refine gj_getfr 34 dX7_keep_31 rfl fl_7_38 rfl rfl ?_
  refine gj_getfiE (M 15 6) 37 dX7_keep_34 rfl fl_7_162 rfl rfl rfl (fun r_34 => ?_)
  refine gj_iret dX7_keep_37 rfl ⟨Nat.zero_le _, Nat.zero_le _⟩ ?_
  exact ⟨rfl, rfl, rfl⟩

set_option maxRecDepth 100000 in
set_option maxHeartbeats 4000000 in
theorem s7_again_0 {xt : Nat × (Nat → Int)} {M : gj_M} (hk : ¬ M 68 0 = 0) : gj_F xt Y7_again gS [gR 0, gI 0] M (some (gI (M 50 6))) (gj_u (b_cp M 15 50) 35 0 0) := by
  show gj_G _ Y7_again gS 0 0 0 [_, _] [] M _
  refine gj_iload_n 1 dX7_again_0 rfl rfl ?_
  refine gj_if_lt 9 4 dX7_again_1 (by decide) rfl (by omega) (fun c_1 => absurd c_1 (by decide)) (fun c_1 => ?_)
  refine gj_iload_n 5 dX7_again_4 rfl rfl ?_
  refine gj_iconst 6 dX7_again_5 rfl ?_
  refine gj_icmp_lt 11 9 dX7_again_6 (by decide) rfl (by omega) (by omega) (fun c_6 => ?_) (fun c_6 => absurd c_6 (by decide))
  refine gj_aload_n 12 dX7_again_11 rfl rfl ?_
  refine gj_getfr 15 dX7_again_12 rfl fl_7_67 rfl rfl ?_
  refine gj_iload_n 16 dX7_again_15 rfl rfl ?_
  refine gj_bald 17 dX7_again_16 rfl rfl (by omega) (by omega) (fun r_16 => ?_)
  refine gj_if_ne 23 20 dX7_again_17 (by decide) rfl (by omega) (fun c_17 => ?_) (fun c_17 => absurd c_17 (by omega))
  refine gj_aload_n 24 dX7_again_23 rfl rfl ?_
  refine gj_getfr 27 dX7_again_24 rfl fl_7_38 rfl rfl ?_
  refine gj_aload_n 28 dX7_again_27 rfl rfl ?_
  refine gj_iload_n 29 dX7_again_28 rfl rfl ?_
  refine gj_fV 32 dX7_again_29 rfl ok_7_keptIn ml_7_244 iv_7_keptIn (As := [gI _]) rfl rfl rfl rfl (Nat.le_of_ble_eq_true rfl) ⟨Nat.le_of_ble_eq_true rfl, Nat.le_of_ble_eq_true rfl⟩ (Nat.le_of_ble_eq_true rfl) ⟨rfl, rfl⟩ ⟨Nat.zero_le _, Nat.zero_le _⟩ (s7_keptIn_0) ?_
  refine gj_vV 35 dX7_again_32 rfl ok_4_copyFrom ml_7_208 iv_4_copyFrom (As := [gR _]) rfl rfl rfl rfl (Nat.le_of_ble_eq_true rfl) ⟨Nat.le_of_ble_eq_true rfl, Nat.le_of_ble_eq_true rfl⟩ (Nat.le_of_ble_eq_true rfl) ⟨rfl, rfl⟩ ⟨Nat.zero_le _, Nat.zero_le _⟩ (s4_copy_15_50) ?_
  refine gj_aload_n 36 dX7_again_35 rfl rfl ?_
  refine gj_getfr 39 dX7_again_36 rfl fl_7_44 rfl rfl ?_
  refine gj_vV 42 dX7_again_39 rfl ok_0_clear ml_7_94 iv_0_clear (As := []) rfl rfl rfl rfl (Nat.le_of_ble_eq_true rfl) ⟨Nat.le_of_ble_eq_true rfl, Nat.le_of_ble_eq_true rfl⟩ (Nat.le_of_ble_eq_true rfl) ⟨rfl, rfl⟩ ⟨Nat.zero_le _, Nat.zero_le _⟩ (s0_clear) ?_
  refine gj_aload_n 43 dX7_again_42 rfl rfl ?_
  refine gj_getfr 46 dX7_again_43 rfl fl_7_38 rfl rfl ?_
  refine gj_getfiE (M 50 6) 49 dX7_again_46 rfl fl_7_162 rfl rfl rfl (fun r_46 => ?_)
  refine gj_iret dX7_again_49 rfl ⟨Nat.zero_le _, Nat.zero_le _⟩ ?_
  exact ⟨rfl, rfl, rfl⟩

set_option maxRecDepth 100000 in
set_option maxHeartbeats 4000000 in
theorem s7_againN_0 {xt : Nat × (Nat → Int)} {M : gj_M} (hk : M 68 0 = 0) : gj_F xt Y7_again gS [gR 0, gI 0] M (some (gI (-3))) M := by
  show gj_G _ Y7_again gS 0 0 0 [_, _] [] M _
  refine gj_iload_n 1 dX7_again_0 rfl rfl ?_
  refine gj_if_lt 9 4 dX7_again_1 (by decide) rfl (by omega) (fun c_1 => absurd c_1 (by decide)) (fun c_1 => ?_)
  refine gj_iload_n 5 dX7_again_4 rfl rfl ?_
  refine gj_iconst 6 dX7_again_5 rfl ?_
  refine gj_icmp_lt 11 9 dX7_again_6 (by decide) rfl (by omega) (by omega) (fun c_6 => ?_) (fun c_6 => absurd c_6 (by decide))
  refine gj_aload_n 12 dX7_again_11 rfl rfl ?_
  refine gj_getfr 15 dX7_again_12 rfl fl_7_67 rfl rfl ?_
  refine gj_iload_n 16 dX7_again_15 rfl rfl ?_
  refine gj_bald 17 dX7_again_16 rfl rfl (by omega) (by omega) (fun r_16 => ?_)
  refine gj_if_ne 23 20 dX7_again_17 (by decide) rfl (by omega) (fun c_17 => absurd c_17 (by omega)) (fun c_17 => ?_)
  refine gj_bipush 22 dX7_again_20 rfl (by decide) ?_
  refine gj_iret dX7_again_22 rfl ⟨Nat.zero_le _, Nat.zero_le _⟩ ?_
  exact ⟨rfl, rfl, rfl⟩

set_option maxRecDepth 100000 in
set_option maxHeartbeats 4000000 in
theorem s7_keptIn_1 {xt : Nat × (Nat → Int)} {M : gj_M}  : gj_F xt Y7_keptIn gS [gR 0, gI 1] M (some (gR 59)) M := by
  show gj_G _ Y7_keptIn gS 0 0 0 [_, _] [] M _
  refine gj_iload_n 1 dX7_keptIn_0 rfl rfl ?_
  refine gj_if_ne 11 4 dX7_keptIn_1 (by decide) rfl (by omega) (fun c_1 => ?_) (fun c_1 => absurd c_1 (by decide))
  refine gj_aload_n 12 dX7_keptIn_11 rfl rfl ?_
  refine gj_getfr 15 dX7_keptIn_12 rfl fl_7_64 rfl rfl ?_
  refine gj_aret dX7_keptIn_15 rfl ⟨Nat.zero_le _, Nat.zero_le _⟩ ?_
  exact ⟨rfl, rfl, rfl⟩

set_option maxRecDepth 100000 in
set_option maxHeartbeats 4000000 in
theorem s7_keep_1 {xt : Nat × (Nat → Int)} {M : gj_M}  : gj_F xt Y7_keep gS [gR 0, gI 1] M (some (gI (M 15 6))) (gj_u (b_cp M 59 15) 68 1 1) := by
  show gj_G _ Y7_keep gS 0 0 0 [_, _] [] M _
  refine gj_iload_n 1 dX7_keep_0 rfl rfl ?_
  refine gj_if_lt 9 4 dX7_keep_1 (by decide) rfl (by omega) (fun c_1 => absurd c_1 (by decide)) (fun c_1 => ?_)
  refine gj_iload_n 5 dX7_keep_4 rfl rfl ?_
  refine gj_iconst 6 dX7_keep_5 rfl ?_
  refine gj_icmp_lt 11 9 dX7_keep_6 (by decide) rfl (by omega) (by omega) (fun c_6 => ?_) (fun c_6 => absurd c_6 (by decide))
  refine gj_aload_n 12 dX7_keep_11 rfl rfl ?_
  refine gj_iload_n 13 dX7_keep_12 rfl rfl ?_
  refine gj_fV 16 dX7_keep_13 rfl ok_7_keptIn ml_7_244 iv_7_keptIn (As := [gI _]) rfl rfl rfl rfl (Nat.le_of_ble_eq_true rfl) ⟨Nat.le_of_ble_eq_true rfl, Nat.le_of_ble_eq_true rfl⟩ (Nat.le_of_ble_eq_true rfl) ⟨rfl, rfl⟩ ⟨Nat.zero_le _, Nat.zero_le _⟩ (s7_keptIn_1) ?_
  refine gj_aload_n 17 dX7_keep_16 rfl rfl ?_
  refine gj_getfr 20 dX7_keep_17 rfl fl_7_38 rfl rfl ?_
  refine gj_vV 23 dX7_keep_20 rfl ok_4_copyFrom ml_7_208 iv_4_copyFrom (As := [gR _]) rfl rfl rfl rfl (Nat.le_of_ble_eq_true rfl) ⟨Nat.le_of_ble_eq_true rfl, Nat.le_of_ble_eq_true rfl⟩ (Nat.le_of_ble_eq_true rfl) ⟨rfl, rfl⟩ ⟨Nat.zero_le _, Nat.zero_le _⟩ (s4_copy_59_15) ?_
  refine gj_aload_n 24 dX7_keep_23 rfl rfl ?_
  refine gj_getfr 27 dX7_keep_24 rfl fl_7_67 rfl rfl ?_
  refine gj_iload_n 28 dX7_keep_27 rfl rfl ?_
  refine gj_iconst 29 dX7_keep_28 rfl ?_
  refine gj_bast 30 dX7_keep_29 rfl rfl (by omega) (by omega) (by decide) ?_
  refine gj_aload_n 31 dX7_keep_30 rfl rfl ?_
  refine gj_getfr 34 dX7_keep_31 rfl fl_7_38 rfl rfl ?_
  refine gj_getfiE (M 15 6) 37 dX7_keep_34 rfl fl_7_162 rfl rfl rfl (fun r_34 => ?_)
  refine gj_iret dX7_keep_37 rfl ⟨Nat.zero_le _, Nat.zero_le _⟩ ?_
  exact ⟨rfl, rfl, rfl⟩

set_option maxRecDepth 100000 in
set_option maxHeartbeats 4000000 in
theorem s7_again_1 {xt : Nat × (Nat → Int)} {M : gj_M} (hk : ¬ M 68 1 = 0) : gj_F xt Y7_again gS [gR 0, gI 1] M (some (gI (M 59 6))) (gj_u (b_cp M 15 59) 35 0 0) := by
  show gj_G _ Y7_again gS 0 0 0 [_, _] [] M _
  refine gj_iload_n 1 dX7_again_0 rfl rfl ?_
  refine gj_if_lt 9 4 dX7_again_1 (by decide) rfl (by omega) (fun c_1 => absurd c_1 (by decide)) (fun c_1 => ?_)
  refine gj_iload_n 5 dX7_again_4 rfl rfl ?_
  refine gj_iconst 6 dX7_again_5 rfl ?_
  refine gj_icmp_lt 11 9 dX7_again_6 (by decide) rfl (by omega) (by omega) (fun c_6 => ?_) (fun c_6 => absurd c_6 (by decide))
  refine gj_aload_n 12 dX7_again_11 rfl rfl ?_
  refine gj_getfr 15 dX7_again_12 rfl fl_7_67 rfl rfl ?_
  refine gj_iload_n 16 dX7_again_15 rfl rfl ?_
  refine gj_bald 17 dX7_again_16 rfl rfl (by omega) (by omega) (fun r_16 => ?_)
  refine gj_if_ne 23 20 dX7_again_17 (by decide) rfl (by omega) (fun c_17 => ?_) (fun c_17 => absurd c_17 (by omega))
  refine gj_aload_n 24 dX7_again_23 rfl rfl ?_
  refine gj_getfr 27 dX7_again_24 rfl fl_7_38 rfl rfl ?_
  refine gj_aload_n 28 dX7_again_27 rfl rfl ?_
  refine gj_iload_n 29 dX7_again_28 rfl rfl ?_
  refine gj_fV 32 dX7_again_29 rfl ok_7_keptIn ml_7_244 iv_7_keptIn (As := [gI _]) rfl rfl rfl rfl (Nat.le_of_ble_eq_true rfl) ⟨Nat.le_of_ble_eq_true rfl, Nat.le_of_ble_eq_true rfl⟩ (Nat.le_of_ble_eq_true rfl) ⟨rfl, rfl⟩ ⟨Nat.zero_le _, Nat.zero_le _⟩ (s7_keptIn_1) ?_
  refine gj_vV 35 dX7_again_32 rfl ok_4_copyFrom ml_7_208 iv_4_copyFrom (As := [gR _]) rfl rfl rfl rfl (Nat.le_of_ble_eq_true rfl) ⟨Nat.le_of_ble_eq_true rfl, Nat.le_of_ble_eq_true rfl⟩ (Nat.le_of_ble_eq_true rfl) ⟨rfl, rfl⟩ ⟨Nat.zero_le _, Nat.zero_le _⟩ (s4_copy_15_59) ?_
  refine gj_aload_n 36 dX7_again_35 rfl rfl ?_
  refine gj_getfr 39 dX7_again_36 rfl fl_7_44 rfl rfl ?_
  refine gj_vV 42 dX7_again_39 rfl ok_0_clear ml_7_94 iv_0_clear (As := []) rfl rfl rfl rfl (Nat.le_of_ble_eq_true rfl) ⟨Nat.le_of_ble_eq_true rfl, Nat.le_of_ble_eq_true rfl⟩ (Nat.le_of_ble_eq_true rfl) ⟨rfl, rfl⟩ ⟨Nat.zero_le _, Nat.zero_le _⟩ (s0_clear) ?_
  refine gj_aload_n 43 dX7_again_42 rfl rfl ?_
  refine gj_getfr 46 dX7_again_43 rfl fl_7_38 rfl rfl ?_
  refine gj_getfiE (M 59 6) 49 dX7_again_46 rfl fl_7_162 rfl rfl rfl (fun r_46 => ?_)
  refine gj_iret dX7_again_49 rfl ⟨Nat.zero_le _, Nat.zero_le _⟩ ?_
  exact ⟨rfl, rfl, rfl⟩

set_option maxRecDepth 100000 in
set_option maxHeartbeats 4000000 in
theorem s7_againN_1 {xt : Nat × (Nat → Int)} {M : gj_M} (hk : M 68 1 = 0) : gj_F xt Y7_again gS [gR 0, gI 1] M (some (gI (-3))) M := by
  show gj_G _ Y7_again gS 0 0 0 [_, _] [] M _
  refine gj_iload_n 1 dX7_again_0 rfl rfl ?_
  refine gj_if_lt 9 4 dX7_again_1 (by decide) rfl (by omega) (fun c_1 => absurd c_1 (by decide)) (fun c_1 => ?_)
  refine gj_iload_n 5 dX7_again_4 rfl rfl ?_
  refine gj_iconst 6 dX7_again_5 rfl ?_
  refine gj_icmp_lt 11 9 dX7_again_6 (by decide) rfl (by omega) (by omega) (fun c_6 => ?_) (fun c_6 => absurd c_6 (by decide))
  refine gj_aload_n 12 dX7_again_11 rfl rfl ?_
  refine gj_getfr 15 dX7_again_12 rfl fl_7_67 rfl rfl ?_
  refine gj_iload_n 16 dX7_again_15 rfl rfl ?_
  refine gj_bald 17 dX7_again_16 rfl rfl (by omega) (by omega) (fun r_16 => ?_)
  refine gj_if_ne 23 20 dX7_again_17 (by decide) rfl (by omega) (fun c_17 => absurd c_17 (by omega)) (fun c_17 => ?_)
  refine gj_bipush 22 dX7_again_20 rfl (by decide) ?_
  refine gj_iret dX7_again_22 rfl ⟨Nat.zero_le _, Nat.zero_le _⟩ ?_
  exact ⟨rfl, rfl, rfl⟩

set_option maxRecDepth 100000 in
set_option maxHeartbeats 4000000 in
theorem s7_keep_x {xt : Nat × (Nat → Int)} {M : gj_M} {s : Int} (hs : gj_in s) (h : s < 0 ∨ 2 ≤ s) : gj_F xt Y7_keep gS [gR 0, gI s] M (some (gI (-1))) M := by
  show gj_G _ Y7_keep gS 0 0 0 [_, _] [] M _
  refine gj_iload_n 1 dX7_keep_0 rfl rfl ?_
  refine gj_if_lt 9 4 dX7_keep_1 (by decide) rfl (by omega) (fun c_1 => ?_) (fun c_1 => ?_)
  · refine gj_iconst 10 dX7_keep_9 rfl ?_
    refine gj_iret dX7_keep_10 rfl ⟨Nat.zero_le _, Nat.zero_le _⟩ ?_
    exact ⟨rfl, rfl, rfl⟩
  · refine gj_iload_n 5 dX7_keep_4 rfl rfl ?_
    refine gj_iconst 6 dX7_keep_5 rfl ?_
    refine gj_icmp_lt 11 9 dX7_keep_6 (by decide) rfl (by omega) (by omega) (fun c_6 => ?_) (fun c_6 => ?_)
    · exact absurd h (by omega)
    · refine gj_iconst 10 dX7_keep_9 rfl ?_
      refine gj_iret dX7_keep_10 rfl ⟨Nat.zero_le _, Nat.zero_le _⟩ ?_
      exact ⟨rfl, rfl, rfl⟩

set_option maxRecDepth 100000 in
set_option maxHeartbeats 4000000 in
theorem s7_again_x {xt : Nat × (Nat → Int)} {M : gj_M} {s : Int} (hs : gj_in s) (h : s < 0 ∨ 2 ≤ s) : gj_F xt Y7_again gS [gR 0, gI s] M (some (gI (-1))) M := by
  show gj_G _ Y7_again gS 0 0 0 [_, _] [] M _
  refine gj_iload_n 1 dX7_again_0 rfl rfl ?_
  refine gj_if_lt 9 4 dX7_again_1 (by decide) rfl (by omega) (fun c_1 => ?_) (fun c_1 => ?_)
  · refine gj_iconst 10 dX7_again_9 rfl ?_
    refine gj_iret dX7_again_10 rfl ⟨Nat.zero_le _, Nat.zero_le _⟩ ?_
    exact ⟨rfl, rfl, rfl⟩
  · refine gj_iload_n 5 dX7_again_4 rfl rfl ?_
    refine gj_iconst 6 dX7_again_5 rfl ?_
    refine gj_icmp_lt 11 9 dX7_again_6 (by decide) rfl (by omega) (by omega) (fun c_6 => ?_) (fun c_6 => ?_)
    · exact absurd h (by omega)
    · refine gj_iconst 10 dX7_again_9 rfl ?_
      refine gj_iret dX7_again_10 rfl ⟨Nat.zero_le _, Nat.zero_le _⟩ ?_
      exact ⟨rfl, rfl, rfl⟩

theorem s7_keep {xt : Nat × (Nat → Int)} {M : gj_M} {s : Int} (hs : gj_in s) : gj_F xt Y7_keep gS [gR 0, gI s] M (some (gI (x_keep M s))) (m_keep M s) := by
  unfold x_keep m_keep
  by_cases h : s < 0 ∨ 2 ≤ s
  · rw [if_pos h, if_pos h]; exact s7_keep_x hs h
  · rw [if_neg h, if_neg h]
    have h2 : s = 0 ∨ s = 1 := by omega
    rcases h2 with rfl | rfl
    · rw [if_pos rfl]; exact s7_keep_0
    · rw [if_neg (by decide)]; exact s7_keep_1
theorem s7_again {xt : Nat × (Nat → Int)} {M : gj_M} {s : Int} (hs : gj_in s) : gj_F xt Y7_again gS [gR 0, gI s] M (some (gI (x_again M s))) (m_again M s) := by
  unfold x_again m_again
  by_cases h : s < 0 ∨ 2 ≤ s
  · rw [if_pos h, if_pos h]; exact s7_again_x hs h
  · rw [if_neg h, if_neg h]
    have h2 : s = 0 ∨ s = 1 := by omega
    rcases h2 with rfl | rfl
    · by_cases hk : M 68 0 = 0
      · rw [if_pos hk, if_pos hk]; exact s7_againN_0 hk
      · rw [if_neg hk, if_neg hk, if_pos rfl, if_pos rfl]; exact s7_again_0 hk
    · by_cases hk : M 68 1 = 0
      · rw [if_pos hk, if_pos hk]; exact s7_againN_1 hk
      · rw [if_neg hk, if_neg hk, if_neg (by decide), if_neg (by decide)]; exact s7_again_1 hk

set_option maxRecDepth 100000 in
set_option maxHeartbeats 4000000 in
theorem s7_count {xt : Nat × (Nat → Int)} {M : gj_M} {w : Int} (hw : gj_in w) : gj_F xt Y7_count gS [gR 0, gI w] M (some (gI (x_count M w))) M := by
  show gj_G _ Y7_count gS 0 0 0 [_, _] [] M _
  refine gj_iload_n 1 dX7_count_0 rfl rfl ?_
  rcases (show w = 0 ∨ w = 1 ∨ w = 2 ∨ w = 3 ∨ w = 4 ∨ w = 5 ∨ (w < 0 ∨ 5 < w) by omega) with t_1 | t_1 | t_1 | t_1 | t_1 | t_1 | t_1
  · refine gj_tabI (off := 39) 40 dX7_count_1 (by omega) (by omega) (by rw [t_1]; rfl) (by decide) ?_
    refine gj_aload_n 41 dX7_count_40 rfl rfl ?_
    refine gj_getfi 44 dX7_count_41 rfl fl_7_71 rfl rfl (fun r_41 => ?_)
    refine gj_iret dX7_count_44 rfl ⟨Nat.zero_le _, Nat.zero_le _⟩ ?_
    exact ⟨rfl, by (unfold x_count; (repeat (first | rw [if_pos (by omega)] | rw [if_neg (by omega)])); try rfl), rfl⟩
  · refine gj_tabI (off := 44) 45 dX7_count_1 (by omega) (by omega) (by rw [t_1]; rfl) (by decide) ?_
    refine gj_aload_n 46 dX7_count_45 rfl rfl ?_
    refine gj_getfr 49 dX7_count_46 rfl fl_7_31 rfl rfl ?_
    refine gj_getfi 52 dX7_count_49 rfl fl_7_219 rfl rfl (fun r_49 => ?_)
    refine gj_iret dX7_count_52 rfl ⟨Nat.zero_le _, Nat.zero_le _⟩ ?_
    exact ⟨rfl, by (unfold x_count; (repeat (first | rw [if_pos (by omega)] | rw [if_neg (by omega)])); try rfl), rfl⟩
  · refine gj_tabI (off := 52) 53 dX7_count_1 (by omega) (by omega) (by rw [t_1]; rfl) (by decide) ?_
    refine gj_aload_n 54 dX7_count_53 rfl rfl ?_
    refine gj_getfr 57 dX7_count_54 rfl fl_7_31 rfl rfl ?_
    refine gj_getfi 60 dX7_count_57 rfl fl_7_97 rfl rfl (fun r_57 => ?_)
    refine gj_iret dX7_count_60 rfl ⟨Nat.zero_le _, Nat.zero_le _⟩ ?_
    exact ⟨rfl, by (unfold x_count; (repeat (first | rw [if_pos (by omega)] | rw [if_neg (by omega)])); try rfl), rfl⟩
  · refine gj_tabI (off := 60) 61 dX7_count_1 (by omega) (by omega) (by rw [t_1]; rfl) (by decide) ?_
    refine gj_aload_n 62 dX7_count_61 rfl rfl ?_
    refine gj_getfr 65 dX7_count_62 rfl fl_7_38 rfl rfl ?_
    refine gj_getfi 68 dX7_count_65 rfl fl_7_162 rfl rfl (fun r_65 => ?_)
    refine gj_iret dX7_count_68 rfl ⟨Nat.zero_le _, Nat.zero_le _⟩ ?_
    exact ⟨rfl, by (unfold x_count; (repeat (first | rw [if_pos (by omega)] | rw [if_neg (by omega)])); try rfl), rfl⟩
  · refine gj_tabI (off := 68) 69 dX7_count_1 (by omega) (by omega) (by rw [t_1]; rfl) (by decide) ?_
    refine gj_aload_n 70 dX7_count_69 rfl rfl ?_
    refine gj_getfr 73 dX7_count_70 rfl fl_7_44 rfl rfl ?_
    refine gj_getfi 76 dX7_count_73 rfl fl_7_179 rfl rfl (fun r_73 => ?_)
    refine gj_iret dX7_count_76 rfl ⟨Nat.zero_le _, Nat.zero_le _⟩ ?_
    exact ⟨rfl, by (unfold x_count; (repeat (first | rw [if_pos (by omega)] | rw [if_neg (by omega)])); try rfl), rfl⟩
  · refine gj_tabI (off := 76) 77 dX7_count_1 (by omega) (by omega) (by rw [t_1]; rfl) (by decide) ?_
    refine gj_aload_n 78 dX7_count_77 rfl rfl ?_
    refine gj_getfr 81 dX7_count_78 rfl fl_7_51 rfl rfl ?_
    refine gj_getfi 84 dX7_count_81 rfl fl_7_214 rfl rfl (fun r_81 => ?_)
    refine gj_iret dX7_count_84 rfl ⟨Nat.zero_le _, Nat.zero_le _⟩ ?_
    exact ⟨rfl, by (unfold x_count; (repeat (first | rw [if_pos (by omega)] | rw [if_neg (by omega)])); try rfl), rfl⟩
  · refine gj_tabO 85 dX7_count_1 (by omega) t_1 (by decide) ?_
    refine gj_bipush 87 dX7_count_85 rfl (by decide) ?_
    refine gj_iret dX7_count_87 rfl ⟨Nat.zero_le _, Nat.zero_le _⟩ ?_
    exact ⟨rfl, by (unfold x_count; (repeat (first | rw [if_pos (by omega)] | rw [if_neg (by omega)])); try rfl), rfl⟩

set_option maxRecDepth 100000 in
set_option maxHeartbeats 4000000 in
theorem s7_delayForNow {xt : Nat × (Nat → Int)} {M : gj_M} (hI : c_I M) {l v : Int} (hl : gj_in l) (hv : gj_in v) : gj_F xt Y7_delayForNow gS [gR 0, gI l, gI v] M (some (gI (x_isL M l))) (if 0 ≤ l ∧ l < M 10 1 then gj_u M 18 l v else M) := by
  show gj_G _ Y7_delayForNow gS 0 0 0 [_, _, _] [] M _
  have hL := hI.1
  have hD := hI.2.1
  have hsw := hI.2.2.1
  refine gj_aload_n 1 dX7_delayForNow_0 rfl rfl ?_
  refine gj_iload_n 2 dX7_delayForNow_1 rfl rfl ?_
  refine gj_fV 5 dX7_delayForNow_2 rfl ok_7_isLevel ml_7_114 iv_7_isLevel (As := [gI _]) rfl rfl rfl rfl (Nat.le_of_ble_eq_true rfl) ⟨Nat.le_of_ble_eq_true rfl, Nat.le_of_ble_eq_true rfl⟩ (Nat.le_of_ble_eq_true rfl) ⟨rfl, rfl⟩ ⟨Nat.zero_le _, Nat.zero_le _⟩ (s7_isL hL hl) ?_
  have hc := x_isL_c M l
  refine gj_if_ne 10 8 dX7_delayForNow_5 (by decide) rfl (by omega) (fun c_5 => ?_) (fun c_5 => ?_)
  · refine gj_aload_n 11 dX7_delayForNow_10 rfl rfl ?_
    refine gj_getfr 14 dX7_delayForNow_11 rfl fl_7_38 rfl rfl ?_
    refine gj_getfr 17 dX7_delayForNow_14 rfl fl_7_120 rfl rfl ?_
    refine gj_iload_n 18 dX7_delayForNow_17 rfl rfl ?_
    refine gj_iload_n 19 dX7_delayForNow_18 rfl rfl ?_
    refine gj_iast 20 dX7_delayForNow_19 rfl rfl (by omega) (by omega) (by omega) ?_
    refine gj_iconst 21 dX7_delayForNow_20 rfl ?_
    refine gj_zret dX7_delayForNow_21 rfl (by decide) ⟨Nat.zero_le _, Nat.zero_le _⟩ ?_
    rw [if_pos (by omega), show x_isL M l = 1 by omega]
    exact ⟨rfl, rfl, rfl⟩
  · refine gj_iconst 9 dX7_delayForNow_8 rfl ?_
    refine gj_zret dX7_delayForNow_9 rfl (by decide) ⟨Nat.zero_le _, Nat.zero_le _⟩ ?_
    rw [if_neg (by omega), show x_isL M l = 0 by omega]
    exact ⟨rfl, rfl, rfl⟩

set_option maxRecDepth 100000 in
set_option maxHeartbeats 4000000 in
theorem s7_redrawForNow {xt : Nat × (Nat → Int)} {M : gj_M} (hI : c_I M) {d x w : Int} (hd : gj_in d) (hx : gj_in x) (hw : gj_in w) : gj_F xt Y7_redrawForNow gS [gR 0, gI d, gI x, gI w] M (some (gI (if ((0 ≤ d ∧ d < M 10 0) ∧ 1 ≤ w ∧ w ≤ 5) then 1 else 0))) (if ((0 ≤ d ∧ d < M 10 0) ∧ 1 ≤ w ∧ w ≤ 5) then gj_u (gj_u M 16 d x) 17 d w else M) := by
  show gj_G _ Y7_redrawForNow gS 0 0 0 [_, _, _, _] [] M _
  have hL := hI.1
  have hD := hI.2.1
  have hsw := hI.2.2.1
  refine gj_aload_n 1 dX7_redrawForNow_0 rfl rfl ?_
  refine gj_iload_n 2 dX7_redrawForNow_1 rfl rfl ?_
  refine gj_fV 5 dX7_redrawForNow_2 rfl ok_7_isDrawing ml_7_100 iv_7_isDrawing (As := [gI _]) rfl rfl rfl rfl (Nat.le_of_ble_eq_true rfl) ⟨Nat.le_of_ble_eq_true rfl, Nat.le_of_ble_eq_true rfl⟩ (Nat.le_of_ble_eq_true rfl) ⟨rfl, rfl⟩ ⟨Nat.zero_le _, Nat.zero_le _⟩ (s7_isD hD hd) ?_
  have hc := x_isD_c M d
  refine gj_if_eq 18 8 dX7_redrawForNow_5 (by decide) rfl (by omega) (fun c_5 => ?_) (fun c_5 => ?_)
  · refine gj_iconst 19 dX7_redrawForNow_18 rfl ?_
    refine gj_zret dX7_redrawForNow_19 rfl (by decide) ⟨Nat.zero_le _, Nat.zero_le _⟩ ?_
    rw [if_neg (by omega), if_neg (by omega)]
    exact ⟨rfl, rfl, rfl⟩
  · refine gj_iload_n 9 dX7_redrawForNow_8 rfl rfl ?_
    refine gj_iconst 10 dX7_redrawForNow_9 rfl ?_
    refine gj_icmp_lt 18 13 dX7_redrawForNow_10 (by decide) rfl (by omega) (by omega) (fun c_10 => ?_) (fun c_10 => ?_)
    · refine gj_iconst 19 dX7_redrawForNow_18 rfl ?_
      refine gj_zret dX7_redrawForNow_19 rfl (by decide) ⟨Nat.zero_le _, Nat.zero_le _⟩ ?_
      rw [if_neg (by omega), if_neg (by omega)]
      exact ⟨rfl, rfl, rfl⟩
    · refine gj_iload_n 14 dX7_redrawForNow_13 rfl rfl ?_
      refine gj_iconst 15 dX7_redrawForNow_14 rfl ?_
      refine gj_icmp_le 20 18 dX7_redrawForNow_15 (by decide) rfl (by omega) (by omega) (fun c_15 => ?_) (fun c_15 => ?_)
      · refine gj_aload_n 21 dX7_redrawForNow_20 rfl rfl ?_
        refine gj_getfr 24 dX7_redrawForNow_21 rfl fl_7_38 rfl rfl ?_
        refine gj_getfr 27 dX7_redrawForNow_24 rfl fl_7_104 rfl rfl ?_
        refine gj_iload_n 28 dX7_redrawForNow_27 rfl rfl ?_
        refine gj_iload_n 29 dX7_redrawForNow_28 rfl rfl ?_
        refine gj_iast 30 dX7_redrawForNow_29 rfl rfl (by omega) (by omega) (by omega) ?_
        refine gj_aload_n 31 dX7_redrawForNow_30 rfl rfl ?_
        refine gj_getfr 34 dX7_redrawForNow_31 rfl fl_7_38 rfl rfl ?_
        refine gj_getfr 37 dX7_redrawForNow_34 rfl fl_7_107 rfl rfl ?_
        refine gj_iload_n 38 dX7_redrawForNow_37 rfl rfl ?_
        refine gj_iload_n 39 dX7_redrawForNow_38 rfl rfl ?_
        refine gj_iast 40 dX7_redrawForNow_39 rfl rfl (by omega) (by omega) (by omega) ?_
        refine gj_iconst 41 dX7_redrawForNow_40 rfl ?_
        refine gj_zret dX7_redrawForNow_41 rfl (by decide) ⟨Nat.zero_le _, Nat.zero_le _⟩ ?_
        rw [if_pos (by omega), if_pos (by omega)]
        exact ⟨rfl, rfl, rfl⟩
      · refine gj_iconst 19 dX7_redrawForNow_18 rfl ?_
        refine gj_zret dX7_redrawForNow_19 rfl (by decide) ⟨Nat.zero_le _, Nat.zero_le _⟩ ?_
        rw [if_neg (by omega), if_neg (by omega)]
        exact ⟨rfl, rfl, rfl⟩

theorem j_tr {M : gj_M} {q : Int} {v : Int} {M2 M3 : gj_M} (hv : v = j_ok M q) (hE : gj_E [33, 34] M3 M2) (hm : M3 = j_do M q) : (some (gI v) : Option gj_V) = some (gI (j_ok M q)) ∧ gj_E [33, 34] (j_do M q) M2 := ⟨by rw [hv], hm ▸ hE⟩

set_option maxRecDepth 100000 in
set_option maxHeartbeats 4000000 in
theorem s7_comesTrue {xt : Nat × (Nat → Int)} {M : gj_M} (hI : c_I M) {q : Int} (hq : 0 ≤ q ∧ q < 10000) : gj_T xt Y7_comesTrue gS [gR 0, gI q] M (fun r M2 => r = some (gI (j_ok M q)) ∧ gj_E [33, 34] (j_do M q) M2) := by
  show gj_G _ Y7_comesTrue gS 0 0 0 [_, _, _, _, _, _] [] M _
  refine gj_rg (fun hR => ?_)
  have hL := hI.1
  have hD := hI.2.1
  have hsw := hI.2.2.1
  have g1 : 0 ≤ q / 100 := by omega
  have g2 : 0 ≤ q / 10 := by omega
  have g3 : 0 ≤ q / 1000 := by omega
  refine gj_iload_n 1 dX7_comesTrue_0 rfl rfl ?_
  refine gj_bipush 3 dX7_comesTrue_1 rfl (by decide) ?_
  refine gj_idiv 4 dX7_comesTrue_3 rfl (by omega) (by omega) ?_
  refine gj_bipush 6 dX7_comesTrue_4 rfl (by decide) ?_
  refine gj_irem 7 dX7_comesTrue_6 rfl (by omega) (by omega) ?_
  refine gj_istore_n (lv' := [_, _, _, _, _, _]) 8 dX7_comesTrue_7 rfl (by decide) rfl ?_
  refine gj_iload_n 9 dX7_comesTrue_8 rfl rfl ?_
  refine gj_bipush 11 dX7_comesTrue_9 rfl (by decide) ?_
  refine gj_idiv 12 dX7_comesTrue_11 rfl (by omega) (by omega) ?_
  refine gj_bipush 14 dX7_comesTrue_12 rfl (by decide) ?_
  refine gj_irem 15 dX7_comesTrue_14 rfl (by omega) (by omega) ?_
  refine gj_istore_n (lv' := [_, _, _, _, _, _]) 16 dX7_comesTrue_15 rfl (by decide) rfl ?_
  refine gj_iload_n 17 dX7_comesTrue_16 rfl rfl ?_
  refine gj_bipush 19 dX7_comesTrue_17 rfl (by decide) ?_
  refine gj_irem 20 dX7_comesTrue_19 rfl (by omega) (by omega) ?_
  refine gj_istore (lv' := [_, _, _, _, _, _]) 22 dX7_comesTrue_20 rfl (by decide) rfl ?_
  refine gj_iload_n 23 dX7_comesTrue_22 rfl rfl ?_
  refine gj_bipush 25 dX7_comesTrue_23 rfl (by decide) ?_
  refine gj_idiv 26 dX7_comesTrue_25 rfl (by omega) (by omega) ?_
  refine gj_bipush 28 dX7_comesTrue_26 rfl (by decide) ?_
  refine gj_irem 29 dX7_comesTrue_28 rfl (by omega) (by omega) ?_
  refine gj_istore (lv' := [_, _, _, _, _, _]) 31 dX7_comesTrue_29 rfl (by decide) rfl ?_
  refine gj_iload_n 32 dX7_comesTrue_31 rfl rfl ?_
  refine gj_sipush 35 dX7_comesTrue_32 rfl (by decide) ?_
  refine gj_idiv 36 dX7_comesTrue_35 rfl (by omega) (by omega) ?_
  rcases (show q / 1000 = 1 ∨ q / 1000 = 2 ∨ q / 1000 = 3 ∨ q / 1000 = 4 ∨ q / 1000 = 5 ∨ q / 1000 = 6 ∨ q / 1000 = 7 ∨ (q / 1000 < 1 ∨ 7 < q / 1000) by omega) with t_36 | t_36 | t_36 | t_36 | t_36 | t_36 | t_36 | t_36
  · refine gj_tabI (off := 44) 80 dX7_comesTrue_36 (by omega) (by omega) (by rw [t_36]; rfl) (by decide) ?_
    refine gj_iload_n 81 dX7_comesTrue_80 rfl rfl ?_
    refine gj_if_ne 98 84 dX7_comesTrue_81 (by decide) rfl (by omega) (fun c_81 => ?_) (fun c_81 => ?_)
    · refine gj_iconst 99 dX7_comesTrue_98 rfl ?_
      refine gj_zret dX7_comesTrue_99 rfl (by decide) ⟨Nat.zero_le _, Nat.zero_le _⟩ ?_
      try (first | rw [if_pos (show 0 ≤ q / 100 % 10 ∧ q / 100 % 10 < M 10 1 by omega)] | rw [if_neg (show ¬ (0 ≤ q / 100 % 10 ∧ q / 100 % 10 < M 10 1) by omega)])
      first
      | (have ek : (1 : Int) = j_ok M q := (by unfold j_ok; (repeat (first | rw [if_pos (by omega)] | rw [if_neg (by omega)]))); exact ⟨rfl, j_tr ek gj_E.rf (by unfold j_do; rw [← ek]; (repeat (first | rw [if_pos (by omega)] | rw [if_neg (by omega)])))⟩)
      | (have ek : (0 : Int) = j_ok M q := (by unfold j_ok; (repeat (first | rw [if_pos (by omega)] | rw [if_neg (by omega)]))); exact ⟨rfl, j_tr ek gj_E.rf (by unfold j_do; rw [← ek]; (repeat (first | rw [if_pos (by omega)] | rw [if_neg (by omega)])))⟩)
    · refine gj_aload_n 85 dX7_comesTrue_84 rfl rfl ?_
      refine gj_iload_n 86 dX7_comesTrue_85 rfl rfl ?_
      refine gj_iload 88 dX7_comesTrue_86 rfl rfl ?_
      refine gj_fV 91 dX7_comesTrue_88 rfl ok_7_delayForNow ml_7_251 iv_7_delayForNow (As := [gI _, gI _]) rfl rfl rfl rfl (Nat.le_of_ble_eq_true rfl) ⟨Nat.le_of_ble_eq_true rfl, Nat.le_of_ble_eq_true rfl⟩ (Nat.le_of_ble_eq_true rfl) ⟨rfl, rfl⟩ ⟨Nat.zero_le _, Nat.zero_le _⟩ (s7_delayForNow hI (by omega) (by omega)) ?_
      have hc := x_isL_c M (q / 100 % 10)
      refine gj_if_eq 98 94 dX7_comesTrue_91 (by decide) rfl (by omega) (fun c_91 => ?_) (fun c_91 => ?_)
      · refine gj_iconst 99 dX7_comesTrue_98 rfl ?_
        refine gj_zret dX7_comesTrue_99 rfl (by decide) ⟨Nat.zero_le _, Nat.zero_le _⟩ ?_
        try (first | rw [if_pos (show 0 ≤ q / 100 % 10 ∧ q / 100 % 10 < M 10 1 by omega)] | rw [if_neg (show ¬ (0 ≤ q / 100 % 10 ∧ q / 100 % 10 < M 10 1) by omega)])
        first
        | (have ek : (1 : Int) = j_ok M q := (by unfold j_ok; (repeat (first | rw [if_pos (by omega)] | rw [if_neg (by omega)]))); exact ⟨rfl, j_tr ek gj_E.rf (by unfold j_do; rw [← ek]; (repeat (first | rw [if_pos (by omega)] | rw [if_neg (by omega)])))⟩)
        | (have ek : (0 : Int) = j_ok M q := (by unfold j_ok; (repeat (first | rw [if_pos (by omega)] | rw [if_neg (by omega)]))); exact ⟨rfl, j_tr ek gj_E.rf (by unfold j_do; rw [← ek]; (repeat (first | rw [if_pos (by omega)] | rw [if_neg (by omega)])))⟩)
      · refine gj_iconst 95 dX7_comesTrue_94 rfl ?_
        refine gj_goto 99 dX7_comesTrue_95 (by decide) ?_
        refine gj_zret dX7_comesTrue_99 rfl (by decide) ⟨Nat.zero_le _, Nat.zero_le _⟩ ?_
        try (first | rw [if_pos (show 0 ≤ q / 100 % 10 ∧ q / 100 % 10 < M 10 1 by omega)] | rw [if_neg (show ¬ (0 ≤ q / 100 % 10 ∧ q / 100 % 10 < M 10 1) by omega)])
        first
        | (have ek : (1 : Int) = j_ok M q := (by unfold j_ok; (repeat (first | rw [if_pos (by omega)] | rw [if_neg (by omega)]))); exact ⟨rfl, j_tr ek gj_E.rf (by unfold j_do; rw [← ek]; (repeat (first | rw [if_pos (by omega)] | rw [if_neg (by omega)])))⟩)
        | (have ek : (0 : Int) = j_ok M q := (by unfold j_ok; (repeat (first | rw [if_pos (by omega)] | rw [if_neg (by omega)]))); exact ⟨rfl, j_tr ek gj_E.rf (by unfold j_do; rw [← ek]; (repeat (first | rw [if_pos (by omega)] | rw [if_neg (by omega)])))⟩)
  · refine gj_tabI (off := 64) 100 dX7_comesTrue_36 (by omega) (by omega) (by rw [t_36]; rfl) (by decide) ?_
    refine gj_iload 102 dX7_comesTrue_100 rfl rfl ?_
    refine gj_fS 105 dX7_comesTrue_102 rfl ok_7_isFrame ml_7_132 is_7_isFrame (As := [gI _]) rfl rfl (Nat.le_of_ble_eq_true rfl) ⟨Nat.le_of_ble_eq_true rfl, Nat.le_of_ble_eq_true rfl⟩ (Nat.le_of_ble_eq_true rfl) ⟨rfl, rfl⟩ ⟨Nat.zero_le _, Nat.zero_le _⟩ (s7_isF (by omega)) ?_
    have hc2 := x_isF_c (q / 10 % 100)
    refine gj_if_eq 137 108 dX7_comesTrue_105 (by decide) rfl (by omega) (fun c_105 => ?_) (fun c_105 => ?_)
    · refine gj_iconst 138 dX7_comesTrue_137 rfl ?_
      refine gj_zret dX7_comesTrue_138 rfl (by decide) ⟨Nat.zero_le _, Nat.zero_le _⟩ ?_
      first
      | (have ek : (1 : Int) = j_ok M q := (by unfold j_ok; (repeat (first | rw [if_pos (by omega)] | rw [if_neg (by omega)]))); exact ⟨rfl, j_tr ek gj_E.rf (by unfold j_do; rw [← ek]; (repeat (first | rw [if_pos (by omega)] | rw [if_neg (by omega)])))⟩)
      | (have ek : (0 : Int) = j_ok M q := (by unfold j_ok; (repeat (first | rw [if_pos (by omega)] | rw [if_neg (by omega)]))); exact ⟨rfl, j_tr ek gj_E.rf (by unfold j_do; rw [← ek]; (repeat (first | rw [if_pos (by omega)] | rw [if_neg (by omega)])))⟩)
    · refine gj_aload_n 109 dX7_comesTrue_108 rfl rfl ?_
      refine gj_iload 111 dX7_comesTrue_109 rfl rfl ?_
      refine gj_fV 114 dX7_comesTrue_111 rfl ok_7_isLevel ml_7_114 iv_7_isLevel (As := [gI _]) rfl rfl rfl rfl (Nat.le_of_ble_eq_true rfl) ⟨Nat.le_of_ble_eq_true rfl, Nat.le_of_ble_eq_true rfl⟩ (Nat.le_of_ble_eq_true rfl) ⟨rfl, rfl⟩ ⟨Nat.zero_le _, Nat.zero_le _⟩ (s7_isL hL (by omega)) ?_
      have hc := x_isL_c M (q % 10)
      refine gj_if_eq 137 117 dX7_comesTrue_114 (by decide) rfl (by omega) (fun c_114 => ?_) (fun c_114 => ?_)
      · refine gj_iconst 138 dX7_comesTrue_137 rfl ?_
        refine gj_zret dX7_comesTrue_138 rfl (by decide) ⟨Nat.zero_le _, Nat.zero_le _⟩ ?_
        first
        | (have ek : (1 : Int) = j_ok M q := (by unfold j_ok; (repeat (first | rw [if_pos (by omega)] | rw [if_neg (by omega)]))); exact ⟨rfl, j_tr ek gj_E.rf (by unfold j_do; rw [← ek]; (repeat (first | rw [if_pos (by omega)] | rw [if_neg (by omega)])))⟩)
        | (have ek : (0 : Int) = j_ok M q := (by unfold j_ok; (repeat (first | rw [if_pos (by omega)] | rw [if_neg (by omega)]))); exact ⟨rfl, j_tr ek gj_E.rf (by unfold j_do; rw [← ek]; (repeat (first | rw [if_pos (by omega)] | rw [if_neg (by omega)])))⟩)
      · refine gj_aload_n 118 dX7_comesTrue_117 rfl rfl ?_
        refine gj_getfr 121 dX7_comesTrue_118 rfl fl_7_23 rfl rfl ?_
        refine gj_iload 123 dX7_comesTrue_121 rfl rfl ?_
        refine gj_iload 125 dX7_comesTrue_123 rfl rfl ?_
        refine gj_fV 128 dX7_comesTrue_125 rfl ok_3_drawingOn ml_7_186 iv_3_drawingOn (As := [gI _, gI _]) rfl rfl rfl rfl (Nat.le_of_ble_eq_true rfl) ⟨Nat.le_of_ble_eq_true rfl, Nat.le_of_ble_eq_true rfl⟩ (Nat.le_of_ble_eq_true rfl) ⟨rfl, rfl⟩ ⟨Nat.zero_le _, Nat.zero_le _⟩ (t3_drawingOn hI (by omega) (by omega)) ?_
        have hxi : gj_in (c_ex M (q % 10) (q / 10 % 100)) := p_ex_in (hR 14 (by decide)) _ _
        refine gj_bipush 130 dX7_comesTrue_128 rfl (by decide) ?_
        refine gj_icmp_eq 137 133 dX7_comesTrue_130 (by decide) rfl (by omega) (by omega) (fun c_130 => ?_) (fun c_130 => ?_)
        · refine gj_iconst 138 dX7_comesTrue_137 rfl ?_
          refine gj_zret dX7_comesTrue_138 rfl (by decide) ⟨Nat.zero_le _, Nat.zero_le _⟩ ?_
          first
          | (have ek : (1 : Int) = j_ok M q := (by unfold j_ok; (repeat (first | rw [if_pos (by omega)] | rw [if_neg (by omega)]))); exact ⟨rfl, j_tr ek gj_E.rf (by unfold j_do; rw [← ek]; (repeat (first | rw [if_pos (by omega)] | rw [if_neg (by omega)])))⟩)
          | (have ek : (0 : Int) = j_ok M q := (by unfold j_ok; (repeat (first | rw [if_pos (by omega)] | rw [if_neg (by omega)]))); exact ⟨rfl, j_tr ek gj_E.rf (by unfold j_do; rw [← ek]; (repeat (first | rw [if_pos (by omega)] | rw [if_neg (by omega)])))⟩)
        · refine gj_iconst 134 dX7_comesTrue_133 rfl ?_
          refine gj_goto 138 dX7_comesTrue_134 (by decide) ?_
          refine gj_zret dX7_comesTrue_138 rfl (by decide) ⟨Nat.zero_le _, Nat.zero_le _⟩ ?_
          first
          | (have ek : (1 : Int) = j_ok M q := (by unfold j_ok; (repeat (first | rw [if_pos (by omega)] | rw [if_neg (by omega)]))); exact ⟨rfl, j_tr ek gj_E.rf (by unfold j_do; rw [← ek]; (repeat (first | rw [if_pos (by omega)] | rw [if_neg (by omega)])))⟩)
          | (have ek : (0 : Int) = j_ok M q := (by unfold j_ok; (repeat (first | rw [if_pos (by omega)] | rw [if_neg (by omega)]))); exact ⟨rfl, j_tr ek gj_E.rf (by unfold j_do; rw [← ek]; (repeat (first | rw [if_pos (by omega)] | rw [if_neg (by omega)])))⟩)
  · refine gj_tabI (off := 103) 139 dX7_comesTrue_36 (by omega) (by omega) (by rw [t_36]; rfl) (by decide) ?_
    refine gj_iload 141 dX7_comesTrue_139 rfl rfl ?_
    refine gj_fS 144 dX7_comesTrue_141 rfl ok_7_isFrame ml_7_132 is_7_isFrame (As := [gI _]) rfl rfl (Nat.le_of_ble_eq_true rfl) ⟨Nat.le_of_ble_eq_true rfl, Nat.le_of_ble_eq_true rfl⟩ (Nat.le_of_ble_eq_true rfl) ⟨rfl, rfl⟩ ⟨Nat.zero_le _, Nat.zero_le _⟩ (s7_isF (by omega)) ?_
    have hc2 := x_isF_c (q / 10 % 100)
    refine gj_if_eq 168 147 dX7_comesTrue_144 (by decide) rfl (by omega) (fun c_144 => ?_) (fun c_144 => ?_)
    · refine gj_iconst 169 dX7_comesTrue_168 rfl ?_
      refine gj_zret dX7_comesTrue_169 rfl (by decide) ⟨Nat.zero_le _, Nat.zero_le _⟩ ?_
      first
      | (have ek : (1 : Int) = j_ok M q := (by unfold j_ok; (repeat (first | rw [if_pos (by omega)] | rw [if_neg (by omega)]))); exact ⟨rfl, j_tr ek gj_E.rf (by unfold j_do; rw [← ek]; (repeat (first | rw [if_pos (by omega)] | rw [if_neg (by omega)])))⟩)
      | (have ek : (0 : Int) = j_ok M q := (by unfold j_ok; (repeat (first | rw [if_pos (by omega)] | rw [if_neg (by omega)]))); exact ⟨rfl, j_tr ek gj_E.rf (by unfold j_do; rw [← ek]; (repeat (first | rw [if_pos (by omega)] | rw [if_neg (by omega)])))⟩)
    · refine gj_aload_n 148 dX7_comesTrue_147 rfl rfl ?_
      refine gj_getfr 151 dX7_comesTrue_148 rfl fl_7_23 rfl rfl ?_
      refine gj_iload 153 dX7_comesTrue_151 rfl rfl ?_
      refine gj_iload 155 dX7_comesTrue_153 rfl rfl ?_
      refine gj_iconst 156 dX7_comesTrue_155 rfl ?_
      refine gj_fV 159 dX7_comesTrue_156 rfl ok_3_seenAt ml_7_195 iv_3_seenAt (As := [gI _, gI _, gI _]) rfl rfl rfl rfl (Nat.le_of_ble_eq_true rfl) ⟨Nat.le_of_ble_eq_true rfl, Nat.le_of_ble_eq_true rfl⟩ (Nat.le_of_ble_eq_true rfl) ⟨rfl, rfl⟩ ⟨Nat.zero_le _, Nat.zero_le _⟩ (t3_seenAt hI (by omega) (by omega) (by omega)) ?_
      have hsb := c_seen_in hI (q / 10 % 100) (q % 10) (-1)
      refine gj_bipush 161 dX7_comesTrue_159 rfl (by decide) ?_
      refine gj_icmp_eq 168 164 dX7_comesTrue_161 (by decide) rfl (by omega) (by omega) (fun c_161 => ?_) (fun c_161 => ?_)
      · refine gj_iconst 169 dX7_comesTrue_168 rfl ?_
        refine gj_zret dX7_comesTrue_169 rfl (by decide) ⟨Nat.zero_le _, Nat.zero_le _⟩ ?_
        first
        | (have ek : (1 : Int) = j_ok M q := (by unfold j_ok; (repeat (first | rw [if_pos (by omega)] | rw [if_neg (by omega)]))); exact ⟨rfl, j_tr ek gj_E.rf (by unfold j_do; rw [← ek]; (repeat (first | rw [if_pos (by omega)] | rw [if_neg (by omega)])))⟩)
        | (have ek : (0 : Int) = j_ok M q := (by unfold j_ok; (repeat (first | rw [if_pos (by omega)] | rw [if_neg (by omega)]))); exact ⟨rfl, j_tr ek gj_E.rf (by unfold j_do; rw [← ek]; (repeat (first | rw [if_pos (by omega)] | rw [if_neg (by omega)])))⟩)
      · refine gj_iconst 165 dX7_comesTrue_164 rfl ?_
        refine gj_goto 169 dX7_comesTrue_165 (by decide) ?_
        refine gj_zret dX7_comesTrue_169 rfl (by decide) ⟨Nat.zero_le _, Nat.zero_le _⟩ ?_
        first
        | (have ek : (1 : Int) = j_ok M q := (by unfold j_ok; (repeat (first | rw [if_pos (by omega)] | rw [if_neg (by omega)]))); exact ⟨rfl, j_tr ek gj_E.rf (by unfold j_do; rw [← ek]; (repeat (first | rw [if_pos (by omega)] | rw [if_neg (by omega)])))⟩)
        | (have ek : (0 : Int) = j_ok M q := (by unfold j_ok; (repeat (first | rw [if_pos (by omega)] | rw [if_neg (by omega)]))); exact ⟨rfl, j_tr ek gj_E.rf (by unfold j_do; rw [← ek]; (repeat (first | rw [if_pos (by omega)] | rw [if_neg (by omega)])))⟩)
  · refine gj_tabI (off := 134) 170 dX7_comesTrue_36 (by omega) (by omega) (by rw [t_36]; rfl) (by decide) ?_
    refine gj_aload_n 171 dX7_comesTrue_170 rfl rfl ?_
    refine gj_iload_n 172 dX7_comesTrue_171 rfl rfl ?_
    refine gj_iload_n 173 dX7_comesTrue_172 rfl rfl ?_
    refine gj_iload 175 dX7_comesTrue_173 rfl rfl ?_
    refine gj_fV 178 dX7_comesTrue_175 rfl ok_7_redrawForNow ml_7_255 iv_7_redrawForNow (As := [gI _, gI _, gI _]) rfl rfl rfl rfl (Nat.le_of_ble_eq_true rfl) ⟨Nat.le_of_ble_eq_true rfl, Nat.le_of_ble_eq_true rfl⟩ (Nat.le_of_ble_eq_true rfl) ⟨rfl, rfl⟩ ⟨Nat.zero_le _, Nat.zero_le _⟩ (s7_redrawForNow hI (by omega) (by omega) (by omega)) ?_
    refine gj_zret dX7_comesTrue_178 rfl (by split <;> simp) ⟨Nat.zero_le _, Nat.zero_le _⟩ ?_
    by_cases hrd : (0 ≤ q / 100 % 10 ∧ q / 100 % 10 < M 10 0) ∧ 1 ≤ q % 10 ∧ q % 10 ≤ 5
    · rw [if_pos hrd, if_pos hrd]
      first
      | (have ek : (1 : Int) = j_ok M q := (by unfold j_ok; (repeat (first | rw [if_pos (by omega)] | rw [if_neg (by omega)]))); exact ⟨rfl, j_tr ek gj_E.rf (by unfold j_do; rw [← ek]; (repeat (first | rw [if_pos (by omega)] | rw [if_neg (by omega)])))⟩)
      | (have ek : (0 : Int) = j_ok M q := (by unfold j_ok; (repeat (first | rw [if_pos (by omega)] | rw [if_neg (by omega)]))); exact ⟨rfl, j_tr ek gj_E.rf (by unfold j_do; rw [← ek]; (repeat (first | rw [if_pos (by omega)] | rw [if_neg (by omega)])))⟩)
    · rw [if_neg hrd, if_neg hrd]
      first
      | (have ek : (1 : Int) = j_ok M q := (by unfold j_ok; (repeat (first | rw [if_pos (by omega)] | rw [if_neg (by omega)]))); exact ⟨rfl, j_tr ek gj_E.rf (by unfold j_do; rw [← ek]; (repeat (first | rw [if_pos (by omega)] | rw [if_neg (by omega)])))⟩)
      | (have ek : (0 : Int) = j_ok M q := (by unfold j_ok; (repeat (first | rw [if_pos (by omega)] | rw [if_neg (by omega)]))); exact ⟨rfl, j_tr ek gj_E.rf (by unfold j_do; rw [← ek]; (repeat (first | rw [if_pos (by omega)] | rw [if_neg (by omega)])))⟩)
  · refine gj_tabI (off := 143) 179 dX7_comesTrue_36 (by omega) (by omega) (by rw [t_36]; rfl) (by decide) ?_
    refine gj_iload_n 180 dX7_comesTrue_179 rfl rfl ?_
    refine gj_if_ne 201 183 dX7_comesTrue_180 (by decide) rfl (by omega) (fun c_180 => ?_) (fun c_180 => ?_)
    · refine gj_iconst 202 dX7_comesTrue_201 rfl ?_
      refine gj_zret dX7_comesTrue_202 rfl (by decide) ⟨Nat.zero_le _, Nat.zero_le _⟩ ?_
      first
      | (have ek : (1 : Int) = j_ok M q := (by unfold j_ok; (repeat (first | rw [if_pos (by omega)] | rw [if_neg (by omega)]))); exact ⟨rfl, j_tr ek gj_E.rf (by unfold j_do; rw [← ek]; (repeat (first | rw [if_pos (by omega)] | rw [if_neg (by omega)])))⟩)
      | (have ek : (0 : Int) = j_ok M q := (by unfold j_ok; (repeat (first | rw [if_pos (by omega)] | rw [if_neg (by omega)]))); exact ⟨rfl, j_tr ek gj_E.rf (by unfold j_do; rw [← ek]; (repeat (first | rw [if_pos (by omega)] | rw [if_neg (by omega)])))⟩)
    · refine gj_aload_n 184 dX7_comesTrue_183 rfl rfl ?_
      refine gj_getfr 187 dX7_comesTrue_184 rfl fl_7_23 rfl rfl ?_
      refine gj_callV 190 dX7_comesTrue_187 rfl ok_3_cels ml_7_203 iv_3_cels (As := []) rfl rfl rfl rfl (Nat.le_of_ble_eq_true rfl) ⟨Nat.le_of_ble_eq_true rfl, Nat.le_of_ble_eq_true rfl⟩ (Nat.le_of_ble_eq_true rfl) ⟨rfl, rfl⟩ ⟨Nat.zero_le _, Nat.zero_le _⟩ (s3_cels hI) (fun r_187 M_187 q_187 => ?_)
      obtain ⟨rfl, hE⟩ := q_187
      have hcb := c_cels_b hI
      show gj_G _ _ gS 0 0 190 _ [gI (c_cels M)] M_187 _
      refine gj_iload_n 191 dX7_comesTrue_190 rfl rfl ?_
      refine gj_bipush 193 dX7_comesTrue_191 rfl (by decide) ?_
      refine gj_irem 194 dX7_comesTrue_193 rfl (by omega) (by omega) ?_
      refine gj_icmp_ne 201 197 dX7_comesTrue_194 (by decide) rfl (by omega) (by omega) (fun c_194 => ?_) (fun c_194 => ?_)
      · refine gj_iconst 202 dX7_comesTrue_201 rfl ?_
        refine gj_zret dX7_comesTrue_202 rfl (by decide) ⟨Nat.zero_le _, Nat.zero_le _⟩ ?_
        first
        | (have ek : (1 : Int) = j_ok M q := (by unfold j_ok; (repeat (first | rw [if_pos (by omega)] | rw [if_neg (by omega)]))); exact ⟨rfl, j_tr ek hE (by unfold j_do; rw [← ek]; (repeat (first | rw [if_pos (by omega)] | rw [if_neg (by omega)])))⟩)
        | (have ek : (0 : Int) = j_ok M q := (by unfold j_ok; (repeat (first | rw [if_pos (by omega)] | rw [if_neg (by omega)]))); exact ⟨rfl, j_tr ek hE (by unfold j_do; rw [← ek]; (repeat (first | rw [if_pos (by omega)] | rw [if_neg (by omega)])))⟩)
      · refine gj_iconst 198 dX7_comesTrue_197 rfl ?_
        refine gj_goto 202 dX7_comesTrue_198 (by decide) ?_
        refine gj_zret dX7_comesTrue_202 rfl (by decide) ⟨Nat.zero_le _, Nat.zero_le _⟩ ?_
        first
        | (have ek : (1 : Int) = j_ok M q := (by unfold j_ok; (repeat (first | rw [if_pos (by omega)] | rw [if_neg (by omega)]))); exact ⟨rfl, j_tr ek hE (by unfold j_do; rw [← ek]; (repeat (first | rw [if_pos (by omega)] | rw [if_neg (by omega)])))⟩)
        | (have ek : (0 : Int) = j_ok M q := (by unfold j_ok; (repeat (first | rw [if_pos (by omega)] | rw [if_neg (by omega)]))); exact ⟨rfl, j_tr ek hE (by unfold j_do; rw [← ek]; (repeat (first | rw [if_pos (by omega)] | rw [if_neg (by omega)])))⟩)
  · refine gj_tabI (off := 167) 203 dX7_comesTrue_36 (by omega) (by omega) (by rw [t_36]; rfl) (by decide) ?_
    refine gj_iload 205 dX7_comesTrue_203 rfl rfl ?_
    refine gj_fS 208 dX7_comesTrue_205 rfl ok_7_isFrame ml_7_132 is_7_isFrame (As := [gI _]) rfl rfl (Nat.le_of_ble_eq_true rfl) ⟨Nat.le_of_ble_eq_true rfl, Nat.le_of_ble_eq_true rfl⟩ (Nat.le_of_ble_eq_true rfl) ⟨rfl, rfl⟩ ⟨Nat.zero_le _, Nat.zero_le _⟩ (s7_isF (by omega)) ?_
    have hc2 := x_isF_c (q / 10 % 100)
    refine gj_if_eq 246 211 dX7_comesTrue_208 (by decide) rfl (by omega) (fun c_208 => ?_) (fun c_208 => ?_)
    · refine gj_iconst 247 dX7_comesTrue_246 rfl ?_
      refine gj_zret dX7_comesTrue_247 rfl (by decide) ⟨Nat.zero_le _, Nat.zero_le _⟩ ?_
      first
      | (have ek : (1 : Int) = j_ok M q := (by unfold j_ok; (repeat (first | rw [if_pos (by omega)] | rw [if_neg (by omega)]))); exact ⟨rfl, j_tr ek gj_E.rf (by unfold j_do; rw [← ek]; (repeat (first | rw [if_pos (by omega)] | rw [if_neg (by omega)])))⟩)
      | (have ek : (0 : Int) = j_ok M q := (by unfold j_ok; (repeat (first | rw [if_pos (by omega)] | rw [if_neg (by omega)]))); exact ⟨rfl, j_tr ek gj_E.rf (by unfold j_do; rw [← ek]; (repeat (first | rw [if_pos (by omega)] | rw [if_neg (by omega)])))⟩)
    · refine gj_aload_n 212 dX7_comesTrue_211 rfl rfl ?_
      refine gj_iload 214 dX7_comesTrue_212 rfl rfl ?_
      refine gj_fV 217 dX7_comesTrue_214 rfl ok_7_isLevel ml_7_114 iv_7_isLevel (As := [gI _]) rfl rfl rfl rfl (Nat.le_of_ble_eq_true rfl) ⟨Nat.le_of_ble_eq_true rfl, Nat.le_of_ble_eq_true rfl⟩ (Nat.le_of_ble_eq_true rfl) ⟨rfl, rfl⟩ ⟨Nat.zero_le _, Nat.zero_le _⟩ (s7_isL hL (by omega)) ?_
      have hc := x_isL_c M (q % 10)
      refine gj_if_eq 246 220 dX7_comesTrue_217 (by decide) rfl (by omega) (fun c_217 => ?_) (fun c_217 => ?_)
      · refine gj_iconst 247 dX7_comesTrue_246 rfl ?_
        refine gj_zret dX7_comesTrue_247 rfl (by decide) ⟨Nat.zero_le _, Nat.zero_le _⟩ ?_
        first
        | (have ek : (1 : Int) = j_ok M q := (by unfold j_ok; (repeat (first | rw [if_pos (by omega)] | rw [if_neg (by omega)]))); exact ⟨rfl, j_tr ek gj_E.rf (by unfold j_do; rw [← ek]; (repeat (first | rw [if_pos (by omega)] | rw [if_neg (by omega)])))⟩)
        | (have ek : (0 : Int) = j_ok M q := (by unfold j_ok; (repeat (first | rw [if_pos (by omega)] | rw [if_neg (by omega)]))); exact ⟨rfl, j_tr ek gj_E.rf (by unfold j_do; rw [← ek]; (repeat (first | rw [if_pos (by omega)] | rw [if_neg (by omega)])))⟩)
      · refine gj_aload_n 221 dX7_comesTrue_220 rfl rfl ?_
        refine gj_getfr 224 dX7_comesTrue_221 rfl fl_7_23 rfl rfl ?_
        refine gj_aload_n 225 dX7_comesTrue_224 rfl rfl ?_
        refine gj_getfr 228 dX7_comesTrue_225 rfl fl_7_23 rfl rfl ?_
        refine gj_iload 230 dX7_comesTrue_228 rfl rfl ?_
        refine gj_fV 233 dX7_comesTrue_230 rfl ok_3_orderAt ml_7_189 iv_3_orderAt (As := [gI _]) rfl rfl rfl rfl (Nat.le_of_ble_eq_true rfl) ⟨Nat.le_of_ble_eq_true rfl, Nat.le_of_ble_eq_true rfl⟩ (Nat.le_of_ble_eq_true rfl) ⟨rfl, rfl⟩ ⟨Nat.zero_le _, Nat.zero_le _⟩ (t3_orderAt hI (by omega)) ?_
        refine gj_iconst 234 dX7_comesTrue_233 rfl ?_
        refine gj_fV 237 dX7_comesTrue_234 rfl ok_3_levelInOrder ml_7_259 iv_3_levelInOrder (As := [gI _, gI _]) rfl rfl rfl rfl (Nat.le_of_ble_eq_true rfl) ⟨Nat.le_of_ble_eq_true rfl, Nat.le_of_ble_eq_true rfl⟩ (Nat.le_of_ble_eq_true rfl) ⟨rfl, rfl⟩ ⟨Nat.zero_le _, Nat.zero_le _⟩ (s3_levelInOrder (by have := (hI.od (q / 10 % 100)).1; omega) (by omega) hL) ?_
        have hlb := p_li_b (L := M 10 1) (i := 0) (hI.od (q / 10 % 100)).1.1
        refine gj_iload 239 dX7_comesTrue_237 rfl rfl ?_
        refine gj_icmp_ne 246 242 dX7_comesTrue_239 (by decide) rfl (by omega) (by omega) (fun c_239 => ?_) (fun c_239 => ?_)
        · refine gj_iconst 247 dX7_comesTrue_246 rfl ?_
          refine gj_zret dX7_comesTrue_247 rfl (by decide) ⟨Nat.zero_le _, Nat.zero_le _⟩ ?_
          first
          | (have ek : (1 : Int) = j_ok M q := (by unfold j_ok; (repeat (first | rw [if_pos (by omega)] | rw [if_neg (by omega)]))); exact ⟨rfl, j_tr ek gj_E.rf (by unfold j_do; rw [← ek]; (repeat (first | rw [if_pos (by omega)] | rw [if_neg (by omega)])))⟩)
          | (have ek : (0 : Int) = j_ok M q := (by unfold j_ok; (repeat (first | rw [if_pos (by omega)] | rw [if_neg (by omega)]))); exact ⟨rfl, j_tr ek gj_E.rf (by unfold j_do; rw [← ek]; (repeat (first | rw [if_pos (by omega)] | rw [if_neg (by omega)])))⟩)
        · refine gj_iconst 243 dX7_comesTrue_242 rfl ?_
          refine gj_goto 247 dX7_comesTrue_243 (by decide) ?_
          refine gj_zret dX7_comesTrue_247 rfl (by decide) ⟨Nat.zero_le _, Nat.zero_le _⟩ ?_
          first
          | (have ek : (1 : Int) = j_ok M q := (by unfold j_ok; (repeat (first | rw [if_pos (by omega)] | rw [if_neg (by omega)]))); exact ⟨rfl, j_tr ek gj_E.rf (by unfold j_do; rw [← ek]; (repeat (first | rw [if_pos (by omega)] | rw [if_neg (by omega)])))⟩)
          | (have ek : (0 : Int) = j_ok M q := (by unfold j_ok; (repeat (first | rw [if_pos (by omega)] | rw [if_neg (by omega)]))); exact ⟨rfl, j_tr ek gj_E.rf (by unfold j_do; rw [← ek]; (repeat (first | rw [if_pos (by omega)] | rw [if_neg (by omega)])))⟩)
  · refine gj_tabI (off := 212) 248 dX7_comesTrue_36 (by omega) (by omega) (by rw [t_36]; rfl) (by decide) ?_
    refine gj_iload_n 249 dX7_comesTrue_248 rfl rfl ?_
    refine gj_sipush 252 dX7_comesTrue_249 rfl (by decide) ?_
    refine gj_icmp_ne 269 255 dX7_comesTrue_252 (by decide) rfl (by omega) (by omega) (fun c_252 => ?_) (fun c_252 => ?_)
    · refine gj_iconst 270 dX7_comesTrue_269 rfl ?_
      refine gj_zret dX7_comesTrue_270 rfl (by decide) ⟨Nat.zero_le _, Nat.zero_le _⟩ ?_
      first
      | (have ek : (1 : Int) = j_ok M q := (by unfold j_ok; (repeat (first | rw [if_pos (by omega)] | rw [if_neg (by omega)]))); exact ⟨rfl, j_tr ek gj_E.rf (by unfold j_do; rw [← ek]; (repeat (first | rw [if_pos (by omega)] | rw [if_neg (by omega)])))⟩)
      | (have ek : (0 : Int) = j_ok M q := (by unfold j_ok; (repeat (first | rw [if_pos (by omega)] | rw [if_neg (by omega)]))); exact ⟨rfl, j_tr ek gj_E.rf (by unfold j_do; rw [← ek]; (repeat (first | rw [if_pos (by omega)] | rw [if_neg (by omega)])))⟩)
    · by_cases hsp : 1 ≤ M 15 6
      · refine gj_aload_n 256 dX7_comesTrue_255 rfl rfl ?_
        refine gj_getfr 259 dX7_comesTrue_256 rfl fl_7_38 rfl rfl ?_
        refine gj_fV 262 dX7_comesTrue_259 rfl ok_4_dropSwitch ml_7_175 iv_4_dropSwitch (As := []) rfl rfl rfl rfl (Nat.le_of_ble_eq_true rfl) ⟨Nat.le_of_ble_eq_true rfl, Nat.le_of_ble_eq_true rfl⟩ (Nat.le_of_ble_eq_true rfl) ⟨rfl, rfl⟩ ⟨Nat.zero_le _, Nat.zero_le _⟩ (s4_dropSwitch1 hsp) ?_
        refine gj_if_eq 269 265 dX7_comesTrue_262 (by decide) rfl (by omega) (fun c_262 => absurd c_262 (by decide)) (fun c_262 => ?_)
        refine gj_iconst 266 dX7_comesTrue_265 rfl ?_
        refine gj_goto 270 dX7_comesTrue_266 (by decide) ?_
        refine gj_zret dX7_comesTrue_270 rfl (by decide) ⟨Nat.zero_le _, Nat.zero_le _⟩ ?_
        first
        | (have ek : (1 : Int) = j_ok M q := (by unfold j_ok; (repeat (first | rw [if_pos (by omega)] | rw [if_neg (by omega)]))); exact ⟨rfl, j_tr ek gj_E.rf (by unfold j_do; rw [← ek]; (repeat (first | rw [if_pos (by omega)] | rw [if_neg (by omega)])))⟩)
        | (have ek : (0 : Int) = j_ok M q := (by unfold j_ok; (repeat (first | rw [if_pos (by omega)] | rw [if_neg (by omega)]))); exact ⟨rfl, j_tr ek gj_E.rf (by unfold j_do; rw [← ek]; (repeat (first | rw [if_pos (by omega)] | rw [if_neg (by omega)])))⟩)
      · refine gj_aload_n 256 dX7_comesTrue_255 rfl rfl ?_
        refine gj_getfr 259 dX7_comesTrue_256 rfl fl_7_38 rfl rfl ?_
        refine gj_fV 262 dX7_comesTrue_259 rfl ok_4_dropSwitch ml_7_175 iv_4_dropSwitch (As := []) rfl rfl rfl rfl (Nat.le_of_ble_eq_true rfl) ⟨Nat.le_of_ble_eq_true rfl, Nat.le_of_ble_eq_true rfl⟩ (Nat.le_of_ble_eq_true rfl) ⟨rfl, rfl⟩ ⟨Nat.zero_le _, Nat.zero_le _⟩ (s4_dropSwitch0 (by omega)) ?_
        refine gj_if_eq 269 265 dX7_comesTrue_262 (by decide) rfl (by omega) (fun c_262 => ?_) (fun c_262 => absurd c_262 (by decide))
        refine gj_iconst 270 dX7_comesTrue_269 rfl ?_
        refine gj_zret dX7_comesTrue_270 rfl (by decide) ⟨Nat.zero_le _, Nat.zero_le _⟩ ?_
        first
        | (have ek : (1 : Int) = j_ok M q := (by unfold j_ok; (repeat (first | rw [if_pos (by omega)] | rw [if_neg (by omega)]))); exact ⟨rfl, j_tr ek gj_E.rf (by unfold j_do; rw [← ek]; (repeat (first | rw [if_pos (by omega)] | rw [if_neg (by omega)])))⟩)
        | (have ek : (0 : Int) = j_ok M q := (by unfold j_ok; (repeat (first | rw [if_pos (by omega)] | rw [if_neg (by omega)]))); exact ⟨rfl, j_tr ek gj_E.rf (by unfold j_do; rw [← ek]; (repeat (first | rw [if_pos (by omega)] | rw [if_neg (by omega)])))⟩)
  · refine gj_tabO 271 dX7_comesTrue_36 (by omega) t_36 (by decide) ?_
    refine gj_iconst 272 dX7_comesTrue_271 rfl ?_
    refine gj_zret dX7_comesTrue_272 rfl (by decide) ⟨Nat.zero_le _, Nat.zero_le _⟩ ?_
    first
    | (have ek : (1 : Int) = j_ok M q := (by unfold j_ok; (repeat (first | rw [if_pos (by omega)] | rw [if_neg (by omega)]))); exact ⟨rfl, j_tr ek gj_E.rf (by unfold j_do; rw [← ek]; (repeat (first | rw [if_pos (by omega)] | rw [if_neg (by omega)])))⟩)
    | (have ek : (0 : Int) = j_ok M q := (by unfold j_ok; (repeat (first | rw [if_pos (by omega)] | rw [if_neg (by omega)]))); exact ⟨rfl, j_tr ek gj_E.rf (by unfold j_do; rw [← ek]; (repeat (first | rw [if_pos (by omega)] | rw [if_neg (by omega)])))⟩)
