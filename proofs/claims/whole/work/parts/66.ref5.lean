set_option maxRecDepth 100000 in
set_option maxHeartbeats 1000000 in
theorem s8_best_l {xt : Nat × (Nat → Int)} {M : gj_M} (hI : y_I M 78) {l : Int} (hl : 0 ≤ l ∧ l < 4) : ∀ (n k : Nat) (M1 : gj_M), k + n = 10 → gj_E [79] M M1 → gj_G xt Y8_bestDelay gS 0 0 7 [some (gR 69), some (gI l), some (gI (p_bb (fun v : Nat => y_cels (gj_u M 78 (12 + l) v) 78) k)), some (gI (p_bl (fun v : Nat => y_cels (gj_u M 78 (12 + l) v) 78) k)), some (gI (k : Int)), none] [] M1 (fun rv S2 M2 => S2 = gS ∧ rv = some (gI (y_best M l)) ∧ gj_E [79] M M2) := by
  intro n
  induction n with
  | zero =>
    intro k M1 hk hE
    have hlb := y_bl_b hI hl k (by omega)
    have hq := y_eq.tr (v := (k : Int)) hE (i := 12 + l) (by omega)
    refine gj_iload 9 dX8_bestDelay_7 rfl rfl ?_
    refine gj_bipush 11 dX8_bestDelay_9 rfl (by decide) ?_
    refine gj_icmp_ge 62 14 dX8_bestDelay_11 (by decide) rfl (by omega) (by omega) (fun c_11 => ?_) (fun c_11 => absurd c_11 (by omega))
    refine gj_iload_n 63 dX8_bestDelay_62 rfl rfl ?_
    refine gj_iret dX8_bestDelay_63 rfl ⟨Nat.zero_le _, Nat.zero_le _⟩ ?_
    have hk3 : k = 10 := by omega
    subst hk3
    exact ⟨rfl, rfl, hE⟩
  | succ n ih =>
    intro k M1 hk hE
    have hlb := y_bl_b hI hl k (by omega)
    have hq := y_eq.tr (v := (k : Int)) hE (i := 12 + l) (by omega)
    refine gj_iload 9 dX8_bestDelay_7 rfl rfl ?_
    refine gj_bipush 11 dX8_bestDelay_9 rfl (by decide) ?_
    refine gj_icmp_ge 62 14 dX8_bestDelay_11 (by decide) rfl (by omega) (by omega) (fun c_11 => absurd c_11 (by omega)) (fun c_11 => ?_)
    have hI2 := hI.dl (l := l) (v := (k : Int)) hl (by omega)
    have hcb := y_cels_b hI2
    have sp := s8_cels (xt := xt) (r := 79) rfl (hq.I hI2)
    rw [hq.cels hI2] at sp
    refine gj_aload_n 15 dX8_bestDelay_14 rfl rfl ?_
    refine gj_vV 18 dX8_bestDelay_15 rfl ok_8_layTrial ml_8_162 iv_8_layTrial (As := []) rfl rfl rfl rfl (Nat.le_of_ble_eq_true rfl) ⟨Nat.le_of_ble_eq_true rfl, Nat.le_of_ble_eq_true rfl⟩ (Nat.le_of_ble_eq_true rfl) ⟨rfl, rfl⟩ ⟨Nat.zero_le _, Nat.zero_le _⟩ (s8_lay) ?_
    refine gj_aload_n 19 dX8_bestDelay_18 rfl rfl ?_
    refine gj_getfr 22 dX8_bestDelay_19 rfl fl_8_38 rfl rfl ?_
    refine gj_bipush 24 dX8_bestDelay_22 rfl (by decide) ?_
    refine gj_iload_n 25 dX8_bestDelay_24 rfl rfl ?_
    refine gj_iadd 26 dX8_bestDelay_25 rfl ?_
    refine gj_iload 28 dX8_bestDelay_26 rfl rfl ?_
    refine gj_iast 29 dX8_bestDelay_28 rfl rfl (by omega) (by omega) (by omega) ?_
    refine gj_aload_n 30 dX8_bestDelay_29 rfl rfl ?_
    refine gj_aload_n 31 dX8_bestDelay_30 rfl rfl ?_
    refine gj_getfr 34 dX8_bestDelay_31 rfl fl_8_38 rfl rfl ?_
    refine gj_fV 37 dX8_bestDelay_34 rfl ok_8_cels ml_8_165 iv_8_cels (As := [gR _]) rfl rfl rfl rfl (Nat.le_of_ble_eq_true rfl) ⟨Nat.le_of_ble_eq_true rfl, Nat.le_of_ble_eq_true rfl⟩ (Nat.le_of_ble_eq_true rfl) ⟨rfl, rfl⟩ ⟨Nat.zero_le _, Nat.zero_le _⟩ (sp) ?_
    refine gj_istore (lv' := [_, _, _, _, _, _]) 39 dX8_bestDelay_37 rfl (by decide) rfl ?_
    refine gj_iload 41 dX8_bestDelay_39 rfl rfl ?_
    refine gj_if_eq 50 44 dX8_bestDelay_41 (by decide) rfl (by omega) (fun c_41 => ?_) (fun c_41 => ?_)
    · refine gj_iload 52 dX8_bestDelay_50 rfl rfl ?_
      refine gj_istore_n (lv' := [_, _, _, _, _, _]) 53 dX8_bestDelay_52 rfl (by decide) rfl ?_
      refine gj_iload 55 dX8_bestDelay_53 rfl rfl ?_
      refine gj_istore_n (lv' := [_, _, _, _, _, _]) 56 dX8_bestDelay_55 rfl (by decide) rfl ?_
      refine gj_iinc (b := ((k + 1 : Nat) : Int)) (lv' := [_, _, _, _, _, _]) 59 dX8_bestDelay_56 rfl rfl (by omega) (by decide) rfl ?_
      refine gj_goto 7 dX8_bestDelay_59 (by decide) ?_
      have h := ih (k + 1) (gj_u (y_cp M1 78 79 40) 79 (12 + l) k) (by omega) (fun x hx i => by
        have hx9 : x ≠ 79 := by simpa using hx
        rw [gj_u_o hx9, y_cp_o hx9]
        exact hE x hx i)
      first
      | (rw [show p_bl (fun v : Nat => y_cels (gj_u M 78 (12 + l) v) 78) (k + 1) = y_cels (gj_u M 78 (12 + l) k) 78 from if_pos (show k = 0 ∨ y_cels (gj_u M 78 (12 + l) k) 78 < p_bl (fun v : Nat => y_cels (gj_u M 78 (12 + l) v) 78) k by omega), show p_bb (fun v : Nat => y_cels (gj_u M 78 (12 + l) v) 78) (k + 1) = (k : Int) from if_pos (show k = 0 ∨ y_cels (gj_u M 78 (12 + l) k) 78 < p_bl (fun v : Nat => y_cels (gj_u M 78 (12 + l) v) 78) k by omega)] at h; exact gj_wk h ⟨rfl, rfl, rfl, rfl, rfl, trivial⟩)
      | (rw [show p_bl (fun v : Nat => y_cels (gj_u M 78 (12 + l) v) 78) (k + 1) = p_bl (fun v : Nat => y_cels (gj_u M 78 (12 + l) v) 78) k from if_neg (show ¬ (k = 0 ∨ y_cels (gj_u M 78 (12 + l) k) 78 < p_bl (fun v : Nat => y_cels (gj_u M 78 (12 + l) v) 78) k) by omega), show p_bb (fun v : Nat => y_cels (gj_u M 78 (12 + l) v) 78) (k + 1) = p_bb (fun v : Nat => y_cels (gj_u M 78 (12 + l) v) 78) k from if_neg (show ¬ (k = 0 ∨ y_cels (gj_u M 78 (12 + l) k) 78 < p_bl (fun v : Nat => y_cels (gj_u M 78 (12 + l) v) 78) k) by omega)] at h; exact gj_wk h ⟨rfl, rfl, rfl, rfl, rfl, trivial⟩)
    · refine gj_iload 46 dX8_bestDelay_44 rfl rfl ?_
      refine gj_iload_n 47 dX8_bestDelay_46 rfl rfl ?_
      refine gj_icmp_ge 56 50 dX8_bestDelay_47 (by decide) rfl (by omega) (by omega) (fun c_47 => ?_) (fun c_47 => ?_)
      · refine gj_iinc (b := ((k + 1 : Nat) : Int)) (lv' := [_, _, _, _, _, _]) 59 dX8_bestDelay_56 rfl rfl (by omega) (by decide) rfl ?_
        refine gj_goto 7 dX8_bestDelay_59 (by decide) ?_
        have h := ih (k + 1) (gj_u (y_cp M1 78 79 40) 79 (12 + l) k) (by omega) (fun x hx i => by
          have hx9 : x ≠ 79 := by simpa using hx
          rw [gj_u_o hx9, y_cp_o hx9]
          exact hE x hx i)
        first
        | (rw [show p_bl (fun v : Nat => y_cels (gj_u M 78 (12 + l) v) 78) (k + 1) = y_cels (gj_u M 78 (12 + l) k) 78 from if_pos (show k = 0 ∨ y_cels (gj_u M 78 (12 + l) k) 78 < p_bl (fun v : Nat => y_cels (gj_u M 78 (12 + l) v) 78) k by omega), show p_bb (fun v : Nat => y_cels (gj_u M 78 (12 + l) v) 78) (k + 1) = (k : Int) from if_pos (show k = 0 ∨ y_cels (gj_u M 78 (12 + l) k) 78 < p_bl (fun v : Nat => y_cels (gj_u M 78 (12 + l) v) 78) k by omega)] at h; exact gj_wk h ⟨rfl, rfl, rfl, rfl, rfl, trivial⟩)
        | (rw [show p_bl (fun v : Nat => y_cels (gj_u M 78 (12 + l) v) 78) (k + 1) = p_bl (fun v : Nat => y_cels (gj_u M 78 (12 + l) v) 78) k from if_neg (show ¬ (k = 0 ∨ y_cels (gj_u M 78 (12 + l) k) 78 < p_bl (fun v : Nat => y_cels (gj_u M 78 (12 + l) v) 78) k) by omega), show p_bb (fun v : Nat => y_cels (gj_u M 78 (12 + l) v) 78) (k + 1) = p_bb (fun v : Nat => y_cels (gj_u M 78 (12 + l) v) 78) k from if_neg (show ¬ (k = 0 ∨ y_cels (gj_u M 78 (12 + l) k) 78 < p_bl (fun v : Nat => y_cels (gj_u M 78 (12 + l) v) 78) k) by omega)] at h; exact gj_wk h ⟨rfl, rfl, rfl, rfl, rfl, trivial⟩)
      · refine gj_iload 52 dX8_bestDelay_50 rfl rfl ?_
        refine gj_istore_n (lv' := [_, _, _, _, _, _]) 53 dX8_bestDelay_52 rfl (by decide) rfl ?_
        refine gj_iload 55 dX8_bestDelay_53 rfl rfl ?_
        refine gj_istore_n (lv' := [_, _, _, _, _, _]) 56 dX8_bestDelay_55 rfl (by decide) rfl ?_
        refine gj_iinc (b := ((k + 1 : Nat) : Int)) (lv' := [_, _, _, _, _, _]) 59 dX8_bestDelay_56 rfl rfl (by omega) (by decide) rfl ?_
        refine gj_goto 7 dX8_bestDelay_59 (by decide) ?_
        have h := ih (k + 1) (gj_u (y_cp M1 78 79 40) 79 (12 + l) k) (by omega) (fun x hx i => by
          have hx9 : x ≠ 79 := by simpa using hx
          rw [gj_u_o hx9, y_cp_o hx9]
          exact hE x hx i)
        first
        | (rw [show p_bl (fun v : Nat => y_cels (gj_u M 78 (12 + l) v) 78) (k + 1) = y_cels (gj_u M 78 (12 + l) k) 78 from if_pos (show k = 0 ∨ y_cels (gj_u M 78 (12 + l) k) 78 < p_bl (fun v : Nat => y_cels (gj_u M 78 (12 + l) v) 78) k by omega), show p_bb (fun v : Nat => y_cels (gj_u M 78 (12 + l) v) 78) (k + 1) = (k : Int) from if_pos (show k = 0 ∨ y_cels (gj_u M 78 (12 + l) k) 78 < p_bl (fun v : Nat => y_cels (gj_u M 78 (12 + l) v) 78) k by omega)] at h; exact gj_wk h ⟨rfl, rfl, rfl, rfl, rfl, trivial⟩)
        | (rw [show p_bl (fun v : Nat => y_cels (gj_u M 78 (12 + l) v) 78) (k + 1) = p_bl (fun v : Nat => y_cels (gj_u M 78 (12 + l) v) 78) k from if_neg (show ¬ (k = 0 ∨ y_cels (gj_u M 78 (12 + l) k) 78 < p_bl (fun v : Nat => y_cels (gj_u M 78 (12 + l) v) 78) k) by omega), show p_bb (fun v : Nat => y_cels (gj_u M 78 (12 + l) v) 78) (k + 1) = p_bb (fun v : Nat => y_cels (gj_u M 78 (12 + l) v) 78) k from if_neg (show ¬ (k = 0 ∨ y_cels (gj_u M 78 (12 + l) k) 78 < p_bl (fun v : Nat => y_cels (gj_u M 78 (12 + l) v) 78) k) by omega)] at h; exact gj_wk h ⟨rfl, rfl, rfl, rfl, rfl, trivial⟩)

set_option maxRecDepth 100000 in
set_option maxHeartbeats 1000000 in
theorem s8_best {xt : Nat × (Nat → Int)} {M : gj_M} (hI : y_I M 78) {l : Int} (hl : 0 ≤ l ∧ l < 4) : gj_T xt Y8_bestDelay gS [gR 69, gI l] M (fun r M2 => r = some (gI (y_best M l)) ∧ gj_E [79] M M2) := by
  show gj_G _ Y8_bestDelay gS 0 0 0 [_, _, _, _, _, _] [] M _
  refine gj_iconst 1 dX8_bestDelay_0 rfl ?_
  refine gj_istore_n (lv' := [_, _, _, _, _, _]) 2 dX8_bestDelay_1 rfl (by decide) rfl ?_
  refine gj_iconst 3 dX8_bestDelay_2 rfl ?_
  refine gj_istore_n (lv' := [_, _, _, _, _, _]) 4 dX8_bestDelay_3 rfl (by decide) rfl ?_
  refine gj_iconst 5 dX8_bestDelay_4 rfl ?_
  refine gj_istore (lv' := [_, _, _, _, _, _]) 7 dX8_bestDelay_5 rfl (by decide) rfl ?_
  exact gj_wk (s8_best_l hI hl 10 0 M rfl gj_E.rf) ⟨rfl, rfl, rfl, rfl, rfl, trivial⟩

set_option maxRecDepth 100000 in
set_option maxHeartbeats 1000000 in
theorem s8_note_2 {xt : Nat × (Nat → Int)} {M : gj_M} (hb : 0 ≤ y_n1 M 69 18 ∧ y_n1 M 69 18 ≤ 13) : ∀ (n k : Nat), k + n = 40 → gj_G xt Y8_note gS 0 0 51 [some (gR 69), some (gI (k : Int))] [] (y_pg (y_n1 M) (y_n1 M 69 18) k) (fun r S2 M2 => S2 = gS ∧ r = none ∧ M2 = y_nt M) := by
  intro n
  induction n with
  | zero =>
    intro k hk
    refine gj_iload_n 52 dX8_note_51 rfl rfl ?_
    refine gj_bipush 54 dX8_note_52 rfl (by decide) ?_
    refine gj_icmp_ge 83 57 dX8_note_54 (by decide) rfl (by omega) (by omega) (fun c_54 => ?_) (fun c_54 => absurd c_54 (by omega))
    refine gj_aload_n 84 dX8_note_83 rfl rfl ?_
    refine gj_dup 85 dX8_note_84 rfl (fun _ => rfl) ?_
    refine gj_getfiE (y_n1 M 69 18) 88 dX8_note_85 rfl fl_8_121 rfl rfl (y_pg_o (by decide) _ _) (fun r_85 => ?_)
    refine gj_iconst 89 dX8_note_88 rfl ?_
    refine gj_iadd 90 dX8_note_89 rfl ?_
    refine gj_putfi 93 dX8_note_90 rfl fw_8_121 rfl rfl (by omega) ?_
    refine gj_vret dX8_note_93 rfl ⟨Nat.zero_le _, Nat.zero_le _⟩ ?_
    have hk3 : k = 40 := by omega
    subst hk3
    exact ⟨rfl, rfl, rfl⟩
  | succ n ih =>
    intro k hk
    refine gj_iload_n 52 dX8_note_51 rfl rfl ?_
    refine gj_bipush 54 dX8_note_52 rfl (by decide) ?_
    refine gj_icmp_ge 83 57 dX8_note_54 (by decide) rfl (by omega) (by omega) (fun c_54 => absurd c_54 (by omega)) (fun c_54 => ?_)
    refine gj_aload_n 58 dX8_note_57 rfl rfl ?_
    refine gj_getfr 61 dX8_note_58 rfl fl_8_41 rfl rfl ?_
    refine gj_bipush 63 dX8_note_61 rfl (by decide) ?_
    refine gj_aload_n 64 dX8_note_63 rfl rfl ?_
    refine gj_getfiE (y_n1 M 69 18) 67 dX8_note_64 rfl fl_8_121 rfl rfl (y_pg_o (by decide) _ _) (fun r_64 => ?_)
    refine gj_imul 68 dX8_note_67 rfl ?_
    refine gj_iload_n 69 dX8_note_68 rfl rfl ?_
    refine gj_iadd 70 dX8_note_69 rfl ?_
    refine gj_aload_n 71 dX8_note_70 rfl rfl ?_
    refine gj_getfr 74 dX8_note_71 rfl fl_8_35 rfl rfl ?_
    refine gj_iload_n 75 dX8_note_74 rfl rfl ?_
    refine gj_iald 76 dX8_note_75 rfl rfl (by omega) (by omega) (fun r_75 => ?_)
    refine gj_iast 77 dX8_note_76 rfl rfl (by omega) (by omega) r_75 ?_
    refine gj_iinc (b := ((k + 1 : Nat) : Int)) (lv' := [_, _]) 80 dX8_note_77 rfl rfl (by omega) (by decide) rfl ?_
    refine gj_goto 51 dX8_note_80 (by decide) ?_
    exact gj_wk (ih (k + 1) (by omega)) ⟨rfl, rfl, trivial⟩

set_option maxRecDepth 100000 in
set_option maxHeartbeats 1000000 in
theorem s8_note_1 {xt : Nat × (Nat → Int)} {M : gj_M} (h14 : M 69 18 = 14) : ∀ (n k : Nat), k + n = 520 → gj_G xt Y8_note gS 0 0 11 [some (gR 69), some (gI (k : Int))] [] (y_sh M k) (fun r S2 M2 => S2 = gS ∧ r = none ∧ M2 = y_nt M) := by
  intro n
  induction n with
  | zero =>
    intro k hk
    refine gj_iload_n 12 dX8_note_11 rfl rfl ?_
    refine gj_sipush 15 dX8_note_12 rfl (by decide) ?_
    refine gj_icmp_ge 39 18 dX8_note_15 (by decide) rfl (by omega) (by omega) (fun c_15 => ?_) (fun c_15 => absurd c_15 (by omega))
    refine gj_aload_n 40 dX8_note_39 rfl rfl ?_
    refine gj_dup 41 dX8_note_40 rfl (fun _ => rfl) ?_
    refine gj_getfiE (14) 44 dX8_note_41 rfl fl_8_121 rfl rfl (by rw [y_sh_o (by decide)]; exact h14) (fun r_41 => ?_)
    refine gj_iconst 45 dX8_note_44 rfl ?_
    refine gj_isub 46 dX8_note_45 rfl ?_
    refine gj_putfi 49 dX8_note_46 rfl fw_8_121 rfl rfl (by omega) ?_
    refine gj_iconst 50 dX8_note_49 rfl ?_
    refine gj_istore_n (lv' := [_, _]) 51 dX8_note_50 rfl (by decide) rfl ?_
    have hk3 : k = 520 := by omega
    subst hk3
    have e1 : y_n1 M = gj_u (y_sh M 520) 69 18 13 := if_pos h14
    have e2 : y_n1 M 69 18 = 13 := by rw [e1]; rfl
    have h := s8_note_2 (xt := xt) (M := M) (by omega) 40 0 rfl
    rw [show y_pg (y_n1 M) (y_n1 M 69 18) 0 = gj_u (y_sh M 520) 69 18 13 from e1] at h
    exact gj_wk h ⟨rfl, rfl, trivial⟩
  | succ n ih =>
    intro k hk
    refine gj_iload_n 12 dX8_note_11 rfl rfl ?_
    refine gj_sipush 15 dX8_note_12 rfl (by decide) ?_
    refine gj_icmp_ge 39 18 dX8_note_15 (by decide) rfl (by omega) (by omega) (fun c_15 => absurd c_15 (by omega)) (fun c_15 => ?_)
    refine gj_aload_n 19 dX8_note_18 rfl rfl ?_
    refine gj_getfr 22 dX8_note_19 rfl fl_8_41 rfl rfl ?_
    refine gj_iload_n 23 dX8_note_22 rfl rfl ?_
    refine gj_aload_n 24 dX8_note_23 rfl rfl ?_
    refine gj_getfr 27 dX8_note_24 rfl fl_8_41 rfl rfl ?_
    refine gj_iload_n 28 dX8_note_27 rfl rfl ?_
    refine gj_bipush 30 dX8_note_28 rfl (by decide) ?_
    refine gj_iadd 31 dX8_note_30 rfl ?_
    refine gj_iald 32 dX8_note_31 rfl rfl (by omega) (by omega) (fun r_31 => ?_)
    refine gj_iast 33 dX8_note_32 rfl rfl (by omega) (by omega) r_31 ?_
    refine gj_iinc (b := ((k + 1 : Nat) : Int)) (lv' := [_, _]) 36 dX8_note_33 rfl rfl (by omega) (by decide) rfl ?_
    refine gj_goto 11 dX8_note_36 (by decide) ?_
    exact gj_wk (ih (k + 1) (by omega)) ⟨rfl, rfl, trivial⟩

set_option maxRecDepth 100000 in
set_option maxHeartbeats 1000000 in
theorem s8_note {xt : Nat × (Nat → Int)} {M : gj_M} (hd : 0 ≤ M 69 18 ∧ M 69 18 ≤ 14) : gj_F xt Y8_note gS [gR 69] M none (y_nt M) := by
  show gj_G _ Y8_note gS 0 0 0 [_, _] [] M _
  refine gj_aload_n 1 dX8_note_0 rfl rfl ?_
  refine gj_getfi 4 dX8_note_1 rfl fl_8_121 rfl rfl (fun r_1 => ?_)
  refine gj_bipush 6 dX8_note_4 rfl (by decide) ?_
  refine gj_icmp_ne 49 9 dX8_note_6 (by decide) rfl (by omega) (by omega) (fun c_6 => ?_) (fun c_6 => ?_)
  · refine gj_iconst 50 dX8_note_49 rfl ?_
    refine gj_istore_n (lv' := [_, _]) 51 dX8_note_50 rfl (by decide) rfl ?_
    have e1 : y_n1 M = M := if_neg (by omega)
    have h := s8_note_2 (xt := xt) (M := M) (by rw [e1]; omega) 40 0 rfl
    rw [show y_pg (y_n1 M) (y_n1 M 69 18) 0 = M from e1] at h
    exact gj_wk h ⟨rfl, rfl, trivial⟩
  · refine gj_iconst 10 dX8_note_9 rfl ?_
    refine gj_istore_n (lv' := [_, _]) 11 dX8_note_10 rfl (by decide) rfl ?_
    exact gj_wk (s8_note_1 (by omega) 520 0 rfl) ⟨rfl, rfl, trivial⟩

set_option maxRecDepth 100000 in
set_option maxHeartbeats 1000000 in
theorem s8_io_l {xt : Nat × (Nat → Int)} {M : gj_M} {od : Int} (hL : 0 ≤ M 69 5 ∧ M 69 5 ≤ 4) (ho : 0 ≤ od ∧ od ≤ e_pw 10 (M 69 5).toNat - 1) (ho2 : od ≤ 9999) : ∀ (n k : Nat), (k : Int) + n = M 69 5 → gj_G xt Y8_isOrder gS 0 0 27 [some (gR 69), some (gI od), some (gI (y_mt od k)), some (gI (k : Int))] [] M (fun r S2 M2 => S2 = gS ∧ r = some (gI (y_io (M 69 5) od)) ∧ M2 = M) := by
  intro n
  induction n with
  | zero =>
    intro k hk
    have hmi := y_mt_in od k
    have hab := y_all_b hL
    have hpw := e_pw_b (x := 10) (by omega) k (by omega)
    have hpw1 := (e_pw_le (x := 10) (by omega) k (by omega)).2
    have hq0 : 0 ≤ od / e_pw 10 k := Int.ediv_nonneg ho.1 (by omega)
    have hq1 : od / e_pw 10 k ≤ od := Int.ediv_le_self _ ho.1
    refine gj_iload_n 28 dX8_isOrder_27 rfl rfl ?_
    refine gj_aload_n 29 dX8_isOrder_28 rfl rfl ?_
    refine gj_getfi 32 dX8_isOrder_29 rfl fl_8_73 rfl rfl (fun r_29 => ?_)
    refine gj_icmp_ge 57 35 dX8_isOrder_32 (by decide) rfl (by omega) (by omega) (fun c_32 => ?_) (fun c_32 => absurd c_32 (by omega))
    refine gj_iload_n 58 dX8_isOrder_57 rfl rfl ?_
    refine gj_aload_n 59 dX8_isOrder_58 rfl rfl ?_
    refine gj_fV 62 dX8_isOrder_59 rfl ok_8_every ml_8_147 iv_8_every (As := []) rfl rfl rfl rfl (Nat.le_of_ble_eq_true rfl) ⟨Nat.le_of_ble_eq_true rfl, Nat.le_of_ble_eq_true rfl⟩ (Nat.le_of_ble_eq_true rfl) ⟨rfl, rfl⟩ ⟨Nat.zero_le _, Nat.zero_le _⟩ (s8_every) ?_
    refine gj_icmp_ne 69 65 dX8_isOrder_62 (by decide) rfl (by omega) (by omega) (fun c_62 => ?_) (fun c_62 => ?_)
    · refine gj_iconst 70 dX8_isOrder_69 rfl ?_
      refine gj_zret dX8_isOrder_70 rfl (by decide) ⟨Nat.zero_le _, Nat.zero_le _⟩ ?_
      have hk3 : k = (M 69 5).toNat := by omega
      subst hk3
      exact ⟨rfl, by unfold y_io; first | rw [if_pos ⟨ho, by omega⟩] | rw [if_neg (fun q => by have q3 := q.2; omega)], rfl⟩
    · refine gj_iconst 66 dX8_isOrder_65 rfl ?_
      refine gj_goto 70 dX8_isOrder_66 (by decide) ?_
      refine gj_zret dX8_isOrder_70 rfl (by decide) ⟨Nat.zero_le _, Nat.zero_le _⟩ ?_
      have hk3 : k = (M 69 5).toNat := by omega
      subst hk3
      exact ⟨rfl, by unfold y_io; first | rw [if_pos ⟨ho, by omega⟩] | rw [if_neg (fun q => by have q3 := q.2; omega)], rfl⟩
  | succ n ih =>
    intro k hk
    have hmi := y_mt_in od k
    have hab := y_all_b hL
    have hpw := e_pw_b (x := 10) (by omega) k (by omega)
    have hpw1 := (e_pw_le (x := 10) (by omega) k (by omega)).2
    have hq0 : 0 ≤ od / e_pw 10 k := Int.ediv_nonneg ho.1 (by omega)
    have hq1 : od / e_pw 10 k ≤ od := Int.ediv_le_self _ ho.1
    refine gj_iload_n 28 dX8_isOrder_27 rfl rfl ?_
    refine gj_aload_n 29 dX8_isOrder_28 rfl rfl ?_
    refine gj_getfi 32 dX8_isOrder_29 rfl fl_8_73 rfl rfl (fun r_29 => ?_)
    refine gj_icmp_ge 57 35 dX8_isOrder_32 (by decide) rfl (by omega) (by omega) (fun c_32 => absurd c_32 (by omega)) (fun c_32 => ?_)
    have sp := s8_power (xt := xt) (M := M) (x := 10) (N := (k : Int)) (by omega)
    rw [show ((k : Int)).toNat = k by omega] at sp
    refine gj_iload_n 36 dX8_isOrder_35 rfl rfl ?_
    refine gj_iconst 37 dX8_isOrder_36 rfl ?_
    refine gj_iload_n 38 dX8_isOrder_37 rfl rfl ?_
    refine gj_bipush 40 dX8_isOrder_38 rfl (by decide) ?_
    refine gj_iload_n 41 dX8_isOrder_40 rfl rfl ?_
    refine gj_fS 44 dX8_isOrder_41 rfl ok_8_power ml_8_135 is_8_power (As := [gI _, gI _]) rfl rfl (Nat.le_of_ble_eq_true rfl) ⟨Nat.le_of_ble_eq_true rfl, Nat.le_of_ble_eq_true rfl⟩ (Nat.le_of_ble_eq_true rfl) ⟨rfl, rfl⟩ ⟨Nat.zero_le _, Nat.zero_le _⟩ (sp) ?_
    refine gj_idiv 45 dX8_isOrder_44 rfl (by omega) (by omega) ?_
    refine gj_bipush 47 dX8_isOrder_45 rfl (by decide) ?_
    refine gj_irem 48 dX8_isOrder_47 rfl (by omega) (by omega) ?_
    refine gj_ishl 49 dX8_isOrder_48 rfl ?_
    refine gj_ior 50 dX8_isOrder_49 rfl ?_
    refine gj_istore_n (lv' := [_, _, _, _]) 51 dX8_isOrder_50 rfl (by decide) rfl ?_
    refine gj_iinc (b := ((k + 1 : Nat) : Int)) (lv' := [_, _, _, _]) 54 dX8_isOrder_51 rfl rfl (by omega) (by decide) rfl ?_
    refine gj_goto 27 dX8_isOrder_54 (by decide) ?_
    exact gj_wk (ih (k + 1) (by omega)) ⟨rfl, rfl, rfl, rfl, trivial⟩

set_option maxRecDepth 100000 in
set_option maxHeartbeats 1000000 in
theorem s8_io {xt : Nat × (Nat → Int)} {M : gj_M} {od : Int} (hL : 0 ≤ M 69 5 ∧ M 69 5 ≤ 4) (ho : gj_in od) : gj_F xt Y8_isOrder gS [gR 69, gI od] M (some (gI (y_io (M 69 5) od))) M := by
  show gj_G _ Y8_isOrder gS 0 0 0 [_, _, _, _] [] M _
  have hpw := e_pw_b (x := 10) (by omega) (M 69 5).toNat (by omega)
  refine gj_iload_n 1 dX8_isOrder_0 rfl rfl ?_
  refine gj_i2l 2 dX8_isOrder_1 rfl (by omega) ?_
  refine gj_lconst (a := 0) 3 dX8_isOrder_2 rfl rfl ?_
  refine gj_bipush 5 dX8_isOrder_3 rfl (by decide) ?_
  refine gj_aload_n 6 dX8_isOrder_5 rfl rfl ?_
  refine gj_getfi 9 dX8_isOrder_6 rfl fl_8_73 rfl rfl (fun r_6 => ?_)
  refine gj_fS 12 dX8_isOrder_9 rfl ok_8_power ml_8_135 is_8_power (As := [gI _, gI _]) rfl rfl (Nat.le_of_ble_eq_true rfl) ⟨Nat.le_of_ble_eq_true rfl, Nat.le_of_ble_eq_true rfl⟩ (Nat.le_of_ble_eq_true rfl) ⟨rfl, rfl⟩ ⟨Nat.zero_le _, Nat.zero_le _⟩ (s8_power (by omega)) ?_
  refine gj_iconst 13 dX8_isOrder_12 rfl ?_
  refine gj_isub 14 dX8_isOrder_13 rfl ?_
  refine gj_i2l 15 dX8_isOrder_14 rfl (by omega) ?_
  refine gj_fS 18 dX8_isOrder_15 rfl ok_8_in ml_8_76 is_8_in (As := [gL _, gL _, gL _]) rfl rfl (Nat.le_of_ble_eq_true rfl) ⟨Nat.le_of_ble_eq_true rfl, Nat.le_of_ble_eq_true rfl⟩ (Nat.le_of_ble_eq_true rfl) ⟨rfl, rfl⟩ ⟨Nat.zero_le _, Nat.zero_le _⟩ (s8_in (by omega) (by omega) (by omega)) ?_
  have hc := y_in_c od 0 (e_pw 10 (M 69 5).toNat - 1)
  refine gj_if_ne 23 21 dX8_isOrder_18 (by decide) rfl (by omega) (fun c_18 => ?_) (fun c_18 => ?_)
  · refine gj_iconst 24 dX8_isOrder_23 rfl ?_
    refine gj_istore_n (lv' := [_, _, _, _]) 25 dX8_isOrder_24 rfl (by decide) rfl ?_
    refine gj_iconst 26 dX8_isOrder_25 rfl ?_
    refine gj_istore_n (lv' := [_, _, _, _]) 27 dX8_isOrder_26 rfl (by decide) rfl ?_
    exact gj_wk (s8_io_l hL (by omega) (by omega) (M 69 5).toNat 0 (by omega)) ⟨rfl, rfl, rfl, rfl, trivial⟩
  · refine gj_iconst 22 dX8_isOrder_21 rfl ?_
    refine gj_zret dX8_isOrder_22 rfl (by decide) ⟨Nat.zero_le _, Nat.zero_le _⟩ ?_
    exact ⟨rfl, by unfold y_io; rw [if_neg (fun q => by have q1 := q.1; omega)], rfl⟩

set_option maxRecDepth 100000 in
set_option maxHeartbeats 1000000 in
theorem s8_lp_l {xt : Nat × (Nat → Int)} {M : gj_M} {N : Int} (hN : 0 ≤ N ∧ N ≤ 4) : ∀ (n k : Nat), (k : Int) + n = N → gj_G xt Y8_longPower gS 0 0 5 [some (gL 10000), none, some (gI N), some (gL (10000 ^ k)), none, some (gI (k : Int))] [] M (fun r S2 M2 => S2 = gS ∧ r = some (gL (10000 ^ N.toNat)) ∧ M2 = M) := by
  intro n
  induction n with
  | zero =>
    intro k hk
    refine gj_iload 7 dX8_longPower_5 rfl rfl ?_
    refine gj_iload_n 8 dX8_longPower_7 rfl rfl ?_
    refine gj_icmp_ge 21 11 dX8_longPower_8 (by decide) rfl (by omega) (by omega) (fun c_8 => ?_) (fun c_8 => absurd c_8 (by omega))
    refine gj_lload_n 22 dX8_longPower_21 rfl rfl ?_
    refine gj_lret dX8_longPower_22 rfl ⟨Nat.zero_le _, Nat.zero_le _⟩ ?_
    exact ⟨rfl, by rw [show N.toNat = k by omega], rfl⟩
  | succ n ih =>
    intro k hk
    refine gj_iload 7 dX8_longPower_5 rfl rfl ?_
    refine gj_iload_n 8 dX8_longPower_7 rfl rfl ?_
    refine gj_icmp_ge 21 11 dX8_longPower_8 (by decide) rfl (by omega) (by omega) (fun c_8 => absurd c_8 (by omega)) (fun c_8 => ?_)
    refine gj_lload_n 12 dX8_longPower_11 rfl rfl ?_
    refine gj_lload_n 13 dX8_longPower_12 rfl rfl ?_
    refine gj_lmul 14 dX8_longPower_13 rfl ?_
    refine gj_lstore_n (lv' := [_, _, _, _, _, _]) 15 dX8_longPower_14 rfl (by decide) rfl ?_
    refine gj_iinc (b := ((k + 1 : Nat) : Int)) (lv' := [_, _, _, _, _, _]) 18 dX8_longPower_15 rfl rfl (by omega) (by decide) rfl ?_
    refine gj_goto 5 dX8_longPower_18 (by decide) ?_
    rw [e_tp_s]
    exact gj_wk (ih (k + 1) (by omega)) ⟨rfl, rfl, rfl, rfl, trivial⟩

set_option maxRecDepth 100000 in
set_option maxHeartbeats 1000000 in
theorem s8_lp {xt : Nat × (Nat → Int)} {M : gj_M} {N : Int} (hN : 0 ≤ N ∧ N ≤ 4) : gj_F xt Y8_longPower gS [gL 10000, gI N] M (some (gL (10000 ^ N.toNat))) M := by
  show gj_G _ Y8_longPower gS 0 0 0 [_, _, _, _, _, _] [] M _
  refine gj_lconst (a := 1) 1 dX8_longPower_0 rfl rfl ?_
  refine gj_lstore_n (lv' := [_, _, _, _, _, _]) 2 dX8_longPower_1 rfl (by decide) rfl ?_
  refine gj_iconst 3 dX8_longPower_2 rfl ?_
  refine gj_istore (lv' := [_, _, _, _, _, _]) 5 dX8_longPower_3 rfl (by decide) rfl ?_
  exact gj_wk (s8_lp_l hN N.toNat 0 (by omega)) ⟨rfl, rfl, rfl, rfl, trivial⟩

set_option maxRecDepth 100000 in
set_option maxHeartbeats 1000000 in
theorem s8_gd_l {xt : Nat × (Nat → Int)} {M : gj_M}  : ∀ (n : Nat) (p q : Int), 0 ≤ p ∧ p ≤ 2147483647 → 0 ≤ q ∧ q ≤ n → q ≤ 2147483647 → gj_G xt Y8_divisor gS 0 0 13 [none, none, some (gI p), some (gI q), none] [] M (fun r S2 M2 => S2 = gS ∧ r = some (gI (y_gd n p q)) ∧ M2 = M) := by
  intro n
  induction n with
  | zero =>
    intro p q hp hq hq2
    refine gj_iload_n 14 dX8_divisor_13 rfl rfl ?_
    refine gj_if_eq 30 17 dX8_divisor_14 (by decide) rfl (by omega) (fun c_14 => ?_) (fun c_14 => absurd c_14 (by omega))
    refine gj_iload_n 31 dX8_divisor_30 rfl rfl ?_
    refine gj_iret dX8_divisor_31 rfl ⟨Nat.zero_le _, Nat.zero_le _⟩ ?_
    exact ⟨rfl, rfl, rfl⟩
  | succ n ih =>
    intro p q hp hq hq2
    refine gj_iload_n 14 dX8_divisor_13 rfl rfl ?_
    refine gj_if_eq 30 17 dX8_divisor_14 (by decide) rfl (by omega) (fun c_14 => ?_) (fun c_14 => ?_)
    · refine gj_iload_n 31 dX8_divisor_30 rfl rfl ?_
      refine gj_iret dX8_divisor_31 rfl ⟨Nat.zero_le _, Nat.zero_le _⟩ ?_
      exact ⟨rfl, by rw [show y_gd (n + 1) p q = p from if_pos (by omega)], rfl⟩
    · have g1 := Int.emod_nonneg p (show q ≠ 0 by omega)
      have g2 := Int.emod_lt_of_pos p (show 0 < q by omega)
      refine gj_iload_n 18 dX8_divisor_17 rfl rfl ?_
      refine gj_iload_n 19 dX8_divisor_18 rfl rfl ?_
      refine gj_irem 20 dX8_divisor_19 rfl (by omega) (by omega) ?_
      refine gj_istore (lv' := [_, _, _, _, _]) 22 dX8_divisor_20 rfl (by decide) rfl ?_
      refine gj_iload_n 23 dX8_divisor_22 rfl rfl ?_
      refine gj_istore_n (lv' := [_, _, _, _, _]) 24 dX8_divisor_23 rfl (by decide) rfl ?_
      refine gj_iload 26 dX8_divisor_24 rfl rfl ?_
      refine gj_istore_n (lv' := [_, _, _, _, _]) 27 dX8_divisor_26 rfl (by decide) rfl ?_
      refine gj_goto 13 dX8_divisor_27 (by decide) ?_
      have e : y_gd (n + 1) p q = y_gd n q (p % q) := if_neg (by omega)
      rw [e]
      exact gj_wk (ih q (p % q) (by omega) (by omega) (by omega)) ⟨rfl, rfl, trivial⟩

set_option maxRecDepth 100000 in
set_option maxHeartbeats 1000000 in
theorem s8_gd {xt : Nat × (Nat → Int)} {M : gj_M} {a b : Int} (ha : 0 ≤ a ∧ a ≤ 2147483647) (hb : 0 ≤ b ∧ b ≤ 2147483647) : gj_F xt Y8_divisor gS [gI a, gI b] M (some (gI (y_gd b.toNat a b))) M := by
  show gj_G _ Y8_divisor gS 0 0 0 [_, _, _, _, _] [] M _
  refine gj_iload_n 1 dX8_divisor_0 rfl rfl ?_
  refine gj_if_ge 9 4 dX8_divisor_1 (by decide) rfl (by omega) (fun c_1 => ?_) (fun c_1 => absurd c_1 (by omega))
  refine gj_iload_n 10 dX8_divisor_9 rfl rfl ?_
  refine gj_istore_n (lv' := [_, _, _, _, _]) 11 dX8_divisor_10 rfl (by decide) rfl ?_
  refine gj_iload_n 12 dX8_divisor_11 rfl rfl ?_
  refine gj_istore_n (lv' := [_, _, _, _, _]) 13 dX8_divisor_12 rfl (by decide) rfl ?_
  exact gj_wk (s8_gd_l b.toNat a b ha (by omega) (by omega)) ⟨rfl, rfl, trivial⟩

set_option maxRecDepth 100000 in
set_option maxHeartbeats 1000000 in
theorem s8_frac {xt : Nat × (Nat → Int)} {M : gj_M} {a b u : Int} (ha : 0 ≤ a ∧ a ≤ 2147483647) (hb : 1 ≤ b ∧ b ≤ 2147483647) (hu : gj_in u) (hg : 1 ≤ y_gd b.toNat a b ∧ y_gd b.toNat a b ≤ 2147483647) : gj_F xt Y8_fraction gS [gI a, gI b, gI u] M (some (gI (if u = 0 then b / y_gd b.toNat a b else a / y_gd b.toNat a b))) M := by
  show gj_G _ Y8_fraction gS 0 0 0 [_, _, _, _] [] M _
  refine gj_iload_n 1 dX8_fraction_0 rfl rfl ?_
  refine gj_iload_n 2 dX8_fraction_1 rfl rfl ?_
  refine gj_fS 5 dX8_fraction_2 rfl ok_8_divisor ml_8_222 is_8_divisor (As := [gI _, gI _]) rfl rfl (Nat.le_of_ble_eq_true rfl) ⟨Nat.le_of_ble_eq_true rfl, Nat.le_of_ble_eq_true rfl⟩ (Nat.le_of_ble_eq_true rfl) ⟨rfl, rfl⟩ ⟨Nat.zero_le _, Nat.zero_le _⟩ (s8_gd ha (by omega)) ?_
  refine gj_istore_n (lv' := [_, _, _, _]) 6 dX8_fraction_5 rfl (by decide) rfl ?_
  refine gj_iload_n 7 dX8_fraction_6 rfl rfl ?_
  refine gj_if_eq 16 10 dX8_fraction_7 (by decide) rfl (by omega) (fun c_7 => ?_) (fun c_7 => ?_)
  · refine gj_iload_n 17 dX8_fraction_16 rfl rfl ?_
    refine gj_iload_n 18 dX8_fraction_17 rfl rfl ?_
    refine gj_idiv 19 dX8_fraction_18 rfl (by omega) (by omega) ?_
    refine gj_iret dX8_fraction_19 rfl ⟨Nat.zero_le _, Nat.zero_le _⟩ ?_
    exact ⟨rfl, by first | rw [if_pos (by omega)] | rw [if_neg (by omega)], rfl⟩
  · refine gj_iload_n 11 dX8_fraction_10 rfl rfl ?_
    refine gj_iload_n 12 dX8_fraction_11 rfl rfl ?_
    refine gj_idiv 13 dX8_fraction_12 rfl (by omega) (by omega) ?_
    refine gj_goto 19 dX8_fraction_13 (by decide) ?_
    refine gj_iret dX8_fraction_19 rfl ⟨Nat.zero_le _, Nat.zero_le _⟩ ?_
    exact ⟨rfl, by first | rw [if_pos (by omega)] | rw [if_neg (by omega)], rfl⟩

set_option maxRecDepth 100000 in
set_option maxHeartbeats 1000000 in
theorem s8_fc_l {xt : Nat × (Nat → Int)} {M : gj_M} {N : Int} (hN : 0 ≤ N ∧ N ≤ 4) : ∀ (n k : Nat), ((k : Int) + 1 + n = N ∨ (N = 0 ∧ k = 0 ∧ n = 0)) → gj_G xt Y8_factorial gS 0 0 4 [some (gI N), some (gI (y_fc (k + 1))), some (gI ((k : Int) + 2))] [] M (fun r S2 M2 => S2 = gS ∧ r = some (gI (y_fc N.toNat)) ∧ M2 = M) := by
  intro n
  induction n with
  | zero =>
    intro k hk
    refine gj_iload_n 5 dX8_factorial_4 rfl rfl ?_
    refine gj_iload_n 6 dX8_factorial_5 rfl rfl ?_
    refine gj_icmp_gt 19 9 dX8_factorial_6 (by decide) rfl (by omega) (by omega) (fun c_6 => ?_) (fun c_6 => absurd c_6 (by omega))
    refine gj_iload_n 20 dX8_factorial_19 rfl rfl ?_
    refine gj_iret dX8_factorial_20 rfl ⟨Nat.zero_le _, Nat.zero_le _⟩ ?_
    refine ⟨rfl, ?_, rfl⟩
    have h2 : N.toNat = k + 1 ∨ (N.toNat = 0 ∧ k = 0) := by omega
    rcases h2 with h | h
    · rw [h]
    · rw [h.1, h.2]; rfl
  | succ n ih =>
    intro k hk
    refine gj_iload_n 5 dX8_factorial_4 rfl rfl ?_
    refine gj_iload_n 6 dX8_factorial_5 rfl rfl ?_
    refine gj_icmp_gt 19 9 dX8_factorial_6 (by decide) rfl (by omega) (by omega) (fun c_6 => absurd c_6 (by omega)) (fun c_6 => ?_)
    refine gj_iload_n 10 dX8_factorial_9 rfl rfl ?_
    refine gj_iload_n 11 dX8_factorial_10 rfl rfl ?_
    refine gj_imul 12 dX8_factorial_11 rfl ?_
    refine gj_istore_n (lv' := [_, _, _]) 13 dX8_factorial_12 rfl (by decide) rfl ?_
    refine gj_iinc (b := (((k + 1 : Nat) : Int) + 2)) (lv' := [_, _, _]) 16 dX8_factorial_13 rfl rfl (by omega) (by decide) rfl ?_
    refine gj_goto 4 dX8_factorial_16 (by decide) ?_
    have e : y_fc (k + 1) * ((k : Int) + 2) = y_fc (k + 1 + 1) := by show _ = y_fc (k + 1) * (((k + 1 : Nat) : Int) + 1); congr 1
    rw [e]
    exact gj_wk (ih (k + 1) (by omega)) ⟨rfl, rfl, rfl, trivial⟩

set_option maxRecDepth 100000 in
set_option maxHeartbeats 1000000 in
theorem s8_fc {xt : Nat × (Nat → Int)} {M : gj_M} {N : Int} (hN : 0 ≤ N ∧ N ≤ 4) : gj_F xt Y8_factorial gS [gI N] M (some (gI (y_fc N.toNat))) M := by
  show gj_G _ Y8_factorial gS 0 0 0 [_, _, _] [] M _
  refine gj_iconst 1 dX8_factorial_0 rfl ?_
  refine gj_istore_n (lv' := [_, _, _]) 2 dX8_factorial_1 rfl (by decide) rfl ?_
  refine gj_iconst 3 dX8_factorial_2 rfl ?_
  refine gj_istore_n (lv' := [_, _, _]) 4 dX8_factorial_3 rfl (by decide) rfl ?_
  exact gj_wk (s8_fc_l hN (N - 1).toNat 0 (by omega)) ⟨rfl, rfl, rfl, trivial⟩

set_option maxRecDepth 100000 in
set_option maxHeartbeats 1000000 in
theorem s8_cov_i {xt : Nat × (Nat → Int)} {M : gj_M} (hI : y_I M 78) {s acc : Int} {Q : Option gj_V → List gj_H → gj_M → Prop} (f : Nat) (hf : f < 24) (kk : gj_G xt Y8_coveredBy gS 0 0 53 [some (gR 69), some (gI s), some (gI (acc + p_sum (fun c : Nat => if y_look M 78 f c s (-9) = -9 then (0 : Int) else 1) 10)), some (gI (f : Int)), some (gI ((10 : Nat) : Int))] [] M Q) : ∀ (n k : Nat), k + n = 10 → gj_G xt Y8_coveredBy gS 0 0 13 [some (gR 69), some (gI s), some (gI (acc + p_sum (fun c : Nat => if y_look M 78 f c s (-9) = -9 then (0 : Int) else 1) k)), some (gI (f : Int)), some (gI ((k : Nat) : Int))] [] M Q := by
  intro n
  induction n with
  | zero =>
    intro k hk
    refine gj_iload 15 dX8_coveredBy_13 rfl rfl ?_
    refine gj_bipush 17 dX8_coveredBy_15 rfl (by decide) ?_
    refine gj_icmp_ge 53 20 dX8_coveredBy_17 (by decide) rfl (by omega) (by omega) (fun c_17 => ?_) (fun c_17 => absurd c_17 (by omega))
    have hk3 : k = 10 := by omega
    subst hk3
    exact kk
  | succ n ih =>
    intro k hk
    refine gj_iload 15 dX8_coveredBy_13 rfl rfl ?_
    refine gj_bipush 17 dX8_coveredBy_15 rfl (by decide) ?_
    refine gj_icmp_ge 53 20 dX8_coveredBy_17 (by decide) rfl (by omega) (by omega) (fun c_17 => absurd c_17 (by omega)) (fun c_17 => ?_)
    have hb := y_look_b hI f k s (-9)
    refine gj_iload_n 21 dX8_coveredBy_20 rfl rfl ?_
    refine gj_aload_n 22 dX8_coveredBy_21 rfl rfl ?_
    refine gj_aload_n 23 dX8_coveredBy_22 rfl rfl ?_
    refine gj_getfr 26 dX8_coveredBy_23 rfl fl_8_35 rfl rfl ?_
    refine gj_iload_n 27 dX8_coveredBy_26 rfl rfl ?_
    refine gj_iload 29 dX8_coveredBy_27 rfl rfl ?_
    refine gj_iload_n 30 dX8_coveredBy_29 rfl rfl ?_
    refine gj_bipush 32 dX8_coveredBy_30 rfl (by decide) ?_
    refine gj_fV 35 dX8_coveredBy_32 rfl ok_8_lookBy ml_8_150 iv_8_lookBy (As := [gR _, gI _, gI _, gI _, gI _]) rfl rfl rfl rfl (Nat.le_of_ble_eq_true rfl) ⟨Nat.le_of_ble_eq_true rfl, Nat.le_of_ble_eq_true rfl⟩ (Nat.le_of_ble_eq_true rfl) ⟨rfl, rfl⟩ ⟨Nat.zero_le _, Nat.zero_le _⟩ (s8_look rfl hI (by omega) (by omega) (by omega)) ?_
    refine gj_bipush 37 dX8_coveredBy_35 rfl (by decide) ?_
    refine gj_icmp_eq 44 40 dX8_coveredBy_37 (by decide) rfl (by omega) (by omega) (fun c_37 => ?_) (fun c_37 => ?_)
    · refine gj_iconst 45 dX8_coveredBy_44 rfl ?_
      refine gj_iadd 46 dX8_coveredBy_45 rfl ?_
      refine gj_istore_n (lv' := [_, _, _, _, _]) 47 dX8_coveredBy_46 rfl (by decide) rfl ?_
      refine gj_iinc (b := ((k + 1 : Nat) : Int)) (lv' := [_, _, _, _, _]) 50 dX8_coveredBy_47 rfl rfl (by omega) (by decide) rfl ?_
      refine gj_goto 13 dX8_coveredBy_50 (by decide) ?_
      have h := ih (k + 1) (by omega)
      first
      | (rw [show p_sum (fun c : Nat => if y_look M 78 f c s (-9) = -9 then (0 : Int) else 1) (k + 1) = p_sum (fun c : Nat => if y_look M 78 f c s (-9) = -9 then (0 : Int) else 1) k + 1 by show p_sum (fun c : Nat => if y_look M 78 f c s (-9) = -9 then (0 : Int) else 1) k + (if y_look M 78 f k s (-9) = -9 then (0 : Int) else 1) = _; first | rw [if_pos (by omega)] | rw [if_neg (by omega)], ← Int.add_assoc] at h; exact gj_wk h ⟨rfl, rfl, rfl, rfl, rfl, trivial⟩)
      | (rw [show p_sum (fun c : Nat => if y_look M 78 f c s (-9) = -9 then (0 : Int) else 1) (k + 1) = p_sum (fun c : Nat => if y_look M 78 f c s (-9) = -9 then (0 : Int) else 1) k + 0 by show p_sum (fun c : Nat => if y_look M 78 f c s (-9) = -9 then (0 : Int) else 1) k + (if y_look M 78 f k s (-9) = -9 then (0 : Int) else 1) = _; first | rw [if_pos (by omega)] | rw [if_neg (by omega)], ← Int.add_assoc] at h; exact gj_wk h ⟨rfl, rfl, rfl, rfl, rfl, trivial⟩)
    · refine gj_iconst 41 dX8_coveredBy_40 rfl ?_
      refine gj_goto 45 dX8_coveredBy_41 (by decide) ?_
      refine gj_iadd 46 dX8_coveredBy_45 rfl ?_
      refine gj_istore_n (lv' := [_, _, _, _, _]) 47 dX8_coveredBy_46 rfl (by decide) rfl ?_
      refine gj_iinc (b := ((k + 1 : Nat) : Int)) (lv' := [_, _, _, _, _]) 50 dX8_coveredBy_47 rfl rfl (by omega) (by decide) rfl ?_
      refine gj_goto 13 dX8_coveredBy_50 (by decide) ?_
      have h := ih (k + 1) (by omega)
      first
      | (rw [show p_sum (fun c : Nat => if y_look M 78 f c s (-9) = -9 then (0 : Int) else 1) (k + 1) = p_sum (fun c : Nat => if y_look M 78 f c s (-9) = -9 then (0 : Int) else 1) k + 1 by show p_sum (fun c : Nat => if y_look M 78 f c s (-9) = -9 then (0 : Int) else 1) k + (if y_look M 78 f k s (-9) = -9 then (0 : Int) else 1) = _; first | rw [if_pos (by omega)] | rw [if_neg (by omega)], ← Int.add_assoc] at h; exact gj_wk h ⟨rfl, rfl, rfl, rfl, rfl, trivial⟩)
      | (rw [show p_sum (fun c : Nat => if y_look M 78 f c s (-9) = -9 then (0 : Int) else 1) (k + 1) = p_sum (fun c : Nat => if y_look M 78 f c s (-9) = -9 then (0 : Int) else 1) k + 0 by show p_sum (fun c : Nat => if y_look M 78 f c s (-9) = -9 then (0 : Int) else 1) k + (if y_look M 78 f k s (-9) = -9 then (0 : Int) else 1) = _; first | rw [if_pos (by omega)] | rw [if_neg (by omega)], ← Int.add_assoc] at h; exact gj_wk h ⟨rfl, rfl, rfl, rfl, rfl, trivial⟩)

set_option maxRecDepth 100000 in
set_option maxHeartbeats 1000000 in
theorem s8_cov_o {xt : Nat × (Nat → Int)} {M : gj_M} (hI : y_I M 78) {s : Int} : ∀ (n k : Nat), k + n = 24 → gj_G xt Y8_coveredBy gS 0 0 4 [some (gR 69), some (gI s), some (gI (p_sum (fun f : Nat => p_sum (fun c : Nat => if y_look M 78 f c s (-9) = -9 then (0 : Int) else 1) 10) k)), some (gI (k : Int)), none] [] M (fun rv S2 M2 => S2 = gS ∧ rv = some (gI (y_cov M s)) ∧ M2 = M) := by
  intro n
  induction n with
  | zero =>
    intro k hk
    refine gj_iload_n 5 dX8_coveredBy_4 rfl rfl ?_
    refine gj_bipush 7 dX8_coveredBy_5 rfl (by decide) ?_
    refine gj_icmp_ge 59 10 dX8_coveredBy_7 (by decide) rfl (by omega) (by omega) (fun c_7 => ?_) (fun c_7 => absurd c_7 (by omega))
    refine gj_iload_n 60 dX8_coveredBy_59 rfl rfl ?_
    refine gj_iret dX8_coveredBy_60 rfl ⟨Nat.zero_le _, Nat.zero_le _⟩ ?_
    have hk3 : k = 24 := by omega
    subst hk3
    exact ⟨rfl, rfl, rfl⟩
  | succ n ih =>
    intro k hk
    refine gj_iload_n 5 dX8_coveredBy_4 rfl rfl ?_
    refine gj_bipush 7 dX8_coveredBy_5 rfl (by decide) ?_
    refine gj_icmp_ge 59 10 dX8_coveredBy_7 (by decide) rfl (by omega) (by omega) (fun c_7 => absurd c_7 (by omega)) (fun c_7 => ?_)
    refine gj_iconst 11 dX8_coveredBy_10 rfl ?_
    refine gj_istore (lv' := [_, _, _, _, _]) 13 dX8_coveredBy_11 rfl (by decide) rfl ?_
    refine gj_wk (lv' := [some (gR 69), some (gI s), some (gI (p_sum (fun f : Nat => p_sum (fun c : Nat => if y_look M 78 f c s (-9) = -9 then (0 : Int) else 1) 10) k + p_sum (fun c : Nat => if y_look M 78 k c s (-9) = -9 then (0 : Int) else 1) 0)), some (gI (k : Int)), some (gI ((0 : Nat) : Int))]) (s8_cov_i hI k (by omega) ?_ 10 0 rfl) ⟨rfl, rfl, by simp [p_sum], rfl, rfl, trivial⟩
    refine gj_iinc (b := ((k + 1 : Nat) : Int)) (lv' := [_, _, _, _, _]) 56 dX8_coveredBy_53 rfl rfl (by omega) (by decide) rfl ?_
    refine gj_goto 4 dX8_coveredBy_56 (by decide) ?_
    exact gj_wk (ih (k + 1) (by omega)) ⟨rfl, rfl, rfl, rfl, trivial⟩

set_option maxRecDepth 100000 in
set_option maxHeartbeats 1000000 in
theorem s8_cov {xt : Nat × (Nat → Int)} {M : gj_M} (hI : y_I M 78) {s : Int} : gj_F xt Y8_coveredBy gS [gR 69, gI s] M (some (gI (y_cov M s))) M := by
  show gj_G _ Y8_coveredBy gS 0 0 0 [_, _, _, _, _] [] M _
  refine gj_iconst 1 dX8_coveredBy_0 rfl ?_
  refine gj_istore_n (lv' := [_, _, _, _, _]) 2 dX8_coveredBy_1 rfl (by decide) rfl ?_
  refine gj_iconst 3 dX8_coveredBy_2 rfl ?_
  refine gj_istore_n (lv' := [_, _, _, _, _]) 4 dX8_coveredBy_3 rfl (by decide) rfl ?_
  exact gj_wk (s8_cov_o hI 24 0 rfl) ⟨rfl, rfl, rfl, rfl, trivial⟩
