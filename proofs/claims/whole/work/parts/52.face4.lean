set_option maxRecDepth 100000 in
set_option maxHeartbeats 4000000 in
theorem s7_judge {xt : Nat × (Nat → Int)} {M : gj_M} (hI : c_I M) {nn row : Int} (hn : gj_in nn) (hrow : gj_in6 row) : gj_T xt Y7_judge gS [gR 0, gI nn, gL row] M (fun r M2 => r = some (gI (x_judge M nn row)) ∧ gj_E [33, 34, 41, 42, 43, 44, 45, 46, 47, 48, 49] M M2) := by
  show gj_G _ Y7_judge gS 0 0 0 [_, _, _, _, _, _, _] [] M _
  refine gj_iload_n 1 dX7_judge_0 rfl rfl ?_
  refine gj_iconst 2 dX7_judge_1 rfl ?_
  refine gj_icmp_lt 16 5 dX7_judge_2 (by decide) rfl (by omega) (by omega) (fun c_2 => ?_) (fun c_2 => ?_)
  · refine gj_bipush 18 dX7_judge_16 rfl (by decide) ?_
    refine gj_iret dX7_judge_18 rfl ⟨Nat.zero_le _, Nat.zero_le _⟩ ?_
    exact ⟨rfl, by unfold x_judge; rw [if_pos (by first | omega | (split at c_13 <;> omega))], gj_E.rf⟩
  · refine gj_iload_n 6 dX7_judge_5 rfl rfl ?_
    refine gj_iconst 7 dX7_judge_6 rfl ?_
    refine gj_icmp_gt 16 10 dX7_judge_7 (by decide) rfl (by omega) (by omega) (fun c_7 => ?_) (fun c_7 => ?_)
    · refine gj_bipush 18 dX7_judge_16 rfl (by decide) ?_
      refine gj_iret dX7_judge_18 rfl ⟨Nat.zero_le _, Nat.zero_le _⟩ ?_
      exact ⟨rfl, by unfold x_judge; rw [if_pos (by first | omega | (split at c_13 <;> omega))], gj_E.rf⟩
    · refine gj_lload_n 11 dX7_judge_10 rfl rfl ?_
      refine gj_lconst (a := 0) 12 dX7_judge_11 rfl rfl ?_
      refine gj_lcmp 13 dX7_judge_12 rfl (by omega) (by omega) ?_
      refine gj_if_ge 19 16 dX7_judge_13 (by decide) rfl (by split <;> (try split) <;> decide) (fun c_13 => ?_) (fun c_13 => ?_)
      · refine gj_lconst (a := 1) 20 dX7_judge_19 rfl rfl ?_
        refine gj_lstore (lv' := [_, _, _, _, _, _, _]) 22 dX7_judge_20 rfl (by decide) rfl ?_
        refine gj_iconst 23 dX7_judge_22 rfl ?_
        refine gj_istore (lv' := [_, _, _, _, _, _, _]) 25 dX7_judge_23 rfl (by decide) rfl ?_
        refine gj_rg (fun hR => ?_)
        exact gj_wk (s7_judge_l hI (by omega) (by split at c_13 <;> omega) hR nn.toNat 0 (by omega)) ⟨rfl, rfl, rfl, rfl, rfl, trivial⟩
      · refine gj_bipush 18 dX7_judge_16 rfl (by decide) ?_
        refine gj_iret dX7_judge_18 rfl ⟨Nat.zero_le _, Nat.zero_le _⟩ ?_
        exact ⟨rfl, by unfold x_judge; rw [if_pos (by first | omega | (split at c_13 <;> omega))], gj_E.rf⟩

set_option maxRecDepth 100000 in
set_option maxHeartbeats 4000000 in
theorem s7_ask {xt : Nat × (Nat → Int)} {M : gj_M} (hI : c_I M) {w : Int} (hw : gj_in w) : gj_T xt Y7_ask gS [gR 0, gI w] M (fun r M2 => r = some (gI (x_ask M w)) ∧ gj_E [32, 33, 34] M M2) := by
  show gj_G _ Y7_ask gS 0 0 0 [_, _] [] M _
  refine gj_iload_n 1 dX7_ask_0 rfl rfl ?_
  by_cases h0 : w = 0
  · refine gj_look (off := 27) 28 dX7_ask_1 hw rfl (by rw [h0]; rfl) (by decide) ?_
    refine gj_aload_n 29 dX7_ask_28 rfl rfl ?_
    refine gj_getfr 32 dX7_ask_29 rfl fl_7_23 rfl rfl ?_
    refine gj_callV 35 dX7_ask_32 rfl ok_3_changes ml_7_199 iv_3_changes (As := []) rfl rfl rfl rfl (Nat.le_of_ble_eq_true rfl) ⟨Nat.le_of_ble_eq_true rfl, Nat.le_of_ble_eq_true rfl⟩ (Nat.le_of_ble_eq_true rfl) ⟨rfl, rfl⟩ ⟨Nat.zero_le _, Nat.zero_le _⟩ (s3_changes hI) (fun r_32 M_32 q_32 => ?_)
    obtain ⟨rfl, hE⟩ := q_32
    show gj_G _ _ gS 0 0 35 _ [gI (c_chg M 47)] M_32 _
    refine gj_iret dX7_ask_35 rfl ⟨Nat.zero_le _, Nat.zero_le _⟩ ?_
    exact ⟨rfl, by unfold x_ask; rw [if_pos h0], hE.mono (by decide)⟩
  · by_cases h1 : w = 1
    · refine gj_look (off := 35) 36 dX7_ask_1 hw rfl (by rw [h1]; rfl) (by decide) ?_
      refine gj_aload_n 37 dX7_ask_36 rfl rfl ?_
      refine gj_getfr 40 dX7_ask_37 rfl fl_7_23 rfl rfl ?_
      refine gj_callV 43 dX7_ask_40 rfl ok_3_cels ml_7_203 iv_3_cels (As := []) rfl rfl rfl rfl (Nat.le_of_ble_eq_true rfl) ⟨Nat.le_of_ble_eq_true rfl, Nat.le_of_ble_eq_true rfl⟩ (Nat.le_of_ble_eq_true rfl) ⟨rfl, rfl⟩ ⟨Nat.zero_le _, Nat.zero_le _⟩ (s3_cels hI) (fun r_40 M_40 q_40 => ?_)
      obtain ⟨rfl, hE⟩ := q_40
      show gj_G _ _ gS 0 0 43 _ [gI (c_cels M)] M_40 _
      refine gj_iret dX7_ask_43 rfl ⟨Nat.zero_le _, Nat.zero_le _⟩ ?_
      exact ⟨rfl, by unfold x_ask; rw [if_neg h0, if_pos h1], hE.mono (by decide)⟩
    · refine gj_look (off := 43) 44 dX7_ask_1 hw rfl (by
        rw [Op.lookupswitch.offset_cons, if_neg (fun z => h0 z.symm), Op.lookupswitch.offset_cons, if_neg (fun z => h1 z.symm)]
        rfl) (by decide) ?_
      refine gj_bipush 46 dX7_ask_44 rfl (by decide) ?_
      refine gj_iret dX7_ask_46 rfl ⟨Nat.zero_le _, Nat.zero_le _⟩ ?_
      exact ⟨rfl, by unfold x_ask; rw [if_neg h0, if_neg h1], gj_E.rf⟩
