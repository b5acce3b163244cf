set_option maxRecDepth 100000 in
set_option maxHeartbeats 1000000 in
theorem s2_clear {xt : Nat × (Nat → Int)} {M : gj_M}  : gj_F xt Y2_clear gS [gR 3] M none (r_cl M) := by
  show gj_G _ Y2_clear gS 0 0 0 [_] [] M _
  refine gj_aload_n 1 dX2_clear_0 rfl rfl ?_
  refine gj_iconst 2 dX2_clear_1 rfl ?_
  refine gj_putfi 5 dX2_clear_2 rfl fw_2_24 rfl rfl (by omega) ?_
  refine gj_aload_n 6 dX2_clear_5 rfl rfl ?_
  refine gj_iconst 7 dX2_clear_6 rfl ?_
  refine gj_putfi 10 dX2_clear_7 rfl fw_2_28 rfl rfl (by omega) ?_
  refine gj_vret dX2_clear_10 rfl ⟨Nat.zero_le _, Nat.zero_le _⟩ ?_
  exact ⟨rfl, rfl, rfl⟩

set_option maxRecDepth 100000 in
set_option maxHeartbeats 1000000 in
theorem s2_addDrawing {xt : Nat × (Nat → Int)} {M : gj_M} {x w : Int} (hI : r_I M) (hx : gj_in x) (hw : gj_in w) : gj_F xt Y2_addDrawing gS [gR 3, gI x, gI w] M none (r_ad M x w) := by
  show gj_G _ Y2_addDrawing gS 0 0 0 [_, _, _] [] M _
  have i1 := hI.1
  have i2 := hI.2.1
  have i3 := hI.2.2.1
  have i4 := hI.2.2.2.1
  refine gj_aload_n 1 dX2_addDrawing_0 rfl rfl ?_
  refine gj_getfi 4 dX2_addDrawing_1 rfl fl_2_24 rfl rfl (fun r_1 => ?_)
  refine gj_bipush 6 dX2_addDrawing_4 rfl (by decide) ?_
  refine gj_icmp_ge 39 9 dX2_addDrawing_6 (by decide) rfl (by omega) (by omega) (fun c_6 => ?_) (fun c_6 => ?_)
  · refine gj_vret dX2_addDrawing_39 rfl ⟨Nat.zero_le _, Nat.zero_le _⟩ ?_
    exact ⟨rfl, rfl, by (unfold r_ad; (repeat (first | rw [if_pos (by omega)] | rw [if_neg (by omega)])); try rfl)⟩
  · refine gj_aload_n 10 dX2_addDrawing_9 rfl rfl ?_
    refine gj_getfr 13 dX2_addDrawing_10 rfl fl_2_9 rfl rfl ?_
    refine gj_aload_n 14 dX2_addDrawing_13 rfl rfl ?_
    refine gj_getfiE (M 3 0) 17 dX2_addDrawing_14 rfl fl_2_24 rfl rfl rfl (fun r_14 => ?_)
    refine gj_iload_n 18 dX2_addDrawing_17 rfl rfl ?_
    refine gj_iast 19 dX2_addDrawing_18 rfl rfl (by omega) (by omega) (by omega) ?_
    refine gj_aload_n 20 dX2_addDrawing_19 rfl rfl ?_
    refine gj_getfr 23 dX2_addDrawing_20 rfl fl_2_15 rfl rfl ?_
    refine gj_aload_n 24 dX2_addDrawing_23 rfl rfl ?_
    refine gj_getfiE (M 3 0) 27 dX2_addDrawing_24 rfl fl_2_24 rfl rfl rfl (fun r_24 => ?_)
    refine gj_iload_n 28 dX2_addDrawing_27 rfl rfl ?_
    refine gj_iast 29 dX2_addDrawing_28 rfl rfl (by omega) (by omega) (by omega) ?_
    refine gj_aload_n 30 dX2_addDrawing_29 rfl rfl ?_
    refine gj_dup 31 dX2_addDrawing_30 rfl (fun _ => rfl) ?_
    refine gj_getfiE (M 3 0) 34 dX2_addDrawing_31 rfl fl_2_24 rfl rfl rfl (fun r_31 => ?_)
    refine gj_iconst 35 dX2_addDrawing_34 rfl ?_
    refine gj_iadd 36 dX2_addDrawing_35 rfl ?_
    refine gj_putfi 39 dX2_addDrawing_36 rfl fw_2_24 rfl rfl (by omega) ?_
    refine gj_vret dX2_addDrawing_39 rfl ⟨Nat.zero_le _, Nat.zero_le _⟩ ?_
    exact ⟨rfl, rfl, by (unfold r_ad; (repeat (first | rw [if_pos (by omega)] | rw [if_neg (by omega)])); try rfl)⟩

set_option maxRecDepth 100000 in
set_option maxHeartbeats 1000000 in
theorem s2_addLevel {xt : Nat × (Nat → Int)} {M : gj_M} (hI : r_I M) : gj_F xt Y2_addLevel gS [gR 3] M none (r_al M) := by
  show gj_G _ Y2_addLevel gS 0 0 0 [_] [] M _
  have i1 := hI.1
  have i2 := hI.2.1
  have i3 := hI.2.2.1
  have i4 := hI.2.2.2.1
  refine gj_aload_n 1 dX2_addLevel_0 rfl rfl ?_
  refine gj_getfi 4 dX2_addLevel_1 rfl fl_2_28 rfl rfl (fun r_1 => ?_)
  refine gj_iconst 5 dX2_addLevel_4 rfl ?_
  refine gj_icmp_ge 28 8 dX2_addLevel_5 (by decide) rfl (by omega) (by omega) (fun c_5 => ?_) (fun c_5 => ?_)
  · refine gj_vret dX2_addLevel_28 rfl ⟨Nat.zero_le _, Nat.zero_le _⟩ ?_
    exact ⟨rfl, rfl, by (unfold r_al; (repeat (first | rw [if_pos (by omega)] | rw [if_neg (by omega)])); try rfl)⟩
  · refine gj_aload_n 9 dX2_addLevel_8 rfl rfl ?_
    refine gj_getfr 12 dX2_addLevel_9 rfl fl_2_18 rfl rfl ?_
    refine gj_aload_n 13 dX2_addLevel_12 rfl rfl ?_
    refine gj_getfiE (M 3 1) 16 dX2_addLevel_13 rfl fl_2_28 rfl rfl rfl (fun r_13 => ?_)
    refine gj_iconst 17 dX2_addLevel_16 rfl ?_
    refine gj_iast 18 dX2_addLevel_17 rfl rfl (by omega) (by omega) (by omega) ?_
    refine gj_aload_n 19 dX2_addLevel_18 rfl rfl ?_
    refine gj_dup 20 dX2_addLevel_19 rfl (fun _ => rfl) ?_
    refine gj_getfiE (M 3 1) 23 dX2_addLevel_20 rfl fl_2_28 rfl rfl rfl (fun r_20 => ?_)
    refine gj_iconst 24 dX2_addLevel_23 rfl ?_
    refine gj_iadd 25 dX2_addLevel_24 rfl ?_
    refine gj_putfi 28 dX2_addLevel_25 rfl fw_2_28 rfl rfl (by omega) ?_
    refine gj_vret dX2_addLevel_28 rfl ⟨Nat.zero_le _, Nat.zero_le _⟩ ?_
    exact ⟨rfl, rfl, by (unfold r_al; (repeat (first | rw [if_pos (by omega)] | rw [if_neg (by omega)])); try rfl)⟩

set_option maxRecDepth 100000 in
set_option maxHeartbeats 1000000 in
theorem s2_lastLong {xt : Nat × (Nat → Int)} {M : gj_M} (hI : r_I M) : gj_F xt Y2_lastLong gS [gR 3] M (some (gI (r_ll M))) M := by
  show gj_G _ Y2_lastLong gS 0 0 0 [_] [] M _
  have i1 := hI.1
  have i2 := hI.2.1
  have i3 := hI.2.2.1
  have i4 := hI.2.2.2.1
  refine gj_aload_n 1 dX2_lastLong_0 rfl rfl ?_
  refine gj_getfi 4 dX2_lastLong_1 rfl fl_2_28 rfl rfl (fun r_1 => ?_)
  refine gj_iconst 5 dX2_lastLong_4 rfl ?_
  refine gj_icmp_ge 12 8 dX2_lastLong_5 (by decide) rfl (by omega) (by omega) (fun c_5 => ?_) (fun c_5 => ?_)
  · refine gj_aload_n 13 dX2_lastLong_12 rfl rfl ?_
    refine gj_getfr 16 dX2_lastLong_13 rfl fl_2_18 rfl rfl ?_
    refine gj_aload_n 17 dX2_lastLong_16 rfl rfl ?_
    refine gj_getfi 20 dX2_lastLong_17 rfl fl_2_28 rfl rfl (fun r_17 => ?_)
    refine gj_iconst 21 dX2_lastLong_20 rfl ?_
    refine gj_isub 22 dX2_lastLong_21 rfl ?_
    refine gj_iald 23 dX2_lastLong_22 rfl rfl (by omega) (by omega) (fun r_22 => ?_)
    refine gj_iret dX2_lastLong_23 rfl ⟨Nat.zero_le _, Nat.zero_le _⟩ ?_
    exact ⟨rfl, by (unfold r_ll; (repeat (first | rw [if_pos (by omega)] | rw [if_neg (by omega)])); try rfl), rfl⟩
  · refine gj_iconst 9 dX2_lastLong_8 rfl ?_
    refine gj_goto 23 dX2_lastLong_9 (by decide) ?_
    refine gj_iret dX2_lastLong_23 rfl ⟨Nat.zero_le _, Nat.zero_le _⟩ ?_
    exact ⟨rfl, by (unfold r_ll; (repeat (first | rw [if_pos (by omega)] | rw [if_neg (by omega)])); try rfl), rfl⟩

set_option maxRecDepth 100000 in
set_option maxHeartbeats 1000000 in
theorem s2_append {xt : Nat × (Nat → Int)} {M : gj_M} {d : Int} (hI : r_I M) (hd : gj_in d) : gj_F xt Y2_append gS [gR 3, gI d] M none (r_ap M d) := by
  show gj_G _ Y2_append gS 0 0 0 [_, _, _] [] M _
  have i1 := hI.1
  have i2 := hI.2.1
  have i3 := hI.2.2.1
  have i4 := hI.2.2.2.1
  refine gj_aload_n 1 dX2_append_0 rfl rfl ?_
  refine gj_getfi 4 dX2_append_1 rfl fl_2_28 rfl rfl (fun r_1 => ?_)
  refine gj_iconst 5 dX2_append_4 rfl ?_
  refine gj_isub 6 dX2_append_5 rfl ?_
  refine gj_istore_n (lv' := [_, _, _]) 7 dX2_append_6 rfl (by decide) rfl ?_
  refine gj_iload_n 8 dX2_append_7 rfl rfl ?_
  refine gj_if_lt 49 11 dX2_append_8 (by decide) rfl (by omega) (fun c_8 => ?_) (fun c_8 => ?_)
  · refine gj_vret dX2_append_49 rfl ⟨Nat.zero_le _, Nat.zero_le _⟩ ?_
    exact ⟨rfl, rfl, by (unfold r_ap; (repeat (first | rw [if_pos (by omega)] | rw [if_neg (by omega)])); try rfl)⟩
  · have i5 := hI.2.2.2.2.1 (M 3 1 - 1) (by omega) (by omega)
    refine gj_aload_n 12 dX2_append_11 rfl rfl ?_
    refine gj_getfr 15 dX2_append_12 rfl fl_2_18 rfl rfl ?_
    refine gj_iload_n 16 dX2_append_15 rfl rfl ?_
    refine gj_iald 17 dX2_append_16 rfl rfl (by omega) (by omega) (fun r_16 => ?_)
    refine gj_bipush 19 dX2_append_17 rfl (by decide) ?_
    refine gj_icmp_ge 49 22 dX2_append_19 (by decide) rfl (by omega) (by omega) (fun c_19 => ?_) (fun c_19 => ?_)
    · refine gj_vret dX2_append_49 rfl ⟨Nat.zero_le _, Nat.zero_le _⟩ ?_
      exact ⟨rfl, rfl, by (unfold r_ap; (repeat (first | rw [if_pos (by omega)] | rw [if_neg (by omega)])); try rfl)⟩
    · refine gj_aload_n 23 dX2_append_22 rfl rfl ?_
      refine gj_getfr 26 dX2_append_23 rfl fl_2_21 rfl rfl ?_
      refine gj_iload_n 27 dX2_append_26 rfl rfl ?_
      refine gj_bipush 29 dX2_append_27 rfl (by decide) ?_
      refine gj_imul 30 dX2_append_29 rfl ?_
      refine gj_aload_n 31 dX2_append_30 rfl rfl ?_
      refine gj_getfr 34 dX2_append_31 rfl fl_2_18 rfl rfl ?_
      refine gj_iload_n 35 dX2_append_34 rfl rfl ?_
      refine gj_ialdE (M 6 (M 3 1 - 1)) 36 dX2_append_35 rfl rfl (by omega) (by omega) rfl (fun r_35 => ?_)
      refine gj_iadd 37 dX2_append_36 rfl ?_
      refine gj_iload_n 38 dX2_append_37 rfl rfl ?_
      refine gj_iast 39 dX2_append_38 rfl rfl (by omega) (by omega) (by omega) ?_
      refine gj_aload_n 40 dX2_append_39 rfl rfl ?_
      refine gj_getfr 43 dX2_append_40 rfl fl_2_18 rfl rfl ?_
      refine gj_iload_n 44 dX2_append_43 rfl rfl ?_
      refine gj_dup2 45 dX2_append_44 rfl (fun _ => rfl) (fun _ => rfl) ?_
      refine gj_ialdE (M 6 (M 3 1 - 1)) 46 dX2_append_45 rfl rfl (by omega) (by omega) rfl (fun r_45 => ?_)
      refine gj_iconst 47 dX2_append_46 rfl ?_
      refine gj_iadd 48 dX2_append_47 rfl ?_
      refine gj_iast 49 dX2_append_48 rfl rfl (by omega) (by omega) (by omega) ?_
      refine gj_vret dX2_append_49 rfl ⟨Nat.zero_le _, Nat.zero_le _⟩ ?_
      exact ⟨rfl, rfl, by (unfold r_ap; (repeat (first | rw [if_pos (by omega)] | rw [if_neg (by omega)])); try rfl)⟩

set_option maxRecDepth 100000 in
set_option maxHeartbeats 1000000 in
theorem s2_hold_l {xt : Nat × (Nat → Int)} {M : gj_M} {d N : Int} (hI : r_I M) (hd : gj_in d) (hN : gj_in N) : ∀ (n k : Nat), (k : Int) + n = N → gj_G xt Y2_hold gS 0 0 2 [some (gR 3), some (gI d), some (gI N), some (gI (k : Int))] [] (r_ho M d k) (fun r S2 M2 => S2 = gS ∧ r = none ∧ M2 = r_ho M d N.toNat) := by
  intro n
  induction n with
  | zero =>
    intro k hk
    refine gj_iload_n 3 dX2_hold_2 rfl rfl ?_
    refine gj_iload_n 4 dX2_hold_3 rfl rfl ?_
    refine gj_icmp_ge 18 7 dX2_hold_4 (by decide) rfl (by omega) (by omega) (fun c_4 => ?_) (fun c_4 => absurd c_4 (by omega))
    refine gj_vret dX2_hold_18 rfl ⟨Nat.zero_le _, Nat.zero_le _⟩ ?_
    exact ⟨rfl, rfl, by rw [show k = N.toNat by omega]⟩
  | succ n ih =>
    intro k hk
    refine gj_iload_n 3 dX2_hold_2 rfl rfl ?_
    refine gj_iload_n 4 dX2_hold_3 rfl rfl ?_
    refine gj_icmp_ge 18 7 dX2_hold_4 (by decide) rfl (by omega) (by omega) (fun c_4 => absurd c_4 (by omega)) (fun c_4 => ?_)
    refine gj_aload_n 8 dX2_hold_7 rfl rfl ?_
    refine gj_iload_n 9 dX2_hold_8 rfl rfl ?_
    refine gj_vV 12 dX2_hold_9 rfl ok_2_append ml_2_31 iv_2_append (As := [gI _]) rfl rfl rfl rfl (Nat.le_of_ble_eq_true rfl) ⟨Nat.le_of_ble_eq_true rfl, Nat.le_of_ble_eq_true rfl⟩ (Nat.le_of_ble_eq_true rfl) ⟨rfl, rfl⟩ ⟨Nat.zero_le _, Nat.zero_le _⟩ (s2_append (r_ho_I hI k) hd) ?_
    refine gj_iinc (b := ((k + 1 : Nat) : Int)) (lv' := [_, _, _, _]) 15 dX2_hold_12 rfl rfl (by omega) (by decide) rfl ?_
    refine gj_goto 2 dX2_hold_15 (by decide) ?_
    exact gj_wk (ih (k + 1) (by omega)) ⟨rfl, rfl, rfl, rfl, trivial⟩

set_option maxRecDepth 100000 in
set_option maxHeartbeats 1000000 in
theorem s2_hold {xt : Nat × (Nat → Int)} {M : gj_M} {d N : Int} (hI : r_I M) (hd : gj_in d) (hN : 0 ≤ N ∧ N ≤ 100) : gj_F xt Y2_hold gS [gR 3, gI d, gI N] M none (r_ho M d N.toNat) := by
  show gj_G _ Y2_hold gS 0 0 0 [_, _, _, _] [] M _
  refine gj_iconst 1 dX2_hold_0 rfl ?_
  refine gj_istore_n (lv' := [_, _, _, _]) 2 dX2_hold_1 rfl (by decide) rfl ?_
  exact gj_wk (s2_hold_l hI hd (by omega) N.toNat 0 (by omega)) ⟨rfl, rfl, rfl, rfl, trivial⟩

set_option maxRecDepth 100000 in
set_option maxHeartbeats 1000000 in
theorem s2_rep_i {xt : Nat × (Nat → Int)} {M : gj_M} {st kk en sh c5 : Int} {Q : Option gj_V → List gj_H → gj_M → Prop} (hI : r_I M) (hs : 0 ≤ st ∧ st ≤ 48) (he : 0 ≤ en ∧ en ≤ 48) (hsh : 0 ≤ sh ∧ sh ≤ 144) (kz : gj_G xt Y2_repeatFrom gS 0 0 64 [some (gR 3), some (gI st), some (gI kk), some (gI en), some (gI sh), some (gI c5), some (gI (st + ((en - st).toNat : Nat)))] [] (r_r1 M sh st (en - st).toNat) Q) : ∀ (n j : Nat), j + n = (en - st).toNat → gj_G xt Y2_repeatFrom gS 0 0 38 [some (gR 3), some (gI st), some (gI kk), some (gI en), some (gI sh), some (gI c5), some (gI (st + (j : Int)))] [] (r_r1 M sh st j) Q := by
  intro n
  induction n with
  | zero =>
    intro j hj
    have hIj := r_r1_I (sh := sh) (st := st) hI j
    refine gj_iload 40 dX2_repeatFrom_38 rfl rfl ?_
    refine gj_iload_n 41 dX2_repeatFrom_40 rfl rfl ?_
    refine gj_icmp_ge 64 44 dX2_repeatFrom_41 (by decide) rfl (by omega) (by omega) (fun c_41 => ?_) (fun c_41 => absurd c_41 (by omega))
    have hj : j = (en - st).toNat := by omega
    subst hj
    exact gj_wk kz ⟨rfl, rfl, rfl, rfl, rfl, rfl, rfl, trivial⟩
  | succ n ih =>
    intro j hj
    have hIj := r_r1_I (sh := sh) (st := st) hI j
    refine gj_iload 40 dX2_repeatFrom_38 rfl rfl ?_
    refine gj_iload_n 41 dX2_repeatFrom_40 rfl rfl ?_
    refine gj_icmp_ge 64 44 dX2_repeatFrom_41 (by decide) rfl (by omega) (by omega) (fun c_41 => absurd c_41 (by omega)) (fun c_41 => ?_)
    refine gj_aload_n 45 dX2_repeatFrom_44 rfl rfl ?_
    refine gj_aload_n 46 dX2_repeatFrom_45 rfl rfl ?_
    refine gj_getfr 49 dX2_repeatFrom_46 rfl fl_2_21 rfl rfl ?_
    refine gj_iload 51 dX2_repeatFrom_49 rfl rfl ?_
    refine gj_iload 53 dX2_repeatFrom_51 rfl rfl ?_
    refine gj_iadd 54 dX2_repeatFrom_53 rfl ?_
    refine gj_iald 55 dX2_repeatFrom_54 rfl rfl (by omega) (by omega) (fun r_54 => ?_)
    refine gj_vV 58 dX2_repeatFrom_55 rfl ok_2_append ml_2_31 iv_2_append (As := [gI _]) rfl rfl rfl rfl (Nat.le_of_ble_eq_true rfl) ⟨Nat.le_of_ble_eq_true rfl, Nat.le_of_ble_eq_true rfl⟩ (Nat.le_of_ble_eq_true rfl) ⟨rfl, rfl⟩ ⟨Nat.zero_le _, Nat.zero_le _⟩ (s2_append hIj r_54) ?_
    refine gj_iinc (b := (st + ((j + 1 : Nat) : Int))) (lv' := [_, _, _, _, _, _, _]) 61 dX2_repeatFrom_58 rfl rfl (by omega) (by decide) rfl ?_
    refine gj_goto 38 dX2_repeatFrom_61 (by decide) ?_
    exact gj_wk (ih (j + 1) (by omega)) ⟨rfl, rfl, rfl, rfl, rfl, rfl, rfl, trivial⟩

set_option maxRecDepth 100000 in
set_option maxHeartbeats 1000000 in
theorem s2_rep_o {xt : Nat × (Nat → Int)} {M : gj_M} {st kk en sh : Int} (hI : r_I M) (hs : 0 ≤ st ∧ st ≤ 48) (he : 0 ≤ en ∧ en ≤ 48) (hsh : 0 ≤ sh ∧ sh ≤ 144) (hk : 1 ≤ kk ∧ kk ≤ 9) : ∀ (n k : Nat), k + n = (kk - 1).toNat → gj_G xt Y2_repeatFrom gS 0 0 29 [some (gR 3), some (gI st), some (gI kk), some (gI en), some (gI sh), some (gI ((k : Int) + 1)), none] [] (r_rp M sh st (en - st).toNat k) (fun r S2 M2 => S2 = gS ∧ r = none ∧ M2 = r_rp M sh st (en - st).toNat (kk - 1).toNat) := by
  intro n
  induction n with
  | zero =>
    intro k hk2
    refine gj_iload 31 dX2_repeatFrom_29 rfl rfl ?_
    refine gj_iload_n 32 dX2_repeatFrom_31 rfl rfl ?_
    refine gj_icmp_ge 70 35 dX2_repeatFrom_32 (by decide) rfl (by omega) (by omega) (fun c_32 => ?_) (fun c_32 => absurd c_32 (by omega))
    refine gj_vret dX2_repeatFrom_70 rfl ⟨Nat.zero_le _, Nat.zero_le _⟩ ?_
    exact ⟨rfl, rfl, by rw [show k = (kk - 1).toNat by omega]⟩
  | succ n ih =>
    intro k hk2
    refine gj_iload 31 dX2_repeatFrom_29 rfl rfl ?_
    refine gj_iload_n 32 dX2_repeatFrom_31 rfl rfl ?_
    refine gj_icmp_ge 70 35 dX2_repeatFrom_32 (by decide) rfl (by omega) (by omega) (fun c_32 => absurd c_32 (by omega)) (fun c_32 => ?_)
    refine gj_iload_n 36 dX2_repeatFrom_35 rfl rfl ?_
    refine gj_istore (lv' := [_, _, _, _, _, _, _]) 38 dX2_repeatFrom_36 rfl (by decide) rfl ?_
    refine gj_wk (lv' := [some (gR 3), some (gI st), some (gI kk), some (gI en), some (gI sh), some (gI ((k : Int) + 1)), some (gI (st + ((0 : Nat) : Int)))]) (s2_rep_i (r_rp_I hI k) hs he hsh ?_ (en - st).toNat 0 (by omega)) ⟨rfl, rfl, rfl, rfl, rfl, rfl, by simp, trivial⟩
    refine gj_iinc (b := ((k + 1 : Nat) : Int) + 1) (lv' := [_, _, _, _, _, _, _]) 67 dX2_repeatFrom_64 rfl rfl (by omega) (by decide) rfl ?_
    refine gj_goto 29 dX2_repeatFrom_67 (by decide) ?_
    exact gj_wk (ih (k + 1) (by omega)) ⟨rfl, rfl, rfl, rfl, rfl, rfl, trivial⟩

set_option maxRecDepth 100000 in
set_option maxHeartbeats 1000000 in
theorem s2_repeatFrom {xt : Nat × (Nat → Int)} {M : gj_M} {st kk : Int} (hI : r_I M) (hs : 0 ≤ st ∧ st ≤ 48) (hk : 1 ≤ kk ∧ kk ≤ 9) : gj_F xt Y2_repeatFrom gS [gR 3, gI st, gI kk] M none (r_rf M st kk) := by
  show gj_G _ Y2_repeatFrom gS 0 0 0 [_, _, _, _, _, _, _] [] M _
  have i1 := hI.1
  have i2 := hI.2.1
  have i3 := hI.2.2.1
  have i4 := hI.2.2.2.1
  have hb := r_ll_b hI
  refine gj_aload_n 1 dX2_repeatFrom_0 rfl rfl ?_
  refine gj_fV 4 dX2_repeatFrom_1 rfl ok_2_lastLong ml_2_35 iv_2_lastLong (As := []) rfl rfl rfl rfl (Nat.le_of_ble_eq_true rfl) ⟨Nat.le_of_ble_eq_true rfl, Nat.le_of_ble_eq_true rfl⟩ (Nat.le_of_ble_eq_true rfl) ⟨rfl, rfl⟩ ⟨Nat.zero_le _, Nat.zero_le _⟩ (s2_lastLong hI) ?_
  refine gj_istore_n (lv' := [_, _, _, _, _, _, _]) 5 dX2_repeatFrom_4 rfl (by decide) rfl ?_
  refine gj_aload_n 6 dX2_repeatFrom_5 rfl rfl ?_
  refine gj_getfi 9 dX2_repeatFrom_6 rfl fl_2_28 rfl rfl (fun r_6 => ?_)
  refine gj_iconst 10 dX2_repeatFrom_9 rfl ?_
  refine gj_isub 11 dX2_repeatFrom_10 rfl ?_
  refine gj_bipush 13 dX2_repeatFrom_11 rfl (by decide) ?_
  refine gj_imul 14 dX2_repeatFrom_13 rfl ?_
  refine gj_istore (lv' := [_, _, _, _, _, _, _]) 16 dX2_repeatFrom_14 rfl (by decide) rfl ?_
  refine gj_iload 18 dX2_repeatFrom_16 rfl rfl ?_
  refine gj_if_lt 25 21 dX2_repeatFrom_18 (by decide) rfl (by omega) (fun c_18 => ?_) (fun c_18 => ?_)
  · refine gj_vret dX2_repeatFrom_25 rfl ⟨Nat.zero_le _, Nat.zero_le _⟩ ?_
    exact ⟨rfl, rfl, by (unfold r_rf; (repeat (first | rw [if_pos (by omega)] | rw [if_neg (by omega)])); try rfl)⟩
  · refine gj_iload_n 22 dX2_repeatFrom_21 rfl rfl ?_
    refine gj_if_ge 26 25 dX2_repeatFrom_22 (by decide) rfl (by omega) (fun c_22 => ?_) (fun c_22 => ?_)
    · refine gj_iconst 27 dX2_repeatFrom_26 rfl ?_
      refine gj_istore (lv' := [_, _, _, _, _, _, _]) 29 dX2_repeatFrom_27 rfl (by decide) rfl ?_
      have e : r_rf M st kk = r_rp M ((M 3 1 - 1) * 48) st (r_ll M - st).toNat (kk - 1).toNat := if_neg (by omega)
      rw [e]
      exact gj_wk (s2_rep_o hI hs hb (by omega) hk (kk - 1).toNat 0 (by omega)) ⟨rfl, rfl, rfl, rfl, rfl, rfl, trivial⟩
    · refine gj_vret dX2_repeatFrom_25 rfl ⟨Nat.zero_le _, Nat.zero_le _⟩ ?_
      exact ⟨rfl, rfl, by (unfold r_rf; (repeat (first | rw [if_pos (by omega)] | rw [if_neg (by omega)])); try rfl)⟩

set_option maxRecDepth 100000 in
set_option maxHeartbeats 1000000 in
theorem s1_takesDrawing {xt : Nat × (Nat → Int)} {M : gj_M} (hI : r_I M) : gj_F xt Y1_takesDrawing gS [gR 2] M (some (gI (a_dr M))) (r_dr M) := by
  show gj_G _ Y1_takesDrawing gS 0 0 0 [_] [] M _
  have i1 := hI.1
  have i2 := hI.2.1
  have i3 := hI.2.2.1
  have i4 := hI.2.2.2.1
  refine gj_aload_n 1 dX1_takesDrawing_0 rfl rfl ?_
  refine gj_iconst 2 dX1_takesDrawing_1 rfl ?_
  refine gj_putfi 5 dX1_takesDrawing_2 rfl fw_1_25 rfl rfl (by omega) ?_
  refine gj_aload_n 6 dX1_takesDrawing_5 rfl rfl ?_
  refine gj_getfr 9 dX1_takesDrawing_6 rfl fl_1_12 rfl rfl ?_
  refine gj_getfiE (M 3 0) 12 dX1_takesDrawing_9 rfl fl_1_61 rfl rfl rfl (fun r_9 => ?_)
  refine gj_bipush 14 dX1_takesDrawing_12 rfl (by decide) ?_
  refine gj_icmp_ge 21 17 dX1_takesDrawing_14 (by decide) rfl (by omega) (by omega) (fun c_14 => ?_) (fun c_14 => ?_)
  · refine gj_iconst 22 dX1_takesDrawing_21 rfl ?_
    refine gj_zret dX1_takesDrawing_22 rfl (by decide) ⟨Nat.zero_le _, Nat.zero_le _⟩ ?_
    exact ⟨rfl, by (unfold a_dr; (repeat (first | rw [if_pos (by omega)] | rw [if_neg (by omega)])); try rfl), rfl⟩
  · refine gj_iconst 18 dX1_takesDrawing_17 rfl ?_
    refine gj_goto 22 dX1_takesDrawing_18 (by decide) ?_
    refine gj_zret dX1_takesDrawing_22 rfl (by decide) ⟨Nat.zero_le _, Nat.zero_le _⟩ ?_
    exact ⟨rfl, by (unfold a_dr; (repeat (first | rw [if_pos (by omega)] | rw [if_neg (by omega)])); try rfl), rfl⟩

set_option maxRecDepth 100000 in
set_option maxHeartbeats 1000000 in
theorem s1_takesWidth {xt : Nat × (Nat → Int)} {M : gj_M} {w : Int} (hI : r_I M) (hw : gj_in w) : gj_F xt Y1_takesWidth gS [gR 2, gI w] M (some (gI (a_wd w))) (r_wd M w) := by
  show gj_G _ Y1_takesWidth gS 0 0 0 [_, _] [] M _
  have i1 := hI.1
  have i2 := hI.2.1
  have i3 := hI.2.2.1
  have i4 := hI.2.2.2.1
  refine gj_iload_n 1 dX1_takesWidth_0 rfl rfl ?_
  refine gj_iconst 2 dX1_takesWidth_1 rfl ?_
  refine gj_icmp_lt 10 5 dX1_takesWidth_2 (by decide) rfl (by omega) (by omega) (fun c_2 => ?_) (fun c_2 => ?_)
  · refine gj_iconst 11 dX1_takesWidth_10 rfl ?_
    refine gj_zret dX1_takesWidth_11 rfl (by decide) ⟨Nat.zero_le _, Nat.zero_le _⟩ ?_
    exact ⟨rfl, by (unfold a_wd; (repeat (first | rw [if_pos (by omega)] | rw [if_neg (by omega)])); try rfl), by (unfold r_wd; (repeat (first | rw [if_pos (by omega)] | rw [if_neg (by omega)])); try rfl)⟩
  · refine gj_iload_n 6 dX1_takesWidth_5 rfl rfl ?_
    refine gj_iconst 7 dX1_takesWidth_6 rfl ?_
    refine gj_icmp_le 12 10 dX1_takesWidth_7 (by decide) rfl (by omega) (by omega) (fun c_7 => ?_) (fun c_7 => ?_)
    · refine gj_aload_n 13 dX1_takesWidth_12 rfl rfl ?_
      refine gj_getfr 16 dX1_takesWidth_13 rfl fl_1_12 rfl rfl ?_
      refine gj_aload_n 17 dX1_takesWidth_16 rfl rfl ?_
      refine gj_getfi 20 dX1_takesWidth_17 rfl fl_1_43 rfl rfl (fun r_17 => ?_)
      refine gj_iload_n 21 dX1_takesWidth_20 rfl rfl ?_
      refine gj_vV 24 dX1_takesWidth_21 rfl ok_2_addDrawing ml_1_64 iv_2_addDrawing (As := [gI _, gI _]) rfl rfl rfl rfl (Nat.le_of_ble_eq_true rfl) ⟨Nat.le_of_ble_eq_true rfl, Nat.le_of_ble_eq_true rfl⟩ (Nat.le_of_ble_eq_true rfl) ⟨rfl, rfl⟩ ⟨Nat.zero_le _, Nat.zero_le _⟩ (s2_addDrawing hI r_17 hw) ?_
      refine gj_aload_n 25 dX1_takesWidth_24 rfl rfl ?_
      refine gj_iconst 26 dX1_takesWidth_25 rfl ?_
      refine gj_putfi 29 dX1_takesWidth_26 rfl fw_1_25 rfl rfl (by omega) ?_
      refine gj_iconst 30 dX1_takesWidth_29 rfl ?_
      refine gj_zret dX1_takesWidth_30 rfl (by decide) ⟨Nat.zero_le _, Nat.zero_le _⟩ ?_
      exact ⟨rfl, by (unfold a_wd; (repeat (first | rw [if_pos (by omega)] | rw [if_neg (by omega)])); try rfl), by (unfold r_wd; (repeat (first | rw [if_pos (by omega)] | rw [if_neg (by omega)])); try rfl)⟩
    · refine gj_iconst 11 dX1_takesWidth_10 rfl ?_
      refine gj_zret dX1_takesWidth_11 rfl (by decide) ⟨Nat.zero_le _, Nat.zero_le _⟩ ?_
      exact ⟨rfl, by (unfold a_wd; (repeat (first | rw [if_pos (by omega)] | rw [if_neg (by omega)])); try rfl), by (unfold r_wd; (repeat (first | rw [if_pos (by omega)] | rw [if_neg (by omega)])); try rfl)⟩

set_option maxRecDepth 100000 in
set_option maxHeartbeats 1000000 in
theorem s1_takesLevel {xt : Nat × (Nat → Int)} {M : gj_M} {c : Int} (hI : r_I M) (hc : gj_in c) : gj_F xt Y1_takesLevel gS [gR 2, gI c] M (some (gI (a_lv M c))) (r_lv M c) := by
  show gj_G _ Y1_takesLevel gS 0 0 0 [_, _] [] M _
  have i1 := hI.1
  have i2 := hI.2.1
  have i3 := hI.2.2.1
  have i4 := hI.2.2.2.1
  refine gj_iload_n 1 dX1_takesLevel_0 rfl rfl ?_
  refine gj_bipush 3 dX1_takesLevel_1 rfl (by decide) ?_
  refine gj_icmp_ne 17 6 dX1_takesLevel_3 (by decide) rfl (by omega) (by omega) (fun c_3 => ?_) (fun c_3 => ?_)
  · refine gj_iconst 18 dX1_takesLevel_17 rfl ?_
    refine gj_zret dX1_takesLevel_18 rfl (by decide) ⟨Nat.zero_le _, Nat.zero_le _⟩ ?_
    exact ⟨rfl, by (unfold a_lv; (repeat (first | rw [if_pos (by omega)] | rw [if_neg (by omega)])); try rfl), by (unfold r_lv; (repeat (first | rw [if_pos (by omega)] | rw [if_neg (by omega)])); try rfl)⟩
  · refine gj_aload_n 7 dX1_takesLevel_6 rfl rfl ?_
    refine gj_getfr 10 dX1_takesLevel_7 rfl fl_1_12 rfl rfl ?_
    refine gj_getfi 13 dX1_takesLevel_10 rfl fl_1_68 rfl rfl (fun r_10 => ?_)
    refine gj_iconst 14 dX1_takesLevel_13 rfl ?_
    refine gj_icmp_lt 19 17 dX1_takesLevel_14 (by decide) rfl (by omega) (by omega) (fun c_14 => ?_) (fun c_14 => ?_)
    · refine gj_aload_n 20 dX1_takesLevel_19 rfl rfl ?_
      refine gj_getfr 23 dX1_takesLevel_20 rfl fl_1_12 rfl rfl ?_
      refine gj_vV 26 dX1_takesLevel_23 rfl ok_2_addLevel ml_1_71 iv_2_addLevel (As := []) rfl rfl rfl rfl (Nat.le_of_ble_eq_true rfl) ⟨Nat.le_of_ble_eq_true rfl, Nat.le_of_ble_eq_true rfl⟩ (Nat.le_of_ble_eq_true rfl) ⟨rfl, rfl⟩ ⟨Nat.zero_le _, Nat.zero_le _⟩ (s2_addLevel hI) ?_
      refine gj_aload_n 27 dX1_takesLevel_26 rfl rfl ?_
      refine gj_iconst 28 dX1_takesLevel_27 rfl ?_
      refine gj_putfi 31 dX1_takesLevel_28 rfl fw_1_25 rfl rfl (by omega) ?_
      refine gj_iconst 32 dX1_takesLevel_31 rfl ?_
      refine gj_zret dX1_takesLevel_32 rfl (by decide) ⟨Nat.zero_le _, Nat.zero_le _⟩ ?_
      exact ⟨rfl, by (unfold a_lv; (repeat (first | rw [if_pos (by omega)] | rw [if_neg (by omega)])); try rfl), by (unfold r_lv; (repeat (first | rw [if_pos (by omega)] | rw [if_neg (by omega)])); try rfl)⟩
    · refine gj_iconst 18 dX1_takesLevel_17 rfl ?_
      refine gj_zret dX1_takesLevel_18 rfl (by decide) ⟨Nat.zero_le _, Nat.zero_le _⟩ ?_
      exact ⟨rfl, by (unfold a_lv; (repeat (first | rw [if_pos (by omega)] | rw [if_neg (by omega)])); try rfl), by (unfold r_lv; (repeat (first | rw [if_pos (by omega)] | rw [if_neg (by omega)])); try rfl)⟩

set_option maxRecDepth 100000 in
set_option maxHeartbeats 1000000 in
theorem s1_takesOpening {xt : Nat × (Nat → Int)} {M : gj_M} (hI : r_I M) : gj_F xt Y1_takesOpening gS [gR 2] M (some (gI (a_op M))) (r_op M) := by
  show gj_G _ Y1_takesOpening gS 0 0 0 [_] [] M _
  have i1 := hI.1
  have i2 := hI.2.1
  have i3 := hI.2.2.1
  have i4 := hI.2.2.2.1
  have hb := r_ll_b hI
  refine gj_aload_n 1 dX1_takesOpening_0 rfl rfl ?_
  refine gj_getfi 4 dX1_takesOpening_1 rfl fl_1_29 rfl rfl (fun r_1 => ?_)
  refine gj_if_lt 15 7 dX1_takesOpening_4 (by decide) rfl (by omega) (fun c_4 => ?_) (fun c_4 => ?_)
  · refine gj_iconst 16 dX1_takesOpening_15 rfl ?_
    refine gj_zret dX1_takesOpening_16 rfl (by decide) ⟨Nat.zero_le _, Nat.zero_le _⟩ ?_
    exact ⟨rfl, by (unfold a_op; (repeat (first | rw [if_pos (by omega)] | rw [if_neg (by omega)])); try rfl), by (unfold r_op; (repeat (first | rw [if_pos (by omega)] | rw [if_neg (by omega)])); try rfl)⟩
  · refine gj_aload_n 8 dX1_takesOpening_7 rfl rfl ?_
    refine gj_getfi 11 dX1_takesOpening_8 rfl fl_1_29 rfl rfl (fun r_8 => ?_)
    refine gj_iconst 12 dX1_takesOpening_11 rfl ?_
    refine gj_icmp_lt 17 15 dX1_takesOpening_12 (by decide) rfl (by omega) (by omega) (fun c_12 => ?_) (fun c_12 => ?_)
    · refine gj_aload_n 18 dX1_takesOpening_17 rfl rfl ?_
      refine gj_getfr 21 dX1_takesOpening_18 rfl fl_1_18 rfl rfl ?_
      refine gj_aload_n 22 dX1_takesOpening_21 rfl rfl ?_
      refine gj_getfi 25 dX1_takesOpening_22 rfl fl_1_29 rfl rfl (fun r_22 => ?_)
      refine gj_aload_n 26 dX1_takesOpening_25 rfl rfl ?_
      refine gj_getfr 29 dX1_takesOpening_26 rfl fl_1_12 rfl rfl ?_
      refine gj_fV 32 dX1_takesOpening_29 rfl ok_2_lastLong ml_1_80 iv_2_lastLong (As := []) rfl rfl rfl rfl (Nat.le_of_ble_eq_true rfl) ⟨Nat.le_of_ble_eq_true rfl, Nat.le_of_ble_eq_true rfl⟩ (Nat.le_of_ble_eq_true rfl) ⟨rfl, rfl⟩ ⟨Nat.zero_le _, Nat.zero_le _⟩ (s2_lastLong hI) ?_
      refine gj_iast 33 dX1_takesOpening_32 rfl rfl (by omega) (by omega) (by omega) ?_
      refine gj_aload_n 34 dX1_takesOpening_33 rfl rfl ?_
      refine gj_dup 35 dX1_takesOpening_34 rfl (fun _ => rfl) ?_
      refine gj_getfiE (M 2 2) 38 dX1_takesOpening_35 rfl fl_1_29 rfl rfl rfl (fun r_35 => ?_)
      refine gj_iconst 39 dX1_takesOpening_38 rfl ?_
      refine gj_iadd 40 dX1_takesOpening_39 rfl ?_
      refine gj_putfi 43 dX1_takesOpening_40 rfl fw_1_29 rfl rfl (by omega) ?_
      refine gj_aload_n 44 dX1_takesOpening_43 rfl rfl ?_
      refine gj_bipush 46 dX1_takesOpening_44 rfl (by decide) ?_
      refine gj_putfi 49 dX1_takesOpening_46 rfl fw_1_25 rfl rfl (by omega) ?_
      refine gj_iconst 50 dX1_takesOpening_49 rfl ?_
      refine gj_zret dX1_takesOpening_50 rfl (by decide) ⟨Nat.zero_le _, Nat.zero_le _⟩ ?_
      exact ⟨rfl, by (unfold a_op; (repeat (first | rw [if_pos (by omega)] | rw [if_neg (by omega)])); try rfl), by (unfold r_op; (repeat (first | rw [if_pos (by omega)] | rw [if_neg (by omega)])); try rfl)⟩
    · refine gj_iconst 16 dX1_takesOpening_15 rfl ?_
      refine gj_zret dX1_takesOpening_16 rfl (by decide) ⟨Nat.zero_le _, Nat.zero_le _⟩ ?_
      exact ⟨rfl, by (unfold a_op; (repeat (first | rw [if_pos (by omega)] | rw [if_neg (by omega)])); try rfl), by (unfold r_op; (repeat (first | rw [if_pos (by omega)] | rw [if_neg (by omega)])); try rfl)⟩

theorem a_op_01 (M : gj_M) : a_op M = 0 ∨ a_op M = 1 := by unfold a_op; split <;> simp
theorem a_it_01 (M : gj_M) (c : Int) : a_it M c = 0 ∨ a_it M c = 1 := by
  unfold a_it
  split
  · exact a_op_01 M
  split
  · simp
  split <;> simp

set_option maxRecDepth 100000 in
set_option maxHeartbeats 1000000 in
theorem s1_takesItem {xt : Nat × (Nat → Int)} {M : gj_M} {c : Int} (hI : r_I M) (hc : 0 ≤ c ∧ c ≤ 255) : gj_F xt Y1_takesItem gS [gR 2, gI c] M (some (gI (a_it M c))) (r_it M c) := by
  show gj_G _ Y1_takesItem gS 0 0 0 [_, _, _] [] M _
  have i1 := hI.1
  have i2 := hI.2.1
  have i3 := hI.2.2.1
  have i4 := hI.2.2.2.1
  refine gj_iload_n 1 dX1_takesItem_0 rfl rfl ?_
  refine gj_bipush 3 dX1_takesItem_1 rfl (by decide) ?_
  refine gj_icmp_ne 11 6 dX1_takesItem_3 (by decide) rfl (by omega) (by omega) (fun c_3 => ?_) (fun c_3 => ?_)
  · refine gj_iload_n 12 dX1_takesItem_11 rfl rfl ?_
    refine gj_bipush 14 dX1_takesItem_12 rfl (by decide) ?_
    refine gj_isub 15 dX1_takesItem_14 rfl ?_
    refine gj_istore_n (lv' := [_, _, _]) 16 dX1_takesItem_15 rfl (by decide) rfl ?_
    refine gj_iload_n 17 dX1_takesItem_16 rfl rfl ?_
    refine gj_bipush 19 dX1_takesItem_17 rfl (by decide) ?_
    refine gj_icmp_ne 31 22 dX1_takesItem_19 (by decide) rfl (by omega) (by omega) (fun c_19 => ?_) (fun c_19 => ?_)
    · refine gj_iload_n 32 dX1_takesItem_31 rfl rfl ?_
      refine gj_if_lt 54 35 dX1_takesItem_32 (by decide) rfl (by omega) (fun c_32 => ?_) (fun c_32 => ?_)
      · refine gj_iconst 55 dX1_takesItem_54 rfl ?_
        refine gj_zret dX1_takesItem_55 rfl (by decide) ⟨Nat.zero_le _, Nat.zero_le _⟩ ?_
        exact ⟨rfl, by (unfold a_it; (repeat (first | rw [if_pos (by omega)] | rw [if_neg (by omega)])); try rfl), by (unfold r_it; (repeat (first | rw [if_pos (by omega)] | rw [if_neg (by omega)])); try rfl)⟩
      · refine gj_iload_n 36 dX1_takesItem_35 rfl rfl ?_
        refine gj_aload_n 37 dX1_takesItem_36 rfl rfl ?_
        refine gj_getfr 40 dX1_takesItem_37 rfl fl_1_12 rfl rfl ?_
        refine gj_getfi 43 dX1_takesItem_40 rfl fl_1_61 rfl rfl (fun r_40 => ?_)
        refine gj_icmp_ge 54 46 dX1_takesItem_43 (by decide) rfl (by omega) (by omega) (fun c_43 => ?_) (fun c_43 => ?_)
        · refine gj_iconst 55 dX1_takesItem_54 rfl ?_
          refine gj_zret dX1_takesItem_55 rfl (by decide) ⟨Nat.zero_le _, Nat.zero_le _⟩ ?_
          exact ⟨rfl, by (unfold a_it; (repeat (first | rw [if_pos (by omega)] | rw [if_neg (by omega)])); try rfl), by (unfold r_it; (repeat (first | rw [if_pos (by omega)] | rw [if_neg (by omega)])); try rfl)⟩
        · refine gj_aload_n 47 dX1_takesItem_46 rfl rfl ?_
          refine gj_iload_n 48 dX1_takesItem_47 rfl rfl ?_
          refine gj_putfi 51 dX1_takesItem_48 rfl fw_1_77 rfl rfl (by omega) ?_
          refine gj_goto 56 dX1_takesItem_51 (by decide) ?_
          refine gj_aload_n 57 dX1_takesItem_56 rfl rfl ?_
          refine gj_bipush 59 dX1_takesItem_57 rfl (by decide) ?_
          refine gj_putfi 62 dX1_takesItem_59 rfl fw_1_25 rfl rfl (by omega) ?_
          refine gj_iconst 63 dX1_takesItem_62 rfl ?_
          refine gj_zret dX1_takesItem_63 rfl (by decide) ⟨Nat.zero_le _, Nat.zero_le _⟩ ?_
          exact ⟨rfl, by (unfold a_it; (repeat (first | rw [if_pos (by omega)] | rw [if_neg (by omega)])); try rfl), by (unfold r_it; (repeat (first | rw [if_pos (by omega)] | rw [if_neg (by omega)])); try rfl)⟩
    · refine gj_aload_n 23 dX1_takesItem_22 rfl rfl ?_
      refine gj_bipush 25 dX1_takesItem_23 rfl (by decide) ?_
      refine gj_putfi 28 dX1_takesItem_25 rfl fw_1_77 rfl rfl (by omega) ?_
      refine gj_goto 56 dX1_takesItem_28 (by decide) ?_
      refine gj_aload_n 57 dX1_takesItem_56 rfl rfl ?_
      refine gj_bipush 59 dX1_takesItem_57 rfl (by decide) ?_
      refine gj_putfi 62 dX1_takesItem_59 rfl fw_1_25 rfl rfl (by omega) ?_
      refine gj_iconst 63 dX1_takesItem_62 rfl ?_
      refine gj_zret dX1_takesItem_63 rfl (by decide) ⟨Nat.zero_le _, Nat.zero_le _⟩ ?_
      exact ⟨rfl, by (unfold a_it; (repeat (first | rw [if_pos (by omega)] | rw [if_neg (by omega)])); try rfl), by (unfold r_it; (repeat (first | rw [if_pos (by omega)] | rw [if_neg (by omega)])); try rfl)⟩
  · refine gj_aload_n 7 dX1_takesItem_6 rfl rfl ?_
    refine gj_fV 10 dX1_takesItem_7 rfl ok_1_takesOpening ml_1_74 iv_1_takesOpening (As := []) rfl rfl rfl rfl (Nat.le_of_ble_eq_true rfl) ⟨Nat.le_of_ble_eq_true rfl, Nat.le_of_ble_eq_true rfl⟩ (Nat.le_of_ble_eq_true rfl) ⟨rfl, rfl⟩ ⟨Nat.zero_le _, Nat.zero_le _⟩ (s1_takesOpening hI) ?_
    refine gj_zret dX1_takesItem_10 rfl (a_op_01 M) ⟨Nat.zero_le _, Nat.zero_le _⟩ ?_
    exact ⟨rfl, by (unfold a_it; (repeat (first | rw [if_pos (by omega)] | rw [if_neg (by omega)])); try rfl), by (unfold r_it; (repeat (first | rw [if_pos (by omega)] | rw [if_neg (by omega)])); try rfl)⟩

set_option maxRecDepth 100000 in
set_option maxHeartbeats 1000000 in
theorem s1_takesItemOrEnd {xt : Nat × (Nat → Int)} {M : gj_M} {c : Int} (hI : r_I M) (hc : 0 ≤ c ∧ c ≤ 255) : gj_F xt Y1_takesItemOrEnd gS [gR 2, gI c] M (some (gI (a_ie M c))) (r_ie M c) := by
  show gj_G _ Y1_takesItemOrEnd gS 0 0 0 [_, _] [] M _
  have i1 := hI.1
  have i2 := hI.2.1
  have i3 := hI.2.2.1
  have i4 := hI.2.2.2.1
  refine gj_iload_n 1 dX1_takesItemOrEnd_0 rfl rfl ?_
  refine gj_bipush 3 dX1_takesItemOrEnd_1 rfl (by decide) ?_
  refine gj_icmp_ne 24 6 dX1_takesItemOrEnd_3 (by decide) rfl (by omega) (by omega) (fun c_3 => ?_) (fun c_3 => ?_)
  · refine gj_iload_n 25 dX1_takesItemOrEnd_24 rfl rfl ?_
    refine gj_bipush 27 dX1_takesItemOrEnd_25 rfl (by decide) ?_
    refine gj_icmp_ne 49 30 dX1_takesItemOrEnd_27 (by decide) rfl (by omega) (by omega) (fun c_27 => ?_) (fun c_27 => ?_)
    · refine gj_aload_n 50 dX1_takesItemOrEnd_49 rfl rfl ?_
      refine gj_iload_n 51 dX1_takesItemOrEnd_50 rfl rfl ?_
      refine gj_fV 54 dX1_takesItemOrEnd_51 rfl ok_1_takesItem ml_1_52 iv_1_takesItem (As := [gI _]) rfl rfl rfl rfl (Nat.le_of_ble_eq_true rfl) ⟨Nat.le_of_ble_eq_true rfl, Nat.le_of_ble_eq_true rfl⟩ (Nat.le_of_ble_eq_true rfl) ⟨rfl, rfl⟩ ⟨Nat.zero_le _, Nat.zero_le _⟩ (s1_takesItem hI hc) ?_
      refine gj_zret dX1_takesItemOrEnd_54 rfl (a_it_01 M c) ⟨Nat.zero_le _, Nat.zero_le _⟩ ?_
      exact ⟨rfl, by (unfold a_ie; (repeat (first | rw [if_pos (by omega)] | rw [if_neg (by omega)])); try rfl), by (unfold r_ie; (repeat (first | rw [if_pos (by omega)] | rw [if_neg (by omega)])); try rfl)⟩
    · refine gj_aload_n 31 dX1_takesItemOrEnd_30 rfl rfl ?_
      refine gj_bipush 33 dX1_takesItemOrEnd_31 rfl (by decide) ?_
      refine gj_putfi 36 dX1_takesItemOrEnd_33 rfl fw_1_25 rfl rfl (by omega) ?_
      refine gj_aload_n 37 dX1_takesItemOrEnd_36 rfl rfl ?_
      refine gj_getfiE (M 2 2) 40 dX1_takesItemOrEnd_37 rfl fl_1_29 rfl rfl rfl (fun r_37 => ?_)
      refine gj_if_le 47 43 dX1_takesItemOrEnd_40 (by decide) rfl (by omega) (fun c_40 => ?_) (fun c_40 => ?_)
      · refine gj_iconst 48 dX1_takesItemOrEnd_47 rfl ?_
        refine gj_zret dX1_takesItemOrEnd_48 rfl (by decide) ⟨Nat.zero_le _, Nat.zero_le _⟩ ?_
        exact ⟨rfl, by (unfold a_ie; (repeat (first | rw [if_pos (by omega)] | rw [if_neg (by omega)])); try rfl), by (unfold r_ie; (repeat (first | rw [if_pos (by omega)] | rw [if_neg (by omega)])); try rfl)⟩
      · refine gj_iconst 44 dX1_takesItemOrEnd_43 rfl ?_
        refine gj_goto 48 dX1_takesItemOrEnd_44 (by decide) ?_
        refine gj_zret dX1_takesItemOrEnd_48 rfl (by decide) ⟨Nat.zero_le _, Nat.zero_le _⟩ ?_
        exact ⟨rfl, by (unfold a_ie; (repeat (first | rw [if_pos (by omega)] | rw [if_neg (by omega)])); try rfl), by (unfold r_ie; (repeat (first | rw [if_pos (by omega)] | rw [if_neg (by omega)])); try rfl)⟩
  · refine gj_aload_n 7 dX1_takesItemOrEnd_6 rfl rfl ?_
    refine gj_iconst 8 dX1_takesItemOrEnd_7 rfl ?_
    refine gj_putfi 11 dX1_takesItemOrEnd_8 rfl fw_1_25 rfl rfl (by omega) ?_
    refine gj_aload_n 12 dX1_takesItemOrEnd_11 rfl rfl ?_
    refine gj_getfiE (M 2 2) 15 dX1_takesItemOrEnd_12 rfl fl_1_29 rfl rfl rfl (fun r_12 => ?_)
    refine gj_if_ne 22 18 dX1_takesItemOrEnd_15 (by decide) rfl (by omega) (fun c_15 => ?_) (fun c_15 => ?_)
    · refine gj_iconst 23 dX1_takesItemOrEnd_22 rfl ?_
      refine gj_zret dX1_takesItemOrEnd_23 rfl (by decide) ⟨Nat.zero_le _, Nat.zero_le _⟩ ?_
      exact ⟨rfl, by (unfold a_ie; (repeat (first | rw [if_pos (by omega)] | rw [if_neg (by omega)])); try rfl), by (unfold r_ie; (repeat (first | rw [if_pos (by omega)] | rw [if_neg (by omega)])); try rfl)⟩
    · refine gj_iconst 19 dX1_takesItemOrEnd_18 rfl ?_
      refine gj_goto 23 dX1_takesItemOrEnd_19 (by decide) ?_
      refine gj_zret dX1_takesItemOrEnd_23 rfl (by decide) ⟨Nat.zero_le _, Nat.zero_le _⟩ ?_
      exact ⟨rfl, by (unfold a_ie; (repeat (first | rw [if_pos (by omega)] | rw [if_neg (by omega)])); try rfl), by (unfold r_ie; (repeat (first | rw [if_pos (by omega)] | rw [if_neg (by omega)])); try rfl)⟩

set_option maxRecDepth 100000 in
set_option maxHeartbeats 1000000 in
theorem s1_takesHold {xt : Nat × (Nat → Int)} {M : gj_M} {n : Int} (hI : r_I M) (hc : gj_in n) : gj_F xt Y1_takesHold gS [gR 2, gI n] M (some (gI (a_hd n))) (r_hd M n) := by
  show gj_G _ Y1_takesHold gS 0 0 0 [_, _] [] M _
  have i1 := hI.1
  have i2 := hI.2.1
  have i3 := hI.2.2.1
  have i4 := hI.2.2.2.1
  refine gj_iload_n 1 dX1_takesHold_0 rfl rfl ?_
  refine gj_iconst 2 dX1_takesHold_1 rfl ?_
  refine gj_icmp_lt 11 5 dX1_takesHold_2 (by decide) rfl (by omega) (by omega) (fun c_2 => ?_) (fun c_2 => ?_)
  · refine gj_iconst 12 dX1_takesHold_11 rfl ?_
    refine gj_zret dX1_takesHold_12 rfl (by decide) ⟨Nat.zero_le _, Nat.zero_le _⟩ ?_
    exact ⟨rfl, by (unfold a_hd; (repeat (first | rw [if_pos (by omega)] | rw [if_neg (by omega)])); try rfl), by (unfold r_hd; (repeat (first | rw [if_pos (by omega)] | rw [if_neg (by omega)])); try rfl)⟩
  · refine gj_iload_n 6 dX1_takesHold_5 rfl rfl ?_
    refine gj_bipush 8 dX1_takesHold_6 rfl (by decide) ?_
    refine gj_icmp_le 13 11 dX1_takesHold_8 (by decide) rfl (by omega) (by omega) (fun c_8 => ?_) (fun c_8 => ?_)
    · refine gj_aload_n 14 dX1_takesHold_13 rfl rfl ?_
      refine gj_getfr 17 dX1_takesHold_14 rfl fl_1_12 rfl rfl ?_
      refine gj_aload_n 18 dX1_takesHold_17 rfl rfl ?_
      refine gj_getfi 21 dX1_takesHold_18 rfl fl_1_77 rfl rfl (fun r_18 => ?_)
      refine gj_iload_n 22 dX1_takesHold_21 rfl rfl ?_
      refine gj_vV 25 dX1_takesHold_22 rfl ok_2_hold ml_1_84 iv_2_hold (As := [gI _, gI _]) rfl rfl rfl rfl (Nat.le_of_ble_eq_true rfl) ⟨Nat.le_of_ble_eq_true rfl, Nat.le_of_ble_eq_true rfl⟩ (Nat.le_of_ble_eq_true rfl) ⟨rfl, rfl⟩ ⟨Nat.zero_le _, Nat.zero_le _⟩ (s2_hold hI r_18 (by omega)) ?_
      refine gj_aload_n 26 dX1_takesHold_25 rfl rfl ?_
      refine gj_iconst 27 dX1_takesHold_26 rfl ?_
      refine gj_putfi 30 dX1_takesHold_27 rfl fw_1_25 rfl rfl (by omega) ?_
      refine gj_iconst 31 dX1_takesHold_30 rfl ?_
      refine gj_zret dX1_takesHold_31 rfl (by decide) ⟨Nat.zero_le _, Nat.zero_le _⟩ ?_
      exact ⟨rfl, by (unfold a_hd; (repeat (first | rw [if_pos (by omega)] | rw [if_neg (by omega)])); try rfl), by (unfold r_hd; (repeat (first | rw [if_pos (by omega)] | rw [if_neg (by omega)])); try rfl)⟩
    · refine gj_iconst 12 dX1_takesHold_11 rfl ?_
      refine gj_zret dX1_takesHold_12 rfl (by decide) ⟨Nat.zero_le _, Nat.zero_le _⟩ ?_
      exact ⟨rfl, by (unfold a_hd; (repeat (first | rw [if_pos (by omega)] | rw [if_neg (by omega)])); try rfl), by (unfold r_hd; (repeat (first | rw [if_pos (by omega)] | rw [if_neg (by omega)])); try rfl)⟩

set_option maxRecDepth 100000 in
set_option maxHeartbeats 1000000 in
theorem s1_takesTimes {xt : Nat × (Nat → Int)} {M : gj_M} {n : Int} (hI : r_I M) (hc : gj_in n) : gj_F xt Y1_takesTimes gS [gR 2, gI n] M (some (gI (a_tm M n))) (r_tm M n) := by
  show gj_G _ Y1_takesTimes gS 0 0 0 [_, _] [] M _
  have i1 := hI.1
  have i2 := hI.2.1
  have i3 := hI.2.2.1
  have i4 := hI.2.2.2.1
  refine gj_iload_n 1 dX1_takesTimes_0 rfl rfl ?_
  refine gj_iconst 2 dX1_takesTimes_1 rfl ?_
  refine gj_icmp_lt 27 5 dX1_takesTimes_2 (by decide) rfl (by omega) (by omega) (fun c_2 => ?_) (fun c_2 => ?_)
  · refine gj_iconst 28 dX1_takesTimes_27 rfl ?_
    refine gj_zret dX1_takesTimes_28 rfl (by decide) ⟨Nat.zero_le _, Nat.zero_le _⟩ ?_
    exact ⟨rfl, by (unfold a_tm; (repeat (first | rw [if_pos (by omega)] | rw [if_neg (by omega)])); try rfl), by (unfold r_tm; (repeat (first | rw [if_pos (by omega)] | rw [if_neg (by omega)])); try rfl)⟩
  · refine gj_iload_n 6 dX1_takesTimes_5 rfl rfl ?_
    refine gj_bipush 8 dX1_takesTimes_6 rfl (by decide) ?_
    refine gj_icmp_gt 27 11 dX1_takesTimes_8 (by decide) rfl (by omega) (by omega) (fun c_8 => ?_) (fun c_8 => ?_)
    · refine gj_iconst 28 dX1_takesTimes_27 rfl ?_
      refine gj_zret dX1_takesTimes_28 rfl (by decide) ⟨Nat.zero_le _, Nat.zero_le _⟩ ?_
      exact ⟨rfl, by (unfold a_tm; (repeat (first | rw [if_pos (by omega)] | rw [if_neg (by omega)])); try rfl), by (unfold r_tm; (repeat (first | rw [if_pos (by omega)] | rw [if_neg (by omega)])); try rfl)⟩
    · refine gj_aload_n 12 dX1_takesTimes_11 rfl rfl ?_
      refine gj_getfi 15 dX1_takesTimes_12 rfl fl_1_29 rfl rfl (fun r_12 => ?_)
      refine gj_iconst 16 dX1_takesTimes_15 rfl ?_
      refine gj_icmp_lt 27 19 dX1_takesTimes_16 (by decide) rfl (by omega) (by omega) (fun c_16 => ?_) (fun c_16 => ?_)
      · refine gj_iconst 28 dX1_takesTimes_27 rfl ?_
        refine gj_zret dX1_takesTimes_28 rfl (by decide) ⟨Nat.zero_le _, Nat.zero_le _⟩ ?_
        exact ⟨rfl, by (unfold a_tm; (repeat (first | rw [if_pos (by omega)] | rw [if_neg (by omega)])); try rfl), by (unfold r_tm; (repeat (first | rw [if_pos (by omega)] | rw [if_neg (by omega)])); try rfl)⟩
      · refine gj_aload_n 20 dX1_takesTimes_19 rfl rfl ?_
        refine gj_getfi 23 dX1_takesTimes_20 rfl fl_1_29 rfl rfl (fun r_20 => ?_)
        refine gj_iconst 24 dX1_takesTimes_23 rfl ?_
        refine gj_icmp_le 29 27 dX1_takesTimes_24 (by decide) rfl (by omega) (by omega) (fun c_24 => ?_) (fun c_24 => ?_)
        · have i6 := hI.2.2.2.2.2 (M 2 2 - 1) (by omega) (by omega)
          refine gj_aload_n 30 dX1_takesTimes_29 rfl rfl ?_
          refine gj_dup 31 dX1_takesTimes_30 rfl (fun _ => rfl) ?_
          refine gj_getfi 34 dX1_takesTimes_31 rfl fl_1_29 rfl rfl (fun r_31 => ?_)
          refine gj_iconst 35 dX1_takesTimes_34 rfl ?_
          refine gj_isub 36 dX1_takesTimes_35 rfl ?_
          refine gj_putfi 39 dX1_takesTimes_36 rfl fw_1_29 rfl rfl (by omega) ?_
          refine gj_aload_n 40 dX1_takesTimes_39 rfl rfl ?_
          refine gj_getfr 43 dX1_takesTimes_40 rfl fl_1_12 rfl rfl ?_
          refine gj_aload_n 44 dX1_takesTimes_43 rfl rfl ?_
          refine gj_getfr 47 dX1_takesTimes_44 rfl fl_1_18 rfl rfl ?_
          refine gj_aload_n 48 dX1_takesTimes_47 rfl rfl ?_
          refine gj_getfiE (M 2 2 - 1) 51 dX1_takesTimes_48 rfl fl_1_29 rfl rfl rfl (fun r_48 => ?_)
          refine gj_ialdE (M 8 (M 2 2 - 1)) 52 dX1_takesTimes_51 rfl rfl (by omega) (by omega) rfl (fun r_51 => ?_)
          refine gj_iload_n 53 dX1_takesTimes_52 rfl rfl ?_
          refine gj_vV 56 dX1_takesTimes_53 rfl ok_2_repeatFrom ml_1_87 iv_2_repeatFrom (As := [gI _, gI _]) rfl rfl rfl rfl (Nat.le_of_ble_eq_true rfl) ⟨Nat.le_of_ble_eq_true rfl, Nat.le_of_ble_eq_true rfl⟩ (Nat.le_of_ble_eq_true rfl) ⟨rfl, rfl⟩ ⟨Nat.zero_le _, Nat.zero_le _⟩ (s2_repeatFrom (hI.dp (by omega)) (by omega) (by omega)) ?_
          refine gj_aload_n 57 dX1_takesTimes_56 rfl rfl ?_
          refine gj_iconst 58 dX1_takesTimes_57 rfl ?_
          refine gj_putfi 61 dX1_takesTimes_58 rfl fw_1_25 rfl rfl (by omega) ?_
          refine gj_iconst 62 dX1_takesTimes_61 rfl ?_
          refine gj_zret dX1_takesTimes_62 rfl (by decide) ⟨Nat.zero_le _, Nat.zero_le _⟩ ?_
          exact ⟨rfl, by (unfold a_tm; (repeat (first | rw [if_pos (by omega)] | rw [if_neg (by omega)])); try rfl), by (unfold r_tm; (repeat (first | rw [if_pos (by omega)] | rw [if_neg (by omega)])); try rfl)⟩
        · refine gj_iconst 28 dX1_takesTimes_27 rfl ?_
          refine gj_zret dX1_takesTimes_28 rfl (by decide) ⟨Nat.zero_le _, Nat.zero_le _⟩ ?_
          exact ⟨rfl, by (unfold a_tm; (repeat (first | rw [if_pos (by omega)] | rw [if_neg (by omega)])); try rfl), by (unfold r_tm; (repeat (first | rw [if_pos (by omega)] | rw [if_neg (by omega)])); try rfl)⟩
