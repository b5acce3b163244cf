set_option maxRecDepth 100000 in
set_option maxHeartbeats 1000000 in
theorem s3_drawingOn {xt : Nat × (Nat → Int)} {M : gj_M} {l f : Int} (hl : 0 ≤ l ∧ l < 4) (hf : 0 ≤ f ∧ f < 48) (hdl : ∀ l : Int, 0 ≤ l → l < 4 → (0 ≤ M 18 l ∧ M 18 l ≤ 9) ∧ 0 ≤ M 13 l ∧ M 13 l ≤ 48)  : gj_F xt Y3_drawingOn gS [gR 9, gI l, gI f] M (some (gI (p_ex (M 18) (M 13) (M 14) l f))) M := by
  show gj_G _ Y3_drawingOn gS 0 0 0 [_, _, _, _] [] M _
  have h1 := hdl l hl.1 hl.2
  refine gj_iload_n 1 dX3_drawingOn_0 rfl rfl ?_
  refine gj_aload_n 2 dX3_drawingOn_1 rfl rfl ?_
  refine gj_getfr 5 dX3_drawingOn_2 rfl fl_3_21 rfl rfl ?_
  refine gj_getfr 8 dX3_drawingOn_5 rfl fl_3_45 rfl rfl ?_
  refine gj_iload_n 9 dX3_drawingOn_8 rfl rfl ?_
  refine gj_iald 10 dX3_drawingOn_9 rfl rfl (by omega) (by omega) (fun r_9 => ?_)
  refine gj_isub 11 dX3_drawingOn_10 rfl ?_
  refine gj_istore_n (lv' := [_, _, _, _]) 12 dX3_drawingOn_11 rfl (by decide) rfl ?_
  refine gj_iload_n 13 dX3_drawingOn_12 rfl rfl ?_
  refine gj_if_lt 29 16 dX3_drawingOn_13 (by decide) rfl (by omega) (fun c_13 => ?_) (fun c_13 => ?_)
  · refine gj_bipush 31 dX3_drawingOn_29 rfl (by decide) ?_
    refine gj_iret dX3_drawingOn_31 rfl ⟨Nat.zero_le _, Nat.zero_le _⟩ ?_
    exact ⟨rfl, by unfold p_ex; rw [if_pos (by omega)], rfl⟩
  · refine gj_iload_n 17 dX3_drawingOn_16 rfl rfl ?_
    refine gj_aload_n 18 dX3_drawingOn_17 rfl rfl ?_
    refine gj_getfr 21 dX3_drawingOn_18 rfl fl_3_12 rfl rfl ?_
    refine gj_getfr 24 dX3_drawingOn_21 rfl fl_3_48 rfl rfl ?_
    refine gj_iload_n 25 dX3_drawingOn_24 rfl rfl ?_
    refine gj_iald 26 dX3_drawingOn_25 rfl rfl (by omega) (by omega) (fun r_25 => ?_)
    refine gj_icmp_lt 32 29 dX3_drawingOn_26 (by decide) rfl (by omega) (by omega) (fun c_26 => ?_) (fun c_26 => ?_)
    · refine gj_aload_n 33 dX3_drawingOn_32 rfl rfl ?_
      refine gj_getfr 36 dX3_drawingOn_33 rfl fl_3_12 rfl rfl ?_
      refine gj_getfr 39 dX3_drawingOn_36 rfl fl_3_51 rfl rfl ?_
      refine gj_iload_n 40 dX3_drawingOn_39 rfl rfl ?_
      refine gj_bipush 42 dX3_drawingOn_40 rfl (by decide) ?_
      refine gj_imul 43 dX3_drawingOn_42 rfl ?_
      refine gj_iload_n 44 dX3_drawingOn_43 rfl rfl ?_
      refine gj_iadd 45 dX3_drawingOn_44 rfl ?_
      refine gj_iald 46 dX3_drawingOn_45 rfl rfl (by omega) (by omega) (fun r_45 => ?_)
      refine gj_iret dX3_drawingOn_46 rfl ⟨Nat.zero_le _, Nat.zero_le _⟩ ?_
      exact ⟨rfl, by unfold p_ex; rw [if_neg (by omega)], rfl⟩
    · refine gj_bipush 31 dX3_drawingOn_29 rfl (by decide) ?_
      refine gj_iret dX3_drawingOn_31 rfl ⟨Nat.zero_le _, Nat.zero_le _⟩ ?_
      exact ⟨rfl, by unfold p_ex; rw [if_pos (by omega)], rfl⟩

set_option maxRecDepth 100000 in
set_option maxHeartbeats 1000000 in
theorem s3_levelInOrder {xt : Nat × (Nat → Int)} {M : gj_M} {od i : Int} (ho : 0 ≤ od ∧ od ≤ 2147483647) (hi : 0 ≤ i ∧ i < 10) (hL : 0 ≤ M 10 1 ∧ M 10 1 ≤ 4)  : gj_F xt Y3_levelInOrder gS [gR 9, gI od, gI i] M (some (gI (p_li (M 10 1) od i))) M := by
  show gj_G _ Y3_levelInOrder gS 0 0 0 [_, _, _, _] [] M _
  refine gj_aload_n 1 dX3_levelInOrder_0 rfl rfl ?_
  refine gj_getfr 4 dX3_levelInOrder_1 rfl fl_3_12 rfl rfl ?_
  refine gj_getfi 7 dX3_levelInOrder_4 rfl fl_3_57 rfl rfl (fun r_4 => ?_)
  refine gj_iconst 8 dX3_levelInOrder_7 rfl ?_
  refine gj_isub 9 dX3_levelInOrder_8 rfl ?_
  refine gj_iload_n 10 dX3_levelInOrder_9 rfl rfl ?_
  refine gj_isub 11 dX3_levelInOrder_10 rfl ?_
  refine gj_istore_n (lv' := [_, _, _, _]) 12 dX3_levelInOrder_11 rfl (by decide) rfl ?_
  refine gj_iload_n 13 dX3_levelInOrder_12 rfl rfl ?_
  refine gj_if_lt 24 16 dX3_levelInOrder_13 (by decide) rfl (by omega) (fun c_13 => ?_) (fun c_13 => ?_)
  · refine gj_iconst 25 dX3_levelInOrder_24 rfl ?_
    refine gj_goto 38 dX3_levelInOrder_25 (by decide) ?_
    refine gj_iret dX3_levelInOrder_38 rfl ⟨Nat.zero_le _, Nat.zero_le _⟩ ?_
    exact ⟨rfl, by unfold p_li; first | rw [if_pos (by omega)] | rw [if_neg (by omega)], rfl⟩
  · refine gj_iload_n 17 dX3_levelInOrder_16 rfl rfl ?_
    refine gj_gets 20 dX3_levelInOrder_17 rfl tn_3_54 ?_
    refine gj_tln 21 dX3_levelInOrder_20 rfl ?_
    refine gj_icmp_lt 28 24 dX3_levelInOrder_21 (by decide) rfl (by omega) (by omega) (fun c_21 => ?_) (fun c_21 => ?_)
    · refine gj_iload_n 29 dX3_levelInOrder_28 rfl rfl ?_
      refine gj_gets 32 dX3_levelInOrder_29 rfl tn_3_54 ?_
      refine gj_iload_n 33 dX3_levelInOrder_32 rfl rfl ?_
      refine gj_tld 34 dX3_levelInOrder_33 rfl (by omega) ?_
      have ht := gj_tens_b (M 10 1 - 1 - i).toNat
      have h7 : 0 ≤ od / gj_tens (M 10 1 - 1 - i).toNat := Int.ediv_nonneg ho.1 (by omega)
      have h8 : od / gj_tens (M 10 1 - 1 - i).toNat ≤ od := Int.ediv_le_self _ ho.1
      refine gj_idiv 35 dX3_levelInOrder_34 rfl (by omega) (by omega) ?_
      refine gj_bipush 37 dX3_levelInOrder_35 rfl (by decide) ?_
      refine gj_irem 38 dX3_levelInOrder_37 rfl (by omega) (by omega) ?_
      refine gj_iret dX3_levelInOrder_38 rfl ⟨Nat.zero_le _, Nat.zero_le _⟩ ?_
      exact ⟨rfl, by unfold p_li; first | rw [if_pos (by omega)] | rw [if_neg (by omega)], rfl⟩
    · refine gj_iconst 25 dX3_levelInOrder_24 rfl ?_
      refine gj_goto 38 dX3_levelInOrder_25 (by decide) ?_
      refine gj_iret dX3_levelInOrder_38 rfl ⟨Nat.zero_le _, Nat.zero_le _⟩ ?_
      exact ⟨rfl, by unfold p_li; first | rw [if_pos (by omega)] | rw [if_neg (by omega)], rfl⟩

set_option maxRecDepth 100000 in
set_option maxHeartbeats 1000000 in
theorem s3_orderAt_l {xt : Nat × (Nat → Int)} {M : gj_M} {f s : Int} (hL : 0 ≤ M 10 1 ∧ M 10 1 ≤ 4)  : ∀ (n k : Nat), (k : Int) + n = M 10 1 → gj_G xt Y3_orderAt gS 0 0 28 [some (gR 9), some (gI f), some (gI s), some (gI (p_fo k)), some (gI (k : Int))] [] M (fun r S2 M2 => S2 = gS ∧ r = some (gI (p_fo (M 10 1).toNat)) ∧ M2 = M) := by
  intro n
  induction n with
  | zero =>
    intro k hk
    refine gj_iload 30 dX3_orderAt_28 rfl rfl ?_
    refine gj_aload_n 31 dX3_orderAt_30 rfl rfl ?_
    refine gj_getfr 34 dX3_orderAt_31 rfl fl_3_12 rfl rfl ?_
    refine gj_getfi 37 dX3_orderAt_34 rfl fl_3_57 rfl rfl (fun r_34 => ?_)
    refine gj_icmp_ge 54 40 dX3_orderAt_37 (by decide) rfl (by omega) (by omega) (fun c_37 => ?_) (fun c_37 => absurd c_37 (by omega))
    refine gj_iload_n 55 dX3_orderAt_54 rfl rfl ?_
    refine gj_iret dX3_orderAt_55 rfl ⟨Nat.zero_le _, Nat.zero_le _⟩ ?_
    exact ⟨rfl, by rw [show (M 10 1).toNat = k by omega], rfl⟩
  | succ n ih =>
    intro k hk
    refine gj_iload 30 dX3_orderAt_28 rfl rfl ?_
    refine gj_aload_n 31 dX3_orderAt_30 rfl rfl ?_
    refine gj_getfr 34 dX3_orderAt_31 rfl fl_3_12 rfl rfl ?_
    refine gj_getfi 37 dX3_orderAt_34 rfl fl_3_57 rfl rfl (fun r_34 => ?_)
    refine gj_icmp_ge 54 40 dX3_orderAt_37 (by decide) rfl (by omega) (by omega) (fun c_37 => absurd c_37 (by omega)) (fun c_37 => ?_)
    refine gj_iload_n 41 dX3_orderAt_40 rfl rfl ?_
    refine gj_bipush 43 dX3_orderAt_41 rfl (by decide) ?_
    refine gj_imul 44 dX3_orderAt_43 rfl ?_
    refine gj_iload 46 dX3_orderAt_44 rfl rfl ?_
    refine gj_iadd 47 dX3_orderAt_46 rfl ?_
    refine gj_istore_n (lv' := [_, _, _, _, _]) 48 dX3_orderAt_47 rfl (by decide) rfl ?_
    refine gj_iinc (b := ((k + 1 : Nat) : Int)) (lv' := [_, _, _, _, _]) 51 dX3_orderAt_48 rfl rfl (by omega) (by decide) rfl ?_
    refine gj_goto 28 dX3_orderAt_51 (by decide) ?_
    exact gj_wk (ih (k + 1) (by omega)) ⟨rfl, rfl, rfl, rfl, rfl, trivial⟩

set_option maxRecDepth 100000 in
set_option maxHeartbeats 1000000 in
theorem s3_orderAt {xt : Nat × (Nat → Int)} {M : gj_M} {f : Int} (hf : 0 ≤ f ∧ f < 48) (hL : 0 ≤ M 10 1 ∧ M 10 1 ≤ 4) (hsw : 0 ≤ M 15 6 ∧ M 15 6 ≤ 4)  : gj_F xt Y3_orderAt gS [gR 9, gI f] M (some (gI (p_or (M 10 1) (M 15 6) (M 22) (M 23) f))) M := by
  show gj_G _ Y3_orderAt gS 0 0 0 [_, _, _, _, _] [] M _
  have hb := p_sf_lo (M 22) f (M 15 6).toNat
  refine gj_aload_n 1 dX3_orderAt_0 rfl rfl ?_
  refine gj_getfr 4 dX3_orderAt_1 rfl fl_3_21 rfl rfl ?_
  refine gj_iload_n 5 dX3_orderAt_4 rfl rfl ?_
  refine gj_fV 8 dX3_orderAt_5 rfl ok_4_switchFor ml_3_65 iv_4_switchFor (As := [gI _]) rfl rfl rfl rfl (Nat.le_of_ble_eq_true rfl) ⟨Nat.le_of_ble_eq_true rfl, Nat.le_of_ble_eq_true rfl⟩ (Nat.le_of_ble_eq_true rfl) ⟨rfl, rfl⟩ ⟨Nat.zero_le _, Nat.zero_le _⟩ (s4_switchFor (by omega) (by omega)) ?_
  refine gj_istore_n (lv' := [_, _, _, _, _]) 9 dX3_orderAt_8 rfl (by decide) rfl ?_
  refine gj_iload_n 10 dX3_orderAt_9 rfl rfl ?_
  refine gj_if_lt 23 13 dX3_orderAt_10 (by decide) rfl (by omega) (fun c_10 => ?_) (fun c_10 => ?_)
  · refine gj_iconst 24 dX3_orderAt_23 rfl ?_
    refine gj_istore_n (lv' := [_, _, _, _, _]) 25 dX3_orderAt_24 rfl (by decide) rfl ?_
    refine gj_iconst 26 dX3_orderAt_25 rfl ?_
    refine gj_istore (lv' := [_, _, _, _, _]) 28 dX3_orderAt_26 rfl (by decide) rfl ?_
    have e : p_or (M 10 1) (M 15 6) (M 22) (M 23) f = p_fo (M 10 1).toNat := if_neg (by omega)
    rw [e]
    exact s3_orderAt_l hL (M 10 1).toNat 0 (by omega)
  · refine gj_aload_n 14 dX3_orderAt_13 rfl rfl ?_
    refine gj_getfr 17 dX3_orderAt_14 rfl fl_3_21 rfl rfl ?_
    refine gj_getfr 20 dX3_orderAt_17 rfl fl_3_69 rfl rfl ?_
    refine gj_iload_n 21 dX3_orderAt_20 rfl rfl ?_
    refine gj_iald 22 dX3_orderAt_21 rfl rfl (by omega) (by omega) (fun r_21 => ?_)
    refine gj_iret dX3_orderAt_22 rfl ⟨Nat.zero_le _, Nat.zero_le _⟩ ?_
    exact ⟨rfl, by unfold p_or; rw [if_pos (by omega)], rfl⟩

set_option maxRecDepth 100000 in
set_option maxHeartbeats 1000000 in
theorem s3_covers {xt : Nat × (Nat → Int)} {M : gj_M} {l d f c : Int} (hl : 0 ≤ d → d < M 10 0 → 0 ≤ l ∧ l < 5) (hd : gj_in d) (hf : 0 ≤ f ∧ f < 48) (hc : 0 ≤ c ∧ c < 10) (hD : 0 ≤ M 10 0 ∧ M 10 0 ≤ 6) (hpn : ∀ q : Int, 0 ≤ q → q < 5 → (-9 ≤ M 19 q ∧ M 19 q ≤ 9) ∧ (-3 ≤ M 20 q ∧ M 20 q ≤ 3) ∧ 1 ≤ M 21 q ∧ M 21 q ≤ 9) (hxw : ∀ d : Int, 0 ≤ d → d < 6 → (0 ≤ M 16 d ∧ M 16 d ≤ 9) ∧ 0 ≤ M 17 d ∧ M 17 d ≤ 5)  : gj_F xt Y3_covers gS [gR 9, gI l, gI d, gI f, gI c] M (some (gI (p_cw (M 10 0) (M 16) (M 17) (M 19) (M 20) (M 21) l d f c))) M := by
  show gj_G _ Y3_covers gS 0 0 0 [_, _, _, _, _, _, _] [] M _
  refine gj_iload_n 1 dX3_covers_0 rfl rfl ?_
  refine gj_if_lt 15 4 dX3_covers_1 (by decide) rfl (by omega) (fun c_1 => ?_) (fun c_1 => ?_)
  · refine gj_iconst 16 dX3_covers_15 rfl ?_
    refine gj_zret dX3_covers_16 rfl (by omega) ⟨Nat.zero_le _, Nat.zero_le _⟩ ?_
    exact ⟨rfl, by unfold p_cw; rw [if_neg (by omega)], rfl⟩
  · refine gj_iload_n 5 dX3_covers_4 rfl rfl ?_
    refine gj_aload_n 6 dX3_covers_5 rfl rfl ?_
    refine gj_getfr 9 dX3_covers_6 rfl fl_3_12 rfl rfl ?_
    refine gj_getfi 12 dX3_covers_9 rfl fl_3_72 rfl rfl (fun r_9 => ?_)
    refine gj_icmp_lt 17 15 dX3_covers_12 (by decide) rfl (by omega) (by omega) (fun c_12 => ?_) (fun c_12 => ?_)
    · have hl2 := hl (by omega) (by omega)
      have x1 := hpn l hl2.1 hl2.2
      have x2 := hpn 4 (by omega) (by omega)
      have b1 := p_pan_b hf x1.1 x1.2.1 x1.2.2
      have b2 := p_pan_b hf x2.1 x2.2.1 x2.2.2
      have x3 := hxw d (by omega) (by omega)
      refine gj_aload_n 18 dX3_covers_17 rfl rfl ?_
      refine gj_getfr 21 dX3_covers_18 rfl fl_3_21 rfl rfl ?_
      refine gj_getfr 24 dX3_covers_21 rfl fl_3_75 rfl rfl ?_
      refine gj_iload_n 25 dX3_covers_24 rfl rfl ?_
      refine gj_iald 26 dX3_covers_25 rfl rfl (by omega) (by omega) (fun r_25 => ?_)
      refine gj_aload_n 27 dX3_covers_26 rfl rfl ?_
      refine gj_getfr 30 dX3_covers_27 rfl fl_3_21 rfl rfl ?_
      refine gj_iload_n 31 dX3_covers_30 rfl rfl ?_
      refine gj_iload_n 32 dX3_covers_31 rfl rfl ?_
      refine gj_fV 35 dX3_covers_32 rfl ok_4_panAt ml_3_78 iv_4_panAt (As := [gI _, gI _]) rfl rfl rfl rfl (Nat.le_of_ble_eq_true rfl) ⟨Nat.le_of_ble_eq_true rfl, Nat.le_of_ble_eq_true rfl⟩ (Nat.le_of_ble_eq_true rfl) ⟨rfl, rfl⟩ ⟨Nat.zero_le _, Nat.zero_le _⟩ (s4_panAt (by omega) (by omega)) ?_
      refine gj_iadd 36 dX3_covers_35 rfl ?_
      refine gj_istore (lv' := [_, _, _, _, _, _, _]) 38 dX3_covers_36 rfl (by decide) rfl ?_
      refine gj_iload 40 dX3_covers_38 rfl rfl ?_
      refine gj_aload_n 41 dX3_covers_40 rfl rfl ?_
      refine gj_getfr 44 dX3_covers_41 rfl fl_3_21 rfl rfl ?_
      refine gj_iconst 45 dX3_covers_44 rfl ?_
      refine gj_iload_n 46 dX3_covers_45 rfl rfl ?_
      refine gj_fV 49 dX3_covers_46 rfl ok_4_panAt ml_3_78 iv_4_panAt (As := [gI _, gI _]) rfl rfl rfl rfl (Nat.le_of_ble_eq_true rfl) ⟨Nat.le_of_ble_eq_true rfl, Nat.le_of_ble_eq_true rfl⟩ (Nat.le_of_ble_eq_true rfl) ⟨rfl, rfl⟩ ⟨Nat.zero_le _, Nat.zero_le _⟩ (s4_panAt (by omega) (by omega)) ?_
      refine gj_iadd 50 dX3_covers_49 rfl ?_
      refine gj_istore (lv' := [_, _, _, _, _, _, _]) 52 dX3_covers_50 rfl (by decide) rfl ?_
      refine gj_iload 54 dX3_covers_52 rfl rfl ?_
      refine gj_iload 56 dX3_covers_54 rfl rfl ?_
      refine gj_icmp_lt 80 59 dX3_covers_56 (by decide) rfl (by omega) (by omega) (fun c_56 => ?_) (fun c_56 => ?_)
      · refine gj_iconst 81 dX3_covers_80 rfl ?_
        refine gj_zret dX3_covers_81 rfl (by omega) ⟨Nat.zero_le _, Nat.zero_le _⟩ ?_
        exact ⟨rfl, by unfold p_cw; first | rw [if_pos (by omega)] | rw [if_neg (by omega)], rfl⟩
      · refine gj_iload 61 dX3_covers_59 rfl rfl ?_
        refine gj_iload 63 dX3_covers_61 rfl rfl ?_
        refine gj_aload_n 64 dX3_covers_63 rfl rfl ?_
        refine gj_getfr 67 dX3_covers_64 rfl fl_3_21 rfl rfl ?_
        refine gj_getfr 70 dX3_covers_67 rfl fl_3_81 rfl rfl ?_
        refine gj_iload_n 71 dX3_covers_70 rfl rfl ?_
        refine gj_iald 72 dX3_covers_71 rfl rfl (by omega) (by omega) (fun r_71 => ?_)
        refine gj_iadd 73 dX3_covers_72 rfl ?_
        refine gj_icmp_ge 80 76 dX3_covers_73 (by decide) rfl (by omega) (by omega) (fun c_73 => ?_) (fun c_73 => ?_)
        · refine gj_iconst 81 dX3_covers_80 rfl ?_
          refine gj_zret dX3_covers_81 rfl (by omega) ⟨Nat.zero_le _, Nat.zero_le _⟩ ?_
          exact ⟨rfl, by unfold p_cw; first | rw [if_pos (by omega)] | rw [if_neg (by omega)], rfl⟩
        · refine gj_iconst 77 dX3_covers_76 rfl ?_
          refine gj_goto 81 dX3_covers_77 (by decide) ?_
          refine gj_zret dX3_covers_81 rfl (by omega) ⟨Nat.zero_le _, Nat.zero_le _⟩ ?_
          exact ⟨rfl, by unfold p_cw; first | rw [if_pos (by omega)] | rw [if_neg (by omega)], rfl⟩
    · refine gj_iconst 16 dX3_covers_15 rfl ?_
      refine gj_zret dX3_covers_16 rfl (by omega) ⟨Nat.zero_le _, Nat.zero_le _⟩ ?_
      exact ⟨rfl, by unfold p_cw; rw [if_neg (by omega)], rfl⟩

set_option maxRecDepth 100000 in
set_option maxHeartbeats 1000000 in
theorem s3_levelCovers {xt : Nat × (Nat → Int)} {M : gj_M} {l f c : Int} (hl : 0 ≤ l ∧ l < 4) (hf : 0 ≤ f ∧ f < 48) (hc : 0 ≤ c ∧ c < 10) (hD : 0 ≤ M 10 0 ∧ M 10 0 ≤ 6) (hdl : ∀ l : Int, 0 ≤ l → l < 4 → (0 ≤ M 18 l ∧ M 18 l ≤ 9) ∧ 0 ≤ M 13 l ∧ M 13 l ≤ 48) (hpn : ∀ q : Int, 0 ≤ q → q < 5 → (-9 ≤ M 19 q ∧ M 19 q ≤ 9) ∧ (-3 ≤ M 20 q ∧ M 20 q ≤ 3) ∧ 1 ≤ M 21 q ∧ M 21 q ≤ 9) (hxw : ∀ d : Int, 0 ≤ d → d < 6 → (0 ≤ M 16 d ∧ M 16 d ≤ 9) ∧ 0 ≤ M 17 d ∧ M 17 d ≤ 5)  : gj_F xt Y3_levelCovers gS [gR 9, gI l, gI f, gI c] M (some (gI (p_cw (M 10 0) (M 16) (M 17) (M 19) (M 20) (M 21) l (p_ex (M 18) (M 13) (M 14) l f) f c))) M := by
  show gj_G _ Y3_levelCovers gS 0 0 0 [_, _, _, _] [] M _
  refine gj_rg (fun hR => ?_)
  have hx := p_ex_in (dl := M 18) (lg := M 13) (hR 14 (by decide)) l f
  refine gj_aload_n 1 dX3_levelCovers_0 rfl rfl ?_
  refine gj_iload_n 2 dX3_levelCovers_1 rfl rfl ?_
  refine gj_aload_n 3 dX3_levelCovers_2 rfl rfl ?_
  refine gj_iload_n 4 dX3_levelCovers_3 rfl rfl ?_
  refine gj_iload_n 5 dX3_levelCovers_4 rfl rfl ?_
  refine gj_fV 8 dX3_levelCovers_5 rfl ok_3_drawingOn ml_3_84 iv_3_drawingOn (As := [gI _, gI _]) rfl rfl rfl rfl (Nat.le_of_ble_eq_true rfl) ⟨Nat.le_of_ble_eq_true rfl, Nat.le_of_ble_eq_true rfl⟩ (Nat.le_of_ble_eq_true rfl) ⟨rfl, rfl⟩ ⟨Nat.zero_le _, Nat.zero_le _⟩ (s3_drawingOn hl hf hdl) ?_
  refine gj_iload_n 9 dX3_levelCovers_8 rfl rfl ?_
  refine gj_iload_n 10 dX3_levelCovers_9 rfl rfl ?_
  refine gj_fV 13 dX3_levelCovers_10 rfl ok_3_covers ml_3_87 iv_3_covers (As := [gI _, gI _, gI _, gI _]) rfl rfl rfl rfl (Nat.le_of_ble_eq_true rfl) ⟨Nat.le_of_ble_eq_true rfl, Nat.le_of_ble_eq_true rfl⟩ (Nat.le_of_ble_eq_true rfl) ⟨rfl, rfl⟩ ⟨Nat.zero_le _, Nat.zero_le _⟩ (s3_covers (fun _ _ => by omega) (by omega) hf hc hD hpn hxw) ?_
  refine gj_zret dX3_levelCovers_13 rfl (p_cw_01 _ _ _ _ _ _ _ _ _ _) ⟨Nat.zero_le _, Nat.zero_le _⟩ ?_
  exact ⟨rfl, rfl, rfl⟩

set_option maxRecDepth 100000 in
set_option maxHeartbeats 1000000 in
theorem s3_seenAt_l {xt : Nat × (Nat → Int)} {M : gj_M} {f c rub : Int} (hf : 0 ≤ f ∧ f < 48) (hc : 0 ≤ c ∧ c < 10) (hr : gj_in rub) (hL : 0 ≤ M 10 1 ∧ M 10 1 ≤ 4) (hD : 0 ≤ M 10 0 ∧ M 10 0 ≤ 6) (hdl : ∀ l : Int, 0 ≤ l → l < 4 → (0 ≤ M 18 l ∧ M 18 l ≤ 9) ∧ 0 ≤ M 13 l ∧ M 13 l ≤ 48) (hpn : ∀ q : Int, 0 ≤ q → q < 5 → (-9 ≤ M 19 q ∧ M 19 q ≤ 9) ∧ (-3 ≤ M 20 q ∧ M 20 q ≤ 3) ∧ 1 ≤ M 21 q ∧ M 21 q ≤ 9) (hxw : ∀ d : Int, 0 ≤ d → d < 6 → (0 ≤ M 16 d ∧ M 16 d ≤ 9) ∧ 0 ≤ M 17 d ∧ M 17 d ≤ 5) (ho : 0 ≤ (p_or (M 10 1) (M 15 6) (M 22) (M 23) f) ∧ (p_or (M 10 1) (M 15 6) (M 22) (M 23) f) ≤ 9999) (hdg : ∀ i : Int, 0 ≤ i → i < M 10 1 → p_li (M 10 1) (p_or (M 10 1) (M 15 6) (M 22) (M 23) f) i < M 10 1) : ∀ (n k : Nat), (k : Int) + n = M 10 1 → gj_G xt Y3_seenAt gS 0 0 10 [some (gR 9), some (gI f), some (gI c), some (gI rub), some (gI (p_or (M 10 1) (M 15 6) (M 22) (M 23) f)), some (gI (k : Int)), none, none] [] M (fun r S2 M2 => S2 = gS ∧ r = some (gI (p_first (p_va (M 10 1) (M 10 0) (p_or (M 10 1) (M 15 6) (M 22) (M 23) f) (M 18) (M 13) (M 14) (M 16) (M 17) (M 19) (M 20) (M 21) f c rub) n k)) ∧ M2 = M) := by
  intro n
  induction n with
  | zero =>
    intro k hk
    refine gj_iload 12 dX3_seenAt_10 rfl rfl ?_
    refine gj_aload_n 13 dX3_seenAt_12 rfl rfl ?_
    refine gj_getfr 16 dX3_seenAt_13 rfl fl_3_12 rfl rfl ?_
    refine gj_getfi 19 dX3_seenAt_16 rfl fl_3_57 rfl rfl (fun r_16 => ?_)
    refine gj_icmp_ge 92 22 dX3_seenAt_19 (by decide) rfl (by omega) (by omega) (fun c_19 => ?_) (fun c_19 => absurd c_19 (by omega))
    refine gj_bipush 94 dX3_seenAt_92 rfl (by decide) ?_
    refine gj_iret dX3_seenAt_94 rfl ⟨Nat.zero_le _, Nat.zero_le _⟩ ?_
    exact ⟨rfl, rfl, rfl⟩
  | succ n ih =>
    intro k hk
    refine gj_iload 12 dX3_seenAt_10 rfl rfl ?_
    refine gj_aload_n 13 dX3_seenAt_12 rfl rfl ?_
    refine gj_getfr 16 dX3_seenAt_13 rfl fl_3_12 rfl rfl ?_
    refine gj_getfi 19 dX3_seenAt_16 rfl fl_3_57 rfl rfl (fun r_16 => ?_)
    refine gj_icmp_ge 92 22 dX3_seenAt_19 (by decide) rfl (by omega) (by omega) (fun c_19 => absurd c_19 (by omega)) (fun c_19 => ?_)
    refine gj_rg (fun hR => ?_)
    have hx := p_ex_in (dl := M 18) (lg := M 13) (hR 14 (by decide)) (p_li (M 10 1) (p_or (M 10 1) (M 15 6) (M 22) (M 23) f) k) f
    have hb := p_li_b (L := M 10 1) (i := (k : Int)) ho.1
    have hg := hdg k (by omega)
    have h01 := p_cw_01 (M 10 0) (M 16) (M 17) (M 19) (M 20) (M 21) (p_li (M 10 1) (p_or (M 10 1) (M 15 6) (M 22) (M 23) f) k) (p_ex (M 18) (M 13) (M 14) (p_li (M 10 1) (p_or (M 10 1) (M 15 6) (M 22) (M 23) f) k) f) f c
    refine gj_aload_n 23 dX3_seenAt_22 rfl rfl ?_
    refine gj_iload 25 dX3_seenAt_23 rfl rfl ?_
    refine gj_iload 27 dX3_seenAt_25 rfl rfl ?_
    refine gj_fV 30 dX3_seenAt_27 rfl ok_3_levelInOrder ml_3_61 iv_3_levelInOrder (As := [gI _, gI _]) rfl rfl rfl rfl (Nat.le_of_ble_eq_true rfl) ⟨Nat.le_of_ble_eq_true rfl, Nat.le_of_ble_eq_true rfl⟩ (Nat.le_of_ble_eq_true rfl) ⟨rfl, rfl⟩ ⟨Nat.zero_le _, Nat.zero_le _⟩ (s3_levelInOrder (by omega) (by omega) hL) ?_
    refine gj_istore (lv' := [_, _, _, _, _, _, _, _]) 32 dX3_seenAt_30 rfl (by decide) rfl ?_
    refine gj_iload 34 dX3_seenAt_32 rfl rfl ?_
    refine gj_aload_n 35 dX3_seenAt_34 rfl rfl ?_
    refine gj_getfr 38 dX3_seenAt_35 rfl fl_3_12 rfl rfl ?_
    refine gj_getfi 41 dX3_seenAt_38 rfl fl_3_57 rfl rfl (fun r_38 => ?_)
    refine gj_icmp_ge 54 44 dX3_seenAt_41 (by decide) rfl (by omega) (by omega) (fun c_41 => absurd c_41 (by omega)) (fun c_41 => ?_)
    refine gj_aload_n 45 dX3_seenAt_44 rfl rfl ?_
    refine gj_iload 47 dX3_seenAt_45 rfl rfl ?_
    refine gj_iload_n 48 dX3_seenAt_47 rfl rfl ?_
    refine gj_fV 51 dX3_seenAt_48 rfl ok_3_drawingOn ml_3_84 iv_3_drawingOn (As := [gI _, gI _]) rfl rfl rfl rfl (Nat.le_of_ble_eq_true rfl) ⟨Nat.le_of_ble_eq_true rfl, Nat.le_of_ble_eq_true rfl⟩ (Nat.le_of_ble_eq_true rfl) ⟨rfl, rfl⟩ ⟨Nat.zero_le _, Nat.zero_le _⟩ (s3_drawingOn (by omega) hf hdl) ?_
    refine gj_goto 56 dX3_seenAt_51 (by decide) ?_
    refine gj_istore (lv' := [_, _, _, _, _, _, _, _]) 58 dX3_seenAt_56 rfl (by decide) rfl ?_
    refine gj_iload 60 dX3_seenAt_58 rfl rfl ?_
    refine gj_iload_n 61 dX3_seenAt_60 rfl rfl ?_
    refine gj_icmp_eq 86 64 dX3_seenAt_61 (by decide) rfl (by omega) (by omega) (fun c_61 => ?_) (fun c_61 => ?_)
    · refine gj_iinc (b := ((k + 1 : Nat) : Int)) (lv' := [_, _, _, _, _, _, _, _]) 89 dX3_seenAt_86 rfl rfl (by omega) (by decide) rfl ?_
      refine gj_goto 10 dX3_seenAt_89 (by decide) ?_
      have e : p_va (M 10 1) (M 10 0) (p_or (M 10 1) (M 15 6) (M 22) (M 23) f) (M 18) (M 13) (M 14) (M 16) (M 17) (M 19) (M 20) (M 21) f c rub k = -9 := if_neg (by omega)
      rw [p_first_go e]
      exact gj_wk (ih (k + 1) (by omega)) ⟨rfl, rfl, rfl, rfl, rfl, rfl, trivial⟩
    · refine gj_aload_n 65 dX3_seenAt_64 rfl rfl ?_
      refine gj_iload 67 dX3_seenAt_65 rfl rfl ?_
      refine gj_iload 69 dX3_seenAt_67 rfl rfl ?_
      refine gj_iload_n 70 dX3_seenAt_69 rfl rfl ?_
      refine gj_iload_n 71 dX3_seenAt_70 rfl rfl ?_
      refine gj_fV 74 dX3_seenAt_71 rfl ok_3_covers ml_3_87 iv_3_covers (As := [gI _, gI _, gI _, gI _]) rfl rfl rfl rfl (Nat.le_of_ble_eq_true rfl) ⟨Nat.le_of_ble_eq_true rfl, Nat.le_of_ble_eq_true rfl⟩ (Nat.le_of_ble_eq_true rfl) ⟨rfl, rfl⟩ ⟨Nat.zero_le _, Nat.zero_le _⟩ (s3_covers (fun _ _ => by omega) (by omega) hf hc hD hpn hxw) ?_
      refine gj_if_eq 86 77 dX3_seenAt_74 (by decide) rfl (by omega) (fun c_74 => ?_) (fun c_74 => ?_)
      · refine gj_iinc (b := ((k + 1 : Nat) : Int)) (lv' := [_, _, _, _, _, _, _, _]) 89 dX3_seenAt_86 rfl rfl (by omega) (by decide) rfl ?_
        refine gj_goto 10 dX3_seenAt_89 (by decide) ?_
        have e : p_va (M 10 1) (M 10 0) (p_or (M 10 1) (M 15 6) (M 22) (M 23) f) (M 18) (M 13) (M 14) (M 16) (M 17) (M 19) (M 20) (M 21) f c rub k = -9 := if_neg (by omega)
        rw [p_first_go e]
        exact gj_wk (ih (k + 1) (by omega)) ⟨rfl, rfl, rfl, rfl, rfl, rfl, trivial⟩
      · refine gj_bipush 79 dX3_seenAt_77 rfl (by decide) ?_
        refine gj_iload 81 dX3_seenAt_79 rfl rfl ?_
        refine gj_imul 82 dX3_seenAt_81 rfl ?_
        refine gj_iload 84 dX3_seenAt_82 rfl rfl ?_
        refine gj_iadd 85 dX3_seenAt_84 rfl ?_
        refine gj_iret dX3_seenAt_85 rfl ⟨Nat.zero_le _, Nat.zero_le _⟩ ?_
        have e : p_va (M 10 1) (M 10 0) (p_or (M 10 1) (M 15 6) (M 22) (M 23) f) (M 18) (M 13) (M 14) (M 16) (M 17) (M 19) (M 20) (M 21) f c rub k = 10 * p_li (M 10 1) (p_or (M 10 1) (M 15 6) (M 22) (M 23) f) k + p_ex (M 18) (M 13) (M 14) (p_li (M 10 1) (p_or (M 10 1) (M 15 6) (M 22) (M 23) f) k) f := if_pos (by omega)
        refine ⟨rfl, ?_, rfl⟩
        rw [p_first_stop (by rw [e]; have h3 := h01; unfold p_cw at h3 c_74; split at c_74 <;> omega), e]

set_option maxRecDepth 100000 in
set_option maxHeartbeats 1000000 in
theorem s3_seenAt {xt : Nat × (Nat → Int)} {M : gj_M} {f c rub : Int} (hf : 0 ≤ f ∧ f < 48) (hc : 0 ≤ c ∧ c < 10) (hr : gj_in rub) (hL : 0 ≤ M 10 1 ∧ M 10 1 ≤ 4) (hD : 0 ≤ M 10 0 ∧ M 10 0 ≤ 6) (hdl : ∀ l : Int, 0 ≤ l → l < 4 → (0 ≤ M 18 l ∧ M 18 l ≤ 9) ∧ 0 ≤ M 13 l ∧ M 13 l ≤ 48) (hpn : ∀ q : Int, 0 ≤ q → q < 5 → (-9 ≤ M 19 q ∧ M 19 q ≤ 9) ∧ (-3 ≤ M 20 q ∧ M 20 q ≤ 3) ∧ 1 ≤ M 21 q ∧ M 21 q ≤ 9) (hxw : ∀ d : Int, 0 ≤ d → d < 6 → (0 ≤ M 16 d ∧ M 16 d ≤ 9) ∧ 0 ≤ M 17 d ∧ M 17 d ≤ 5) (ho : 0 ≤ (p_or (M 10 1) (M 15 6) (M 22) (M 23) f) ∧ (p_or (M 10 1) (M 15 6) (M 22) (M 23) f) ≤ 9999) (hdg : ∀ i : Int, 0 ≤ i → i < M 10 1 → p_li (M 10 1) (p_or (M 10 1) (M 15 6) (M 22) (M 23) f) i < M 10 1) (hsw : 0 ≤ M 15 6 ∧ M 15 6 ≤ 4)  : gj_F xt Y3_seenAt gS [gR 9, gI f, gI c, gI rub] M (some (gI (p_first (p_va (M 10 1) (M 10 0) (p_or (M 10 1) (M 15 6) (M 22) (M 23) f) (M 18) (M 13) (M 14) (M 16) (M 17) (M 19) (M 20) (M 21) f c rub) (M 10 1).toNat 0))) M := by
  show gj_G _ Y3_seenAt gS 0 0 0 [_, _, _, _, _, _, _, _] [] M _
  refine gj_aload_n 1 dX3_seenAt_0 rfl rfl ?_
  refine gj_iload_n 2 dX3_seenAt_1 rfl rfl ?_
  refine gj_fV 5 dX3_seenAt_2 rfl ok_3_orderAt ml_3_91 iv_3_orderAt (As := [gI _]) rfl rfl rfl rfl (Nat.le_of_ble_eq_true rfl) ⟨Nat.le_of_ble_eq_true rfl, Nat.le_of_ble_eq_true rfl⟩ (Nat.le_of_ble_eq_true rfl) ⟨rfl, rfl⟩ ⟨Nat.zero_le _, Nat.zero_le _⟩ (s3_orderAt hf hL hsw) ?_
  refine gj_istore (lv' := [_, _, _, _, _, _, _, _]) 7 dX3_seenAt_5 rfl (by decide) rfl ?_
  refine gj_iconst 8 dX3_seenAt_7 rfl ?_
  refine gj_istore (lv' := [_, _, _, _, _, _, _, _]) 10 dX3_seenAt_8 rfl (by decide) rfl ?_
  exact gj_wk (s3_seenAt_l hf hc hr hL hD hdl hpn hxw ho hdg (M 10 1).toNat 0 (by omega)) ⟨rfl, rfl, rfl, rfl, rfl, rfl, trivial⟩

set_option maxRecDepth 100000 in
set_option maxHeartbeats 1000000 in
theorem s3_levelsCovering_l {xt : Nat × (Nat → Int)} {M : gj_M} {f c : Int} (hf : 0 ≤ f ∧ f < 48) (hc : 0 ≤ c ∧ c < 10) (hL : 0 ≤ M 10 1 ∧ M 10 1 ≤ 4) (hD : 0 ≤ M 10 0 ∧ M 10 0 ≤ 6) (hdl : ∀ l : Int, 0 ≤ l → l < 4 → (0 ≤ M 18 l ∧ M 18 l ≤ 9) ∧ 0 ≤ M 13 l ∧ M 13 l ≤ 48) (hpn : ∀ q : Int, 0 ≤ q → q < 5 → (-9 ≤ M 19 q ∧ M 19 q ≤ 9) ∧ (-3 ≤ M 20 q ∧ M 20 q ≤ 3) ∧ 1 ≤ M 21 q ∧ M 21 q ≤ 9) (hxw : ∀ d : Int, 0 ≤ d → d < 6 → (0 ≤ M 16 d ∧ M 16 d ≤ 9) ∧ 0 ≤ M 17 d ∧ M 17 d ≤ 5)  : ∀ (n k : Nat), (k : Int) + n = M 10 1 → gj_G xt Y3_levelsCovering gS 0 0 5 [some (gR 9), some (gI f), some (gI c), some (gI (p_sum (fun l : Nat => p_cw (M 10 0) (M 16) (M 17) (M 19) (M 20) (M 21) l (p_ex (M 18) (M 13) (M 14) l f) f c) k)), some (gI (k : Int))] [] M (fun r S2 M2 => S2 = gS ∧ r = some (gI (p_sum (fun l : Nat => p_cw (M 10 0) (M 16) (M 17) (M 19) (M 20) (M 21) l (p_ex (M 18) (M 13) (M 14) l f) f c) (M 10 1).toNat)) ∧ M2 = M) := by
  intro n
  induction n with
  | zero =>
    intro k hk
    refine gj_iload 7 dX3_levelsCovering_5 rfl rfl ?_
    refine gj_aload_n 8 dX3_levelsCovering_7 rfl rfl ?_
    refine gj_getfr 11 dX3_levelsCovering_8 rfl fl_3_12 rfl rfl ?_
    refine gj_getfi 14 dX3_levelsCovering_11 rfl fl_3_57 rfl rfl (fun r_11 => ?_)
    refine gj_icmp_ge 37 17 dX3_levelsCovering_14 (by decide) rfl (by omega) (by omega) (fun c_14 => ?_) (fun c_14 => absurd c_14 (by omega))
    refine gj_iload_n 38 dX3_levelsCovering_37 rfl rfl ?_
    refine gj_iret dX3_levelsCovering_38 rfl ⟨Nat.zero_le _, Nat.zero_le _⟩ ?_
    exact ⟨rfl, by rw [show (M 10 1).toNat = k by omega], rfl⟩
  | succ n ih =>
    intro k hk
    refine gj_iload 7 dX3_levelsCovering_5 rfl rfl ?_
    refine gj_aload_n 8 dX3_levelsCovering_7 rfl rfl ?_
    refine gj_getfr 11 dX3_levelsCovering_8 rfl fl_3_12 rfl rfl ?_
    refine gj_getfi 14 dX3_levelsCovering_11 rfl fl_3_57 rfl rfl (fun r_11 => ?_)
    refine gj_icmp_ge 37 17 dX3_levelsCovering_14 (by decide) rfl (by omega) (by omega) (fun c_14 => absurd c_14 (by omega)) (fun c_14 => ?_)
    refine gj_aload_n 18 dX3_levelsCovering_17 rfl rfl ?_
    refine gj_iload 20 dX3_levelsCovering_18 rfl rfl ?_
    refine gj_iload_n 21 dX3_levelsCovering_20 rfl rfl ?_
    refine gj_iload_n 22 dX3_levelsCovering_21 rfl rfl ?_
    have h01 := p_cw_01 (M 10 0) (M 16) (M 17) (M 19) (M 20) (M 21) k (p_ex (M 18) (M 13) (M 14) k f) f c
    refine gj_fV 25 dX3_levelsCovering_22 rfl ok_3_levelCovers ml_3_94 iv_3_levelCovers (As := [gI _, gI _, gI _]) rfl rfl rfl rfl (Nat.le_of_ble_eq_true rfl) ⟨Nat.le_of_ble_eq_true rfl, Nat.le_of_ble_eq_true rfl⟩ (Nat.le_of_ble_eq_true rfl) ⟨rfl, rfl⟩ ⟨Nat.zero_le _, Nat.zero_le _⟩ (s3_levelCovers (by omega) hf hc hD hdl hpn hxw) ?_
    refine gj_if_eq 31 28 dX3_levelsCovering_25 (by decide) rfl (by omega) (fun c_25 => ?_) (fun c_25 => ?_)
    · refine gj_iinc (b := ((k + 1 : Nat) : Int)) (lv' := [_, _, _, _, _]) 34 dX3_levelsCovering_31 rfl rfl (by omega) (by decide) rfl ?_
      refine gj_goto 5 dX3_levelsCovering_34 (by decide) ?_
      have h := ih (k + 1) (by omega)
      have h01 := p_cw_01 (M 10 0) (M 16) (M 17) (M 19) (M 20) (M 21) k (p_ex (M 18) (M 13) (M 14) k f) f c
      first
      | (rw [show p_sum (fun l : Nat => p_cw (M 10 0) (M 16) (M 17) (M 19) (M 20) (M 21) l (p_ex (M 18) (M 13) (M 14) l f) f c) (k + 1) = p_sum (fun l : Nat => p_cw (M 10 0) (M 16) (M 17) (M 19) (M 20) (M 21) l (p_ex (M 18) (M 13) (M 14) l f) f c) k + 1 by show p_sum (fun l : Nat => p_cw (M 10 0) (M 16) (M 17) (M 19) (M 20) (M 21) l (p_ex (M 18) (M 13) (M 14) l f) f c) k + p_cw (M 10 0) (M 16) (M 17) (M 19) (M 20) (M 21) k (p_ex (M 18) (M 13) (M 14) k f) f c = _; omega] at h; exact gj_wk h ⟨rfl, rfl, rfl, rfl, rfl, trivial⟩)
      | (rw [show p_sum (fun l : Nat => p_cw (M 10 0) (M 16) (M 17) (M 19) (M 20) (M 21) l (p_ex (M 18) (M 13) (M 14) l f) f c) (k + 1) = p_sum (fun l : Nat => p_cw (M 10 0) (M 16) (M 17) (M 19) (M 20) (M 21) l (p_ex (M 18) (M 13) (M 14) l f) f c) k by show p_sum (fun l : Nat => p_cw (M 10 0) (M 16) (M 17) (M 19) (M 20) (M 21) l (p_ex (M 18) (M 13) (M 14) l f) f c) k + p_cw (M 10 0) (M 16) (M 17) (M 19) (M 20) (M 21) k (p_ex (M 18) (M 13) (M 14) k f) f c = _; omega] at h; exact gj_wk h ⟨rfl, rfl, rfl, rfl, rfl, trivial⟩)
    · refine gj_iinc (lv' := [_, _, _, _, _]) 31 dX3_levelsCovering_28 rfl rfl rfl (by decide) rfl ?_
      refine gj_iinc (b := ((k + 1 : Nat) : Int)) (lv' := [_, _, _, _, _]) 34 dX3_levelsCovering_31 rfl rfl (by omega) (by decide) rfl ?_
      refine gj_goto 5 dX3_levelsCovering_34 (by decide) ?_
      have h := ih (k + 1) (by omega)
      have h01 := p_cw_01 (M 10 0) (M 16) (M 17) (M 19) (M 20) (M 21) k (p_ex (M 18) (M 13) (M 14) k f) f c
      first
      | (rw [show p_sum (fun l : Nat => p_cw (M 10 0) (M 16) (M 17) (M 19) (M 20) (M 21) l (p_ex (M 18) (M 13) (M 14) l f) f c) (k + 1) = p_sum (fun l : Nat => p_cw (M 10 0) (M 16) (M 17) (M 19) (M 20) (M 21) l (p_ex (M 18) (M 13) (M 14) l f) f c) k + 1 by show p_sum (fun l : Nat => p_cw (M 10 0) (M 16) (M 17) (M 19) (M 20) (M 21) l (p_ex (M 18) (M 13) (M 14) l f) f c) k + p_cw (M 10 0) (M 16) (M 17) (M 19) (M 20) (M 21) k (p_ex (M 18) (M 13) (M 14) k f) f c = _; omega] at h; exact gj_wk h ⟨rfl, rfl, rfl, rfl, rfl, trivial⟩)
      | (rw [show p_sum (fun l : Nat => p_cw (M 10 0) (M 16) (M 17) (M 19) (M 20) (M 21) l (p_ex (M 18) (M 13) (M 14) l f) f c) (k + 1) = p_sum (fun l : Nat => p_cw (M 10 0) (M 16) (M 17) (M 19) (M 20) (M 21) l (p_ex (M 18) (M 13) (M 14) l f) f c) k by show p_sum (fun l : Nat => p_cw (M 10 0) (M 16) (M 17) (M 19) (M 20) (M 21) l (p_ex (M 18) (M 13) (M 14) l f) f c) k + p_cw (M 10 0) (M 16) (M 17) (M 19) (M 20) (M 21) k (p_ex (M 18) (M 13) (M 14) k f) f c = _; omega] at h; exact gj_wk h ⟨rfl, rfl, rfl, rfl, rfl, trivial⟩)

set_option maxRecDepth 100000 in
set_option maxHeartbeats 1000000 in
theorem s3_levelsCovering {xt : Nat × (Nat → Int)} {M : gj_M} {f c : Int} (hf : 0 ≤ f ∧ f < 48) (hc : 0 ≤ c ∧ c < 10) (hL : 0 ≤ M 10 1 ∧ M 10 1 ≤ 4) (hD : 0 ≤ M 10 0 ∧ M 10 0 ≤ 6) (hdl : ∀ l : Int, 0 ≤ l → l < 4 → (0 ≤ M 18 l ∧ M 18 l ≤ 9) ∧ 0 ≤ M 13 l ∧ M 13 l ≤ 48) (hpn : ∀ q : Int, 0 ≤ q → q < 5 → (-9 ≤ M 19 q ∧ M 19 q ≤ 9) ∧ (-3 ≤ M 20 q ∧ M 20 q ≤ 3) ∧ 1 ≤ M 21 q ∧ M 21 q ≤ 9) (hxw : ∀ d : Int, 0 ≤ d → d < 6 → (0 ≤ M 16 d ∧ M 16 d ≤ 9) ∧ 0 ≤ M 17 d ∧ M 17 d ≤ 5)  : gj_F xt Y3_levelsCovering gS [gR 9, gI f, gI c] M (some (gI (p_sum (fun l : Nat => p_cw (M 10 0) (M 16) (M 17) (M 19) (M 20) (M 21) l (p_ex (M 18) (M 13) (M 14) l f) f c) (M 10 1).toNat))) M := by
  show gj_G _ Y3_levelsCovering gS 0 0 0 [_, _, _, _, _] [] M _
  refine gj_iconst 1 dX3_levelsCovering_0 rfl ?_
  refine gj_istore_n (lv' := [_, _, _, _, _]) 2 dX3_levelsCovering_1 rfl (by decide) rfl ?_
  refine gj_iconst 3 dX3_levelsCovering_2 rfl ?_
  refine gj_istore (lv' := [_, _, _, _, _]) 5 dX3_levelsCovering_3 rfl (by decide) rfl ?_
  exact gj_wk (s3_levelsCovering_l hf hc hL hD hdl hpn hxw (M 10 1).toNat 0 (by omega)) ⟨rfl, rfl, rfl, rfl, rfl, trivial⟩
