theorem y_fg_c {M0 M : gj_M} {t : Int → Int} {N q : Nat} {a b : Int} (hF : v_F M0 M) (hN2 : M0 69 2 = (N : Int)) (ht : ∀ i : Nat, i < N → M0 70 i = t i) (hq : M 69 3 = (q : Int)) : (q < N ∧ (a ≤ t q - 48 ∧ t q - 48 ≤ b) ∧ y_fg M a b = t q - 48 ∧ y_fm M a b = gj_u M 69 3 ((q + 1 : Nat) : Int)) ∨ (¬ (q < N ∧ a ≤ t q - 48 ∧ t q - 48 ≤ b) ∧ y_fg M a b = -9 ∧ y_fm M a b = M) := by
  have e2 : M 69 2 = (N : Int) := by rw [hF.2.1 2 (by omega) (by omega) (by omega)]; exact hN2
  unfold y_fg y_fm
  rw [e2, hq]
  by_cases z : q < N
  · rw [show M 70 (q : Int) = t q by rw [hF.1 70 (by decide)]; exact ht q z]
    by_cases w : a ≤ t q - 48 ∧ t q - 48 ≤ b
    · exact Or.inl ⟨z, w, if_pos ⟨by omega, w⟩, by rw [if_pos ⟨by omega, w⟩]; rfl⟩
    · exact Or.inr ⟨fun y => w y.2, if_neg (fun y => w y.2), if_neg (fun y => w y.2)⟩
  · exact Or.inr ⟨fun y => z y.1, if_neg (fun y => z (by omega)), if_neg (fun y => z (by omega))⟩

set_option maxRecDepth 100000 in
set_option maxHeartbeats 1000000 in
theorem s8_figure {xt : Nat × (Nat → Int)} {M : gj_M} {a b : Int} (ha : 0 ≤ a ∧ a ≤ 9) (hb : 0 ≤ b ∧ b ≤ 9) (hp : 0 ≤ M 69 3 ∧ M 69 3 ≤ 80) (hn : 0 ≤ M 69 2 ∧ M 69 2 ≤ 80) (ht : ∀ i : Int, 0 ≤ i → i < M 69 2 → 0 ≤ M 70 i ∧ M 70 i ≤ 255) : gj_F xt Y8_figure gS [gR 69, gI a, gI b] M (some (gI (y_fg M a b))) (y_fm M a b) := by
  show gj_G _ Y8_figure gS 0 0 0 [_, _, _, _] [] M _
  refine gj_aload_n 1 dX8_figure_0 rfl rfl ?_
  refine gj_getfi 4 dX8_figure_1 rfl fl_8_90 rfl rfl (fun r_1 => ?_)
  refine gj_aload_n 5 dX8_figure_4 rfl rfl ?_
  refine gj_getfi 8 dX8_figure_5 rfl fl_8_87 rfl rfl (fun r_5 => ?_)
  refine gj_icmp_ge 26 11 dX8_figure_8 (by decide) rfl (by omega) (by omega) (fun c_8 => ?_) (fun c_8 => ?_)
  · refine gj_bipush 28 dX8_figure_26 rfl (by decide) ?_
    refine gj_istore_n (lv' := [_, _, _, _]) 29 dX8_figure_28 rfl (by decide) rfl ?_
    refine gj_iload_n 30 dX8_figure_29 rfl rfl ?_
    refine gj_i2l 31 dX8_figure_30 rfl (by omega) ?_
    refine gj_iload_n 32 dX8_figure_31 rfl rfl ?_
    refine gj_i2l 33 dX8_figure_32 rfl (by omega) ?_
    refine gj_iload_n 34 dX8_figure_33 rfl rfl ?_
    refine gj_i2l 35 dX8_figure_34 rfl (by omega) ?_
    refine gj_fS 38 dX8_figure_35 rfl ok_8_in ml_8_76 is_8_in (As := [gL _, gL _, gL _]) rfl rfl (Nat.le_of_ble_eq_true rfl) ⟨Nat.le_of_ble_eq_true rfl, Nat.le_of_ble_eq_true rfl⟩ (Nat.le_of_ble_eq_true rfl) ⟨rfl, rfl⟩ ⟨Nat.zero_le _, Nat.zero_le _⟩ (s8_in (by omega) (by omega) (by omega)) ?_
    have hc1 := y_in_c (M 70 (M 69 3) - 48) a b
    have hc2 := y_in_c (-9) a b
    refine gj_if_ne 44 41 dX8_figure_38 (by decide) rfl (by omega) (fun c_38 => ?_) (fun c_38 => ?_)
    · refine gj_aload_n 45 dX8_figure_44 rfl rfl ?_
      refine gj_dup 46 dX8_figure_45 rfl (fun _ => rfl) ?_
      refine gj_getfi 49 dX8_figure_46 rfl fl_8_90 rfl rfl (fun r_46 => ?_)
      refine gj_iconst 50 dX8_figure_49 rfl ?_
      refine gj_iadd 51 dX8_figure_50 rfl ?_
      refine gj_putfi 54 dX8_figure_51 rfl fw_8_90 rfl rfl (by omega) ?_
      refine gj_iload_n 55 dX8_figure_54 rfl rfl ?_
      refine gj_iret dX8_figure_55 rfl ⟨Nat.zero_le _, Nat.zero_le _⟩ ?_
      first
      | exact absurd (show y_in (-9) a b = 0 by omega) c_38
      | exact ⟨rfl, by (unfold y_fg; (repeat (first | rw [if_pos (by omega)] | rw [if_neg (by omega)])); try rfl), by (unfold y_fm; (repeat (first | rw [if_pos (by omega)] | rw [if_neg (by omega)])); try rfl)⟩
    · refine gj_bipush 43 dX8_figure_41 rfl (by decide) ?_
      refine gj_iret dX8_figure_43 rfl ⟨Nat.zero_le _, Nat.zero_le _⟩ ?_
      exact ⟨rfl, by (unfold y_fg; (repeat (first | rw [if_pos (by omega)] | rw [if_neg (by omega)])); try rfl), by (unfold y_fm; (repeat (first | rw [if_pos (by omega)] | rw [if_neg (by omega)])); try rfl)⟩
  · have h7 := ht (M 69 3) (by omega) (by omega)
    refine gj_aload_n 12 dX8_figure_11 rfl rfl ?_
    refine gj_getfr 15 dX8_figure_12 rfl fl_8_7 rfl rfl ?_
    refine gj_aload_n 16 dX8_figure_15 rfl rfl ?_
    refine gj_getfi 19 dX8_figure_16 rfl fl_8_90 rfl rfl (fun r_16 => ?_)
    refine gj_iald 20 dX8_figure_19 rfl rfl (by omega) (by omega) (fun r_19 => ?_)
    refine gj_bipush 22 dX8_figure_20 rfl (by decide) ?_
    refine gj_isub 23 dX8_figure_22 rfl ?_
    refine gj_goto 28 dX8_figure_23 (by decide) ?_
    refine gj_istore_n (lv' := [_, _, _, _]) 29 dX8_figure_28 rfl (by decide) rfl ?_
    refine gj_iload_n 30 dX8_figure_29 rfl rfl ?_
    refine gj_i2l 31 dX8_figure_30 rfl (by omega) ?_
    refine gj_iload_n 32 dX8_figure_31 rfl rfl ?_
    refine gj_i2l 33 dX8_figure_32 rfl (by omega) ?_
    refine gj_iload_n 34 dX8_figure_33 rfl rfl ?_
    refine gj_i2l 35 dX8_figure_34 rfl (by omega) ?_
    refine gj_fS 38 dX8_figure_35 rfl ok_8_in ml_8_76 is_8_in (As := [gL _, gL _, gL _]) rfl rfl (Nat.le_of_ble_eq_true rfl) ⟨Nat.le_of_ble_eq_true rfl, Nat.le_of_ble_eq_true rfl⟩ (Nat.le_of_ble_eq_true rfl) ⟨rfl, rfl⟩ ⟨Nat.zero_le _, Nat.zero_le _⟩ (s8_in (by omega) (by omega) (by omega)) ?_
    have hc1 := y_in_c (M 70 (M 69 3) - 48) a b
    have hc2 := y_in_c (-9) a b
    refine gj_if_ne 44 41 dX8_figure_38 (by decide) rfl (by omega) (fun c_38 => ?_) (fun c_38 => ?_)
    · refine gj_aload_n 45 dX8_figure_44 rfl rfl ?_
      refine gj_dup 46 dX8_figure_45 rfl (fun _ => rfl) ?_
      refine gj_getfi 49 dX8_figure_46 rfl fl_8_90 rfl rfl (fun r_46 => ?_)
      refine gj_iconst 50 dX8_figure_49 rfl ?_
      refine gj_iadd 51 dX8_figure_50 rfl ?_
      refine gj_putfi 54 dX8_figure_51 rfl fw_8_90 rfl rfl (by omega) ?_
      refine gj_iload_n 55 dX8_figure_54 rfl rfl ?_
      refine gj_iret dX8_figure_55 rfl ⟨Nat.zero_le _, Nat.zero_le _⟩ ?_
      first
      | exact absurd (show y_in (-9) a b = 0 by omega) c_38
      | exact ⟨rfl, by (unfold y_fg; (repeat (first | rw [if_pos (by omega)] | rw [if_neg (by omega)])); try rfl), by (unfold y_fm; (repeat (first | rw [if_pos (by omega)] | rw [if_neg (by omega)])); try rfl)⟩
    · refine gj_bipush 43 dX8_figure_41 rfl (by decide) ?_
      refine gj_iret dX8_figure_43 rfl ⟨Nat.zero_le _, Nat.zero_le _⟩ ?_
      exact ⟨rfl, by (unfold y_fg; (repeat (first | rw [if_pos (by omega)] | rw [if_neg (by omega)])); try rfl), by (unfold y_fm; (repeat (first | rw [if_pos (by omega)] | rw [if_neg (by omega)])); try rfl)⟩

theorem s8_fig {xt : Nat × (Nat → Int)} {M : gj_M} {M0 : gj_M} {t : Int → Int} {N : Nat} (hN : N ≤ 80) (hN2 : M0 69 2 = (N : Int)) (ht : ∀ i : Nat, i < N → M0 70 i = t i) (hc : ∀ i : Nat, i < N → 0 ≤ t i ∧ t i ≤ 255) {q : Nat} {a b : Int} (ha : 0 ≤ a ∧ a ≤ 9) (hb : 0 ≤ b ∧ b ≤ 9) (hF : v_F M0 M) (hq : M 69 3 = (q : Int)) (hqN : q ≤ N) : gj_F xt Y8_figure gS [gR 69, gI a, gI b] M (some (gI (y_fg M a b))) (y_fm M a b) := by
  have e2 : M 69 2 = (N : Int) := by rw [hF.2.1 2 (by omega) (by omega) (by omega)]; exact hN2
  refine s8_figure ha hb (by omega) (by omega) (fun i h0 h1 => ?_)
  obtain ⟨j, rfl⟩ := Int.eq_ofNat_of_zero_le h0
  rw [hF.1 70 (by decide), ht j (by omega)]
  exact hc j (by omega)

set_option maxRecDepth 100000 in
set_option maxHeartbeats 1000000 in
theorem s8_spread_l {xt : Nat × (Nat → Int)} {M : gj_M} {d N : Int} (hR : y_RI M) (hd : gj_in d) (hN : 0 ≤ N ∧ N ≤ 100) : ∀ (n k : Nat), (k : Int) + n = N → gj_G xt Y8_spread gS 0 0 2 [some (gR 69), some (gI d), some (gI N), some (gI (k : Int))] [] (y_ho M d k) (fun r S2 M2 => S2 = gS ∧ r = none ∧ M2 = y_ho M d N.toNat) := by
  intro n
  induction n with
  | zero =>
    intro k hk
    have hk0 := y_ho_RI (d := d) hR k
    have hb1 := hk0.1
    have hb2 := hk0.2
    refine gj_iload_n 3 dX8_spread_2 rfl rfl ?_
    refine gj_iload_n 4 dX8_spread_3 rfl rfl ?_
    refine gj_icmp_ge 63 7 dX8_spread_4 (by decide) rfl (by omega) (by omega) (fun c_4 => ?_) (fun c_4 => absurd c_4 (by omega))
    refine gj_vret dX8_spread_63 rfl ⟨Nat.zero_le _, Nat.zero_le _⟩ ?_
    exact ⟨rfl, rfl, by rw [show k = N.toNat by omega]⟩
  | succ n ih =>
    intro k hk
    have hk0 := y_ho_RI (d := d) hR k
    have hb1 := hk0.1
    have hb2 := hk0.2
    refine gj_iload_n 3 dX8_spread_2 rfl rfl ?_
    refine gj_iload_n 4 dX8_spread_3 rfl rfl ?_
    refine gj_icmp_ge 63 7 dX8_spread_4 (by decide) rfl (by omega) (by omega) (fun c_4 => absurd c_4 (by omega)) (fun c_4 => ?_)
    refine gj_aload_n 8 dX8_spread_7 rfl rfl ?_
    refine gj_getfr 11 dX8_spread_8 rfl fl_8_22 rfl rfl ?_
    refine gj_aload_n 12 dX8_spread_11 rfl rfl ?_
    refine gj_getfi 15 dX8_spread_12 rfl fl_8_100 rfl rfl (fun r_12 => ?_)
    refine gj_iald 16 dX8_spread_15 rfl rfl (by omega) (by omega) (fun r_15 => ?_)
    refine gj_bipush 18 dX8_spread_16 rfl (by decide) ?_
    refine gj_icmp_ge 63 21 dX8_spread_18 (by decide) rfl (by omega) (by omega) (fun c_18 => ?_) (fun c_18 => ?_)
    · refine gj_vret dX8_spread_63 rfl ⟨Nat.zero_le _, Nat.zero_le _⟩ ?_
      exact ⟨rfl, rfl, by rw [show N.toNat = k + (n + 1) by omega, y_ho_full (by omega)]⟩
    · refine gj_aload_n 22 dX8_spread_21 rfl rfl ?_
      refine gj_getfr 25 dX8_spread_22 rfl fl_8_19 rfl rfl ?_
      refine gj_bipush 27 dX8_spread_25 rfl (by decide) ?_
      refine gj_aload_n 28 dX8_spread_27 rfl rfl ?_
      refine gj_getfi 31 dX8_spread_28 rfl fl_8_100 rfl rfl (fun r_28 => ?_)
      refine gj_imul 32 dX8_spread_31 rfl ?_
      refine gj_aload_n 33 dX8_spread_32 rfl rfl ?_
      refine gj_getfr 36 dX8_spread_33 rfl fl_8_22 rfl rfl ?_
      refine gj_aload_n 37 dX8_spread_36 rfl rfl ?_
      refine gj_getfi 40 dX8_spread_37 rfl fl_8_100 rfl rfl (fun r_37 => ?_)
      refine gj_iald 41 dX8_spread_40 rfl rfl (by omega) (by omega) (fun r_40 => ?_)
      refine gj_iadd 42 dX8_spread_41 rfl ?_
      refine gj_iload_n 43 dX8_spread_42 rfl rfl ?_
      refine gj_iast 44 dX8_spread_43 rfl rfl (by omega) (by omega) (by omega) ?_
      refine gj_aload_n 45 dX8_spread_44 rfl rfl ?_
      refine gj_getfr 48 dX8_spread_45 rfl fl_8_22 rfl rfl ?_
      refine gj_aload_n 49 dX8_spread_48 rfl rfl ?_
      refine gj_getfiE (y_ho M d k 69 9) 52 dX8_spread_49 rfl fl_8_100 rfl rfl rfl (fun r_49 => ?_)
      refine gj_dup2 53 dX8_spread_52 rfl (fun _ => rfl) (fun _ => rfl) ?_
      refine gj_ialdE (y_ho M d k 74 (y_ho M d k 69 9)) 54 dX8_spread_53 rfl rfl (by omega) (by omega) rfl (fun r_53 => ?_)
      refine gj_iconst 55 dX8_spread_54 rfl ?_
      refine gj_iadd 56 dX8_spread_55 rfl ?_
      refine gj_iast 57 dX8_spread_56 rfl rfl (by omega) (by omega) (by omega) ?_
      refine gj_iinc (b := ((k + 1 : Nat) : Int)) (lv' := [_, _, _, _]) 60 dX8_spread_57 rfl rfl (by omega) (by decide) rfl ?_
      refine gj_goto 2 dX8_spread_60 (by decide) ?_
      have h := ih (k + 1) (by omega)
      rw [show y_ho M d (k + 1) = gj_u (gj_u (y_ho M d k) 73 (48 * y_ho M d k 69 9 + y_ho M d k 74 (y_ho M d k 69 9)) d) 74 (y_ho M d k 69 9) (y_ho M d k 74 (y_ho M d k 69 9) + 1) from if_pos (by omega)] at h
      exact gj_wk h ⟨rfl, rfl, rfl, rfl, trivial⟩

set_option maxRecDepth 100000 in
set_option maxHeartbeats 1000000 in
theorem s8_spread {xt : Nat × (Nat → Int)} {M : gj_M} {d N : Int} (hR : y_RI M) (hd : gj_in d) (hN : 0 ≤ N ∧ N ≤ 100) : gj_F xt Y8_spread gS [gR 69, gI d, gI N] M none (y_ho M d N.toNat) := by
  show gj_G _ Y8_spread gS 0 0 0 [_, _, _, _] [] M _
  refine gj_iconst 1 dX8_spread_0 rfl ?_
  refine gj_istore_n (lv' := [_, _, _, _]) 2 dX8_spread_1 rfl (by decide) rfl ?_
  exact gj_wk (s8_spread_l hR hd hN N.toNat 0 (by omega)) ⟨rfl, rfl, rfl, rfl, trivial⟩

set_option maxRecDepth 100000 in
set_option maxHeartbeats 1000000 in
theorem s8_ov_i {xt : Nat × (Nat → Int)} {M : gj_M} {st kk en c5 : Int} {Q : Option gj_V → List gj_H → gj_M → Prop} (hR : y_RI M) (hs : 0 ≤ st ∧ st ≤ 48) (he : 0 ≤ en ∧ en ≤ 48) (kz : gj_G xt Y8_over gS 0 0 54 [some (gR 69), some (gI st), some (gI kk), some (gI en), some (gI c5), some (gI (st + ((en - st).toNat : Nat)))] [] (y_r1 M st (en - st).toNat) Q) : ∀ (n j : Nat), j + n = (en - st).toNat → gj_G xt Y8_over gS 0 0 22 [some (gR 69), some (gI st), some (gI kk), some (gI en), some (gI c5), some (gI (st + (j : Int)))] [] (y_r1 M st j) Q := by
  intro n
  induction n with
  | zero =>
    intro j hj
    have hIj := y_r1_RI (st := st) hR j
    have hb1 := hIj.1
    refine gj_iload 24 dX8_over_22 rfl rfl ?_
    refine gj_iload_n 25 dX8_over_24 rfl rfl ?_
    refine gj_icmp_ge 54 28 dX8_over_25 (by decide) rfl (by omega) (by omega) (fun c_25 => ?_) (fun c_25 => absurd c_25 (by omega))
    have hj2 : j = (en - st).toNat := by omega
    subst hj2
    exact gj_wk kz ⟨rfl, rfl, rfl, rfl, rfl, rfl, trivial⟩
  | succ n ih =>
    intro j hj
    have hIj := y_r1_RI (st := st) hR j
    have hb1 := hIj.1
    refine gj_iload 24 dX8_over_22 rfl rfl ?_
    refine gj_iload_n 25 dX8_over_24 rfl rfl ?_
    refine gj_icmp_ge 54 28 dX8_over_25 (by decide) rfl (by omega) (by omega) (fun c_25 => absurd c_25 (by omega)) (fun c_25 => ?_)
    refine gj_aload_n 29 dX8_over_28 rfl rfl ?_
    refine gj_aload_n 30 dX8_over_29 rfl rfl ?_
    refine gj_getfr 33 dX8_over_30 rfl fl_8_19 rfl rfl ?_
    refine gj_bipush 35 dX8_over_33 rfl (by decide) ?_
    refine gj_aload_n 36 dX8_over_35 rfl rfl ?_
    refine gj_getfi 39 dX8_over_36 rfl fl_8_100 rfl rfl (fun r_36 => ?_)
    refine gj_imul 40 dX8_over_39 rfl ?_
    refine gj_iload 42 dX8_over_40 rfl rfl ?_
    refine gj_iadd 43 dX8_over_42 rfl ?_
    refine gj_iald 44 dX8_over_43 rfl rfl (by omega) (by omega) (fun r_43 => ?_)
    refine gj_iconst 45 dX8_over_44 rfl ?_
    refine gj_vV 48 dX8_over_45 rfl ok_8_spread ml_8_103 iv_8_spread (As := [gI _, gI _]) rfl rfl rfl rfl (Nat.le_of_ble_eq_true rfl) ⟨Nat.le_of_ble_eq_true rfl, Nat.le_of_ble_eq_true rfl⟩ (Nat.le_of_ble_eq_true rfl) ⟨rfl, rfl⟩ ⟨Nat.zero_le _, Nat.zero_le _⟩ (s8_spread hIj r_43 (by omega)) ?_
    refine gj_iinc (b := (st + ((j + 1 : Nat) : Int))) (lv' := [_, _, _, _, _, _]) 51 dX8_over_48 rfl rfl (by omega) (by decide) rfl ?_
    refine gj_goto 22 dX8_over_51 (by decide) ?_
    exact gj_wk (ih (j + 1) (by omega)) ⟨rfl, rfl, rfl, rfl, rfl, rfl, trivial⟩

set_option maxRecDepth 100000 in
set_option maxHeartbeats 1000000 in
theorem s8_ov_o {xt : Nat × (Nat → Int)} {M : gj_M} {st kk en : Int} (hR : y_RI M) (hs : 0 ≤ st ∧ st ≤ 48) (he : 0 ≤ en ∧ en ≤ 48) (hk : 1 ≤ kk ∧ kk ≤ 9) : ∀ (n k : Nat), k + n = (kk - 1).toNat → gj_G xt Y8_over gS 0 0 13 [some (gR 69), some (gI st), some (gI kk), some (gI en), some (gI ((k : Int) + 1)), none] [] (y_rp M st (en - st).toNat k) (fun r S2 M2 => S2 = gS ∧ r = none ∧ M2 = y_rp M st (en - st).toNat (kk - 1).toNat) := by
  intro n
  induction n with
  | zero =>
    intro k hk2
    refine gj_iload 15 dX8_over_13 rfl rfl ?_
    refine gj_iload_n 16 dX8_over_15 rfl rfl ?_
    refine gj_icmp_ge 60 19 dX8_over_16 (by decide) rfl (by omega) (by omega) (fun c_16 => ?_) (fun c_16 => absurd c_16 (by omega))
    refine gj_vret dX8_over_60 rfl ⟨Nat.zero_le _, Nat.zero_le _⟩ ?_
    exact ⟨rfl, rfl, by rw [show k = (kk - 1).toNat by omega]⟩
  | succ n ih =>
    intro k hk2
    refine gj_iload 15 dX8_over_13 rfl rfl ?_
    refine gj_iload_n 16 dX8_over_15 rfl rfl ?_
    refine gj_icmp_ge 60 19 dX8_over_16 (by decide) rfl (by omega) (by omega) (fun c_16 => absurd c_16 (by omega)) (fun c_16 => ?_)
    refine gj_iload_n 20 dX8_over_19 rfl rfl ?_
    refine gj_istore (lv' := [_, _, _, _, _, _]) 22 dX8_over_20 rfl (by decide) rfl ?_
    refine gj_wk (lv' := [some (gR 69), some (gI st), some (gI kk), some (gI en), some (gI ((k : Int) + 1)), some (gI (st + ((0 : Nat) : Int)))]) (s8_ov_i (y_rp_RI hR k) hs he ?_ (en - st).toNat 0 (by omega)) ⟨rfl, rfl, rfl, rfl, rfl, by simp, trivial⟩
    refine gj_iinc (b := ((k + 1 : Nat) : Int) + 1) (lv' := [_, _, _, _, _, _]) 57 dX8_over_54 rfl rfl (by omega) (by decide) rfl ?_
    refine gj_goto 13 dX8_over_57 (by decide) ?_
    exact gj_wk (ih (k + 1) (by omega)) ⟨rfl, rfl, rfl, rfl, rfl, trivial⟩

set_option maxRecDepth 100000 in
set_option maxHeartbeats 1000000 in
theorem s8_over {xt : Nat × (Nat → Int)} {M : gj_M} {st kk : Int} (hR : y_RI M) (hs : 0 ≤ st ∧ st ≤ 48) (hk : 1 ≤ kk ∧ kk ≤ 9) : gj_F xt Y8_over gS [gR 69, gI st, gI kk] M none (y_rp M st (M 74 (M 69 9) - st).toNat (kk - 1).toNat) := by
  show gj_G _ Y8_over gS 0 0 0 [_, _, _, _, _, _] [] M _
  have hb1 := hR.1
  refine gj_aload_n 1 dX8_over_0 rfl rfl ?_
  refine gj_getfr 4 dX8_over_1 rfl fl_8_22 rfl rfl ?_
  refine gj_aload_n 5 dX8_over_4 rfl rfl ?_
  refine gj_getfi 8 dX8_over_5 rfl fl_8_100 rfl rfl (fun r_5 => ?_)
  refine gj_iald 9 dX8_over_8 rfl rfl (by omega) (by omega) (fun r_8 => ?_)
  refine gj_istore_n (lv' := [_, _, _, _, _, _]) 10 dX8_over_9 rfl (by decide) rfl ?_
  refine gj_iconst 11 dX8_over_10 rfl ?_
  refine gj_istore (lv' := [_, _, _, _, _, _]) 13 dX8_over_11 rfl (by decide) rfl ?_
  exact gj_wk (s8_ov_o hR hs hR.2 hk (kk - 1).toNat 0 (by omega)) ⟨rfl, rfl, rfl, rfl, rfl, trivial⟩
