set_option maxRecDepth 100000 in
set_option maxHeartbeats 1000000 in
theorem s8_wc_i {xt : Nat × (Nat → Int)} {M : gj_M} (hI : y_I M 78) (hs : 0 ≤ M 69 21 ∧ M 69 21 ≤ 6) (hg : ∀ i : Int, 0 ≤ i → i < M 69 21 → (0 ≤ M 83 i ∧ M 83 i < 48) ∧ 0 ≤ M 84 i ∧ M 84 i < 10) {st : Int} {d : Nat} (hd : d < 6) {Q : Option gj_V → List gj_H → gj_M → Prop} (kk : gj_G xt Y8_which gS 0 0 84 [some (gR 69), some (gI st), some (gI (d : Int)), some (gI (y_al M d (M 69 21).toNat)), some (gI (((M 69 21).toNat : Nat) : Int))] [] M Q) : ∀ (n k : Nat), (k : Int) + n = M 69 21 → gj_G xt Y8_which gS 0 0 22 [some (gR 69), some (gI st), some (gI (d : Int)), some (gI (y_al M d k)), some (gI ((k : Nat) : Int))] [] M Q := by
  intro n
  induction n with
  | zero =>
    intro k hk
    have h01 := y_al_01 M d k
    refine gj_iload 24 dX8_which_22 rfl rfl ?_
    refine gj_aload_n 25 dX8_which_24 rfl rfl ?_
    refine gj_getfi 28 dX8_which_25 rfl fl_8_219 rfl rfl (fun r_25 => ?_)
    refine gj_icmp_ge 84 31 dX8_which_28 (by decide) rfl (by omega) (by omega) (fun c_28 => ?_) (fun c_28 => absurd c_28 (by omega))
    have hk3 : k = (M 69 21).toNat := by omega
    subst hk3
    exact kk
  | succ n ih =>
    intro k hk
    have h01 := y_al_01 M d k
    refine gj_iload 24 dX8_which_22 rfl rfl ?_
    refine gj_aload_n 25 dX8_which_24 rfl rfl ?_
    refine gj_getfi 28 dX8_which_25 rfl fl_8_219 rfl rfl (fun r_25 => ?_)
    refine gj_icmp_ge 84 31 dX8_which_28 (by decide) rfl (by omega) (by omega) (fun c_28 => absurd c_28 (by omega)) (fun c_28 => ?_)
    have hg2 := hg k (by omega) (by omega)
    have hb2 := y_look_b hI (M 83 k) (M 84 k) (y_all (M 69 5)) d
    refine gj_iload_n 32 dX8_which_31 rfl rfl ?_
    refine gj_if_eq 76 35 dX8_which_32 (by decide) rfl (by omega) (fun c_32 => ?_) (fun c_32 => ?_)
    · refine gj_iconst 77 dX8_which_76 rfl ?_
      refine gj_istore_n (lv' := [_, _, _, _, _]) 78 dX8_which_77 rfl (by decide) rfl ?_
      refine gj_iinc (b := ((k + 1 : Nat) : Int)) (lv' := [_, _, _, _, _]) 81 dX8_which_78 rfl rfl (by omega) (by decide) rfl ?_
      refine gj_goto 22 dX8_which_81 (by decide) ?_
      have h := ih (k + 1) (by omega)
      first
      | (rw [show y_al M d (k + 1) = 1 from if_pos (by omega)] at h; exact gj_wk h ⟨rfl, rfl, rfl, rfl, rfl, trivial⟩)
      | (rw [show y_al M d (k + 1) = 0 from if_neg (by omega)] at h; exact gj_wk h ⟨rfl, rfl, rfl, rfl, rfl, trivial⟩)
    · refine gj_aload_n 36 dX8_which_35 rfl rfl ?_
      refine gj_aload_n 37 dX8_which_36 rfl rfl ?_
      refine gj_getfr 40 dX8_which_37 rfl fl_8_35 rfl rfl ?_
      refine gj_aload_n 41 dX8_which_40 rfl rfl ?_
      refine gj_getfr 44 dX8_which_41 rfl fl_8_50 rfl rfl ?_
      refine gj_iload 46 dX8_which_44 rfl rfl ?_
      refine gj_iald 47 dX8_which_46 rfl rfl (by omega) (by omega) (fun r_46 => ?_)
      refine gj_aload_n 48 dX8_which_47 rfl rfl ?_
      refine gj_getfr 51 dX8_which_48 rfl fl_8_53 rfl rfl ?_
      refine gj_iload 53 dX8_which_51 rfl rfl ?_
      refine gj_iald 54 dX8_which_53 rfl rfl (by omega) (by omega) (fun r_53 => ?_)
      refine gj_aload_n 55 dX8_which_54 rfl rfl ?_
      refine gj_fV 58 dX8_which_55 rfl ok_8_every ml_8_147 iv_8_every (As := []) rfl rfl rfl rfl (Nat.le_of_ble_eq_true rfl) ⟨Nat.le_of_ble_eq_true rfl, Nat.le_of_ble_eq_true rfl⟩ (Nat.le_of_ble_eq_true rfl) ⟨rfl, rfl⟩ ⟨Nat.zero_le _, Nat.zero_le _⟩ (s8_every) ?_
      refine gj_iload_n 59 dX8_which_58 rfl rfl ?_
      refine gj_fV 62 dX8_which_59 rfl ok_8_lookBy ml_8_150 iv_8_lookBy (As := [gR _, gI _, gI _, gI _, gI _]) rfl rfl rfl rfl (Nat.le_of_ble_eq_true rfl) ⟨Nat.le_of_ble_eq_true rfl, Nat.le_of_ble_eq_true rfl⟩ (Nat.le_of_ble_eq_true rfl) ⟨rfl, rfl⟩ ⟨Nat.zero_le _, Nat.zero_le _⟩ (s8_look rfl hI hg2.1 hg2.2 (by omega)) ?_
      refine gj_aload_n 63 dX8_which_62 rfl rfl ?_
      refine gj_getfr 66 dX8_which_63 rfl fl_8_56 rfl rfl ?_
      refine gj_iload 68 dX8_which_66 rfl rfl ?_
      refine gj_iald 69 dX8_which_68 rfl rfl (by omega) (by omega) (fun r_68 => ?_)
      refine gj_icmp_ne 76 72 dX8_which_69 (by decide) rfl (by omega) (by omega) (fun c_69 => ?_) (fun c_69 => ?_)
      · refine gj_iconst 77 dX8_which_76 rfl ?_
        refine gj_istore_n (lv' := [_, _, _, _, _]) 78 dX8_which_77 rfl (by decide) rfl ?_
        refine gj_iinc (b := ((k + 1 : Nat) : Int)) (lv' := [_, _, _, _, _]) 81 dX8_which_78 rfl rfl (by omega) (by decide) rfl ?_
        refine gj_goto 22 dX8_which_81 (by decide) ?_
        have h := ih (k + 1) (by omega)
        first
        | (rw [show y_al M d (k + 1) = 1 from if_pos (by omega)] at h; exact gj_wk h ⟨rfl, rfl, rfl, rfl, rfl, trivial⟩)
        | (rw [show y_al M d (k + 1) = 0 from if_neg (by omega)] at h; exact gj_wk h ⟨rfl, rfl, rfl, rfl, rfl, trivial⟩)
      · refine gj_iconst 73 dX8_which_72 rfl ?_
        refine gj_goto 77 dX8_which_73 (by decide) ?_
        refine gj_istore_n (lv' := [_, _, _, _, _]) 78 dX8_which_77 rfl (by decide) rfl ?_
        refine gj_iinc (b := ((k + 1 : Nat) : Int)) (lv' := [_, _, _, _, _]) 81 dX8_which_78 rfl rfl (by omega) (by decide) rfl ?_
        refine gj_goto 22 dX8_which_81 (by decide) ?_
        have h := ih (k + 1) (by omega)
        first
        | (rw [show y_al M d (k + 1) = 1 from if_pos (by omega)] at h; exact gj_wk h ⟨rfl, rfl, rfl, rfl, rfl, trivial⟩)
        | (rw [show y_al M d (k + 1) = 0 from if_neg (by omega)] at h; exact gj_wk h ⟨rfl, rfl, rfl, rfl, rfl, trivial⟩)

set_option maxRecDepth 100000 in
set_option maxHeartbeats 1000000 in
theorem s8_wc_o {xt : Nat × (Nat → Int)} {M : gj_M} (hI : y_I M 78) (hs : 0 ≤ M 69 21 ∧ M 69 21 ≤ 6) (hg : ∀ i : Int, 0 ≤ i → i < M 69 21 → (0 ≤ M 83 i ∧ M 83 i < 48) ∧ 0 ≤ M 84 i ∧ M 84 i < 10)  : ∀ (n k : Nat), (k : Int) + n = M 69 4 → gj_G xt Y8_which gS 0 0 9 [some (gR 69), some (gI (y_ws M k)), some (gI (k : Int)), none, none] [] M (fun r S2 M2 => S2 = gS ∧ r = some (gI (y_ws M (M 69 4).toNat)) ∧ M2 = M) := by
  intro n
  induction n with
  | zero =>
    intro k hk
    have hD := hI.2.1
    refine gj_iload_n 10 dX8_which_9 rfl rfl ?_
    refine gj_aload_n 11 dX8_which_10 rfl rfl ?_
    refine gj_getfi 14 dX8_which_11 rfl fl_8_80 rfl rfl (fun r_11 => ?_)
    refine gj_icmp_ge 104 17 dX8_which_14 (by decide) rfl (by omega) (by omega) (fun c_14 => ?_) (fun c_14 => absurd c_14 (by omega))
    refine gj_iload_n 105 dX8_which_104 rfl rfl ?_
    refine gj_iret dX8_which_105 rfl ⟨Nat.zero_le _, Nat.zero_le _⟩ ?_
    have hk3 : k = (M 69 4).toNat := by omega
    subst hk3
    exact ⟨rfl, rfl, rfl⟩
  | succ n ih =>
    intro k hk
    have hD := hI.2.1
    refine gj_iload_n 10 dX8_which_9 rfl rfl ?_
    refine gj_aload_n 11 dX8_which_10 rfl rfl ?_
    refine gj_getfi 14 dX8_which_11 rfl fl_8_80 rfl rfl (fun r_11 => ?_)
    refine gj_icmp_ge 104 17 dX8_which_14 (by decide) rfl (by omega) (by omega) (fun c_14 => absurd c_14 (by omega)) (fun c_14 => ?_)
    refine gj_iconst 18 dX8_which_17 rfl ?_
    refine gj_istore_n (lv' := [_, _, _, _, _]) 19 dX8_which_18 rfl (by decide) rfl ?_
    refine gj_iconst 20 dX8_which_19 rfl ?_
    refine gj_istore (lv' := [_, _, _, _, _]) 22 dX8_which_20 rfl (by decide) rfl ?_
    have h01 := y_al_01 M k (M 69 21).toNat
    refine gj_wk (s8_wc_i hI hs hg (d := k) (by omega) ?_ (M 69 21).toNat 0 (by omega)) ⟨rfl, rfl, rfl, rfl, rfl, trivial⟩
    refine gj_iload_n 85 dX8_which_84 rfl rfl ?_
    refine gj_iload_n 86 dX8_which_85 rfl rfl ?_
    refine gj_if_eq 95 89 dX8_which_86 (by decide) rfl (by omega) (fun c_86 => ?_) (fun c_86 => ?_)
    · refine gj_iconst 96 dX8_which_95 rfl ?_
      refine gj_ior 97 dX8_which_96 rfl ?_
      refine gj_istore_n (lv' := [_, _, _, _, _]) 98 dX8_which_97 rfl (by decide) rfl ?_
      refine gj_iinc (b := ((k + 1 : Nat) : Int)) (lv' := [_, _, _, _, _]) 101 dX8_which_98 rfl rfl (by omega) (by decide) rfl ?_
      refine gj_goto 9 dX8_which_101 (by decide) ?_
      have h := ih (k + 1) (by omega)
      first
      | (rw [show y_ws M (k + 1) = (Int32.ofInt (y_ws M k) ||| Int32.ofInt 0).toInt by show (Int32.ofInt (y_ws M k) ||| Int32.ofInt (if y_al M k (M 69 21).toNat = 0 then 0 else _)).toInt = _; rw [if_pos (by omega)]] at h; exact gj_wk h ⟨rfl, rfl, rfl, trivial⟩)
      | (rw [show y_ws M (k + 1) = (Int32.ofInt (y_ws M k) ||| Int32.ofInt (Int32.ofInt 1 <<< (Int32.ofInt k &&& 31)).toInt).toInt by show (Int32.ofInt (y_ws M k) ||| Int32.ofInt (if y_al M k (M 69 21).toNat = 0 then 0 else _)).toInt = _; rw [if_neg (by omega)]] at h; exact gj_wk h ⟨rfl, rfl, rfl, trivial⟩)
    · refine gj_iconst 90 dX8_which_89 rfl ?_
      refine gj_iload_n 91 dX8_which_90 rfl rfl ?_
      refine gj_ishl 92 dX8_which_91 rfl ?_
      refine gj_goto 96 dX8_which_92 (by decide) ?_
      refine gj_ior 97 dX8_which_96 rfl ?_
      refine gj_istore_n (lv' := [_, _, _, _, _]) 98 dX8_which_97 rfl (by decide) rfl ?_
      refine gj_iinc (b := ((k + 1 : Nat) : Int)) (lv' := [_, _, _, _, _]) 101 dX8_which_98 rfl rfl (by omega) (by decide) rfl ?_
      refine gj_goto 9 dX8_which_101 (by decide) ?_
      have h := ih (k + 1) (by omega)
      first
      | (rw [show y_ws M (k + 1) = (Int32.ofInt (y_ws M k) ||| Int32.ofInt 0).toInt by show (Int32.ofInt (y_ws M k) ||| Int32.ofInt (if y_al M k (M 69 21).toNat = 0 then 0 else _)).toInt = _; rw [if_pos (by omega)]] at h; exact gj_wk h ⟨rfl, rfl, rfl, trivial⟩)
      | (rw [show y_ws M (k + 1) = (Int32.ofInt (y_ws M k) ||| Int32.ofInt (Int32.ofInt 1 <<< (Int32.ofInt k &&& 31)).toInt).toInt by show (Int32.ofInt (y_ws M k) ||| Int32.ofInt (if y_al M k (M 69 21).toNat = 0 then 0 else _)).toInt = _; rw [if_neg (by omega)]] at h; exact gj_wk h ⟨rfl, rfl, rfl, trivial⟩)

set_option maxRecDepth 100000 in
set_option maxHeartbeats 1000000 in
theorem s8_which {xt : Nat × (Nat → Int)} {M : gj_M} (h0 : M 69 0 = 0) (hI : y_I M 78) (hs : 0 ≤ M 69 21 ∧ M 69 21 ≤ 6) (hg : ∀ i : Int, 0 ≤ i → i < M 69 21 → (0 ≤ M 83 i ∧ M 83 i < 48) ∧ 0 ≤ M 84 i ∧ M 84 i < 10)  : gj_F xt Y8_which gS [gR 69] M (some (gI (y_ws M (M 69 4).toNat))) M := by
  show gj_G _ Y8_which gS 0 0 0 [_, _, _, _, _] [] M _
  refine gj_aload_n 1 dX8_which_0 rfl rfl ?_
  refine gj_iconst 2 dX8_which_1 rfl ?_
  refine gj_putfi 5 dX8_which_2 rfl fw_8_69 rfl rfl (by omega) ?_
  refine gj_mem (gj_u0 h0) ?_
  refine gj_iconst 6 dX8_which_5 rfl ?_
  refine gj_istore_n (lv' := [_, _, _, _, _]) 7 dX8_which_6 rfl (by decide) rfl ?_
  refine gj_iconst 8 dX8_which_7 rfl ?_
  refine gj_istore_n (lv' := [_, _, _, _, _]) 9 dX8_which_8 rfl (by decide) rfl ?_
  exact gj_wk (s8_wc_o hI hs hg (M 69 4).toNat 0 (by have := hI.2.1; omega)) ⟨rfl, rfl, rfl, trivial⟩

set_option maxRecDepth 100000 in
set_option maxHeartbeats 1000000 in
theorem s8_share_l {xt : Nat × (Nat → Int)} {M : gj_M} (hI : y_I M 78) {l u : Int} (hl : 0 ≤ l ∧ l < M 69 5) (hu : gj_in u) (hup : 0 ≤ y_us M l (y_all (M 69 5) + 1).toNat ∧ y_us M l (y_all (M 69 5) + 1).toNat ≤ 2147483647) : ∀ (n k : Nat), (k : Int) + n = y_all (M 69 5) + 1 → gj_G xt Y8_share gS 0 0 20 [some (gR 69), some (gI l), some (gI u), some (gI (y_us M l k)), some (gI (k : Int)), none] [] M (fun r S2 M2 => S2 = gS ∧ r = some (gI (y_fp (y_us M l (y_all (M 69 5) + 1).toNat) (y_fc (M 69 5).toNat) u)) ∧ M2 = M) := by
  intro n
  induction n with
  | zero =>
    intro k hk
    have hL := hI.1
    have hab := y_all_b hI.1
    refine gj_iload 22 dX8_share_20 rfl rfl ?_
    refine gj_aload_n 23 dX8_share_22 rfl rfl ?_
    refine gj_fV 26 dX8_share_23 rfl ok_8_every ml_8_147 iv_8_every (As := []) rfl rfl rfl rfl (Nat.le_of_ble_eq_true rfl) ⟨Nat.le_of_ble_eq_true rfl, Nat.le_of_ble_eq_true rfl⟩ (Nat.le_of_ble_eq_true rfl) ⟨rfl, rfl⟩ ⟨Nat.zero_le _, Nat.zero_le _⟩ (s8_every) ?_
    refine gj_icmp_gt 94 29 dX8_share_26 (by decide) rfl (by omega) (by omega) (fun c_26 => ?_) (fun c_26 => absurd c_26 (by omega))
    have hk3 : k = (y_all (M 69 5) + 1).toNat := by omega
    subst hk3
    have hfb := y_fc_b (M 69 5).toNat (by omega)
    refine gj_iload_n 95 dX8_share_94 rfl rfl ?_
    refine gj_aload_n 96 dX8_share_95 rfl rfl ?_
    refine gj_getfi 99 dX8_share_96 rfl fl_8_73 rfl rfl (fun r_96 => ?_)
    refine gj_fS 102 dX8_share_99 rfl ok_8_factorial ml_8_228 is_8_factorial (As := [gI _]) rfl rfl (Nat.le_of_ble_eq_true rfl) ⟨Nat.le_of_ble_eq_true rfl, Nat.le_of_ble_eq_true rfl⟩ (Nat.le_of_ble_eq_true rfl) ⟨rfl, rfl⟩ ⟨Nat.zero_le _, Nat.zero_le _⟩ (s8_fc hI.1) ?_
    refine gj_iload_n 103 dX8_share_102 rfl rfl ?_
    refine gj_fS 106 dX8_share_103 rfl ok_8_fraction ml_8_234 is_8_fraction (As := [gI _, gI _, gI _]) rfl rfl (Nat.le_of_ble_eq_true rfl) ⟨Nat.le_of_ble_eq_true rfl, Nat.le_of_ble_eq_true rfl⟩ (Nat.le_of_ble_eq_true rfl) ⟨rfl, rfl⟩ ⟨Nat.zero_le _, Nat.zero_le _⟩ (s8_frac hup (by omega) hu (by have := y_gd_b (y_fc (M 69 5).toNat).toNat (y_us M l (y_all (M 69 5) + 1).toNat) (y_fc (M 69 5).toNat) hup.1 (by omega) (by omega) (by omega); omega)) ?_
    refine gj_iret dX8_share_106 rfl ⟨Nat.zero_le _, Nat.zero_le _⟩ ?_
    exact ⟨rfl, rfl, rfl⟩
  | succ n ih =>
    intro k hk
    have hL := hI.1
    have hab := y_all_b hI.1
    refine gj_iload 22 dX8_share_20 rfl rfl ?_
    refine gj_aload_n 23 dX8_share_22 rfl rfl ?_
    refine gj_fV 26 dX8_share_23 rfl ok_8_every ml_8_147 iv_8_every (As := []) rfl rfl rfl rfl (Nat.le_of_ble_eq_true rfl) ⟨Nat.le_of_ble_eq_true rfl, Nat.le_of_ble_eq_true rfl⟩ (Nat.le_of_ble_eq_true rfl) ⟨rfl, rfl⟩ ⟨Nat.zero_le _, Nat.zero_le _⟩ (s8_every) ?_
    refine gj_icmp_gt 94 29 dX8_share_26 (by decide) rfl (by omega) (by omega) (fun c_26 => absurd c_26 (by omega)) (fun c_26 => ?_)
    have hob := y_ones_b k (by omega)
    have h01 := y_has_01 k l
    refine gj_iload 31 dX8_share_29 rfl rfl ?_
    refine gj_fS 34 dX8_share_31 rfl ok_8_ones ml_8_225 is_8_ones (As := [gI _]) rfl rfl (Nat.le_of_ble_eq_true rfl) ⟨Nat.le_of_ble_eq_true rfl, Nat.le_of_ble_eq_true rfl⟩ (Nat.le_of_ble_eq_true rfl) ⟨rfl, rfl⟩ ⟨Nat.zero_le _, Nat.zero_le _⟩ (s8_ones) ?_
    refine gj_istore (lv' := [_, _, _, _, _, _]) 36 dX8_share_34 rfl (by decide) rfl ?_
    refine gj_iload_n 37 dX8_share_36 rfl rfl ?_
    refine gj_iload 39 dX8_share_37 rfl rfl ?_
    refine gj_iload_n 40 dX8_share_39 rfl rfl ?_
    refine gj_fS 43 dX8_share_40 rfl ok_8_has ml_8_141 is_8_has (As := [gI _, gI _]) rfl rfl (Nat.le_of_ble_eq_true rfl) ⟨Nat.le_of_ble_eq_true rfl, Nat.le_of_ble_eq_true rfl⟩ (Nat.le_of_ble_eq_true rfl) ⟨rfl, rfl⟩ ⟨Nat.zero_le _, Nat.zero_le _⟩ (s8_has) ?_
    refine gj_if_eq 50 46 dX8_share_43 (by decide) rfl (by omega) (fun c_43 => ?_) (fun c_43 => ?_)
    · have hon := y_ones_n (M 69 5).toNat (by omega) k (by omega) (by rw [show ((M 69 5).toNat : Int) = M 69 5 by omega]; omega) l.toNat (by omega) (by rw [show (l.toNat : Int) = l by omega]; omega)
      rw [show ((M 69 5).toNat : Int) = M 69 5 by omega] at hon
      refine gj_iload 52 dX8_share_50 rfl rfl ?_
      refine gj_fS 55 dX8_share_52 rfl ok_8_factorial ml_8_228 is_8_factorial (As := [gI _]) rfl rfl (Nat.le_of_ble_eq_true rfl) ⟨Nat.le_of_ble_eq_true rfl, Nat.le_of_ble_eq_true rfl⟩ (Nat.le_of_ble_eq_true rfl) ⟨rfl, rfl⟩ ⟨Nat.zero_le _, Nat.zero_le _⟩ (s8_fc (by omega)) ?_
      refine gj_aload_n 56 dX8_share_55 rfl rfl ?_
      refine gj_getfi 59 dX8_share_56 rfl fl_8_73 rfl rfl (fun r_56 => ?_)
      refine gj_iconst 60 dX8_share_59 rfl ?_
      refine gj_isub 61 dX8_share_60 rfl ?_
      refine gj_iload 63 dX8_share_61 rfl rfl ?_
      refine gj_isub 64 dX8_share_63 rfl ?_
      refine gj_fS 67 dX8_share_64 rfl ok_8_factorial ml_8_228 is_8_factorial (As := [gI _]) rfl rfl (Nat.le_of_ble_eq_true rfl) ⟨Nat.le_of_ble_eq_true rfl, Nat.le_of_ble_eq_true rfl⟩ (Nat.le_of_ble_eq_true rfl) ⟨rfl, rfl⟩ ⟨Nat.zero_le _, Nat.zero_le _⟩ (s8_fc (by omega)) ?_
      refine gj_imul 68 dX8_share_67 rfl ?_
      refine gj_aload_n 69 dX8_share_68 rfl rfl ?_
      refine gj_iload 71 dX8_share_69 rfl rfl ?_
      refine gj_iconst 72 dX8_share_71 rfl ?_
      refine gj_iload_n 73 dX8_share_72 rfl rfl ?_
      refine gj_ishl 74 dX8_share_73 rfl ?_
      refine gj_ior 75 dX8_share_74 rfl ?_
      refine gj_fV 78 dX8_share_75 rfl ok_8_coveredBy ml_8_231 iv_8_coveredBy (As := [gI _]) rfl rfl rfl rfl (Nat.le_of_ble_eq_true rfl) ⟨Nat.le_of_ble_eq_true rfl, Nat.le_of_ble_eq_true rfl⟩ (Nat.le_of_ble_eq_true rfl) ⟨rfl, rfl⟩ ⟨Nat.zero_le _, Nat.zero_le _⟩ (s8_cov hI) ?_
      refine gj_aload_n 79 dX8_share_78 rfl rfl ?_
      refine gj_iload 81 dX8_share_79 rfl rfl ?_
      refine gj_fV 84 dX8_share_81 rfl ok_8_coveredBy ml_8_231 iv_8_coveredBy (As := [gI _]) rfl rfl rfl rfl (Nat.le_of_ble_eq_true rfl) ⟨Nat.le_of_ble_eq_true rfl, Nat.le_of_ble_eq_true rfl⟩ (Nat.le_of_ble_eq_true rfl) ⟨rfl, rfl⟩ ⟨Nat.zero_le _, Nat.zero_le _⟩ (s8_cov hI) ?_
      refine gj_isub 85 dX8_share_84 rfl ?_
      refine gj_imul 86 dX8_share_85 rfl ?_
      refine gj_iadd 87 dX8_share_86 rfl ?_
      refine gj_istore_n (lv' := [_, _, _, _, _, _]) 88 dX8_share_87 rfl (by decide) rfl ?_
      refine gj_iinc (b := ((k + 1 : Nat) : Int)) (lv' := [_, _, _, _, _, _]) 91 dX8_share_88 rfl rfl (by omega) (by decide) rfl ?_
      refine gj_goto 20 dX8_share_91 (by decide) ?_
      have h := ih (k + 1) (by omega)
      first
      | (rw [show y_us M l (k + 1) = y_us M l k + 0 from congrArg (y_us M l k + ·) (if_neg (by omega))] at h; exact gj_wk h ⟨rfl, rfl, rfl, rfl, rfl, trivial⟩)
      | (rw [show y_us M l (k + 1) = y_us M l k + y_fc (y_ones k).toNat * y_fc (M 69 5 - 1 - y_ones k).toNat * (y_cov M (Int32.ofInt (k : Int) ||| Int32.ofInt (Int32.ofInt 1 <<< (Int32.ofInt l &&& 31)).toInt).toInt - y_cov M k) from congrArg (y_us M l k + ·) (if_pos (by omega))] at h; exact gj_wk h ⟨rfl, rfl, rfl, rfl, rfl, trivial⟩)
    · refine gj_iconst 47 dX8_share_46 rfl ?_
      refine gj_goto 86 dX8_share_47 (by decide) ?_
      refine gj_iadd 87 dX8_share_86 rfl ?_
      refine gj_istore_n (lv' := [_, _, _, _, _, _]) 88 dX8_share_87 rfl (by decide) rfl ?_
      refine gj_iinc (b := ((k + 1 : Nat) : Int)) (lv' := [_, _, _, _, _, _]) 91 dX8_share_88 rfl rfl (by omega) (by decide) rfl ?_
      refine gj_goto 20 dX8_share_91 (by decide) ?_
      have h := ih (k + 1) (by omega)
      first
      | (rw [show y_us M l (k + 1) = y_us M l k + 0 from congrArg (y_us M l k + ·) (if_neg (by omega))] at h; exact gj_wk h ⟨rfl, rfl, rfl, rfl, rfl, trivial⟩)
      | (rw [show y_us M l (k + 1) = y_us M l k + y_fc (y_ones k).toNat * y_fc (M 69 5 - 1 - y_ones k).toNat * (y_cov M (Int32.ofInt (k : Int) ||| Int32.ofInt (Int32.ofInt 1 <<< (Int32.ofInt l &&& 31)).toInt).toInt - y_cov M k) from congrArg (y_us M l k + ·) (if_pos (by omega))] at h; exact gj_wk h ⟨rfl, rfl, rfl, rfl, rfl, trivial⟩)

set_option maxRecDepth 100000 in
set_option maxHeartbeats 1000000 in
theorem s8_share {xt : Nat × (Nat → Int)} {M : gj_M} (h0 : M 69 0 = 0) (hI : y_I M 78) {l u : Int} (hl : gj_in l) (hu : gj_in u) (hup : 0 ≤ l → l < M 69 5 → 0 ≤ y_us M l (y_all (M 69 5) + 1).toNat ∧ y_us M l (y_all (M 69 5) + 1).toNat ≤ 2147483647) : gj_F xt Y8_share gS [gR 69, gI l, gI u] M (some (gI (z_share M l u))) M := by
  show gj_G _ Y8_share gS 0 0 0 [_, _, _, _, _, _] [] M _
  have hL := hI.1
  have hD := hI.2.1
  have hsw := hI.2.2.1
  have hab := y_all_b hI.1
  refine gj_aload_n 1 dX8_share_0 rfl rfl ?_
  refine gj_iconst 2 dX8_share_1 rfl ?_
  refine gj_putfi 5 dX8_share_2 rfl fw_8_69 rfl rfl (by omega) ?_
  refine gj_mem (gj_u0 h0) ?_
  refine gj_aload_n 6 dX8_share_5 rfl rfl ?_
  refine gj_iload_n 7 dX8_share_6 rfl rfl ?_
  refine gj_fV 10 dX8_share_7 rfl ok_8_noLevel ml_8_173 iv_8_noLevel (As := [gI _]) rfl rfl rfl rfl (Nat.le_of_ble_eq_true rfl) ⟨Nat.le_of_ble_eq_true rfl, Nat.le_of_ble_eq_true rfl⟩ (Nat.le_of_ble_eq_true rfl) ⟨rfl, rfl⟩ ⟨Nat.zero_le _, Nat.zero_le _⟩ (s8_noL (by omega) hI.1) ?_
  have hc7 := y_in_c l 0 (M 69 5 - 1)
  refine gj_if_eq 15 13 dX8_share_10 (by decide) rfl (by omega) (fun c_10 => ?_) (fun c_10 => ?_)
  · refine gj_iconst 16 dX8_share_15 rfl ?_
    refine gj_istore_n (lv' := [_, _, _, _, _, _]) 17 dX8_share_16 rfl (by decide) rfl ?_
    refine gj_iconst 18 dX8_share_17 rfl ?_
    refine gj_istore (lv' := [_, _, _, _, _, _]) 20 dX8_share_18 rfl (by decide) rfl ?_
    have e : z_share M l u = y_fp (y_us M l (y_all (M 69 5) + 1).toNat) (y_fc (M 69 5).toNat) u := if_pos (by omega)
    rw [e]
    exact gj_wk (s8_share_l hI (by omega) hu (hup (by omega) (by omega)) (y_all (M 69 5) + 1).toNat 0 (by omega)) ⟨rfl, rfl, rfl, rfl, rfl, trivial⟩
  · refine gj_iconst 14 dX8_share_13 rfl ?_
    refine gj_iret dX8_share_14 rfl ⟨Nat.zero_le _, Nat.zero_le _⟩ ?_
    exact ⟨rfl, by (unfold z_share; (repeat (first | rw [if_pos (by omega)] | rw [if_neg (by omega)])); try rfl), rfl⟩

set_option maxRecDepth 100000 in
set_option maxHeartbeats 1000000 in
theorem s8_lost_l {xt : Nat × (Nat → Int)} {M : gj_M} (hI : y_I M 78) {f c x u : Int} (hf : 0 ≤ f ∧ f < 48) (hc : 0 ≤ c ∧ c < 10) (hx : 0 ≤ x ∧ x ≤ 10) (hu : gj_in u) (hup : 0 ≤ y_ul M f c x (y_all (M 69 5) + 1).toNat ∧ y_ul M f c x (y_all (M 69 5) + 1).toNat ≤ 2147483647) : ∀ (n k : Nat), (k : Int) + n = y_all (M 69 5) + 1 → gj_G xt Y8_lost gS 0 0 45 [some (gR 69), some (gI f), some (gI c), some (gI x), some (gI u), some (gI (y_ul M f c x k)), some (gI (k : Int))] [] M (fun r S2 M2 => S2 = gS ∧ r = some (gI (y_fp (y_ul M f c x (y_all (M 69 5) + 1).toNat) (e_pw 10 (M 69 5).toNat) u)) ∧ M2 = M) := by
  intro n
  induction n with
  | zero =>
    intro k hk
    have hL := hI.1
    have hab := y_all_b hI.1
    refine gj_iload 47 dX8_lost_45 rfl rfl ?_
    refine gj_aload_n 48 dX8_lost_47 rfl rfl ?_
    refine gj_fV 51 dX8_lost_48 rfl ok_8_every ml_8_147 iv_8_every (As := []) rfl rfl rfl rfl (Nat.le_of_ble_eq_true rfl) ⟨Nat.le_of_ble_eq_true rfl, Nat.le_of_ble_eq_true rfl⟩ (Nat.le_of_ble_eq_true rfl) ⟨rfl, rfl⟩ ⟨Nat.zero_le _, Nat.zero_le _⟩ (s8_every) ?_
    refine gj_icmp_gt 115 54 dX8_lost_51 (by decide) rfl (by omega) (by omega) (fun c_51 => ?_) (fun c_51 => absurd c_51 (by omega))
    have hk3 : k = (y_all (M 69 5) + 1).toNat := by omega
    subst hk3
    have hpb := e_pw_b (x := 10) (by omega) (M 69 5).toNat (by omega)
    have hpl := e_pw_le (x := 10) (by omega) (M 69 5).toNat (by omega)
    refine gj_iload 117 dX8_lost_115 rfl rfl ?_
    refine gj_bipush 119 dX8_lost_117 rfl (by decide) ?_
    refine gj_aload_n 120 dX8_lost_119 rfl rfl ?_
    refine gj_getfi 123 dX8_lost_120 rfl fl_8_73 rfl rfl (fun r_120 => ?_)
    refine gj_fS 126 dX8_lost_123 rfl ok_8_power ml_8_135 is_8_power (As := [gI _, gI _]) rfl rfl (Nat.le_of_ble_eq_true rfl) ⟨Nat.le_of_ble_eq_true rfl, Nat.le_of_ble_eq_true rfl⟩ (Nat.le_of_ble_eq_true rfl) ⟨rfl, rfl⟩ ⟨Nat.zero_le _, Nat.zero_le _⟩ (s8_power (by omega)) ?_
    refine gj_iload 128 dX8_lost_126 rfl rfl ?_
    refine gj_fS 131 dX8_lost_128 rfl ok_8_fraction ml_8_234 is_8_fraction (As := [gI _, gI _, gI _]) rfl rfl (Nat.le_of_ble_eq_true rfl) ⟨Nat.le_of_ble_eq_true rfl, Nat.le_of_ble_eq_true rfl⟩ (Nat.le_of_ble_eq_true rfl) ⟨rfl, rfl⟩ ⟨Nat.zero_le _, Nat.zero_le _⟩ (s8_frac hup (by omega) hu (by have := y_gd_b (e_pw 10 (M 69 5).toNat).toNat (y_ul M f c x (y_all (M 69 5) + 1).toNat) (e_pw 10 (M 69 5).toNat) hup.1 (by omega) (by omega) (by omega); omega)) ?_
    refine gj_iret dX8_lost_131 rfl ⟨Nat.zero_le _, Nat.zero_le _⟩ ?_
    exact ⟨rfl, rfl, rfl⟩
  | succ n ih =>
    intro k hk
    have hL := hI.1
    have hab := y_all_b hI.1
    refine gj_iload 47 dX8_lost_45 rfl rfl ?_
    refine gj_aload_n 48 dX8_lost_47 rfl rfl ?_
    refine gj_fV 51 dX8_lost_48 rfl ok_8_every ml_8_147 iv_8_every (As := []) rfl rfl rfl rfl (Nat.le_of_ble_eq_true rfl) ⟨Nat.le_of_ble_eq_true rfl, Nat.le_of_ble_eq_true rfl⟩ (Nat.le_of_ble_eq_true rfl) ⟨rfl, rfl⟩ ⟨Nat.zero_le _, Nat.zero_le _⟩ (s8_every) ?_
    refine gj_icmp_gt 115 54 dX8_lost_51 (by decide) rfl (by omega) (by omega) (fun c_51 => absurd c_51 (by omega)) (fun c_51 => ?_)
    have hob := y_ones_b k (by omega)
    have hoL := y_ones_L (M 69 5).toNat (by omega) k (by rw [show ((M 69 5).toNat : Int) = M 69 5 by omega]; omega)
    have hlb := y_look_b hI f c (k : Int) (-9)
    refine gj_iload 56 dX8_lost_54 rfl rfl ?_
    refine gj_aload_n 57 dX8_lost_56 rfl rfl ?_
    refine gj_aload_n 58 dX8_lost_57 rfl rfl ?_
    refine gj_getfr 61 dX8_lost_58 rfl fl_8_35 rfl rfl ?_
    refine gj_iload_n 62 dX8_lost_61 rfl rfl ?_
    refine gj_iload_n 63 dX8_lost_62 rfl rfl ?_
    refine gj_iload 65 dX8_lost_63 rfl rfl ?_
    refine gj_bipush 67 dX8_lost_65 rfl (by decide) ?_
    refine gj_fV 70 dX8_lost_67 rfl ok_8_lookBy ml_8_150 iv_8_lookBy (As := [gR _, gI _, gI _, gI _, gI _]) rfl rfl rfl rfl (Nat.le_of_ble_eq_true rfl) ⟨Nat.le_of_ble_eq_true rfl, Nat.le_of_ble_eq_true rfl⟩ (Nat.le_of_ble_eq_true rfl) ⟨rfl, rfl⟩ ⟨Nat.zero_le _, Nat.zero_le _⟩ (s8_look rfl hI hf hc (by omega)) ?_
    refine gj_bipush 72 dX8_lost_70 rfl (by decide) ?_
    refine gj_icmp_eq 105 75 dX8_lost_72 (by decide) rfl (by omega) (by omega) (fun c_72 => ?_) (fun c_72 => ?_)
    · refine gj_iconst 106 dX8_lost_105 rfl ?_
      refine gj_iadd 107 dX8_lost_106 rfl ?_
      refine gj_istore (lv' := [_, _, _, _, _, _, _]) 109 dX8_lost_107 rfl (by decide) rfl ?_
      refine gj_iinc (b := ((k + 1 : Nat) : Int)) (lv' := [_, _, _, _, _, _, _]) 112 dX8_lost_109 rfl rfl (by omega) (by decide) rfl ?_
      refine gj_goto 45 dX8_lost_112 (by decide) ?_
      have h := ih (k + 1) (by omega)
      first
      | (rw [show y_ul M f c x (k + 1) = y_ul M f c x k + 0 from congrArg (y_ul M f c x k + ·) (if_pos (by omega))] at h; exact gj_wk h ⟨rfl, rfl, rfl, rfl, rfl, rfl, rfl, trivial⟩)
      | (rw [show y_ul M f c x (k + 1) = y_ul M f c x k + e_pw (10 - x) (y_ones k).toNat * e_pw x (M 69 5 - y_ones k).toNat from congrArg (y_ul M f c x k + ·) (if_neg (by omega))] at h; exact gj_wk h ⟨rfl, rfl, rfl, rfl, rfl, rfl, rfl, trivial⟩)
    · refine gj_bipush 77 dX8_lost_75 rfl (by decide) ?_
      refine gj_iload_n 78 dX8_lost_77 rfl rfl ?_
      refine gj_isub 79 dX8_lost_78 rfl ?_
      refine gj_iload 81 dX8_lost_79 rfl rfl ?_
      refine gj_fS 84 dX8_lost_81 rfl ok_8_ones ml_8_225 is_8_ones (As := [gI _]) rfl rfl (Nat.le_of_ble_eq_true rfl) ⟨Nat.le_of_ble_eq_true rfl, Nat.le_of_ble_eq_true rfl⟩ (Nat.le_of_ble_eq_true rfl) ⟨rfl, rfl⟩ ⟨Nat.zero_le _, Nat.zero_le _⟩ (s8_ones) ?_
      refine gj_fS 87 dX8_lost_84 rfl ok_8_power ml_8_135 is_8_power (As := [gI _, gI _]) rfl rfl (Nat.le_of_ble_eq_true rfl) ⟨Nat.le_of_ble_eq_true rfl, Nat.le_of_ble_eq_true rfl⟩ (Nat.le_of_ble_eq_true rfl) ⟨rfl, rfl⟩ ⟨Nat.zero_le _, Nat.zero_le _⟩ (s8_power (by omega)) ?_
      refine gj_iload_n 88 dX8_lost_87 rfl rfl ?_
      refine gj_aload_n 89 dX8_lost_88 rfl rfl ?_
      refine gj_getfi 92 dX8_lost_89 rfl fl_8_73 rfl rfl (fun r_89 => ?_)
      refine gj_iload 94 dX8_lost_92 rfl rfl ?_
      refine gj_fS 97 dX8_lost_94 rfl ok_8_ones ml_8_225 is_8_ones (As := [gI _]) rfl rfl (Nat.le_of_ble_eq_true rfl) ⟨Nat.le_of_ble_eq_true rfl, Nat.le_of_ble_eq_true rfl⟩ (Nat.le_of_ble_eq_true rfl) ⟨rfl, rfl⟩ ⟨Nat.zero_le _, Nat.zero_le _⟩ (s8_ones) ?_
      refine gj_isub 98 dX8_lost_97 rfl ?_
      refine gj_fS 101 dX8_lost_98 rfl ok_8_power ml_8_135 is_8_power (As := [gI _, gI _]) rfl rfl (Nat.le_of_ble_eq_true rfl) ⟨Nat.le_of_ble_eq_true rfl, Nat.le_of_ble_eq_true rfl⟩ (Nat.le_of_ble_eq_true rfl) ⟨rfl, rfl⟩ ⟨Nat.zero_le _, Nat.zero_le _⟩ (s8_power (by omega)) ?_
      refine gj_imul 102 dX8_lost_101 rfl ?_
      refine gj_goto 106 dX8_lost_102 (by decide) ?_
      refine gj_iadd 107 dX8_lost_106 rfl ?_
      refine gj_istore (lv' := [_, _, _, _, _, _, _]) 109 dX8_lost_107 rfl (by decide) rfl ?_
      refine gj_iinc (b := ((k + 1 : Nat) : Int)) (lv' := [_, _, _, _, _, _, _]) 112 dX8_lost_109 rfl rfl (by omega) (by decide) rfl ?_
      refine gj_goto 45 dX8_lost_112 (by decide) ?_
      have h := ih (k + 1) (by omega)
      first
      | (rw [show y_ul M f c x (k + 1) = y_ul M f c x k + 0 from congrArg (y_ul M f c x k + ·) (if_pos (by omega))] at h; exact gj_wk h ⟨rfl, rfl, rfl, rfl, rfl, rfl, rfl, trivial⟩)
      | (rw [show y_ul M f c x (k + 1) = y_ul M f c x k + e_pw (10 - x) (y_ones k).toNat * e_pw x (M 69 5 - y_ones k).toNat from congrArg (y_ul M f c x k + ·) (if_neg (by omega))] at h; exact gj_wk h ⟨rfl, rfl, rfl, rfl, rfl, rfl, rfl, trivial⟩)

set_option maxRecDepth 100000 in
set_option maxHeartbeats 1000000 in
theorem s8_lost {xt : Nat × (Nat → Int)} {M : gj_M} (h0 : M 69 0 = 0) (hI : y_I M 78) {f c x u : Int} (hf : gj_in f) (hc : gj_in c) (hx : gj_in x) (hu : gj_in u) (hup : 0 ≤ x → x ≤ 10 → 0 ≤ y_ul M f c x (y_all (M 69 5) + 1).toNat ∧ y_ul M f c x (y_all (M 69 5) + 1).toNat ≤ 2147483647) : gj_F xt Y8_lost gS [gR 69, gI f, gI c, gI x, gI u] M (some (gI (z_lost M f c x u))) M := by
  show gj_G _ Y8_lost gS 0 0 0 [_, _, _, _, _, _, _] [] M _
  have hL := hI.1
  have hD := hI.2.1
  have hsw := hI.2.2.1
  have hab := y_all_b hI.1
  refine gj_aload_n 1 dX8_lost_0 rfl rfl ?_
  refine gj_iconst 2 dX8_lost_1 rfl ?_
  refine gj_putfi 5 dX8_lost_2 rfl fw_8_69 rfl rfl (by omega) ?_
  refine gj_mem (gj_u0 h0) ?_
  refine gj_iload_n 6 dX8_lost_5 rfl rfl ?_
  refine gj_fS 9 dX8_lost_6 rfl ok_8_isFrame ml_8_183 is_8_isFrame (As := [gI _]) rfl rfl (Nat.le_of_ble_eq_true rfl) ⟨Nat.le_of_ble_eq_true rfl, Nat.le_of_ble_eq_true rfl⟩ (Nat.le_of_ble_eq_true rfl) ⟨rfl, rfl⟩ ⟨Nat.zero_le _, Nat.zero_le _⟩ (s8_isF (by omega)) ?_
  have hc6 := y_in_c f 0 47
  refine gj_if_eq 36 12 dX8_lost_9 (by decide) rfl (by omega) (fun c_9 => ?_) (fun c_9 => ?_)
  · refine gj_bipush 38 dX8_lost_36 rfl (by decide) ?_
    refine gj_iret dX8_lost_38 rfl ⟨Nat.zero_le _, Nat.zero_le _⟩ ?_
    exact ⟨rfl, by (unfold z_lost; (repeat (first | rw [if_pos (by omega)] | rw [if_neg (by omega)])); try rfl), rfl⟩
  · refine gj_iload_n 13 dX8_lost_12 rfl rfl ?_
    refine gj_i2l 14 dX8_lost_13 rfl (by omega) ?_
    refine gj_lconst (a := 0) 15 dX8_lost_14 rfl rfl ?_
    refine gj_ldc2 (a := 9) 18 dX8_lost_15 rfl lc_8_186 ?_
    refine gj_fS 21 dX8_lost_18 rfl ok_8_in ml_8_76 is_8_in (As := [gL _, gL _, gL _]) rfl rfl (Nat.le_of_ble_eq_true rfl) ⟨Nat.le_of_ble_eq_true rfl, Nat.le_of_ble_eq_true rfl⟩ (Nat.le_of_ble_eq_true rfl) ⟨rfl, rfl⟩ ⟨Nat.zero_le _, Nat.zero_le _⟩ (s8_in (by omega) (by omega) (by omega)) ?_
    have hc18 := y_in_c (c) (0) (9)
    refine gj_if_eq 36 24 dX8_lost_21 (by decide) rfl (by omega) (fun c_21 => ?_) (fun c_21 => ?_)
    · refine gj_bipush 38 dX8_lost_36 rfl (by decide) ?_
      refine gj_iret dX8_lost_38 rfl ⟨Nat.zero_le _, Nat.zero_le _⟩ ?_
      exact ⟨rfl, by (unfold z_lost; (repeat (first | rw [if_pos (by omega)] | rw [if_neg (by omega)])); try rfl), rfl⟩
    · refine gj_iload_n 25 dX8_lost_24 rfl rfl ?_
      refine gj_i2l 26 dX8_lost_25 rfl (by omega) ?_
      refine gj_lconst (a := 0) 27 dX8_lost_26 rfl rfl ?_
      refine gj_ldc2 (a := 10) 30 dX8_lost_27 rfl lc_8_238 ?_
      refine gj_fS 33 dX8_lost_30 rfl ok_8_in ml_8_76 is_8_in (As := [gL _, gL _, gL _]) rfl rfl (Nat.le_of_ble_eq_true rfl) ⟨Nat.le_of_ble_eq_true rfl, Nat.le_of_ble_eq_true rfl⟩ (Nat.le_of_ble_eq_true rfl) ⟨rfl, rfl⟩ ⟨Nat.zero_le _, Nat.zero_le _⟩ (s8_in (by omega) (by omega) (by omega)) ?_
      have hc30 := y_in_c (x) (0) (10)
      refine gj_if_ne 39 36 dX8_lost_33 (by decide) rfl (by omega) (fun c_33 => ?_) (fun c_33 => ?_)
      · refine gj_iconst 40 dX8_lost_39 rfl ?_
        refine gj_istore (lv' := [_, _, _, _, _, _, _]) 42 dX8_lost_40 rfl (by decide) rfl ?_
        refine gj_iconst 43 dX8_lost_42 rfl ?_
        refine gj_istore (lv' := [_, _, _, _, _, _, _]) 45 dX8_lost_43 rfl (by decide) rfl ?_
        have e : z_lost M f c x u = y_fp (y_ul M f c x (y_all (M 69 5) + 1).toNat) (e_pw 10 (M 69 5).toNat) u := if_pos (by omega)
        rw [e]
        exact gj_wk (s8_lost_l hI (by omega) (by omega) (by omega) hu (hup (by omega) (by omega)) (y_all (M 69 5) + 1).toNat 0 (by omega)) ⟨rfl, rfl, rfl, rfl, rfl, rfl, rfl, trivial⟩
      · refine gj_bipush 38 dX8_lost_36 rfl (by decide) ?_
        refine gj_iret dX8_lost_38 rfl ⟨Nat.zero_le _, Nat.zero_le _⟩ ?_
        exact ⟨rfl, by (unfold z_lost; (repeat (first | rw [if_pos (by omega)] | rw [if_neg (by omega)])); try rfl), rfl⟩

set_option maxRecDepth 100000 in
set_option maxHeartbeats 1000000 in
theorem s8_does {xt : Nat × (Nat → Int)} {M : gj_M} (hI : y_I M 79) {h a b c : Int} (hh : 0 ≤ h ∧ h ≤ 9) (ha : 0 ≤ a ∧ a ≤ 9) (hb : 0 ≤ b ∧ b ≤ 9) (hc : 0 ≤ c ∧ c ≤ 9) : gj_F xt Y8_does gS [gR 69, gI h, gI a, gI b, gI c] M (some (gI (y_dk M h a b c))) (y_dm M h a b c) := by
  show gj_G _ Y8_does gS 0 0 0 [_, _, _, _, _, _] [] M _
  have hL := hI.1
  have hD := hI.2.1
  have hsw := hI.2.2.1
  refine gj_bipush 2 dX8_does_0 rfl (by decide) ?_
  refine gj_iload_n 3 dX8_does_2 rfl rfl ?_
  refine gj_imul 4 dX8_does_3 rfl ?_
  refine gj_iload_n 5 dX8_does_4 rfl rfl ?_
  refine gj_iadd 6 dX8_does_5 rfl ?_
  refine gj_istore (lv' := [_, _, _, _, _, _]) 8 dX8_does_6 rfl (by decide) rfl ?_
  refine gj_iload_n 9 dX8_does_8 rfl rfl ?_
  rcases (show h = 1 ∨ h = 2 ∨ h = 3 ∨ h = 4 ∨ h = 5 ∨ h = 6 ∨ h = 7 ∨ (h < 1 ∨ 7 < h) by omega) with t_9 | t_9 | t_9 | t_9 | t_9 | t_9 | t_9 | t_9
  · refine gj_tabI (off := 43) 52 dX8_does_9 (by omega) (by omega) (by rw [t_9]; rfl) (by decide) ?_
    refine gj_aload_n 53 dX8_does_52 rfl rfl ?_
    refine gj_iload_n 54 dX8_does_53 rfl rfl ?_
    refine gj_fV 57 dX8_does_54 rfl ok_8_noLevel ml_8_173 iv_8_noLevel (As := [gI _]) rfl rfl rfl rfl (Nat.le_of_ble_eq_true rfl) ⟨Nat.le_of_ble_eq_true rfl, Nat.le_of_ble_eq_true rfl⟩ (Nat.le_of_ble_eq_true rfl) ⟨rfl, rfl⟩ ⟨Nat.zero_le _, Nat.zero_le _⟩ (s8_noL (by omega) hI.1) ?_
    have hc54 := y_in_c a 0 (M 69 5 - 1)
    refine gj_if_ne 64 60 dX8_does_57 (by decide) rfl (by omega) (fun c_57 => ?_) (fun c_57 => ?_)
    · refine gj_iconst 65 dX8_does_64 rfl ?_
      refine gj_zret dX8_does_65 rfl (by decide) ⟨Nat.zero_le _, Nat.zero_le _⟩ ?_
      first
      | (have e : y_dk M h a b c = 1 := by unfold y_dk; (repeat (first | rw [if_pos (by omega)] | rw [if_neg (by omega)]))
         exact ⟨rfl, by rw [e], by unfold y_dm; rw [e]; (repeat (first | rw [if_pos (by omega)] | rw [if_neg (by omega)]))⟩)
      | (have e : y_dk M h a b c = 0 := by unfold y_dk; (repeat (first | rw [if_pos (by omega)] | rw [if_neg (by omega)]))
         exact ⟨rfl, by rw [e], by unfold y_dm; rw [e]; rw [if_pos rfl]⟩)
    · refine gj_iload_n 61 dX8_does_60 rfl rfl ?_
      refine gj_if_eq 66 64 dX8_does_61 (by decide) rfl (by omega) (fun c_61 => ?_) (fun c_61 => ?_)
      · refine gj_aload_n 67 dX8_does_66 rfl rfl ?_
        refine gj_getfr 70 dX8_does_67 rfl fl_8_38 rfl rfl ?_
        refine gj_bipush 72 dX8_does_70 rfl (by decide) ?_
        refine gj_iload_n 73 dX8_does_72 rfl rfl ?_
        refine gj_iadd 74 dX8_does_73 rfl ?_
        refine gj_iload 76 dX8_does_74 rfl rfl ?_
        refine gj_iast 77 dX8_does_76 rfl rfl (by omega) (by omega) (by omega) ?_
        refine gj_iconst 78 dX8_does_77 rfl ?_
        refine gj_zret dX8_does_78 rfl (by decide) ⟨Nat.zero_le _, Nat.zero_le _⟩ ?_
        first
        | (have e : y_dk M h a b c = 1 := by unfold y_dk; (repeat (first | rw [if_pos (by omega)] | rw [if_neg (by omega)]))
           exact ⟨rfl, by rw [e], by unfold y_dm; rw [e]; (repeat (first | rw [if_pos (by omega)] | rw [if_neg (by omega)]))⟩)
        | (have e : y_dk M h a b c = 0 := by unfold y_dk; (repeat (first | rw [if_pos (by omega)] | rw [if_neg (by omega)]))
           exact ⟨rfl, by rw [e], by unfold y_dm; rw [e]; rw [if_pos rfl]⟩)
      · refine gj_iconst 65 dX8_does_64 rfl ?_
        refine gj_zret dX8_does_65 rfl (by decide) ⟨Nat.zero_le _, Nat.zero_le _⟩ ?_
        first
        | (have e : y_dk M h a b c = 1 := by unfold y_dk; (repeat (first | rw [if_pos (by omega)] | rw [if_neg (by omega)]))
           exact ⟨rfl, by rw [e], by unfold y_dm; rw [e]; (repeat (first | rw [if_pos (by omega)] | rw [if_neg (by omega)]))⟩)
        | (have e : y_dk M h a b c = 0 := by unfold y_dk; (repeat (first | rw [if_pos (by omega)] | rw [if_neg (by omega)]))
           exact ⟨rfl, by rw [e], by unfold y_dm; rw [e]; rw [if_pos rfl]⟩)
  · refine gj_tabI (off := 70) 79 dX8_does_9 (by omega) (by omega) (by rw [t_9]; rfl) (by decide) ?_
    refine gj_iload 81 dX8_does_79 rfl rfl ?_
    refine gj_fS 84 dX8_does_81 rfl ok_8_isFrame ml_8_183 is_8_isFrame (As := [gI _]) rfl rfl (Nat.le_of_ble_eq_true rfl) ⟨Nat.le_of_ble_eq_true rfl, Nat.le_of_ble_eq_true rfl⟩ (Nat.le_of_ble_eq_true rfl) ⟨rfl, rfl⟩ ⟨Nat.zero_le _, Nat.zero_le _⟩ (s8_isF (by omega)) ?_
    have hcf := y_in_c (10 * a + b) 0 47
    refine gj_if_eq 117 87 dX8_does_84 (by decide) rfl (by omega) (fun c_84 => ?_) (fun c_84 => ?_)
    · refine gj_iconst 118 dX8_does_117 rfl ?_
      refine gj_zret dX8_does_118 rfl (by decide) ⟨Nat.zero_le _, Nat.zero_le _⟩ ?_
      first
      | (have e : y_dk M h a b c = 1 := by unfold y_dk; (repeat (first | rw [if_pos (by omega)] | rw [if_neg (by omega)]))
         exact ⟨rfl, by rw [e], by unfold y_dm; rw [e]; (repeat (first | rw [if_pos (by omega)] | rw [if_neg (by omega)]))⟩)
      | (have e : y_dk M h a b c = 0 := by unfold y_dk; (repeat (first | rw [if_pos (by omega)] | rw [if_neg (by omega)]))
         exact ⟨rfl, by rw [e], by unfold y_dm; rw [e]; rw [if_pos rfl]⟩)
    · refine gj_aload_n 88 dX8_does_87 rfl rfl ?_
      refine gj_iload 90 dX8_does_88 rfl rfl ?_
      refine gj_fV 93 dX8_does_90 rfl ok_8_noLevel ml_8_173 iv_8_noLevel (As := [gI _]) rfl rfl rfl rfl (Nat.le_of_ble_eq_true rfl) ⟨Nat.le_of_ble_eq_true rfl, Nat.le_of_ble_eq_true rfl⟩ (Nat.le_of_ble_eq_true rfl) ⟨rfl, rfl⟩ ⟨Nat.zero_le _, Nat.zero_le _⟩ (s8_noL (by omega) hI.1) ?_
      have hc90 := y_in_c c 0 (M 69 5 - 1)
      refine gj_if_ne 117 96 dX8_does_93 (by decide) rfl (by omega) (fun c_93 => ?_) (fun c_93 => ?_)
      · refine gj_iconst 118 dX8_does_117 rfl ?_
        refine gj_zret dX8_does_118 rfl (by decide) ⟨Nat.zero_le _, Nat.zero_le _⟩ ?_
        first
        | (have e : y_dk M h a b c = 1 := by unfold y_dk; (repeat (first | rw [if_pos (by omega)] | rw [if_neg (by omega)]))
           exact ⟨rfl, by rw [e], by unfold y_dm; rw [e]; (repeat (first | rw [if_pos (by omega)] | rw [if_neg (by omega)]))⟩)
        | (have e : y_dk M h a b c = 0 := by unfold y_dk; (repeat (first | rw [if_pos (by omega)] | rw [if_neg (by omega)]))
           exact ⟨rfl, by rw [e], by unfold y_dm; rw [e]; rw [if_pos rfl]⟩)
      · refine gj_aload_n 97 dX8_does_96 rfl rfl ?_
        refine gj_aload_n 98 dX8_does_97 rfl rfl ?_
        refine gj_getfr 101 dX8_does_98 rfl fl_8_38 rfl rfl ?_
        refine gj_iload 103 dX8_does_101 rfl rfl ?_
        refine gj_iload 105 dX8_does_103 rfl rfl ?_
        refine gj_fV 108 dX8_does_105 rfl ok_8_exposedOn ml_8_138 iv_8_exposedOn (As := [gR _, gI _, gI _]) rfl rfl rfl rfl (Nat.le_of_ble_eq_true rfl) ⟨Nat.le_of_ble_eq_true rfl, Nat.le_of_ble_eq_true rfl⟩ (Nat.le_of_ble_eq_true rfl) ⟨rfl, rfl⟩ ⟨Nat.zero_le _, Nat.zero_le _⟩ (s8_ex rfl hI (by omega) (by omega)) ?_
        have hxb := y_ex_b hI (l := c) (f := 10 * a + b) (by omega)
        refine gj_bipush 110 dX8_does_108 rfl (by decide) ?_
        refine gj_icmp_eq 117 113 dX8_does_110 (by decide) rfl (by omega) (by omega) (fun c_110 => ?_) (fun c_110 => ?_)
        · refine gj_iconst 118 dX8_does_117 rfl ?_
          refine gj_zret dX8_does_118 rfl (by decide) ⟨Nat.zero_le _, Nat.zero_le _⟩ ?_
          first
          | (have e : y_dk M h a b c = 1 := by unfold y_dk; (repeat (first | rw [if_pos (by omega)] | rw [if_neg (by omega)]))
             exact ⟨rfl, by rw [e], by unfold y_dm; rw [e]; (repeat (first | rw [if_pos (by omega)] | rw [if_neg (by omega)]))⟩)
          | (have e : y_dk M h a b c = 0 := by unfold y_dk; (repeat (first | rw [if_pos (by omega)] | rw [if_neg (by omega)]))
             exact ⟨rfl, by rw [e], by unfold y_dm; rw [e]; rw [if_pos rfl]⟩)
        · refine gj_iconst 114 dX8_does_113 rfl ?_
          refine gj_goto 118 dX8_does_114 (by decide) ?_
          refine gj_zret dX8_does_118 rfl (by decide) ⟨Nat.zero_le _, Nat.zero_le _⟩ ?_
          first
          | (have e : y_dk M h a b c = 1 := by unfold y_dk; (repeat (first | rw [if_pos (by omega)] | rw [if_neg (by omega)]))
             exact ⟨rfl, by rw [e], by unfold y_dm; rw [e]; (repeat (first | rw [if_pos (by omega)] | rw [if_neg (by omega)]))⟩)
          | (have e : y_dk M h a b c = 0 := by unfold y_dk; (repeat (first | rw [if_pos (by omega)] | rw [if_neg (by omega)]))
             exact ⟨rfl, by rw [e], by unfold y_dm; rw [e]; rw [if_pos rfl]⟩)
  · refine gj_tabI (off := 110) 119 dX8_does_9 (by omega) (by omega) (by rw [t_9]; rfl) (by decide) ?_
    refine gj_iload 121 dX8_does_119 rfl rfl ?_
    refine gj_fS 124 dX8_does_121 rfl ok_8_isFrame ml_8_183 is_8_isFrame (As := [gI _]) rfl rfl (Nat.le_of_ble_eq_true rfl) ⟨Nat.le_of_ble_eq_true rfl, Nat.le_of_ble_eq_true rfl⟩ (Nat.le_of_ble_eq_true rfl) ⟨rfl, rfl⟩ ⟨Nat.zero_le _, Nat.zero_le _⟩ (s8_isF (by omega)) ?_
    have hcf := y_in_c (10 * a + b) 0 47
    refine gj_if_eq 154 127 dX8_does_124 (by decide) rfl (by omega) (fun c_124 => ?_) (fun c_124 => ?_)
    · refine gj_iconst 155 dX8_does_154 rfl ?_
      refine gj_zret dX8_does_155 rfl (by decide) ⟨Nat.zero_le _, Nat.zero_le _⟩ ?_
      first
      | (have e : y_dk M h a b c = 1 := by unfold y_dk; (repeat (first | rw [if_pos (by omega)] | rw [if_neg (by omega)]))
         exact ⟨rfl, by rw [e], by unfold y_dm; rw [e]; (repeat (first | rw [if_pos (by omega)] | rw [if_neg (by omega)]))⟩)
      | (have e : y_dk M h a b c = 0 := by unfold y_dk; (repeat (first | rw [if_pos (by omega)] | rw [if_neg (by omega)]))
         exact ⟨rfl, by rw [e], by unfold y_dm; rw [e]; rw [if_pos rfl]⟩)
    · refine gj_aload_n 128 dX8_does_127 rfl rfl ?_
      refine gj_aload_n 129 dX8_does_128 rfl rfl ?_
      refine gj_getfr 132 dX8_does_129 rfl fl_8_38 rfl rfl ?_
      refine gj_iload 134 dX8_does_132 rfl rfl ?_
      refine gj_iload 136 dX8_does_134 rfl rfl ?_
      refine gj_aload_n 137 dX8_does_136 rfl rfl ?_
      refine gj_fV 140 dX8_does_137 rfl ok_8_every ml_8_147 iv_8_every (As := []) rfl rfl rfl rfl (Nat.le_of_ble_eq_true rfl) ⟨Nat.le_of_ble_eq_true rfl, Nat.le_of_ble_eq_true rfl⟩ (Nat.le_of_ble_eq_true rfl) ⟨rfl, rfl⟩ ⟨Nat.zero_le _, Nat.zero_le _⟩ (s8_every) ?_
      refine gj_bipush 142 dX8_does_140 rfl (by decide) ?_
      refine gj_fV 145 dX8_does_142 rfl ok_8_lookBy ml_8_150 iv_8_lookBy (As := [gR _, gI _, gI _, gI _, gI _]) rfl rfl rfl rfl (Nat.le_of_ble_eq_true rfl) ⟨Nat.le_of_ble_eq_true rfl, Nat.le_of_ble_eq_true rfl⟩ (Nat.le_of_ble_eq_true rfl) ⟨rfl, rfl⟩ ⟨Nat.zero_le _, Nat.zero_le _⟩ (s8_look rfl hI (by omega) (by omega) (by omega)) ?_
      have hlb := y_look_b hI (10 * a + b) c (y_all (M 69 5)) (-9)
      refine gj_bipush 147 dX8_does_145 rfl (by decide) ?_
      refine gj_icmp_eq 154 150 dX8_does_147 (by decide) rfl (by omega) (by omega) (fun c_147 => ?_) (fun c_147 => ?_)
      · refine gj_iconst 155 dX8_does_154 rfl ?_
        refine gj_zret dX8_does_155 rfl (by decide) ⟨Nat.zero_le _, Nat.zero_le _⟩ ?_
        first
        | (have e : y_dk M h a b c = 1 := by unfold y_dk; (repeat (first | rw [if_pos (by omega)] | rw [if_neg (by omega)]))
           exact ⟨rfl, by rw [e], by unfold y_dm; rw [e]; (repeat (first | rw [if_pos (by omega)] | rw [if_neg (by omega)]))⟩)
        | (have e : y_dk M h a b c = 0 := by unfold y_dk; (repeat (first | rw [if_pos (by omega)] | rw [if_neg (by omega)]))
           exact ⟨rfl, by rw [e], by unfold y_dm; rw [e]; rw [if_pos rfl]⟩)
      · refine gj_iconst 151 dX8_does_150 rfl ?_
        refine gj_goto 155 dX8_does_151 (by decide) ?_
        refine gj_zret dX8_does_155 rfl (by decide) ⟨Nat.zero_le _, Nat.zero_le _⟩ ?_
        first
        | (have e : y_dk M h a b c = 1 := by unfold y_dk; (repeat (first | rw [if_pos (by omega)] | rw [if_neg (by omega)]))
           exact ⟨rfl, by rw [e], by unfold y_dm; rw [e]; (repeat (first | rw [if_pos (by omega)] | rw [if_neg (by omega)]))⟩)
        | (have e : y_dk M h a b c = 0 := by unfold y_dk; (repeat (first | rw [if_pos (by omega)] | rw [if_neg (by omega)]))
           exact ⟨rfl, by rw [e], by unfold y_dm; rw [e]; rw [if_pos rfl]⟩)
  · refine gj_tabI (off := 147) 156 dX8_does_9 (by omega) (by omega) (by rw [t_9]; rfl) (by decide) ?_
    refine gj_aload_n 157 dX8_does_156 rfl rfl ?_
    refine gj_iload_n 158 dX8_does_157 rfl rfl ?_
    refine gj_fV 161 dX8_does_158 rfl ok_8_noDrawing ml_8_169 iv_8_noDrawing (As := [gI _]) rfl rfl rfl rfl (Nat.le_of_ble_eq_true rfl) ⟨Nat.le_of_ble_eq_true rfl, Nat.le_of_ble_eq_true rfl⟩ (Nat.le_of_ble_eq_true rfl) ⟨rfl, rfl⟩ ⟨Nat.zero_le _, Nat.zero_le _⟩ (s8_noD (by omega) hI.2.1) ?_
    have hc158 := y_in_c a 0 (M 69 4 - 1)
    refine gj_if_ne 177 164 dX8_does_161 (by decide) rfl (by omega) (fun c_161 => ?_) (fun c_161 => ?_)
    · refine gj_iconst 178 dX8_does_177 rfl ?_
      refine gj_zret dX8_does_178 rfl (by decide) ⟨Nat.zero_le _, Nat.zero_le _⟩ ?_
      first
      | (have e : y_dk M h a b c = 1 := by unfold y_dk; (repeat (first | rw [if_pos (by omega)] | rw [if_neg (by omega)]))
         exact ⟨rfl, by rw [e], by unfold y_dm; rw [e]; (repeat (first | rw [if_pos (by omega)] | rw [if_neg (by omega)]))⟩)
      | (have e : y_dk M h a b c = 0 := by unfold y_dk; (repeat (first | rw [if_pos (by omega)] | rw [if_neg (by omega)]))
         exact ⟨rfl, by rw [e], by unfold y_dm; rw [e]; rw [if_pos rfl]⟩)
    · refine gj_iload 166 dX8_does_164 rfl rfl ?_
      refine gj_i2l 167 dX8_does_166 rfl (by omega) ?_
      refine gj_lconst (a := 1) 168 dX8_does_167 rfl rfl ?_
      refine gj_ldc2 (a := 5) 171 dX8_does_168 rfl lc_8_188 ?_
      refine gj_fS 174 dX8_does_171 rfl ok_8_in ml_8_76 is_8_in (As := [gL _, gL _, gL _]) rfl rfl (Nat.le_of_ble_eq_true rfl) ⟨Nat.le_of_ble_eq_true rfl, Nat.le_of_ble_eq_true rfl⟩ (Nat.le_of_ble_eq_true rfl) ⟨rfl, rfl⟩ ⟨Nat.zero_le _, Nat.zero_le _⟩ (s8_in (by omega) (by omega) (by omega)) ?_
      have hc171 := y_in_c (c) (1) (5)
      refine gj_if_ne 179 177 dX8_does_174 (by decide) rfl (by omega) (fun c_174 => ?_) (fun c_174 => ?_)
      · refine gj_aload_n 180 dX8_does_179 rfl rfl ?_
        refine gj_getfr 183 dX8_does_180 rfl fl_8_38 rfl rfl ?_
        refine gj_iconst 184 dX8_does_183 rfl ?_
        refine gj_iload_n 185 dX8_does_184 rfl rfl ?_
        refine gj_iadd 186 dX8_does_185 rfl ?_
        refine gj_iload_n 187 dX8_does_186 rfl rfl ?_
        refine gj_iast 188 dX8_does_187 rfl rfl (by omega) (by omega) (by omega) ?_
        refine gj_aload_n 189 dX8_does_188 rfl rfl ?_
        refine gj_getfr 192 dX8_does_189 rfl fl_8_38 rfl rfl ?_
        refine gj_bipush 194 dX8_does_192 rfl (by decide) ?_
        refine gj_iload_n 195 dX8_does_194 rfl rfl ?_
        refine gj_iadd 196 dX8_does_195 rfl ?_
        refine gj_iload 198 dX8_does_196 rfl rfl ?_
        refine gj_iast 199 dX8_does_198 rfl rfl (by omega) (by omega) (by omega) ?_
        refine gj_iconst 200 dX8_does_199 rfl ?_
        refine gj_zret dX8_does_200 rfl (by decide) ⟨Nat.zero_le _, Nat.zero_le _⟩ ?_
        first
        | (have e : y_dk M h a b c = 1 := by unfold y_dk; (repeat (first | rw [if_pos (by omega)] | rw [if_neg (by omega)]))
           exact ⟨rfl, by rw [e], by unfold y_dm; rw [e]; (repeat (first | rw [if_pos (by omega)] | rw [if_neg (by omega)]))⟩)
        | (have e : y_dk M h a b c = 0 := by unfold y_dk; (repeat (first | rw [if_pos (by omega)] | rw [if_neg (by omega)]))
           exact ⟨rfl, by rw [e], by unfold y_dm; rw [e]; rw [if_pos rfl]⟩)
      · refine gj_iconst 178 dX8_does_177 rfl ?_
        refine gj_zret dX8_does_178 rfl (by decide) ⟨Nat.zero_le _, Nat.zero_le _⟩ ?_
        first
        | (have e : y_dk M h a b c = 1 := by unfold y_dk; (repeat (first | rw [if_pos (by omega)] | rw [if_neg (by omega)]))
           exact ⟨rfl, by rw [e], by unfold y_dm; rw [e]; (repeat (first | rw [if_pos (by omega)] | rw [if_neg (by omega)]))⟩)
        | (have e : y_dk M h a b c = 0 := by unfold y_dk; (repeat (first | rw [if_pos (by omega)] | rw [if_neg (by omega)]))
           exact ⟨rfl, by rw [e], by unfold y_dm; rw [e]; rw [if_pos rfl]⟩)
  · refine gj_tabI (off := 192) 201 dX8_does_9 (by omega) (by omega) (by rw [t_9]; rfl) (by decide) ?_
    refine gj_iload_n 202 dX8_does_201 rfl rfl ?_
    refine gj_if_ne 227 205 dX8_does_202 (by decide) rfl (by omega) (fun c_202 => ?_) (fun c_202 => ?_)
    · refine gj_iconst 228 dX8_does_227 rfl ?_
      refine gj_zret dX8_does_228 rfl (by decide) ⟨Nat.zero_le _, Nat.zero_le _⟩ ?_
      first
      | (have e : y_dk M h a b c = 1 := by unfold y_dk; (repeat (first | rw [if_pos (by omega)] | rw [if_neg (by omega)]))
         exact ⟨rfl, by rw [e], by unfold y_dm; rw [e]; (repeat (first | rw [if_pos (by omega)] | rw [if_neg (by omega)]))⟩)
      | (have e : y_dk M h a b c = 0 := by unfold y_dk; (repeat (first | rw [if_pos (by omega)] | rw [if_neg (by omega)]))
         exact ⟨rfl, by rw [e], by unfold y_dm; rw [e]; rw [if_pos rfl]⟩)
    · refine gj_aload_n 206 dX8_does_205 rfl rfl ?_
      refine gj_aload_n 207 dX8_does_206 rfl rfl ?_
      refine gj_getfr 210 dX8_does_207 rfl fl_8_38 rfl rfl ?_
      refine gj_fV 213 dX8_does_210 rfl ok_8_cels ml_8_165 iv_8_cels (As := [gR _]) rfl rfl rfl rfl (Nat.le_of_ble_eq_true rfl) ⟨Nat.le_of_ble_eq_true rfl, Nat.le_of_ble_eq_true rfl⟩ (Nat.le_of_ble_eq_true rfl) ⟨rfl, rfl⟩ ⟨Nat.zero_le _, Nat.zero_le _⟩ (s8_cels rfl hI) ?_
      have hcb := y_cels_b hI
      refine gj_bipush 215 dX8_does_213 rfl (by decide) ?_
      refine gj_iload_n 216 dX8_does_215 rfl rfl ?_
      refine gj_imul 217 dX8_does_216 rfl ?_
      refine gj_iload 219 dX8_does_217 rfl rfl ?_
      refine gj_iadd 220 dX8_does_219 rfl ?_
      refine gj_icmp_ne 227 223 dX8_does_220 (by decide) rfl (by omega) (by omega) (fun c_220 => ?_) (fun c_220 => ?_)
      · refine gj_iconst 228 dX8_does_227 rfl ?_
        refine gj_zret dX8_does_228 rfl (by decide) ⟨Nat.zero_le _, Nat.zero_le _⟩ ?_
        first
        | (have e : y_dk M h a b c = 1 := by unfold y_dk; (repeat (first | rw [if_pos (by omega)] | rw [if_neg (by omega)]))
           exact ⟨rfl, by rw [e], by unfold y_dm; rw [e]; (repeat (first | rw [if_pos (by omega)] | rw [if_neg (by omega)]))⟩)
        | (have e : y_dk M h a b c = 0 := by unfold y_dk; (repeat (first | rw [if_pos (by omega)] | rw [if_neg (by omega)]))
           exact ⟨rfl, by rw [e], by unfold y_dm; rw [e]; rw [if_pos rfl]⟩)
      · refine gj_iconst 224 dX8_does_223 rfl ?_
        refine gj_goto 228 dX8_does_224 (by decide) ?_
        refine gj_zret dX8_does_228 rfl (by decide) ⟨Nat.zero_le _, Nat.zero_le _⟩ ?_
        first
        | (have e : y_dk M h a b c = 1 := by unfold y_dk; (repeat (first | rw [if_pos (by omega)] | rw [if_neg (by omega)]))
           exact ⟨rfl, by rw [e], by unfold y_dm; rw [e]; (repeat (first | rw [if_pos (by omega)] | rw [if_neg (by omega)]))⟩)
        | (have e : y_dk M h a b c = 0 := by unfold y_dk; (repeat (first | rw [if_pos (by omega)] | rw [if_neg (by omega)]))
           exact ⟨rfl, by rw [e], by unfold y_dm; rw [e]; rw [if_pos rfl]⟩)
  · refine gj_tabI (off := 220) 229 dX8_does_9 (by omega) (by omega) (by rw [t_9]; rfl) (by decide) ?_
    refine gj_iload 231 dX8_does_229 rfl rfl ?_
    refine gj_fS 234 dX8_does_231 rfl ok_8_isFrame ml_8_183 is_8_isFrame (As := [gI _]) rfl rfl (Nat.le_of_ble_eq_true rfl) ⟨Nat.le_of_ble_eq_true rfl, Nat.le_of_ble_eq_true rfl⟩ (Nat.le_of_ble_eq_true rfl) ⟨rfl, rfl⟩ ⟨Nat.zero_le _, Nat.zero_le _⟩ (s8_isF (by omega)) ?_
    have hcf := y_in_c (10 * a + b) 0 47
    refine gj_if_eq 277 237 dX8_does_234 (by decide) rfl (by omega) (fun c_234 => ?_) (fun c_234 => ?_)
    · refine gj_iconst 278 dX8_does_277 rfl ?_
      refine gj_zret dX8_does_278 rfl (by decide) ⟨Nat.zero_le _, Nat.zero_le _⟩ ?_
      first
      | (have e : y_dk M h a b c = 1 := by unfold y_dk; (repeat (first | rw [if_pos (by omega)] | rw [if_neg (by omega)]))
         exact ⟨rfl, by rw [e], by unfold y_dm; rw [e]; (repeat (first | rw [if_pos (by omega)] | rw [if_neg (by omega)]))⟩)
      | (have e : y_dk M h a b c = 0 := by unfold y_dk; (repeat (first | rw [if_pos (by omega)] | rw [if_neg (by omega)]))
         exact ⟨rfl, by rw [e], by unfold y_dm; rw [e]; rw [if_pos rfl]⟩)
    · refine gj_aload_n 238 dX8_does_237 rfl rfl ?_
      refine gj_iload 240 dX8_does_238 rfl rfl ?_
      refine gj_fV 243 dX8_does_240 rfl ok_8_noLevel ml_8_173 iv_8_noLevel (As := [gI _]) rfl rfl rfl rfl (Nat.le_of_ble_eq_true rfl) ⟨Nat.le_of_ble_eq_true rfl, Nat.le_of_ble_eq_true rfl⟩ (Nat.le_of_ble_eq_true rfl) ⟨rfl, rfl⟩ ⟨Nat.zero_le _, Nat.zero_le _⟩ (s8_noL (by omega) hI.1) ?_
      have hc240 := y_in_c c 0 (M 69 5 - 1)
      refine gj_if_ne 277 246 dX8_does_243 (by decide) rfl (by omega) (fun c_243 => ?_) (fun c_243 => ?_)
      · refine gj_iconst 278 dX8_does_277 rfl ?_
        refine gj_zret dX8_does_278 rfl (by decide) ⟨Nat.zero_le _, Nat.zero_le _⟩ ?_
        first
        | (have e : y_dk M h a b c = 1 := by unfold y_dk; (repeat (first | rw [if_pos (by omega)] | rw [if_neg (by omega)]))
           exact ⟨rfl, by rw [e], by unfold y_dm; rw [e]; (repeat (first | rw [if_pos (by omega)] | rw [if_neg (by omega)]))⟩)
        | (have e : y_dk M h a b c = 0 := by unfold y_dk; (repeat (first | rw [if_pos (by omega)] | rw [if_neg (by omega)]))
           exact ⟨rfl, by rw [e], by unfold y_dm; rw [e]; rw [if_pos rfl]⟩)
      · refine gj_aload_n 247 dX8_does_246 rfl rfl ?_
        refine gj_aload_n 248 dX8_does_247 rfl rfl ?_
        refine gj_getfr 251 dX8_does_248 rfl fl_8_38 rfl rfl ?_
        refine gj_iload 253 dX8_does_251 rfl rfl ?_
        refine gj_fV 256 dX8_does_253 rfl ok_8_orderAt ml_8_127 iv_8_orderAt (As := [gR _, gI _]) rfl rfl rfl rfl (Nat.le_of_ble_eq_true rfl) ⟨Nat.le_of_ble_eq_true rfl, Nat.le_of_ble_eq_true rfl⟩ (Nat.le_of_ble_eq_true rfl) ⟨rfl, rfl⟩ ⟨Nat.zero_le _, Nat.zero_le _⟩ (s8_ord rfl hI (by omega)) ?_
        refine gj_bipush 258 dX8_does_256 rfl (by decide) ?_
        refine gj_aload_n 259 dX8_does_258 rfl rfl ?_
        refine gj_getfi 262 dX8_does_259 rfl fl_8_73 rfl rfl (fun r_259 => ?_)
        refine gj_iconst 263 dX8_does_262 rfl ?_
        refine gj_isub 264 dX8_does_263 rfl ?_
        refine gj_fS 267 dX8_does_264 rfl ok_8_power ml_8_135 is_8_power (As := [gI _, gI _]) rfl rfl (Nat.le_of_ble_eq_true rfl) ⟨Nat.le_of_ble_eq_true rfl, Nat.le_of_ble_eq_true rfl⟩ (Nat.le_of_ble_eq_true rfl) ⟨rfl, rfl⟩ ⟨Nat.zero_le _, Nat.zero_le _⟩ (s8_power (by omega)) ?_
        have hod := (hI.od (10 * a + b)).1
        have hpw := e_pw_b (x := 10) (by omega) (M 69 5 - 1).toNat (by omega)
        have hpl := e_pw_le (x := 10) (by omega) (M 69 5 - 1).toNat (by omega)
        have hq0 : 0 ≤ y_ord M 79 (10 * a + b) / e_pw 10 (M 69 5 - 1).toNat := Int.ediv_nonneg hod.1 (by omega)
        have hq1 : y_ord M 79 (10 * a + b) / e_pw 10 (M 69 5 - 1).toNat ≤ y_ord M 79 (10 * a + b) := Int.ediv_le_self _ hod.1
        refine gj_idiv 268 dX8_does_267 rfl (by omega) (by omega) ?_
        refine gj_iload 270 dX8_does_268 rfl rfl ?_
        refine gj_icmp_ne 277 273 dX8_does_270 (by decide) rfl (by omega) (by omega) (fun c_270 => ?_) (fun c_270 => ?_)
        · refine gj_iconst 278 dX8_does_277 rfl ?_
          refine gj_zret dX8_does_278 rfl (by decide) ⟨Nat.zero_le _, Nat.zero_le _⟩ ?_
          first
          | (have e : y_dk M h a b c = 1 := by unfold y_dk; (repeat (first | rw [if_pos (by omega)] | rw [if_neg (by omega)]))
             exact ⟨rfl, by rw [e], by unfold y_dm; rw [e]; (repeat (first | rw [if_pos (by omega)] | rw [if_neg (by omega)]))⟩)
          | (have e : y_dk M h a b c = 0 := by unfold y_dk; (repeat (first | rw [if_pos (by omega)] | rw [if_neg (by omega)]))
             exact ⟨rfl, by rw [e], by unfold y_dm; rw [e]; rw [if_pos rfl]⟩)
        · refine gj_iconst 274 dX8_does_273 rfl ?_
          refine gj_goto 278 dX8_does_274 (by decide) ?_
          refine gj_zret dX8_does_278 rfl (by decide) ⟨Nat.zero_le _, Nat.zero_le _⟩ ?_
          first
          | (have e : y_dk M h a b c = 1 := by unfold y_dk; (repeat (first | rw [if_pos (by omega)] | rw [if_neg (by omega)]))
             exact ⟨rfl, by rw [e], by unfold y_dm; rw [e]; (repeat (first | rw [if_pos (by omega)] | rw [if_neg (by omega)]))⟩)
          | (have e : y_dk M h a b c = 0 := by unfold y_dk; (repeat (first | rw [if_pos (by omega)] | rw [if_neg (by omega)]))
             exact ⟨rfl, by rw [e], by unfold y_dm; rw [e]; rw [if_pos rfl]⟩)
  · refine gj_tabI (off := 270) 279 dX8_does_9 (by omega) (by omega) (by rw [t_9]; rfl) (by decide) ?_
    refine gj_iload_n 280 dX8_does_279 rfl rfl ?_
    refine gj_if_ne 302 283 dX8_does_280 (by decide) rfl (by omega) (fun c_280 => ?_) (fun c_280 => ?_)
    · refine gj_iconst 303 dX8_does_302 rfl ?_
      refine gj_zret dX8_does_303 rfl (by decide) ⟨Nat.zero_le _, Nat.zero_le _⟩ ?_
      first
      | (have e : y_dk M h a b c = 1 := by unfold y_dk; (repeat (first | rw [if_pos (by omega)] | rw [if_neg (by omega)]))
         exact ⟨rfl, by rw [e], by unfold y_dm; rw [e]; (repeat (first | rw [if_pos (by omega)] | rw [if_neg (by omega)]))⟩)
      | (have e : y_dk M h a b c = 0 := by unfold y_dk; (repeat (first | rw [if_pos (by omega)] | rw [if_neg (by omega)]))
         exact ⟨rfl, by rw [e], by unfold y_dm; rw [e]; rw [if_pos rfl]⟩)
    · refine gj_iload_n 284 dX8_does_283 rfl rfl ?_
      refine gj_if_ne 302 287 dX8_does_284 (by decide) rfl (by omega) (fun c_284 => ?_) (fun c_284 => ?_)
      · refine gj_iconst 303 dX8_does_302 rfl ?_
        refine gj_zret dX8_does_303 rfl (by decide) ⟨Nat.zero_le _, Nat.zero_le _⟩ ?_
        first
        | (have e : y_dk M h a b c = 1 := by unfold y_dk; (repeat (first | rw [if_pos (by omega)] | rw [if_neg (by omega)]))
           exact ⟨rfl, by rw [e], by unfold y_dm; rw [e]; (repeat (first | rw [if_pos (by omega)] | rw [if_neg (by omega)]))⟩)
        | (have e : y_dk M h a b c = 0 := by unfold y_dk; (repeat (first | rw [if_pos (by omega)] | rw [if_neg (by omega)]))
           exact ⟨rfl, by rw [e], by unfold y_dm; rw [e]; rw [if_pos rfl]⟩)
      · refine gj_iload 289 dX8_does_287 rfl rfl ?_
        refine gj_if_ne 302 292 dX8_does_289 (by decide) rfl (by omega) (fun c_289 => ?_) (fun c_289 => ?_)
        · refine gj_iconst 303 dX8_does_302 rfl ?_
          refine gj_zret dX8_does_303 rfl (by decide) ⟨Nat.zero_le _, Nat.zero_le _⟩ ?_
          first
          | (have e : y_dk M h a b c = 1 := by unfold y_dk; (repeat (first | rw [if_pos (by omega)] | rw [if_neg (by omega)]))
             exact ⟨rfl, by rw [e], by unfold y_dm; rw [e]; (repeat (first | rw [if_pos (by omega)] | rw [if_neg (by omega)]))⟩)
          | (have e : y_dk M h a b c = 0 := by unfold y_dk; (repeat (first | rw [if_pos (by omega)] | rw [if_neg (by omega)]))
             exact ⟨rfl, by rw [e], by unfold y_dm; rw [e]; rw [if_pos rfl]⟩)
        · refine gj_aload_n 293 dX8_does_292 rfl rfl ?_
          refine gj_getfr 296 dX8_does_293 rfl fl_8_38 rfl rfl ?_
          refine gj_bipush 298 dX8_does_296 rfl (by decide) ?_
          refine gj_iald 299 dX8_does_298 rfl rfl (by omega) (by omega) (fun r_298 => ?_)
          refine gj_if_ne 304 302 dX8_does_299 (by decide) rfl (by omega) (fun c_299 => ?_) (fun c_299 => ?_)
          · refine gj_aload_n 305 dX8_does_304 rfl rfl ?_
            refine gj_getfr 308 dX8_does_305 rfl fl_8_38 rfl rfl ?_
            refine gj_bipush 310 dX8_does_308 rfl (by decide) ?_
            refine gj_dup2 311 dX8_does_310 rfl (fun _ => rfl) (fun _ => rfl) ?_
            refine gj_iald 312 dX8_does_311 rfl rfl (by omega) (by omega) (fun r_311 => ?_)
            refine gj_iconst 313 dX8_does_312 rfl ?_
            refine gj_isub 314 dX8_does_313 rfl ?_
            refine gj_iast 315 dX8_does_314 rfl rfl (by omega) (by omega) (by omega) ?_
            refine gj_iconst 316 dX8_does_315 rfl ?_
            refine gj_zret dX8_does_316 rfl (by decide) ⟨Nat.zero_le _, Nat.zero_le _⟩ ?_
            first
            | (have e : y_dk M h a b c = 1 := by unfold y_dk; (repeat (first | rw [if_pos (by omega)] | rw [if_neg (by omega)]))
               exact ⟨rfl, by rw [e], by unfold y_dm; rw [e]; (repeat (first | rw [if_pos (by omega)] | rw [if_neg (by omega)]))⟩)
            | (have e : y_dk M h a b c = 0 := by unfold y_dk; (repeat (first | rw [if_pos (by omega)] | rw [if_neg (by omega)]))
               exact ⟨rfl, by rw [e], by unfold y_dm; rw [e]; rw [if_pos rfl]⟩)
          · refine gj_iconst 303 dX8_does_302 rfl ?_
            refine gj_zret dX8_does_303 rfl (by decide) ⟨Nat.zero_le _, Nat.zero_le _⟩ ?_
            first
            | (have e : y_dk M h a b c = 1 := by unfold y_dk; (repeat (first | rw [if_pos (by omega)] | rw [if_neg (by omega)]))
               exact ⟨rfl, by rw [e], by unfold y_dm; rw [e]; (repeat (first | rw [if_pos (by omega)] | rw [if_neg (by omega)]))⟩)
            | (have e : y_dk M h a b c = 0 := by unfold y_dk; (repeat (first | rw [if_pos (by omega)] | rw [if_neg (by omega)]))
               exact ⟨rfl, by rw [e], by unfold y_dm; rw [e]; rw [if_pos rfl]⟩)
  · refine gj_tabO 317 dX8_does_9 (by omega) t_9 (by decide) ?_
    refine gj_iconst 318 dX8_does_317 rfl ?_
    refine gj_zret dX8_does_318 rfl (by decide) ⟨Nat.zero_le _, Nat.zero_le _⟩ ?_
    first
    | (have e : y_dk M h a b c = 1 := by unfold y_dk; (repeat (first | rw [if_pos (by omega)] | rw [if_neg (by omega)]))
       exact ⟨rfl, by rw [e], by unfold y_dm; rw [e]; (repeat (first | rw [if_pos (by omega)] | rw [if_neg (by omega)]))⟩)
    | (have e : y_dk M h a b c = 0 := by unfold y_dk; (repeat (first | rw [if_pos (by omega)] | rw [if_neg (by omega)]))
       exact ⟨rfl, by rw [e], by unfold y_dm; rw [e]; rw [if_pos rfl]⟩)

theorem e_tp_b : ∀ e : Nat, e ≤ 3 → (1 : Int) ≤ 10000 ^ e ∧ (10000 : Int) ^ e ≤ 1000000000000 := by decide
theorem e_tp_4 : ∀ e : Nat, e ≤ 4 → (1 : Int) ≤ 10000 ^ e ∧ (10000 : Int) ^ e ≤ 10000000000000000 := by decide

set_option maxRecDepth 100000 in
set_option maxHeartbeats 1000000 in
theorem s8_judge_l {xt : Nat × (Nat → Int)} {M : gj_M} {nn row : Int} (hn : 1 ≤ nn ∧ nn ≤ 4) (hrow : 0 ≤ row ∧ row ≤ 9223372036854775807) : ∀ (d i : Nat) (Mk : gj_M), (i : Int) + d = nn → y_I Mk 79 → gj_E [79] M Mk → gj_G xt Y8_judge gS 0 0 44 [some (gR 69), some (gI nn), some (gL row), none, some (gI (i : Int)), none] [] Mk (fun r S2 M2 => S2 = gS ∧ r = some (gI (y_jr Mk row d i)) ∧ gj_E [79] M M2) := by
  intro d
  induction d with
  | zero =>
    intro i Mk hk hI hE
    refine gj_iload 46 dX8_judge_44 rfl rfl ?_
    refine gj_iload_n 47 dX8_judge_46 rfl rfl ?_
    refine gj_icmp_ge 114 50 dX8_judge_47 (by decide) rfl (by omega) (by omega) (fun c_47 => ?_) (fun c_47 => absurd c_47 (by omega))
    refine gj_bipush 116 dX8_judge_114 rfl (by decide) ?_
    refine gj_iret dX8_judge_116 rfl ⟨Nat.zero_le _, Nat.zero_le _⟩ ?_
    exact ⟨rfl, rfl, hE⟩
  | succ d ih =>
    intro i Mk hk hI hE
    refine gj_iload 46 dX8_judge_44 rfl rfl ?_
    refine gj_iload_n 47 dX8_judge_46 rfl rfl ?_
    refine gj_icmp_ge 114 50 dX8_judge_47 (by decide) rfl (by omega) (by omega) (fun c_47 => absurd c_47 (by omega)) (fun c_47 => ?_)
    have hpd := e_tp_b d (by omega)
    have hq0 : 0 ≤ row / 10000 ^ d := Int.ediv_nonneg (by omega) (by omega)
    have hq1 : row / 10000 ^ d ≤ row := Int.ediv_le_self _ (by omega)
    have hw0 := Int.emod_nonneg (row / 10000 ^ d) (by decide : (10000 : Int) ≠ 0)
    have hw1 := Int.emod_lt_of_pos (row / 10000 ^ d) (by decide : (0 : Int) < 10000)
    have sp := s8_lp (xt := xt) (M := Mk) (N := nn - 1 - (i : Int)) (by omega)
    rw [show (nn - 1 - (i : Int)).toNat = d by omega] at sp
    have sd := s8_does (xt := xt) (M := Mk) hI (h := (row / 10000 ^ d % 10000) / 1000) (a := (row / 10000 ^ d % 10000) / 100 % 10) (b := (row / 10000 ^ d % 10000) / 10 % 10) (c := (row / 10000 ^ d % 10000) % 10) (by omega) (by omega) (by omega) (by omega)
    have h01 := y_dk_01 Mk ((row / 10000 ^ d % 10000) / 1000) ((row / 10000 ^ d % 10000) / 100 % 10) ((row / 10000 ^ d % 10000) / 10 % 10) ((row / 10000 ^ d % 10000) % 10)
    have hI2 := y_dm_I (M := Mk) hI (h := (row / 10000 ^ d % 10000) / 1000) (a := (row / 10000 ^ d % 10000) / 100 % 10) (b := (row / 10000 ^ d % 10000) / 10 % 10) (c := (row / 10000 ^ d % 10000) % 10) (by omega) (by omega) (by omega)
    have hE2 := hE.tr (y_dm_E Mk ((row / 10000 ^ d % 10000) / 1000) ((row / 10000 ^ d % 10000) / 100 % 10) ((row / 10000 ^ d % 10000) / 10 % 10) ((row / 10000 ^ d % 10000) % 10))
    refine gj_lload_n 51 dX8_judge_50 rfl rfl ?_
    refine gj_ldc2 (a := 10000) 54 dX8_judge_51 rfl lc_8_207 ?_
    refine gj_iload_n 55 dX8_judge_54 rfl rfl ?_
    refine gj_iconst 56 dX8_judge_55 rfl ?_
    refine gj_isub 57 dX8_judge_56 rfl ?_
    refine gj_iload 59 dX8_judge_57 rfl rfl ?_
    refine gj_isub 60 dX8_judge_59 rfl ?_
    refine gj_fS 63 dX8_judge_60 rfl ok_8_longPower ml_8_209 is_8_longPower (As := [gL _, gI _]) rfl rfl (Nat.le_of_ble_eq_true rfl) ⟨Nat.le_of_ble_eq_true rfl, Nat.le_of_ble_eq_true rfl⟩ (Nat.le_of_ble_eq_true rfl) ⟨rfl, rfl⟩ ⟨Nat.zero_le _, Nat.zero_le _⟩ (sp) ?_
    refine gj_ldiv 64 dX8_judge_63 rfl (by omega) (by omega) ?_
    refine gj_ldc2 (a := 10000) 67 dX8_judge_64 rfl lc_8_207 ?_
    refine gj_lrem 68 dX8_judge_67 rfl (by omega) (by omega) ?_
    refine gj_l2i 69 dX8_judge_68 rfl (by omega) ?_
    refine gj_istore (lv' := [_, _, _, _, _, _]) 71 dX8_judge_69 rfl (by decide) rfl ?_
    refine gj_aload_n 72 dX8_judge_71 rfl rfl ?_
    refine gj_iload 74 dX8_judge_72 rfl rfl ?_
    refine gj_sipush 77 dX8_judge_74 rfl (by decide) ?_
    refine gj_idiv 78 dX8_judge_77 rfl (by omega) (by omega) ?_
    refine gj_iload 80 dX8_judge_78 rfl rfl ?_
    refine gj_bipush 82 dX8_judge_80 rfl (by decide) ?_
    refine gj_idiv 83 dX8_judge_82 rfl (by omega) (by omega) ?_
    refine gj_bipush 85 dX8_judge_83 rfl (by decide) ?_
    refine gj_irem 86 dX8_judge_85 rfl (by omega) (by omega) ?_
    refine gj_iload 88 dX8_judge_86 rfl rfl ?_
    refine gj_bipush 90 dX8_judge_88 rfl (by decide) ?_
    refine gj_idiv 91 dX8_judge_90 rfl (by omega) (by omega) ?_
    refine gj_bipush 93 dX8_judge_91 rfl (by decide) ?_
    refine gj_irem 94 dX8_judge_93 rfl (by omega) (by omega) ?_
    refine gj_iload 96 dX8_judge_94 rfl rfl ?_
    refine gj_bipush 98 dX8_judge_96 rfl (by decide) ?_
    refine gj_irem 99 dX8_judge_98 rfl (by omega) (by omega) ?_
    refine gj_fV 102 dX8_judge_99 rfl ok_8_does ml_8_213 iv_8_does (As := [gI _, gI _, gI _, gI _]) rfl rfl rfl rfl (Nat.le_of_ble_eq_true rfl) ⟨Nat.le_of_ble_eq_true rfl, Nat.le_of_ble_eq_true rfl⟩ (Nat.le_of_ble_eq_true rfl) ⟨rfl, rfl⟩ ⟨Nat.zero_le _, Nat.zero_le _⟩ (sd) ?_
    refine gj_if_ne 108 105 dX8_judge_102 (by decide) rfl (by omega) (fun c_102 => ?_) (fun c_102 => ?_)
    · refine gj_iinc (b := ((i + 1 : Nat) : Int)) (lv' := [_, _, _, _, _, _]) 111 dX8_judge_108 rfl rfl (by omega) (by decide) rfl ?_
      refine gj_goto 44 dX8_judge_111 (by decide) ?_
      have h := ih (i + 1) _ (by omega) hI2 hE2
      rw [show y_jr Mk row (d + 1) i = _ from if_neg (show ¬ y_qk Mk (row / 10000 ^ d % 10000) = 0 from c_102)]
      exact gj_wk h ⟨rfl, rfl, rfl, rfl, trivial⟩
    · refine gj_iload 107 dX8_judge_105 rfl rfl ?_
      refine gj_iret dX8_judge_107 rfl ⟨Nat.zero_le _, Nat.zero_le _⟩ ?_
      exact ⟨rfl, by rw [show y_jr Mk row (d + 1) i = _ from if_pos (show y_qk Mk (row / 10000 ^ d % 10000) = 0 by show y_dk _ _ _ _ _ = 0; omega)], hE2⟩

set_option maxRecDepth 100000 in
set_option maxHeartbeats 1000000 in
theorem s8_judge {xt : Nat × (Nat → Int)} {M : gj_M} (h0 : M 69 0 = 0) (hI : y_I M 78) {nn row : Int} (hn : gj_in nn) (hrow : gj_in6 row) : gj_T xt Y8_judge gS [gR 69, gI nn, gL row] M (fun r M2 => r = some (gI (z_judge M nn row)) ∧ gj_E [79] M M2) := by
  show gj_G _ Y8_judge gS 0 0 0 [_, _, _, _, _, _] [] M _
  refine gj_aload_n 1 dX8_judge_0 rfl rfl ?_
  refine gj_iconst 2 dX8_judge_1 rfl ?_
  refine gj_putfi 5 dX8_judge_2 rfl fw_8_69 rfl rfl (by omega) ?_
  refine gj_mem (gj_u0 h0) ?_
  refine gj_iload_n 6 dX8_judge_5 rfl rfl ?_
  refine gj_i2l 7 dX8_judge_6 rfl (by omega) ?_
  refine gj_lconst (a := 1) 8 dX8_judge_7 rfl rfl ?_
  refine gj_ldc2 (a := 4) 11 dX8_judge_8 rfl lc_8_205 ?_
  refine gj_fS 14 dX8_judge_11 rfl ok_8_in ml_8_76 is_8_in (As := [gL _, gL _, gL _]) rfl rfl (Nat.le_of_ble_eq_true rfl) ⟨Nat.le_of_ble_eq_true rfl, Nat.le_of_ble_eq_true rfl⟩ (Nat.le_of_ble_eq_true rfl) ⟨rfl, rfl⟩ ⟨Nat.zero_le _, Nat.zero_le _⟩ (s8_in (by omega) (by omega) (by omega)) ?_
  have hc11 := y_in_c (nn) (1) (4)
  refine gj_if_eq 34 17 dX8_judge_14 (by decide) rfl (by omega) (fun c_14 => ?_) (fun c_14 => ?_)
  · refine gj_bipush 36 dX8_judge_34 rfl (by decide) ?_
    refine gj_iret dX8_judge_36 rfl ⟨Nat.zero_le _, Nat.zero_le _⟩ ?_
    exact ⟨rfl, by (unfold z_judge; (repeat (first | rw [if_pos (by omega)] | rw [if_neg (by omega)])); try rfl), gj_E.rf⟩
  · have hp4 := e_tp_4 nn.toNat (by omega)
    refine gj_lload_n 18 dX8_judge_17 rfl rfl ?_
    refine gj_lconst (a := 0) 19 dX8_judge_18 rfl rfl ?_
    refine gj_ldc2 (a := 10000) 22 dX8_judge_19 rfl lc_8_207 ?_
    refine gj_iload_n 23 dX8_judge_22 rfl rfl ?_
    refine gj_fS 26 dX8_judge_23 rfl ok_8_longPower ml_8_209 is_8_longPower (As := [gL _, gI _]) rfl rfl (Nat.le_of_ble_eq_true rfl) ⟨Nat.le_of_ble_eq_true rfl, Nat.le_of_ble_eq_true rfl⟩ (Nat.le_of_ble_eq_true rfl) ⟨rfl, rfl⟩ ⟨Nat.zero_le _, Nat.zero_le _⟩ (s8_lp (by omega)) ?_
    refine gj_lconst (a := 1) 27 dX8_judge_26 rfl rfl ?_
    refine gj_lsub 28 dX8_judge_27 rfl ?_
    refine gj_fS 31 dX8_judge_28 rfl ok_8_in ml_8_76 is_8_in (As := [gL _, gL _, gL _]) rfl rfl (Nat.le_of_ble_eq_true rfl) ⟨Nat.le_of_ble_eq_true rfl, Nat.le_of_ble_eq_true rfl⟩ (Nat.le_of_ble_eq_true rfl) ⟨rfl, rfl⟩ ⟨Nat.zero_le _, Nat.zero_le _⟩ (s8_in hrow (by omega) (by omega)) ?_
    have hc28 := y_in_c (row) (0) (10000 ^ nn.toNat - 1)
    refine gj_if_ne 37 34 dX8_judge_31 (by decide) rfl (by omega) (fun c_31 => ?_) (fun c_31 => ?_)
    · refine gj_aload_n 38 dX8_judge_37 rfl rfl ?_
      refine gj_vV 41 dX8_judge_38 rfl ok_8_layTrial ml_8_162 iv_8_layTrial (As := []) rfl rfl rfl rfl (Nat.le_of_ble_eq_true rfl) ⟨Nat.le_of_ble_eq_true rfl, Nat.le_of_ble_eq_true rfl⟩ (Nat.le_of_ble_eq_true rfl) ⟨rfl, rfl⟩ ⟨Nat.zero_le _, Nat.zero_le _⟩ (s8_lay) ?_
      refine gj_iconst 42 dX8_judge_41 rfl ?_
      refine gj_istore (lv' := [_, _, _, _, _, _]) 44 dX8_judge_42 rfl (by decide) rfl ?_
      have hq : y_eq M 78 (y_cp M 78 79 40) 79 := ⟨fun j j0 j1 => by rw [y_cp_i (by decide), if_pos ⟨j0, j1⟩], y_cp_o (by decide) _ _, y_cp_o (by decide) _ _, by funext j; exact y_cp_o (by decide) _ _, by funext j; exact y_cp_o (by decide) _ _⟩
      have e : z_judge M nn row = y_jr (y_cp M 78 79 40) row nn.toNat 0 := if_neg (by omega)
      rw [e]
      exact gj_wk (s8_judge_l (by omega) (by omega) nn.toNat 0 _ (by omega) (hq.I hI) (fun h hh i => y_cp_o (by simpa using hh) i 40)) ⟨rfl, rfl, rfl, rfl, trivial⟩
    · refine gj_bipush 36 dX8_judge_34 rfl (by decide) ?_
      refine gj_iret dX8_judge_36 rfl ⟨Nat.zero_le _, Nat.zero_le _⟩ ?_
      exact ⟨rfl, by (unfold z_judge; (repeat (first | rw [if_pos (by omega)] | rw [if_neg (by omega)])); try rfl), gj_E.rf⟩

set_option maxRecDepth 100000 in
set_option maxHeartbeats 1000000 in
theorem s8_fault {xt : Nat × (Nat → Int)} {M : gj_M} (h0 : M 69 0 = 0) {C : gj_M} {t : Int → Int} {N : Nat} {v : Int} (hN : N ≤ 80) (hN2 : M 69 2 = (N : Int)) (ht : ∀ i : Nat, i < N → M 70 i = t i) (hc : ∀ i : Nat, i < N → 0 ≤ t i ∧ t i ≤ 255) (h5 : ∀ l : Int, 0 ≤ l → l < 4 → 0 ≤ C 6 l ∧ C 6 l ≤ 48) (h6 : ∀ i : Int, 0 ≤ i → i < 2 → 0 ≤ C 8 i ∧ C 8 i ≤ 48) (hv : r_ff C t (N - 0) 0 = v)  : gj_T xt Y8_fault gS [gR 69] M (fun r M2 => r = some (gI v) ∧ v_F M M2) := by
  show gj_G _ Y8_fault gS 0 0 0 [_] [] M _
  refine gj_aload_n 1 dX8_fault_0 rfl rfl ?_
  refine gj_iconst 2 dX8_fault_1 rfl ?_
  refine gj_putfi 5 dX8_fault_2 rfl fw_8_69 rfl rfl (by omega) ?_
  refine gj_mem (gj_u0 h0) ?_
  refine gj_aload_n 6 dX8_fault_5 rfl rfl ?_
  refine gj_callV 9 dX8_fault_6 rfl ok_8_readReel ml_8_117 iv_8_readReel (As := []) rfl rfl rfl rfl (Nat.le_of_ble_eq_true rfl) ⟨Nat.le_of_ble_eq_true rfl, Nat.le_of_ble_eq_true rfl⟩ (Nat.le_of_ble_eq_true rfl) ⟨rfl, rfl⟩ ⟨Nat.zero_le _, Nat.zero_le _⟩ (s8_rr hN hN2 ht hc h5 h6 hv) (fun r_6 M_6 q_6 => ?_)
  obtain ⟨rfl, q1, q2⟩ := q_6
  show gj_G _ _ gS 0 0 9 _ [gI v] M_6 _
  refine gj_iret dX8_fault_9 rfl ⟨Nat.zero_le _, Nat.zero_le _⟩ ?_
  exact ⟨rfl, rfl, q1⟩

set_option maxRecDepth 100000 in
set_option maxHeartbeats 1000000 in
theorem s8_reel_3 {xt : Nat × (Nat → Int)} {M : gj_M}  : ∀ (n k : Nat), k + n = 40 → gj_G xt Y8_reel gS 0 0 87 [some (gR 69), some (gI (k : Int))] [] (y_cp (y_cp (y_cp (gj_u (gj_u M 69 4 (M 69 8)) 69 5 (M 69 9)) 73 71 192) 74 72 4) 75 78 k) (fun r S2 M2 => S2 = gS ∧ r = some (gI (M 69 9)) ∧ M2 = n_reel M) := by
  intro n
  induction n with
  | zero =>
    intro k hk
    refine gj_iload_n 88 dX8_reel_87 rfl rfl ?_
    refine gj_bipush 90 dX8_reel_88 rfl (by decide) ?_
    refine gj_icmp_ge 111 93 dX8_reel_90 (by decide) rfl (by omega) (by omega) (fun c_90 => ?_) (fun c_90 => absurd c_90 (by omega))
    have hk3 : k = 40 := by omega
    subst hk3
    refine gj_aload_n 112 dX8_reel_111 rfl rfl ?_
    refine gj_iconst 113 dX8_reel_112 rfl ?_
    refine gj_putfi 116 dX8_reel_113 rfl fw_8_121 rfl rfl (by omega) ?_
    refine gj_aload_n 117 dX8_reel_116 rfl rfl ?_
    refine gj_getfr 120 dX8_reel_117 rfl fl_8_47 rfl rfl ?_
    refine gj_iconst 121 dX8_reel_120 rfl ?_
    refine gj_iconst 122 dX8_reel_121 rfl ?_
    refine gj_bast 123 dX8_reel_122 rfl rfl (by omega) (by omega) (by decide) ?_
    refine gj_aload_n 124 dX8_reel_123 rfl rfl ?_
    refine gj_getfr 127 dX8_reel_124 rfl fl_8_47 rfl rfl ?_
    refine gj_iconst 128 dX8_reel_127 rfl ?_
    refine gj_iconst 129 dX8_reel_128 rfl ?_
    refine gj_bast 130 dX8_reel_129 rfl rfl (by omega) (by omega) (by decide) ?_
    refine gj_aload_n 131 dX8_reel_130 rfl rfl ?_
    refine gj_getfiE (M 69 9) 134 dX8_reel_131 rfl fl_8_73 rfl rfl (by show (y_cp (y_cp (y_cp (gj_u (gj_u M 69 4 (M 69 8)) 69 5 (M 69 9)) 73 71 192) 74 72 4) 75 78 40) 69 5 = _; rw [y_cp_o (by decide), y_cp_o (by decide), y_cp_o (by decide)]; rfl) (fun r_131 => ?_)
    refine gj_iret dX8_reel_134 rfl ⟨Nat.zero_le _, Nat.zero_le _⟩ ?_
    exact ⟨rfl, rfl, rfl⟩
  | succ n ih =>
    intro k hk
    refine gj_iload_n 88 dX8_reel_87 rfl rfl ?_
    refine gj_bipush 90 dX8_reel_88 rfl (by decide) ?_
    refine gj_icmp_ge 111 93 dX8_reel_90 (by decide) rfl (by omega) (by omega) (fun c_90 => absurd c_90 (by omega)) (fun c_90 => ?_)
    refine gj_aload_n 94 dX8_reel_93 rfl rfl ?_
    refine gj_getfr 97 dX8_reel_94 rfl fl_8_35 rfl rfl ?_
    refine gj_iload_n 98 dX8_reel_97 rfl rfl ?_
    refine gj_aload_n 99 dX8_reel_98 rfl rfl ?_
    refine gj_getfr 102 dX8_reel_99 rfl fl_8_25 rfl rfl ?_
    refine gj_iload_n 103 dX8_reel_102 rfl rfl ?_
    refine gj_iald 104 dX8_reel_103 rfl rfl (by omega) (by omega) (fun r_103 => ?_)
    refine gj_iast 105 dX8_reel_104 rfl rfl (by omega) (by omega) r_103 ?_
    refine gj_iinc (b := ((k + 1 : Nat) : Int)) (lv' := [_, _]) 108 dX8_reel_105 rfl rfl (by omega) (by decide) rfl ?_
    refine gj_goto 87 dX8_reel_108 (by decide) ?_
    exact gj_wk (ih (k + 1) (by omega)) ⟨rfl, rfl, trivial⟩

set_option maxRecDepth 100000 in
set_option maxHeartbeats 1000000 in
theorem s8_reel_2 {xt : Nat × (Nat → Int)} {M : gj_M}  : ∀ (n k : Nat), k + n = 4 → gj_G xt Y8_reel gS 0 0 62 [some (gR 69), some (gI (k : Int))] [] (y_cp (y_cp (gj_u (gj_u M 69 4 (M 69 8)) 69 5 (M 69 9)) 73 71 192) 74 72 k) (fun r S2 M2 => S2 = gS ∧ r = some (gI (M 69 9)) ∧ M2 = n_reel M) := by
  intro n
  induction n with
  | zero =>
    intro k hk
    refine gj_iload_n 63 dX8_reel_62 rfl rfl ?_
    refine gj_iconst 64 dX8_reel_63 rfl ?_
    refine gj_icmp_ge 85 67 dX8_reel_64 (by decide) rfl (by omega) (by omega) (fun c_64 => ?_) (fun c_64 => absurd c_64 (by omega))
    refine gj_iconst 86 dX8_reel_85 rfl ?_
    refine gj_istore_n (lv' := [_, _]) 87 dX8_reel_86 rfl (by decide) rfl ?_
    have hk3 : k = 4 := by omega
    subst hk3
    exact gj_wk (s8_reel_3 40 0 rfl) ⟨rfl, rfl, trivial⟩
  | succ n ih =>
    intro k hk
    refine gj_iload_n 63 dX8_reel_62 rfl rfl ?_
    refine gj_iconst 64 dX8_reel_63 rfl ?_
    refine gj_icmp_ge 85 67 dX8_reel_64 (by decide) rfl (by omega) (by omega) (fun c_64 => absurd c_64 (by omega)) (fun c_64 => ?_)
    refine gj_aload_n 68 dX8_reel_67 rfl rfl ?_
    refine gj_getfr 71 dX8_reel_68 rfl fl_8_16 rfl rfl ?_
    refine gj_iload_n 72 dX8_reel_71 rfl rfl ?_
    refine gj_aload_n 73 dX8_reel_72 rfl rfl ?_
    refine gj_getfr 76 dX8_reel_73 rfl fl_8_22 rfl rfl ?_
    refine gj_iload_n 77 dX8_reel_76 rfl rfl ?_
    refine gj_iald 78 dX8_reel_77 rfl rfl (by omega) (by omega) (fun r_77 => ?_)
    refine gj_iast 79 dX8_reel_78 rfl rfl (by omega) (by omega) r_77 ?_
    refine gj_iinc (b := ((k + 1 : Nat) : Int)) (lv' := [_, _]) 82 dX8_reel_79 rfl rfl (by omega) (by decide) rfl ?_
    refine gj_goto 62 dX8_reel_82 (by decide) ?_
    exact gj_wk (ih (k + 1) (by omega)) ⟨rfl, rfl, trivial⟩

set_option maxRecDepth 100000 in
set_option maxHeartbeats 1000000 in
theorem s8_reel_1 {xt : Nat × (Nat → Int)} {M : gj_M}  : ∀ (n k : Nat), k + n = 192 → gj_G xt Y8_reel gS 0 0 35 [some (gR 69), some (gI (k : Int))] [] (y_cp (gj_u (gj_u M 69 4 (M 69 8)) 69 5 (M 69 9)) 73 71 k) (fun r S2 M2 => S2 = gS ∧ r = some (gI (M 69 9)) ∧ M2 = n_reel M) := by
  intro n
  induction n with
  | zero =>
    intro k hk
    refine gj_iload_n 36 dX8_reel_35 rfl rfl ?_
    refine gj_sipush 39 dX8_reel_36 rfl (by decide) ?_
    refine gj_icmp_ge 60 42 dX8_reel_39 (by decide) rfl (by omega) (by omega) (fun c_39 => ?_) (fun c_39 => absurd c_39 (by omega))
    refine gj_iconst 61 dX8_reel_60 rfl ?_
    refine gj_istore_n (lv' := [_, _]) 62 dX8_reel_61 rfl (by decide) rfl ?_
    have hk3 : k = 192 := by omega
    subst hk3
    exact gj_wk (s8_reel_2 4 0 rfl) ⟨rfl, rfl, trivial⟩
  | succ n ih =>
    intro k hk
    refine gj_iload_n 36 dX8_reel_35 rfl rfl ?_
    refine gj_sipush 39 dX8_reel_36 rfl (by decide) ?_
    refine gj_icmp_ge 60 42 dX8_reel_39 (by decide) rfl (by omega) (by omega) (fun c_39 => absurd c_39 (by omega)) (fun c_39 => ?_)
    refine gj_aload_n 43 dX8_reel_42 rfl rfl ?_
    refine gj_getfr 46 dX8_reel_43 rfl fl_8_13 rfl rfl ?_
    refine gj_iload_n 47 dX8_reel_46 rfl rfl ?_
    refine gj_aload_n 48 dX8_reel_47 rfl rfl ?_
    refine gj_getfr 51 dX8_reel_48 rfl fl_8_19 rfl rfl ?_
    refine gj_iload_n 52 dX8_reel_51 rfl rfl ?_
    refine gj_iald 53 dX8_reel_52 rfl rfl (by omega) (by omega) (fun r_52 => ?_)
    refine gj_iast 54 dX8_reel_53 rfl rfl (by omega) (by omega) r_52 ?_
    refine gj_iinc (b := ((k + 1 : Nat) : Int)) (lv' := [_, _]) 57 dX8_reel_54 rfl rfl (by omega) (by decide) rfl ?_
    refine gj_goto 35 dX8_reel_57 (by decide) ?_
    exact gj_wk (ih (k + 1) (by omega)) ⟨rfl, rfl, trivial⟩

theorem gj_post {xt : Nat × (Nat → Int)} {Y : gj_Y} {S : List gj_H} {k n pc : Nat} {lv : List (Option gj_V)} {st : List gj_V} {M : gj_M} {Q Q' : Option gj_V → List gj_H → gj_M → Prop} (kk : gj_G xt Y S k n pc lv st M Q) (h : ∀ r S2 M2, Q r S2 M2 → Q' r S2 M2) : gj_G xt Y S k n pc lv st M Q' :=
  fun p l e s m args below meth c H locs ls ad cA cZ D A Z hC hW hL hR => kk p l e s m args below meth c H locs ls ad cA cZ D A Z hC hW hL (fun rv S' M' H' locs' pc' ls' ad' hQ => hR rv S' M' H' locs' pc' ls' ad' (h _ _ _ hQ))

set_option maxRecDepth 100000 in
set_option maxHeartbeats 1000000 in
theorem s8_reel {xt : Nat × (Nat → Int)} {M : gj_M} (h0 : M 69 0 = 0) {C : gj_M} {t : Int → Int} {N : Nat} {v : Int} (hN : N ≤ 80) (hN2 : M 69 2 = (N : Int)) (ht : ∀ i : Nat, i < N → M 70 i = t i) (hc : ∀ i : Nat, i < N → 0 ≤ t i ∧ t i ≤ 255) (h5 : ∀ l : Int, 0 ≤ l → l < 4 → 0 ≤ C 6 l ∧ C 6 l ≤ 48) (h6 : ∀ i : Int, 0 ≤ i → i < 2 → 0 ≤ C 8 i ∧ C 8 i ≤ 48) (hv : r_ff C t (N - 0) 0 = v)  : gj_T xt Y8_reel gS [gR 69] M (fun r M2 => (v ≠ -9 ∧ r = some (gI (-3)) ∧ v_F M M2) ∨ (v = -9 ∧ ∃ M1 : gj_M, v_B M (r_ru C t N) M1 N ∧ M1 69 9 = r_ru C t N 3 1 ∧ M2 = n_reel M1 ∧ r = some (gI (M1 69 9)))) := by
  show gj_G _ Y8_reel gS 0 0 0 [_, _] [] M _
  refine gj_aload_n 1 dX8_reel_0 rfl rfl ?_
  refine gj_iconst 2 dX8_reel_1 rfl ?_
  refine gj_putfi 5 dX8_reel_2 rfl fw_8_69 rfl rfl (by omega) ?_
  refine gj_mem (gj_u0 h0) ?_
  refine gj_aload_n 6 dX8_reel_5 rfl rfl ?_
  refine gj_callV 9 dX8_reel_6 rfl ok_8_readReel ml_8_117 iv_8_readReel (As := []) rfl rfl rfl rfl (Nat.le_of_ble_eq_true rfl) ⟨Nat.le_of_ble_eq_true rfl, Nat.le_of_ble_eq_true rfl⟩ (Nat.le_of_ble_eq_true rfl) ⟨rfl, rfl⟩ ⟨Nat.zero_le _, Nat.zero_le _⟩ (s8_rr hN hN2 ht hc h5 h6 hv) (fun r_6 M_6 q_6 => ?_)
  obtain ⟨rfl, q1, q2⟩ := q_6
  show gj_G _ _ gS 0 0 9 _ [gI v] M_6 _
  have hvb : v = -9 ∨ (0 ≤ v ∧ v ≤ 80) := by have := r_ff_b C t (N - 0) 0; omega
  refine gj_bipush 11 dX8_reel_9 rfl (by decide) ?_
  refine gj_icmp_eq 17 14 dX8_reel_11 (by decide) rfl (by omega) (by omega) (fun c_11 => ?_) (fun c_11 => ?_)
  · refine gj_aload_n 18 dX8_reel_17 rfl rfl ?_
    refine gj_aload_n 19 dX8_reel_18 rfl rfl ?_
    refine gj_getfiE (M_6 69 8) 22 dX8_reel_19 rfl fl_8_93 rfl rfl rfl (fun r_19 => ?_)
    refine gj_putfi 25 dX8_reel_22 rfl fw_8_80 rfl rfl (by omega) ?_
    refine gj_aload_n 26 dX8_reel_25 rfl rfl ?_
    refine gj_aload_n 27 dX8_reel_26 rfl rfl ?_
    refine gj_getfiE (M_6 69 9) 30 dX8_reel_27 rfl fl_8_100 rfl rfl rfl (fun r_27 => ?_)
    refine gj_putfi 33 dX8_reel_30 rfl fw_8_73 rfl rfl (by omega) ?_
    refine gj_iconst 34 dX8_reel_33 rfl ?_
    refine gj_istore_n (lv' := [_, _]) 35 dX8_reel_34 rfl (by decide) rfl ?_
    have hv9 : v = -9 := by omega
    have q3 := q2 hv9
    refine gj_post (gj_wk (s8_reel_1 (M := M_6) 192 0 rfl) ⟨rfl, rfl, trivial⟩) (fun r S2 M2 hq => ?_)
    exact ⟨hq.1, Or.inr ⟨hv9, M_6, q3.1, q3.2, hq.2.2, hq.2.1⟩⟩
  · refine gj_bipush 16 dX8_reel_14 rfl (by decide) ?_
    refine gj_iret dX8_reel_16 rfl ⟨Nat.zero_le _, Nat.zero_le _⟩ ?_
    exact ⟨rfl, Or.inl ⟨by omega, rfl, q1⟩⟩

set_option maxRecDepth 100000 in
set_option maxHeartbeats 1000000 in
theorem s8_level {xt : Nat × (Nat → Int)} {M : gj_M} (h0 : M 69 0 = 0) (hI : y_I M 78) {l w : Int} (hl : gj_in l) (hw : gj_in w) : gj_T xt Y8_level gS [gR 69, gI l, gI w] M (fun r M2 => ∃ v : Int, r = some (gI v) ∧ (if 0 ≤ l ∧ l < M 69 5 then (if w = 0 then v = M 72 l else if w = 1 then v = M 78 (12 + l) else if w = 2 then q_sh (fun g => M 71 (48 * l + g)) (M 72 l) v else if w = 3 then v = y_best M l else v = -2) else v = -1) ∧ gj_E [79, 86, 87] M M2) := by
  show gj_G _ Y8_level gS 0 0 0 [_, _, _] [] M _
  have hL := hI.1
  have hD := hI.2.1
  have hsw := hI.2.2.1
  refine gj_aload_n 1 dX8_level_0 rfl rfl ?_
  refine gj_iconst 2 dX8_level_1 rfl ?_
  refine gj_putfi 5 dX8_level_2 rfl fw_8_69 rfl rfl (by omega) ?_
  refine gj_mem (gj_u0 h0) ?_
  refine gj_aload_n 6 dX8_level_5 rfl rfl ?_
  refine gj_iload_n 7 dX8_level_6 rfl rfl ?_
  refine gj_fV 10 dX8_level_7 rfl ok_8_noLevel ml_8_173 iv_8_noLevel (As := [gI _]) rfl rfl rfl rfl (Nat.le_of_ble_eq_true rfl) ⟨Nat.le_of_ble_eq_true rfl, Nat.le_of_ble_eq_true rfl⟩ (Nat.le_of_ble_eq_true rfl) ⟨rfl, rfl⟩ ⟨Nat.zero_le _, Nat.zero_le _⟩ (s8_noL (by omega) hI.1) ?_
  have hc7 := y_in_c l 0 (M 69 5 - 1)
  refine gj_if_eq 15 13 dX8_level_10 (by decide) rfl (by omega) (fun c_10 => ?_) (fun c_10 => ?_)
  · refine gj_iload_n 16 dX8_level_15 rfl rfl ?_
    rcases (show w = 0 ∨ w = 1 ∨ w = 2 ∨ w = 3 ∨ (w < 0 ∨ 3 < w) by omega) with t_16 | t_16 | t_16 | t_16 | t_16
    · refine gj_tabI (off := 32) 48 dX8_level_16 (by omega) (by omega) (by rw [t_16]; rfl) (by decide) ?_
      refine gj_aload_n 49 dX8_level_48 rfl rfl ?_
      refine gj_getfr 52 dX8_level_49 rfl fl_8_16 rfl rfl ?_
      refine gj_iload_n 53 dX8_level_52 rfl rfl ?_
      refine gj_iald 54 dX8_level_53 rfl rfl (by omega) (by omega) (fun r_53 => ?_)
      refine gj_iret dX8_level_54 rfl ⟨Nat.zero_le _, Nat.zero_le _⟩ ?_
      refine ⟨rfl, _, rfl, ?_, gj_E.rf⟩
      (repeat (first | rw [if_pos (by omega)] | rw [if_neg (by omega)]))
    · refine gj_tabI (off := 39) 55 dX8_level_16 (by omega) (by omega) (by rw [t_16]; rfl) (by decide) ?_
      refine gj_aload_n 56 dX8_level_55 rfl rfl ?_
      refine gj_getfr 59 dX8_level_56 rfl fl_8_35 rfl rfl ?_
      refine gj_bipush 61 dX8_level_59 rfl (by decide) ?_
      refine gj_iload_n 62 dX8_level_61 rfl rfl ?_
      refine gj_iadd 63 dX8_level_62 rfl ?_
      refine gj_iald 64 dX8_level_63 rfl rfl (by omega) (by omega) (fun r_63 => ?_)
      refine gj_iret dX8_level_64 rfl ⟨Nat.zero_le _, Nat.zero_le _⟩ ?_
      refine ⟨rfl, _, rfl, ?_, gj_E.rf⟩
      (repeat (first | rw [if_pos (by omega)] | rw [if_neg (by omega)]))
    · refine gj_tabI (off := 49) 65 dX8_level_16 (by omega) (by omega) (by rw [t_16]; rfl) (by decide) ?_
      refine gj_aload_n 66 dX8_level_65 rfl rfl ?_
      refine gj_iload_n 67 dX8_level_66 rfl rfl ?_
      refine gj_callV 70 dX8_level_67 rfl ok_8_shortest ml_8_176 iv_8_shortest (As := [gI _]) rfl rfl rfl rfl (Nat.le_of_ble_eq_true rfl) ⟨Nat.le_of_ble_eq_true rfl, Nat.le_of_ble_eq_true rfl⟩ (Nat.le_of_ble_eq_true rfl) ⟨rfl, rfl⟩ ⟨Nat.zero_le _, Nat.zero_le _⟩ (s8_short (by omega) (hI.2.2.2.1 l (by omega) (by omega)).2) (fun r_67 M_67 q_67 => ?_)
      obtain ⟨v, rfl, q1, q2⟩ := q_67
      show gj_G _ _ gS 0 0 70 _ [gI v] M_67 _
      refine gj_iret dX8_level_70 rfl ⟨Nat.zero_le _, Nat.zero_le _⟩ ?_
      refine ⟨rfl, _, rfl, ?_, q2.mono (by decide)⟩
      (repeat (first | rw [if_pos (by omega)] | rw [if_neg (by omega)]))
      exact q1
    · refine gj_tabI (off := 55) 71 dX8_level_16 (by omega) (by omega) (by rw [t_16]; rfl) (by decide) ?_
      refine gj_aload_n 72 dX8_level_71 rfl rfl ?_
      refine gj_iload_n 73 dX8_level_72 rfl rfl ?_
      refine gj_callV 76 dX8_level_73 rfl ok_8_bestDelay ml_8_180 iv_8_bestDelay (As := [gI _]) rfl rfl rfl rfl (Nat.le_of_ble_eq_true rfl) ⟨Nat.le_of_ble_eq_true rfl, Nat.le_of_ble_eq_true rfl⟩ (Nat.le_of_ble_eq_true rfl) ⟨rfl, rfl⟩ ⟨Nat.zero_le _, Nat.zero_le _⟩ (s8_best hI (by omega)) (fun r_73 M_73 q_73 => ?_)
      obtain ⟨rfl, q2⟩ := q_73
      show gj_G _ _ gS 0 0 76 _ [gI (y_best M l)] M_73 _
      refine gj_iret dX8_level_76 rfl ⟨Nat.zero_le _, Nat.zero_le _⟩ ?_
      refine ⟨rfl, _, rfl, ?_, q2.mono (by decide)⟩
      (repeat (first | rw [if_pos (by omega)] | rw [if_neg (by omega)]))
    · refine gj_tabO 77 dX8_level_16 (by omega) t_16 (by decide) ?_
      refine gj_bipush 79 dX8_level_77 rfl (by decide) ?_
      refine gj_iret dX8_level_79 rfl ⟨Nat.zero_le _, Nat.zero_le _⟩ ?_
      refine ⟨rfl, _, rfl, ?_, gj_E.rf⟩
      (repeat (first | rw [if_pos (by omega)] | rw [if_neg (by omega)]))
  · refine gj_iconst 14 dX8_level_13 rfl ?_
    refine gj_iret dX8_level_14 rfl ⟨Nat.zero_le _, Nat.zero_le _⟩ ?_
    refine ⟨rfl, _, rfl, ?_, gj_E.rf⟩
    (repeat (first | rw [if_pos (by omega)] | rw [if_neg (by omega)]))
