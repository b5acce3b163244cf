set_option maxRecDepth 100000 in
set_option maxHeartbeats 4000000 in
theorem s4_panAt {xt : Nat × (Nat → Int)} {M : gj_M} {pan f : Int} (hp : 0 ≤ pan ∧ pan < 5) (hf : 0 ≤ f ∧ f < 48) : gj_F xt Y4_panAt gS [gR 15, gI pan, gI f] M (some (gI (p_pan (M 19) (M 20) (M 21) pan f))) M := by
  show gj_G _ Y4_panAt gS 0 0 0 [_, _, _, _] [] M _
  refine gj_aload_n 1 dX4_panAt_0 rfl rfl ?_
  refine gj_getfr 4 dX4_panAt_1 rfl fl_4_27 rfl rfl ?_
  refine gj_iload_n 5 dX4_panAt_4 rfl rfl ?_
  refine gj_iald 6 dX4_panAt_5 rfl rfl (by omega) (by omega) (fun r_5 => ?_)
  refine gj_istore_n (lv' := [_, _, _, _]) 7 dX4_panAt_6 rfl (by decide) rfl ?_
  refine gj_iload_n 8 dX4_panAt_7 rfl rfl ?_
  refine gj_iconst 9 dX4_panAt_8 rfl ?_
  refine gj_icmp_ge 21 12 dX4_panAt_9 (by decide) rfl (by omega) (by omega) (fun c_9 => ?_) (fun c_9 => ?_)
  · refine gj_aload_n 22 dX4_panAt_21 rfl rfl ?_
    refine gj_getfr 25 dX4_panAt_22 rfl fl_4_21 rfl rfl ?_
    refine gj_iload_n 26 dX4_panAt_25 rfl rfl ?_
    refine gj_iald 27 dX4_panAt_26 rfl rfl (by omega) (by omega) (fun r_26 => ?_)
    refine gj_aload_n 28 dX4_panAt_27 rfl rfl ?_
    refine gj_getfr 31 dX4_panAt_28 rfl fl_4_24 rfl rfl ?_
    refine gj_iload_n 32 dX4_panAt_31 rfl rfl ?_
    refine gj_iald 33 dX4_panAt_32 rfl rfl (by omega) (by omega) (fun r_32 => ?_)
    refine gj_iload_n 34 dX4_panAt_33 rfl rfl ?_
    refine gj_iload_n 35 dX4_panAt_34 rfl rfl ?_
    refine gj_idiv 36 dX4_panAt_35 rfl (by omega) (by omega) ?_
    refine gj_imul 37 dX4_panAt_36 rfl ?_
    refine gj_iadd 38 dX4_panAt_37 rfl ?_
    refine gj_iret dX4_panAt_38 rfl ⟨Nat.zero_le _, Nat.zero_le _⟩ ?_
    exact ⟨rfl, by unfold p_pan; first | rw [if_pos (by omega)] | rw [if_neg (by omega)], rfl⟩
  · refine gj_aload_n 13 dX4_panAt_12 rfl rfl ?_
    refine gj_getfr 16 dX4_panAt_13 rfl fl_4_21 rfl rfl ?_
    refine gj_iload_n 17 dX4_panAt_16 rfl rfl ?_
    refine gj_iald 18 dX4_panAt_17 rfl rfl (by omega) (by omega) (fun r_17 => ?_)
    refine gj_goto 38 dX4_panAt_18 (by decide) ?_
    refine gj_iret dX4_panAt_38 rfl ⟨Nat.zero_le _, Nat.zero_le _⟩ ?_
    exact ⟨rfl, by unfold p_pan; first | rw [if_pos (by omega)] | rw [if_neg (by omega)], rfl⟩

set_option maxRecDepth 100000 in
set_option maxHeartbeats 4000000 in
theorem s4_tellPan {xt : Nat × (Nat → Int)} {M : gj_M} {pan a b e : Int} (hp : 0 ≤ pan ∧ pan < 5) (ha : gj_in a) (hb : gj_in b) (he : gj_in e) : gj_F xt Y4_tellPan gS [gR 15, gI pan, gI a, gI b, gI e] M none (gj_u (gj_u (gj_u M 19 pan a) 20 pan b) 21 pan e) := by
  show gj_G _ Y4_tellPan gS 0 0 0 [_, _, _, _, _] [] M _
  refine gj_aload_n 1 dX4_tellPan_0 rfl rfl ?_
  refine gj_getfr 4 dX4_tellPan_1 rfl fl_4_21 rfl rfl ?_
  refine gj_iload_n 5 dX4_tellPan_4 rfl rfl ?_
  refine gj_iload_n 6 dX4_tellPan_5 rfl rfl ?_
  refine gj_iast 7 dX4_tellPan_6 rfl rfl (by omega) (by omega) (by omega) ?_
  refine gj_aload_n 8 dX4_tellPan_7 rfl rfl ?_
  refine gj_getfr 11 dX4_tellPan_8 rfl fl_4_24 rfl rfl ?_
  refine gj_iload_n 12 dX4_tellPan_11 rfl rfl ?_
  refine gj_iload_n 13 dX4_tellPan_12 rfl rfl ?_
  refine gj_iast 14 dX4_tellPan_13 rfl rfl (by omega) (by omega) (by omega) ?_
  refine gj_aload_n 15 dX4_tellPan_14 rfl rfl ?_
  refine gj_getfr 18 dX4_tellPan_15 rfl fl_4_27 rfl rfl ?_
  refine gj_iload_n 19 dX4_tellPan_18 rfl rfl ?_
  refine gj_iload 21 dX4_tellPan_19 rfl rfl ?_
  refine gj_iast 22 dX4_tellPan_21 rfl rfl (by omega) (by omega) (by omega) ?_
  refine gj_vret dX4_tellPan_22 rfl ⟨Nat.zero_le _, Nat.zero_le _⟩ ?_
  exact ⟨rfl, rfl, rfl⟩

set_option maxRecDepth 100000 in
set_option maxHeartbeats 4000000 in
theorem s4_dropSwitch1 {xt : Nat × (Nat → Int)} {M : gj_M} (hs : 1 ≤ M 15 6) : gj_F xt Y4_dropSwitch gS [gR 15] M (some (gI 1)) (gj_u M 15 6 (M 15 6 - 1)) := by
  show gj_G _ Y4_dropSwitch gS 0 0 0 [_] [] M _
  refine gj_aload_n 1 dX4_dropSwitch_0 rfl rfl ?_
  refine gj_getfi 4 dX4_dropSwitch_1 rfl fl_4_54 rfl rfl (fun r_1 => ?_)
  refine gj_iconst 5 dX4_dropSwitch_4 rfl ?_
  refine gj_icmp_ge 10 8 dX4_dropSwitch_5 (by decide) rfl (by omega) (by omega) (fun c_5 => ?_) (fun c_5 => absurd c_5 (by omega))
  refine gj_aload_n 11 dX4_dropSwitch_10 rfl rfl ?_
  refine gj_dup 12 dX4_dropSwitch_11 rfl (fun _ => rfl) ?_
  refine gj_getfi 15 dX4_dropSwitch_12 rfl fl_4_54 rfl rfl (fun r_12 => ?_)
  refine gj_iconst 16 dX4_dropSwitch_15 rfl ?_
  refine gj_isub 17 dX4_dropSwitch_16 rfl ?_
  refine gj_putfi 20 dX4_dropSwitch_17 rfl fw_4_54 rfl rfl (by omega) ?_
  refine gj_iconst 21 dX4_dropSwitch_20 rfl ?_
  refine gj_zret dX4_dropSwitch_21 rfl (by omega) ⟨Nat.zero_le _, Nat.zero_le _⟩ ?_
  exact ⟨rfl, rfl, rfl⟩

set_option maxRecDepth 100000 in
set_option maxHeartbeats 4000000 in
theorem s4_dropSwitch0 {xt : Nat × (Nat → Int)} {M : gj_M} (hs : M 15 6 < 1) : gj_F xt Y4_dropSwitch gS [gR 15] M (some (gI 0)) M := by
  show gj_G _ Y4_dropSwitch gS 0 0 0 [_] [] M _
  refine gj_aload_n 1 dX4_dropSwitch_0 rfl rfl ?_
  refine gj_getfi 4 dX4_dropSwitch_1 rfl fl_4_54 rfl rfl (fun r_1 => ?_)
  refine gj_iconst 5 dX4_dropSwitch_4 rfl ?_
  refine gj_icmp_ge 10 8 dX4_dropSwitch_5 (by decide) rfl (by omega) (by omega) (fun c_5 => absurd c_5 (by omega)) (fun c_5 => ?_)
  refine gj_iconst 9 dX4_dropSwitch_8 rfl ?_
  refine gj_zret dX4_dropSwitch_9 rfl (by omega) ⟨Nat.zero_le _, Nat.zero_le _⟩ ?_
  exact ⟨rfl, rfl, rfl⟩

set_option maxRecDepth 100000 in
set_option maxHeartbeats 4000000 in
theorem s4_addSwitch {xt : Nat × (Nat → Int)} {M : gj_M} {f od : Int} (hs : 0 ≤ M 15 6 ∧ M 15 6 < 4) (hf : gj_in f) (ho : gj_in od) : gj_F xt Y4_addSwitch gS [gR 15, gI f, gI od] M none (gj_u (gj_u (gj_u M 22 (M 15 6) f) 23 (M 15 6) od) 15 6 (M 15 6 + 1)) := by
  show gj_G _ Y4_addSwitch gS 0 0 0 [_, _, _] [] M _
  refine gj_aload_n 1 dX4_addSwitch_0 rfl rfl ?_
  refine gj_getfi 4 dX4_addSwitch_1 rfl fl_4_54 rfl rfl (fun r_1 => ?_)
  refine gj_iconst 5 dX4_addSwitch_4 rfl ?_
  refine gj_icmp_ge 38 8 dX4_addSwitch_5 (by decide) rfl (by omega) (by omega) (fun c_5 => absurd c_5 (by omega)) (fun c_5 => ?_)
  refine gj_aload_n 9 dX4_addSwitch_8 rfl rfl ?_
  refine gj_getfr 12 dX4_addSwitch_9 rfl fl_4_30 rfl rfl ?_
  refine gj_aload_n 13 dX4_addSwitch_12 rfl rfl ?_
  refine gj_getfiE (M 15 6) 16 dX4_addSwitch_13 rfl fl_4_54 rfl rfl rfl (fun r_13 => ?_)
  refine gj_iload_n 17 dX4_addSwitch_16 rfl rfl ?_
  refine gj_iast 18 dX4_addSwitch_17 rfl rfl (by omega) (by omega) (by omega) ?_
  refine gj_aload_n 19 dX4_addSwitch_18 rfl rfl ?_
  refine gj_getfr 22 dX4_addSwitch_19 rfl fl_4_33 rfl rfl ?_
  refine gj_aload_n 23 dX4_addSwitch_22 rfl rfl ?_
  refine gj_getfiE (M 15 6) 26 dX4_addSwitch_23 rfl fl_4_54 rfl rfl rfl (fun r_23 => ?_)
  refine gj_iload_n 27 dX4_addSwitch_26 rfl rfl ?_
  refine gj_iast 28 dX4_addSwitch_27 rfl rfl (by omega) (by omega) (by omega) ?_
  refine gj_aload_n 29 dX4_addSwitch_28 rfl rfl ?_
  refine gj_dup 30 dX4_addSwitch_29 rfl (fun _ => rfl) ?_
  refine gj_getfiE (M 15 6) 33 dX4_addSwitch_30 rfl fl_4_54 rfl rfl rfl (fun r_30 => ?_)
  refine gj_iconst 34 dX4_addSwitch_33 rfl ?_
  refine gj_iadd 35 dX4_addSwitch_34 rfl ?_
  refine gj_putfi 38 dX4_addSwitch_35 rfl fw_4_54 rfl rfl (by omega) ?_
  refine gj_vret dX4_addSwitch_38 rfl ⟨Nat.zero_le _, Nat.zero_le _⟩ ?_
  exact ⟨rfl, rfl, rfl⟩

set_option maxRecDepth 100000 in
set_option maxHeartbeats 4000000 in
theorem s4_switchFor_l {xt : Nat × (Nat → Int)} {M : gj_M} {f : Int} (hs : 0 ≤ M 15 6 ∧ M 15 6 ≤ 4) (hf : gj_in f) : ∀ (n k : Nat), (k : Int) + n = M 15 6 → 0 ≤ M 15 6 → gj_G xt Y4_switchFor gS 0 0 4 [some (gR 15), some (gI f), some (gI (p_sf (M 22) f k)), some (gI (k : Int)), none] [] M (fun r S2 M2 => S2 = gS ∧ r = some (gI (p_sf (M 22) f (M 15 6).toNat)) ∧ M2 = M) := by
  intro n
  induction n with
  | zero =>
    intro k hk h0
    have hb := p_sf_lo (M 22) f k
    refine gj_drop [some (gR 15), some (gI f), some (gI (p_sf (M 22) f k)), some (gI (k : Int)), none] ⟨rfl, rfl, rfl, rfl, trivial⟩ ?_
    refine gj_iload_n 5 dX4_switchFor_4 rfl rfl ?_
    refine gj_aload_n 6 dX4_switchFor_5 rfl rfl ?_
    refine gj_getfi 9 dX4_switchFor_6 rfl fl_4_54 rfl rfl (fun r_6 => ?_)
    refine gj_icmp_ge 61 12 dX4_switchFor_9 (by decide) rfl (by omega) (by omega) (fun c_9 => ?_) (fun c_9 => absurd c_9 (by omega))
    refine gj_iload_n 62 dX4_switchFor_61 rfl rfl ?_
    refine gj_iret dX4_switchFor_62 rfl ⟨Nat.zero_le _, Nat.zero_le _⟩ ?_
    exact ⟨rfl, by rw [show (M 15 6).toNat = k by omega], rfl⟩
  | succ n ih =>
    intro k hk h0
    have hb := p_sf_lo (M 22) f k
    refine gj_drop [some (gR 15), some (gI f), some (gI (p_sf (M 22) f k)), some (gI (k : Int)), none] ⟨rfl, rfl, rfl, rfl, trivial⟩ ?_
    refine gj_iload_n 5 dX4_switchFor_4 rfl rfl ?_
    refine gj_aload_n 6 dX4_switchFor_5 rfl rfl ?_
    refine gj_getfi 9 dX4_switchFor_6 rfl fl_4_54 rfl rfl (fun r_6 => ?_)
    refine gj_icmp_ge 61 12 dX4_switchFor_9 (by decide) rfl (by omega) (by omega) (fun c_9 => absurd c_9 (by omega)) (fun c_9 => ?_)
    refine gj_aload_n 13 dX4_switchFor_12 rfl rfl ?_
    refine gj_getfr 16 dX4_switchFor_13 rfl fl_4_30 rfl rfl ?_
    refine gj_iload_n 17 dX4_switchFor_16 rfl rfl ?_
    refine gj_iald 18 dX4_switchFor_17 rfl rfl (by omega) (by omega) (fun r_17 => ?_)
    refine gj_iload_n 19 dX4_switchFor_18 rfl rfl ?_
    refine gj_icmp_gt 26 22 dX4_switchFor_19 (by decide) rfl (by omega) (by omega) (fun c_19 => ?_) (fun c_19 => ?_)
    · refine gj_iconst 27 dX4_switchFor_26 rfl ?_
      refine gj_istore (lv' := [_, _, _, _, _]) 29 dX4_switchFor_27 rfl (by decide) rfl ?_
      refine gj_iload 31 dX4_switchFor_29 rfl rfl ?_
      refine gj_if_eq 55 34 dX4_switchFor_31 (by decide) rfl (by omega) (fun c_31 => ?_) (fun c_31 => absurd c_31 (by decide))
      refine gj_iinc (b := ((k + 1 : Nat) : Int)) (lv' := [_, _, _, _, _]) 58 dX4_switchFor_55 rfl rfl (by omega) (by decide) rfl ?_
      refine gj_goto 4 dX4_switchFor_58 (by decide) ?_
      have h := ih (k + 1) (by omega) (by omega)
      first
      | (rw [show p_sf (M 22) f (k + 1) = (k : Int) from if_pos (by omega)] at h; exact gj_wk h ⟨rfl, rfl, rfl, rfl, trivial⟩)
      | (rw [show p_sf (M 22) f (k + 1) = p_sf (M 22) f k from if_neg (by omega)] at h; exact gj_wk h ⟨rfl, rfl, rfl, rfl, trivial⟩)
    · refine gj_iconst 23 dX4_switchFor_22 rfl ?_
      refine gj_goto 27 dX4_switchFor_23 (by decide) ?_
      refine gj_istore (lv' := [_, _, _, _, _]) 29 dX4_switchFor_27 rfl (by decide) rfl ?_
      refine gj_iload 31 dX4_switchFor_29 rfl rfl ?_
      refine gj_if_eq 55 34 dX4_switchFor_31 (by decide) rfl (by omega) (fun c_31 => absurd c_31 (by decide)) (fun c_31 => ?_)
      refine gj_iload_n 35 dX4_switchFor_34 rfl rfl ?_
      refine gj_if_lt 53 38 dX4_switchFor_35 (by decide) rfl (by omega) (fun c_35 => ?_) (fun c_35 => ?_)
      · refine gj_iload_n 54 dX4_switchFor_53 rfl rfl ?_
        refine gj_istore_n (lv' := [_, _, _, _, _]) 55 dX4_switchFor_54 rfl (by decide) rfl ?_
        refine gj_iinc (b := ((k + 1 : Nat) : Int)) (lv' := [_, _, _, _, _]) 58 dX4_switchFor_55 rfl rfl (by omega) (by decide) rfl ?_
        refine gj_goto 4 dX4_switchFor_58 (by decide) ?_
        have h := ih (k + 1) (by omega) (by omega)
        first
        | (rw [show p_sf (M 22) f (k + 1) = (k : Int) from if_pos (by omega)] at h; exact gj_wk h ⟨rfl, rfl, rfl, rfl, trivial⟩)
        | (rw [show p_sf (M 22) f (k + 1) = p_sf (M 22) f k from if_neg (by omega)] at h; exact gj_wk h ⟨rfl, rfl, rfl, rfl, trivial⟩)
      · refine gj_aload_n 39 dX4_switchFor_38 rfl rfl ?_
        refine gj_getfr 42 dX4_switchFor_39 rfl fl_4_30 rfl rfl ?_
        refine gj_iload_n 43 dX4_switchFor_42 rfl rfl ?_
        refine gj_iald 44 dX4_switchFor_43 rfl rfl (by omega) (by omega) (fun r_43 => ?_)
        refine gj_aload_n 45 dX4_switchFor_44 rfl rfl ?_
        refine gj_getfr 48 dX4_switchFor_45 rfl fl_4_30 rfl rfl ?_
        refine gj_iload_n 49 dX4_switchFor_48 rfl rfl ?_
        refine gj_iald 50 dX4_switchFor_49 rfl rfl (by omega) (by omega) (fun r_49 => ?_)
        refine gj_icmp_lt 55 53 dX4_switchFor_50 (by decide) rfl (by omega) (by omega) (fun c_50 => ?_) (fun c_50 => ?_)
        · refine gj_iinc (b := ((k + 1 : Nat) : Int)) (lv' := [_, _, _, _, _]) 58 dX4_switchFor_55 rfl rfl (by omega) (by decide) rfl ?_
          refine gj_goto 4 dX4_switchFor_58 (by decide) ?_
          have h := ih (k + 1) (by omega) (by omega)
          first
          | (rw [show p_sf (M 22) f (k + 1) = (k : Int) from if_pos (by omega)] at h; exact gj_wk h ⟨rfl, rfl, rfl, rfl, trivial⟩)
          | (rw [show p_sf (M 22) f (k + 1) = p_sf (M 22) f k from if_neg (by omega)] at h; exact gj_wk h ⟨rfl, rfl, rfl, rfl, trivial⟩)
        · refine gj_iload_n 54 dX4_switchFor_53 rfl rfl ?_
          refine gj_istore_n (lv' := [_, _, _, _, _]) 55 dX4_switchFor_54 rfl (by decide) rfl ?_
          refine gj_iinc (b := ((k + 1 : Nat) : Int)) (lv' := [_, _, _, _, _]) 58 dX4_switchFor_55 rfl rfl (by omega) (by decide) rfl ?_
          refine gj_goto 4 dX4_switchFor_58 (by decide) ?_
          have h := ih (k + 1) (by omega) (by omega)
          first
          | (rw [show p_sf (M 22) f (k + 1) = (k : Int) from if_pos (by omega)] at h; exact gj_wk h ⟨rfl, rfl, rfl, rfl, trivial⟩)
          | (rw [show p_sf (M 22) f (k + 1) = p_sf (M 22) f k from if_neg (by omega)] at h; exact gj_wk h ⟨rfl, rfl, rfl, rfl, trivial⟩)

set_option maxRecDepth 100000 in
set_option maxHeartbeats 4000000 in
theorem s4_switchFor {xt : Nat × (Nat → Int)} {M : gj_M} {f : Int} (hs : 0 ≤ M 15 6 ∧ M 15 6 ≤ 4) (hf : gj_in f) : gj_F xt Y4_switchFor gS [gR 15, gI f] M (some (gI (p_sf (M 22) f (M 15 6).toNat))) M := by
  show gj_G _ Y4_switchFor gS 0 0 0 [_, _, _, _, _] [] M _
  refine gj_iconst 1 dX4_switchFor_0 rfl ?_
  refine gj_istore_n (lv' := [_, _, _, _, _]) 2 dX4_switchFor_1 rfl (by decide) rfl ?_
  refine gj_iconst 3 dX4_switchFor_2 rfl ?_
  refine gj_istore_n (lv' := [_, _, _, _, _]) 4 dX4_switchFor_3 rfl (by decide) rfl ?_
  exact s4_switchFor_l hs hf (M 15 6).toNat 0 (by omega) (by omega)
