theorem e_cl {a b : Int} : (if b < a then (1 : Int) else if a = b then 0 else -1) < 0 ↔ a < b := by
  split
  · omega
  · split <;> omega
theorem e_cg {a b : Int} : 0 < (if b < a then (1 : Int) else if a = b then 0 else -1) ↔ b < a := by
  split
  · omega
  · split <;> omega

set_option maxRecDepth 100000 in
set_option maxHeartbeats 1000000 in
theorem s8_in {xt : Nat × (Nat → Int)} {M : gj_M} {v a b : Int} (hv : gj_in6 v) (ha : gj_in6 a) (hb : gj_in6 b) : gj_F xt Y8_in gS [gL v, gL a, gL b] M (some (gI (y_in v a b))) M := by
  show gj_G _ Y8_in gS 0 0 0 [_, _, _, _, _, _] [] M _
  refine gj_lload_n 1 dX8_in_0 rfl rfl ?_
  refine gj_lload_n 2 dX8_in_1 rfl rfl ?_
  refine gj_lcmp 3 dX8_in_2 rfl (by omega) (by omega) ?_
  refine gj_if_lt 17 6 dX8_in_3 (by decide) rfl (by split <;> (try split) <;> decide) (fun c_3 => ?_) (fun c_3 => ?_)
  · try rw [e_cl] at c_3
    try rw [e_cg] at c_10
    refine gj_iconst 18 dX8_in_17 rfl ?_
    refine gj_zret dX8_in_18 rfl (by decide) ⟨Nat.zero_le _, Nat.zero_le _⟩ ?_
    exact ⟨rfl, by (unfold y_in; (repeat (first | rw [if_pos (by omega)] | rw [if_neg (by omega)])); try rfl), rfl⟩
  · rw [e_cl] at c_3
    refine gj_lload_n 7 dX8_in_6 rfl rfl ?_
    refine gj_lload 9 dX8_in_7 rfl rfl ?_
    refine gj_lcmp 10 dX8_in_9 rfl (by omega) (by omega) ?_
    refine gj_if_gt 17 13 dX8_in_10 (by decide) rfl (by split <;> (try split) <;> decide) (fun c_10 => ?_) (fun c_10 => ?_)
    · try rw [e_cl] at c_3
      try rw [e_cg] at c_10
      refine gj_iconst 18 dX8_in_17 rfl ?_
      refine gj_zret dX8_in_18 rfl (by decide) ⟨Nat.zero_le _, Nat.zero_le _⟩ ?_
      exact ⟨rfl, by (unfold y_in; (repeat (first | rw [if_pos (by omega)] | rw [if_neg (by omega)])); try rfl), rfl⟩
    · rw [e_cg] at c_10
      refine gj_iconst 14 dX8_in_13 rfl ?_
      refine gj_goto 18 dX8_in_14 (by decide) ?_
      refine gj_zret dX8_in_18 rfl (by decide) ⟨Nat.zero_le _, Nat.zero_le _⟩ ?_
      exact ⟨rfl, by (unfold y_in; (repeat (first | rw [if_pos (by omega)] | rw [if_neg (by omega)])); try rfl), rfl⟩

set_option maxRecDepth 100000 in
set_option maxHeartbeats 1000000 in
theorem s8_has {xt : Nat × (Nat → Int)} {M : gj_M} {s k : Int} : gj_F xt Y8_has gS [gI s, gI k] M (some (gI (y_has s k))) M := by
  show gj_G _ Y8_has gS 0 0 0 [_, _] [] M _
  refine gj_iload_n 1 dX8_has_0 rfl rfl ?_
  refine gj_iload_n 2 dX8_has_1 rfl rfl ?_
  refine gj_ishr 3 dX8_has_2 rfl ?_
  refine gj_iconst 4 dX8_has_3 rfl ?_
  refine gj_iand 5 dX8_has_4 rfl ?_
  refine gj_iconst 6 dX8_has_5 rfl ?_
  refine gj_icmp_ne 13 9 dX8_has_6 (by decide) rfl (by first | exact gj_in32 _ | decide) (by first | exact gj_in32 _ | decide) (fun c_6 => ?_) (fun c_6 => ?_)
  · refine gj_iconst 14 dX8_has_13 rfl ?_
    refine gj_zret dX8_has_14 rfl (by decide) ⟨Nat.zero_le _, Nat.zero_le _⟩ ?_
    exact ⟨rfl, by unfold y_has; first | rw [if_pos (show y_bit s k = 1 from by first | exact c_6 | exact Classical.not_not.mp c_6)] | rw [if_neg (show ¬ y_bit s k = 1 from c_6)], rfl⟩
  · refine gj_iconst 10 dX8_has_9 rfl ?_
    refine gj_goto 14 dX8_has_10 (by decide) ?_
    refine gj_zret dX8_has_14 rfl (by decide) ⟨Nat.zero_le _, Nat.zero_le _⟩ ?_
    exact ⟨rfl, by unfold y_has; first | rw [if_pos (show y_bit s k = 1 from by first | exact c_6 | exact Classical.not_not.mp c_6)] | rw [if_neg (show ¬ y_bit s k = 1 from c_6)], rfl⟩

set_option maxRecDepth 100000 in
set_option maxHeartbeats 1000000 in
theorem s8_ones_l {xt : Nat × (Nat → Int)} {M : gj_M} {s : Int} : ∀ (n k : Nat), k + n = 6 → gj_G xt Y8_ones gS 0 0 4 [some (gI s), some (gI (p_sum (fun k : Nat => y_bit s k) k)), some (gI (k : Int))] [] M (fun r S2 M2 => S2 = gS ∧ r = some (gI (y_ones s)) ∧ M2 = M) := by
  intro n
  induction n with
  | zero =>
    intro k hk
    refine gj_iload_n 5 dX8_ones_4 rfl rfl ?_
    refine gj_bipush 7 dX8_ones_5 rfl (by decide) ?_
    refine gj_icmp_ge 24 10 dX8_ones_7 (by decide) rfl (by omega) (by omega) (fun c_7 => ?_) (fun c_7 => absurd c_7 (by omega))
    refine gj_iload_n 25 dX8_ones_24 rfl rfl ?_
    refine gj_iret dX8_ones_25 rfl ⟨Nat.zero_le _, Nat.zero_le _⟩ ?_
    have hk5 : k = 6 := by omega
    subst hk5
    exact ⟨rfl, rfl, rfl⟩
  | succ n ih =>
    intro k hk
    refine gj_iload_n 5 dX8_ones_4 rfl rfl ?_
    refine gj_bipush 7 dX8_ones_5 rfl (by decide) ?_
    refine gj_icmp_ge 24 10 dX8_ones_7 (by decide) rfl (by omega) (by omega) (fun c_7 => absurd c_7 (by omega)) (fun c_7 => ?_)
    refine gj_iload_n 11 dX8_ones_10 rfl rfl ?_
    refine gj_iload_n 12 dX8_ones_11 rfl rfl ?_
    refine gj_iload_n 13 dX8_ones_12 rfl rfl ?_
    refine gj_ishr 14 dX8_ones_13 rfl ?_
    refine gj_iconst 15 dX8_ones_14 rfl ?_
    refine gj_iand 16 dX8_ones_15 rfl ?_
    refine gj_iadd 17 dX8_ones_16 rfl ?_
    refine gj_istore_n (lv' := [_, _, _]) 18 dX8_ones_17 rfl (by decide) rfl ?_
    refine gj_iinc (b := ((k + 1 : Nat) : Int)) (lv' := [_, _, _]) 21 dX8_ones_18 rfl rfl (by omega) (by decide) rfl ?_
    refine gj_goto 4 dX8_ones_21 (by decide) ?_
    exact gj_wk (ih (k + 1) (by omega)) ⟨rfl, rfl, rfl, trivial⟩

set_option maxRecDepth 100000 in
set_option maxHeartbeats 1000000 in
theorem s8_ones {xt : Nat × (Nat → Int)} {M : gj_M} {s : Int} : gj_F xt Y8_ones gS [gI s] M (some (gI (y_ones s))) M := by
  show gj_G _ Y8_ones gS 0 0 0 [_, _, _] [] M _
  refine gj_iconst 1 dX8_ones_0 rfl ?_
  refine gj_istore_n (lv' := [_, _, _]) 2 dX8_ones_1 rfl (by decide) rfl ?_
  refine gj_iconst 3 dX8_ones_2 rfl ?_
  refine gj_istore_n (lv' := [_, _, _]) 4 dX8_ones_3 rfl (by decide) rfl ?_
  exact gj_wk (s8_ones_l 6 0 rfl) ⟨rfl, rfl, rfl, trivial⟩

set_option maxRecDepth 100000 in
set_option maxHeartbeats 1000000 in
theorem s8_power_l {xt : Nat × (Nat → Int)} {M : gj_M} {x N : Int} (hN : 0 ≤ N ∧ N ≤ 100) : ∀ (n k : Nat), (k : Int) + n = N → gj_G xt Y8_power gS 0 0 4 [some (gI x), some (gI N), some (gI (e_pw x k)), some (gI (k : Int))] [] M (fun r S2 M2 => S2 = gS ∧ r = some (gI (e_pw x N.toNat)) ∧ M2 = M) := by
  intro n
  induction n with
  | zero =>
    intro k hk
    refine gj_iload_n 5 dX8_power_4 rfl rfl ?_
    refine gj_iload_n 6 dX8_power_5 rfl rfl ?_
    refine gj_icmp_ge 19 9 dX8_power_6 (by decide) rfl (by omega) (by omega) (fun c_6 => ?_) (fun c_6 => absurd c_6 (by omega))
    refine gj_iload_n 20 dX8_power_19 rfl rfl ?_
    refine gj_iret dX8_power_20 rfl ⟨Nat.zero_le _, Nat.zero_le _⟩ ?_
    exact ⟨rfl, by rw [show N.toNat = k by omega], rfl⟩
  | succ n ih =>
    intro k hk
    refine gj_iload_n 5 dX8_power_4 rfl rfl ?_
    refine gj_iload_n 6 dX8_power_5 rfl rfl ?_
    refine gj_icmp_ge 19 9 dX8_power_6 (by decide) rfl (by omega) (by omega) (fun c_6 => absurd c_6 (by omega)) (fun c_6 => ?_)
    refine gj_iload_n 10 dX8_power_9 rfl rfl ?_
    refine gj_iload_n 11 dX8_power_10 rfl rfl ?_
    refine gj_imul 12 dX8_power_11 rfl ?_
    refine gj_istore_n (lv' := [_, _, _, _]) 13 dX8_power_12 rfl (by decide) rfl ?_
    refine gj_iinc (b := ((k + 1 : Nat) : Int)) (lv' := [_, _, _, _]) 16 dX8_power_13 rfl rfl (by omega) (by decide) rfl ?_
    refine gj_goto 4 dX8_power_16 (by decide) ?_
    exact gj_wk (ih (k + 1) (by omega)) ⟨rfl, rfl, rfl, rfl, trivial⟩

set_option maxRecDepth 100000 in
set_option maxHeartbeats 1000000 in
theorem s8_power {xt : Nat × (Nat → Int)} {M : gj_M} {x N : Int} (hN : 0 ≤ N ∧ N ≤ 100) : gj_F xt Y8_power gS [gI x, gI N] M (some (gI (e_pw x N.toNat))) M := by
  show gj_G _ Y8_power gS 0 0 0 [_, _, _, _] [] M _
  refine gj_iconst 1 dX8_power_0 rfl ?_
  refine gj_istore_n (lv' := [_, _, _, _]) 2 dX8_power_1 rfl (by decide) rfl ?_
  refine gj_iconst 3 dX8_power_2 rfl ?_
  refine gj_istore_n (lv' := [_, _, _, _]) 4 dX8_power_3 rfl (by decide) rfl ?_
  exact gj_wk (s8_power_l hN N.toNat 0 (by omega)) ⟨rfl, rfl, rfl, rfl, trivial⟩

set_option maxRecDepth 100000 in
set_option maxHeartbeats 1000000 in
theorem s8_fresh_l {xt : Nat × (Nat → Int)} {M : gj_M} {S : List gj_H} {r : Nat} (hs : S[r]? = some (.inr (false, 40))) : ∀ (n k : Nat), k + n = 40 → gj_G xt Y8_fresh S 0 0 2 [some (gR r), some (gI (k : Int))] [] (y_fr M r k) (fun rv S2 M2 => S2 = S ∧ rv = none ∧ M2 = y_fr M r 40) := by
  intro n
  induction n with
  | zero =>
    intro k hk
    refine gj_iload_n 3 dX8_fresh_2 rfl rfl ?_
    refine gj_bipush 5 dX8_fresh_3 rfl (by decide) ?_
    refine gj_icmp_ge 44 8 dX8_fresh_5 (by decide) rfl (by omega) (by omega) (fun c_5 => ?_) (fun c_5 => absurd c_5 (by omega))
    refine gj_vret dX8_fresh_44 rfl ⟨Nat.zero_le _, Nat.zero_le _⟩ ?_
    have hk5 : k = 40 := by omega
    subst hk5
    exact ⟨rfl, rfl, rfl⟩
  | succ n ih =>
    intro k hk
    refine gj_iload_n 3 dX8_fresh_2 rfl rfl ?_
    refine gj_bipush 5 dX8_fresh_3 rfl (by decide) ?_
    refine gj_icmp_ge 44 8 dX8_fresh_5 (by decide) rfl (by omega) (by omega) (fun c_5 => absurd c_5 (by omega)) (fun c_5 => ?_)
    refine gj_aload_n 9 dX8_fresh_8 rfl rfl ?_
    refine gj_iload_n 10 dX8_fresh_9 rfl rfl ?_
    refine gj_iload_n 11 dX8_fresh_10 rfl rfl ?_
    refine gj_bipush 13 dX8_fresh_11 rfl (by decide) ?_
    refine gj_icmp_lt 36 16 dX8_fresh_13 (by decide) rfl (by omega) (by omega) (fun c_13 => ?_) (fun c_13 => ?_)
    · refine gj_iconst 37 dX8_fresh_36 rfl ?_
      refine gj_iast 38 dX8_fresh_37 rfl hs (by omega) (by omega) (by decide) ?_
      refine gj_iinc (b := ((k + 1 : Nat) : Int)) (lv' := [_, _]) 41 dX8_fresh_38 rfl rfl (by omega) (by decide) rfl ?_
      refine gj_goto 2 dX8_fresh_41 (by decide) ?_
      have h := ih (k + 1) (by omega)
      first
      | (rw [show y_fr M r (k + 1) = gj_u (y_fr M r k) r k 1 by show gj_u _ _ _ (y_fi k) = _; rw [show y_fi k = 1 from if_pos (by omega)]] at h; exact gj_wk h ⟨rfl, rfl, trivial⟩)
      | (rw [show y_fr M r (k + 1) = gj_u (y_fr M r k) r k 0 by show gj_u _ _ _ (y_fi k) = _; rw [show y_fi k = 0 from if_neg (by omega)]] at h; exact gj_wk h ⟨rfl, rfl, trivial⟩)
    · refine gj_iload_n 17 dX8_fresh_16 rfl rfl ?_
      refine gj_bipush 19 dX8_fresh_17 rfl (by decide) ?_
      refine gj_icmp_ge 36 22 dX8_fresh_19 (by decide) rfl (by omega) (by omega) (fun c_19 => ?_) (fun c_19 => ?_)
      · refine gj_iconst 37 dX8_fresh_36 rfl ?_
        refine gj_iast 38 dX8_fresh_37 rfl hs (by omega) (by omega) (by decide) ?_
        refine gj_iinc (b := ((k + 1 : Nat) : Int)) (lv' := [_, _]) 41 dX8_fresh_38 rfl rfl (by omega) (by decide) rfl ?_
        refine gj_goto 2 dX8_fresh_41 (by decide) ?_
        have h := ih (k + 1) (by omega)
        first
        | (rw [show y_fr M r (k + 1) = gj_u (y_fr M r k) r k 1 by show gj_u _ _ _ (y_fi k) = _; rw [show y_fi k = 1 from if_pos (by omega)]] at h; exact gj_wk h ⟨rfl, rfl, trivial⟩)
        | (rw [show y_fr M r (k + 1) = gj_u (y_fr M r k) r k 0 by show gj_u _ _ _ (y_fi k) = _; rw [show y_fi k = 0 from if_neg (by omega)]] at h; exact gj_wk h ⟨rfl, rfl, trivial⟩)
      · refine gj_iload_n 23 dX8_fresh_22 rfl rfl ?_
        refine gj_bipush 25 dX8_fresh_23 rfl (by decide) ?_
        refine gj_isub 26 dX8_fresh_25 rfl ?_
        refine gj_iconst 27 dX8_fresh_26 rfl ?_
        refine gj_irem 28 dX8_fresh_27 rfl (by omega) (by omega) ?_
        refine gj_iconst 29 dX8_fresh_28 rfl ?_
        refine gj_icmp_ne 36 32 dX8_fresh_29 (by decide) rfl (by omega) (by omega) (fun c_29 => ?_) (fun c_29 => ?_)
        · refine gj_iconst 37 dX8_fresh_36 rfl ?_
          refine gj_iast 38 dX8_fresh_37 rfl hs (by omega) (by omega) (by decide) ?_
          refine gj_iinc (b := ((k + 1 : Nat) : Int)) (lv' := [_, _]) 41 dX8_fresh_38 rfl rfl (by omega) (by decide) rfl ?_
          refine gj_goto 2 dX8_fresh_41 (by decide) ?_
          have h := ih (k + 1) (by omega)
          first
          | (rw [show y_fr M r (k + 1) = gj_u (y_fr M r k) r k 1 by show gj_u _ _ _ (y_fi k) = _; rw [show y_fi k = 1 from if_pos (by omega)]] at h; exact gj_wk h ⟨rfl, rfl, trivial⟩)
          | (rw [show y_fr M r (k + 1) = gj_u (y_fr M r k) r k 0 by show gj_u _ _ _ (y_fi k) = _; rw [show y_fi k = 0 from if_neg (by omega)]] at h; exact gj_wk h ⟨rfl, rfl, trivial⟩)
        · refine gj_iconst 33 dX8_fresh_32 rfl ?_
          refine gj_goto 37 dX8_fresh_33 (by decide) ?_
          refine gj_iast 38 dX8_fresh_37 rfl hs (by omega) (by omega) (by decide) ?_
          refine gj_iinc (b := ((k + 1 : Nat) : Int)) (lv' := [_, _]) 41 dX8_fresh_38 rfl rfl (by omega) (by decide) rfl ?_
          refine gj_goto 2 dX8_fresh_41 (by decide) ?_
          have h := ih (k + 1) (by omega)
          first
          | (rw [show y_fr M r (k + 1) = gj_u (y_fr M r k) r k 1 by show gj_u _ _ _ (y_fi k) = _; rw [show y_fi k = 1 from if_pos (by omega)]] at h; exact gj_wk h ⟨rfl, rfl, trivial⟩)
          | (rw [show y_fr M r (k + 1) = gj_u (y_fr M r k) r k 0 by show gj_u _ _ _ (y_fi k) = _; rw [show y_fi k = 0 from if_neg (by omega)]] at h; exact gj_wk h ⟨rfl, rfl, trivial⟩)

set_option maxRecDepth 100000 in
set_option maxHeartbeats 1000000 in
theorem s8_fresh {xt : Nat × (Nat → Int)} {M : gj_M} {S : List gj_H} {r : Nat} (hs : S[r]? = some (.inr (false, 40))) : gj_F xt Y8_fresh S [gR r] M none (y_fr M r 40) := by
  show gj_G _ Y8_fresh S 0 0 0 [_, _] [] M _
  refine gj_iconst 1 dX8_fresh_0 rfl ?_
  refine gj_istore_n (lv' := [_, _]) 2 dX8_fresh_1 rfl (by decide) rfl ?_
  exact gj_wk (s8_fresh_l hs 40 0 rfl) ⟨rfl, rfl, trivial⟩

set_option maxRecDepth 100000 in
set_option maxHeartbeats 1000000 in
theorem s8_lay_l {xt : Nat × (Nat → Int)} {M : gj_M}  : ∀ (n k : Nat), k + n = 40 → gj_G xt Y8_layTrial gS 0 0 2 [some (gR 69), some (gI (k : Int))] [] (y_cp M 78 79 k) (fun r S2 M2 => S2 = gS ∧ r = none ∧ M2 = y_cp M 78 79 40) := by
  intro n
  induction n with
  | zero =>
    intro k hk
    refine gj_iload_n 3 dX8_layTrial_2 rfl rfl ?_
    refine gj_bipush 5 dX8_layTrial_3 rfl (by decide) ?_
    refine gj_icmp_ge 26 8 dX8_layTrial_5 (by decide) rfl (by omega) (by omega) (fun c_5 => ?_) (fun c_5 => absurd c_5 (by omega))
    refine gj_vret dX8_layTrial_26 rfl ⟨Nat.zero_le _, Nat.zero_le _⟩ ?_
    have hk5 : k = 40 := by omega
    subst hk5
    exact ⟨rfl, rfl, rfl⟩
  | succ n ih =>
    intro k hk
    refine gj_iload_n 3 dX8_layTrial_2 rfl rfl ?_
    refine gj_bipush 5 dX8_layTrial_3 rfl (by decide) ?_
    refine gj_icmp_ge 26 8 dX8_layTrial_5 (by decide) rfl (by omega) (by omega) (fun c_5 => absurd c_5 (by omega)) (fun c_5 => ?_)
    refine gj_aload_n 9 dX8_layTrial_8 rfl rfl ?_
    refine gj_getfr 12 dX8_layTrial_9 rfl fl_8_38 rfl rfl ?_
    refine gj_iload_n 13 dX8_layTrial_12 rfl rfl ?_
    refine gj_aload_n 14 dX8_layTrial_13 rfl rfl ?_
    refine gj_getfr 17 dX8_layTrial_14 rfl fl_8_35 rfl rfl ?_
    refine gj_iload_n 18 dX8_layTrial_17 rfl rfl ?_
    refine gj_iald 19 dX8_layTrial_18 rfl rfl (by omega) (by omega) (fun r_18 => ?_)
    refine gj_iast 20 dX8_layTrial_19 rfl rfl (by omega) (by omega) r_18 ?_
    refine gj_iinc (b := ((k + 1 : Nat) : Int)) (lv' := [_, _]) 23 dX8_layTrial_20 rfl rfl (by omega) (by decide) rfl ?_
    refine gj_goto 2 dX8_layTrial_23 (by decide) ?_
    exact gj_wk (ih (k + 1) (by omega)) ⟨rfl, rfl, trivial⟩

set_option maxRecDepth 100000 in
set_option maxHeartbeats 1000000 in
theorem s8_lay {xt : Nat × (Nat → Int)} {M : gj_M}  : gj_F xt Y8_layTrial gS [gR 69] M none (y_cp M 78 79 40) := by
  show gj_G _ Y8_layTrial gS 0 0 0 [_, _] [] M _
  refine gj_iconst 1 dX8_layTrial_0 rfl ?_
  refine gj_istore_n (lv' := [_, _]) 2 dX8_layTrial_1 rfl (by decide) rfl ?_
  exact gj_wk (s8_lay_l 40 0 rfl) ⟨rfl, rfl, trivial⟩

set_option maxRecDepth 100000 in
set_option maxHeartbeats 1000000 in
theorem s8_noL {xt : Nat × (Nat → Int)} {M : gj_M} {l : Int} (h : gj_in l) (hL : 0 ≤ M 69 5 ∧ M 69 5 ≤ 4) : gj_F xt Y8_noLevel gS [gR 69, gI l] M (some (gI (1 - y_in l 0 (M 69 5 - 1)))) M := by
  show gj_G _ Y8_noLevel gS 0 0 0 [_, _] [] M _
  refine gj_iload_n 1 dX8_noLevel_0 rfl rfl ?_
  refine gj_i2l 2 dX8_noLevel_1 rfl (by omega) ?_
  refine gj_lconst (a := 0) 3 dX8_noLevel_2 rfl rfl ?_
  refine gj_aload_n 4 dX8_noLevel_3 rfl rfl ?_
  refine gj_getfi 7 dX8_noLevel_4 rfl fl_8_73 rfl rfl (fun r_4 => ?_)
  refine gj_iconst 8 dX8_noLevel_7 rfl ?_
  refine gj_isub 9 dX8_noLevel_8 rfl ?_
  refine gj_i2l 10 dX8_noLevel_9 rfl (by omega) ?_
  refine gj_fS 13 dX8_noLevel_10 rfl ok_8_in ml_8_76 is_8_in (As := [gL _, gL _, gL _]) rfl rfl (Nat.le_of_ble_eq_true rfl) ⟨Nat.le_of_ble_eq_true rfl, Nat.le_of_ble_eq_true rfl⟩ (Nat.le_of_ble_eq_true rfl) ⟨rfl, rfl⟩ ⟨Nat.zero_le _, Nat.zero_le _⟩ (s8_in (by omega) (by omega) (by omega)) ?_
  have hc := y_in_c l 0 (M 69 5 - 1)
  refine gj_if_ne 20 16 dX8_noLevel_13 (by decide) rfl (by omega) (fun c_13 => ?_) (fun c_13 => ?_)
  · refine gj_iconst 21 dX8_noLevel_20 rfl ?_
    refine gj_zret dX8_noLevel_21 rfl (by decide) ⟨Nat.zero_le _, Nat.zero_le _⟩ ?_
    exact ⟨rfl, by congr 2; omega, rfl⟩
  · refine gj_iconst 17 dX8_noLevel_16 rfl ?_
    refine gj_goto 21 dX8_noLevel_17 (by decide) ?_
    refine gj_zret dX8_noLevel_21 rfl (by decide) ⟨Nat.zero_le _, Nat.zero_le _⟩ ?_
    exact ⟨rfl, by congr 2; omega, rfl⟩

set_option maxRecDepth 100000 in
set_option maxHeartbeats 1000000 in
theorem s8_noD {xt : Nat × (Nat → Int)} {M : gj_M} {l : Int} (h : gj_in l) (hD : 0 ≤ M 69 4 ∧ M 69 4 ≤ 6) : gj_F xt Y8_noDrawing gS [gR 69, gI l] M (some (gI (1 - y_in l 0 (M 69 4 - 1)))) M := by
  show gj_G _ Y8_noDrawing gS 0 0 0 [_, _] [] M _
  refine gj_iload_n 1 dX8_noDrawing_0 rfl rfl ?_
  refine gj_i2l 2 dX8_noDrawing_1 rfl (by omega) ?_
  refine gj_lconst (a := 0) 3 dX8_noDrawing_2 rfl rfl ?_
  refine gj_aload_n 4 dX8_noDrawing_3 rfl rfl ?_
  refine gj_getfi 7 dX8_noDrawing_4 rfl fl_8_80 rfl rfl (fun r_4 => ?_)
  refine gj_iconst 8 dX8_noDrawing_7 rfl ?_
  refine gj_isub 9 dX8_noDrawing_8 rfl ?_
  refine gj_i2l 10 dX8_noDrawing_9 rfl (by omega) ?_
  refine gj_fS 13 dX8_noDrawing_10 rfl ok_8_in ml_8_76 is_8_in (As := [gL _, gL _, gL _]) rfl rfl (Nat.le_of_ble_eq_true rfl) ⟨Nat.le_of_ble_eq_true rfl, Nat.le_of_ble_eq_true rfl⟩ (Nat.le_of_ble_eq_true rfl) ⟨rfl, rfl⟩ ⟨Nat.zero_le _, Nat.zero_le _⟩ (s8_in (by omega) (by omega) (by omega)) ?_
  have hc := y_in_c l 0 (M 69 4 - 1)
  refine gj_if_ne 20 16 dX8_noDrawing_13 (by decide) rfl (by omega) (fun c_13 => ?_) (fun c_13 => ?_)
  · refine gj_iconst 21 dX8_noDrawing_20 rfl ?_
    refine gj_zret dX8_noDrawing_21 rfl (by decide) ⟨Nat.zero_le _, Nat.zero_le _⟩ ?_
    exact ⟨rfl, by congr 2; omega, rfl⟩
  · refine gj_iconst 17 dX8_noDrawing_16 rfl ?_
    refine gj_goto 21 dX8_noDrawing_17 (by decide) ?_
    refine gj_zret dX8_noDrawing_21 rfl (by decide) ⟨Nat.zero_le _, Nat.zero_le _⟩ ?_
    exact ⟨rfl, by congr 2; omega, rfl⟩

set_option maxRecDepth 100000 in
set_option maxHeartbeats 1000000 in
theorem s8_isF {xt : Nat × (Nat → Int)} {M : gj_M} {f : Int} (h : gj_in f) : gj_F xt Y8_isFrame gS [gI f] M (some (gI (y_in f 0 47))) M := by
  show gj_G _ Y8_isFrame gS 0 0 0 [_] [] M _
  refine gj_iload_n 1 dX8_isFrame_0 rfl rfl ?_
  refine gj_i2l 2 dX8_isFrame_1 rfl (by omega) ?_
  refine gj_lconst (a := 0) 3 dX8_isFrame_2 rfl rfl ?_
  refine gj_ldc2 (a := 47) 6 dX8_isFrame_3 rfl lc_8_83 ?_
  refine gj_fS 9 dX8_isFrame_6 rfl ok_8_in ml_8_76 is_8_in (As := [gL _, gL _, gL _]) rfl rfl (Nat.le_of_ble_eq_true rfl) ⟨Nat.le_of_ble_eq_true rfl, Nat.le_of_ble_eq_true rfl⟩ (Nat.le_of_ble_eq_true rfl) ⟨rfl, rfl⟩ ⟨Nat.zero_le _, Nat.zero_le _⟩ (s8_in (by omega) (by omega) (by omega)) ?_
  have hc := y_in_c f 0 47
  refine gj_zret dX8_isFrame_9 rfl (by omega) ⟨Nat.zero_le _, Nat.zero_le _⟩ ?_
  exact ⟨rfl, rfl, rfl⟩

set_option maxRecDepth 100000 in
set_option maxHeartbeats 1000000 in
theorem s8_ex {xt : Nat × (Nat → Int)} {M : gj_M} {r : Nat} (hs : gS[r]? = some (.inr (false, 40))) (hI : y_I M r) {l f : Int} (hl : 0 ≤ l ∧ l < 4) (hf : 0 ≤ f ∧ f < 48) : gj_F xt Y8_exposedOn gS [gR 69, gR r, gI l, gI f] M (some (gI (y_ex M r l f))) M := by
  show gj_G _ Y8_exposedOn gS 0 0 0 [_, _, _, _, _] [] M _
  have h1 := hI.2.2.2.1 l hl.1 hl.2
  refine gj_iload_n 1 dX8_exposedOn_0 rfl rfl ?_
  refine gj_aload_n 2 dX8_exposedOn_1 rfl rfl ?_
  refine gj_bipush 4 dX8_exposedOn_2 rfl (by decide) ?_
  refine gj_iload_n 5 dX8_exposedOn_4 rfl rfl ?_
  refine gj_iadd 6 dX8_exposedOn_5 rfl ?_
  refine gj_iald 7 dX8_exposedOn_6 rfl hs (by omega) (by omega) (fun r_6 => ?_)
  refine gj_isub 8 dX8_exposedOn_7 rfl ?_
  refine gj_istore (lv' := [_, _, _, _, _]) 10 dX8_exposedOn_8 rfl (by decide) rfl ?_
  refine gj_iload 12 dX8_exposedOn_10 rfl rfl ?_
  refine gj_i2l 13 dX8_exposedOn_12 rfl (by omega) ?_
  refine gj_lconst (a := 0) 14 dX8_exposedOn_13 rfl rfl ?_
  refine gj_aload_n 15 dX8_exposedOn_14 rfl rfl ?_
  refine gj_getfr 18 dX8_exposedOn_15 rfl fl_8_16 rfl rfl ?_
  refine gj_iload_n 19 dX8_exposedOn_18 rfl rfl ?_
  refine gj_iald 20 dX8_exposedOn_19 rfl rfl (by omega) (by omega) (fun r_19 => ?_)
  refine gj_iconst 21 dX8_exposedOn_20 rfl ?_
  refine gj_isub 22 dX8_exposedOn_21 rfl ?_
  refine gj_i2l 23 dX8_exposedOn_22 rfl (by omega) ?_
  refine gj_fS 26 dX8_exposedOn_23 rfl ok_8_in ml_8_76 is_8_in (As := [gL _, gL _, gL _]) rfl rfl (Nat.le_of_ble_eq_true rfl) ⟨Nat.le_of_ble_eq_true rfl, Nat.le_of_ble_eq_true rfl⟩ (Nat.le_of_ble_eq_true rfl) ⟨rfl, rfl⟩ ⟨Nat.zero_le _, Nat.zero_le _⟩ (s8_in (by omega) (by omega) (by omega)) ?_
  have hc := y_in_c (f - M r (12 + l)) 0 (M 72 l - 1)
  refine gj_if_eq 44 29 dX8_exposedOn_26 (by decide) rfl (by omega) (fun c_26 => ?_) (fun c_26 => ?_)
  · refine gj_bipush 46 dX8_exposedOn_44 rfl (by decide) ?_
    refine gj_iret dX8_exposedOn_46 rfl ⟨Nat.zero_le _, Nat.zero_le _⟩ ?_
    exact ⟨rfl, by (unfold y_ex; (repeat (first | rw [if_pos (by omega)] | rw [if_neg (by omega)])); try rfl), rfl⟩
  · refine gj_aload_n 30 dX8_exposedOn_29 rfl rfl ?_
    refine gj_getfr 33 dX8_exposedOn_30 rfl fl_8_13 rfl rfl ?_
    refine gj_bipush 35 dX8_exposedOn_33 rfl (by decide) ?_
    refine gj_iload_n 36 dX8_exposedOn_35 rfl rfl ?_
    refine gj_imul 37 dX8_exposedOn_36 rfl ?_
    refine gj_iload 39 dX8_exposedOn_37 rfl rfl ?_
    refine gj_iadd 40 dX8_exposedOn_39 rfl ?_
    refine gj_iald 41 dX8_exposedOn_40 rfl rfl (by omega) (by omega) (fun r_40 => ?_)
    refine gj_goto 46 dX8_exposedOn_41 (by decide) ?_
    refine gj_iret dX8_exposedOn_46 rfl ⟨Nat.zero_le _, Nat.zero_le _⟩ ?_
    exact ⟨rfl, by (unfold y_ex; (repeat (first | rw [if_pos (by omega)] | rw [if_neg (by omega)])); try rfl), rfl⟩

set_option maxRecDepth 100000 in
set_option maxHeartbeats 1000000 in
theorem s8_wh {xt : Nat × (Nat → Int)} {M : gj_M} {r : Nat} (hs : gS[r]? = some (.inr (false, 40))) (hI : y_I M r) {p f : Int} (hp : 0 ≤ p ∧ p < 5) (hf : 0 ≤ f ∧ f < 48) : gj_F xt Y8_whereIs gS [gR r, gI p, gI f] M (some (gI (y_wh M r p f))) M := by
  show gj_G _ Y8_whereIs gS 0 0 0 [_, _, _, _] [] M _
  have h1 := hI.2.2.2.2.1 p hp.1 hp.2
  refine gj_bipush 2 dX8_whereIs_0 rfl (by decide) ?_
  refine gj_iconst 3 dX8_whereIs_2 rfl ?_
  refine gj_iload_n 4 dX8_whereIs_3 rfl rfl ?_
  refine gj_imul 5 dX8_whereIs_4 rfl ?_
  refine gj_iadd 6 dX8_whereIs_5 rfl ?_
  refine gj_istore_n (lv' := [_, _, _, _]) 7 dX8_whereIs_6 rfl (by decide) rfl ?_
  refine gj_aload_n 8 dX8_whereIs_7 rfl rfl ?_
  refine gj_iload_n 9 dX8_whereIs_8 rfl rfl ?_
  refine gj_iald 10 dX8_whereIs_9 rfl hs (by omega) (by omega) (fun r_9 => ?_)
  refine gj_aload_n 11 dX8_whereIs_10 rfl rfl ?_
  refine gj_iload_n 12 dX8_whereIs_11 rfl rfl ?_
  refine gj_iconst 13 dX8_whereIs_12 rfl ?_
  refine gj_iadd 14 dX8_whereIs_13 rfl ?_
  refine gj_iald 15 dX8_whereIs_14 rfl hs (by omega) (by omega) (fun r_14 => ?_)
  refine gj_iload_n 16 dX8_whereIs_15 rfl rfl ?_
  refine gj_aload_n 17 dX8_whereIs_16 rfl rfl ?_
  refine gj_iload_n 18 dX8_whereIs_17 rfl rfl ?_
  refine gj_iconst 19 dX8_whereIs_18 rfl ?_
  refine gj_iadd 20 dX8_whereIs_19 rfl ?_
  refine gj_iald 21 dX8_whereIs_20 rfl hs (by omega) (by omega) (fun r_20 => ?_)
  refine gj_idiv 22 dX8_whereIs_21 rfl (by omega) (by omega) ?_
  refine gj_imul 23 dX8_whereIs_22 rfl ?_
  refine gj_iadd 24 dX8_whereIs_23 rfl ?_
  refine gj_iret dX8_whereIs_24 rfl ⟨Nat.zero_le _, Nat.zero_le _⟩ ?_
  exact ⟨rfl, rfl, rfl⟩

set_option maxRecDepth 100000 in
set_option maxHeartbeats 1000000 in
theorem s8_fo_l {xt : Nat × (Nat → Int)} {M : gj_M} (hL : 0 ≤ M 69 5 ∧ M 69 5 ≤ 4) : ∀ (n k : Nat), (k : Int) + n = M 69 5 → gj_G xt Y8_firstOrder gS 0 0 4 [some (gR 69), some (gI (y_fo k)), some (gI (k : Int))] [] M (fun r S2 M2 => S2 = gS ∧ r = some (gI (y_fo (M 69 5).toNat)) ∧ M2 = M) := by
  intro n
  induction n with
  | zero =>
    intro k hk
    refine gj_iload_n 5 dX8_firstOrder_4 rfl rfl ?_
    refine gj_aload_n 6 dX8_firstOrder_5 rfl rfl ?_
    refine gj_getfi 9 dX8_firstOrder_6 rfl fl_8_73 rfl rfl (fun r_6 => ?_)
    refine gj_icmp_ge 25 12 dX8_firstOrder_9 (by decide) rfl (by omega) (by omega) (fun c_9 => ?_) (fun c_9 => absurd c_9 (by omega))
    refine gj_iload_n 26 dX8_firstOrder_25 rfl rfl ?_
    refine gj_iret dX8_firstOrder_26 rfl ⟨Nat.zero_le _, Nat.zero_le _⟩ ?_
    exact ⟨rfl, by rw [show (M 69 5).toNat = k by omega], rfl⟩
  | succ n ih =>
    intro k hk
    refine gj_iload_n 5 dX8_firstOrder_4 rfl rfl ?_
    refine gj_aload_n 6 dX8_firstOrder_5 rfl rfl ?_
    refine gj_getfi 9 dX8_firstOrder_6 rfl fl_8_73 rfl rfl (fun r_6 => ?_)
    refine gj_icmp_ge 25 12 dX8_firstOrder_9 (by decide) rfl (by omega) (by omega) (fun c_9 => absurd c_9 (by omega)) (fun c_9 => ?_)
    refine gj_bipush 14 dX8_firstOrder_12 rfl (by decide) ?_
    refine gj_iload_n 15 dX8_firstOrder_14 rfl rfl ?_
    refine gj_imul 16 dX8_firstOrder_15 rfl ?_
    refine gj_iload_n 17 dX8_firstOrder_16 rfl rfl ?_
    refine gj_iadd 18 dX8_firstOrder_17 rfl ?_
    refine gj_istore_n (lv' := [_, _, _]) 19 dX8_firstOrder_18 rfl (by decide) rfl ?_
    refine gj_iinc (b := ((k + 1 : Nat) : Int)) (lv' := [_, _, _]) 22 dX8_firstOrder_19 rfl rfl (by omega) (by decide) rfl ?_
    refine gj_goto 4 dX8_firstOrder_22 (by decide) ?_
    exact gj_wk (ih (k + 1) (by omega)) ⟨rfl, rfl, rfl, trivial⟩

set_option maxRecDepth 100000 in
set_option maxHeartbeats 1000000 in
theorem s8_fo {xt : Nat × (Nat → Int)} {M : gj_M} (hL : 0 ≤ M 69 5 ∧ M 69 5 ≤ 4) : gj_F xt Y8_firstOrder gS [gR 69] M (some (gI (y_fo (M 69 5).toNat))) M := by
  show gj_G _ Y8_firstOrder gS 0 0 0 [_, _, _] [] M _
  refine gj_iconst 1 dX8_firstOrder_0 rfl ?_
  refine gj_istore_n (lv' := [_, _, _]) 2 dX8_firstOrder_1 rfl (by decide) rfl ?_
  refine gj_iconst 3 dX8_firstOrder_2 rfl ?_
  refine gj_istore_n (lv' := [_, _, _]) 4 dX8_firstOrder_3 rfl (by decide) rfl ?_
  exact gj_wk (s8_fo_l hL (M 69 5).toNat 0 (by omega)) ⟨rfl, rfl, rfl, trivial⟩

set_option maxRecDepth 100000 in
set_option maxHeartbeats 1000000 in
theorem s8_ord_l {xt : Nat × (Nat → Int)} {M : gj_M} {r : Nat} (hs : gS[r]? = some (.inr (false, 40))) (hI : y_I M r) {f : Int} (hf : 0 ≤ f ∧ f < 48) : ∀ (n k : Nat), (k : Int) + n = M r 31 → gj_G xt Y8_orderAt gS 0 0 11 [some (gR 69), some (gR r), some (gI f), some (gI (y_od M r f k)), some (gI (y_lt M r f k)), some (gI (k : Int))] [] M (fun rv S2 M2 => S2 = gS ∧ rv = some (gI (y_ord M r f)) ∧ M2 = M) := by
  intro n
  induction n with
  | zero =>
    intro k hk
    have hsw := hI.2.2.1
    have hlb := y_lt_b hI f k (by omega)
    refine gj_iload 13 dX8_orderAt_11 rfl rfl ?_
    refine gj_aload_n 14 dX8_orderAt_13 rfl rfl ?_
    refine gj_bipush 16 dX8_orderAt_14 rfl (by decide) ?_
    refine gj_iald 17 dX8_orderAt_16 rfl hs (by omega) (by omega) (fun r_16 => ?_)
    refine gj_icmp_ge 66 20 dX8_orderAt_17 (by decide) rfl (by omega) (by omega) (fun c_17 => ?_) (fun c_17 => absurd c_17 (by omega))
    refine gj_iload_n 67 dX8_orderAt_66 rfl rfl ?_
    refine gj_iret dX8_orderAt_67 rfl ⟨Nat.zero_le _, Nat.zero_le _⟩ ?_
    exact ⟨rfl, by unfold y_ord; rw [show (M r 31).toNat = k by omega], rfl⟩
  | succ n ih =>
    intro k hk
    have hsw := hI.2.2.1
    have hlb := y_lt_b hI f k (by omega)
    refine gj_iload 13 dX8_orderAt_11 rfl rfl ?_
    refine gj_aload_n 14 dX8_orderAt_13 rfl rfl ?_
    refine gj_bipush 16 dX8_orderAt_14 rfl (by decide) ?_
    refine gj_iald 17 dX8_orderAt_16 rfl hs (by omega) (by omega) (fun r_16 => ?_)
    refine gj_icmp_ge 66 20 dX8_orderAt_17 (by decide) rfl (by omega) (by omega) (fun c_17 => absurd c_17 (by omega)) (fun c_17 => ?_)
    refine gj_aload_n 21 dX8_orderAt_20 rfl rfl ?_
    refine gj_bipush 23 dX8_orderAt_21 rfl (by decide) ?_
    refine gj_iload 25 dX8_orderAt_23 rfl rfl ?_
    refine gj_iadd 26 dX8_orderAt_25 rfl ?_
    refine gj_iald 27 dX8_orderAt_26 rfl hs (by omega) (by omega) (fun r_26 => ?_)
    refine gj_iload_n 28 dX8_orderAt_27 rfl rfl ?_
    refine gj_icmp_gt 60 31 dX8_orderAt_28 (by decide) rfl (by omega) (by omega) (fun c_28 => ?_) (fun c_28 => ?_)
    · refine gj_iinc (b := ((k + 1 : Nat) : Int)) (lv' := [_, _, _, _, _, _]) 63 dX8_orderAt_60 rfl rfl (by omega) (by decide) rfl ?_
      refine gj_goto 11 dX8_orderAt_63 (by decide) ?_
      have h := ih (k + 1) (by omega)
      first
      | (rw [show y_lt M r f (k + 1) = M r (32 + k) from if_pos (by omega), show y_od M r f (k + 1) = M r (36 + k) from if_pos (by omega)] at h; exact gj_wk h ⟨rfl, rfl, rfl, rfl, rfl, rfl, trivial⟩)
      | (rw [show y_lt M r f (k + 1) = y_lt M r f k from if_neg (by omega), show y_od M r f (k + 1) = y_od M r f k from if_neg (by omega)] at h; exact gj_wk h ⟨rfl, rfl, rfl, rfl, rfl, rfl, trivial⟩)
    · refine gj_aload_n 32 dX8_orderAt_31 rfl rfl ?_
      refine gj_bipush 34 dX8_orderAt_32 rfl (by decide) ?_
      refine gj_iload 36 dX8_orderAt_34 rfl rfl ?_
      refine gj_iadd 37 dX8_orderAt_36 rfl ?_
      refine gj_iald 38 dX8_orderAt_37 rfl hs (by omega) (by omega) (fun r_37 => ?_)
      refine gj_iload 40 dX8_orderAt_38 rfl rfl ?_
      refine gj_icmp_lt 60 43 dX8_orderAt_40 (by decide) rfl (by omega) (by omega) (fun c_40 => ?_) (fun c_40 => ?_)
      · refine gj_iinc (b := ((k + 1 : Nat) : Int)) (lv' := [_, _, _, _, _, _]) 63 dX8_orderAt_60 rfl rfl (by omega) (by decide) rfl ?_
        refine gj_goto 11 dX8_orderAt_63 (by decide) ?_
        have h := ih (k + 1) (by omega)
        first
        | (rw [show y_lt M r f (k + 1) = M r (32 + k) from if_pos (by omega), show y_od M r f (k + 1) = M r (36 + k) from if_pos (by omega)] at h; exact gj_wk h ⟨rfl, rfl, rfl, rfl, rfl, rfl, trivial⟩)
        | (rw [show y_lt M r f (k + 1) = y_lt M r f k from if_neg (by omega), show y_od M r f (k + 1) = y_od M r f k from if_neg (by omega)] at h; exact gj_wk h ⟨rfl, rfl, rfl, rfl, rfl, rfl, trivial⟩)
      · refine gj_aload_n 44 dX8_orderAt_43 rfl rfl ?_
        refine gj_bipush 46 dX8_orderAt_44 rfl (by decide) ?_
        refine gj_iload 48 dX8_orderAt_46 rfl rfl ?_
        refine gj_iadd 49 dX8_orderAt_48 rfl ?_
        refine gj_iald 50 dX8_orderAt_49 rfl hs (by omega) (by omega) (fun r_49 => ?_)
        refine gj_istore (lv' := [_, _, _, _, _, _]) 52 dX8_orderAt_50 rfl (by decide) rfl ?_
        refine gj_aload_n 53 dX8_orderAt_52 rfl rfl ?_
        refine gj_bipush 55 dX8_orderAt_53 rfl (by decide) ?_
        refine gj_iload 57 dX8_orderAt_55 rfl rfl ?_
        refine gj_iadd 58 dX8_orderAt_57 rfl ?_
        refine gj_iald 59 dX8_orderAt_58 rfl hs (by omega) (by omega) (fun r_58 => ?_)
        refine gj_istore_n (lv' := [_, _, _, _, _, _]) 60 dX8_orderAt_59 rfl (by decide) rfl ?_
        refine gj_iinc (b := ((k + 1 : Nat) : Int)) (lv' := [_, _, _, _, _, _]) 63 dX8_orderAt_60 rfl rfl (by omega) (by decide) rfl ?_
        refine gj_goto 11 dX8_orderAt_63 (by decide) ?_
        have h := ih (k + 1) (by omega)
        first
        | (rw [show y_lt M r f (k + 1) = M r (32 + k) from if_pos (by omega), show y_od M r f (k + 1) = M r (36 + k) from if_pos (by omega)] at h; exact gj_wk h ⟨rfl, rfl, rfl, rfl, rfl, rfl, trivial⟩)
        | (rw [show y_lt M r f (k + 1) = y_lt M r f k from if_neg (by omega), show y_od M r f (k + 1) = y_od M r f k from if_neg (by omega)] at h; exact gj_wk h ⟨rfl, rfl, rfl, rfl, rfl, rfl, trivial⟩)

set_option maxRecDepth 100000 in
set_option maxHeartbeats 1000000 in
theorem s8_ord {xt : Nat × (Nat → Int)} {M : gj_M} {r : Nat} (hs : gS[r]? = some (.inr (false, 40))) (hI : y_I M r) {f : Int} (hf : 0 ≤ f ∧ f < 48) : gj_F xt Y8_orderAt gS [gR 69, gR r, gI f] M (some (gI (y_ord M r f))) M := by
  show gj_G _ Y8_orderAt gS 0 0 0 [_, _, _, _, _, _] [] M _
  refine gj_aload_n 1 dX8_orderAt_0 rfl rfl ?_
  refine gj_fV 4 dX8_orderAt_1 rfl ok_8_firstOrder ml_8_124 iv_8_firstOrder (As := []) rfl rfl rfl rfl (Nat.le_of_ble_eq_true rfl) ⟨Nat.le_of_ble_eq_true rfl, Nat.le_of_ble_eq_true rfl⟩ (Nat.le_of_ble_eq_true rfl) ⟨rfl, rfl⟩ ⟨Nat.zero_le _, Nat.zero_le _⟩ (s8_fo hI.1) ?_
  refine gj_istore_n (lv' := [_, _, _, _, _, _]) 5 dX8_orderAt_4 rfl (by decide) rfl ?_
  refine gj_iconst 6 dX8_orderAt_5 rfl ?_
  refine gj_istore (lv' := [_, _, _, _, _, _]) 8 dX8_orderAt_6 rfl (by decide) rfl ?_
  refine gj_iconst 9 dX8_orderAt_8 rfl ?_
  refine gj_istore (lv' := [_, _, _, _, _, _]) 11 dX8_orderAt_9 rfl (by decide) rfl ?_
  exact gj_wk (s8_ord_l hs hI hf (M r 31).toNat 0 (by have := hI.2.2.1; omega)) ⟨rfl, rfl, rfl, rfl, rfl, rfl, trivial⟩

set_option maxRecDepth 100000 in
set_option maxHeartbeats 1000000 in
theorem s8_look_l {xt : Nat × (Nat → Int)} {M : gj_M} {r : Nat} (hs : gS[r]? = some (.inr (false, 40))) (hI : y_I M r) {f c sm rub : Int} (hf : 0 ≤ f ∧ f < 48) (hc : 0 ≤ c ∧ c < 10) (hr : gj_in rub) : ∀ (n k : Nat), (k : Int) + n = M 69 5 → gj_G xt Y8_lookBy gS 0 0 21 [some (gR 69), some (gR r), some (gI f), some (gI c), some (gI sm), some (gI rub), some (gI (y_ord M r f)), some (gI (c + y_wh M r 4 f)), some (gI (k : Int)), none, none, none] [] M (fun rv S2 M2 => S2 = gS ∧ rv = some (gI (p_first (y_va M r (y_ord M r f) f c sm rub) n k)) ∧ M2 = M) := by
  intro n
  induction n with
  | zero =>
    intro k hk
    have hL := hI.1
    have hD := hI.2.1
    refine gj_iload 23 dX8_lookBy_21 rfl rfl ?_
    refine gj_aload_n 24 dX8_lookBy_23 rfl rfl ?_
    refine gj_getfi 27 dX8_lookBy_24 rfl fl_8_73 rfl rfl (fun r_24 => ?_)
    refine gj_icmp_ge 142 30 dX8_lookBy_27 (by decide) rfl (by omega) (by omega) (fun c_27 => ?_) (fun c_27 => absurd c_27 (by omega))
    refine gj_bipush 144 dX8_lookBy_142 rfl (by decide) ?_
    refine gj_iret dX8_lookBy_144 rfl ⟨Nat.zero_le _, Nat.zero_le _⟩ ?_
    exact ⟨rfl, rfl, rfl⟩
  | succ n ih =>
    intro k hk
    have hL := hI.1
    have hD := hI.2.1
    refine gj_iload 23 dX8_lookBy_21 rfl rfl ?_
    refine gj_aload_n 24 dX8_lookBy_23 rfl rfl ?_
    refine gj_getfi 27 dX8_lookBy_24 rfl fl_8_73 rfl rfl (fun r_24 => ?_)
    refine gj_icmp_ge 142 30 dX8_lookBy_27 (by decide) rfl (by omega) (by omega) (fun c_27 => absurd c_27 (by omega)) (fun c_27 => ?_)
    have hod := hI.od f
    have hod1 := hod.1
    have hlb := p_li_b (L := M 69 5) (i := (k : Int)) hod.1.1
    have hlt := hod.2.1 k (by omega) (by omega)
    have hpw := e_pw_b (x := 10) (by omega) (M 69 5 - 1 - k).toNat (by omega)
    have hpw1 := (e_pw_le (x := 10) (by omega) (M 69 5 - 1 - k).toNat (by omega)).2
    have hli := p_li_pw (L := M 69 5) (o := y_ord M r f) (k := (k : Int)) (by omega) (by omega)
    have hq0 : 0 ≤ y_ord M r f / e_pw 10 (M 69 5 - 1 - k).toNat := Int.ediv_nonneg hod.1.1 (by omega)
    have hq1 : y_ord M r f / e_pw 10 (M 69 5 - 1 - k).toNat ≤ y_ord M r f := Int.ediv_le_self _ hod.1.1
    have hxb := y_ex_b hI (l := (p_li (M 69 5) (y_ord M r f) k)) (f := f) (by omega)
    have hw1 := y_wh_b hI (q := (p_li (M 69 5) (y_ord M r f) k)) (f := f) (by omega) hf
    have hw2 := y_wh_b hI (q := 4) (f := f) (by omega) hf
    have hh01 : y_has sm (p_li (M 69 5) (y_ord M r f) k) = 0 ∨ y_has sm (p_li (M 69 5) (y_ord M r f) k) = 1 := by unfold y_has; split <;> simp
    refine gj_iload 32 dX8_lookBy_30 rfl rfl ?_
    refine gj_bipush 34 dX8_lookBy_32 rfl (by decide) ?_
    refine gj_aload_n 35 dX8_lookBy_34 rfl rfl ?_
    refine gj_getfi 38 dX8_lookBy_35 rfl fl_8_73 rfl rfl (fun r_35 => ?_)
    refine gj_iconst 39 dX8_lookBy_38 rfl ?_
    refine gj_isub 40 dX8_lookBy_39 rfl ?_
    refine gj_iload 42 dX8_lookBy_40 rfl rfl ?_
    refine gj_isub 43 dX8_lookBy_42 rfl ?_
    refine gj_fS 46 dX8_lookBy_43 rfl ok_8_power ml_8_135 is_8_power (As := [gI _, gI _]) rfl rfl (Nat.le_of_ble_eq_true rfl) ⟨Nat.le_of_ble_eq_true rfl, Nat.le_of_ble_eq_true rfl⟩ (Nat.le_of_ble_eq_true rfl) ⟨rfl, rfl⟩ ⟨Nat.zero_le _, Nat.zero_le _⟩ (s8_power (by omega)) ?_
    refine gj_idiv 47 dX8_lookBy_46 rfl (by omega) (by omega) ?_
    refine gj_bipush 49 dX8_lookBy_47 rfl (by decide) ?_
    refine gj_irem 50 dX8_lookBy_49 rfl (by omega) (by omega) ?_
    refine gj_top (p_li (M 69 5) (y_ord M r f) k) hli.symm ?_
    refine gj_istore (lv' := [_, _, _, _, _, _, _, _, _, _, _, _]) 52 dX8_lookBy_50 rfl (by decide) rfl ?_
    refine gj_aload_n 53 dX8_lookBy_52 rfl rfl ?_
    refine gj_aload_n 54 dX8_lookBy_53 rfl rfl ?_
    refine gj_iload 56 dX8_lookBy_54 rfl rfl ?_
    refine gj_iload_n 57 dX8_lookBy_56 rfl rfl ?_
    refine gj_fV 60 dX8_lookBy_57 rfl ok_8_exposedOn ml_8_138 iv_8_exposedOn (As := [gR _, gI _, gI _]) rfl rfl rfl rfl (Nat.le_of_ble_eq_true rfl) ⟨Nat.le_of_ble_eq_true rfl, Nat.le_of_ble_eq_true rfl⟩ (Nat.le_of_ble_eq_true rfl) ⟨rfl, rfl⟩ ⟨Nat.zero_le _, Nat.zero_le _⟩ (s8_ex hs hI (by omega) hf) ?_
    refine gj_istore (lv' := [_, _, _, _, _, _, _, _, _, _, _, _]) 62 dX8_lookBy_60 rfl (by decide) rfl ?_
    refine gj_iload 64 dX8_lookBy_62 rfl rfl ?_
    refine gj_bipush 66 dX8_lookBy_64 rfl (by decide) ?_
    refine gj_icmp_eq 136 69 dX8_lookBy_66 (by decide) rfl (by omega) (by omega) (fun c_66 => ?_) (fun c_66 => ?_)
    · refine gj_iinc (b := ((k + 1 : Nat) : Int)) (lv' := [_, _, _, _, _, _, _, _, _, _, _, _]) 139 dX8_lookBy_136 rfl rfl (by omega) (by decide) rfl ?_
      refine gj_goto 21 dX8_lookBy_139 (by decide) ?_
      have e : y_va M r (y_ord M r f) f c sm rub k = -9 := if_neg (by first | omega | (intro q; omega))
      rw [p_first_go e]
      exact gj_wk (ih (k + 1) (by omega)) ⟨rfl, rfl, rfl, rfl, rfl, rfl, rfl, rfl, rfl, trivial⟩
    · refine gj_iload 71 dX8_lookBy_69 rfl rfl ?_
      refine gj_iload 73 dX8_lookBy_71 rfl rfl ?_
      refine gj_icmp_eq 136 76 dX8_lookBy_73 (by decide) rfl (by omega) (by omega) (fun c_73 => ?_) (fun c_73 => ?_)
      · refine gj_iinc (b := ((k + 1 : Nat) : Int)) (lv' := [_, _, _, _, _, _, _, _, _, _, _, _]) 139 dX8_lookBy_136 rfl rfl (by omega) (by decide) rfl ?_
        refine gj_goto 21 dX8_lookBy_139 (by decide) ?_
        have e : y_va M r (y_ord M r f) f c sm rub k = -9 := if_neg (by first | omega | (intro q; omega))
        rw [p_first_go e]
        exact gj_wk (ih (k + 1) (by omega)) ⟨rfl, rfl, rfl, rfl, rfl, rfl, rfl, rfl, rfl, trivial⟩
      · refine gj_iload 78 dX8_lookBy_76 rfl rfl ?_
        refine gj_iload 80 dX8_lookBy_78 rfl rfl ?_
        refine gj_fS 83 dX8_lookBy_80 rfl ok_8_has ml_8_141 is_8_has (As := [gI _, gI _]) rfl rfl (Nat.le_of_ble_eq_true rfl) ⟨Nat.le_of_ble_eq_true rfl, Nat.le_of_ble_eq_true rfl⟩ (Nat.le_of_ble_eq_true rfl) ⟨rfl, rfl⟩ ⟨Nat.zero_le _, Nat.zero_le _⟩ (s8_has) ?_
        refine gj_if_eq 136 86 dX8_lookBy_83 (by decide) rfl (by omega) (fun c_83 => ?_) (fun c_83 => ?_)
        · refine gj_iinc (b := ((k + 1 : Nat) : Int)) (lv' := [_, _, _, _, _, _, _, _, _, _, _, _]) 139 dX8_lookBy_136 rfl rfl (by omega) (by decide) rfl ?_
          refine gj_goto 21 dX8_lookBy_139 (by decide) ?_
          have e : y_va M r (y_ord M r f) f c sm rub k = -9 := if_neg (by first | omega | (intro q; omega))
          rw [p_first_go e]
          exact gj_wk (ih (k + 1) (by omega)) ⟨rfl, rfl, rfl, rfl, rfl, rfl, rfl, rfl, rfl, trivial⟩
        · have hxw := hI.2.2.2.2.2.1 (y_ex M r (p_li (M 69 5) (y_ord M r f) k) f) (by omega) (by omega)
          refine gj_aload_n 87 dX8_lookBy_86 rfl rfl ?_
          refine gj_iconst 88 dX8_lookBy_87 rfl ?_
          refine gj_iload 90 dX8_lookBy_88 rfl rfl ?_
          refine gj_iadd 91 dX8_lookBy_90 rfl ?_
          refine gj_iald 92 dX8_lookBy_91 rfl hs (by omega) (by omega) (fun r_91 => ?_)
          refine gj_aload_n 93 dX8_lookBy_92 rfl rfl ?_
          refine gj_iload 95 dX8_lookBy_93 rfl rfl ?_
          refine gj_iload_n 96 dX8_lookBy_95 rfl rfl ?_
          refine gj_fS 99 dX8_lookBy_96 rfl ok_8_whereIs ml_8_131 is_8_whereIs (As := [gR _, gI _, gI _]) rfl rfl (Nat.le_of_ble_eq_true rfl) ⟨Nat.le_of_ble_eq_true rfl, Nat.le_of_ble_eq_true rfl⟩ (Nat.le_of_ble_eq_true rfl) ⟨rfl, rfl⟩ ⟨Nat.zero_le _, Nat.zero_le _⟩ (s8_wh hs hI (by omega) hf) ?_
          refine gj_iadd 100 dX8_lookBy_99 rfl ?_
          refine gj_istore (lv' := [_, _, _, _, _, _, _, _, _, _, _, _]) 102 dX8_lookBy_100 rfl (by decide) rfl ?_
          refine gj_iload 104 dX8_lookBy_102 rfl rfl ?_
          refine gj_i2l 105 dX8_lookBy_104 rfl (by omega) ?_
          refine gj_iload 107 dX8_lookBy_105 rfl rfl ?_
          refine gj_i2l 108 dX8_lookBy_107 rfl (by omega) ?_
          refine gj_iload 110 dX8_lookBy_108 rfl rfl ?_
          refine gj_aload_n 111 dX8_lookBy_110 rfl rfl ?_
          refine gj_bipush 113 dX8_lookBy_111 rfl (by decide) ?_
          refine gj_iload 115 dX8_lookBy_113 rfl rfl ?_
          refine gj_iadd 116 dX8_lookBy_115 rfl ?_
          refine gj_iald 117 dX8_lookBy_116 rfl hs (by omega) (by omega) (fun r_116 => ?_)
          refine gj_iadd 118 dX8_lookBy_117 rfl ?_
          refine gj_iconst 119 dX8_lookBy_118 rfl ?_
          refine gj_isub 120 dX8_lookBy_119 rfl ?_
          refine gj_i2l 121 dX8_lookBy_120 rfl (by omega) ?_
          refine gj_fS 124 dX8_lookBy_121 rfl ok_8_in ml_8_76 is_8_in (As := [gL _, gL _, gL _]) rfl rfl (Nat.le_of_ble_eq_true rfl) ⟨Nat.le_of_ble_eq_true rfl, Nat.le_of_ble_eq_true rfl⟩ (Nat.le_of_ble_eq_true rfl) ⟨rfl, rfl⟩ ⟨Nat.zero_le _, Nat.zero_le _⟩ (s8_in (by omega) (by omega) (by omega)) ?_
          have hc := y_in_c (c + y_wh M r 4 f) (M r (0 + (y_ex M r (p_li (M 69 5) (y_ord M r f) k) f)) + y_wh M r (p_li (M 69 5) (y_ord M r f) k) f) ((M r (0 + (y_ex M r (p_li (M 69 5) (y_ord M r f) k) f)) + y_wh M r (p_li (M 69 5) (y_ord M r f) k) f) + M r (6 + (y_ex M r (p_li (M 69 5) (y_ord M r f) k) f)) - 1)
          refine gj_if_eq 136 127 dX8_lookBy_124 (by decide) rfl (by omega) (fun c_124 => ?_) (fun c_124 => ?_)
          · refine gj_iinc (b := ((k + 1 : Nat) : Int)) (lv' := [_, _, _, _, _, _, _, _, _, _, _, _]) 139 dX8_lookBy_136 rfl rfl (by omega) (by decide) rfl ?_
            refine gj_goto 21 dX8_lookBy_139 (by decide) ?_
            have e : y_va M r (y_ord M r f) f c sm rub k = -9 := if_neg (by first | omega | (intro q; omega))
            rw [p_first_go e]
            exact gj_wk (ih (k + 1) (by omega)) ⟨rfl, rfl, rfl, rfl, rfl, rfl, rfl, rfl, rfl, trivial⟩
          · refine gj_bipush 129 dX8_lookBy_127 rfl (by decide) ?_
            refine gj_iload 131 dX8_lookBy_129 rfl rfl ?_
            refine gj_imul 132 dX8_lookBy_131 rfl ?_
            refine gj_iload 134 dX8_lookBy_132 rfl rfl ?_
            refine gj_iadd 135 dX8_lookBy_134 rfl ?_
            refine gj_iret dX8_lookBy_135 rfl ⟨Nat.zero_le _, Nat.zero_le _⟩ ?_
            have e : y_va M r (y_ord M r f) f c sm rub k = 10 * (p_li (M 69 5) (y_ord M r f) k) + (y_ex M r (p_li (M 69 5) (y_ord M r f) k) f) := if_pos (by omega)
            exact ⟨rfl, by rw [p_first_stop (by rw [e]; omega), e], rfl⟩

set_option maxRecDepth 100000 in
set_option maxHeartbeats 1000000 in
theorem s8_look {xt : Nat × (Nat → Int)} {M : gj_M} {r : Nat} (hs : gS[r]? = some (.inr (false, 40))) (hI : y_I M r) {f c sm rub : Int} (hf : 0 ≤ f ∧ f < 48) (hc : 0 ≤ c ∧ c < 10) (hr : gj_in rub) : gj_F xt Y8_lookBy gS [gR 69, gR r, gI f, gI c, gI sm, gI rub] M (some (gI (y_look M r f c sm rub))) M := by
  show gj_G _ Y8_lookBy gS 0 0 0 [_, _, _, _, _, _, _, _, _, _, _, _] [] M _
  refine gj_aload_n 1 dX8_lookBy_0 rfl rfl ?_
  refine gj_aload_n 2 dX8_lookBy_1 rfl rfl ?_
  refine gj_iload_n 3 dX8_lookBy_2 rfl rfl ?_
  refine gj_fV 6 dX8_lookBy_3 rfl ok_8_orderAt ml_8_127 iv_8_orderAt (As := [gR _, gI _]) rfl rfl rfl rfl (Nat.le_of_ble_eq_true rfl) ⟨Nat.le_of_ble_eq_true rfl, Nat.le_of_ble_eq_true rfl⟩ (Nat.le_of_ble_eq_true rfl) ⟨rfl, rfl⟩ ⟨Nat.zero_le _, Nat.zero_le _⟩ (s8_ord hs hI hf) ?_
  refine gj_istore (lv' := [_, _, _, _, _, _, _, _, _, _, _, _]) 8 dX8_lookBy_6 rfl (by decide) rfl ?_
  refine gj_iload_n 9 dX8_lookBy_8 rfl rfl ?_
  refine gj_aload_n 10 dX8_lookBy_9 rfl rfl ?_
  refine gj_iconst 11 dX8_lookBy_10 rfl ?_
  refine gj_iload_n 12 dX8_lookBy_11 rfl rfl ?_
  refine gj_fS 15 dX8_lookBy_12 rfl ok_8_whereIs ml_8_131 is_8_whereIs (As := [gR _, gI _, gI _]) rfl rfl (Nat.le_of_ble_eq_true rfl) ⟨Nat.le_of_ble_eq_true rfl, Nat.le_of_ble_eq_true rfl⟩ (Nat.le_of_ble_eq_true rfl) ⟨rfl, rfl⟩ ⟨Nat.zero_le _, Nat.zero_le _⟩ (s8_wh hs hI (by omega) hf) ?_
  refine gj_iadd 16 dX8_lookBy_15 rfl ?_
  refine gj_istore (lv' := [_, _, _, _, _, _, _, _, _, _, _, _]) 18 dX8_lookBy_16 rfl (by decide) rfl ?_
  refine gj_iconst 19 dX8_lookBy_18 rfl ?_
  refine gj_istore (lv' := [_, _, _, _, _, _, _, _, _, _, _, _]) 21 dX8_lookBy_19 rfl (by decide) rfl ?_
  exact gj_wk (s8_look_l hs hI hf hc hr (M 69 5).toNat 0 (by have := hI.1; omega)) ⟨rfl, rfl, rfl, rfl, rfl, rfl, rfl, rfl, rfl, trivial⟩

set_option maxRecDepth 100000 in
set_option maxHeartbeats 1000000 in
theorem s8_every {xt : Nat × (Nat → Int)} {M : gj_M}  : gj_F xt Y8_every gS [gR 69] M (some (gI (y_all (M 69 5)))) M := by
  show gj_G _ Y8_every gS 0 0 0 [_] [] M _
  refine gj_iconst 1 dX8_every_0 rfl ?_
  refine gj_aload_n 2 dX8_every_1 rfl rfl ?_
  refine gj_getfi 5 dX8_every_2 rfl fl_8_73 rfl rfl (fun r_2 => ?_)
  refine gj_ishl 6 dX8_every_5 rfl ?_
  refine gj_iconst 7 dX8_every_6 rfl ?_
  refine gj_isub 8 dX8_every_7 rfl ?_
  refine gj_iret dX8_every_8 rfl ⟨Nat.zero_le _, Nat.zero_le _⟩ ?_
  exact ⟨rfl, rfl, rfl⟩
