set_option maxRecDepth 100000 in
set_option maxHeartbeats 1000000 in
theorem s8_mo_i {xt : Nat × (Nat → Int)} {M : gj_M} {r : Nat} (hs : gS[r]? = some (.inr (false, 40))) (hI : y_I M r) {d : Int} (hd : gj_in d) {Q : Option gj_V → List gj_H → gj_M → Prop} (f : Nat) (hf : f < 48) (kk : gj_G xt Y8_mostOf gS 0 0 56 [some (gR 69), some (gR r), some (gI d), some (gI (p_mo (y_ex M r) (M 69 5).toNat d f)), some (gI (f : Int)), some (gI (p_sum (fun l : Nat => if y_ex M r l f = d then (1 : Int) else 0) (M 69 5).toNat)), some (gI (((M 69 5).toNat : Nat) : Int))] [] M Q) : ∀ (n k : Nat), (k : Int) + n = M 69 5 → gj_G xt Y8_mostOf gS 0 0 18 [some (gR 69), some (gR r), some (gI d), some (gI (p_mo (y_ex M r) (M 69 5).toNat d f)), some (gI (f : Int)), some (gI (p_sum (fun l : Nat => if y_ex M r l f = d then (1 : Int) else 0) k)), some (gI ((k : Nat) : Int))] [] M Q := by
  intro n
  induction n with
  | zero =>
    intro k hk
    have hL := hI.1
    have hD := hI.2.1
    refine gj_iload 20 dX8_mostOf_18 rfl rfl ?_
    refine gj_aload_n 21 dX8_mostOf_20 rfl rfl ?_
    refine gj_getfi 24 dX8_mostOf_21 rfl fl_8_73 rfl rfl (fun r_21 => ?_)
    refine gj_icmp_ge 56 27 dX8_mostOf_24 (by decide) rfl (by omega) (by omega) (fun c_24 => ?_) (fun c_24 => absurd c_24 (by omega))
    have hk3 : k = (M 69 5).toNat := by omega
    subst hk3
    exact kk
  | succ n ih =>
    intro k hk
    have hL := hI.1
    have hD := hI.2.1
    refine gj_iload 20 dX8_mostOf_18 rfl rfl ?_
    refine gj_aload_n 21 dX8_mostOf_20 rfl rfl ?_
    refine gj_getfi 24 dX8_mostOf_21 rfl fl_8_73 rfl rfl (fun r_21 => ?_)
    refine gj_icmp_ge 56 27 dX8_mostOf_24 (by decide) rfl (by omega) (by omega) (fun c_24 => absurd c_24 (by omega)) (fun c_24 => ?_)
    refine gj_iload 29 dX8_mostOf_27 rfl rfl ?_
    refine gj_aload_n 30 dX8_mostOf_29 rfl rfl ?_
    refine gj_aload_n 31 dX8_mostOf_30 rfl rfl ?_
    refine gj_iload 33 dX8_mostOf_31 rfl rfl ?_
    refine gj_iload 35 dX8_mostOf_33 rfl rfl ?_
    refine gj_fV 38 dX8_mostOf_35 rfl ok_8_exposedOn ml_8_138 iv_8_exposedOn (As := [gR _, gI _, gI _]) rfl rfl rfl rfl (Nat.le_of_ble_eq_true rfl) ⟨Nat.le_of_ble_eq_true rfl, Nat.le_of_ble_eq_true rfl⟩ (Nat.le_of_ble_eq_true rfl) ⟨rfl, rfl⟩ ⟨Nat.zero_le _, Nat.zero_le _⟩ (s8_ex hs hI (by omega) (by omega)) ?_
    have hxb := y_ex_b hI (l := (k : Int)) (f := (f : Int)) (by omega)
    refine gj_iload_n 39 dX8_mostOf_38 rfl rfl ?_
    refine gj_icmp_ne 46 42 dX8_mostOf_39 (by decide) rfl (by omega) (by omega) (fun c_39 => ?_) (fun c_39 => ?_)
    · refine gj_iconst 47 dX8_mostOf_46 rfl ?_
      refine gj_iadd 48 dX8_mostOf_47 rfl ?_
      refine gj_istore (lv' := [_, _, _, _, _, _, _]) 50 dX8_mostOf_48 rfl (by decide) rfl ?_
      refine gj_iinc (b := ((k + 1 : Nat) : Int)) (lv' := [_, _, _, _, _, _, _]) 53 dX8_mostOf_50 rfl rfl (by omega) (by decide) rfl ?_
      refine gj_goto 18 dX8_mostOf_53 (by decide) ?_
      have h := ih (k + 1) (by omega)
      first
      | (rw [show p_sum (fun l : Nat => if y_ex M r l f = d then (1 : Int) else 0) (k + 1) = p_sum (fun l : Nat => if y_ex M r l f = d then (1 : Int) else 0) k + 1 by show p_sum (fun l : Nat => if y_ex M r l f = d then (1 : Int) else 0) k + (if y_ex M r k f = d then (1 : Int) else 0) = _; rw [if_pos (by omega)]] at h; exact gj_wk h ⟨rfl, rfl, rfl, rfl, rfl, rfl, rfl, trivial⟩)
      | (rw [show p_sum (fun l : Nat => if y_ex M r l f = d then (1 : Int) else 0) (k + 1) = p_sum (fun l : Nat => if y_ex M r l f = d then (1 : Int) else 0) k + 0 by show p_sum (fun l : Nat => if y_ex M r l f = d then (1 : Int) else 0) k + (if y_ex M r k f = d then (1 : Int) else 0) = _; rw [if_neg (by omega)]] at h; exact gj_wk h ⟨rfl, rfl, rfl, rfl, rfl, rfl, rfl, trivial⟩)
    · refine gj_iconst 43 dX8_mostOf_42 rfl ?_
      refine gj_goto 47 dX8_mostOf_43 (by decide) ?_
      refine gj_iadd 48 dX8_mostOf_47 rfl ?_
      refine gj_istore (lv' := [_, _, _, _, _, _, _]) 50 dX8_mostOf_48 rfl (by decide) rfl ?_
      refine gj_iinc (b := ((k + 1 : Nat) : Int)) (lv' := [_, _, _, _, _, _, _]) 53 dX8_mostOf_50 rfl rfl (by omega) (by decide) rfl ?_
      refine gj_goto 18 dX8_mostOf_53 (by decide) ?_
      have h := ih (k + 1) (by omega)
      first
      | (rw [show p_sum (fun l : Nat => if y_ex M r l f = d then (1 : Int) else 0) (k + 1) = p_sum (fun l : Nat => if y_ex M r l f = d then (1 : Int) else 0) k + 1 by show p_sum (fun l : Nat => if y_ex M r l f = d then (1 : Int) else 0) k + (if y_ex M r k f = d then (1 : Int) else 0) = _; rw [if_pos (by omega)]] at h; exact gj_wk h ⟨rfl, rfl, rfl, rfl, rfl, rfl, rfl, trivial⟩)
      | (rw [show p_sum (fun l : Nat => if y_ex M r l f = d then (1 : Int) else 0) (k + 1) = p_sum (fun l : Nat => if y_ex M r l f = d then (1 : Int) else 0) k + 0 by show p_sum (fun l : Nat => if y_ex M r l f = d then (1 : Int) else 0) k + (if y_ex M r k f = d then (1 : Int) else 0) = _; rw [if_neg (by omega)]] at h; exact gj_wk h ⟨rfl, rfl, rfl, rfl, rfl, rfl, rfl, trivial⟩)

set_option maxRecDepth 100000 in
set_option maxHeartbeats 1000000 in
theorem s8_mo_o {xt : Nat × (Nat → Int)} {M : gj_M} {r : Nat} (hs : gS[r]? = some (.inr (false, 40))) (hI : y_I M r) {d : Int} (hd : gj_in d) : ∀ (n k : Nat), k + n = 48 → gj_G xt Y8_mostOf gS 0 0 5 [some (gR 69), some (gR r), some (gI d), some (gI (p_mo (y_ex M r) (M 69 5).toNat d k)), some (gI (k : Int)), none, none] [] M (fun rv S2 M2 => S2 = gS ∧ rv = some (gI (y_mo M r d)) ∧ M2 = M) := by
  intro n
  induction n with
  | zero =>
    intro k hk
    have hL := hI.1
    refine gj_iload 7 dX8_mostOf_5 rfl rfl ?_
    refine gj_bipush 9 dX8_mostOf_7 rfl (by decide) ?_
    refine gj_icmp_ge 75 12 dX8_mostOf_9 (by decide) rfl (by omega) (by omega) (fun c_9 => ?_) (fun c_9 => absurd c_9 (by omega))
    refine gj_iload_n 76 dX8_mostOf_75 rfl rfl ?_
    refine gj_iret dX8_mostOf_76 rfl ⟨Nat.zero_le _, Nat.zero_le _⟩ ?_
    have hk3 : k = 48 := by omega
    subst hk3
    exact ⟨rfl, rfl, rfl⟩
  | succ n ih =>
    intro k hk
    have hL := hI.1
    refine gj_iload 7 dX8_mostOf_5 rfl rfl ?_
    refine gj_bipush 9 dX8_mostOf_7 rfl (by decide) ?_
    refine gj_icmp_ge 75 12 dX8_mostOf_9 (by decide) rfl (by omega) (by omega) (fun c_9 => absurd c_9 (by omega)) (fun c_9 => ?_)
    refine gj_iconst 13 dX8_mostOf_12 rfl ?_
    refine gj_istore (lv' := [_, _, _, _, _, _, _]) 15 dX8_mostOf_13 rfl (by decide) rfl ?_
    refine gj_iconst 16 dX8_mostOf_15 rfl ?_
    refine gj_istore (lv' := [_, _, _, _, _, _, _]) 18 dX8_mostOf_16 rfl (by decide) rfl ?_
    have hcb0 := p_cn_b (y_ex M r) (M 69 5).toNat d k
    have hmb := p_mo_b (y_ex M r) (M 69 5).toNat d k
    have ecn : p_sum (fun l : Nat => if y_ex M r l k = d then (1 : Int) else 0) (M 69 5).toNat = p_cn (y_ex M r) (M 69 5).toNat d k := rfl
    refine gj_wk (s8_mo_i hs hI hd k (by omega) ?_ (M 69 5).toNat 0 (by omega)) ⟨rfl, rfl, rfl, rfl, rfl, rfl, rfl, trivial⟩
    rw [ecn]
    refine gj_iload 58 dX8_mostOf_56 rfl rfl ?_
    refine gj_iload_n 59 dX8_mostOf_58 rfl rfl ?_
    refine gj_icmp_le 67 62 dX8_mostOf_59 (by decide) rfl (by omega) (by omega) (fun c_59 => ?_) (fun c_59 => ?_)
    · refine gj_iload_n 68 dX8_mostOf_67 rfl rfl ?_
      refine gj_istore_n (lv' := [_, _, _, _, _, _, _]) 69 dX8_mostOf_68 rfl (by decide) rfl ?_
      refine gj_iinc (b := ((k + 1 : Nat) : Int)) (lv' := [_, _, _, _, _, _, _]) 72 dX8_mostOf_69 rfl rfl (by omega) (by decide) rfl ?_
      refine gj_goto 5 dX8_mostOf_72 (by decide) ?_
      have h := ih (k + 1) (by omega)
      have hcb := p_cn_b (y_ex M r) (M 69 5).toNat d k
      first
      | (rw [show p_mo (y_ex M r) (M 69 5).toNat d (k + 1) = p_cn (y_ex M r) (M 69 5).toNat d k by show max _ _ = _; omega] at h; exact gj_wk h ⟨rfl, rfl, rfl, rfl, rfl, trivial⟩)
      | (rw [show p_mo (y_ex M r) (M 69 5).toNat d (k + 1) = p_mo (y_ex M r) (M 69 5).toNat d k by show max _ _ = _; omega] at h; exact gj_wk h ⟨rfl, rfl, rfl, rfl, rfl, trivial⟩)
    · refine gj_iload 64 dX8_mostOf_62 rfl rfl ?_
      refine gj_goto 68 dX8_mostOf_64 (by decide) ?_
      refine gj_istore_n (lv' := [_, _, _, _, _, _, _]) 69 dX8_mostOf_68 rfl (by decide) rfl ?_
      refine gj_iinc (b := ((k + 1 : Nat) : Int)) (lv' := [_, _, _, _, _, _, _]) 72 dX8_mostOf_69 rfl rfl (by omega) (by decide) rfl ?_
      refine gj_goto 5 dX8_mostOf_72 (by decide) ?_
      have h := ih (k + 1) (by omega)
      have hcb := p_cn_b (y_ex M r) (M 69 5).toNat d k
      first
      | (rw [show p_mo (y_ex M r) (M 69 5).toNat d (k + 1) = p_cn (y_ex M r) (M 69 5).toNat d k by show max _ _ = _; omega] at h; exact gj_wk h ⟨rfl, rfl, rfl, rfl, rfl, trivial⟩)
      | (rw [show p_mo (y_ex M r) (M 69 5).toNat d (k + 1) = p_mo (y_ex M r) (M 69 5).toNat d k by show max _ _ = _; omega] at h; exact gj_wk h ⟨rfl, rfl, rfl, rfl, rfl, trivial⟩)

set_option maxRecDepth 100000 in
set_option maxHeartbeats 1000000 in
theorem s8_mo {xt : Nat × (Nat → Int)} {M : gj_M} {r : Nat} (hs : gS[r]? = some (.inr (false, 40))) (hI : y_I M r) {d : Int} (hd : gj_in d) : gj_F xt Y8_mostOf gS [gR 69, gR r, gI d] M (some (gI (y_mo M r d))) M := by
  show gj_G _ Y8_mostOf gS 0 0 0 [_, _, _, _, _, _, _] [] M _
  refine gj_iconst 1 dX8_mostOf_0 rfl ?_
  refine gj_istore_n (lv' := [_, _, _, _, _, _, _]) 2 dX8_mostOf_1 rfl (by decide) rfl ?_
  refine gj_iconst 3 dX8_mostOf_2 rfl ?_
  refine gj_istore (lv' := [_, _, _, _, _, _, _]) 5 dX8_mostOf_3 rfl (by decide) rfl ?_
  exact gj_wk (s8_mo_o hs hI hd 48 0 rfl) ⟨rfl, rfl, rfl, rfl, rfl, trivial⟩

set_option maxRecDepth 100000 in
set_option maxHeartbeats 1000000 in
theorem s8_cels_l {xt : Nat × (Nat → Int)} {M : gj_M} {r : Nat} (hs : gS[r]? = some (.inr (false, 40))) (hI : y_I M r)  : ∀ (n k : Nat), (k : Int) + n = M 69 4 → gj_G xt Y8_cels gS 0 0 4 [some (gR 69), some (gR r), some (gI (p_sum (fun d : Nat => y_mo M r d) k)), some (gI (k : Int))] [] M (fun rv S2 M2 => S2 = gS ∧ rv = some (gI (y_cels M r)) ∧ M2 = M) := by
  intro n
  induction n with
  | zero =>
    intro k hk
    have hD := hI.2.1
    refine gj_iload_n 5 dX8_cels_4 rfl rfl ?_
    refine gj_aload_n 6 dX8_cels_5 rfl rfl ?_
    refine gj_getfi 9 dX8_cels_6 rfl fl_8_80 rfl rfl (fun r_6 => ?_)
    refine gj_icmp_ge 27 12 dX8_cels_9 (by decide) rfl (by omega) (by omega) (fun c_9 => ?_) (fun c_9 => absurd c_9 (by omega))
    refine gj_iload_n 28 dX8_cels_27 rfl rfl ?_
    refine gj_iret dX8_cels_28 rfl ⟨Nat.zero_le _, Nat.zero_le _⟩ ?_
    have hk3 : k = (M 69 4).toNat := by omega
    subst hk3
    exact ⟨rfl, rfl, rfl⟩
  | succ n ih =>
    intro k hk
    have hD := hI.2.1
    refine gj_iload_n 5 dX8_cels_4 rfl rfl ?_
    refine gj_aload_n 6 dX8_cels_5 rfl rfl ?_
    refine gj_getfi 9 dX8_cels_6 rfl fl_8_80 rfl rfl (fun r_6 => ?_)
    refine gj_icmp_ge 27 12 dX8_cels_9 (by decide) rfl (by omega) (by omega) (fun c_9 => absurd c_9 (by omega)) (fun c_9 => ?_)
    refine gj_iload_n 13 dX8_cels_12 rfl rfl ?_
    refine gj_aload_n 14 dX8_cels_13 rfl rfl ?_
    refine gj_aload_n 15 dX8_cels_14 rfl rfl ?_
    refine gj_iload_n 16 dX8_cels_15 rfl rfl ?_
    refine gj_fV 19 dX8_cels_16 rfl ok_8_mostOf ml_8_144 iv_8_mostOf (As := [gR _, gI _]) rfl rfl rfl rfl (Nat.le_of_ble_eq_true rfl) ⟨Nat.le_of_ble_eq_true rfl, Nat.le_of_ble_eq_true rfl⟩ (Nat.le_of_ble_eq_true rfl) ⟨rfl, rfl⟩ ⟨Nat.zero_le _, Nat.zero_le _⟩ (s8_mo hs hI (by omega)) ?_
    refine gj_iadd 20 dX8_cels_19 rfl ?_
    refine gj_istore_n (lv' := [_, _, _, _]) 21 dX8_cels_20 rfl (by decide) rfl ?_
    refine gj_iinc (b := ((k + 1 : Nat) : Int)) (lv' := [_, _, _, _]) 24 dX8_cels_21 rfl rfl (by omega) (by decide) rfl ?_
    refine gj_goto 4 dX8_cels_24 (by decide) ?_
    exact gj_wk (ih (k + 1) (by omega)) ⟨rfl, rfl, rfl, rfl, trivial⟩

set_option maxRecDepth 100000 in
set_option maxHeartbeats 1000000 in
theorem s8_cels {xt : Nat × (Nat → Int)} {M : gj_M} {r : Nat} (hs : gS[r]? = some (.inr (false, 40))) (hI : y_I M r)  : gj_F xt Y8_cels gS [gR 69, gR r] M (some (gI (y_cels M r))) M := by
  show gj_G _ Y8_cels gS 0 0 0 [_, _, _, _] [] M _
  refine gj_iconst 1 dX8_cels_0 rfl ?_
  refine gj_istore_n (lv' := [_, _, _, _]) 2 dX8_cels_1 rfl (by decide) rfl ?_
  refine gj_iconst 3 dX8_cels_2 rfl ?_
  refine gj_istore_n (lv' := [_, _, _, _]) 4 dX8_cels_3 rfl (by decide) rfl ?_
  exact gj_wk (s8_cels_l hs hI (M 69 4).toNat 0 (by have := hI.2.1; omega)) ⟨rfl, rfl, rfl, rfl, trivial⟩

theorem y_look_b {M : gj_M} {r : Nat} (hI : y_I M r) (f c sm rub : Int) : y_look M r f c sm rub = -9 ∨ (0 ≤ y_look M r f c sm rub ∧ y_look M r f c sm rub ≤ 35) := by
  have hod := hI.od f
  have hL := hI.1
  have hD := hI.2.1
  have key : ∀ (n i : Nat), (i : Int) + n = M 69 5 → p_first (y_va M r (y_ord M r f) f c sm rub) n i = -9 ∨ (0 ≤ p_first (y_va M r (y_ord M r f) f c sm rub) n i ∧ p_first (y_va M r (y_ord M r f) f c sm rub) n i ≤ 35) := by
    intro n
    induction n with
    | zero => intro i _; exact Or.inl rfl
    | succ n ih =>
      intro i hi
      simp only [p_first]
      split
      · exact ih (i + 1) (by omega)
      · have h1 := hod.2.1 i (by omega) (by omega)
        have h2 := p_li_b (L := M 69 5) (i := (i : Int)) hod.1.1
        have h3 := y_ex_b hI (l := p_li (M 69 5) (y_ord M r f) i) (f := f) (by omega)
        unfold y_va
        split
        · next hh => right; have := hh.1.1; omega
        · exact Or.inl rfl
  exact key (M 69 5).toNat 0 (by omega)

set_option maxRecDepth 100000 in
set_option maxHeartbeats 1000000 in
theorem s8_chg_i {xt : Nat × (Nat → Int)} {M : gj_M} (hI : y_I M 78) {Q : Option gj_V → List gj_H → gj_M → Prop} (f : Nat) (hf : f < 47) (kk : gj_G xt Y8_changes gS 0 0 77 [some (gR 69), some (gI (y_chg M f)), some (gI ((f : Int) + 1)), some (gI (p_df (fun c : Nat => y_look M 78 ((f : Int) + 1) c (y_all (M 69 5)) (-9)) (fun c : Nat => y_look M 78 ((f : Int)) c (y_all (M 69 5)) (-9)) 10)), some (gI ((10 : Nat) : Int))] [] M Q) : ∀ (n k : Nat), k + n = 10 → gj_G xt Y8_changes gS 0 0 15 [some (gR 69), some (gI (y_chg M f)), some (gI ((f : Int) + 1)), some (gI (p_df (fun c : Nat => y_look M 78 ((f : Int) + 1) c (y_all (M 69 5)) (-9)) (fun c : Nat => y_look M 78 ((f : Int)) c (y_all (M 69 5)) (-9)) k)), some (gI ((k : Nat) : Int))] [] M Q := by
  intro n
  induction n with
  | zero =>
    intro k hk
    have hdf := p_df_01 (fun c : Nat => y_look M 78 ((f : Int) + 1) c (y_all (M 69 5)) (-9)) (fun c : Nat => y_look M 78 ((f : Int)) c (y_all (M 69 5)) (-9)) k
    have hb1 := y_look_b hI ((f : Int) + 1) k (y_all (M 69 5)) (-9)
    have hb2 := y_look_b hI (f : Int) k (y_all (M 69 5)) (-9)
    refine gj_iload 17 dX8_changes_15 rfl rfl ?_
    refine gj_bipush 19 dX8_changes_17 rfl (by decide) ?_
    refine gj_icmp_ge 77 22 dX8_changes_19 (by decide) rfl (by omega) (by omega) (fun c_19 => ?_) (fun c_19 => absurd c_19 (by omega))
    have hk3 : k = 10 := by omega
    subst hk3
    exact kk
  | succ n ih =>
    intro k hk
    have hdf := p_df_01 (fun c : Nat => y_look M 78 ((f : Int) + 1) c (y_all (M 69 5)) (-9)) (fun c : Nat => y_look M 78 ((f : Int)) c (y_all (M 69 5)) (-9)) k
    have hb1 := y_look_b hI ((f : Int) + 1) k (y_all (M 69 5)) (-9)
    have hb2 := y_look_b hI (f : Int) k (y_all (M 69 5)) (-9)
    refine gj_iload 17 dX8_changes_15 rfl rfl ?_
    refine gj_bipush 19 dX8_changes_17 rfl (by decide) ?_
    refine gj_icmp_ge 77 22 dX8_changes_19 (by decide) rfl (by omega) (by omega) (fun c_19 => absurd c_19 (by omega)) (fun c_19 => ?_)
    refine gj_iload_n 23 dX8_changes_22 rfl rfl ?_
    refine gj_if_ne 65 26 dX8_changes_23 (by decide) rfl (by omega) (fun c_23 => ?_) (fun c_23 => ?_)
    · refine gj_iconst 66 dX8_changes_65 rfl ?_
      refine gj_goto 70 dX8_changes_66 (by decide) ?_
      refine gj_istore_n (lv' := [_, _, _, _, _]) 71 dX8_changes_70 rfl (by decide) rfl ?_
      refine gj_iinc (b := ((k + 1 : Nat) : Int)) (lv' := [_, _, _, _, _]) 74 dX8_changes_71 rfl rfl (by omega) (by decide) rfl ?_
      refine gj_goto 15 dX8_changes_74 (by decide) ?_
      have h := ih (k + 1) (by omega)
      first
      | (rw [show p_df (fun c : Nat => y_look M 78 ((f : Int) + 1) c (y_all (M 69 5)) (-9)) (fun c : Nat => y_look M 78 ((f : Int)) c (y_all (M 69 5)) (-9)) (k + 1) = 1 from if_pos (by first | (left; omega) | (right; show y_look M 78 ((f : Int) + 1) k (y_all (M 69 5)) (-9) ≠ y_look M 78 (f : Int) k (y_all (M 69 5)) (-9); omega))] at h; exact gj_wk h ⟨rfl, rfl, rfl, rfl, rfl, trivial⟩)
      | (rw [show p_df (fun c : Nat => y_look M 78 ((f : Int) + 1) c (y_all (M 69 5)) (-9)) (fun c : Nat => y_look M 78 ((f : Int)) c (y_all (M 69 5)) (-9)) (k + 1) = 0 from if_neg (by show ¬ (p_df (fun c : Nat => y_look M 78 ((f : Int) + 1) c (y_all (M 69 5)) (-9)) (fun c : Nat => y_look M 78 ((f : Int)) c (y_all (M 69 5)) (-9)) k ≠ 0 ∨ y_look M 78 ((f : Int) + 1) k (y_all (M 69 5)) (-9) ≠ y_look M 78 (f : Int) k (y_all (M 69 5)) (-9)); omega)] at h; exact gj_wk h ⟨rfl, rfl, rfl, rfl, rfl, trivial⟩)
    · refine gj_aload_n 27 dX8_changes_26 rfl rfl ?_
      refine gj_aload_n 28 dX8_changes_27 rfl rfl ?_
      refine gj_getfr 31 dX8_changes_28 rfl fl_8_35 rfl rfl ?_
      refine gj_iload_n 32 dX8_changes_31 rfl rfl ?_
      refine gj_iload 34 dX8_changes_32 rfl rfl ?_
      refine gj_aload_n 35 dX8_changes_34 rfl rfl ?_
      refine gj_fV 38 dX8_changes_35 rfl ok_8_every ml_8_147 iv_8_every (As := []) rfl rfl rfl rfl (Nat.le_of_ble_eq_true rfl) ⟨Nat.le_of_ble_eq_true rfl, Nat.le_of_ble_eq_true rfl⟩ (Nat.le_of_ble_eq_true rfl) ⟨rfl, rfl⟩ ⟨Nat.zero_le _, Nat.zero_le _⟩ (s8_every) ?_
      refine gj_bipush 40 dX8_changes_38 rfl (by decide) ?_
      refine gj_fV 43 dX8_changes_40 rfl ok_8_lookBy ml_8_150 iv_8_lookBy (As := [gR _, gI _, gI _, gI _, gI _]) rfl rfl rfl rfl (Nat.le_of_ble_eq_true rfl) ⟨Nat.le_of_ble_eq_true rfl, Nat.le_of_ble_eq_true rfl⟩ (Nat.le_of_ble_eq_true rfl) ⟨rfl, rfl⟩ ⟨Nat.zero_le _, Nat.zero_le _⟩ (s8_look rfl hI (by omega) (by omega) (by omega)) ?_
      refine gj_aload_n 44 dX8_changes_43 rfl rfl ?_
      refine gj_aload_n 45 dX8_changes_44 rfl rfl ?_
      refine gj_getfr 48 dX8_changes_45 rfl fl_8_35 rfl rfl ?_
      refine gj_iload_n 49 dX8_changes_48 rfl rfl ?_
      refine gj_iconst 50 dX8_changes_49 rfl ?_
      refine gj_isub 51 dX8_changes_50 rfl ?_
      refine gj_top (f : Int) (by omega) ?_
      refine gj_iload 53 dX8_changes_51 rfl rfl ?_
      refine gj_aload_n 54 dX8_changes_53 rfl rfl ?_
      refine gj_fV 57 dX8_changes_54 rfl ok_8_every ml_8_147 iv_8_every (As := []) rfl rfl rfl rfl (Nat.le_of_ble_eq_true rfl) ⟨Nat.le_of_ble_eq_true rfl, Nat.le_of_ble_eq_true rfl⟩ (Nat.le_of_ble_eq_true rfl) ⟨rfl, rfl⟩ ⟨Nat.zero_le _, Nat.zero_le _⟩ (s8_every) ?_
      refine gj_bipush 59 dX8_changes_57 rfl (by decide) ?_
      refine gj_fV 62 dX8_changes_59 rfl ok_8_lookBy ml_8_150 iv_8_lookBy (As := [gR _, gI _, gI _, gI _, gI _]) rfl rfl rfl rfl (Nat.le_of_ble_eq_true rfl) ⟨Nat.le_of_ble_eq_true rfl, Nat.le_of_ble_eq_true rfl⟩ (Nat.le_of_ble_eq_true rfl) ⟨rfl, rfl⟩ ⟨Nat.zero_le _, Nat.zero_le _⟩ (s8_look rfl hI (by omega) (by omega) (by omega)) ?_
      refine gj_icmp_eq 69 65 dX8_changes_62 (by decide) rfl (by omega) (by omega) (fun c_62 => ?_) (fun c_62 => ?_)
      · refine gj_iconst 70 dX8_changes_69 rfl ?_
        refine gj_istore_n (lv' := [_, _, _, _, _]) 71 dX8_changes_70 rfl (by decide) rfl ?_
        refine gj_iinc (b := ((k + 1 : Nat) : Int)) (lv' := [_, _, _, _, _]) 74 dX8_changes_71 rfl rfl (by omega) (by decide) rfl ?_
        refine gj_goto 15 dX8_changes_74 (by decide) ?_
        have h := ih (k + 1) (by omega)
        first
        | (rw [show p_df (fun c : Nat => y_look M 78 ((f : Int) + 1) c (y_all (M 69 5)) (-9)) (fun c : Nat => y_look M 78 ((f : Int)) c (y_all (M 69 5)) (-9)) (k + 1) = 1 from if_pos (by first | (left; omega) | (right; show y_look M 78 ((f : Int) + 1) k (y_all (M 69 5)) (-9) ≠ y_look M 78 (f : Int) k (y_all (M 69 5)) (-9); omega))] at h; exact gj_wk h ⟨rfl, rfl, rfl, rfl, rfl, trivial⟩)
        | (rw [show p_df (fun c : Nat => y_look M 78 ((f : Int) + 1) c (y_all (M 69 5)) (-9)) (fun c : Nat => y_look M 78 ((f : Int)) c (y_all (M 69 5)) (-9)) (k + 1) = 0 from if_neg (by show ¬ (p_df (fun c : Nat => y_look M 78 ((f : Int) + 1) c (y_all (M 69 5)) (-9)) (fun c : Nat => y_look M 78 ((f : Int)) c (y_all (M 69 5)) (-9)) k ≠ 0 ∨ y_look M 78 ((f : Int) + 1) k (y_all (M 69 5)) (-9) ≠ y_look M 78 (f : Int) k (y_all (M 69 5)) (-9)); omega)] at h; exact gj_wk h ⟨rfl, rfl, rfl, rfl, rfl, trivial⟩)
      · refine gj_iconst 66 dX8_changes_65 rfl ?_
        refine gj_goto 70 dX8_changes_66 (by decide) ?_
        refine gj_istore_n (lv' := [_, _, _, _, _]) 71 dX8_changes_70 rfl (by decide) rfl ?_
        refine gj_iinc (b := ((k + 1 : Nat) : Int)) (lv' := [_, _, _, _, _]) 74 dX8_changes_71 rfl rfl (by omega) (by decide) rfl ?_
        refine gj_goto 15 dX8_changes_74 (by decide) ?_
        have h := ih (k + 1) (by omega)
        first
        | (rw [show p_df (fun c : Nat => y_look M 78 ((f : Int) + 1) c (y_all (M 69 5)) (-9)) (fun c : Nat => y_look M 78 ((f : Int)) c (y_all (M 69 5)) (-9)) (k + 1) = 1 from if_pos (by first | (left; omega) | (right; show y_look M 78 ((f : Int) + 1) k (y_all (M 69 5)) (-9) ≠ y_look M 78 (f : Int) k (y_all (M 69 5)) (-9); omega))] at h; exact gj_wk h ⟨rfl, rfl, rfl, rfl, rfl, trivial⟩)
        | (rw [show p_df (fun c : Nat => y_look M 78 ((f : Int) + 1) c (y_all (M 69 5)) (-9)) (fun c : Nat => y_look M 78 ((f : Int)) c (y_all (M 69 5)) (-9)) (k + 1) = 0 from if_neg (by show ¬ (p_df (fun c : Nat => y_look M 78 ((f : Int) + 1) c (y_all (M 69 5)) (-9)) (fun c : Nat => y_look M 78 ((f : Int)) c (y_all (M 69 5)) (-9)) k ≠ 0 ∨ y_look M 78 ((f : Int) + 1) k (y_all (M 69 5)) (-9) ≠ y_look M 78 (f : Int) k (y_all (M 69 5)) (-9)); omega)] at h; exact gj_wk h ⟨rfl, rfl, rfl, rfl, rfl, trivial⟩)

set_option maxRecDepth 100000 in
set_option maxHeartbeats 1000000 in
theorem s8_chg_o {xt : Nat × (Nat → Int)} {M : gj_M} (hI : y_I M 78)  : ∀ (n k : Nat), k + n = 47 → gj_G xt Y8_changes gS 0 0 4 [some (gR 69), some (gI (y_chg M k)), some (gI ((k : Int) + 1)), none, none] [] M (fun rv S2 M2 => S2 = gS ∧ rv = some (gI (y_chg M 47)) ∧ M2 = M) := by
  intro n
  induction n with
  | zero =>
    intro k hk
    refine gj_iload_n 5 dX8_changes_4 rfl rfl ?_
    refine gj_bipush 7 dX8_changes_5 rfl (by decide) ?_
    refine gj_icmp_ge 95 10 dX8_changes_7 (by decide) rfl (by omega) (by omega) (fun c_7 => ?_) (fun c_7 => absurd c_7 (by omega))
    refine gj_iload_n 96 dX8_changes_95 rfl rfl ?_
    refine gj_iret dX8_changes_96 rfl ⟨Nat.zero_le _, Nat.zero_le _⟩ ?_
    have hk3 : k = 47 := by omega
    subst hk3
    exact ⟨rfl, rfl, rfl⟩
  | succ n ih =>
    intro k hk
    refine gj_iload_n 5 dX8_changes_4 rfl rfl ?_
    refine gj_bipush 7 dX8_changes_5 rfl (by decide) ?_
    refine gj_icmp_ge 95 10 dX8_changes_7 (by decide) rfl (by omega) (by omega) (fun c_7 => absurd c_7 (by omega)) (fun c_7 => ?_)
    refine gj_iconst 11 dX8_changes_10 rfl ?_
    refine gj_istore_n (lv' := [_, _, _, _, _]) 12 dX8_changes_11 rfl (by decide) rfl ?_
    refine gj_iconst 13 dX8_changes_12 rfl ?_
    refine gj_istore (lv' := [_, _, _, _, _]) 15 dX8_changes_13 rfl (by decide) rfl ?_
    have hdf := p_df_01 (fun c : Nat => y_look M 78 ((k : Int) + 1) c (y_all (M 69 5)) (-9)) (fun c : Nat => y_look M 78 ((k : Int)) c (y_all (M 69 5)) (-9)) 10
    refine gj_wk (s8_chg_i hI k (by omega) ?_ 10 0 rfl) ⟨rfl, rfl, rfl, rfl, rfl, trivial⟩
    refine gj_iload_n 78 dX8_changes_77 rfl rfl ?_
    refine gj_iload_n 79 dX8_changes_78 rfl rfl ?_
    refine gj_if_eq 86 82 dX8_changes_79 (by decide) rfl (by omega) (fun c_79 => ?_) (fun c_79 => ?_)
    · refine gj_iconst 87 dX8_changes_86 rfl ?_
      refine gj_iadd 88 dX8_changes_87 rfl ?_
      refine gj_istore_n (lv' := [_, _, _, _, _]) 89 dX8_changes_88 rfl (by decide) rfl ?_
      refine gj_iinc (b := ((k + 1 : Nat) : Int) + 1) (lv' := [_, _, _, _, _]) 92 dX8_changes_89 rfl rfl (by omega) (by decide) rfl ?_
      refine gj_goto 4 dX8_changes_92 (by decide) ?_
      have h := ih (k + 1) (by omega)
      first
      | (rw [show y_chg M (k + 1) = y_chg M k + 1 by show y_chg M k + p_df (fun c : Nat => y_look M 78 ((k : Int) + 1) c (y_all (M 69 5)) (-9)) (fun c : Nat => y_look M 78 ((k : Int)) c (y_all (M 69 5)) (-9)) 10 = _; omega] at h; exact gj_wk h ⟨rfl, rfl, rfl, trivial⟩)
      | (rw [show y_chg M (k + 1) = y_chg M k + 0 by show y_chg M k + p_df (fun c : Nat => y_look M 78 ((k : Int) + 1) c (y_all (M 69 5)) (-9)) (fun c : Nat => y_look M 78 ((k : Int)) c (y_all (M 69 5)) (-9)) 10 = _; omega] at h; exact gj_wk h ⟨rfl, rfl, rfl, trivial⟩)
    · refine gj_iconst 83 dX8_changes_82 rfl ?_
      refine gj_goto 87 dX8_changes_83 (by decide) ?_
      refine gj_iadd 88 dX8_changes_87 rfl ?_
      refine gj_istore_n (lv' := [_, _, _, _, _]) 89 dX8_changes_88 rfl (by decide) rfl ?_
      refine gj_iinc (b := ((k + 1 : Nat) : Int) + 1) (lv' := [_, _, _, _, _]) 92 dX8_changes_89 rfl rfl (by omega) (by decide) rfl ?_
      refine gj_goto 4 dX8_changes_92 (by decide) ?_
      have h := ih (k + 1) (by omega)
      first
      | (rw [show y_chg M (k + 1) = y_chg M k + 1 by show y_chg M k + p_df (fun c : Nat => y_look M 78 ((k : Int) + 1) c (y_all (M 69 5)) (-9)) (fun c : Nat => y_look M 78 ((k : Int)) c (y_all (M 69 5)) (-9)) 10 = _; omega] at h; exact gj_wk h ⟨rfl, rfl, rfl, trivial⟩)
      | (rw [show y_chg M (k + 1) = y_chg M k + 0 by show y_chg M k + p_df (fun c : Nat => y_look M 78 ((k : Int) + 1) c (y_all (M 69 5)) (-9)) (fun c : Nat => y_look M 78 ((k : Int)) c (y_all (M 69 5)) (-9)) 10 = _; omega] at h; exact gj_wk h ⟨rfl, rfl, rfl, trivial⟩)

set_option maxRecDepth 100000 in
set_option maxHeartbeats 1000000 in
theorem s8_chg {xt : Nat × (Nat → Int)} {M : gj_M} (hI : y_I M 78)  : gj_F xt Y8_changes gS [gR 69] M (some (gI (y_chg M 47))) M := by
  show gj_G _ Y8_changes gS 0 0 0 [_, _, _, _, _] [] M _
  refine gj_iconst 1 dX8_changes_0 rfl ?_
  refine gj_istore_n (lv' := [_, _, _, _, _]) 2 dX8_changes_1 rfl (by decide) rfl ?_
  refine gj_iconst 3 dX8_changes_2 rfl ?_
  refine gj_istore_n (lv' := [_, _, _, _, _]) 4 dX8_changes_3 rfl (by decide) rfl ?_
  exact gj_wk (s8_chg_o hI 47 0 rfl) ⟨rfl, rfl, rfl, trivial⟩
