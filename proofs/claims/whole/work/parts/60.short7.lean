theorem q_sh_b {F : Int → Int} {n v : Int} (hn : 0 ≤ n) (h : q_sh F n v) : 0 ≤ v ∧ v ≤ 1000 := by
  obtain ⟨f, g, hf, hg, rfl⟩ := h
  exact q_tw_b hf hg _ 0 rfl (by omega) hn
theorem gj_G.imp {xt : Nat × (Nat → Int)} {Y : gj_Y} {S : List gj_H} {k n pc : Nat} {lv : List (Option gj_V)} {st : List gj_V} {M : gj_M} {Q Q' : Option gj_V → List gj_H → gj_M → Prop} (h : gj_G xt Y S k n pc lv st M Q) (hq : ∀ r S' M', Q r S' M' → Q' r S' M') : gj_G xt Y S k n pc lv st M Q' :=
  fun p l e s m args below meth c H locs ls ad cA cZ D A Z hC hW hL hR => h p l e s m args below meth c H locs ls ad cA cZ D A Z hC hW hL (fun rv S' M' H' locs' pc' ls' ad' hQ => hR rv S' M' H' locs' pc' ls' ad' (hq rv S' M' hQ))

set_option maxRecDepth 100000 in
set_option maxHeartbeats 1000000 in
theorem s5_letters_e {xt : Nat × (Nat → Int)} {M : gj_M} {M0 : gj_M} {l N : Int} (hN : N = M 13 l) (hg : 0 ≤ M 13 l ∧ M 13 l ≤ 48) (hE0 : gj_E [24, 25, 26, 27, 28, 29, 30] M M0) (hn0 : M0 24 0 = N) (hFg : ∀ g : Int, 0 ≤ g → g < N → M0 25 g = M 14 (l * 48 + g)) (hlk : ∀ p : Int, 1 ≤ p → p < 49 → M0 26 p = 0) (hz1 : M0 29 (49 * N) = 0) (hz2 : M0 30 N = 0) : gj_G xt Y5_lettersFor gS 0 0 86 [some (gR 24), some (gR 10), some (gI l), some (gI (N - 1))] [] M0 (fun r S2 M2 => S2 = gS ∧ gj_E [24, 25, 26, 27, 28, 29, 30] M M2 ∧ ∃ v, r = some (gI v) ∧ q_sh (fun g => M 14 (l * 48 + g)) (M 13 l) v) := by
  have hw := s5_letters_i (xt := xt) (M := M0) (F := M0 25) (n := N) (l := l) (by omega) hn0 (fun _ => rfl) N.toNat M0 gj_E.rf (by omega) (fun p h1 h2 => by
    rw [hlk p h1 h2, q_L_out (by omega)]) ⟨fun j h1 h2 => by
      show M0 29 (49 * j + 0) = 0
      rw [show 49 * j + 0 = 49 * N by omega]
      exact hz1, fun j p h1 h2 => absurd h2 (by omega)⟩ ⟨hz2, fun j h1 h2 => absurd h2 (by omega)⟩
  refine gj_wk (lv' := [some (gR 24), some (gR 10), some (gI l), some (gI ((N.toNat : Int) - 1))]) (hw.imp ?_) ⟨rfl, rfl, rfl, by rw [show ((N.toNat : Nat) : Int) = N by omega], trivial⟩
  rintro r S' M' ⟨h1, h2, v, h3, h4⟩
  subst hN
  exact ⟨h1, hE0.tr (h2.mono (by decide)), v, h3, q_sh_congr (F := M0 25) hFg h4⟩

set_option maxRecDepth 100000 in
set_option maxHeartbeats 1000000 in
theorem s5_letters_c {xt : Nat × (Nat → Int)} {M : gj_M} {l : Int} (hl : 0 ≤ l ∧ l < 4) (hg : 0 ≤ M 13 l ∧ M 13 l ≤ 48) : ∀ (n k : Nat), k + n = 49 → gj_G xt Y5_lettersFor gS 0 0 37 [some (gR 24), some (gR 10), some (gI l), some (gI (k : Int))] [] (p_clr (gj_cp (gj_u M 24 0 (min 48 (M 13 l))) 14 25 (l * 48) 0 (min 48 (M 13 l))) 26 k) (fun r S2 M2 => S2 = gS ∧ gj_E [24, 25, 26, 27, 28, 29, 30] M M2 ∧ ∃ v, r = some (gI v) ∧ q_sh (fun g => M 14 (l * 48 + g)) (M 13 l) v) := by
  intro n
  induction n with
  | zero =>
    intro k hk
    refine gj_iload_n 38 dX5_lettersFor_37 rfl rfl ?_
    refine gj_bipush 40 dX5_lettersFor_38 rfl (by decide) ?_
    refine gj_icmp_ge 56 43 dX5_lettersFor_40 (by decide) rfl (by omega) (by omega) (fun c_40 => ?_) (fun c_40 => absurd c_40 (by omega))
    refine gj_aload_n 57 dX5_lettersFor_56 rfl rfl ?_
    refine gj_getfr 60 dX5_lettersFor_57 rfl fl_5_27 rfl rfl ?_
    refine gj_aload_n 61 dX5_lettersFor_60 rfl rfl ?_
    refine gj_getfiE ((min 48 (M 13 l))) 64 dX5_lettersFor_61 rfl fl_5_41 rfl rfl (show p_clr (gj_cp (gj_u M 24 0 (min 48 (M 13 l))) 14 25 (l * 48) 0 (min 48 (M 13 l))) 26 k 24 0 = _ by rw [p_clr_o (by decide)]; rfl) (fun r_61 => ?_)
    refine gj_iconst 65 dX5_lettersFor_64 rfl ?_
    refine gj_iast 66 dX5_lettersFor_65 rfl rfl (by omega) (by omega) (by omega) ?_
    refine gj_aload_n 67 dX5_lettersFor_66 rfl rfl ?_
    refine gj_getfr 70 dX5_lettersFor_67 rfl fl_5_24 rfl rfl ?_
    refine gj_bipush 72 dX5_lettersFor_70 rfl (by decide) ?_
    refine gj_aload_n 73 dX5_lettersFor_72 rfl rfl ?_
    refine gj_getfiE ((min 48 (M 13 l))) 76 dX5_lettersFor_73 rfl fl_5_41 rfl rfl (show p_clr (gj_cp (gj_u M 24 0 (min 48 (M 13 l))) 14 25 (l * 48) 0 (min 48 (M 13 l))) 26 k 24 0 = _ by rw [p_clr_o (by decide)]; rfl) (fun r_73 => ?_)
    refine gj_imul 77 dX5_lettersFor_76 rfl ?_
    refine gj_iconst 78 dX5_lettersFor_77 rfl ?_
    refine gj_iast 79 dX5_lettersFor_78 rfl rfl (by omega) (by omega) (by omega) ?_
    refine gj_aload_n 80 dX5_lettersFor_79 rfl rfl ?_
    refine gj_getfiE ((min 48 (M 13 l))) 83 dX5_lettersFor_80 rfl fl_5_41 rfl rfl (show p_clr (gj_cp (gj_u M 24 0 (min 48 (M 13 l))) 14 25 (l * 48) 0 (min 48 (M 13 l))) 26 k 24 0 = _ by rw [p_clr_o (by decide)]; rfl) (fun r_80 => ?_)
    refine gj_iconst 84 dX5_lettersFor_83 rfl ?_
    refine gj_isub 85 dX5_lettersFor_84 rfl ?_
    refine gj_istore_n (lv' := [_, _, _, _]) 86 dX5_lettersFor_85 rfl (by decide) rfl ?_
    have hk9 : k = 49 := by omega
    subst hk9
    have hE0 : gj_E [24, 25, 26, 27, 28, 29, 30] M (gj_u (gj_u (p_clr (gj_cp (gj_u M 24 0 (min 48 (M 13 l))) 14 25 (l * 48) 0 (min 48 (M 13 l))) 26 49) 30 (min 48 (M 13 l)) 0) 29 (49 * (min 48 (M 13 l))) 0) := by
      intro x hx i
      have g1 : x ≠ 24 := fun q => hx (by rw [q]; decide)
      have g2 : x ≠ 25 := fun q => hx (by rw [q]; decide)
      have g3 : x ≠ 26 := fun q => hx (by rw [q]; decide)
      have g4 : x ≠ 29 := fun q => hx (by rw [q]; decide)
      have g5 : x ≠ 30 := fun q => hx (by rw [q]; decide)
      rw [gj_u_o g4, gj_u_o g5, p_clr_o g3, gj_cp_o g2, gj_u_o g1]
    have hFg : ∀ g : Int, 0 ≤ g → g < (min 48 (M 13 l)) → (gj_u (gj_u (p_clr (gj_cp (gj_u M 24 0 (min 48 (M 13 l))) 14 25 (l * 48) 0 (min 48 (M 13 l))) 26 49) 30 (min 48 (M 13 l)) 0) 29 (49 * (min 48 (M 13 l))) 0) 25 g = M 14 (l * 48 + g) := by
      intro g h0 h1
      rw [gj_u_o (by decide), gj_u_o (by decide), p_clr_o (by decide)]
      unfold gj_cp
      rw [if_pos ⟨rfl, by omega, by omega⟩, show l * 48 + (g - 0) = l * 48 + g by omega]
      rfl
    exact gj_wk (s5_letters_e (by omega) hg hE0 (by rw [gj_u_o (by decide), gj_u_o (by decide), p_clr_o (by decide)]; rfl) hFg (fun p h1 h2 => by rw [gj_u_o (by decide), gj_u_o (by decide), p_clr_i 49 (by omega) (by omega)]) gj_u_s (by rw [gj_u_o (by decide), gj_u_s])) ⟨rfl, rfl, rfl, rfl, trivial⟩
  | succ n ih =>
    intro k hk
    refine gj_iload_n 38 dX5_lettersFor_37 rfl rfl ?_
    refine gj_bipush 40 dX5_lettersFor_38 rfl (by decide) ?_
    refine gj_icmp_ge 56 43 dX5_lettersFor_40 (by decide) rfl (by omega) (by omega) (fun c_40 => absurd c_40 (by omega)) (fun c_40 => ?_)
    refine gj_aload_n 44 dX5_lettersFor_43 rfl rfl ?_
    refine gj_getfr 47 dX5_lettersFor_44 rfl fl_5_15 rfl rfl ?_
    refine gj_iload_n 48 dX5_lettersFor_47 rfl rfl ?_
    refine gj_iconst 49 dX5_lettersFor_48 rfl ?_
    refine gj_iast 50 dX5_lettersFor_49 rfl rfl (by omega) (by omega) (by omega) ?_
    refine gj_iinc (b := ((k + 1 : Nat) : Int)) (lv' := [_, _, _, _]) 53 dX5_lettersFor_50 rfl rfl (by omega) (by decide) rfl ?_
    refine gj_goto 37 dX5_lettersFor_53 (by decide) ?_
    exact gj_wk (ih (k + 1) (by omega)) ⟨rfl, rfl, rfl, rfl, trivial⟩

set_option maxRecDepth 100000 in
set_option maxHeartbeats 1000000 in
theorem s5_letters {xt : Nat × (Nat → Int)} {M : gj_M} {l : Int} (hl : 0 ≤ l ∧ l < 4) (hg : 0 ≤ M 13 l ∧ M 13 l ≤ 48) : gj_T xt Y5_lettersFor gS [gR 24, gR 10, gI l] M (fun r M2 => gj_E [24, 25, 26, 27, 28, 29, 30] M M2 ∧ ∃ v, r = some (gI v) ∧ q_sh (fun g => M 14 (l * 48 + g)) (M 13 l) v) := by
  show gj_G _ Y5_lettersFor gS 0 0 0 [_, _, _, _] [] M _
  refine gj_aload_n 1 dX5_lettersFor_0 rfl rfl ?_
  refine gj_bipush 3 dX5_lettersFor_1 rfl (by decide) ?_
  refine gj_aload_n 4 dX5_lettersFor_3 rfl rfl ?_
  refine gj_getfr 7 dX5_lettersFor_4 rfl fl_5_30 rfl rfl ?_
  refine gj_iload_n 8 dX5_lettersFor_7 rfl rfl ?_
  refine gj_iald 9 dX5_lettersFor_8 rfl rfl (by omega) (by omega) (fun r_8 => ?_)
  refine gj_min 12 dX5_lettersFor_9 rfl ml_5_35 (by omega) (by omega) (by decide) (Nat.le_of_ble_eq_true rfl) ⟨Nat.zero_le _, Nat.zero_le _⟩ ?_
  refine gj_putfi 15 dX5_lettersFor_12 rfl fw_5_41 rfl rfl (by omega) ?_
  refine gj_aload_n 16 dX5_lettersFor_15 rfl rfl ?_
  refine gj_getfr 19 dX5_lettersFor_16 rfl fl_5_45 rfl rfl ?_
  refine gj_iload_n 20 dX5_lettersFor_19 rfl rfl ?_
  refine gj_bipush 22 dX5_lettersFor_20 rfl (by decide) ?_
  refine gj_imul 23 dX5_lettersFor_22 rfl ?_
  refine gj_aload_n 24 dX5_lettersFor_23 rfl rfl ?_
  refine gj_getfr 27 dX5_lettersFor_24 rfl fl_5_9 rfl rfl ?_
  refine gj_iconst 28 dX5_lettersFor_27 rfl ?_
  refine gj_aload_n 29 dX5_lettersFor_28 rfl rfl ?_
  refine gj_getfiE ((min 48 (M 13 l))) 32 dX5_lettersFor_29 rfl fl_5_41 rfl rfl gj_u_s (fun r_29 => ?_)
  refine gj_copy 35 dX5_lettersFor_32 rfl ml_5_48 rfl rfl (by omega) (by omega) (by decide) (by decide) (Nat.le_of_ble_eq_true rfl) ?_
  refine gj_iconst 36 dX5_lettersFor_35 rfl ?_
  refine gj_istore_n (lv' := [_, _, _, _]) 37 dX5_lettersFor_36 rfl (by decide) rfl ?_
  exact gj_wk (s5_letters_c hl hg 49 0 rfl) ⟨rfl, rfl, rfl, rfl, trivial⟩

set_option maxRecDepth 100000 in
set_option maxHeartbeats 1000000 in
theorem s3_short {xt : Nat × (Nat → Int)} {M : gj_M} {l : Int} (hl : 0 ≤ l ∧ l < 4) (hg : 0 ≤ M 13 l ∧ M 13 l ≤ 48) (hs : M 31 l = 0 ∨ q_sh (fun g => M 14 (l * 48 + g)) (M 13 l) (M 31 l)) : gj_T xt Y3_shortOf gS [gR 9, gI l] M (fun r M2 => ∃ v, r = some (gI v) ∧ q_sh (fun g => M 14 (l * 48 + g)) (M 13 l) v ∧ gj_E [24, 25, 26, 27, 28, 29, 30, 31] M M2 ∧ (∀ i : Int, i ≠ l → M2 31 i = M 31 i) ∧ M2 31 l = v) := by
  show gj_G _ Y3_shortOf gS 0 0 0 [_, _] [] M _
  refine gj_aload_n 1 dX3_shortOf_0 rfl rfl ?_
  refine gj_getfr 4 dX3_shortOf_1 rfl fl_3_32 rfl rfl ?_
  refine gj_iload_n 5 dX3_shortOf_4 rfl rfl ?_
  refine gj_iald 6 dX3_shortOf_5 rfl rfl (by omega) (by omega) (fun r_5 => ?_)
  refine gj_if_ne 27 9 dX3_shortOf_6 (by decide) rfl (by omega) (fun c_6 => ?_) (fun c_6 => ?_)
  · skip
    refine gj_aload_n 28 dX3_shortOf_27 rfl rfl ?_
    refine gj_getfr 31 dX3_shortOf_28 rfl fl_3_32 rfl rfl ?_
    refine gj_iload_n 32 dX3_shortOf_31 rfl rfl ?_
    refine gj_iald 33 dX3_shortOf_32 rfl rfl (by omega) (by omega) (fun r_32 => ?_)
    refine gj_iret dX3_shortOf_33 rfl ⟨Nat.zero_le _, Nat.zero_le _⟩ ?_
    first
    | exact ⟨rfl, _, rfl, hs.resolve_left (by omega), gj_E.rf, fun _ _ => rfl, rfl⟩
    | exact ⟨rfl, v, by rw [gj_u_s], hv, (hE.mono (by decide)).u2 (by decide), fun i hi => by rw [gj_u_i hi]; exact hE 31 (by decide) i, gj_u_s⟩
  · refine gj_aload_n 10 dX3_shortOf_9 rfl rfl ?_
    refine gj_getfr 13 dX3_shortOf_10 rfl fl_3_32 rfl rfl ?_
    refine gj_iload_n 14 dX3_shortOf_13 rfl rfl ?_
    refine gj_aload_n 15 dX3_shortOf_14 rfl rfl ?_
    refine gj_getfr 18 dX3_shortOf_15 rfl fl_3_28 rfl rfl ?_
    refine gj_aload_n 19 dX3_shortOf_18 rfl rfl ?_
    refine gj_getfr 22 dX3_shortOf_19 rfl fl_3_12 rfl rfl ?_
    refine gj_iload_n 23 dX3_shortOf_22 rfl rfl ?_
    refine gj_callV 26 dX3_shortOf_23 rfl ok_5_lettersFor ml_3_122 iv_5_lettersFor (As := [gR _, gI _]) rfl rfl rfl rfl (Nat.le_of_ble_eq_true rfl) ⟨Nat.le_of_ble_eq_true rfl, Nat.le_of_ble_eq_true rfl⟩ (Nat.le_of_ble_eq_true rfl) ⟨rfl, rfl⟩ ⟨Nat.zero_le _, Nat.zero_le _⟩ (s5_letters hl hg) (fun r_23 M_23 q_23 => ?_)
    obtain ⟨hE, v, rfl, hv⟩ := q_23
    have hvb := q_sh_b hg.1 hv
    show gj_G _ _ gS 0 0 26 _ (gI v :: _) M_23 _
    refine gj_iast 27 dX3_shortOf_26 rfl rfl (by omega) (by omega) (by omega) ?_
    skip
    refine gj_aload_n 28 dX3_shortOf_27 rfl rfl ?_
    refine gj_getfr 31 dX3_shortOf_28 rfl fl_3_32 rfl rfl ?_
    refine gj_iload_n 32 dX3_shortOf_31 rfl rfl ?_
    refine gj_iald 33 dX3_shortOf_32 rfl rfl (by omega) (by omega) (fun r_32 => ?_)
    refine gj_iret dX3_shortOf_33 rfl ⟨Nat.zero_le _, Nat.zero_le _⟩ ?_
    first
    | exact ⟨rfl, _, rfl, hs.resolve_left (by omega), gj_E.rf, fun _ _ => rfl, rfl⟩
    | exact ⟨rfl, v, by rw [gj_u_s], hv, (hE.mono (by decide)).u2 (by decide), fun i hi => by rw [gj_u_i hi]; exact hE 31 (by decide) i, gj_u_s⟩

set_option maxRecDepth 100000 in
set_option maxHeartbeats 1000000 in
theorem s7_level {xt : Nat × (Nat → Int)} {M : gj_M} (hI : c_I M) {l w : Int} (hl : gj_in l) (hw : gj_in w) (hs : 0 ≤ l → l < M 10 1 → M 31 l = 0 ∨ q_sh (fun g => M 14 (l * 48 + g)) (M 13 l) (M 31 l)) : gj_T xt Y7_level gS [gR 0, gI l, gI w] M (fun r M2 => ∃ v, r = some (gI v) ∧ (if 0 ≤ l ∧ l < M 10 1 then (if w = 0 then v = M 13 l else if w = 1 then v = M 18 l else if w = 2 then q_sh (fun g => M 14 (l * 48 + g)) (M 13 l) v else if w = 3 then v = c_best M l else v = -2) else v = -1) ∧ gj_E [24, 25, 26, 27, 28, 29, 30, 31, 33, 34] M M2 ∧ ∀ i : Int, M2 31 i = M 31 i ∨ (i = l ∧ q_sh (fun g => M 14 (i * 48 + g)) (M 13 i) (M2 31 i))) := by
  show gj_G _ Y7_level gS 0 0 0 [_, _, _] [] M _
  have hL := hI.1
  have hD := hI.2.1
  have hsw := hI.2.2.1
  refine gj_aload_n 1 dX7_level_0 rfl rfl ?_
  refine gj_iload_n 2 dX7_level_1 rfl rfl ?_
  refine gj_fV 5 dX7_level_2 rfl ok_7_isLevel ml_7_114 iv_7_isLevel (As := [gI _]) rfl rfl rfl rfl (Nat.le_of_ble_eq_true rfl) ⟨Nat.le_of_ble_eq_true rfl, Nat.le_of_ble_eq_true rfl⟩ (Nat.le_of_ble_eq_true rfl) ⟨rfl, rfl⟩ ⟨Nat.zero_le _, Nat.zero_le _⟩ (s7_isL hL hl) ?_
  have hc := x_isL_c M l
  refine gj_if_ne 10 8 dX7_level_5 (by decide) rfl (by omega) (fun c_5 => ?_) (fun c_5 => ?_)
  · refine gj_iload_n 11 dX7_level_10 rfl rfl ?_
    rcases (show w = 0 ∨ w = 1 ∨ w = 2 ∨ w = 3 ∨ (w < 0 ∨ 3 < w) by omega) with t_11 | t_11 | t_11 | t_11 | t_11
    · refine gj_tabI (off := 29) 40 dX7_level_11 (by omega) (by omega) (by rw [t_11]; rfl) (by decide) ?_
      refine gj_aload_n 41 dX7_level_40 rfl rfl ?_
      refine gj_getfr 44 dX7_level_41 rfl fl_7_31 rfl rfl ?_
      refine gj_getfr 47 dX7_level_44 rfl fl_7_117 rfl rfl ?_
      refine gj_iload_n 48 dX7_level_47 rfl rfl ?_
      refine gj_iald 49 dX7_level_48 rfl rfl (by omega) (by omega) (fun r_48 => ?_)
      refine gj_iret dX7_level_49 rfl ⟨Nat.zero_le _, Nat.zero_le _⟩ ?_
      exact ⟨rfl, _, rfl, by (repeat (first | rw [if_pos (by omega)] | rw [if_neg (by omega)])), gj_E.rf, fun i => Or.inl rfl⟩
    · refine gj_tabI (off := 39) 50 dX7_level_11 (by omega) (by omega) (by rw [t_11]; rfl) (by decide) ?_
      refine gj_aload_n 51 dX7_level_50 rfl rfl ?_
      refine gj_getfr 54 dX7_level_51 rfl fl_7_38 rfl rfl ?_
      refine gj_getfr 57 dX7_level_54 rfl fl_7_120 rfl rfl ?_
      refine gj_iload_n 58 dX7_level_57 rfl rfl ?_
      refine gj_iald 59 dX7_level_58 rfl rfl (by omega) (by omega) (fun r_58 => ?_)
      refine gj_iret dX7_level_59 rfl ⟨Nat.zero_le _, Nat.zero_le _⟩ ?_
      exact ⟨rfl, _, rfl, by (repeat (first | rw [if_pos (by omega)] | rw [if_neg (by omega)])), gj_E.rf, fun i => Or.inl rfl⟩
    · refine gj_tabI (off := 49) 60 dX7_level_11 (by omega) (by omega) (by rw [t_11]; rfl) (by decide) ?_
      refine gj_aload_n 61 dX7_level_60 rfl rfl ?_
      refine gj_getfr 64 dX7_level_61 rfl fl_7_23 rfl rfl ?_
      refine gj_iload_n 65 dX7_level_64 rfl rfl ?_
      refine gj_callV 68 dX7_level_65 rfl ok_3_shortOf ml_7_123 iv_3_shortOf (As := [gI _]) rfl rfl rfl rfl (Nat.le_of_ble_eq_true rfl) ⟨Nat.le_of_ble_eq_true rfl, Nat.le_of_ble_eq_true rfl⟩ (Nat.le_of_ble_eq_true rfl) ⟨rfl, rfl⟩ ⟨Nat.zero_le _, Nat.zero_le _⟩ (s3_short (by omega) (hI.2.2.2.1 l (by omega) (by omega)).2 (hs (by omega) (by omega))) (fun r_65 M_65 q_65 => ?_)
      obtain ⟨v, rfl, hv, hE, ho, hv2⟩ := q_65
      show gj_G _ _ gS 0 0 68 _ [gI v] M_65 _
      refine gj_iret dX7_level_68 rfl ⟨Nat.zero_le _, Nat.zero_le _⟩ ?_
      exact ⟨rfl, v, rfl, by (repeat (first | rw [if_pos (by omega)] | rw [if_neg (by omega)])); exact hv, hE.mono (by decide), fun i => by
        by_cases q : i = l
        · subst q; exact Or.inr ⟨rfl, by rw [hv2]; exact hv⟩
        · exact Or.inl (ho i q)⟩
    · refine gj_tabI (off := 58) 69 dX7_level_11 (by omega) (by omega) (by rw [t_11]; rfl) (by decide) ?_
      refine gj_aload_n 70 dX7_level_69 rfl rfl ?_
      refine gj_getfr 73 dX7_level_70 rfl fl_7_23 rfl rfl ?_
      refine gj_iload_n 74 dX7_level_73 rfl rfl ?_
      refine gj_callV 77 dX7_level_74 rfl ok_3_bestOf ml_7_126 iv_3_bestOf (As := [gI _]) rfl rfl rfl rfl (Nat.le_of_ble_eq_true rfl) ⟨Nat.le_of_ble_eq_true rfl, Nat.le_of_ble_eq_true rfl⟩ (Nat.le_of_ble_eq_true rfl) ⟨rfl, rfl⟩ ⟨Nat.zero_le _, Nat.zero_le _⟩ (s3_best hI (by omega)) (fun r_74 M_74 q_74 => ?_)
      obtain ⟨rfl, hE⟩ := q_74
      show gj_G _ _ gS 0 0 77 _ [gI (c_best M l)] M_74 _
      refine gj_iret dX7_level_77 rfl ⟨Nat.zero_le _, Nat.zero_le _⟩ ?_
      exact ⟨rfl, _, rfl, by (repeat (first | rw [if_pos (by omega)] | rw [if_neg (by omega)])), hE.mono (by decide), fun i => Or.inl (hE 31 (by decide) i)⟩
    · refine gj_tabO 78 dX7_level_11 (by omega) t_11 (by decide) ?_
      refine gj_bipush 80 dX7_level_78 rfl (by decide) ?_
      refine gj_iret dX7_level_80 rfl ⟨Nat.zero_le _, Nat.zero_le _⟩ ?_
      exact ⟨rfl, _, rfl, by (repeat (first | rw [if_pos (by omega)] | rw [if_neg (by omega)])), gj_E.rf, fun i => Or.inl rfl⟩
  · refine gj_iconst 9 dX7_level_8 rfl ?_
    refine gj_iret dX7_level_9 rfl ⟨Nat.zero_le _, Nat.zero_le _⟩ ?_
    exact ⟨rfl, _, rfl, by (repeat (first | rw [if_pos (by omega)] | rw [if_neg (by omega)])), gj_E.rf, fun i => Or.inl rfl⟩
