set_option maxRecDepth 100000 in
set_option maxHeartbeats 1000000 in
theorem law_l {xt : Nat × (Nat → Int)} (hx : ∀ j, gj_in (xt.2 j)) (hN : xt.1 ≤ 2560) : ∀ (n : Nat) (i : Int) (M : gj_M), 0 ≤ i → i ≤ (xt.1 : Int) → (xt.1 : Int) - i ≤ n → R_ M M → gj_G xt YL_law gS 88 14392 18 [some (gR 1001), some (gR 0), some (gR 69), some (gI i)] [] M (fun r _ _ => r = some (gI 1)) := by
  intro n
  induction n with
  | zero =>
    intro i M h0 h1 h2 hR
    refine gj_iload_n 19 dL_law_18 rfl rfl ?_
    refine gj_aload_n 20 dL_law_19 rfl rfl ?_
    refine gj_xln 21 dL_law_20 rfl rfl ?_
    refine gj_iconst 22 dL_law_21 rfl ?_
    refine gj_isub 23 dL_law_22 rfl ?_
    refine gj_icmp_gt 1023 26 dL_law_23 (by decide) rfl (by omega) (by omega) (fun c_23 => ?_) (fun c_23 => absurd c_23 (by omega))
    refine gj_iconst 1024 dL_law_1023 rfl ?_
    refine gj_zret dL_law_1024 rfl (Or.inr rfl) ⟨Nat.le_of_ble_eq_true rfl, Nat.le_of_ble_eq_true rfl⟩ ?_
    rfl
  | succ n ih =>
    intro i M h0 h1 h2 hR
    refine gj_iload_n 19 dL_law_18 rfl rfl ?_
    refine gj_aload_n 20 dL_law_19 rfl rfl ?_
    refine gj_xln 21 dL_law_20 rfl rfl ?_
    refine gj_iconst 22 dL_law_21 rfl ?_
    refine gj_isub 23 dL_law_22 rfl ?_
    refine gj_icmp_gt 1023 26 dL_law_23 (by decide) rfl (by omega) (by omega) (fun c_23 => ?_) (fun c_23 => ?_)
    · refine gj_iconst 1024 dL_law_1023 rfl ?_
      refine gj_zret dL_law_1024 rfl (Or.inr rfl) ⟨Nat.le_of_ble_eq_true rfl, Nat.le_of_ble_eq_true rfl⟩ ?_
      rfl
    · have kk0 : ∀ M2 : gj_M, R_ M2 M2 → gj_G xt YL_law gS 88 14392 1017 [some (gR 1001), some (gR 0), some (gR 69), some (gI i)] [] M2 (fun r _ _ => r = some (gI 1)) := by
        intro M2 h2
        refine gj_iinc (b := i + 5) (lv' := [_, _, _, _]) 1020 dL_law_1017 rfl rfl rfl (by decide) rfl ?_
        refine gj_goto 18 dL_law_1020 (by decide) ?_
        exact ih (i + 5) M2 (by omega) (by omega) (by omega) h2
      refine gj_aload_n 27 dL_law_26 rfl rfl ?_
      refine gj_iload_n 28 dL_law_27 rfl rfl ?_
      refine gj_xld 29 dL_law_28 rfl (by omega) (by omega) ?_
      refine gj_bipush 31 dL_law_29 rfl (by decide) ?_
      refine gj_iand 32 dL_law_31 rfl ?_
      generalize ht : (Int32.ofInt (xt.2 i.toNat) &&& Int32.ofInt 31).toInt = t
      have hA : gj_in t := ht ▸ gj_in32 _
      rcases (show t = 0 ∨ t = 1 ∨ t = 2 ∨ t = 3 ∨ t = 4 ∨ t = 5 ∨ t = 6 ∨ t = 7 ∨ t = 8 ∨ t = 9 ∨ t = 10 ∨ t = 11 ∨ t = 12 ∨ t = 13 ∨ t = 14 ∨ t = 15 ∨ t = 16 ∨ t = 17 ∨ t = 18 ∨ t = 19 ∨ t = 20 ∨ t = 21 ∨ t = 22 ∨ t = 23 ∨ t = 24 ∨ t = 25 ∨ t = 26 ∨ t = 27 ∨ (t < 0 ∨ 27 < t) by omega) with t_32 | t_32 | t_32 | t_32 | t_32 | t_32 | t_32 | t_32 | t_32 | t_32 | t_32 | t_32 | t_32 | t_32 | t_32 | t_32 | t_32 | t_32 | t_32 | t_32 | t_32 | t_32 | t_32 | t_32 | t_32 | t_32 | t_32 | t_32 | t_32
      · refine gj_tabI (off := 128) 160 dL_law_32 (by omega) (by omega) (by rw [t_32]; rfl) (by decide) ?_
        exact lw_0 hx hN (by omega) hR kk0
      · refine gj_tabI (off := 151) 183 dL_law_32 (by omega) (by omega) (by rw [t_32]; rfl) (by decide) ?_
        exact lw_1 hx hN (by omega) hR kk0
      · refine gj_tabI (off := 164) 196 dL_law_32 (by omega) (by omega) (by rw [t_32]; rfl) (by decide) ?_
        exact lw_2 hx hN (by omega) hR kk0
      · refine gj_tabI (off := 177) 209 dL_law_32 (by omega) (by omega) (by rw [t_32]; rfl) (by decide) ?_
        exact lw_3 hx hN (by omega) hR kk0
      · refine gj_tabI (off := 190) 222 dL_law_32 (by omega) (by omega) (by rw [t_32]; rfl) (by decide) ?_
        exact lw_4 hx hN (by omega) hR kk0
      · refine gj_tabI (off := 223) 255 dL_law_32 (by omega) (by omega) (by rw [t_32]; rfl) (by decide) ?_
        exact lw_5 hx hN (by omega) hR kk0
      · refine gj_tabI (off := 256) 288 dL_law_32 (by omega) (by omega) (by rw [t_32]; rfl) (by decide) ?_
        exact lw_6 hx hN (by omega) hR kk0
      · refine gj_tabI (off := 289) 321 dL_law_32 (by omega) (by omega) (by rw [t_32]; rfl) (by decide) ?_
        exact lw_7 hx hN (by omega) hR kk0
      · refine gj_tabI (off := 332) 364 dL_law_32 (by omega) (by omega) (by rw [t_32]; rfl) (by decide) ?_
        exact lw_8 hx hN (by omega) hR kk0
      · refine gj_tabI (off := 365) 397 dL_law_32 (by omega) (by omega) (by rw [t_32]; rfl) (by decide) ?_
        exact lw_9 hx hN (by omega) hR kk0
      · refine gj_tabI (off := 418) 450 dL_law_32 (by omega) (by omega) (by rw [t_32]; rfl) (by decide) ?_
        exact lw_10 hx hN (by omega) hR kk0
      · refine gj_tabI (off := 451) 483 dL_law_32 (by omega) (by omega) (by rw [t_32]; rfl) (by decide) ?_
        exact lw_11 hx hN (by omega) hR kk0
      · refine gj_tabI (off := 464) 496 dL_law_32 (by omega) (by omega) (by rw [t_32]; rfl) (by decide) ?_
        exact lw_12 hx hN (by omega) hR kk0
      · refine gj_tabI (off := 477) 509 dL_law_32 (by omega) (by omega) (by rw [t_32]; rfl) (by decide) ?_
        exact lw_13 hx hN (by omega) hR kk0
      · refine gj_tabI (off := 510) 542 dL_law_32 (by omega) (by omega) (by rw [t_32]; rfl) (by decide) ?_
        exact lw_14 hx hN (by omega) hR kk0
      · refine gj_tabI (off := 533) 565 dL_law_32 (by omega) (by omega) (by rw [t_32]; rfl) (by decide) ?_
        exact lw_15 hx hN (by omega) hR kk0
      · refine gj_tabI (off := 566) 598 dL_law_32 (by omega) (by omega) (by rw [t_32]; rfl) (by decide) ?_
        exact lw_16 hx hN (by omega) hR kk0
      · refine gj_tabI (off := 589) 621 dL_law_32 (by omega) (by omega) (by rw [t_32]; rfl) (by decide) ?_
        exact lw_17 hx hN (by omega) hR kk0
      · refine gj_tabI (off := 652) 684 dL_law_32 (by omega) (by omega) (by rw [t_32]; rfl) (by decide) ?_
        exact lw_18 hx hN (by omega) hR kk0
      · refine gj_tabI (off := 695) 727 dL_law_32 (by omega) (by omega) (by rw [t_32]; rfl) (by decide) ?_
        exact lw_19 hx hN (by omega) hR kk0
      · refine gj_tabI (off := 708) 740 dL_law_32 (by omega) (by omega) (by rw [t_32]; rfl) (by decide) ?_
        exact lw_20 hx hN (by omega) hR kk0
      · refine gj_tabI (off := 721) 753 dL_law_32 (by omega) (by omega) (by rw [t_32]; rfl) (by decide) ?_
        exact lw_21 hx hN (by omega) hR kk0
      · refine gj_tabI (off := 770) 802 dL_law_32 (by omega) (by omega) (by rw [t_32]; rfl) (by decide) ?_
        exact lw_22 hx hN (by omega) hR kk0
      · refine gj_tabI (off := 839) 871 dL_law_32 (by omega) (by omega) (by rw [t_32]; rfl) (by decide) ?_
        exact lw_23 hx hN (by omega) hR kk0
      · refine gj_tabI (off := 893) 925 dL_law_32 (by omega) (by omega) (by rw [t_32]; rfl) (by decide) ?_
        exact lw_24 hx hN (by omega) hR kk0
      · refine gj_tabI (off := 916) 948 dL_law_32 (by omega) (by omega) (by rw [t_32]; rfl) (by decide) ?_
        exact lw_25 hx hN (by omega) hR kk0
      · refine gj_tabI (off := 939) 971 dL_law_32 (by omega) (by omega) (by rw [t_32]; rfl) (by decide) ?_
        exact lw_26 hx hN (by omega) hR kk0
      · refine gj_tabI (off := 962) 994 dL_law_32 (by omega) (by omega) (by rw [t_32]; rfl) (by decide) ?_
        exact lw_27 hx hN (by omega) hR kk0
      · refine gj_tabO 1017 dL_law_32 (by omega) t_32 (by decide) ?_
        exact kk0 M hR

set_option maxRecDepth 100000 in
set_option maxHeartbeats 1000000 in
theorem law_start {xt : Nat × (Nat → Int)} (hx : ∀ j, gj_in (xt.2 j)) (hN : xt.1 ≤ 2560) : gj_G xt YL_law [] 0 0 0 (gj_en YL_law.2.2.1 [gR 1001]) [] zM_ (fun r _ _ => r = some (gI 1)) := by
  show gj_G _ YL_law [] 0 0 0 [some (gR 1001), none, none, none] [] zM_ _
  have hz : ∀ x : Nat, 0 ≤ x → ∀ i : Int, zM_ x i = 0 := fun _ _ _ => rfl
  refine gj_new (fs0 := [2, 0, 2, 2, 2, 2, 2, 2, 2, 2, 2, 2, 1]) 3 dL_law_0 rfl k_X7 cl_L_7 ci_7 rfl (fun j hj => by rcases (show j = 0 ∨ j = 1 ∨ j = 2 ∨ j = 3 ∨ j = 4 ∨ j = 5 ∨ j = 6 ∨ j = 7 ∨ j = 8 ∨ j = 9 ∨ j = 10 ∨ j = 11 ∨ j = 12 by omega) with rfl | rfl | rfl | rfl | rfl | rfl | rfl | rfl | rfl | rfl | rfl | rfl | rfl <;> rfl) (fun i => ⟨rfl, rfl⟩) ⟨by decide +kernel, by decide +kernel, by decide +kernel⟩ (by decide +kernel) ⟨Nat.le_of_ble_eq_true rfl, Nat.le_of_ble_eq_true rfl⟩ ?_
  show gj_G _ _ gz_0 _ _ 3 _ (gR 0 :: []) _ _
  refine gj_dup 4 dL_law_3 rfl (fun _ => rfl) ?_
  refine gj_cI 7 dL_law_4 rfl ok_7_init ⟨rfl, rfl⟩ (Or.inl ml_L_9) ii_7_init (As := []) rfl rfl (Nat.le_of_ble_eq_true rfl) ⟨Nat.le_of_ble_eq_true rfl, Nat.le_of_ble_eq_true rfl⟩ (Nat.le_of_ble_eq_true rfl) ⟨Nat.le_of_ble_eq_true rfl, Nat.le_of_ble_eq_true rfl⟩ (by decide +kernel) (by decide +kernel) (n_X7_0 (fun x hx => hz x (by omega))) (fun S_4 M_4 q_4 => ?_)
  obtain ⟨rfl, hM_4⟩ := q_4
  rw [hM_4]
  refine gj_astore_n (lv' := [_, _, _, _]) 8 dL_law_7 rfl (by decide) rfl ?_
  have hz1 : ∀ x : Nat, 69 ≤ x → ∀ i : Int, (w_one (w_one (w_one (w_one zM_ 21 5) 47 5) 56 5) 65 5) x i = 0 := fun x hx i => by rw [w_one_o (by omega), w_one_o (by omega), w_one_o (by omega), w_one_o (by omega)]; rfl
  refine gj_new (fs0 := [0, 2, 0, 0, 0, 0, 2, 2, 0, 0, 2, 2, 2, 2, 2, 2, 2, 2, 0, 2, 2, 0, 2, 2, 2, 1, 2, 2]) 11 dL_law_8 rfl k_X8 cl_L_10 ci_8 rfl (fun j hj => by rcases (show j = 0 ∨ j = 1 ∨ j = 2 ∨ j = 3 ∨ j = 4 ∨ j = 5 ∨ j = 6 ∨ j = 7 ∨ j = 8 ∨ j = 9 ∨ j = 10 ∨ j = 11 ∨ j = 12 ∨ j = 13 ∨ j = 14 ∨ j = 15 ∨ j = 16 ∨ j = 17 ∨ j = 18 ∨ j = 19 ∨ j = 20 ∨ j = 21 ∨ j = 22 ∨ j = 23 ∨ j = 24 ∨ j = 25 ∨ j = 26 ∨ j = 27 by omega) with rfl | rfl | rfl | rfl | rfl | rfl | rfl | rfl | rfl | rfl | rfl | rfl | rfl | rfl | rfl | rfl | rfl | rfl | rfl | rfl | rfl | rfl | rfl | rfl | rfl | rfl | rfl | rfl <;> rfl) (fun i => ⟨hz1 _ (by decide +kernel) i, hz1 _ (by decide +kernel) i⟩) ⟨by decide +kernel, by decide +kernel, by decide +kernel⟩ (by decide +kernel) ⟨Nat.le_of_ble_eq_true rfl, Nat.le_of_ble_eq_true rfl⟩ ?_
  show gj_G _ _ gz_139 _ _ 11 _ (gR 69 :: []) _ _
  refine gj_dup 12 dL_law_11 rfl (fun _ => rfl) ?_
  refine gj_cI 15 dL_law_12 rfl ok_8_init ⟨rfl, rfl⟩ (Or.inl ml_L_12) ii_8_init (As := []) rfl rfl (Nat.le_of_ble_eq_true rfl) ⟨Nat.le_of_ble_eq_true rfl, Nat.le_of_ble_eq_true rfl⟩ (Nat.le_of_ble_eq_true rfl) ⟨Nat.le_of_ble_eq_true rfl, Nat.le_of_ble_eq_true rfl⟩ (by decide +kernel) (by decide +kernel) (n_X8_69 (fun x hx => hz1 x (by omega))) (fun S_12 M_12 q_12 => ?_)
  obtain ⟨rfl, hM_12⟩ := q_12
  rw [hM_12]
  refine gj_astore_n (lv' := [_, _, _, _]) 16 dL_law_15 rfl (by decide) rfl ?_
  refine gj_iconst 17 dL_law_16 rfl ?_
  refine gj_istore_n (lv' := [_, _, _, _]) 18 dL_law_17 rfl (by decide) rfl ?_
  exact law_l hx hN xt.1 0 M0_ (by omega) (by omega) (by omega) R_init
