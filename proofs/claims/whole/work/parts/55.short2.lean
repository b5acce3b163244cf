set_option maxRecDepth 100000 in
set_option maxHeartbeats 1000000 in
theorem s5_like_l {xt : Nat × (Nat → Int)} {M : gj_M} {i : Int} (hn : 0 ≤ M 24 0 ∧ M 24 0 ≤ 48) (hi : 0 ≤ i ∧ i < M 24 0) (hb : ∀ p : Int, 1 ≤ p → p < 49 → 0 ≤ M 26 p ∧ M 26 p ≤ 100) : ∀ (n k : Nat) (M1 : gj_M), (k : Int) + 1 + n = M 24 0 - i → gj_E [26] M M1 → (∀ p : Int, 1 ≤ p → p ≤ k → M1 26 p = (if M 25 i = M 25 (i + p) then M 26 p + 1 else 0)) → (∀ p : Int, ¬ (1 ≤ p ∧ p ≤ k) → M1 26 p = M 26 p) → gj_G xt Y5_findLike gS 0 0 2 [some (gR 24), some (gI i), some (gI ((k : Int) + 1))] [] M1 (fun r S2 M2 => S2 = gS ∧ r = none ∧ gj_E [26] M M2 ∧ (∀ p : Int, 1 ≤ p → i + p < M 24 0 → M2 26 p = (if M 25 i = M 25 (i + p) then M 26 p + 1 else 0)) ∧ ∀ p : Int, ¬ (1 ≤ p ∧ i + p < M 24 0) → M2 26 p = M 26 p) := by
  intro n
  induction n with
  | zero =>
    intro k M1 hk hE hv hs
    have en : M1 24 0 = M 24 0 := hE 24 (by decide) 0
    refine gj_iload_n 3 dX5_findLike_2 rfl rfl ?_
    refine gj_iload_n 4 dX5_findLike_3 rfl rfl ?_
    refine gj_iadd 5 dX5_findLike_4 rfl ?_
    refine gj_aload_n 6 dX5_findLike_5 rfl rfl ?_
    refine gj_getfiE (M 24 0) 9 dX5_findLike_6 rfl fl_5_41 rfl rfl en (fun r_6 => ?_)
    refine gj_icmp_ge 53 12 dX5_findLike_9 (by decide) rfl (by omega) (by omega) (fun c_9 => ?_) (fun c_9 => absurd c_9 (by omega))
    refine gj_vret dX5_findLike_53 rfl ⟨Nat.zero_le _, Nat.zero_le _⟩ ?_
    exact ⟨rfl, rfl, hE, fun p h1 hp => hv p h1 (by omega), fun p hp => hs p (by omega)⟩
  | succ n ih =>
    intro k M1 hk hE hv hs
    have en : M1 24 0 = M 24 0 := hE 24 (by decide) 0
    refine gj_iload_n 3 dX5_findLike_2 rfl rfl ?_
    refine gj_iload_n 4 dX5_findLike_3 rfl rfl ?_
    refine gj_iadd 5 dX5_findLike_4 rfl ?_
    refine gj_aload_n 6 dX5_findLike_5 rfl rfl ?_
    refine gj_getfiE (M 24 0) 9 dX5_findLike_6 rfl fl_5_41 rfl rfl en (fun r_6 => ?_)
    refine gj_icmp_ge 53 12 dX5_findLike_9 (by decide) rfl (by omega) (by omega) (fun c_9 => absurd c_9 (by omega)) (fun c_9 => ?_)
    refine gj_aload_n 13 dX5_findLike_12 rfl rfl ?_
    refine gj_getfr 16 dX5_findLike_13 rfl fl_5_15 rfl rfl ?_
    refine gj_iload_n 17 dX5_findLike_16 rfl rfl ?_
    refine gj_aload_n 18 dX5_findLike_17 rfl rfl ?_
    refine gj_getfr 21 dX5_findLike_18 rfl fl_5_9 rfl rfl ?_
    refine gj_iload_n 22 dX5_findLike_21 rfl rfl ?_
    refine gj_ialdE (M 25 i) 23 dX5_findLike_22 rfl rfl (by omega) (by omega) (hE 25 (by decide) _) (fun r_22 => ?_)
    refine gj_aload_n 24 dX5_findLike_23 rfl rfl ?_
    refine gj_getfr 27 dX5_findLike_24 rfl fl_5_9 rfl rfl ?_
    refine gj_iload_n 28 dX5_findLike_27 rfl rfl ?_
    refine gj_iload_n 29 dX5_findLike_28 rfl rfl ?_
    refine gj_iadd 30 dX5_findLike_29 rfl ?_
    refine gj_ialdE (M 25 (i + ((k : Int) + 1))) 31 dX5_findLike_30 rfl rfl (by omega) (by omega) (hE 25 (by decide) _) (fun r_30 => ?_)
    refine gj_icmp_ne 45 34 dX5_findLike_31 (by decide) rfl (by omega) (by omega) (fun c_31 => ?_) (fun c_31 => ?_)
    · refine gj_iconst 46 dX5_findLike_45 rfl ?_
      refine gj_iast 47 dX5_findLike_46 rfl rfl (by omega) (by omega) (by omega) ?_
      refine gj_iinc (b := (((k + 1 : Nat) : Int) + 1)) (lv' := [_, _, _]) 50 dX5_findLike_47 rfl rfl (by omega) (by decide) rfl ?_
      refine gj_goto 2 dX5_findLike_50 (by decide) ?_
      exact gj_wk (ih (k + 1) _ (by omega) (hE.tr (gj_E.u (by decide))) (fun p h1 hp => by
        by_cases q : p = ((k : Int) + 1)
        · subst q; rw [gj_u_s]; first | rw [if_pos (by omega)] | rw [if_neg (by omega)]
        · rw [gj_u_i q]; exact hv p h1 (by omega)) (fun p hp => by rw [gj_u_i (by omega)]; exact hs p (by omega))) ⟨rfl, rfl, rfl, trivial⟩
    · have hbk := hb ((k : Int) + 1) (by omega) (by omega)
      refine gj_aload_n 35 dX5_findLike_34 rfl rfl ?_
      refine gj_getfr 38 dX5_findLike_35 rfl fl_5_15 rfl rfl ?_
      refine gj_iload_n 39 dX5_findLike_38 rfl rfl ?_
      refine gj_ialdE (M 26 ((k : Int) + 1)) 40 dX5_findLike_39 rfl rfl (by omega) (by omega) (hs _ (by omega)) (fun r_39 => ?_)
      refine gj_iconst 41 dX5_findLike_40 rfl ?_
      refine gj_iadd 42 dX5_findLike_41 rfl ?_
      refine gj_goto 46 dX5_findLike_42 (by decide) ?_
      refine gj_iast 47 dX5_findLike_46 rfl rfl (by omega) (by omega) (by omega) ?_
      refine gj_iinc (b := (((k + 1 : Nat) : Int) + 1)) (lv' := [_, _, _]) 50 dX5_findLike_47 rfl rfl (by omega) (by decide) rfl ?_
      refine gj_goto 2 dX5_findLike_50 (by decide) ?_
      exact gj_wk (ih (k + 1) _ (by omega) (hE.tr (gj_E.u (by decide))) (fun p h1 hp => by
        by_cases q : p = ((k : Int) + 1)
        · subst q; rw [gj_u_s]; first | rw [if_pos (by omega)] | rw [if_neg (by omega)]
        · rw [gj_u_i q]; exact hv p h1 (by omega)) (fun p hp => by rw [gj_u_i (by omega)]; exact hs p (by omega))) ⟨rfl, rfl, rfl, trivial⟩

set_option maxRecDepth 100000 in
set_option maxHeartbeats 1000000 in
theorem s5_like {xt : Nat × (Nat → Int)} {M : gj_M} {i : Int} (hn : 0 ≤ M 24 0 ∧ M 24 0 ≤ 48) (hi : 0 ≤ i ∧ i < M 24 0) (hb : ∀ p : Int, 1 ≤ p → p < 49 → 0 ≤ M 26 p ∧ M 26 p ≤ 100) : gj_T xt Y5_findLike gS [gR 24, gI i] M (fun r M2 => r = none ∧ gj_E [26] M M2 ∧ (∀ p : Int, 1 ≤ p → i + p < M 24 0 → M2 26 p = (if M 25 i = M 25 (i + p) then M 26 p + 1 else 0)) ∧ ∀ p : Int, ¬ (1 ≤ p ∧ i + p < M 24 0) → M2 26 p = M 26 p) := by
  show gj_G _ Y5_findLike gS 0 0 0 [_, _, _] [] M _
  refine gj_iconst 1 dX5_findLike_0 rfl ?_
  refine gj_istore_n (lv' := [_, _, _]) 2 dX5_findLike_1 rfl (by decide) rfl ?_
  exact gj_wk (s5_like_l hn hi hb (M 24 0 - i - 1).toNat 0 M (by omega) gj_E.rf (fun p h1 h2 => absurd h2 (by omega)) (fun p _ => rfl)) ⟨rfl, rfl, rfl, trivial⟩

set_option maxRecDepth 100000 in
set_option maxHeartbeats 1000000 in
theorem s5_plain_l {xt : Nat × (Nat → Int)} {M : gj_M} {i : Int} (hn : 0 ≤ M 24 0 ∧ M 24 0 ≤ 48) (hi : 0 ≤ i ∧ i < M 24 0) : ∀ (n k : Nat) (M1 : gj_M), (k : Int) + n = M 24 0 - i → gj_E [27] M M1 → (∀ p : Nat, p ≤ k → M1 27 p = q_pl (M 25) i p) → gj_G xt Y5_findPlain gS 0 0 11 [some (gR 24), some (gI i), some (gI (q_rn (M 25) i k)), some (gI ((k : Int) + 1)), none, none] [] M1 (fun r S2 M2 => S2 = gS ∧ r = none ∧ gj_E [27] M M2 ∧ ∀ p : Nat, i + (p : Int) ≤ M 24 0 → M2 27 p = q_pl (M 25) i p) := by
  intro n
  induction n with
  | zero =>
    intro k M1 hk hE hv
    have en : M1 24 0 = M 24 0 := hE 24 (by decide) 0
    have hrb := q_rn_b (M 25) i k
    have hpb := q_pl_b (M 25) i k
    refine gj_iload_n 12 dX5_findPlain_11 rfl rfl ?_
    refine gj_iload_n 13 dX5_findPlain_12 rfl rfl ?_
    refine gj_iadd 14 dX5_findPlain_13 rfl ?_
    refine gj_aload_n 15 dX5_findPlain_14 rfl rfl ?_
    refine gj_getfiE (M 24 0) 18 dX5_findPlain_15 rfl fl_5_41 rfl rfl en (fun r_15 => ?_)
    refine gj_icmp_gt 116 21 dX5_findPlain_18 (by decide) rfl (by omega) (by omega) (fun c_18 => ?_) (fun c_18 => absurd c_18 (by omega))
    refine gj_vret dX5_findPlain_116 rfl ⟨Nat.zero_le _, Nat.zero_le _⟩ ?_
    exact ⟨rfl, rfl, hE, fun p hp => hv p (by omega)⟩
  | succ n ih =>
    intro k M1 hk hE hv
    have en : M1 24 0 = M 24 0 := hE 24 (by decide) 0
    have hrb := q_rn_b (M 25) i k
    have hpb := q_pl_b (M 25) i k
    refine gj_iload_n 12 dX5_findPlain_11 rfl rfl ?_
    refine gj_iload_n 13 dX5_findPlain_12 rfl rfl ?_
    refine gj_iadd 14 dX5_findPlain_13 rfl ?_
    refine gj_aload_n 15 dX5_findPlain_14 rfl rfl ?_
    refine gj_getfiE (M 24 0) 18 dX5_findPlain_15 rfl fl_5_41 rfl rfl en (fun r_15 => ?_)
    refine gj_icmp_gt 116 21 dX5_findPlain_18 (by decide) rfl (by omega) (by omega) (fun c_18 => absurd c_18 (by omega)) (fun c_18 => ?_)
    refine gj_iload_n 22 dX5_findPlain_21 rfl rfl ?_
    refine gj_iload_n 23 dX5_findPlain_22 rfl rfl ?_
    refine gj_iadd 24 dX5_findPlain_23 rfl ?_
    refine gj_iconst 25 dX5_findPlain_24 rfl ?_
    refine gj_isub 26 dX5_findPlain_25 rfl ?_
    refine gj_istore (lv' := [_, _, _, _, _, _]) 28 dX5_findPlain_26 rfl (by decide) rfl ?_
    refine gj_iload_n 29 dX5_findPlain_28 rfl rfl ?_
    refine gj_iconst 30 dX5_findPlain_29 rfl ?_
    refine gj_icmp_le 62 33 dX5_findPlain_30 (by decide) rfl (by omega) (by omega) (fun c_30 => ?_) (fun c_30 => ?_)
    · refine gj_iconst 63 dX5_findPlain_62 rfl ?_
      refine gj_istore (lv' := [_, _, _, _, _, _]) 65 dX5_findPlain_63 rfl (by decide) rfl ?_
      refine gj_iload 67 dX5_findPlain_65 rfl rfl ?_
      refine gj_if_eq 76 70 dX5_findPlain_67 (by decide) rfl (by omega) (fun c_67 => ?_) (fun c_67 => absurd c_67 (by decide))
      refine gj_iconst 77 dX5_findPlain_76 rfl ?_
      refine gj_istore_n (lv' := [_, _, _, _, _, _]) 78 dX5_findPlain_77 rfl (by decide) rfl ?_
      refine gj_aload_n 79 dX5_findPlain_78 rfl rfl ?_
      refine gj_getfr 82 dX5_findPlain_79 rfl fl_5_18 rfl rfl ?_
      refine gj_iload_n 83 dX5_findPlain_82 rfl rfl ?_
      refine gj_iload 85 dX5_findPlain_83 rfl rfl ?_
      refine gj_if_eq 99 88 dX5_findPlain_85 (by decide) rfl (by omega) (fun c_85 => ?_) (fun c_85 => absurd c_85 (by decide))
      refine gj_aload_n 100 dX5_findPlain_99 rfl rfl ?_
      refine gj_getfr 103 dX5_findPlain_100 rfl fl_5_18 rfl rfl ?_
      refine gj_iload_n 104 dX5_findPlain_103 rfl rfl ?_
      refine gj_iconst 105 dX5_findPlain_104 rfl ?_
      refine gj_isub 106 dX5_findPlain_105 rfl ?_
      refine gj_ialdE (q_pl (M 25) i k) 107 dX5_findPlain_106 rfl rfl (by omega) (by omega) (by rw [show ((k : Int) + 1) - 1 = (k : Int) by omega]; exact hv k (by omega)) (fun r_106 => ?_)
      refine gj_iconst 108 dX5_findPlain_107 rfl ?_
      refine gj_iadd 109 dX5_findPlain_108 rfl ?_
      refine gj_iast 110 dX5_findPlain_109 rfl rfl (by omega) (by omega) (by omega) ?_
      refine gj_iinc (b := (((k + 1 : Nat) : Int) + 1)) (lv' := [_, _, _, _, _, _]) 113 dX5_findPlain_110 rfl rfl (by omega) (by decide) rfl ?_
      refine gj_goto 11 dX5_findPlain_113 (by decide) ?_
      first
      | (have hc : 1 ≤ k ∧ q_rn (M 25) i k < 9 ∧ M 25 (i + k) = M 25 (i + k - 1) := by omega
         have h := ih (k + 1) (gj_u M1 27 ((k : Int) + 1) (q_pl (M 25) i k)) (by omega) (hE.tr (gj_E.u (by decide))) (fun p hp => by
           by_cases q : p = k + 1
           · subst q; rw [show (((k + 1 : Nat) : Int)) = ((k : Int) + 1) by omega, gj_u_s, show q_pl (M 25) i (k + 1) = q_pl (M 25) i k from if_pos hc]
           · rw [gj_u_i (by omega)]; exact hv p (by omega))
         rw [show q_rn (M 25) i (k + 1) = q_rn (M 25) i k + 1 from if_pos hc] at h
         exact gj_wk h ⟨rfl, rfl, rfl, rfl, trivial⟩)
      | (have hc : ¬ (1 ≤ k ∧ q_rn (M 25) i k < 9 ∧ M 25 (i + k) = M 25 (i + k - 1)) := by omega
         have h := ih (k + 1) (gj_u M1 27 ((k : Int) + 1) (q_pl (M 25) i k + 2)) (by omega) (hE.tr (gj_E.u (by decide))) (fun p hp => by
           by_cases q : p = k + 1
           · subst q; rw [show (((k + 1 : Nat) : Int)) = ((k : Int) + 1) by omega, gj_u_s, show q_pl (M 25) i (k + 1) = q_pl (M 25) i k + 2 from if_neg hc]
           · rw [gj_u_i (by omega)]; exact hv p (by omega))
         rw [show q_rn (M 25) i (k + 1) = 1 from if_neg hc] at h
         exact gj_wk h ⟨rfl, rfl, rfl, rfl, trivial⟩)
    · refine gj_iload_n 34 dX5_findPlain_33 rfl rfl ?_
      refine gj_bipush 36 dX5_findPlain_34 rfl (by decide) ?_
      refine gj_icmp_ge 62 39 dX5_findPlain_36 (by decide) rfl (by omega) (by omega) (fun c_36 => ?_) (fun c_36 => ?_)
      · refine gj_iconst 63 dX5_findPlain_62 rfl ?_
        refine gj_istore (lv' := [_, _, _, _, _, _]) 65 dX5_findPlain_63 rfl (by decide) rfl ?_
        refine gj_iload 67 dX5_findPlain_65 rfl rfl ?_
        refine gj_if_eq 76 70 dX5_findPlain_67 (by decide) rfl (by omega) (fun c_67 => ?_) (fun c_67 => absurd c_67 (by decide))
        refine gj_iconst 77 dX5_findPlain_76 rfl ?_
        refine gj_istore_n (lv' := [_, _, _, _, _, _]) 78 dX5_findPlain_77 rfl (by decide) rfl ?_
        refine gj_aload_n 79 dX5_findPlain_78 rfl rfl ?_
        refine gj_getfr 82 dX5_findPlain_79 rfl fl_5_18 rfl rfl ?_
        refine gj_iload_n 83 dX5_findPlain_82 rfl rfl ?_
        refine gj_iload 85 dX5_findPlain_83 rfl rfl ?_
        refine gj_if_eq 99 88 dX5_findPlain_85 (by decide) rfl (by omega) (fun c_85 => ?_) (fun c_85 => absurd c_85 (by decide))
        refine gj_aload_n 100 dX5_findPlain_99 rfl rfl ?_
        refine gj_getfr 103 dX5_findPlain_100 rfl fl_5_18 rfl rfl ?_
        refine gj_iload_n 104 dX5_findPlain_103 rfl rfl ?_
        refine gj_iconst 105 dX5_findPlain_104 rfl ?_
        refine gj_isub 106 dX5_findPlain_105 rfl ?_
        refine gj_ialdE (q_pl (M 25) i k) 107 dX5_findPlain_106 rfl rfl (by omega) (by omega) (by rw [show ((k : Int) + 1) - 1 = (k : Int) by omega]; exact hv k (by omega)) (fun r_106 => ?_)
        refine gj_iconst 108 dX5_findPlain_107 rfl ?_
        refine gj_iadd 109 dX5_findPlain_108 rfl ?_
        refine gj_iast 110 dX5_findPlain_109 rfl rfl (by omega) (by omega) (by omega) ?_
        refine gj_iinc (b := (((k + 1 : Nat) : Int) + 1)) (lv' := [_, _, _, _, _, _]) 113 dX5_findPlain_110 rfl rfl (by omega) (by decide) rfl ?_
        refine gj_goto 11 dX5_findPlain_113 (by decide) ?_
        first
        | (have hc : 1 ≤ k ∧ q_rn (M 25) i k < 9 ∧ M 25 (i + k) = M 25 (i + k - 1) := by omega
           have h := ih (k + 1) (gj_u M1 27 ((k : Int) + 1) (q_pl (M 25) i k)) (by omega) (hE.tr (gj_E.u (by decide))) (fun p hp => by
             by_cases q : p = k + 1
             · subst q; rw [show (((k + 1 : Nat) : Int)) = ((k : Int) + 1) by omega, gj_u_s, show q_pl (M 25) i (k + 1) = q_pl (M 25) i k from if_pos hc]
             · rw [gj_u_i (by omega)]; exact hv p (by omega))
           rw [show q_rn (M 25) i (k + 1) = q_rn (M 25) i k + 1 from if_pos hc] at h
           exact gj_wk h ⟨rfl, rfl, rfl, rfl, trivial⟩)
        | (have hc : ¬ (1 ≤ k ∧ q_rn (M 25) i k < 9 ∧ M 25 (i + k) = M 25 (i + k - 1)) := by omega
           have h := ih (k + 1) (gj_u M1 27 ((k : Int) + 1) (q_pl (M 25) i k + 2)) (by omega) (hE.tr (gj_E.u (by decide))) (fun p hp => by
             by_cases q : p = k + 1
             · subst q; rw [show (((k + 1 : Nat) : Int)) = ((k : Int) + 1) by omega, gj_u_s, show q_pl (M 25) i (k + 1) = q_pl (M 25) i k + 2 from if_neg hc]
             · rw [gj_u_i (by omega)]; exact hv p (by omega))
           rw [show q_rn (M 25) i (k + 1) = 1 from if_neg hc] at h
           exact gj_wk h ⟨rfl, rfl, rfl, rfl, trivial⟩)
      · refine gj_aload_n 40 dX5_findPlain_39 rfl rfl ?_
        refine gj_getfr 43 dX5_findPlain_40 rfl fl_5_9 rfl rfl ?_
        refine gj_iload 45 dX5_findPlain_43 rfl rfl ?_
        refine gj_ialdE (M 25 (i + k)) 46 dX5_findPlain_45 rfl rfl (by omega) (by omega) (by rw [hE 25 (by decide)]; congr 1; omega) (fun r_45 => ?_)
        refine gj_aload_n 47 dX5_findPlain_46 rfl rfl ?_
        refine gj_getfr 50 dX5_findPlain_47 rfl fl_5_9 rfl rfl ?_
        refine gj_iload 52 dX5_findPlain_50 rfl rfl ?_
        refine gj_iconst 53 dX5_findPlain_52 rfl ?_
        refine gj_isub 54 dX5_findPlain_53 rfl ?_
        refine gj_ialdE (M 25 (i + k - 1)) 55 dX5_findPlain_54 rfl rfl (by omega) (by omega) (by rw [hE 25 (by decide)]; congr 1; omega) (fun r_54 => ?_)
        refine gj_icmp_ne 62 58 dX5_findPlain_55 (by decide) rfl (by omega) (by omega) (fun c_55 => ?_) (fun c_55 => ?_)
        · refine gj_iconst 63 dX5_findPlain_62 rfl ?_
          refine gj_istore (lv' := [_, _, _, _, _, _]) 65 dX5_findPlain_63 rfl (by decide) rfl ?_
          refine gj_iload 67 dX5_findPlain_65 rfl rfl ?_
          refine gj_if_eq 76 70 dX5_findPlain_67 (by decide) rfl (by omega) (fun c_67 => ?_) (fun c_67 => absurd c_67 (by decide))
          refine gj_iconst 77 dX5_findPlain_76 rfl ?_
          refine gj_istore_n (lv' := [_, _, _, _, _, _]) 78 dX5_findPlain_77 rfl (by decide) rfl ?_
          refine gj_aload_n 79 dX5_findPlain_78 rfl rfl ?_
          refine gj_getfr 82 dX5_findPlain_79 rfl fl_5_18 rfl rfl ?_
          refine gj_iload_n 83 dX5_findPlain_82 rfl rfl ?_
          refine gj_iload 85 dX5_findPlain_83 rfl rfl ?_
          refine gj_if_eq 99 88 dX5_findPlain_85 (by decide) rfl (by omega) (fun c_85 => ?_) (fun c_85 => absurd c_85 (by decide))
          refine gj_aload_n 100 dX5_findPlain_99 rfl rfl ?_
          refine gj_getfr 103 dX5_findPlain_100 rfl fl_5_18 rfl rfl ?_
          refine gj_iload_n 104 dX5_findPlain_103 rfl rfl ?_
          refine gj_iconst 105 dX5_findPlain_104 rfl ?_
          refine gj_isub 106 dX5_findPlain_105 rfl ?_
          refine gj_ialdE (q_pl (M 25) i k) 107 dX5_findPlain_106 rfl rfl (by omega) (by omega) (by rw [show ((k : Int) + 1) - 1 = (k : Int) by omega]; exact hv k (by omega)) (fun r_106 => ?_)
          refine gj_iconst 108 dX5_findPlain_107 rfl ?_
          refine gj_iadd 109 dX5_findPlain_108 rfl ?_
          refine gj_iast 110 dX5_findPlain_109 rfl rfl (by omega) (by omega) (by omega) ?_
          refine gj_iinc (b := (((k + 1 : Nat) : Int) + 1)) (lv' := [_, _, _, _, _, _]) 113 dX5_findPlain_110 rfl rfl (by omega) (by decide) rfl ?_
          refine gj_goto 11 dX5_findPlain_113 (by decide) ?_
          first
          | (have hc : 1 ≤ k ∧ q_rn (M 25) i k < 9 ∧ M 25 (i + k) = M 25 (i + k - 1) := by omega
             have h := ih (k + 1) (gj_u M1 27 ((k : Int) + 1) (q_pl (M 25) i k)) (by omega) (hE.tr (gj_E.u (by decide))) (fun p hp => by
               by_cases q : p = k + 1
               · subst q; rw [show (((k + 1 : Nat) : Int)) = ((k : Int) + 1) by omega, gj_u_s, show q_pl (M 25) i (k + 1) = q_pl (M 25) i k from if_pos hc]
               · rw [gj_u_i (by omega)]; exact hv p (by omega))
             rw [show q_rn (M 25) i (k + 1) = q_rn (M 25) i k + 1 from if_pos hc] at h
             exact gj_wk h ⟨rfl, rfl, rfl, rfl, trivial⟩)
          | (have hc : ¬ (1 ≤ k ∧ q_rn (M 25) i k < 9 ∧ M 25 (i + k) = M 25 (i + k - 1)) := by omega
             have h := ih (k + 1) (gj_u M1 27 ((k : Int) + 1) (q_pl (M 25) i k + 2)) (by omega) (hE.tr (gj_E.u (by decide))) (fun p hp => by
               by_cases q : p = k + 1
               · subst q; rw [show (((k + 1 : Nat) : Int)) = ((k : Int) + 1) by omega, gj_u_s, show q_pl (M 25) i (k + 1) = q_pl (M 25) i k + 2 from if_neg hc]
               · rw [gj_u_i (by omega)]; exact hv p (by omega))
             rw [show q_rn (M 25) i (k + 1) = 1 from if_neg hc] at h
             exact gj_wk h ⟨rfl, rfl, rfl, rfl, trivial⟩)
        · refine gj_iconst 59 dX5_findPlain_58 rfl ?_
          refine gj_goto 63 dX5_findPlain_59 (by decide) ?_
          refine gj_istore (lv' := [_, _, _, _, _, _]) 65 dX5_findPlain_63 rfl (by decide) rfl ?_
          refine gj_iload 67 dX5_findPlain_65 rfl rfl ?_
          refine gj_if_eq 76 70 dX5_findPlain_67 (by decide) rfl (by omega) (fun c_67 => absurd c_67 (by decide)) (fun c_67 => ?_)
          refine gj_iload_n 71 dX5_findPlain_70 rfl rfl ?_
          refine gj_iconst 72 dX5_findPlain_71 rfl ?_
          refine gj_iadd 73 dX5_findPlain_72 rfl ?_
          refine gj_goto 77 dX5_findPlain_73 (by decide) ?_
          refine gj_istore_n (lv' := [_, _, _, _, _, _]) 78 dX5_findPlain_77 rfl (by decide) rfl ?_
          refine gj_aload_n 79 dX5_findPlain_78 rfl rfl ?_
          refine gj_getfr 82 dX5_findPlain_79 rfl fl_5_18 rfl rfl ?_
          refine gj_iload_n 83 dX5_findPlain_82 rfl rfl ?_
          refine gj_iload 85 dX5_findPlain_83 rfl rfl ?_
          refine gj_if_eq 99 88 dX5_findPlain_85 (by decide) rfl (by omega) (fun c_85 => absurd c_85 (by decide)) (fun c_85 => ?_)
          refine gj_aload_n 89 dX5_findPlain_88 rfl rfl ?_
          refine gj_getfr 92 dX5_findPlain_89 rfl fl_5_18 rfl rfl ?_
          refine gj_iload_n 93 dX5_findPlain_92 rfl rfl ?_
          refine gj_iconst 94 dX5_findPlain_93 rfl ?_
          refine gj_isub 95 dX5_findPlain_94 rfl ?_
          refine gj_ialdE (q_pl (M 25) i k) 96 dX5_findPlain_95 rfl rfl (by omega) (by omega) (by rw [show ((k : Int) + 1) - 1 = (k : Int) by omega]; exact hv k (by omega)) (fun r_95 => ?_)
          refine gj_goto 109 dX5_findPlain_96 (by decide) ?_
          refine gj_iast 110 dX5_findPlain_109 rfl rfl (by omega) (by omega) (by omega) ?_
          refine gj_iinc (b := (((k + 1 : Nat) : Int) + 1)) (lv' := [_, _, _, _, _, _]) 113 dX5_findPlain_110 rfl rfl (by omega) (by decide) rfl ?_
          refine gj_goto 11 dX5_findPlain_113 (by decide) ?_
          first
          | (have hc : 1 ≤ k ∧ q_rn (M 25) i k < 9 ∧ M 25 (i + k) = M 25 (i + k - 1) := by omega
             have h := ih (k + 1) (gj_u M1 27 ((k : Int) + 1) (q_pl (M 25) i k)) (by omega) (hE.tr (gj_E.u (by decide))) (fun p hp => by
               by_cases q : p = k + 1
               · subst q; rw [show (((k + 1 : Nat) : Int)) = ((k : Int) + 1) by omega, gj_u_s, show q_pl (M 25) i (k + 1) = q_pl (M 25) i k from if_pos hc]
               · rw [gj_u_i (by omega)]; exact hv p (by omega))
             rw [show q_rn (M 25) i (k + 1) = q_rn (M 25) i k + 1 from if_pos hc] at h
             exact gj_wk h ⟨rfl, rfl, rfl, rfl, trivial⟩)
          | (have hc : ¬ (1 ≤ k ∧ q_rn (M 25) i k < 9 ∧ M 25 (i + k) = M 25 (i + k - 1)) := by omega
             have h := ih (k + 1) (gj_u M1 27 ((k : Int) + 1) (q_pl (M 25) i k + 2)) (by omega) (hE.tr (gj_E.u (by decide))) (fun p hp => by
               by_cases q : p = k + 1
               · subst q; rw [show (((k + 1 : Nat) : Int)) = ((k : Int) + 1) by omega, gj_u_s, show q_pl (M 25) i (k + 1) = q_pl (M 25) i k + 2 from if_neg hc]
               · rw [gj_u_i (by omega)]; exact hv p (by omega))
             rw [show q_rn (M 25) i (k + 1) = 1 from if_neg hc] at h
             exact gj_wk h ⟨rfl, rfl, rfl, rfl, trivial⟩)

set_option maxRecDepth 100000 in
set_option maxHeartbeats 1000000 in
theorem s5_plain {xt : Nat × (Nat → Int)} {M : gj_M} {i : Int} (hn : 0 ≤ M 24 0 ∧ M 24 0 ≤ 48) (hi : 0 ≤ i ∧ i < M 24 0) : gj_T xt Y5_findPlain gS [gR 24, gI i] M (fun r M2 => r = none ∧ gj_E [27] M M2 ∧ ∀ p : Nat, i + (p : Int) ≤ M 24 0 → M2 27 p = q_pl (M 25) i p) := by
  show gj_G _ Y5_findPlain gS 0 0 0 [_, _, _, _, _, _] [] M _
  refine gj_aload_n 1 dX5_findPlain_0 rfl rfl ?_
  refine gj_getfr 4 dX5_findPlain_1 rfl fl_5_18 rfl rfl ?_
  refine gj_iconst 5 dX5_findPlain_4 rfl ?_
  refine gj_iconst 6 dX5_findPlain_5 rfl ?_
  refine gj_iast 7 dX5_findPlain_6 rfl rfl (by omega) (by omega) (by omega) ?_
  refine gj_iconst 8 dX5_findPlain_7 rfl ?_
  refine gj_istore_n (lv' := [_, _, _, _, _, _]) 9 dX5_findPlain_8 rfl (by decide) rfl ?_
  refine gj_iconst 10 dX5_findPlain_9 rfl ?_
  refine gj_istore_n (lv' := [_, _, _, _, _, _]) 11 dX5_findPlain_10 rfl (by decide) rfl ?_
  exact gj_wk (s5_plain_l hn hi (M 24 0 - i).toNat 0 _ (by omega) (gj_E.u (by decide)) (fun p hp => by rw [show p = 0 by omega]; exact gj_u_s)) ⟨rfl, rfl, rfl, rfl, trivial⟩
