set_option maxRecDepth 100000 in
set_option maxHeartbeats 1000000 in
theorem s5_once_p {xt : Nat × (Nat → Int)} {M : gj_M} {i : Int} (hn : 0 ≤ M 24 0 ∧ M 24 0 ≤ 48) (hi : 0 ≤ i ∧ i < M 24 0) (hit : ∀ m : Int, 1 ≤ m → m ≤ M 24 0 - i → 0 ≤ M 28 m ∧ M 28 m ≤ 1000) (hon : ∀ j p : Int, i < j → j ≤ M 24 0 → 0 ≤ p → j + p ≤ M 24 0 → 0 ≤ M 29 (49 * j + p) ∧ M 29 (49 * j + p) ≤ 1000) (Qn : Nat) (hQ : ((Qn : Int) + 1) ≤ M 24 0 - i) {Q : Option gj_V → List gj_H → gj_M → Prop} (kk : ∀ M1, gj_E [29] M M1 → (∀ j : Int, ¬ (49 * i ≤ j ∧ j ≤ 49 * i + (M 24 0 - i)) → M1 29 j = M 29 j) → M1 29 (49 * i) = 0 → (∀ pn : Nat, 1 ≤ pn → (pn : Int) ≤ M 24 0 - i → M1 29 (49 * i + pn) = q_mn (M 28) (fun z => M 29 (49 * (i + z) + ((pn : Int) - z))) (min (Qn + 1) pn)) → gj_G xt Y5_findOnce gS 0 0 135 [some (gR 24), some (gI i), some (gI (M 24 0 - i)), some (gI (49 * i)), some (gI ((Qn : Int) + 1)), none, none] [] M1 Q) : ∀ (d c : Nat) (M1 : gj_M), ((Qn : Int) + 1 + c) + d = M 24 0 - i + 1 → gj_E [29] M M1 → (∀ j : Int, ¬ (49 * i ≤ j ∧ j ≤ 49 * i + (M 24 0 - i)) → M1 29 j = M 29 j) → M1 29 (49 * i) = 0 → (∀ pn : Nat, 1 ≤ pn → (pn : Int) ≤ M 24 0 - i → M1 29 (49 * i + pn) = q_mn (M 28) (fun z => M 29 (49 * (i + z) + ((pn : Int) - z))) (if (pn : Int) < (Qn : Int) + 1 + c then min (Qn + 1) pn else min Qn pn)) → gj_G xt Y5_findOnce gS 0 0 68 [some (gR 24), some (gI i), some (gI (M 24 0 - i)), some (gI (49 * i)), some (gI ((Qn : Int) + 1)), some (gI (49 * (i + ((Qn : Int) + 1)))), some (gI ((Qn : Int) + 1 + c))] [] M1 Q := by
  intro d
  induction d with
  | zero =>
    intro c M1 hk hE ho hz hv
    have hq1 := hit ((Qn : Int) + 1) (by omega) (by omega)
    have e28 : M1 28 ((Qn : Int) + 1) = M 28 ((Qn : Int) + 1) := hE 28 (by decide) _
    refine gj_aload_n 69 dX5_findOnce_68 rfl rfl ?_
    refine gj_getfr 72 dX5_findOnce_69 rfl fl_5_21 rfl rfl ?_
    refine gj_iload 74 dX5_findOnce_72 rfl rfl ?_
    refine gj_ialdE (M 28 ((Qn : Int) + 1)) 75 dX5_findOnce_74 rfl rfl (by omega) (by omega) e28 (fun r_74 => ?_)
    refine gj_sipush 78 dX5_findOnce_75 rfl (by decide) ?_
    refine gj_icmp_ge 135 81 dX5_findOnce_78 (by decide) rfl (by omega) (by omega) (fun c_78 => ?_) (fun c_78 => ?_)
    · refine gj_wk (kk M1 hE ho hz (fun pn h1 hp => ?_)) ⟨rfl, rfl, rfl, rfl, rfl, trivial⟩
      rw [hv pn h1 hp]
      split
      · rfl
      · have e1 : min Qn pn = Qn := by omega
        have e2 : min (Qn + 1) pn = Qn + 1 := by omega
        rw [e1, e2]
        exact (if_neg (by omega)).symm
    · refine gj_iload 83 dX5_findOnce_81 rfl rfl ?_
      refine gj_iload_n 84 dX5_findOnce_83 rfl rfl ?_
      refine gj_icmp_gt 135 87 dX5_findOnce_84 (by decide) rfl (by omega) (by omega) (fun c_84 => ?_) (fun c_84 => absurd c_84 (by omega))
      refine gj_wk (kk M1 hE ho hz (fun pn h1 hp => ?_)) ⟨rfl, rfl, rfl, rfl, rfl, trivial⟩
      rw [hv pn h1 hp, if_pos (by omega)]
  | succ d ih =>
    intro c M1 hk hE ho hz hv
    have hq1 := hit ((Qn : Int) + 1) (by omega) (by omega)
    have e28 : M1 28 ((Qn : Int) + 1) = M 28 ((Qn : Int) + 1) := hE 28 (by decide) _
    refine gj_aload_n 69 dX5_findOnce_68 rfl rfl ?_
    refine gj_getfr 72 dX5_findOnce_69 rfl fl_5_21 rfl rfl ?_
    refine gj_iload 74 dX5_findOnce_72 rfl rfl ?_
    refine gj_ialdE (M 28 ((Qn : Int) + 1)) 75 dX5_findOnce_74 rfl rfl (by omega) (by omega) e28 (fun r_74 => ?_)
    refine gj_sipush 78 dX5_findOnce_75 rfl (by decide) ?_
    refine gj_icmp_ge 135 81 dX5_findOnce_78 (by decide) rfl (by omega) (by omega) (fun c_78 => ?_) (fun c_78 => ?_)
    · refine gj_wk (kk M1 hE ho hz (fun pn h1 hp => ?_)) ⟨rfl, rfl, rfl, rfl, rfl, trivial⟩
      rw [hv pn h1 hp]
      split
      · rfl
      · have e1 : min Qn pn = Qn := by omega
        have e2 : min (Qn + 1) pn = Qn + 1 := by omega
        rw [e1, e2]
        exact (if_neg (by omega)).symm
    · refine gj_iload 83 dX5_findOnce_81 rfl rfl ?_
      refine gj_iload_n 84 dX5_findOnce_83 rfl rfl ?_
      refine gj_icmp_gt 135 87 dX5_findOnce_84 (by decide) rfl (by omega) (by omega) (fun c_84 => absurd c_84 (by omega)) (fun c_84 => ?_)
      have hpn0 := hv (Qn + 1 + c) (by omega) (by omega)
      have hpn : M1 29 (49 * i + ((Qn : Int) + 1 + c)) = q_mn (M 28) (fun z => M 29 (49 * (i + z) + (((Qn : Int) + 1 + c) - z))) Qn := by
        rw [show (((Qn + 1 + c : Nat) : Int)) = ((Qn : Int) + 1 + c) by omega] at hpn0
        rw [hpn0, if_neg (by omega), show min Qn (Qn + 1 + c) = Qn by omega]
      have hrb := hon (i + ((Qn : Int) + 1)) (((Qn : Int) + 1 + c) - ((Qn : Int) + 1)) (by omega) (by omega) (by omega) (by omega)
      have hqb := q_mn_b (it := M 28) (f := fun z => M 29 (49 * (i + z) + (((Qn : Int) + 1 + c) - z))) Qn (fun z z1 z2 => ⟨(hit z z1 (by omega)).1, (hon (i + z) (((Qn : Int) + 1 + c) - z) (by omega) (by omega) (by omega) (by omega)).1⟩)
      refine gj_aload_n 88 dX5_findOnce_87 rfl rfl ?_
      refine gj_getfr 91 dX5_findOnce_88 rfl fl_5_24 rfl rfl ?_
      refine gj_iload_n 92 dX5_findOnce_91 rfl rfl ?_
      refine gj_iload 94 dX5_findOnce_92 rfl rfl ?_
      refine gj_iadd 95 dX5_findOnce_94 rfl ?_
      refine gj_aload_n 96 dX5_findOnce_95 rfl rfl ?_
      refine gj_getfr 99 dX5_findOnce_96 rfl fl_5_24 rfl rfl ?_
      refine gj_iload_n 100 dX5_findOnce_99 rfl rfl ?_
      refine gj_iload 102 dX5_findOnce_100 rfl rfl ?_
      refine gj_iadd 103 dX5_findOnce_102 rfl ?_
      refine gj_ialdE (q_mn (M 28) (fun z => M 29 (49 * (i + z) + (((Qn : Int) + 1 + c) - z))) Qn) 104 dX5_findOnce_103 rfl rfl (by omega) (by omega) hpn (fun r_103 => ?_)
      refine gj_aload_n 105 dX5_findOnce_104 rfl rfl ?_
      refine gj_getfr 108 dX5_findOnce_105 rfl fl_5_21 rfl rfl ?_
      refine gj_iload 110 dX5_findOnce_108 rfl rfl ?_
      refine gj_ialdE (M 28 ((Qn : Int) + 1)) 111 dX5_findOnce_110 rfl rfl (by omega) (by omega) e28 (fun r_110 => ?_)
      refine gj_aload_n 112 dX5_findOnce_111 rfl rfl ?_
      refine gj_getfr 115 dX5_findOnce_112 rfl fl_5_24 rfl rfl ?_
      refine gj_iload 117 dX5_findOnce_115 rfl rfl ?_
      refine gj_iload 119 dX5_findOnce_117 rfl rfl ?_
      refine gj_iadd 120 dX5_findOnce_119 rfl ?_
      refine gj_iload 122 dX5_findOnce_120 rfl rfl ?_
      refine gj_isub 123 dX5_findOnce_122 rfl ?_
      refine gj_ialdE (M 29 (49 * (i + ((Qn : Int) + 1)) + (((Qn : Int) + 1 + c) - ((Qn : Int) + 1)))) 124 dX5_findOnce_123 rfl rfl (by omega) (by omega) (by rw [show 49 * (i + ((Qn : Int) + 1)) + ((Qn : Int) + 1 + c) - ((Qn : Int) + 1) = 49 * (i + ((Qn : Int) + 1)) + (((Qn : Int) + 1 + c) - ((Qn : Int) + 1)) by omega]; exact ho _ (by omega)) (fun r_123 => ?_)
      refine gj_iadd 125 dX5_findOnce_124 rfl ?_
      refine gj_min 128 dX5_findOnce_125 rfl ml_5_35 (by omega) (by omega) (by decide) (Nat.le_of_ble_eq_true rfl) ⟨Nat.zero_le _, Nat.zero_le _⟩ ?_
      refine gj_iast 129 dX5_findOnce_128 rfl rfl (by omega) (by omega) (by omega) ?_
      refine gj_iinc (b := ((Qn : Int) + 1 + ((c + 1 : Nat) : Int))) (lv' := [_, _, _, _, _, _, _]) 132 dX5_findOnce_129 rfl rfl (by omega) (by decide) rfl ?_
      refine gj_goto 68 dX5_findOnce_132 (by decide) ?_
      refine gj_wk (ih (c + 1) _ (by omega) (hE.tr (gj_E.u (by decide))) (fun j hj => by rw [gj_u_i (by omega)]; exact ho j hj) (by rw [gj_u_i (by omega)]; exact hz) (fun pn h1 hp => ?_)) ⟨rfl, rfl, rfl, rfl, rfl, rfl, rfl, trivial⟩
      by_cases q : (pn : Int) = ((Qn : Int) + 1 + c)
      · rw [q, gj_u_s, if_pos (by omega)]
        have e1 : min (Qn + 1) pn = Qn + 1 := by omega
        rw [e1]
        have e3 : q_mn (M 28) (fun z => M 29 (49 * (i + z) + ((pn : Int) - z))) (Qn + 1) = min (q_mn (M 28) (fun z => M 29 (49 * (i + z) + ((pn : Int) - z))) (Qn)) (M 28 ((Qn : Int) + 1) + M 29 (49 * (i + ((Qn : Int) + 1)) + ((pn : Int) - ((Qn : Int) + 1)))) := if_pos (by omega)
        rw [q] at e3
        exact e3.symm
      · rw [gj_u_i (by omega), hv pn h1 hp]
        congr 1
        split
        · rw [if_pos (by omega)]
        · rw [if_neg (by omega)]

set_option maxRecDepth 100000 in
set_option maxHeartbeats 1000000 in
theorem s5_once_q {xt : Nat × (Nat → Int)} {M : gj_M} {i : Int} (hn : 0 ≤ M 24 0 ∧ M 24 0 ≤ 48) (hi : 0 ≤ i ∧ i < M 24 0) (hit : ∀ m : Int, 1 ≤ m → m ≤ M 24 0 - i → 0 ≤ M 28 m ∧ M 28 m ≤ 1000) (hon : ∀ j p : Int, i < j → j ≤ M 24 0 → 0 ≤ p → j + p ≤ M 24 0 → 0 ≤ M 29 (49 * j + p) ∧ M 29 (49 * j + p) ≤ 1000) : ∀ (d Qn : Nat) (M1 : gj_M), (Qn : Int) + d = M 24 0 - i → gj_E [29] M M1 → (∀ j : Int, ¬ (49 * i ≤ j ∧ j ≤ 49 * i + (M 24 0 - i)) → M1 29 j = M 29 j) → M1 29 (49 * i) = 0 → (∀ pn : Nat, 1 ≤ pn → (pn : Int) ≤ M 24 0 - i → M1 29 (49 * i + pn) = q_mn (M 28) (fun z => M 29 (49 * (i + z) + ((pn : Int) - z))) (min Qn pn)) → gj_G xt Y5_findOnce gS 0 0 49 [some (gR 24), some (gI i), some (gI (M 24 0 - i)), some (gI (49 * i)), some (gI ((Qn : Int) + 1)), none, none] [] M1 (fun r S2 M2 => S2 = gS ∧ r = none ∧ gj_E [29] M M2 ∧ (∀ j : Int, ¬ (49 * i ≤ j ∧ j ≤ 49 * i + (M 24 0 - i)) → M2 29 j = M 29 j) ∧ M2 29 (49 * i) = 0 ∧ (∀ pn : Nat, 1 ≤ pn → (pn : Int) ≤ M 24 0 - i → M2 29 (49 * i + pn) = q_mn (M 28) (fun z => M 29 (49 * (i + z) + ((pn : Int) - z))) (pn))) := by
  intro d
  induction d with
  | zero =>
    intro Qn M1 hk hE ho hz hv
    refine gj_iload 51 dX5_findOnce_49 rfl rfl ?_
    refine gj_iload_n 52 dX5_findOnce_51 rfl rfl ?_
    refine gj_icmp_gt 141 55 dX5_findOnce_52 (by decide) rfl (by omega) (by omega) (fun c_52 => ?_) (fun c_52 => absurd c_52 (by omega))
    refine gj_vret dX5_findOnce_141 rfl ⟨Nat.zero_le _, Nat.zero_le _⟩ ?_
    exact ⟨rfl, rfl, hE, ho, hz, fun pn h1 hp => by rw [hv pn h1 hp, show min Qn pn = pn by omega]⟩
  | succ d ih =>
    intro Qn M1 hk hE ho hz hv
    refine gj_iload 51 dX5_findOnce_49 rfl rfl ?_
    refine gj_iload_n 52 dX5_findOnce_51 rfl rfl ?_
    refine gj_icmp_gt 141 55 dX5_findOnce_52 (by decide) rfl (by omega) (by omega) (fun c_52 => absurd c_52 (by omega)) (fun c_52 => ?_)
    refine gj_bipush 57 dX5_findOnce_55 rfl (by decide) ?_
    refine gj_iload_n 58 dX5_findOnce_57 rfl rfl ?_
    refine gj_iload 60 dX5_findOnce_58 rfl rfl ?_
    refine gj_iadd 61 dX5_findOnce_60 rfl ?_
    refine gj_imul 62 dX5_findOnce_61 rfl ?_
    refine gj_istore (lv' := [_, _, _, _, _, _, _]) 64 dX5_findOnce_62 rfl (by decide) rfl ?_
    refine gj_iload 66 dX5_findOnce_64 rfl rfl ?_
    refine gj_istore (lv' := [_, _, _, _, _, _, _]) 68 dX5_findOnce_66 rfl (by decide) rfl ?_
    refine gj_wk (s5_once_p hn hi hit hon Qn (by omega) (fun M2 hE2 ho2 hz2 hv2 => ?_) (M 24 0 - i - Qn).toNat 0 M1 (by omega) hE ho hz (fun pn h1 hp => ?_)) ⟨rfl, rfl, rfl, rfl, rfl, rfl, by simp, trivial⟩
    · refine gj_iinc (b := (((Qn + 1 : Nat) : Int) + 1)) (lv' := [_, _, _, _, _, _, _]) 138 dX5_findOnce_135 rfl rfl (by omega) (by decide) rfl ?_
      refine gj_goto 49 dX5_findOnce_138 (by decide) ?_
      exact gj_wk (ih (Qn + 1) M2 (by omega) hE2 ho2 hz2 (fun pn h1 hp => hv2 pn h1 hp)) ⟨rfl, rfl, rfl, rfl, rfl, trivial⟩
    · rw [hv pn h1 hp]
      congr 1
      split <;> omega

set_option maxRecDepth 100000 in
set_option maxHeartbeats 1000000 in
theorem s5_once_1 {xt : Nat × (Nat → Int)} {M : gj_M} {i : Int} (hn : 0 ≤ M 24 0 ∧ M 24 0 ≤ 48) (hi : 0 ≤ i ∧ i < M 24 0) (hit : ∀ m : Int, 1 ≤ m → m ≤ M 24 0 - i → 0 ≤ M 28 m ∧ M 28 m ≤ 1000) (hon : ∀ j p : Int, i < j → j ≤ M 24 0 → 0 ≤ p → j + p ≤ M 24 0 → 0 ≤ M 29 (49 * j + p) ∧ M 29 (49 * j + p) ≤ 1000) : ∀ (d k : Nat) (M1 : gj_M), (k : Int) + d = M 24 0 - i → gj_E [29] M M1 → (∀ j : Int, ¬ (49 * i ≤ j ∧ j ≤ 49 * i + (M 24 0 - i)) → M1 29 j = M 29 j) → M1 29 (49 * i) = 0 → (∀ pn : Nat, 1 ≤ pn → pn ≤ k → M1 29 (49 * i + pn) = 1000) → gj_G xt Y5_findOnce gS 0 0 22 [some (gR 24), some (gI i), some (gI (M 24 0 - i)), some (gI (49 * i)), some (gI ((k : Int) + 1)), none, none] [] M1 (fun r S2 M2 => S2 = gS ∧ r = none ∧ gj_E [29] M M2 ∧ (∀ j : Int, ¬ (49 * i ≤ j ∧ j ≤ 49 * i + (M 24 0 - i)) → M2 29 j = M 29 j) ∧ M2 29 (49 * i) = 0 ∧ (∀ pn : Nat, 1 ≤ pn → (pn : Int) ≤ M 24 0 - i → M2 29 (49 * i + pn) = q_mn (M 28) (fun z => M 29 (49 * (i + z) + ((pn : Int) - z))) (pn))) := by
  intro d
  induction d with
  | zero =>
    intro k M1 hk hE ho hz hv
    refine gj_iload 24 dX5_findOnce_22 rfl rfl ?_
    refine gj_iload_n 25 dX5_findOnce_24 rfl rfl ?_
    refine gj_icmp_gt 46 28 dX5_findOnce_25 (by decide) rfl (by omega) (by omega) (fun c_25 => ?_) (fun c_25 => absurd c_25 (by omega))
    refine gj_iconst 47 dX5_findOnce_46 rfl ?_
    refine gj_istore (lv' := [_, _, _, _, _, _, _]) 49 dX5_findOnce_47 rfl (by decide) rfl ?_
    exact gj_wk (s5_once_q hn hi hit hon (M 24 0 - i).toNat 0 M1 (by omega) hE ho hz (fun pn h1 hp => by rw [hv pn h1 (by omega), show min 0 pn = 0 by omega]; rfl)) ⟨rfl, rfl, rfl, rfl, rfl, trivial⟩
  | succ d ih =>
    intro k M1 hk hE ho hz hv
    refine gj_iload 24 dX5_findOnce_22 rfl rfl ?_
    refine gj_iload_n 25 dX5_findOnce_24 rfl rfl ?_
    refine gj_icmp_gt 46 28 dX5_findOnce_25 (by decide) rfl (by omega) (by omega) (fun c_25 => absurd c_25 (by omega)) (fun c_25 => ?_)
    refine gj_aload_n 29 dX5_findOnce_28 rfl rfl ?_
    refine gj_getfr 32 dX5_findOnce_29 rfl fl_5_24 rfl rfl ?_
    refine gj_iload_n 33 dX5_findOnce_32 rfl rfl ?_
    refine gj_iload 35 dX5_findOnce_33 rfl rfl ?_
    refine gj_iadd 36 dX5_findOnce_35 rfl ?_
    refine gj_sipush 39 dX5_findOnce_36 rfl (by decide) ?_
    refine gj_iast 40 dX5_findOnce_39 rfl rfl (by omega) (by omega) (by omega) ?_
    refine gj_iinc (b := (((k + 1 : Nat) : Int) + 1)) (lv' := [_, _, _, _, _, _, _]) 43 dX5_findOnce_40 rfl rfl (by omega) (by decide) rfl ?_
    refine gj_goto 22 dX5_findOnce_43 (by decide) ?_
    exact gj_wk (ih (k + 1) _ (by omega) (hE.tr (gj_E.u (by decide))) (fun j hj => by rw [gj_u_i (by omega)]; exact ho j hj) (by rw [gj_u_i (by omega)]; exact hz) (fun pn h1 hp => by
      by_cases q : (pn : Int) = ((k : Int) + 1)
      · rw [q, gj_u_s]
      · rw [gj_u_i (by omega)]; exact hv pn h1 (by omega))) ⟨rfl, rfl, rfl, rfl, rfl, trivial⟩

set_option maxRecDepth 100000 in
set_option maxHeartbeats 1000000 in
theorem s5_once {xt : Nat × (Nat → Int)} {M : gj_M} {i : Int} (hn : 0 ≤ M 24 0 ∧ M 24 0 ≤ 48) (hi : 0 ≤ i ∧ i < M 24 0) (hit : ∀ m : Int, 1 ≤ m → m ≤ M 24 0 - i → 0 ≤ M 28 m ∧ M 28 m ≤ 1000) (hon : ∀ j p : Int, i < j → j ≤ M 24 0 → 0 ≤ p → j + p ≤ M 24 0 → 0 ≤ M 29 (49 * j + p) ∧ M 29 (49 * j + p) ≤ 1000) : gj_T xt Y5_findOnce gS [gR 24, gI i] M (fun r M2 => r = none ∧ gj_E [29] M M2 ∧ (∀ j : Int, ¬ (49 * i ≤ j ∧ j ≤ 49 * i + (M 24 0 - i)) → M2 29 j = M 29 j) ∧ M2 29 (49 * i) = 0 ∧ (∀ pn : Nat, 1 ≤ pn → (pn : Int) ≤ M 24 0 - i → M2 29 (49 * i + pn) = q_mn (M 28) (fun z => M 29 (49 * (i + z) + ((pn : Int) - z))) (pn))) := by
  show gj_G _ Y5_findOnce gS 0 0 0 [_, _, _, _, _, _, _] [] M _
  refine gj_aload_n 1 dX5_findOnce_0 rfl rfl ?_
  refine gj_getfi 4 dX5_findOnce_1 rfl fl_5_41 rfl rfl (fun r_1 => ?_)
  refine gj_iload_n 5 dX5_findOnce_4 rfl rfl ?_
  refine gj_isub 6 dX5_findOnce_5 rfl ?_
  refine gj_istore_n (lv' := [_, _, _, _, _, _, _]) 7 dX5_findOnce_6 rfl (by decide) rfl ?_
  refine gj_bipush 9 dX5_findOnce_7 rfl (by decide) ?_
  refine gj_iload_n 10 dX5_findOnce_9 rfl rfl ?_
  refine gj_imul 11 dX5_findOnce_10 rfl ?_
  refine gj_istore_n (lv' := [_, _, _, _, _, _, _]) 12 dX5_findOnce_11 rfl (by decide) rfl ?_
  refine gj_aload_n 13 dX5_findOnce_12 rfl rfl ?_
  refine gj_getfr 16 dX5_findOnce_13 rfl fl_5_24 rfl rfl ?_
  refine gj_iload_n 17 dX5_findOnce_16 rfl rfl ?_
  refine gj_iconst 18 dX5_findOnce_17 rfl ?_
  refine gj_iast 19 dX5_findOnce_18 rfl rfl (by omega) (by omega) (by omega) ?_
  refine gj_iconst 20 dX5_findOnce_19 rfl ?_
  refine gj_istore (lv' := [_, _, _, _, _, _, _]) 22 dX5_findOnce_20 rfl (by decide) rfl ?_
  exact gj_wk (s5_once_1 hn hi hit hon (M 24 0 - i).toNat 0 (gj_u M 29 (49 * i) 0) (by omega) (gj_E.u (by decide)) (fun j hj => gj_u_i (by omega)) gj_u_s (fun pn h1 h2 => absurd h2 (by omega))) ⟨rfl, rfl, rfl, rfl, rfl, trivial⟩

set_option maxRecDepth 100000 in
set_option maxHeartbeats 1000000 in
theorem s5_twice_l {xt : Nat × (Nat → Int)} {M : gj_M} {i : Int} (hn : 0 ≤ M 24 0 ∧ M 24 0 ≤ 48) (hi : 0 ≤ i ∧ i < M 24 0) (hit : ∀ m : Int, 1 ≤ m → m ≤ M 24 0 - i → 0 ≤ M 28 m ∧ M 28 m ≤ 1000) (htw : ∀ j : Int, i < j → j ≤ M 24 0 → 0 ≤ M 30 j ∧ M 30 j ≤ 1000) : ∀ (d k : Nat) (M1 : gj_M), (k : Int) + d = M 24 0 - i → gj_E [30] M M1 → (∀ j : Int, j ≠ i → M1 30 j = M 30 j) → M1 30 i = q_mt (M 28) (fun z => M 30 (i + z)) k → gj_G xt Y5_findTwice gS 0 0 11 [some (gR 24), some (gI i), some (gI ((k : Int) + 1))] [] M1 (fun r S2 M2 => S2 = gS ∧ r = none ∧ gj_E [30] M M2 ∧ (∀ j : Int, j ≠ i → M2 30 j = M 30 j) ∧ M2 30 i = q_mt (M 28) (fun z => M 30 (i + z)) (M 24 0 - i).toNat) := by
  intro d
  induction d with
  | zero =>
    intro k M1 hk hE ho hv
    have en : M1 24 0 = M 24 0 := hE 24 (by decide) 0
    have hqb := q_mt_b (it := M 28) (f := (fun z => M 30 (i + z))) k (fun z z1 z2 => ⟨(hit z z1 (by omega)).1, (htw (i + z) (by omega) (by omega)).1⟩)
    refine gj_iload_n 12 dX5_findTwice_11 rfl rfl ?_
    refine gj_iload_n 13 dX5_findTwice_12 rfl rfl ?_
    refine gj_iadd 14 dX5_findTwice_13 rfl ?_
    refine gj_aload_n 15 dX5_findTwice_14 rfl rfl ?_
    refine gj_getfiE (M 24 0) 18 dX5_findTwice_15 rfl fl_5_41 rfl rfl en (fun r_15 => ?_)
    refine gj_icmp_gt 57 21 dX5_findTwice_18 (by decide) rfl (by omega) (by omega) (fun c_18 => ?_) (fun c_18 => absurd c_18 (by omega))
    refine gj_vret dX5_findTwice_57 rfl ⟨Nat.zero_le _, Nat.zero_le _⟩ ?_
    exact ⟨rfl, rfl, hE, ho, by rw [hv, show (M 24 0 - i).toNat = k by omega]⟩
  | succ d ih =>
    intro k M1 hk hE ho hv
    have en : M1 24 0 = M 24 0 := hE 24 (by decide) 0
    have hqb := q_mt_b (it := M 28) (f := (fun z => M 30 (i + z))) k (fun z z1 z2 => ⟨(hit z z1 (by omega)).1, (htw (i + z) (by omega) (by omega)).1⟩)
    refine gj_iload_n 12 dX5_findTwice_11 rfl rfl ?_
    refine gj_iload_n 13 dX5_findTwice_12 rfl rfl ?_
    refine gj_iadd 14 dX5_findTwice_13 rfl ?_
    refine gj_aload_n 15 dX5_findTwice_14 rfl rfl ?_
    refine gj_getfiE (M 24 0) 18 dX5_findTwice_15 rfl fl_5_41 rfl rfl en (fun r_15 => ?_)
    refine gj_icmp_gt 57 21 dX5_findTwice_18 (by decide) rfl (by omega) (by omega) (fun c_18 => absurd c_18 (by omega)) (fun c_18 => ?_)
    have hq1 := hit ((k : Int) + 1) (by omega) (by omega)
    have hq2 := htw (i + ((k : Int) + 1)) (by omega) (by omega)
    refine gj_aload_n 22 dX5_findTwice_21 rfl rfl ?_
    refine gj_getfr 25 dX5_findTwice_22 rfl fl_5_27 rfl rfl ?_
    refine gj_iload_n 26 dX5_findTwice_25 rfl rfl ?_
    refine gj_aload_n 27 dX5_findTwice_26 rfl rfl ?_
    refine gj_getfr 30 dX5_findTwice_27 rfl fl_5_27 rfl rfl ?_
    refine gj_iload_n 31 dX5_findTwice_30 rfl rfl ?_
    refine gj_ialdE (q_mt (M 28) (fun z => M 30 (i + z)) k) 32 dX5_findTwice_31 rfl rfl (by omega) (by omega) hv (fun r_31 => ?_)
    refine gj_aload_n 33 dX5_findTwice_32 rfl rfl ?_
    refine gj_getfr 36 dX5_findTwice_33 rfl fl_5_21 rfl rfl ?_
    refine gj_iload_n 37 dX5_findTwice_36 rfl rfl ?_
    refine gj_ialdE (M 28 ((k : Int) + 1)) 38 dX5_findTwice_37 rfl rfl (by omega) (by omega) (hE 28 (by decide) _) (fun r_37 => ?_)
    refine gj_aload_n 39 dX5_findTwice_38 rfl rfl ?_
    refine gj_getfr 42 dX5_findTwice_39 rfl fl_5_27 rfl rfl ?_
    refine gj_iload_n 43 dX5_findTwice_42 rfl rfl ?_
    refine gj_iload_n 44 dX5_findTwice_43 rfl rfl ?_
    refine gj_iadd 45 dX5_findTwice_44 rfl ?_
    refine gj_ialdE (M 30 (i + ((k : Int) + 1))) 46 dX5_findTwice_45 rfl rfl (by omega) (by omega) (ho _ (by omega)) (fun r_45 => ?_)
    refine gj_iadd 47 dX5_findTwice_46 rfl ?_
    refine gj_min 50 dX5_findTwice_47 rfl ml_5_35 (by omega) (by omega) (by decide) (Nat.le_of_ble_eq_true rfl) ⟨Nat.zero_le _, Nat.zero_le _⟩ ?_
    refine gj_iast 51 dX5_findTwice_50 rfl rfl (by omega) (by omega) (by omega) ?_
    refine gj_iinc (b := (((k + 1 : Nat) : Int) + 1)) (lv' := [_, _, _]) 54 dX5_findTwice_51 rfl rfl (by omega) (by decide) rfl ?_
    refine gj_goto 11 dX5_findTwice_54 (by decide) ?_
    exact gj_wk (ih (k + 1) _ (by omega) (hE.tr (gj_E.u (by decide))) (fun j hj => by rw [gj_u_i hj]; exact ho j hj) (by rw [gj_u_s]; rfl)) ⟨rfl, rfl, rfl, trivial⟩

set_option maxRecDepth 100000 in
set_option maxHeartbeats 1000000 in
theorem s5_twice {xt : Nat × (Nat → Int)} {M : gj_M} {i : Int} (hn : 0 ≤ M 24 0 ∧ M 24 0 ≤ 48) (hi : 0 ≤ i ∧ i < M 24 0) (hit : ∀ m : Int, 1 ≤ m → m ≤ M 24 0 - i → 0 ≤ M 28 m ∧ M 28 m ≤ 1000) (htw : ∀ j : Int, i < j → j ≤ M 24 0 → 0 ≤ M 30 j ∧ M 30 j ≤ 1000) : gj_T xt Y5_findTwice gS [gR 24, gI i] M (fun r M2 => r = none ∧ gj_E [30] M M2 ∧ (∀ j : Int, j ≠ i → M2 30 j = M 30 j) ∧ M2 30 i = q_mt (M 28) (fun z => M 30 (i + z)) (M 24 0 - i).toNat) := by
  show gj_G _ Y5_findTwice gS 0 0 0 [_, _, _] [] M _
  refine gj_aload_n 1 dX5_findTwice_0 rfl rfl ?_
  refine gj_getfr 4 dX5_findTwice_1 rfl fl_5_27 rfl rfl ?_
  refine gj_iload_n 5 dX5_findTwice_4 rfl rfl ?_
  refine gj_sipush 8 dX5_findTwice_5 rfl (by decide) ?_
  refine gj_iast 9 dX5_findTwice_8 rfl rfl (by omega) (by omega) (by omega) ?_
  refine gj_iconst 10 dX5_findTwice_9 rfl ?_
  refine gj_istore_n (lv' := [_, _, _]) 11 dX5_findTwice_10 rfl (by decide) rfl ?_
  exact gj_wk (s5_twice_l hn hi hit htw (M 24 0 - i).toNat 0 (gj_u M 30 i 1000) (by omega) (gj_E.u (by decide)) (fun j hj => gj_u_i hj) (by rw [gj_u_s]; rfl)) ⟨rfl, rfl, rfl, trivial⟩
