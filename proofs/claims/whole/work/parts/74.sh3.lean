def y_St (M : gj_M) (l : Int) (M1 : gj_M) (d to fr : Int) : Prop := gj_E [86, 87] M M1 ∧ (∀ a b : Int, 0 ≤ b → b ≤ 48 → 0 ≤ a → a ≤ 48 → M1 86 (49 * a + b) = y_Wt (fun g => M 71 (48 * l + g)) (M 72 l) a b) ∧ y_V (M 72 l) (fun j p => q_L (fun g => M 71 (48 * l + g)) (M 72 l) j p) (M1 87) d to fr
theorem y_St.lk {M M1 : gj_M} {l d to fr : Int} (h : y_St M l M1 d to fr) (hn : 0 ≤ M 72 l ∧ M 72 l ≤ 48) {j : Int} (hj : 0 ≤ j) : ∀ p : Int, 1 ≤ p → j + p ≤ 48 → M1 86 (49 * j + (j + p)) = (fun j p => q_L (fun g => M 71 (48 * l + g)) (M 72 l) j p) j p ∧ 0 ≤ (fun j p => q_L (fun g => M 71 (48 * l + g)) (M 72 l) j p) j p ∧ (fun j p => q_L (fun g => M 71 (48 * l + g)) (M 72 l) j p) j p ≤ 100 := by
  intro p p1 p2
  rw [h.2.1 j (j + p) (by omega) p2 hj (by omega), y_Wt_L hn.2 p1 _ j rfl hj]
  have := q_lk_b (fun g => M 71 (48 * l + g)) p (M 72 l - p - j).toNat j
  exact ⟨rfl, this.1, by show q_lk _ _ _ _ ≤ 100; omega⟩
theorem y_St.step {M M1 : gj_M} {l d to fr x : Int} (h : y_St M l M1 d to fr) (hn : 0 ≤ M 72 l ∧ M 72 l ≤ 48) (hd : 0 ≤ d ∧ d < 3) (hfr : 0 ≤ fr) (hft : fr ≤ to) (hto : to ≤ M 72 l) (hx : x = if fr = to then 0 else q_mn (y_iv (fun j p => q_L (fun g => M 71 (48 * l + g)) (M 72 l) j p) (M1 87) d fr) (fun q => M1 87 (2401 * d + 49 * (fr + q) + to)) (to - fr).toNat) : (0 ≤ x ∧ x ≤ 2 * (to - fr)) ∧ y_St M l (gj_u M1 87 (2401 * d + 49 * fr + to) x) d to (fr - 1) := by
  have hs := y_V.step (T' := gj_u M1 87 (2401 * d + 49 * fr + to) x 87) hn.2 h.2.2 hd hfr hft hto (fun _ => (h.lk hn hfr 1 (by omega) (by omega)).2.1) hx gj_u_s (fun i hi => gj_u_i hi)
  exact ⟨hs.1, h.1.u2 (by decide), h.2.1, hs.2⟩

set_option maxRecDepth 100000 in
set_option maxHeartbeats 1000000 in
theorem s8_sh_m {xt : Nat × (Nat → Int)} {M : gj_M} {M1 : gj_M} {l d to fr : Int} (hl : 0 ≤ l ∧ l < 4) (hn : 0 ≤ M 72 l ∧ M 72 l ≤ 48) (hd : 0 ≤ d ∧ d < 3) (hS : y_St M l M1 d to fr) (hfr : 0 ≤ fr) (hft : fr < to) (hto : to ≤ M 72 l) {Q : Option gj_V → List gj_H → gj_M → Prop} (kk : gj_G xt Y8_shortest gS 0 0 148 [some (gR 69), some (gI l), some (gI (M 72 l)), some (gI d), some (gI (2401 * d)), some (gI to), some (gI fr), some (gI (y_cv (q_mn (y_iv (fun j p => q_L (fun g => M 71 (48 * l + g)) (M 72 l) j p) (M1 87) d fr) (fun q => M1 87 (2401 * d + 49 * (fr + q) + to)) (to - fr).toNat))), none, none, none] [] M1 Q) : ∀ (n k : Nat), k + n = (to - fr).toNat → gj_G xt Y8_shortest gS 0 0 73 [some (gR 69), some (gI l), some (gI (M 72 l)), some (gI d), some (gI (2401 * d)), some (gI to), some (gI fr), some (gI (y_cv (q_mn (y_iv (fun j p => q_L (fun g => M 71 (48 * l + g)) (M 72 l) j p) (M1 87) d fr) (fun q => M1 87 (2401 * d + 49 * (fr + q) + to)) k))), some (gI (fr + 1 + (k : Nat))), none, none] [] M1 Q := by
  intro n
  induction n with
  | zero =>
    intro k hk
    have hX := q_mn_b (it := (y_iv (fun j p => q_L (fun g => M 71 (48 * l + g)) (M 72 l) j p) (M1 87) d fr)) (f := (fun q => M1 87 (2401 * d + 49 * (fr + q) + to))) k (fun q q1 q2 => ⟨by have := y_iv_c (lk := (fun j p => q_L (fun g => M 71 (48 * l + g)) (M 72 l) j p)) (T := M1 87) (e := d) (j := fr) q1 (hS.2.2.in_ hn.2 hd hfr (by omega)); omega, (hS.2.2.f_ hn.2 hd hfr hto q1 (by omega)).1⟩)
    refine gj_iload 75 dX8_shortest_73 rfl rfl ?_
    refine gj_iload 77 dX8_shortest_75 rfl rfl ?_
    refine gj_icmp_gt 148 80 dX8_shortest_77 (by decide) rfl (by omega) (by omega) (fun c_77 => ?_) (fun c_77 => absurd c_77 (by omega))
    have hk3 : k = (to - fr).toNat := by omega
    subst hk3
    exact gj_wk kk ⟨rfl, rfl, rfl, rfl, rfl, rfl, rfl, rfl, trivial⟩
  | succ n ih =>
    intro k hk
    have hX := q_mn_b (it := (y_iv (fun j p => q_L (fun g => M 71 (48 * l + g)) (M 72 l) j p) (M1 87) d fr)) (f := (fun q => M1 87 (2401 * d + 49 * (fr + q) + to))) k (fun q q1 q2 => ⟨by have := y_iv_c (lk := (fun j p => q_L (fun g => M 71 (48 * l + g)) (M 72 l) j p)) (T := M1 87) (e := d) (j := fr) q1 (hS.2.2.in_ hn.2 hd hfr (by omega)); omega, (hS.2.2.f_ hn.2 hd hfr hto q1 (by omega)).1⟩)
    refine gj_iload 75 dX8_shortest_73 rfl rfl ?_
    refine gj_iload 77 dX8_shortest_75 rfl rfl ?_
    refine gj_icmp_gt 148 80 dX8_shortest_77 (by decide) rfl (by omega) (by omega) (fun c_77 => absurd c_77 (by omega)) (fun c_77 => ?_)
    have hic := y_iv_c (lk := (fun j p => q_L (fun g => M 71 (48 * l + g)) (M 72 l) j p)) (T := M1 87) (e := d) (j := fr) (m := ((k : Int) + 1)) (by omega) (hS.2.2.in_ hn.2 hd hfr (by omega))
    have hf := hS.2.2.f_ hn.2 hd hfr hto (q := ((k : Int) + 1)) (by omega) (by omega)
    refine gj_aload_n 81 dX8_shortest_80 rfl rfl ?_
    refine gj_iload 83 dX8_shortest_81 rfl rfl ?_
    refine gj_iload 85 dX8_shortest_83 rfl rfl ?_
    refine gj_iload_n 86 dX8_shortest_85 rfl rfl ?_
    refine gj_fV 89 dX8_shortest_86 rfl ok_8_itemOf ml_8_158 iv_8_itemOf (As := [gI _, gI _, gI _]) rfl rfl rfl rfl (Nat.le_of_ble_eq_true rfl) ⟨Nat.le_of_ble_eq_true rfl, Nat.le_of_ble_eq_true rfl⟩ (Nat.le_of_ble_eq_true rfl) ⟨rfl, rfl⟩ ⟨Nat.zero_le _, Nat.zero_le _⟩ (s8_item (lk := (fun j p => q_L (fun g => M 71 (48 * l + g)) (M 72 l) j p)) (by omega) hd (hS.lk hn hfr) (hS.2.2.in_ hn.2 hd hfr (by omega))) ?_
    refine gj_top (y_cv ((y_iv (fun j p => q_L (fun g => M 71 (48 * l + g)) (M 72 l) j p) (M1 87) d fr) ((k : Int) + 1))) (by rw [show fr + 1 + (k : Int) - fr = ((k : Int) + 1) by omega]) ?_
    refine gj_istore (lv' := [_, _, _, _, _, _, _, _, _, _, _]) 91 dX8_shortest_89 rfl (by decide) rfl ?_
    refine gj_iload 93 dX8_shortest_91 rfl rfl ?_
    refine gj_aload_n 94 dX8_shortest_93 rfl rfl ?_
    refine gj_getfr 97 dX8_shortest_94 rfl fl_8_62 rfl rfl ?_
    refine gj_iload 99 dX8_shortest_97 rfl rfl ?_
    refine gj_bipush 101 dX8_shortest_99 rfl (by decide) ?_
    refine gj_iload 103 dX8_shortest_101 rfl rfl ?_
    refine gj_imul 104 dX8_shortest_103 rfl ?_
    refine gj_iadd 105 dX8_shortest_104 rfl ?_
    refine gj_iload 107 dX8_shortest_105 rfl rfl ?_
    refine gj_iadd 108 dX8_shortest_107 rfl ?_
    refine gj_ialdE (M1 87 (2401 * d + 49 * (fr + ((k : Int) + 1)) + to)) 109 dX8_shortest_108 rfl rfl (by omega) (by omega) (by congr 1; omega) (fun r_108 => ?_)
    refine gj_iadd 110 dX8_shortest_109 rfl ?_
    refine gj_istore (lv' := [_, _, _, _, _, _, _, _, _, _, _]) 112 dX8_shortest_110 rfl (by decide) rfl ?_
    have hcv1 := y_cv_c ((y_iv (fun j p => q_L (fun g => M 71 (48 * l + g)) (M 72 l) j p) (M1 87) d fr) ((k : Int) + 1))
    have hcv2 := y_cv_c (q_mn (y_iv (fun j p => q_L (fun g => M 71 (48 * l + g)) (M 72 l) j p) (M1 87) d fr) (fun q => M1 87 (2401 * d + 49 * (fr + q) + to)) k)
    refine gj_iload 114 dX8_shortest_112 rfl rfl ?_
    refine gj_bipush 116 dX8_shortest_114 rfl (by decide) ?_
    refine gj_icmp_eq 138 119 dX8_shortest_116 (by decide) rfl (by omega) (by omega) (fun c_116 => ?_) (fun c_116 => ?_)
    · refine gj_iload 140 dX8_shortest_138 rfl rfl ?_
      refine gj_istore (lv' := [_, _, _, _, _, _, _, _, _, _, _]) 142 dX8_shortest_140 rfl (by decide) rfl ?_
      refine gj_iinc (b := (fr + 1 + ((k + 1 : Nat) : Int))) (lv' := [_, _, _, _, _, _, _, _, _, _, _]) 145 dX8_shortest_142 rfl rfl (by omega) (by decide) rfl ?_
      refine gj_goto 73 dX8_shortest_145 (by decide) ?_
      have h := ih (k + 1) (by omega)
      have hcv3 := y_cv_c (q_mn (y_iv (fun j p => q_L (fun g => M 71 (48 * l + g)) (M 72 l) j p) (M1 87) d fr) (fun q => M1 87 (2401 * d + 49 * (fr + q) + to)) (k + 1))
      have e9 : ((y_iv (fun j p => q_L (fun g => M 71 (48 * l + g)) (M 72 l) j p) (M1 87) d fr) ((k : Int) + 1) < 1000 ∧ q_mn (y_iv (fun j p => q_L (fun g => M 71 (48 * l + g)) (M 72 l) j p) (M1 87) d fr) (fun q => M1 87 (2401 * d + 49 * (fr + q) + to)) (k + 1) = min (q_mn (y_iv (fun j p => q_L (fun g => M 71 (48 * l + g)) (M 72 l) j p) (M1 87) d fr) (fun q => M1 87 (2401 * d + 49 * (fr + q) + to)) k) ((y_iv (fun j p => q_L (fun g => M 71 (48 * l + g)) (M 72 l) j p) (M1 87) d fr) ((k : Int) + 1) + M1 87 (2401 * d + 49 * (fr + ((k : Int) + 1)) + to))) ∨ (¬ (y_iv (fun j p => q_L (fun g => M 71 (48 * l + g)) (M 72 l) j p) (M1 87) d fr) ((k : Int) + 1) < 1000 ∧ q_mn (y_iv (fun j p => q_L (fun g => M 71 (48 * l + g)) (M 72 l) j p) (M1 87) d fr) (fun q => M1 87 (2401 * d + 49 * (fr + q) + to)) (k + 1) = q_mn (y_iv (fun j p => q_L (fun g => M 71 (48 * l + g)) (M 72 l) j p) (M1 87) d fr) (fun q => M1 87 (2401 * d + 49 * (fr + q) + to)) k) := by
        by_cases z : (y_iv (fun j p => q_L (fun g => M 71 (48 * l + g)) (M 72 l) j p) (M1 87) d fr) ((k : Int) + 1) < 1000
        · exact Or.inl ⟨z, if_pos z⟩
        · exact Or.inr ⟨z, if_neg z⟩
      exact gj_wk h ⟨rfl, rfl, rfl, rfl, rfl, rfl, rfl, gj_sI (by omega), gj_sI (by omega), trivial⟩
    · refine gj_iload 121 dX8_shortest_119 rfl rfl ?_
      refine gj_bipush 123 dX8_shortest_121 rfl (by decide) ?_
      refine gj_icmp_eq 133 126 dX8_shortest_123 (by decide) rfl (by omega) (by omega) (fun c_123 => ?_) (fun c_123 => ?_)
      · refine gj_iload 135 dX8_shortest_133 rfl rfl ?_
        refine gj_goto 140 dX8_shortest_135 (by decide) ?_
        refine gj_istore (lv' := [_, _, _, _, _, _, _, _, _, _, _]) 142 dX8_shortest_140 rfl (by decide) rfl ?_
        refine gj_iinc (b := (fr + 1 + ((k + 1 : Nat) : Int))) (lv' := [_, _, _, _, _, _, _, _, _, _, _]) 145 dX8_shortest_142 rfl rfl (by omega) (by decide) rfl ?_
        refine gj_goto 73 dX8_shortest_145 (by decide) ?_
        have h := ih (k + 1) (by omega)
        have hcv3 := y_cv_c (q_mn (y_iv (fun j p => q_L (fun g => M 71 (48 * l + g)) (M 72 l) j p) (M1 87) d fr) (fun q => M1 87 (2401 * d + 49 * (fr + q) + to)) (k + 1))
        have e9 : ((y_iv (fun j p => q_L (fun g => M 71 (48 * l + g)) (M 72 l) j p) (M1 87) d fr) ((k : Int) + 1) < 1000 ∧ q_mn (y_iv (fun j p => q_L (fun g => M 71 (48 * l + g)) (M 72 l) j p) (M1 87) d fr) (fun q => M1 87 (2401 * d + 49 * (fr + q) + to)) (k + 1) = min (q_mn (y_iv (fun j p => q_L (fun g => M 71 (48 * l + g)) (M 72 l) j p) (M1 87) d fr) (fun q => M1 87 (2401 * d + 49 * (fr + q) + to)) k) ((y_iv (fun j p => q_L (fun g => M 71 (48 * l + g)) (M 72 l) j p) (M1 87) d fr) ((k : Int) + 1) + M1 87 (2401 * d + 49 * (fr + ((k : Int) + 1)) + to))) ∨ (¬ (y_iv (fun j p => q_L (fun g => M 71 (48 * l + g)) (M 72 l) j p) (M1 87) d fr) ((k : Int) + 1) < 1000 ∧ q_mn (y_iv (fun j p => q_L (fun g => M 71 (48 * l + g)) (M 72 l) j p) (M1 87) d fr) (fun q => M1 87 (2401 * d + 49 * (fr + q) + to)) (k + 1) = q_mn (y_iv (fun j p => q_L (fun g => M 71 (48 * l + g)) (M 72 l) j p) (M1 87) d fr) (fun q => M1 87 (2401 * d + 49 * (fr + q) + to)) k) := by
          by_cases z : (y_iv (fun j p => q_L (fun g => M 71 (48 * l + g)) (M 72 l) j p) (M1 87) d fr) ((k : Int) + 1) < 1000
          · exact Or.inl ⟨z, if_pos z⟩
          · exact Or.inr ⟨z, if_neg z⟩
        exact gj_wk h ⟨rfl, rfl, rfl, rfl, rfl, rfl, rfl, gj_sI (by omega), gj_sI (by omega), trivial⟩
      · refine gj_iload 128 dX8_shortest_126 rfl rfl ?_
        refine gj_iload 130 dX8_shortest_128 rfl rfl ?_
        refine gj_icmp_ge 138 133 dX8_shortest_130 (by decide) rfl (by omega) (by omega) (fun c_130 => ?_) (fun c_130 => ?_)
        · refine gj_iload 140 dX8_shortest_138 rfl rfl ?_
          refine gj_istore (lv' := [_, _, _, _, _, _, _, _, _, _, _]) 142 dX8_shortest_140 rfl (by decide) rfl ?_
          refine gj_iinc (b := (fr + 1 + ((k + 1 : Nat) : Int))) (lv' := [_, _, _, _, _, _, _, _, _, _, _]) 145 dX8_shortest_142 rfl rfl (by omega) (by decide) rfl ?_
          refine gj_goto 73 dX8_shortest_145 (by decide) ?_
          have h := ih (k + 1) (by omega)
          have hcv3 := y_cv_c (q_mn (y_iv (fun j p => q_L (fun g => M 71 (48 * l + g)) (M 72 l) j p) (M1 87) d fr) (fun q => M1 87 (2401 * d + 49 * (fr + q) + to)) (k + 1))
          have e9 : ((y_iv (fun j p => q_L (fun g => M 71 (48 * l + g)) (M 72 l) j p) (M1 87) d fr) ((k : Int) + 1) < 1000 ∧ q_mn (y_iv (fun j p => q_L (fun g => M 71 (48 * l + g)) (M 72 l) j p) (M1 87) d fr) (fun q => M1 87 (2401 * d + 49 * (fr + q) + to)) (k + 1) = min (q_mn (y_iv (fun j p => q_L (fun g => M 71 (48 * l + g)) (M 72 l) j p) (M1 87) d fr) (fun q => M1 87 (2401 * d + 49 * (fr + q) + to)) k) ((y_iv (fun j p => q_L (fun g => M 71 (48 * l + g)) (M 72 l) j p) (M1 87) d fr) ((k : Int) + 1) + M1 87 (2401 * d + 49 * (fr + ((k : Int) + 1)) + to))) ∨ (¬ (y_iv (fun j p => q_L (fun g => M 71 (48 * l + g)) (M 72 l) j p) (M1 87) d fr) ((k : Int) + 1) < 1000 ∧ q_mn (y_iv (fun j p => q_L (fun g => M 71 (48 * l + g)) (M 72 l) j p) (M1 87) d fr) (fun q => M1 87 (2401 * d + 49 * (fr + q) + to)) (k + 1) = q_mn (y_iv (fun j p => q_L (fun g => M 71 (48 * l + g)) (M 72 l) j p) (M1 87) d fr) (fun q => M1 87 (2401 * d + 49 * (fr + q) + to)) k) := by
            by_cases z : (y_iv (fun j p => q_L (fun g => M 71 (48 * l + g)) (M 72 l) j p) (M1 87) d fr) ((k : Int) + 1) < 1000
            · exact Or.inl ⟨z, if_pos z⟩
            · exact Or.inr ⟨z, if_neg z⟩
          exact gj_wk h ⟨rfl, rfl, rfl, rfl, rfl, rfl, rfl, gj_sI (by omega), gj_sI (by omega), trivial⟩
        · refine gj_iload 135 dX8_shortest_133 rfl rfl ?_
          refine gj_goto 140 dX8_shortest_135 (by decide) ?_
          refine gj_istore (lv' := [_, _, _, _, _, _, _, _, _, _, _]) 142 dX8_shortest_140 rfl (by decide) rfl ?_
          refine gj_iinc (b := (fr + 1 + ((k + 1 : Nat) : Int))) (lv' := [_, _, _, _, _, _, _, _, _, _, _]) 145 dX8_shortest_142 rfl rfl (by omega) (by decide) rfl ?_
          refine gj_goto 73 dX8_shortest_145 (by decide) ?_
          have h := ih (k + 1) (by omega)
          have hcv3 := y_cv_c (q_mn (y_iv (fun j p => q_L (fun g => M 71 (48 * l + g)) (M 72 l) j p) (M1 87) d fr) (fun q => M1 87 (2401 * d + 49 * (fr + q) + to)) (k + 1))
          have e9 : ((y_iv (fun j p => q_L (fun g => M 71 (48 * l + g)) (M 72 l) j p) (M1 87) d fr) ((k : Int) + 1) < 1000 ∧ q_mn (y_iv (fun j p => q_L (fun g => M 71 (48 * l + g)) (M 72 l) j p) (M1 87) d fr) (fun q => M1 87 (2401 * d + 49 * (fr + q) + to)) (k + 1) = min (q_mn (y_iv (fun j p => q_L (fun g => M 71 (48 * l + g)) (M 72 l) j p) (M1 87) d fr) (fun q => M1 87 (2401 * d + 49 * (fr + q) + to)) k) ((y_iv (fun j p => q_L (fun g => M 71 (48 * l + g)) (M 72 l) j p) (M1 87) d fr) ((k : Int) + 1) + M1 87 (2401 * d + 49 * (fr + ((k : Int) + 1)) + to))) ∨ (¬ (y_iv (fun j p => q_L (fun g => M 71 (48 * l + g)) (M 72 l) j p) (M1 87) d fr) ((k : Int) + 1) < 1000 ∧ q_mn (y_iv (fun j p => q_L (fun g => M 71 (48 * l + g)) (M 72 l) j p) (M1 87) d fr) (fun q => M1 87 (2401 * d + 49 * (fr + q) + to)) (k + 1) = q_mn (y_iv (fun j p => q_L (fun g => M 71 (48 * l + g)) (M 72 l) j p) (M1 87) d fr) (fun q => M1 87 (2401 * d + 49 * (fr + q) + to)) k) := by
            by_cases z : (y_iv (fun j p => q_L (fun g => M 71 (48 * l + g)) (M 72 l) j p) (M1 87) d fr) ((k : Int) + 1) < 1000
            · exact Or.inl ⟨z, if_pos z⟩
            · exact Or.inr ⟨z, if_neg z⟩
          exact gj_wk h ⟨rfl, rfl, rfl, rfl, rfl, rfl, rfl, gj_sI (by omega), gj_sI (by omega), trivial⟩

set_option maxRecDepth 100000 in
set_option maxHeartbeats 1000000 in
theorem s8_sh_f {xt : Nat × (Nat → Int)} {M : gj_M} {l d to : Int} (hl : 0 ≤ l ∧ l < 4) (hn : 0 ≤ M 72 l ∧ M 72 l ≤ 48) (hd : 0 ≤ d ∧ d < 3) (hto : to ≤ M 72 l) {Q : Option gj_V → List gj_H → gj_M → Prop} (kk : ∀ M2 : gj_M, y_St M l M2 d to (-1) → gj_G xt Y8_shortest gS 0 0 172 [some (gR 69), some (gI l), some (gI (M 72 l)), some (gI d), some (gI (2401 * d)), some (gI to), none, none, none, none, none] [] M2 Q) : ∀ (k : Nat) (M1 : gj_M), (k : Int) ≤ to → y_St M l M1 d to ((k : Int) - 1) → gj_G xt Y8_shortest gS 0 0 58 [some (gR 69), some (gI l), some (gI (M 72 l)), some (gI d), some (gI (2401 * d)), some (gI to), some (gI ((k : Int) - 1)), none, none, none, none] [] M1 Q := by
  intro k
  induction k with
  | zero =>
    intro M1 hk hS
    refine gj_iload 60 dX8_shortest_58 rfl rfl ?_
    refine gj_if_lt 172 63 dX8_shortest_60 (by decide) rfl (by omega) (fun c_60 => ?_) (fun c_60 => absurd c_60 (by omega))
    exact gj_wk (kk M1 hS) ⟨rfl, rfl, rfl, rfl, rfl, rfl, trivial⟩
  | succ k ih =>
    intro M1 hk hS
    refine gj_iload 60 dX8_shortest_58 rfl rfl ?_
    refine gj_if_lt 172 63 dX8_shortest_60 (by decide) rfl (by omega) (fun c_60 => absurd c_60 (by omega)) (fun c_60 => ?_)
    refine gj_bipush 65 dX8_shortest_63 rfl (by decide) ?_
    refine gj_istore (lv' := [_, _, _, _, _, _, _, _, _, _, _]) 67 dX8_shortest_65 rfl (by decide) rfl ?_
    refine gj_iload 69 dX8_shortest_67 rfl rfl ?_
    refine gj_iconst 70 dX8_shortest_69 rfl ?_
    refine gj_iadd 71 dX8_shortest_70 rfl ?_
    refine gj_istore (lv' := [_, _, _, _, _, _, _, _, _, _, _]) 73 dX8_shortest_71 rfl (by decide) rfl ?_
    have hs := hS.step (x := q_mn (y_iv (fun j p => q_L (fun g => M 71 (48 * l + g)) (M 72 l) j p) (M1 87) d (((k + 1 : Nat) : Int) - 1)) (fun q => M1 87 (2401 * d + 49 * ((((k + 1 : Nat) : Int) - 1) + q) + to)) (to - (((k + 1 : Nat) : Int) - 1)).toNat) hn hd (by omega) (by omega) hto (by rw [if_neg (by omega)])
    refine gj_wk (s8_sh_m (fr := (((k + 1 : Nat) : Int) - 1)) hl hn hd hS (by omega) (by omega) hto ?_ (to - (((k + 1 : Nat) : Int) - 1)).toNat 0 (by omega)) ⟨rfl, rfl, rfl, rfl, rfl, rfl, rfl, rfl, gj_sI (by omega), trivial⟩
    refine gj_aload_n 149 dX8_shortest_148 rfl rfl ?_
    refine gj_getfr 152 dX8_shortest_149 rfl fl_8_62 rfl rfl ?_
    refine gj_iload 154 dX8_shortest_152 rfl rfl ?_
    refine gj_bipush 156 dX8_shortest_154 rfl (by decide) ?_
    refine gj_iload 158 dX8_shortest_156 rfl rfl ?_
    refine gj_imul 159 dX8_shortest_158 rfl ?_
    refine gj_iadd 160 dX8_shortest_159 rfl ?_
    refine gj_iload 162 dX8_shortest_160 rfl rfl ?_
    refine gj_iadd 163 dX8_shortest_162 rfl ?_
    refine gj_iload 165 dX8_shortest_163 rfl rfl ?_
    refine gj_top (q_mn (y_iv (fun j p => q_L (fun g => M 71 (48 * l + g)) (M 72 l) j p) (M1 87) d (((k + 1 : Nat) : Int) - 1)) (fun q => M1 87 (2401 * d + 49 * ((((k + 1 : Nat) : Int) - 1) + q) + to)) (to - (((k + 1 : Nat) : Int) - 1)).toNat) (by have := y_cv_c (q_mn (y_iv (fun j p => q_L (fun g => M 71 (48 * l + g)) (M 72 l) j p) (M1 87) d (((k + 1 : Nat) : Int) - 1)) (fun q => M1 87 (2401 * d + 49 * ((((k + 1 : Nat) : Int) - 1) + q) + to)) (to - (((k + 1 : Nat) : Int) - 1)).toNat); omega) ?_
    refine gj_iast 166 dX8_shortest_165 rfl rfl (by omega) (by omega) (by omega) ?_
    refine gj_iinc (b := ((k : Int) - 1)) (lv' := [_, _, _, _, _, _, _, _, _, _, _]) 169 dX8_shortest_166 rfl rfl (by omega) (by decide) rfl ?_
    refine gj_goto 58 dX8_shortest_169 (by decide) ?_
    refine gj_mem (show _ = gj_u M1 87 (2401 * d + 49 * (((k + 1 : Nat) : Int) - 1) + to) (q_mn (y_iv (fun j p => q_L (fun g => M 71 (48 * l + g)) (M 72 l) j p) (M1 87) d (((k + 1 : Nat) : Int) - 1)) (fun q => M1 87 (2401 * d + 49 * ((((k + 1 : Nat) : Int) - 1) + q) + to)) (to - (((k + 1 : Nat) : Int) - 1)).toNat) by rfl) ?_
    exact gj_wk (ih _ (by omega) (by rw [show ((k : Int) - 1) = (((k + 1 : Nat) : Int) - 1) - 1 by omega]; exact hs.2)) ⟨rfl, rfl, rfl, rfl, rfl, rfl, rfl, trivial⟩

set_option maxRecDepth 100000 in
set_option maxHeartbeats 1000000 in
theorem s8_sh_t {xt : Nat × (Nat → Int)} {M : gj_M} {l d : Int} (hl : 0 ≤ l ∧ l < 4) (hn : 0 ≤ M 72 l ∧ M 72 l ≤ 48) (hd : 0 ≤ d ∧ d < 3) {Q : Option gj_V → List gj_H → gj_M → Prop} (kk : ∀ M2 : gj_M, y_St M l M2 d (M 72 l + 1) (M 72 l + 1) → gj_G xt Y8_shortest gS 0 0 178 [some (gR 69), some (gI l), some (gI (M 72 l)), some (gI d), some (gI (2401 * d)), none, none, none, none, none, none] [] M2 Q) : ∀ (n k : Nat) (M1 : gj_M), (k : Int) + n = M 72 l + 1 → y_St M l M1 d k k → gj_G xt Y8_shortest gS 0 0 29 [some (gR 69), some (gI l), some (gI (M 72 l)), some (gI d), some (gI (2401 * d)), some (gI (k : Int)), none, none, none, none, none] [] M1 Q := by
  intro n
  induction n with
  | zero =>
    intro k M1 hk hS
    refine gj_iload 31 dX8_shortest_29 rfl rfl ?_
    refine gj_iload_n 32 dX8_shortest_31 rfl rfl ?_
    refine gj_icmp_gt 178 35 dX8_shortest_32 (by decide) rfl (by omega) (by omega) (fun c_32 => ?_) (fun c_32 => absurd c_32 (by omega))
    exact gj_wk (kk M1 ⟨hS.1, hS.2.1, by rw [show (M 72 l + 1 : Int) = (k : Int) by omega]; exact hS.2.2⟩) ⟨rfl, rfl, rfl, rfl, rfl, trivial⟩
  | succ n ih =>
    intro k M1 hk hS
    refine gj_iload 31 dX8_shortest_29 rfl rfl ?_
    refine gj_iload_n 32 dX8_shortest_31 rfl rfl ?_
    refine gj_icmp_gt 178 35 dX8_shortest_32 (by decide) rfl (by omega) (by omega) (fun c_32 => absurd c_32 (by omega)) (fun c_32 => ?_)
    refine gj_aload_n 36 dX8_shortest_35 rfl rfl ?_
    refine gj_getfr 39 dX8_shortest_36 rfl fl_8_62 rfl rfl ?_
    refine gj_iload 41 dX8_shortest_39 rfl rfl ?_
    refine gj_bipush 43 dX8_shortest_41 rfl (by decide) ?_
    refine gj_iload 45 dX8_shortest_43 rfl rfl ?_
    refine gj_imul 46 dX8_shortest_45 rfl ?_
    refine gj_iadd 47 dX8_shortest_46 rfl ?_
    refine gj_iload 49 dX8_shortest_47 rfl rfl ?_
    refine gj_iadd 50 dX8_shortest_49 rfl ?_
    refine gj_iconst 51 dX8_shortest_50 rfl ?_
    refine gj_iast 52 dX8_shortest_51 rfl rfl (by omega) (by omega) (by omega) ?_
    refine gj_iload 54 dX8_shortest_52 rfl rfl ?_
    refine gj_iconst 55 dX8_shortest_54 rfl ?_
    refine gj_isub 56 dX8_shortest_55 rfl ?_
    refine gj_istore (lv' := [_, _, _, _, _, _, _, _, _, _, _]) 58 dX8_shortest_56 rfl (by decide) rfl ?_
    have hs := hS.step (x := 0) hn hd (by omega) (by omega) (by omega) (by rw [if_pos rfl])
    refine gj_wk (s8_sh_f hl hn hd (by omega) (fun M2 hS2 => ?_) k _ (Int.le_refl _) hs.2) ⟨rfl, rfl, rfl, rfl, rfl, rfl, rfl, trivial⟩
    refine gj_iinc (b := ((k + 1 : Nat) : Int)) (lv' := [_, _, _, _, _, _, _, _, _, _, _]) 175 dX8_shortest_172 rfl rfl (by omega) (by decide) rfl ?_
    refine gj_goto 29 dX8_shortest_175 (by decide) ?_
    exact gj_wk (ih (k + 1) _ (by omega) ⟨hS2.1, hS2.2.1, by rw [show ((k + 1 : Nat) : Int) = (k : Int) + 1 by omega]; exact hS2.2.2.nx⟩) ⟨rfl, rfl, rfl, rfl, rfl, rfl, trivial⟩

set_option maxRecDepth 100000 in
set_option maxHeartbeats 1000000 in
theorem s8_sh_d {xt : Nat × (Nat → Int)} {M : gj_M} {l : Int} (hl : 0 ≤ l ∧ l < 4) (hn : 0 ≤ M 72 l ∧ M 72 l ≤ 48) : ∀ (n k : Nat) (M1 : gj_M), k + n = 3 → y_St M l M1 k 0 0 → gj_G xt Y8_shortest gS 0 0 14 [some (gR 69), some (gI l), some (gI (M 72 l)), some (gI (k : Int)), none, none, none, none, none, none, none] [] M1 (fun r S2 M2 => S2 = gS ∧ ∃ v : Int, r = some (gI v) ∧ q_sh (fun g => M 71 (48 * l + g)) (M 72 l) v ∧ gj_E [86, 87] M M2) := by
  intro n
  induction n with
  | zero =>
    intro k M1 hk hS
    refine gj_iload_n 15 dX8_shortest_14 rfl rfl ?_
    refine gj_iconst 16 dX8_shortest_15 rfl ?_
    refine gj_icmp_ge 184 19 dX8_shortest_16 (by decide) rfl (by omega) (by omega) (fun c_16 => ?_) (fun c_16 => absurd c_16 (by omega))
    refine gj_aload_n 185 dX8_shortest_184 rfl rfl ?_
    refine gj_getfr 188 dX8_shortest_185 rfl fl_8_62 rfl rfl ?_
    refine gj_sipush 191 dX8_shortest_188 rfl (by decide) ?_
    refine gj_iload_n 192 dX8_shortest_191 rfl rfl ?_
    refine gj_iadd 193 dX8_shortest_192 rfl ?_
    refine gj_iald 194 dX8_shortest_193 rfl rfl (by omega) (by omega) (fun r_193 => ?_)
    refine gj_iret dX8_shortest_194 rfl ⟨Nat.zero_le _, Nat.zero_le _⟩ ?_
    have hk3 : k = 3 := by omega
    subst hk3
    exact ⟨rfl, _, rfl, hS.2.2.sh hn, hS.1⟩
  | succ n ih =>
    intro k M1 hk hS
    refine gj_iload_n 15 dX8_shortest_14 rfl rfl ?_
    refine gj_iconst 16 dX8_shortest_15 rfl ?_
    refine gj_icmp_ge 184 19 dX8_shortest_16 (by decide) rfl (by omega) (by omega) (fun c_16 => absurd c_16 (by omega)) (fun c_16 => ?_)
    refine gj_sipush 22 dX8_shortest_19 rfl (by decide) ?_
    refine gj_iload_n 23 dX8_shortest_22 rfl rfl ?_
    refine gj_imul 24 dX8_shortest_23 rfl ?_
    refine gj_istore (lv' := [_, _, _, _, _, _, _, _, _, _, _]) 26 dX8_shortest_24 rfl (by decide) rfl ?_
    refine gj_iconst 27 dX8_shortest_26 rfl ?_
    refine gj_istore (lv' := [_, _, _, _, _, _, _, _, _, _, _]) 29 dX8_shortest_27 rfl (by decide) rfl ?_
    refine gj_wk (s8_sh_t hl hn (d := (k : Int)) (by omega) (fun M2 hS2 => ?_) (M 72 l + 1).toNat 0 _ (by omega) hS) ⟨rfl, rfl, rfl, rfl, rfl, rfl, trivial⟩
    refine gj_iinc (b := ((k + 1 : Nat) : Int)) (lv' := [_, _, _, _, _, _, _, _, _, _, _]) 181 dX8_shortest_178 rfl rfl (by omega) (by decide) rfl ?_
    refine gj_goto 14 dX8_shortest_181 (by decide) ?_
    exact gj_wk (ih (k + 1) _ (by omega) ⟨hS2.1, hS2.2.1, by rw [show ((k + 1 : Nat) : Int) = (k : Int) + 1 by omega]; exact hS2.2.2.dp⟩) ⟨rfl, rfl, rfl, rfl, trivial⟩

set_option maxRecDepth 100000 in
set_option maxHeartbeats 1000000 in
theorem s8_short {xt : Nat × (Nat → Int)} {M : gj_M} {l : Int} (hl : 0 ≤ l ∧ l < 4) (hn : 0 ≤ M 72 l ∧ M 72 l ≤ 48) : gj_T xt Y8_shortest gS [gR 69, gI l] M (fun r M2 => ∃ v : Int, r = some (gI v) ∧ q_sh (fun g => M 71 (48 * l + g)) (M 72 l) v ∧ gj_E [86, 87] M M2) := by
  show gj_G _ Y8_shortest gS 0 0 0 [_, _, _, _, _, _, _, _, _, _, _] [] M _
  refine gj_aload_n 1 dX8_shortest_0 rfl rfl ?_
  refine gj_getfr 4 dX8_shortest_1 rfl fl_8_16 rfl rfl ?_
  refine gj_iload_n 5 dX8_shortest_4 rfl rfl ?_
  refine gj_iald 6 dX8_shortest_5 rfl rfl (by omega) (by omega) (fun r_5 => ?_)
  refine gj_istore_n (lv' := [_, _, _, _, _, _, _, _, _, _, _]) 7 dX8_shortest_6 rfl (by decide) rfl ?_
  refine gj_aload_n 8 dX8_shortest_7 rfl rfl ?_
  refine gj_iload_n 9 dX8_shortest_8 rfl rfl ?_
  refine gj_callV 12 dX8_shortest_9 rfl ok_8_layLike ml_8_154 iv_8_layLike (As := [gI _]) rfl rfl rfl rfl (Nat.le_of_ble_eq_true rfl) ⟨Nat.le_of_ble_eq_true rfl, Nat.le_of_ble_eq_true rfl⟩ (Nat.le_of_ble_eq_true rfl) ⟨rfl, rfl⟩ ⟨Nat.zero_le _, Nat.zero_le _⟩ (s8_ll hl hn) (fun r_9 M_9 q_9 => ?_)
  obtain ⟨rfl, hE, hK⟩ := q_9
  show gj_G _ _ gS 0 0 12 _ [] M_9 _
  refine gj_iconst 13 dX8_shortest_12 rfl ?_
  refine gj_istore_n (lv' := [_, _, _, _, _, _, _, _, _, _, _]) 14 dX8_shortest_13 rfl (by decide) rfl ?_
  exact gj_wk (s8_sh_d hl hn 3 0 M_9 rfl ⟨hE.mono (by decide), hK, y_V.st⟩) ⟨rfl, rfl, rfl, rfl, trivial⟩
