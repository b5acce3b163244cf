set_option maxRecDepth 100000 in
set_option maxHeartbeats 1000000 in
theorem s5_items_k {xt : Nat × (Nat → Int)} {M : gj_M} {h N : Nat} {at_ rest : Int} (hs : gS[h]? = some (.inr (false, N))) (hh : h = 27 ∨ h = 29) (hr : 1 ≤ rest ∧ rest ≤ 48) (ha : 0 ≤ at_ ∧ at_ + rest < N) (hN : N ≤ 2401) (hb : ∀ p : Int, 1 ≤ p → p ≤ rest → 0 ≤ M h (at_ + p) ∧ M h (at_ + p) ≤ 1000) (hl : ∀ p : Int, 1 ≤ p → p < 49 → 0 ≤ M 26 p ∧ M 26 p ≤ 100) (P : Nat) (hP : 2 * ((P : Int) + 1) ≤ rest) {lo : Int} (hlo : lo = M h (at_ + ((P : Int) + 1)) + 3) {Q : Option gj_V → List gj_H → gj_M → Prop} (kk : ∀ M1, gj_E [28] M M1 → (∀ m : Int, 1 ≤ m → m ≤ rest → M1 28 m = q_it (M 26) (fun z => M h (at_ + z)) ((P : Int) + 1) 1 m 8) → gj_G xt Y5_findItems gS 0 0 137 [some (gR 24), some (gR h), some (gI at_), some (gI rest), some (gI ((P : Int) + 1)), none, none] [] M1 Q) : ∀ (d K : Nat) (M1 : gj_M), K + d = 9 → 1 ≤ K → gj_E [28] M M1 → (∀ m : Int, 1 ≤ m → m ≤ rest → M1 28 m = q_it (M 26) (fun z => M h (at_ + z)) P K m 8) → gj_G xt Y5_findItems gS 0 0 73 [some (gR 24), some (gR h), some (gI at_), some (gI rest), some (gI ((P : Int) + 1)), some (gI lo), some (gI ((K : Int) + 1))] [] M1 Q := by
  have hbp := hb ((P : Int) + 1) (by omega) (by omega)
  subst hlo
  intro d
  induction d with
  | zero =>
    intro K M1 hk h1K hE hv
    have hpb := q_pb (a := ((K : Int) + 1)) (b := ((P : Int) + 1)) (by omega) (by omega)
    have hpc := q_pb (a := (K : Int)) (b := ((P : Int) + 1)) (by omega) (by omega)
    have hp1 : 0 < ((K : Int) + 1) * ((P : Int) + 1) := Int.mul_pos (by omega) (by omega)
    have hlk := hl ((P : Int) + 1) (by omega) (by omega)
    have e26 : M1 26 ((P : Int) + 1) = M 26 ((P : Int) + 1) := hE 26 (by decide) _
    refine gj_iload 75 dX5_findItems_73 rfl rfl ?_
    refine gj_bipush 77 dX5_findItems_75 rfl (by decide) ?_
    refine gj_icmp_gt 137 80 dX5_findItems_77 (by decide) rfl (by omega) (by omega) (fun c_77 => ?_) (fun c_77 => absurd c_77 (by omega))
    refine gj_wk (kk M1 hE (fun m h1 hm => ?_)) ⟨rfl, rfl, rfl, rfl, rfl, trivial⟩
    rw [hv m h1 hm, q_it_next h1 (by omega) 8]
    refine q_it_stop h1 (by omega) (9 - K) K (by omega) (by omega) (fun K' hK1 hK2 q => ?_)
    exact absurd hK2 (by omega)
  | succ d ih =>
    intro K M1 hk h1K hE hv
    have hpb := q_pb (a := ((K : Int) + 1)) (b := ((P : Int) + 1)) (by omega) (by omega)
    have hpc := q_pb (a := (K : Int)) (b := ((P : Int) + 1)) (by omega) (by omega)
    have hp1 : 0 < ((K : Int) + 1) * ((P : Int) + 1) := Int.mul_pos (by omega) (by omega)
    have hlk := hl ((P : Int) + 1) (by omega) (by omega)
    have e26 : M1 26 ((P : Int) + 1) = M 26 ((P : Int) + 1) := hE 26 (by decide) _
    refine gj_iload 75 dX5_findItems_73 rfl rfl ?_
    refine gj_bipush 77 dX5_findItems_75 rfl (by decide) ?_
    refine gj_icmp_gt 137 80 dX5_findItems_77 (by decide) rfl (by omega) (by omega) (fun c_77 => absurd c_77 (by omega)) (fun c_77 => ?_)
    refine gj_iload 82 dX5_findItems_80 rfl rfl ?_
    refine gj_iload 84 dX5_findItems_82 rfl rfl ?_
    refine gj_imul 85 dX5_findItems_84 rfl ?_
    refine gj_iload_n 86 dX5_findItems_85 rfl rfl ?_
    refine gj_icmp_gt 137 89 dX5_findItems_86 (by decide) rfl (by omega) (by omega) (fun c_86 => ?_) (fun c_86 => ?_)
    · refine gj_wk (kk M1 hE (fun m h1 hm => ?_)) ⟨rfl, rfl, rfl, rfl, rfl, trivial⟩
      rw [hv m h1 hm, q_it_next h1 (by omega) 8]
      refine q_it_stop h1 (by omega) (9 - K) K (by omega) (by omega) (fun K' hK1 hK2 q => ?_)
      have hz : (K' + 1) * ((P : Int) + 1) ≥ ((K : Int) + 1) * ((P : Int) + 1) := Int.mul_le_mul_of_nonneg_right (by omega) (by omega)
      omega
    · refine gj_aload_n 90 dX5_findItems_89 rfl rfl ?_
      refine gj_getfr 93 dX5_findItems_90 rfl fl_5_15 rfl rfl ?_
      refine gj_iload 95 dX5_findItems_93 rfl rfl ?_
      refine gj_ialdE (M 26 ((P : Int) + 1)) 96 dX5_findItems_95 rfl rfl (by omega) (by omega) e26 (fun r_95 => ?_)
      refine gj_iload 98 dX5_findItems_96 rfl rfl ?_
      refine gj_iconst 99 dX5_findItems_98 rfl ?_
      refine gj_isub 100 dX5_findItems_99 rfl ?_
      refine gj_iload 102 dX5_findItems_100 rfl rfl ?_
      refine gj_imul 103 dX5_findItems_102 rfl ?_
      refine gj_top ((K : Int) * ((P : Int) + 1)) (by rw [show (K : Int) + 1 - 1 = K by omega]) ?_
      refine gj_icmp_lt 137 106 dX5_findItems_103 (by decide) rfl (by omega) (by omega) (fun c_103 => ?_) (fun c_103 => ?_)
      · refine gj_wk (kk M1 hE (fun m h1 hm => ?_)) ⟨rfl, rfl, rfl, rfl, rfl, trivial⟩
        rw [hv m h1 hm, q_it_next h1 (by omega) 8]
        refine q_it_stop h1 (by omega) (9 - K) K (by omega) (by omega) (fun K' hK1 hK2 q => ?_)
        have hz : K' * ((P : Int) + 1) ≥ (K : Int) * ((P : Int) + 1) := Int.mul_le_mul_of_nonneg_right (by omega) (by omega)
        omega
      · refine gj_aload_n 107 dX5_findItems_106 rfl rfl ?_
        refine gj_getfr 110 dX5_findItems_107 rfl fl_5_21 rfl rfl ?_
        have hib := q_it_b (lk := M 26) (inner := (fun z => M h (at_ + z))) (P := (P : Int)) (K := (K : Int)) (m := ((K : Int) + 1) * ((P : Int) + 1)) (fun z hz1 hz2 => (hb z hz1 (by omega)).1) (by omega) 8
        refine gj_iload 112 dX5_findItems_110 rfl rfl ?_
        refine gj_iload 114 dX5_findItems_112 rfl rfl ?_
        refine gj_imul 115 dX5_findItems_114 rfl ?_
        refine gj_aload_n 116 dX5_findItems_115 rfl rfl ?_
        refine gj_getfr 119 dX5_findItems_116 rfl fl_5_21 rfl rfl ?_
        refine gj_iload 121 dX5_findItems_119 rfl rfl ?_
        refine gj_iload 123 dX5_findItems_121 rfl rfl ?_
        refine gj_imul 124 dX5_findItems_123 rfl ?_
        refine gj_ialdE (q_it (M 26) (fun z => M h (at_ + z)) P K (((K : Int) + 1) * ((P : Int) + 1)) 8) 125 dX5_findItems_124 rfl rfl (by omega) (by omega) (hv _ (by omega) (by omega)) (fun r_124 => ?_)
        refine gj_iload 127 dX5_findItems_125 rfl rfl ?_
        refine gj_min 130 dX5_findItems_127 rfl ml_5_35 (by omega) (by omega) (by decide) (Nat.le_of_ble_eq_true rfl) ⟨Nat.zero_le _, Nat.zero_le _⟩ ?_
        refine gj_iast 131 dX5_findItems_130 rfl rfl (by omega) (by omega) (by omega) ?_
        refine gj_iinc (b := (((K + 1 : Nat) : Int) + 1)) (lv' := [_, _, _, _, _, _, _]) 134 dX5_findItems_131 rfl rfl (by omega) (by decide) rfl ?_
        refine gj_goto 73 dX5_findItems_134 (by decide) ?_
        exact gj_wk (ih (K + 1) _ (by omega) (by omega) (hE.tr (gj_E.u (by decide))) (fun m h1 hm => by
          rw [show (((K + 1 : Nat) : Int)) = (K : Int) + 1 by omega, q_it_step h1 (by omega) (by omega) 8]
          by_cases q : m = ((K : Int) + 1) * ((P : Int) + 1)
          · rw [if_pos ⟨q, by omega, by omega⟩]
            subst q
            rw [gj_u_s]
          · rw [if_neg (fun z => q z.1), gj_u_i q]
            exact hv m h1 hm)) ⟨rfl, rfl, rfl, rfl, rfl, rfl, rfl, trivial⟩

set_option maxRecDepth 100000 in
set_option maxHeartbeats 1000000 in
theorem s5_items_p {xt : Nat × (Nat → Int)} {M : gj_M} {h N : Nat} {at_ rest : Int} (hs : gS[h]? = some (.inr (false, N))) (hh : h = 27 ∨ h = 29) (hr : 1 ≤ rest ∧ rest ≤ 48) (ha : 0 ≤ at_ ∧ at_ + rest < N) (hN : N ≤ 2401) (hb : ∀ p : Int, 1 ≤ p → p ≤ rest → 0 ≤ M h (at_ + p) ∧ M h (at_ + p) ≤ 1000) (hl : ∀ p : Int, 1 ≤ p → p < 49 → 0 ≤ M 26 p ∧ M 26 p ≤ 100) : ∀ (d P : Nat) (M1 : gj_M), (P : Int) + d = rest / 2 → gj_E [28] M M1 → (∀ m : Int, 1 ≤ m → m ≤ rest → M1 28 m = q_it (M 26) (fun z => M h (at_ + z)) P 1 m 8) → gj_G xt Y5_findItems gS 0 0 52 [some (gR 24), some (gR h), some (gI at_), some (gI rest), some (gI ((P : Int) + 1)), none, none] [] M1 (fun r S2 M2 => S2 = gS ∧ r = none ∧ gj_E [28] M M2 ∧ ∀ m : Int, 1 ≤ m → m ≤ rest → M2 28 m = q_it (M 26) (fun z => M h (at_ + z)) 48 1 m 8) := by
  intro d
  induction d with
  | zero =>
    intro P M1 hk hE hv
    refine gj_iconst 53 dX5_findItems_52 rfl ?_
    refine gj_iload 55 dX5_findItems_53 rfl rfl ?_
    refine gj_imul 56 dX5_findItems_55 rfl ?_
    refine gj_iload_n 57 dX5_findItems_56 rfl rfl ?_
    refine gj_icmp_gt 143 60 dX5_findItems_57 (by decide) rfl (by omega) (by omega) (fun c_57 => ?_) (fun c_57 => absurd c_57 (by omega))
    refine gj_vret dX5_findItems_143 rfl ⟨Nat.zero_le _, Nat.zero_le _⟩ ?_
    exact ⟨rfl, rfl, hE, fun m h1 hm => by rw [hv m h1 hm]; exact q_it_grow (by omega) (by omega) (by omega) 8⟩
  | succ d ih =>
    intro P M1 hk hE hv
    have hbp := hb ((P : Int) + 1) (by omega) (by omega)
    refine gj_iconst 53 dX5_findItems_52 rfl ?_
    refine gj_iload 55 dX5_findItems_53 rfl rfl ?_
    refine gj_imul 56 dX5_findItems_55 rfl ?_
    refine gj_iload_n 57 dX5_findItems_56 rfl rfl ?_
    refine gj_icmp_gt 143 60 dX5_findItems_57 (by decide) rfl (by omega) (by omega) (fun c_57 => absurd c_57 (by omega)) (fun c_57 => ?_)
    refine gj_aload_n 61 dX5_findItems_60 rfl rfl ?_
    refine gj_iload_n 62 dX5_findItems_61 rfl rfl ?_
    refine gj_iload 64 dX5_findItems_62 rfl rfl ?_
    refine gj_iadd 65 dX5_findItems_64 rfl ?_
    refine gj_ialdE (M h (at_ + ((P : Int) + 1))) 66 dX5_findItems_65 rfl hs (by omega) (by omega) (hE h (by rcases hh with rfl | rfl <;> decide) _) (fun r_65 => ?_)
    refine gj_iconst 67 dX5_findItems_66 rfl ?_
    refine gj_iadd 68 dX5_findItems_67 rfl ?_
    refine gj_istore (lv' := [_, _, _, _, _, _, _]) 70 dX5_findItems_68 rfl (by decide) rfl ?_
    refine gj_iconst 71 dX5_findItems_70 rfl ?_
    refine gj_istore (lv' := [_, _, _, _, _, _, _]) 73 dX5_findItems_71 rfl (by decide) rfl ?_
    refine gj_wk (s5_items_k hs hh hr ha hN hb hl P (by omega) rfl (fun M2 hE2 hv2 => ?_) 8 1 M1 rfl (by omega) hE hv) ⟨rfl, rfl, rfl, rfl, rfl, rfl, rfl, trivial⟩
    refine gj_iinc (b := (((P + 1 : Nat) : Int) + 1)) (lv' := [_, _, _, _, _, _, _]) 140 dX5_findItems_137 rfl rfl (by omega) (by decide) rfl ?_
    refine gj_goto 52 dX5_findItems_140 (by decide) ?_
    exact gj_wk (ih (P + 1) M2 (by omega) hE2 (fun m h1 hm => by rw [hv2 m h1 hm]; rfl)) ⟨rfl, rfl, rfl, rfl, rfl, trivial⟩

set_option maxRecDepth 100000 in
set_option maxHeartbeats 1000000 in
theorem s5_items_1 {xt : Nat × (Nat → Int)} {M : gj_M} {h N : Nat} {at_ rest : Int} (hs : gS[h]? = some (.inr (false, N))) (hh : h = 27 ∨ h = 29) (hr : 1 ≤ rest ∧ rest ≤ 48) (ha : 0 ≤ at_ ∧ at_ + rest < N) (hN : N ≤ 2401) (hb : ∀ p : Int, 1 ≤ p → p ≤ rest → 0 ≤ M h (at_ + p) ∧ M h (at_ + p) ≤ 1000) (hl : ∀ p : Int, 1 ≤ p → p < 49 → 0 ≤ M 26 p ∧ M 26 p ≤ 100) : ∀ (d k : Nat) (M1 : gj_M), (k : Int) + d = rest → gj_E [28] M M1 → (∀ m : Int, 1 ≤ m → m ≤ k → M1 28 m = q_b (M 26 1) m) → gj_G xt Y5_findItems gS 0 0 3 [some (gR 24), some (gR h), some (gI at_), some (gI rest), some (gI ((k : Int) + 1)), none, none] [] M1 (fun r S2 M2 => S2 = gS ∧ r = none ∧ gj_E [28] M M2 ∧ ∀ m : Int, 1 ≤ m → m ≤ rest → M2 28 m = q_it (M 26) (fun z => M h (at_ + z)) 48 1 m 8) := by
  intro d
  induction d with
  | zero =>
    intro k M1 hk hE hv
    refine gj_iload 5 dX5_findItems_3 rfl rfl ?_
    refine gj_iload_n 6 dX5_findItems_5 rfl rfl ?_
    refine gj_icmp_gt 49 9 dX5_findItems_6 (by decide) rfl (by omega) (by omega) (fun c_6 => ?_) (fun c_6 => absurd c_6 (by omega))
    refine gj_iconst 50 dX5_findItems_49 rfl ?_
    refine gj_istore (lv' := [_, _, _, _, _, _, _]) 52 dX5_findItems_50 rfl (by decide) rfl ?_
    exact gj_wk (s5_items_p hs hh hr ha hN hb hl (rest / 2).toNat 0 M1 (by omega) hE (fun m h1 hm => by
      rw [hv m h1 (by omega)]
      have key : ∀ t : Nat, q_it (M 26) (fun z => M h (at_ + z)) 0 1 m t = q_b (M 26 1) m := by
        intro t
        induction t with
        | zero => rfl
        | succ t ih2 =>
          simp only [q_it]
          rw [ih2, if_neg]
          rintro ⟨x1, x2, x3 | x3⟩
          · have g1 := Int.emod_add_mul_ediv m ((t : Int) + 2)
            have g2 : 0 ≤ m / ((t : Int) + 2) := Int.ediv_nonneg (by omega) (by omega)
            rw [x1, show m / ((t : Int) + 2) = 0 by omega] at g1
            omega
          · omega
      exact (key 8).symm)) ⟨rfl, rfl, rfl, rfl, rfl, trivial⟩
  | succ d ih =>
    intro k M1 hk hE hv
    have e26 : M1 26 1 = M 26 1 := hE 26 (by decide) _
    have hl1 := hl 1 (by omega) (by omega)
    refine gj_iload 5 dX5_findItems_3 rfl rfl ?_
    refine gj_iload_n 6 dX5_findItems_5 rfl rfl ?_
    refine gj_icmp_gt 49 9 dX5_findItems_6 (by decide) rfl (by omega) (by omega) (fun c_6 => absurd c_6 (by omega)) (fun c_6 => ?_)
    refine gj_aload_n 10 dX5_findItems_9 rfl rfl ?_
    refine gj_getfr 13 dX5_findItems_10 rfl fl_5_21 rfl rfl ?_
    refine gj_iload 15 dX5_findItems_13 rfl rfl ?_
    refine gj_iload 17 dX5_findItems_15 rfl rfl ?_
    refine gj_bipush 19 dX5_findItems_17 rfl (by decide) ?_
    refine gj_icmp_gt 39 22 dX5_findItems_19 (by decide) rfl (by omega) (by omega) (fun c_19 => ?_) (fun c_19 => ?_)
    · refine gj_sipush 42 dX5_findItems_39 rfl (by decide) ?_
      refine gj_iast 43 dX5_findItems_42 rfl rfl (by omega) (by omega) (by omega) ?_
      refine gj_iinc (b := (((k + 1 : Nat) : Int) + 1)) (lv' := [_, _, _, _, _, _, _]) 46 dX5_findItems_43 rfl rfl (by omega) (by decide) rfl ?_
      refine gj_goto 3 dX5_findItems_46 (by decide) ?_
      exact gj_wk (ih (k + 1) _ (by omega) (hE.tr (gj_E.u (by decide))) (fun m h1 hm => by
        by_cases q : m = ((k : Int) + 1)
        · subst q; rw [gj_u_s]; unfold q_b; first | rw [if_pos (by omega)] | rw [if_neg (by omega)]
        · rw [gj_u_i q]; exact hv m h1 (by omega))) ⟨rfl, rfl, rfl, rfl, rfl, trivial⟩
    · refine gj_aload_n 23 dX5_findItems_22 rfl rfl ?_
      refine gj_getfr 26 dX5_findItems_23 rfl fl_5_15 rfl rfl ?_
      refine gj_iconst 27 dX5_findItems_26 rfl ?_
      refine gj_ialdE (M 26 1) 28 dX5_findItems_27 rfl rfl (by omega) (by omega) e26 (fun r_27 => ?_)
      refine gj_iload 30 dX5_findItems_28 rfl rfl ?_
      refine gj_iconst 31 dX5_findItems_30 rfl ?_
      refine gj_isub 32 dX5_findItems_31 rfl ?_
      refine gj_icmp_lt 39 35 dX5_findItems_32 (by decide) rfl (by omega) (by omega) (fun c_32 => ?_) (fun c_32 => ?_)
      · refine gj_sipush 42 dX5_findItems_39 rfl (by decide) ?_
        refine gj_iast 43 dX5_findItems_42 rfl rfl (by omega) (by omega) (by omega) ?_
        refine gj_iinc (b := (((k + 1 : Nat) : Int) + 1)) (lv' := [_, _, _, _, _, _, _]) 46 dX5_findItems_43 rfl rfl (by omega) (by decide) rfl ?_
        refine gj_goto 3 dX5_findItems_46 (by decide) ?_
        exact gj_wk (ih (k + 1) _ (by omega) (hE.tr (gj_E.u (by decide))) (fun m h1 hm => by
          by_cases q : m = ((k : Int) + 1)
          · subst q; rw [gj_u_s]; unfold q_b; first | rw [if_pos (by omega)] | rw [if_neg (by omega)]
          · rw [gj_u_i q]; exact hv m h1 (by omega))) ⟨rfl, rfl, rfl, rfl, rfl, trivial⟩
      · refine gj_iconst 36 dX5_findItems_35 rfl ?_
        refine gj_goto 42 dX5_findItems_36 (by decide) ?_
        refine gj_iast 43 dX5_findItems_42 rfl rfl (by omega) (by omega) (by omega) ?_
        refine gj_iinc (b := (((k + 1 : Nat) : Int) + 1)) (lv' := [_, _, _, _, _, _, _]) 46 dX5_findItems_43 rfl rfl (by omega) (by decide) rfl ?_
        refine gj_goto 3 dX5_findItems_46 (by decide) ?_
        exact gj_wk (ih (k + 1) _ (by omega) (hE.tr (gj_E.u (by decide))) (fun m h1 hm => by
          by_cases q : m = ((k : Int) + 1)
          · subst q; rw [gj_u_s]; unfold q_b; first | rw [if_pos (by omega)] | rw [if_neg (by omega)]
          · rw [gj_u_i q]; exact hv m h1 (by omega))) ⟨rfl, rfl, rfl, rfl, rfl, trivial⟩

set_option maxRecDepth 100000 in
set_option maxHeartbeats 1000000 in
theorem s5_items {xt : Nat × (Nat → Int)} {M : gj_M} {h N : Nat} {at_ rest : Int} (hs : gS[h]? = some (.inr (false, N))) (hh : h = 27 ∨ h = 29) (hr : 1 ≤ rest ∧ rest ≤ 48) (ha : 0 ≤ at_ ∧ at_ + rest < N) (hN : N ≤ 2401) (hb : ∀ p : Int, 1 ≤ p → p ≤ rest → 0 ≤ M h (at_ + p) ∧ M h (at_ + p) ≤ 1000) (hl : ∀ p : Int, 1 ≤ p → p < 49 → 0 ≤ M 26 p ∧ M 26 p ≤ 100) : gj_T xt Y5_findItems gS [gR 24, gR h, gI at_, gI rest] M (fun r M2 => r = none ∧ gj_E [28] M M2 ∧ ∀ m : Int, 1 ≤ m → m ≤ rest → M2 28 m = q_it (M 26) (fun z => M h (at_ + z)) 48 1 m 8) := by
  show gj_G _ Y5_findItems gS 0 0 0 [_, _, _, _, _, _, _] [] M _
  refine gj_iconst 1 dX5_findItems_0 rfl ?_
  refine gj_istore (lv' := [_, _, _, _, _, _, _]) 3 dX5_findItems_1 rfl (by decide) rfl ?_
  exact gj_wk (s5_items_1 hs hh hr ha hN hb hl rest.toNat 0 M (by omega) gj_E.rf (fun m h1 h2 => absurd h2 (by omega))) ⟨rfl, rfl, rfl, rfl, rfl, trivial⟩
