theorem gj_sI {a b : Int} (h : a = b) : (some (gI a) : Option gj_V) = some (gI b) := by rw [h]
set_option maxRecDepth 100000 in
set_option maxHeartbeats 1000000 in
theorem s8_ll_i {xt : Nat × (Nat → Int)} {M : gj_M} {l a : Int} (hl : 0 ≤ l ∧ l < 4) (hn : 0 ≤ M 72 l ∧ M 72 l ≤ 48) (ha : 0 ≤ a ∧ a ≤ 48) {Q : Option gj_V → List gj_H → gj_M → Prop} (kk : ∀ M2 : gj_M, gj_E [86] M M2 → (∀ a1 b1 : Int, 0 ≤ b1 → b1 ≤ 48 → a1 ≤ 48 → (a < a1 ∨ (a1 = a ∧ 0 ≤ b1)) → M2 86 (49 * a1 + b1) = y_Wt (fun g => M 71 (48 * l + g)) (M 72 l) (a1) (b1)) → gj_G xt Y8_layLike gS 0 0 109 [some (gR 69), some (gI l), some (gI a), none, none] [] M2 Q) : ∀ (k : Nat) (M1 : gj_M), k ≤ 49 → gj_E [86] M M1 → (∀ a1 b1 : Int, 0 ≤ b1 → b1 ≤ 48 → a1 ≤ 48 → (a < a1 ∨ (a1 = a ∧ (k : Int) ≤ b1)) → M1 86 (49 * a1 + b1) = y_Wt (fun g => M 71 (48 * l + g)) (M 72 l) (a1) (b1)) → gj_G xt Y8_layLike gS 0 0 10 [some (gR 69), some (gI l), some (gI a), some (gI ((k : Int) - 1)), none] [] M1 Q := by
  intro k
  induction k with
  | zero =>
    intro M1 hk hE hV
    refine gj_wk (lv' := [some (gR 69), some (gI l), some (gI a), some (gI (((0 : Nat) : Int) - 1)), none]) ?_ ⟨rfl, rfl, rfl, rfl, trivial⟩
    refine gj_iload_n 11 dX8_layLike_10 rfl rfl ?_
    refine gj_if_lt 109 14 dX8_layLike_11 (by decide) rfl (by omega) (fun c_11 => ?_) (fun c_11 => absurd c_11 (by omega))
    exact gj_wk (kk M1 hE (fun a1 b1 b0 b48 a48 hc => hV a1 b1 b0 b48 a48 (by omega))) ⟨rfl, rfl, rfl, trivial⟩
  | succ k ih =>
    intro M1 hk hE hV
    have ih := fun (k' : Nat) (M2 : gj_M) => ih M2
    refine gj_iload_n 11 dX8_layLike_10 rfl rfl ?_
    refine gj_if_lt 109 14 dX8_layLike_11 (by decide) rfl (by omega) (fun c_11 => absurd c_11 (by omega)) (fun c_11 => ?_)
    refine gj_iload_n 15 dX8_layLike_14 rfl rfl ?_
    refine gj_aload_n 16 dX8_layLike_15 rfl rfl ?_
    refine gj_getfr 19 dX8_layLike_16 rfl fl_8_16 rfl rfl ?_
    refine gj_iload_n 20 dX8_layLike_19 rfl rfl ?_
    refine gj_ialdE (M 72 l) 21 dX8_layLike_20 rfl rfl (by omega) (by omega) (hE 72 (by decide) _) (fun r_20 => ?_)
    refine gj_icmp_ge 63 24 dX8_layLike_21 (by decide) rfl (by omega) (by omega) (fun c_21 => ?_) (fun c_21 => ?_)
    · refine gj_iconst 64 dX8_layLike_63 rfl ?_
      refine gj_istore (lv' := [_, _, _, _, _]) 66 dX8_layLike_64 rfl (by decide) rfl ?_
      
      refine gj_aload_n 67 dX8_layLike_66 rfl rfl ?_
      refine gj_getfr 70 dX8_layLike_67 rfl fl_8_59 rfl rfl ?_
      refine gj_bipush 72 dX8_layLike_70 rfl (by decide) ?_
      refine gj_iload_n 73 dX8_layLike_72 rfl rfl ?_
      refine gj_imul 74 dX8_layLike_73 rfl ?_
      refine gj_iload_n 75 dX8_layLike_74 rfl rfl ?_
      refine gj_iadd 76 dX8_layLike_75 rfl ?_
      refine gj_iload 78 dX8_layLike_76 rfl rfl ?_
      refine gj_if_eq 101 81 dX8_layLike_78 (by decide) rfl (by omega) (fun c_78 => ?_) (fun c_78 => absurd c_78 (by decide))
      refine gj_iconst 102 dX8_layLike_101 rfl ?_
      have hwb : 0 ≤ y_Wt (fun g => M 71 (48 * l + g)) (M 72 l) (a + 1) (((k + 1 : Nat) : Int) - 1 + 1) ∧ y_Wt (fun g => M 71 (48 * l + g)) (M 72 l) (a + 1) (((k + 1 : Nat) : Int) - 1 + 1) ≤ (49 - (a + 1)).toNat := y_W_b (fun g => M 71 (48 * l + g)) (M 72 l) (49 - (a + 1)).toNat (a + 1) ((((k + 1 : Nat) : Int) - 1) + 1)
      refine gj_iast 103 dX8_layLike_102 rfl rfl (by omega) (by omega) (by omega) ?_
      refine gj_iinc (b := ((k : Int) - 1)) (lv' := [_, _, _, _, _]) 106 dX8_layLike_103 rfl rfl (by omega) (by decide) rfl ?_
      refine gj_goto 10 dX8_layLike_106 (by decide) ?_
      refine gj_wk (ih k _ (by omega) (hE.tr (gj_E.u (by decide))) (fun a1 b1 b0 b48 a48 hc => ?_)) ⟨rfl, rfl, rfl, rfl, trivial⟩
      by_cases q : a1 = a ∧ b1 = (k : Int)
      · obtain ⟨rfl, rfl⟩ := q
        rw [show (k : Int) = ((k + 1 : Nat) : Int) - 1 by omega, gj_u_s, y_Wt_s a48]
        first
        | (rw [if_pos (by refine ⟨by omega, by omega, ?_⟩; show M 71 _ = M 71 _; omega)]; try rfl)
        | (rw [if_neg (fun z => by have z1 := z.1; have z2 := z.2.1; have z3 : M 71 (48 * l + a1) = M 71 (48 * l + (((k + 1 : Nat) : Int) - 1)) := z.2.2; omega)])
      · rw [gj_u_i (by omega)]
        exact hV a1 b1 b0 b48 a48 (by omega)
    · refine gj_iload_n 25 dX8_layLike_24 rfl rfl ?_
      refine gj_aload_n 26 dX8_layLike_25 rfl rfl ?_
      refine gj_getfr 29 dX8_layLike_26 rfl fl_8_16 rfl rfl ?_
      refine gj_iload_n 30 dX8_layLike_29 rfl rfl ?_
      refine gj_ialdE (M 72 l) 31 dX8_layLike_30 rfl rfl (by omega) (by omega) (hE 72 (by decide) _) (fun r_30 => ?_)
      refine gj_icmp_ge 63 34 dX8_layLike_31 (by decide) rfl (by omega) (by omega) (fun c_31 => ?_) (fun c_31 => ?_)
      · refine gj_iconst 64 dX8_layLike_63 rfl ?_
        refine gj_istore (lv' := [_, _, _, _, _]) 66 dX8_layLike_64 rfl (by decide) rfl ?_
        
        refine gj_aload_n 67 dX8_layLike_66 rfl rfl ?_
        refine gj_getfr 70 dX8_layLike_67 rfl fl_8_59 rfl rfl ?_
        refine gj_bipush 72 dX8_layLike_70 rfl (by decide) ?_
        refine gj_iload_n 73 dX8_layLike_72 rfl rfl ?_
        refine gj_imul 74 dX8_layLike_73 rfl ?_
        refine gj_iload_n 75 dX8_layLike_74 rfl rfl ?_
        refine gj_iadd 76 dX8_layLike_75 rfl ?_
        refine gj_iload 78 dX8_layLike_76 rfl rfl ?_
        refine gj_if_eq 101 81 dX8_layLike_78 (by decide) rfl (by omega) (fun c_78 => ?_) (fun c_78 => absurd c_78 (by decide))
        refine gj_iconst 102 dX8_layLike_101 rfl ?_
        have hwb : 0 ≤ y_Wt (fun g => M 71 (48 * l + g)) (M 72 l) (a + 1) (((k + 1 : Nat) : Int) - 1 + 1) ∧ y_Wt (fun g => M 71 (48 * l + g)) (M 72 l) (a + 1) (((k + 1 : Nat) : Int) - 1 + 1) ≤ (49 - (a + 1)).toNat := y_W_b (fun g => M 71 (48 * l + g)) (M 72 l) (49 - (a + 1)).toNat (a + 1) ((((k + 1 : Nat) : Int) - 1) + 1)
        refine gj_iast 103 dX8_layLike_102 rfl rfl (by omega) (by omega) (by omega) ?_
        refine gj_iinc (b := ((k : Int) - 1)) (lv' := [_, _, _, _, _]) 106 dX8_layLike_103 rfl rfl (by omega) (by decide) rfl ?_
        refine gj_goto 10 dX8_layLike_106 (by decide) ?_
        refine gj_wk (ih k _ (by omega) (hE.tr (gj_E.u (by decide))) (fun a1 b1 b0 b48 a48 hc => ?_)) ⟨rfl, rfl, rfl, rfl, trivial⟩
        by_cases q : a1 = a ∧ b1 = (k : Int)
        · obtain ⟨rfl, rfl⟩ := q
          rw [show (k : Int) = ((k + 1 : Nat) : Int) - 1 by omega, gj_u_s, y_Wt_s a48]
          first
          | (rw [if_pos (by refine ⟨by omega, by omega, ?_⟩; show M 71 _ = M 71 _; omega)]; try rfl)
          | (rw [if_neg (fun z => by have z1 := z.1; have z2 := z.2.1; have z3 : M 71 (48 * l + a1) = M 71 (48 * l + (((k + 1 : Nat) : Int) - 1)) := z.2.2; omega)])
        · rw [gj_u_i (by omega)]
          exact hV a1 b1 b0 b48 a48 (by omega)
      · refine gj_aload_n 35 dX8_layLike_34 rfl rfl ?_
        refine gj_getfr 38 dX8_layLike_35 rfl fl_8_13 rfl rfl ?_
        refine gj_bipush 40 dX8_layLike_38 rfl (by decide) ?_
        refine gj_iload_n 41 dX8_layLike_40 rfl rfl ?_
        refine gj_imul 42 dX8_layLike_41 rfl ?_
        refine gj_iload_n 43 dX8_layLike_42 rfl rfl ?_
        refine gj_iadd 44 dX8_layLike_43 rfl ?_
        refine gj_ialdE (M 71 (48 * l + a)) 45 dX8_layLike_44 rfl rfl (by omega) (by omega) (hE 71 (by decide) _) (fun r_44 => ?_)
        refine gj_aload_n 46 dX8_layLike_45 rfl rfl ?_
        refine gj_getfr 49 dX8_layLike_46 rfl fl_8_13 rfl rfl ?_
        refine gj_bipush 51 dX8_layLike_49 rfl (by decide) ?_
        refine gj_iload_n 52 dX8_layLike_51 rfl rfl ?_
        refine gj_imul 53 dX8_layLike_52 rfl ?_
        refine gj_iload_n 54 dX8_layLike_53 rfl rfl ?_
        refine gj_iadd 55 dX8_layLike_54 rfl ?_
        refine gj_ialdE (M 71 (48 * l + (((k + 1 : Nat) : Int) - 1))) 56 dX8_layLike_55 rfl rfl (by omega) (by omega) (hE 71 (by decide) _) (fun r_55 => ?_)
        refine gj_icmp_ne 63 59 dX8_layLike_56 (by decide) rfl (by omega) (by omega) (fun c_56 => ?_) (fun c_56 => ?_)
        · refine gj_iconst 64 dX8_layLike_63 rfl ?_
          refine gj_istore (lv' := [_, _, _, _, _]) 66 dX8_layLike_64 rfl (by decide) rfl ?_
          
          refine gj_aload_n 67 dX8_layLike_66 rfl rfl ?_
          refine gj_getfr 70 dX8_layLike_67 rfl fl_8_59 rfl rfl ?_
          refine gj_bipush 72 dX8_layLike_70 rfl (by decide) ?_
          refine gj_iload_n 73 dX8_layLike_72 rfl rfl ?_
          refine gj_imul 74 dX8_layLike_73 rfl ?_
          refine gj_iload_n 75 dX8_layLike_74 rfl rfl ?_
          refine gj_iadd 76 dX8_layLike_75 rfl ?_
          refine gj_iload 78 dX8_layLike_76 rfl rfl ?_
          refine gj_if_eq 101 81 dX8_layLike_78 (by decide) rfl (by omega) (fun c_78 => ?_) (fun c_78 => absurd c_78 (by decide))
          refine gj_iconst 102 dX8_layLike_101 rfl ?_
          have hwb : 0 ≤ y_Wt (fun g => M 71 (48 * l + g)) (M 72 l) (a + 1) (((k + 1 : Nat) : Int) - 1 + 1) ∧ y_Wt (fun g => M 71 (48 * l + g)) (M 72 l) (a + 1) (((k + 1 : Nat) : Int) - 1 + 1) ≤ (49 - (a + 1)).toNat := y_W_b (fun g => M 71 (48 * l + g)) (M 72 l) (49 - (a + 1)).toNat (a + 1) ((((k + 1 : Nat) : Int) - 1) + 1)
          refine gj_iast 103 dX8_layLike_102 rfl rfl (by omega) (by omega) (by omega) ?_
          refine gj_iinc (b := ((k : Int) - 1)) (lv' := [_, _, _, _, _]) 106 dX8_layLike_103 rfl rfl (by omega) (by decide) rfl ?_
          refine gj_goto 10 dX8_layLike_106 (by decide) ?_
          refine gj_wk (ih k _ (by omega) (hE.tr (gj_E.u (by decide))) (fun a1 b1 b0 b48 a48 hc => ?_)) ⟨rfl, rfl, rfl, rfl, trivial⟩
          by_cases q : a1 = a ∧ b1 = (k : Int)
          · obtain ⟨rfl, rfl⟩ := q
            rw [show (k : Int) = ((k + 1 : Nat) : Int) - 1 by omega, gj_u_s, y_Wt_s a48]
            first
            | (rw [if_pos (by refine ⟨by omega, by omega, ?_⟩; show M 71 _ = M 71 _; omega)]; try rfl)
            | (rw [if_neg (fun z => by have z1 := z.1; have z2 := z.2.1; have z3 : M 71 (48 * l + a1) = M 71 (48 * l + (((k + 1 : Nat) : Int) - 1)) := z.2.2; omega)])
          · rw [gj_u_i (by omega)]
            exact hV a1 b1 b0 b48 a48 (by omega)
        · refine gj_iconst 60 dX8_layLike_59 rfl ?_
          refine gj_goto 64 dX8_layLike_60 (by decide) ?_
          refine gj_istore (lv' := [_, _, _, _, _]) 66 dX8_layLike_64 rfl (by decide) rfl ?_
          
          refine gj_aload_n 67 dX8_layLike_66 rfl rfl ?_
          refine gj_getfr 70 dX8_layLike_67 rfl fl_8_59 rfl rfl ?_
          refine gj_bipush 72 dX8_layLike_70 rfl (by decide) ?_
          refine gj_iload_n 73 dX8_layLike_72 rfl rfl ?_
          refine gj_imul 74 dX8_layLike_73 rfl ?_
          refine gj_iload_n 75 dX8_layLike_74 rfl rfl ?_
          refine gj_iadd 76 dX8_layLike_75 rfl ?_
          refine gj_iload 78 dX8_layLike_76 rfl rfl ?_
          refine gj_if_eq 101 81 dX8_layLike_78 (by decide) rfl (by omega) (fun c_78 => absurd c_78 (by decide)) (fun c_78 => ?_)
          refine gj_aload_n 82 dX8_layLike_81 rfl rfl ?_
          refine gj_getfr 85 dX8_layLike_82 rfl fl_8_59 rfl rfl ?_
          refine gj_bipush 87 dX8_layLike_85 rfl (by decide) ?_
          refine gj_iload_n 88 dX8_layLike_87 rfl rfl ?_
          refine gj_iconst 89 dX8_layLike_88 rfl ?_
          refine gj_iadd 90 dX8_layLike_89 rfl ?_
          refine gj_imul 91 dX8_layLike_90 rfl ?_
          refine gj_iload_n 92 dX8_layLike_91 rfl rfl ?_
          refine gj_iadd 93 dX8_layLike_92 rfl ?_
          refine gj_iconst 94 dX8_layLike_93 rfl ?_
          refine gj_iadd 95 dX8_layLike_94 rfl ?_
          refine gj_ialdE (y_Wt (fun g => M 71 (48 * l + g)) (M 72 l) (a + 1) ((((k + 1 : Nat) : Int) - 1) + 1)) 96 dX8_layLike_95 rfl rfl (by omega) (by omega) (by rw [← hV (a + 1) ((((k + 1 : Nat) : Int) - 1) + 1) (by omega) (by omega) (by omega) (Or.inl (by omega))]; congr 1; omega) (fun r_95 => ?_)
          refine gj_iconst 97 dX8_layLike_96 rfl ?_
          refine gj_iadd 98 dX8_layLike_97 rfl ?_
          refine gj_goto 102 dX8_layLike_98 (by decide) ?_
          have hwb : 0 ≤ y_Wt (fun g => M 71 (48 * l + g)) (M 72 l) (a + 1) (((k + 1 : Nat) : Int) - 1 + 1) ∧ y_Wt (fun g => M 71 (48 * l + g)) (M 72 l) (a + 1) (((k + 1 : Nat) : Int) - 1 + 1) ≤ (49 - (a + 1)).toNat := y_W_b (fun g => M 71 (48 * l + g)) (M 72 l) (49 - (a + 1)).toNat (a + 1) ((((k + 1 : Nat) : Int) - 1) + 1)
          refine gj_iast 103 dX8_layLike_102 rfl rfl (by omega) (by omega) (by omega) ?_
          refine gj_iinc (b := ((k : Int) - 1)) (lv' := [_, _, _, _, _]) 106 dX8_layLike_103 rfl rfl (by omega) (by decide) rfl ?_
          refine gj_goto 10 dX8_layLike_106 (by decide) ?_
          refine gj_wk (ih k _ (by omega) (hE.tr (gj_E.u (by decide))) (fun a1 b1 b0 b48 a48 hc => ?_)) ⟨rfl, rfl, rfl, rfl, trivial⟩
          by_cases q : a1 = a ∧ b1 = (k : Int)
          · obtain ⟨rfl, rfl⟩ := q
            rw [show (k : Int) = ((k + 1 : Nat) : Int) - 1 by omega, gj_u_s, y_Wt_s a48]
            first
            | (rw [if_pos (by refine ⟨by omega, by omega, ?_⟩; show M 71 _ = M 71 _; omega)]; try rfl)
            | (rw [if_neg (fun z => by have z1 := z.1; have z2 := z.2.1; have z3 : M 71 (48 * l + a1) = M 71 (48 * l + (((k + 1 : Nat) : Int) - 1)) := z.2.2; omega)])
          · rw [gj_u_i (by omega)]
            exact hV a1 b1 b0 b48 a48 (by omega)

set_option maxRecDepth 100000 in
set_option maxHeartbeats 1000000 in
theorem s8_ll_o {xt : Nat × (Nat → Int)} {M : gj_M} {l : Int} (hl : 0 ≤ l ∧ l < 4) (hn : 0 ≤ M 72 l ∧ M 72 l ≤ 48) : ∀ (k : Nat) (M1 : gj_M), k ≤ 49 → gj_E [86] M M1 → (∀ a1 b1 : Int, 0 ≤ b1 → b1 ≤ 48 → a1 ≤ 48 → (((k : Int) - 1) < a1 ∨ (a1 = ((k : Int) - 1) ∧ 49 ≤ b1)) → M1 86 (49 * a1 + b1) = y_Wt (fun g => M 71 (48 * l + g)) (M 72 l) (a1) (b1)) → gj_G xt Y8_layLike gS 0 0 3 [some (gR 69), some (gI l), some (gI ((k : Int) - 1)), none, none] [] M1 (fun r S2 M2 => S2 = gS ∧ r = none ∧ gj_E [86] M M2 ∧ ∀ a1 b1 : Int, 0 ≤ b1 → b1 ≤ 48 → 0 ≤ a1 → a1 ≤ 48 → M2 86 (49 * a1 + b1) = y_Wt (fun g => M 71 (48 * l + g)) (M 72 l) (a1) (b1)) := by
  intro k
  induction k with
  | zero =>
    intro M1 hk hE hV
    refine gj_iload_n 4 dX8_layLike_3 rfl rfl ?_
    refine gj_if_lt 115 7 dX8_layLike_4 (by decide) rfl (by omega) (fun c_4 => ?_) (fun c_4 => absurd c_4 (by omega))
    refine gj_vret dX8_layLike_115 rfl ⟨Nat.zero_le _, Nat.zero_le _⟩ ?_
    exact ⟨rfl, rfl, hE, fun a1 b1 b0 b48 a0 a48 => hV a1 b1 b0 b48 a48 (by omega)⟩
  | succ k ih =>
    intro M1 hk hE hV
    refine gj_iload_n 4 dX8_layLike_3 rfl rfl ?_
    refine gj_if_lt 115 7 dX8_layLike_4 (by decide) rfl (by omega) (fun c_4 => absurd c_4 (by omega)) (fun c_4 => ?_)
    refine gj_bipush 9 dX8_layLike_7 rfl (by decide) ?_
    refine gj_istore_n (lv' := [_, _, _, _, _]) 10 dX8_layLike_9 rfl (by decide) rfl ?_
    refine gj_wk (s8_ll_i (a := ((k + 1 : Nat) : Int) - 1) hl hn (by omega) (fun M2 hE2 hV2 => ?_) 49 M1 (by omega) hE (fun a1 b1 b0 b48 a48 hc => hV a1 b1 b0 b48 a48 (by omega))) ⟨rfl, rfl, rfl, rfl, trivial⟩
    refine gj_iinc (b := ((k : Int) - 1)) (lv' := [_, _, _, _, _]) 112 dX8_layLike_109 rfl rfl (by omega) (by decide) rfl ?_
    refine gj_goto 3 dX8_layLike_112 (by decide) ?_
    exact gj_wk (ih M2 (by omega) hE2 (fun a1 b1 b0 b48 a48 hc => hV2 a1 b1 b0 b48 a48 (by omega))) ⟨rfl, rfl, rfl, trivial⟩

set_option maxRecDepth 100000 in
set_option maxHeartbeats 1000000 in
theorem s8_ll {xt : Nat × (Nat → Int)} {M : gj_M} {l : Int} (hl : 0 ≤ l ∧ l < 4) (hn : 0 ≤ M 72 l ∧ M 72 l ≤ 48) : gj_T xt Y8_layLike gS [gR 69, gI l] M (fun r M2 => r = none ∧ gj_E [86] M M2 ∧ ∀ a1 b1 : Int, 0 ≤ b1 → b1 ≤ 48 → 0 ≤ a1 → a1 ≤ 48 → M2 86 (49 * a1 + b1) = y_Wt (fun g => M 71 (48 * l + g)) (M 72 l) (a1) (b1)) := by
  show gj_G _ Y8_layLike gS 0 0 0 [_, _, _, _, _] [] M _
  refine gj_bipush 2 dX8_layLike_0 rfl (by decide) ?_
  refine gj_istore_n (lv' := [_, _, _, _, _]) 3 dX8_layLike_2 rfl (by decide) rfl ?_
  exact gj_wk (s8_ll_o hl hn 49 M (by omega) gj_E.rf (fun a1 b1 b0 b48 a48 hc => by omega)) ⟨rfl, rfl, rfl, trivial⟩

set_option maxRecDepth 100000 in
set_option maxHeartbeats 1000000 in
theorem s8_it_l {xt : Nat × (Nat → Int)} {M : gj_M} {j k e : Int} {lk : Int → Int → Int} (hj : 0 ≤ j ∧ j < k ∧ k ≤ 48) (he : 0 ≤ e ∧ e < 3) (hlk : ∀ p : Int, 1 ≤ p → j + p ≤ 48 → M 86 (49 * j + (j + p)) = lk j p ∧ 0 ≤ lk j p ∧ lk j p ≤ 100) (hin : e ≠ 0 → ∀ p : Int, 1 ≤ p → p < k - j → 0 ≤ M 87 (2401 * (e - 1) + 49 * j + (j + p)) ∧ M 87 (2401 * (e - 1) + 49 * j + (j + p)) ≤ 96) (he0 : e ≠ 0) : ∀ (n t : Nat), t + n = 8 → gj_G xt Y8_itemOf gS 0 0 49 [some (gR 69), some (gI j), some (gI k), some (gI e), some (gI (k - j)), some (gI (y_cv (q_it (lk j) (fun z => M 87 (2401 * (e - 1) + 49 * j + (j + z))) 48 1 (k - j) t))), some (gI ((t : Int) + 2)), none, none] [] M (fun r S2 M2 => S2 = gS ∧ r = some (gI (y_cv (y_iv lk (M 87) e j (k - j)))) ∧ M2 = M) := by
  intro n
  induction n with
  | zero =>
    intro t ht
    have hcb := q_it_c (lk := lk j) (inner := (fun z => M 87 (2401 * (e - 1) + 49 * j + (j + z)))) (P := 48) (K := 1) (m := k - j) (by omega) (hin he0) t
    have hcv := y_cv_c (q_it (lk j) (fun z => M 87 (2401 * (e - 1) + 49 * j + (j + z))) 48 1 (k - j) t)
    have hE := fun M : gj_M => M
    refine gj_iload 51 dX8_itemOf_49 rfl rfl ?_
    refine gj_bipush 53 dX8_itemOf_51 rfl (by decide) ?_
    refine gj_icmp_ge 152 56 dX8_itemOf_53 (by decide) rfl (by omega) (by omega) (fun c_53 => ?_) (fun c_53 => absurd c_53 (by omega))
    refine gj_iload 154 dX8_itemOf_152 rfl rfl ?_
    refine gj_iret dX8_itemOf_154 rfl ⟨Nat.zero_le _, Nat.zero_le _⟩ ?_
    have ht8 : t = 8 := by omega
    subst ht8
    exact ⟨rfl, by unfold y_iv; rw [if_neg he0], rfl⟩
  | succ n ih =>
    intro t ht
    have hcb := q_it_c (lk := lk j) (inner := (fun z => M 87 (2401 * (e - 1) + 49 * j + (j + z)))) (P := 48) (K := 1) (m := k - j) (by omega) (hin he0) t
    have hcv := y_cv_c (q_it (lk j) (fun z => M 87 (2401 * (e - 1) + 49 * j + (j + z))) 48 1 (k - j) t)
    have hE := fun M : gj_M => M
    refine gj_iload 51 dX8_itemOf_49 rfl rfl ?_
    refine gj_bipush 53 dX8_itemOf_51 rfl (by decide) ?_
    refine gj_icmp_ge 152 56 dX8_itemOf_53 (by decide) rfl (by omega) (by omega) (fun c_53 => absurd c_53 (by omega)) (fun c_53 => ?_)
    refine gj_iload_n 57 dX8_itemOf_56 rfl rfl ?_
    refine gj_if_le 152 60 dX8_itemOf_57 (by decide) rfl (by omega) (fun c_57 => absurd c_57 (by omega)) (fun c_57 => ?_)
    have hd0 : 0 ≤ ((k - j) / ((t : Int) + 2)) := Int.ediv_nonneg (by omega) (by omega)
    have hd1 : ((k - j) / ((t : Int) + 2)) ≤ k - j := Int.ediv_le_self _ (by omega)
    have hm0 := Int.emod_nonneg (k - j) (show ((t : Int) + 2) ≠ 0 by omega)
    have hm1 := Int.emod_lt_of_pos (k - j) (show 0 < ((t : Int) + 2) by omega)
    refine gj_iload 62 dX8_itemOf_60 rfl rfl ?_
    refine gj_iload 64 dX8_itemOf_62 rfl rfl ?_
    refine gj_idiv 65 dX8_itemOf_64 rfl (by omega) (by omega) ?_
    refine gj_istore (lv' := [_, _, _, _, _, _, _, _, _]) 67 dX8_itemOf_65 rfl (by decide) rfl ?_
    refine gj_iload 69 dX8_itemOf_67 rfl rfl ?_
    refine gj_iload 71 dX8_itemOf_69 rfl rfl ?_
    refine gj_irem 72 dX8_itemOf_71 rfl (by omega) (by omega) ?_
    refine gj_if_ne 146 75 dX8_itemOf_72 (by decide) rfl (by omega) (fun c_72 => ?_) (fun c_72 => ?_)
    · refine gj_iinc (b := (((t + 1 : Nat) : Int) + 2)) (lv' := [_, _, _, _, _, _, _, _, _]) 149 dX8_itemOf_146 rfl rfl (by omega) (by decide) rfl ?_
      refine gj_goto 49 dX8_itemOf_149 (by decide) ?_
      have h := ih (t + 1) (by omega)
      first
      | (rw [show q_it (lk j) (fun z => M 87 (2401 * (e - 1) + 49 * j + (j + z))) 48 1 (k - j) (t + 1) = q_it (lk j) (fun z => M 87 (2401 * (e - 1) + 49 * j + (j + z))) 48 1 (k - j) t from if_neg (show ¬ ((k - j) % ((t : Int) + 2) = 0 ∧ k - j - ((k - j) / ((t : Int) + 2)) ≤ lk j ((k - j) / ((t : Int) + 2)) ∧ (((k - j) / ((t : Int) + 2)) ≤ 48 ∨ (((k - j) / ((t : Int) + 2)) = 48 + 1 ∧ (t : Int) + 2 ≤ 1))) from fun z => by have z1 := z.1; have z2 := z.2.1; omega)] at h; exact gj_wk h ⟨rfl, rfl, rfl, rfl, rfl, rfl, rfl, trivial⟩)
      | (have e8 : q_it (lk j) (fun z => M 87 (2401 * (e - 1) + 49 * j + (j + z))) 48 1 (k - j) (t + 1) = min (q_it (lk j) (fun z => M 87 (2401 * (e - 1) + 49 * j + (j + z))) 48 1 (k - j) t) (M 87 (2401 * (e - 1) + 49 * j + (j + ((k - j) / ((t : Int) + 2)))) + 3) := if_pos (show (k - j) % ((t : Int) + 2) = 0 ∧ k - j - ((k - j) / ((t : Int) + 2)) ≤ lk j ((k - j) / ((t : Int) + 2)) ∧ (((k - j) / ((t : Int) + 2)) ≤ 48 ∨ (((k - j) / ((t : Int) + 2)) = 48 + 1 ∧ (t : Int) + 2 ≤ 1)) from ⟨by omega, by omega, Or.inl (by omega)⟩)
         have hcv2 := y_cv_c (q_it (lk j) (fun z => M 87 (2401 * (e - 1) + 49 * j + (j + z))) 48 1 (k - j) (t + 1))
         rw [e8] at hcv2
         rw [e8] at h
         exact gj_wk h ⟨rfl, rfl, rfl, rfl, rfl, gj_sI (by omega), rfl, trivial⟩)
    · have hdv := q_dv (m := k - j) (k := (t : Int) + 2) (by omega) (by omega) (by omega)
      have hl2 := hlk ((k - j) / ((t : Int) + 2)) hdv.1 (by omega)
      have hi2 := hin he0 ((k - j) / ((t : Int) + 2)) hdv.1 hdv.2
      refine gj_aload_n 76 dX8_itemOf_75 rfl rfl ?_
      refine gj_getfr 79 dX8_itemOf_76 rfl fl_8_59 rfl rfl ?_
      refine gj_bipush 81 dX8_itemOf_79 rfl (by decide) ?_
      refine gj_iload_n 82 dX8_itemOf_81 rfl rfl ?_
      refine gj_imul 83 dX8_itemOf_82 rfl ?_
      refine gj_iload_n 84 dX8_itemOf_83 rfl rfl ?_
      
      refine gj_iadd 85 dX8_itemOf_84 rfl ?_
      refine gj_iload 87 dX8_itemOf_85 rfl rfl ?_
      refine gj_iadd 88 dX8_itemOf_87 rfl ?_
      refine gj_ialdE (lk j ((k - j) / ((t : Int) + 2))) 89 dX8_itemOf_88 rfl rfl (by omega) (by omega) (by rw [← hl2.1]; congr 1; omega) (fun r_88 => ?_)
      refine gj_iload 91 dX8_itemOf_89 rfl rfl ?_
      refine gj_iload 93 dX8_itemOf_91 rfl rfl ?_
      refine gj_isub 94 dX8_itemOf_93 rfl ?_
      refine gj_icmp_lt 146 97 dX8_itemOf_94 (by decide) rfl (by omega) (by omega) (fun c_94 => ?_) (fun c_94 => ?_)
      · refine gj_iinc (b := (((t + 1 : Nat) : Int) + 2)) (lv' := [_, _, _, _, _, _, _, _, _]) 149 dX8_itemOf_146 rfl rfl (by omega) (by decide) rfl ?_
        refine gj_goto 49 dX8_itemOf_149 (by decide) ?_
        have h := ih (t + 1) (by omega)
        first
        | (rw [show q_it (lk j) (fun z => M 87 (2401 * (e - 1) + 49 * j + (j + z))) 48 1 (k - j) (t + 1) = q_it (lk j) (fun z => M 87 (2401 * (e - 1) + 49 * j + (j + z))) 48 1 (k - j) t from if_neg (show ¬ ((k - j) % ((t : Int) + 2) = 0 ∧ k - j - ((k - j) / ((t : Int) + 2)) ≤ lk j ((k - j) / ((t : Int) + 2)) ∧ (((k - j) / ((t : Int) + 2)) ≤ 48 ∨ (((k - j) / ((t : Int) + 2)) = 48 + 1 ∧ (t : Int) + 2 ≤ 1))) from fun z => by have z1 := z.1; have z2 := z.2.1; omega)] at h; exact gj_wk h ⟨rfl, rfl, rfl, rfl, rfl, rfl, rfl, trivial⟩)
        | (have e8 : q_it (lk j) (fun z => M 87 (2401 * (e - 1) + 49 * j + (j + z))) 48 1 (k - j) (t + 1) = min (q_it (lk j) (fun z => M 87 (2401 * (e - 1) + 49 * j + (j + z))) 48 1 (k - j) t) (M 87 (2401 * (e - 1) + 49 * j + (j + ((k - j) / ((t : Int) + 2)))) + 3) := if_pos (show (k - j) % ((t : Int) + 2) = 0 ∧ k - j - ((k - j) / ((t : Int) + 2)) ≤ lk j ((k - j) / ((t : Int) + 2)) ∧ (((k - j) / ((t : Int) + 2)) ≤ 48 ∨ (((k - j) / ((t : Int) + 2)) = 48 + 1 ∧ (t : Int) + 2 ≤ 1)) from ⟨by omega, by omega, Or.inl (by omega)⟩)
           have hcv2 := y_cv_c (q_it (lk j) (fun z => M 87 (2401 * (e - 1) + 49 * j + (j + z))) 48 1 (k - j) (t + 1))
           rw [e8] at hcv2
           rw [e8] at h
           exact gj_wk h ⟨rfl, rfl, rfl, rfl, rfl, gj_sI (by omega), rfl, trivial⟩)
      · refine gj_iconst 98 dX8_itemOf_97 rfl ?_
        refine gj_aload_n 99 dX8_itemOf_98 rfl rfl ?_
        refine gj_getfr 102 dX8_itemOf_99 rfl fl_8_62 rfl rfl ?_
        refine gj_sipush 105 dX8_itemOf_102 rfl (by decide) ?_
        refine gj_iload_n 106 dX8_itemOf_105 rfl rfl ?_
        refine gj_iconst 107 dX8_itemOf_106 rfl ?_
        refine gj_isub 108 dX8_itemOf_107 rfl ?_
        refine gj_imul 109 dX8_itemOf_108 rfl ?_
        refine gj_bipush 111 dX8_itemOf_109 rfl (by decide) ?_
        refine gj_iload_n 112 dX8_itemOf_111 rfl rfl ?_
        refine gj_imul 113 dX8_itemOf_112 rfl ?_
        refine gj_iadd 114 dX8_itemOf_113 rfl ?_
        refine gj_iload_n 115 dX8_itemOf_114 rfl rfl ?_
        refine gj_iadd 116 dX8_itemOf_115 rfl ?_
        refine gj_iload 118 dX8_itemOf_116 rfl rfl ?_
        refine gj_iadd 119 dX8_itemOf_118 rfl ?_
        refine gj_ialdE (M 87 (2401 * (e - 1) + 49 * j + (j + ((k - j) / ((t : Int) + 2))))) 120 dX8_itemOf_119 rfl rfl (by omega) (by omega) (by congr 1; omega) (fun r_119 => ?_)
        refine gj_iadd 121 dX8_itemOf_120 rfl ?_
        refine gj_istore (lv' := [_, _, _, _, _, _, _, _, _]) 123 dX8_itemOf_121 rfl (by decide) rfl ?_
        refine gj_iload 125 dX8_itemOf_123 rfl rfl ?_
        refine gj_bipush 127 dX8_itemOf_125 rfl (by decide) ?_
        refine gj_icmp_eq 137 130 dX8_itemOf_127 (by decide) rfl (by omega) (by omega) (fun c_127 => ?_) (fun c_127 => ?_)
        · refine gj_iload 139 dX8_itemOf_137 rfl rfl ?_
          refine gj_goto 144 dX8_itemOf_139 (by decide) ?_
          refine gj_istore (lv' := [_, _, _, _, _, _, _, _, _]) 146 dX8_itemOf_144 rfl (by decide) rfl ?_
          refine gj_iinc (b := (((t + 1 : Nat) : Int) + 2)) (lv' := [_, _, _, _, _, _, _, _, _]) 149 dX8_itemOf_146 rfl rfl (by omega) (by decide) rfl ?_
          refine gj_goto 49 dX8_itemOf_149 (by decide) ?_
          have h := ih (t + 1) (by omega)
          first
          | (rw [show q_it (lk j) (fun z => M 87 (2401 * (e - 1) + 49 * j + (j + z))) 48 1 (k - j) (t + 1) = q_it (lk j) (fun z => M 87 (2401 * (e - 1) + 49 * j + (j + z))) 48 1 (k - j) t from if_neg (show ¬ ((k - j) % ((t : Int) + 2) = 0 ∧ k - j - ((k - j) / ((t : Int) + 2)) ≤ lk j ((k - j) / ((t : Int) + 2)) ∧ (((k - j) / ((t : Int) + 2)) ≤ 48 ∨ (((k - j) / ((t : Int) + 2)) = 48 + 1 ∧ (t : Int) + 2 ≤ 1))) from fun z => by have z1 := z.1; have z2 := z.2.1; omega)] at h; exact gj_wk h ⟨rfl, rfl, rfl, rfl, rfl, rfl, rfl, trivial⟩)
          | (have e8 : q_it (lk j) (fun z => M 87 (2401 * (e - 1) + 49 * j + (j + z))) 48 1 (k - j) (t + 1) = min (q_it (lk j) (fun z => M 87 (2401 * (e - 1) + 49 * j + (j + z))) 48 1 (k - j) t) (M 87 (2401 * (e - 1) + 49 * j + (j + ((k - j) / ((t : Int) + 2)))) + 3) := if_pos (show (k - j) % ((t : Int) + 2) = 0 ∧ k - j - ((k - j) / ((t : Int) + 2)) ≤ lk j ((k - j) / ((t : Int) + 2)) ∧ (((k - j) / ((t : Int) + 2)) ≤ 48 ∨ (((k - j) / ((t : Int) + 2)) = 48 + 1 ∧ (t : Int) + 2 ≤ 1)) from ⟨by omega, by omega, Or.inl (by omega)⟩)
             have hcv2 := y_cv_c (q_it (lk j) (fun z => M 87 (2401 * (e - 1) + 49 * j + (j + z))) 48 1 (k - j) (t + 1))
             rw [e8] at hcv2
             rw [e8] at h
             exact gj_wk h ⟨rfl, rfl, rfl, rfl, rfl, gj_sI (by omega), rfl, trivial⟩)
        · refine gj_iload 132 dX8_itemOf_130 rfl rfl ?_
          refine gj_iload 134 dX8_itemOf_132 rfl rfl ?_
          refine gj_icmp_ge 142 137 dX8_itemOf_134 (by decide) rfl (by omega) (by omega) (fun c_134 => ?_) (fun c_134 => ?_)
          · refine gj_iload 144 dX8_itemOf_142 rfl rfl ?_
            refine gj_istore (lv' := [_, _, _, _, _, _, _, _, _]) 146 dX8_itemOf_144 rfl (by decide) rfl ?_
            refine gj_iinc (b := (((t + 1 : Nat) : Int) + 2)) (lv' := [_, _, _, _, _, _, _, _, _]) 149 dX8_itemOf_146 rfl rfl (by omega) (by decide) rfl ?_
            refine gj_goto 49 dX8_itemOf_149 (by decide) ?_
            have h := ih (t + 1) (by omega)
            first
            | (rw [show q_it (lk j) (fun z => M 87 (2401 * (e - 1) + 49 * j + (j + z))) 48 1 (k - j) (t + 1) = q_it (lk j) (fun z => M 87 (2401 * (e - 1) + 49 * j + (j + z))) 48 1 (k - j) t from if_neg (show ¬ ((k - j) % ((t : Int) + 2) = 0 ∧ k - j - ((k - j) / ((t : Int) + 2)) ≤ lk j ((k - j) / ((t : Int) + 2)) ∧ (((k - j) / ((t : Int) + 2)) ≤ 48 ∨ (((k - j) / ((t : Int) + 2)) = 48 + 1 ∧ (t : Int) + 2 ≤ 1))) from fun z => by have z1 := z.1; have z2 := z.2.1; omega)] at h; exact gj_wk h ⟨rfl, rfl, rfl, rfl, rfl, rfl, rfl, trivial⟩)
            | (have e8 : q_it (lk j) (fun z => M 87 (2401 * (e - 1) + 49 * j + (j + z))) 48 1 (k - j) (t + 1) = min (q_it (lk j) (fun z => M 87 (2401 * (e - 1) + 49 * j + (j + z))) 48 1 (k - j) t) (M 87 (2401 * (e - 1) + 49 * j + (j + ((k - j) / ((t : Int) + 2)))) + 3) := if_pos (show (k - j) % ((t : Int) + 2) = 0 ∧ k - j - ((k - j) / ((t : Int) + 2)) ≤ lk j ((k - j) / ((t : Int) + 2)) ∧ (((k - j) / ((t : Int) + 2)) ≤ 48 ∨ (((k - j) / ((t : Int) + 2)) = 48 + 1 ∧ (t : Int) + 2 ≤ 1)) from ⟨by omega, by omega, Or.inl (by omega)⟩)
               have hcv2 := y_cv_c (q_it (lk j) (fun z => M 87 (2401 * (e - 1) + 49 * j + (j + z))) 48 1 (k - j) (t + 1))
               rw [e8] at hcv2
               rw [e8] at h
               exact gj_wk h ⟨rfl, rfl, rfl, rfl, rfl, gj_sI (by omega), rfl, trivial⟩)
          · refine gj_iload 139 dX8_itemOf_137 rfl rfl ?_
            refine gj_goto 144 dX8_itemOf_139 (by decide) ?_
            refine gj_istore (lv' := [_, _, _, _, _, _, _, _, _]) 146 dX8_itemOf_144 rfl (by decide) rfl ?_
            refine gj_iinc (b := (((t + 1 : Nat) : Int) + 2)) (lv' := [_, _, _, _, _, _, _, _, _]) 149 dX8_itemOf_146 rfl rfl (by omega) (by decide) rfl ?_
            refine gj_goto 49 dX8_itemOf_149 (by decide) ?_
            have h := ih (t + 1) (by omega)
            first
            | (rw [show q_it (lk j) (fun z => M 87 (2401 * (e - 1) + 49 * j + (j + z))) 48 1 (k - j) (t + 1) = q_it (lk j) (fun z => M 87 (2401 * (e - 1) + 49 * j + (j + z))) 48 1 (k - j) t from if_neg (show ¬ ((k - j) % ((t : Int) + 2) = 0 ∧ k - j - ((k - j) / ((t : Int) + 2)) ≤ lk j ((k - j) / ((t : Int) + 2)) ∧ (((k - j) / ((t : Int) + 2)) ≤ 48 ∨ (((k - j) / ((t : Int) + 2)) = 48 + 1 ∧ (t : Int) + 2 ≤ 1))) from fun z => by have z1 := z.1; have z2 := z.2.1; omega)] at h; exact gj_wk h ⟨rfl, rfl, rfl, rfl, rfl, rfl, rfl, trivial⟩)
            | (have e8 : q_it (lk j) (fun z => M 87 (2401 * (e - 1) + 49 * j + (j + z))) 48 1 (k - j) (t + 1) = min (q_it (lk j) (fun z => M 87 (2401 * (e - 1) + 49 * j + (j + z))) 48 1 (k - j) t) (M 87 (2401 * (e - 1) + 49 * j + (j + ((k - j) / ((t : Int) + 2)))) + 3) := if_pos (show (k - j) % ((t : Int) + 2) = 0 ∧ k - j - ((k - j) / ((t : Int) + 2)) ≤ lk j ((k - j) / ((t : Int) + 2)) ∧ (((k - j) / ((t : Int) + 2)) ≤ 48 ∨ (((k - j) / ((t : Int) + 2)) = 48 + 1 ∧ (t : Int) + 2 ≤ 1)) from ⟨by omega, by omega, Or.inl (by omega)⟩)
               have hcv2 := y_cv_c (q_it (lk j) (fun z => M 87 (2401 * (e - 1) + 49 * j + (j + z))) 48 1 (k - j) (t + 1))
               rw [e8] at hcv2
               rw [e8] at h
               exact gj_wk h ⟨rfl, rfl, rfl, rfl, rfl, gj_sI (by omega), rfl, trivial⟩)

set_option maxRecDepth 100000 in
set_option maxHeartbeats 1000000 in
theorem s8_item {xt : Nat × (Nat → Int)} {M : gj_M} {j k e : Int} {lk : Int → Int → Int} (hj : 0 ≤ j ∧ j < k ∧ k ≤ 48) (he : 0 ≤ e ∧ e < 3) (hlk : ∀ p : Int, 1 ≤ p → j + p ≤ 48 → M 86 (49 * j + (j + p)) = lk j p ∧ 0 ≤ lk j p ∧ lk j p ≤ 100) (hin : e ≠ 0 → ∀ p : Int, 1 ≤ p → p < k - j → 0 ≤ M 87 (2401 * (e - 1) + 49 * j + (j + p)) ∧ M 87 (2401 * (e - 1) + 49 * j + (j + p)) ≤ 96) : gj_F xt Y8_itemOf gS [gR 69, gI j, gI k, gI e] M (some (gI (y_cv (y_iv lk (M 87) e j (k - j))))) M := by
  show gj_G _ Y8_itemOf gS 0 0 0 [_, _, _, _, _, _, _, _, _] [] M _
  refine gj_iload_n 1 dX8_itemOf_0 rfl rfl ?_
  refine gj_iload_n 2 dX8_itemOf_1 rfl rfl ?_
  refine gj_isub 3 dX8_itemOf_2 rfl ?_
  refine gj_istore (lv' := [_, _, _, _, _, _, _, _, _]) 5 dX8_itemOf_3 rfl (by decide) rfl ?_
  
  refine gj_iload 7 dX8_itemOf_5 rfl rfl ?_
  refine gj_bipush 9 dX8_itemOf_7 rfl (by decide) ?_
  refine gj_icmp_ge 42 12 dX8_itemOf_9 (by decide) rfl (by omega) (by omega) (fun c_9 => ?_) (fun c_9 => ?_)
  · have hl1 := hlk 1 (by omega) (by omega)
    refine gj_bipush 44 dX8_itemOf_42 rfl (by decide) ?_
    refine gj_istore (lv' := [_, _, _, _, _, _, _, _, _]) 46 dX8_itemOf_44 rfl (by decide) rfl ?_
    refine gj_iconst 47 dX8_itemOf_46 rfl ?_
    refine gj_istore (lv' := [_, _, _, _, _, _, _, _, _]) 49 dX8_itemOf_47 rfl (by decide) rfl ?_
    first
    | (have e5 : y_cv (q_b (lk j 1) (k - j)) = 2 := by
         unfold q_b
         first
         | (rw [if_pos (by omega)]; rfl)
         | (rw [if_neg (by omega)]; rfl)
       by_cases he0 : e = 0
       · refine gj_iload 51 dX8_itemOf_49 rfl rfl ?_
         refine gj_bipush 53 dX8_itemOf_51 rfl (by decide) ?_
         refine gj_icmp_ge 152 56 dX8_itemOf_53 (by decide) rfl (by omega) (by omega) (fun c_53 => absurd c_53 (by decide)) (fun c_53 => ?_)
         refine gj_iload_n 57 dX8_itemOf_56 rfl rfl ?_
         refine gj_if_le 152 60 dX8_itemOf_57 (by decide) rfl (by omega) (fun c_57 => ?_) (fun c_57 => absurd c_57 (by omega))
         refine gj_iload 154 dX8_itemOf_152 rfl rfl ?_
         refine gj_iret dX8_itemOf_154 rfl ⟨Nat.zero_le _, Nat.zero_le _⟩ ?_
         exact ⟨rfl, by unfold y_iv; rw [if_pos he0, e5], rfl⟩
       · exact gj_wk (s8_it_l hj he hlk hin he0 8 0 rfl) ⟨rfl, rfl, rfl, rfl, rfl, gj_sI e5.symm, rfl, trivial⟩)
    | (have e5 : y_cv (q_b (lk j 1) (k - j)) = -9 := by
         unfold q_b
         first
         | (rw [if_pos (by omega)]; rfl)
         | (rw [if_neg (by omega)]; rfl)
       by_cases he0 : e = 0
       · refine gj_iload 51 dX8_itemOf_49 rfl rfl ?_
         refine gj_bipush 53 dX8_itemOf_51 rfl (by decide) ?_
         refine gj_icmp_ge 152 56 dX8_itemOf_53 (by decide) rfl (by omega) (by omega) (fun c_53 => absurd c_53 (by decide)) (fun c_53 => ?_)
         refine gj_iload_n 57 dX8_itemOf_56 rfl rfl ?_
         refine gj_if_le 152 60 dX8_itemOf_57 (by decide) rfl (by omega) (fun c_57 => ?_) (fun c_57 => absurd c_57 (by omega))
         refine gj_iload 154 dX8_itemOf_152 rfl rfl ?_
         refine gj_iret dX8_itemOf_154 rfl ⟨Nat.zero_le _, Nat.zero_le _⟩ ?_
         exact ⟨rfl, by unfold y_iv; rw [if_pos he0, e5], rfl⟩
       · exact gj_wk (s8_it_l hj he hlk hin he0 8 0 rfl) ⟨rfl, rfl, rfl, rfl, rfl, gj_sI e5.symm, rfl, trivial⟩)
  · refine gj_iload 14 dX8_itemOf_12 rfl rfl ?_
    refine gj_iconst 15 dX8_itemOf_14 rfl ?_
    refine gj_icmp_eq 38 18 dX8_itemOf_15 (by decide) rfl (by omega) (by omega) (fun c_15 => ?_) (fun c_15 => ?_)
    · have hl1 := hlk 1 (by omega) (by omega)
      refine gj_iconst 39 dX8_itemOf_38 rfl ?_
      refine gj_goto 44 dX8_itemOf_39 (by decide) ?_
      refine gj_istore (lv' := [_, _, _, _, _, _, _, _, _]) 46 dX8_itemOf_44 rfl (by decide) rfl ?_
      refine gj_iconst 47 dX8_itemOf_46 rfl ?_
      refine gj_istore (lv' := [_, _, _, _, _, _, _, _, _]) 49 dX8_itemOf_47 rfl (by decide) rfl ?_
      first
      | (have e5 : y_cv (q_b (lk j 1) (k - j)) = 2 := by
           unfold q_b
           first
           | (rw [if_pos (by omega)]; rfl)
           | (rw [if_neg (by omega)]; rfl)
         by_cases he0 : e = 0
         · refine gj_iload 51 dX8_itemOf_49 rfl rfl ?_
           refine gj_bipush 53 dX8_itemOf_51 rfl (by decide) ?_
           refine gj_icmp_ge 152 56 dX8_itemOf_53 (by decide) rfl (by omega) (by omega) (fun c_53 => absurd c_53 (by decide)) (fun c_53 => ?_)
           refine gj_iload_n 57 dX8_itemOf_56 rfl rfl ?_
           refine gj_if_le 152 60 dX8_itemOf_57 (by decide) rfl (by omega) (fun c_57 => ?_) (fun c_57 => absurd c_57 (by omega))
           refine gj_iload 154 dX8_itemOf_152 rfl rfl ?_
           refine gj_iret dX8_itemOf_154 rfl ⟨Nat.zero_le _, Nat.zero_le _⟩ ?_
           exact ⟨rfl, by unfold y_iv; rw [if_pos he0, e5], rfl⟩
         · exact gj_wk (s8_it_l hj he hlk hin he0 8 0 rfl) ⟨rfl, rfl, rfl, rfl, rfl, gj_sI e5.symm, rfl, trivial⟩)
      | (have e5 : y_cv (q_b (lk j 1) (k - j)) = -9 := by
           unfold q_b
           first
           | (rw [if_pos (by omega)]; rfl)
           | (rw [if_neg (by omega)]; rfl)
         by_cases he0 : e = 0
         · refine gj_iload 51 dX8_itemOf_49 rfl rfl ?_
           refine gj_bipush 53 dX8_itemOf_51 rfl (by decide) ?_
           refine gj_icmp_ge 152 56 dX8_itemOf_53 (by decide) rfl (by omega) (by omega) (fun c_53 => absurd c_53 (by decide)) (fun c_53 => ?_)
           refine gj_iload_n 57 dX8_itemOf_56 rfl rfl ?_
           refine gj_if_le 152 60 dX8_itemOf_57 (by decide) rfl (by omega) (fun c_57 => ?_) (fun c_57 => absurd c_57 (by omega))
           refine gj_iload 154 dX8_itemOf_152 rfl rfl ?_
           refine gj_iret dX8_itemOf_154 rfl ⟨Nat.zero_le _, Nat.zero_le _⟩ ?_
           exact ⟨rfl, by unfold y_iv; rw [if_pos he0, e5], rfl⟩
         · exact gj_wk (s8_it_l hj he hlk hin he0 8 0 rfl) ⟨rfl, rfl, rfl, rfl, rfl, gj_sI e5.symm, rfl, trivial⟩)
    · have hl1 := hlk 1 (by omega) (by omega)
      refine gj_aload_n 19 dX8_itemOf_18 rfl rfl ?_
      refine gj_getfr 22 dX8_itemOf_19 rfl fl_8_59 rfl rfl ?_
      refine gj_bipush 24 dX8_itemOf_22 rfl (by decide) ?_
      refine gj_iload_n 25 dX8_itemOf_24 rfl rfl ?_
      refine gj_imul 26 dX8_itemOf_25 rfl ?_
      refine gj_iload_n 27 dX8_itemOf_26 rfl rfl ?_
      refine gj_iadd 28 dX8_itemOf_27 rfl ?_
      refine gj_iconst 29 dX8_itemOf_28 rfl ?_
      refine gj_iadd 30 dX8_itemOf_29 rfl ?_
      refine gj_ialdE (lk j 1) 31 dX8_itemOf_30 rfl rfl (by omega) (by omega) (by rw [← hl1.1]; congr 1; omega) (fun r_30 => ?_)
      refine gj_iload 33 dX8_itemOf_31 rfl rfl ?_
      refine gj_iconst 34 dX8_itemOf_33 rfl ?_
      refine gj_isub 35 dX8_itemOf_34 rfl ?_
      refine gj_icmp_lt 42 38 dX8_itemOf_35 (by decide) rfl (by omega) (by omega) (fun c_35 => ?_) (fun c_35 => ?_)
      · have hl1 := hlk 1 (by omega) (by omega)
        refine gj_bipush 44 dX8_itemOf_42 rfl (by decide) ?_
        refine gj_istore (lv' := [_, _, _, _, _, _, _, _, _]) 46 dX8_itemOf_44 rfl (by decide) rfl ?_
        refine gj_iconst 47 dX8_itemOf_46 rfl ?_
        refine gj_istore (lv' := [_, _, _, _, _, _, _, _, _]) 49 dX8_itemOf_47 rfl (by decide) rfl ?_
        first
        | (have e5 : y_cv (q_b (lk j 1) (k - j)) = 2 := by
             unfold q_b
             first
             | (rw [if_pos (by omega)]; rfl)
             | (rw [if_neg (by omega)]; rfl)
           by_cases he0 : e = 0
           · refine gj_iload 51 dX8_itemOf_49 rfl rfl ?_
             refine gj_bipush 53 dX8_itemOf_51 rfl (by decide) ?_
             refine gj_icmp_ge 152 56 dX8_itemOf_53 (by decide) rfl (by omega) (by omega) (fun c_53 => absurd c_53 (by decide)) (fun c_53 => ?_)
             refine gj_iload_n 57 dX8_itemOf_56 rfl rfl ?_
             refine gj_if_le 152 60 dX8_itemOf_57 (by decide) rfl (by omega) (fun c_57 => ?_) (fun c_57 => absurd c_57 (by omega))
             refine gj_iload 154 dX8_itemOf_152 rfl rfl ?_
             refine gj_iret dX8_itemOf_154 rfl ⟨Nat.zero_le _, Nat.zero_le _⟩ ?_
             exact ⟨rfl, by unfold y_iv; rw [if_pos he0, e5], rfl⟩
           · exact gj_wk (s8_it_l hj he hlk hin he0 8 0 rfl) ⟨rfl, rfl, rfl, rfl, rfl, gj_sI e5.symm, rfl, trivial⟩)
        | (have e5 : y_cv (q_b (lk j 1) (k - j)) = -9 := by
             unfold q_b
             first
             | (rw [if_pos (by omega)]; rfl)
             | (rw [if_neg (by omega)]; rfl)
           by_cases he0 : e = 0
           · refine gj_iload 51 dX8_itemOf_49 rfl rfl ?_
             refine gj_bipush 53 dX8_itemOf_51 rfl (by decide) ?_
             refine gj_icmp_ge 152 56 dX8_itemOf_53 (by decide) rfl (by omega) (by omega) (fun c_53 => absurd c_53 (by decide)) (fun c_53 => ?_)
             refine gj_iload_n 57 dX8_itemOf_56 rfl rfl ?_
             refine gj_if_le 152 60 dX8_itemOf_57 (by decide) rfl (by omega) (fun c_57 => ?_) (fun c_57 => absurd c_57 (by omega))
             refine gj_iload 154 dX8_itemOf_152 rfl rfl ?_
             refine gj_iret dX8_itemOf_154 rfl ⟨Nat.zero_le _, Nat.zero_le _⟩ ?_
             exact ⟨rfl, by unfold y_iv; rw [if_pos he0, e5], rfl⟩
           · exact gj_wk (s8_it_l hj he hlk hin he0 8 0 rfl) ⟨rfl, rfl, rfl, rfl, rfl, gj_sI e5.symm, rfl, trivial⟩)
      · have hl1 := hlk 1 (by omega) (by omega)
        refine gj_iconst 39 dX8_itemOf_38 rfl ?_
        refine gj_goto 44 dX8_itemOf_39 (by decide) ?_
        refine gj_istore (lv' := [_, _, _, _, _, _, _, _, _]) 46 dX8_itemOf_44 rfl (by decide) rfl ?_
        refine gj_iconst 47 dX8_itemOf_46 rfl ?_
        refine gj_istore (lv' := [_, _, _, _, _, _, _, _, _]) 49 dX8_itemOf_47 rfl (by decide) rfl ?_
        first
        | (have e5 : y_cv (q_b (lk j 1) (k - j)) = 2 := by
             unfold q_b
             first
             | (rw [if_pos (by omega)]; rfl)
             | (rw [if_neg (by omega)]; rfl)
           by_cases he0 : e = 0
           · refine gj_iload 51 dX8_itemOf_49 rfl rfl ?_
             refine gj_bipush 53 dX8_itemOf_51 rfl (by decide) ?_
             refine gj_icmp_ge 152 56 dX8_itemOf_53 (by decide) rfl (by omega) (by omega) (fun c_53 => absurd c_53 (by decide)) (fun c_53 => ?_)
             refine gj_iload_n 57 dX8_itemOf_56 rfl rfl ?_
             refine gj_if_le 152 60 dX8_itemOf_57 (by decide) rfl (by omega) (fun c_57 => ?_) (fun c_57 => absurd c_57 (by omega))
             refine gj_iload 154 dX8_itemOf_152 rfl rfl ?_
             refine gj_iret dX8_itemOf_154 rfl ⟨Nat.zero_le _, Nat.zero_le _⟩ ?_
             exact ⟨rfl, by unfold y_iv; rw [if_pos he0, e5], rfl⟩
           · exact gj_wk (s8_it_l hj he hlk hin he0 8 0 rfl) ⟨rfl, rfl, rfl, rfl, rfl, gj_sI e5.symm, rfl, trivial⟩)
        | (have e5 : y_cv (q_b (lk j 1) (k - j)) = -9 := by
             unfold q_b
             first
             | (rw [if_pos (by omega)]; rfl)
             | (rw [if_neg (by omega)]; rfl)
           by_cases he0 : e = 0
           · refine gj_iload 51 dX8_itemOf_49 rfl rfl ?_
             refine gj_bipush 53 dX8_itemOf_51 rfl (by decide) ?_
             refine gj_icmp_ge 152 56 dX8_itemOf_53 (by decide) rfl (by omega) (by omega) (fun c_53 => absurd c_53 (by decide)) (fun c_53 => ?_)
             refine gj_iload_n 57 dX8_itemOf_56 rfl rfl ?_
             refine gj_if_le 152 60 dX8_itemOf_57 (by decide) rfl (by omega) (fun c_57 => ?_) (fun c_57 => absurd c_57 (by omega))
             refine gj_iload 154 dX8_itemOf_152 rfl rfl ?_
             refine gj_iret dX8_itemOf_154 rfl ⟨Nat.zero_le _, Nat.zero_le _⟩ ?_
             exact ⟨rfl, by unfold y_iv; rw [if_pos he0, e5], rfl⟩
           · exact gj_wk (s8_it_l hj he hlk hin he0 8 0 rfl) ⟨rfl, rfl, rfl, rfl, rfl, gj_sI e5.symm, rfl, trivial⟩)
