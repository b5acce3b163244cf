/-! what each side leaves alone -/
theorem ck_u {M : gj_M} {h : Nat} {i v : Int} (hh : h < 69 ∨ h = 5000) : cK_ M (gj_u M h i v) := fun x a b => funext fun _ => gj_u_o (by omega)
theorem cK_.tr {A B C : gj_M} (h : cK_ A B) (g : cK_ B C) : cK_ A C := fun x a b => (g x a b).trans (h x a b)
theorem cK_.rf {A : gj_M} : cK_ A A := fun _ _ _ => rfl
theorem cK_.u {M M1 : gj_M} (hk : cK_ M M1) {h : Nat} {i v : Int} (hh : h < 69 ∨ h = 5000) : cK_ M (gj_u M1 h i v) := hk.tr (ck_u hh)
theorem rk_u {M : gj_M} {h : Nat} {i v : Int} (hh : 69 ≤ h ∧ h ≠ 5000) : rK_ M (gj_u M h i v) := fun x a => funext fun _ => gj_u_o (by omega)
theorem rK_.tr {A B C : gj_M} (h : rK_ A B) (g : rK_ B C) : rK_ A C := fun x a => (g x a).trans (h x a)
theorem rK_.rf {A : gj_M} : rK_ A A := fun _ _ => rfl
theorem rK_.u {M M1 : gj_M} (hk : rK_ M M1) {h : Nat} {i v : Int} (hh : 69 ≤ h ∧ h ≠ 5000) : rK_ M (gj_u M1 h i v) := hk.tr (rk_u hh)
theorem ck_write (M : gj_M) (c : Int) : cK_ M (m_write M c) := by
  unfold m_write
  split
  · exact cK_.rf
  split
  · exact cK_.rf
  · exact (ck_u (by decide)).u (by decide)
theorem rk_write (M : gj_M) (c : Int) : rK_ M (n_write M c) := by
  unfold n_write
  split
  · exact rK_.rf
  split
  · exact rK_.rf
  · exact (rk_u (by decide)).u (by decide)
theorem ck_fault (M : gj_M) : cK_ M (m_fault M) := (m_fault_E M).cK (by decide)
theorem rk_F {M M1 : gj_M} (h : v_F M M1) : rK_ M M1 := h.1.rK (by decide)
theorem ck_rl (A : gj_M) : cK_ A (w_rl A) := fun x a b => w_rl_o (by
  simp only [List.mem_cons, List.not_mem_nil, or_false]
  omega)
theorem ck_reel (M : gj_M) : cK_ M (m_reel M) := by
  unfold m_reel
  split
  · exact (ck_fault M).tr (ck_rl (m_fault M))
  · exact ck_fault M
theorem rk_reel (M : gj_M) : rK_ M (n_reel M) := fun x a => n_reel_o (by
  simp only [List.mem_cons, List.not_mem_nil, or_false]
  omega)
theorem ck_ad (M : gj_M) (kd w a b c : Int) : cK_ M (k_ad M kd w a b c) := fun x h1 h2 => funext fun _ => k_ad_o (by omega) (by omega)
theorem rk_nt (M : gj_M) : rK_ M (y_nt M) := fun x h1 => funext fun i => y_nt_o (by omega) (by omega) i
theorem ck_redraw (M : gj_M) (d x w : Int) : cK_ M (m_redraw M d x w) := by
  unfold m_redraw
  split
  · split
    · exact cK_.rf
    · exact ((ck_ad _ _ _ _ _ _).u (by decide)).u (by decide)
  · exact cK_.rf
theorem rk_redraw (M : gj_M) (d x w : Int) : rK_ M (n_redraw M d x w) := by
  unfold n_redraw
  split
  · split
    · exact rK_.rf
    · exact ((rk_nt _).u (by decide)).u (by decide)
  · exact rK_.rf
theorem ck_delay (M : gj_M) (l v : Int) : cK_ M (m_delay M l v) := by
  unfold m_delay
  split
  · split
    · exact cK_.rf
    · exact (ck_ad _ _ _ _ _ _).u (by decide)
  · exact cK_.rf
theorem rk_delay (M : gj_M) (l v : Int) : rK_ M (n_delay M l v) := by
  unfold n_delay
  split
  · split
    · exact rK_.rf
    · exact (rk_nt _).u (by decide)
  · exact rK_.rf
theorem ck_pan (M : gj_M) (l s b e : Int) : cK_ M (m_pan M l s b e) := by
  unfold m_pan
  split
  · split
    · exact cK_.rf
    · exact (((ck_ad _ _ _ _ _ _).u (by decide)).u (by decide)).u (by decide)
  · exact cK_.rf
theorem rk_pan (M : gj_M) (l s b e : Int) : rK_ M (n_pan M l s b e) := by
  unfold n_pan
  split
  · split
    · exact rK_.rf
    · exact (((rk_nt _).u (by decide)).u (by decide)).u (by decide)
  · exact rK_.rf
theorem ck_swap (M : gj_M) (f o : Int) : cK_ M (m_swap M f o) := by
  unfold m_swap b_as
  split
  · split
    · exact cK_.rf
    · exact (((ck_ad _ _ _ _ _ _).u (by decide)).u (by decide)).u (by decide)
  · exact cK_.rf
theorem rk_swap (M : gj_M) (f o : Int) : rK_ M (n_swap M f o) := by
  unfold n_swap
  split
  · split
    · exact rK_.rf
    · exact (((rk_nt _).u (by decide)).u (by decide)).u (by decide)
  · exact rK_.rf
theorem ck_back (M : gj_M) : cK_ M (m_back M) := by
  unfold m_back
  split
  · exact cK_.rf
  · exact (ck_ad _ _ _ _ _ _).u (by decide)
theorem rk_back (M : gj_M) : rK_ M (n_back M) := by
  unfold n_back
  split
  · exact rK_.rf
  · exact (rk_nt _).u (by decide)
theorem ck_undo (M : gj_M) : cK_ M (m_undo M) := by
  unfold m_undo
  split
  · exact cK_.rf
  · intro x h1 h2
    funext i
    unfold k_bk
    rw [k_in_o (by omega), gj_u_o (by omega)]
theorem rk_undo (M : gj_M) : rK_ M (n_undo M) := by
  unfold n_undo
  split
  · exact rK_.rf
  · intro x h1
    funext i
    rw [y_ub_o (by omega), gj_u_o (by omega)]
theorem ck_see (M : gj_M) (f c v : Int) : cK_ M (m_see M f c v) := by
  unfold m_see g_ad
  split
  · split
    · exact cK_.rf
    · exact (((ck_u (by decide)).u (by decide)).u (by decide)).u (by decide)
  · exact cK_.rf
theorem rk_see (M : gj_M) (f c v : Int) : rK_ M (n_see M f c v) := by
  unfold n_see
  split
  · split
    · exact rK_.rf
    · exact (((rk_u (by decide)).u (by decide)).u (by decide)).u (by decide)
  · exact rK_.rf
theorem ck_looks (M : gj_M) (m : Int) : cK_ M (m_looks M m) := by
  unfold m_looks
  split
  · exact cK_.rf
  · exact ck_u (by decide)
theorem rk_looks (M : gj_M) (m : Int) : rK_ M (n_looks M m) := by
  unfold n_looks
  split
  · exact rK_.rf
  · exact rk_u (by decide)
theorem ck_keep (M : gj_M) (s : Int) : cK_ M (m_keep M s) := by
  unfold m_keep
  split
  · exact cK_.rf
  · refine cK_.u (fun x h1 h2 => funext fun i => ?_) (by decide)
    by_cases z : s = 0
    · rw [if_pos z, b_cp_big (by omega)]
    · rw [if_neg z, b_cp_big (by omega)]
theorem rk_keep (M : gj_M) (s : Int) : rK_ M (n_keep M s) := by
  unfold n_keep
  split
  · exact rK_.rf
  · intro x h1
    funext i
    rw [y_kp_o (by omega), gj_u_o (by omega)]
theorem ck_again (M : gj_M) (s : Int) : cK_ M (m_again M s) := by
  unfold m_again
  split
  · exact cK_.rf
  split
  · exact cK_.rf
  · exact cK_.u (fun x h1 h2 => funext fun i => b_cp_big (by omega)) (by decide)
theorem rk_again (M : gj_M) (s : Int) : rK_ M (n_again M s) := by
  unfold n_again
  split
  · exact rK_.rf
  split
  · exact rK_.rf
  · exact rK_.u (fun x h1 => funext fun i => y_ub_o (by omega) i 40) (by decide)
/-! rows for the law -/
section GQ
variable {xt : Nat × (Nat → Int)} {Y : gj_Y} {S : List gj_H} {k n pc : Nat} {lv : List (Option gj_V)} {st st' : List gj_V} {M : gj_M} {Q : Option gj_V → List gj_H → gj_M → Prop}
theorem gj_stE (h : ∀ ad, st.map (gj_c ad) = st'.map (gj_c ad)) (kk : gj_G xt Y S k n pc lv st' M Q) : gj_G xt Y S k n pc lv st M Q :=
  fun p l e s m args below meth c H locs ls ad cA cZ D A Z hC hW hL hR => by rw [h ad]; exact kk p l e s m args below meth c H locs ls ad cA cZ D A Z hC hW hL hR
theorem gj_eqT {a b off : Int} (tp np : Nat) (hd : decode Y.2.1 pc = .ok (.if_icmp .eq off, 3)) (ht : (pc : Int) + off = (tp : Int)) (hp : pc + 3 = np) (h : a = b) (kt : gj_G xt Y S k n tp lv st M Q) : gj_G xt Y S k n pc lv (gI b :: gI a :: st) M Q := by
  subst h
  refine gj_stE (st' := gI (Int32.ofInt a).toInt :: gI (Int32.ofInt a).toInt :: st) (fun ad => ?_) (gj_icmp_eq tp np hd ht hp (gj_in32 _) (gj_in32 _) (fun _ => kt) (fun q => absurd rfl q))
  simp only [List.map_cons, gI, gj_c, Int32.ofInt_toInt]
theorem gj_in64 (x : Int64) : gj_in6 x.toInt := by
  have h1 := Int64.le_toInt x
  have h2 := Int64.toInt_lt x
  exact ⟨by omega, by omega⟩
theorem gj_lcT {a b : Int} (np : Nat) (hd : decode Y.2.1 pc = .ok (.lcmp, 1)) (hp : pc + 1 = np) (h : a = b) (kk : gj_G xt Y S k n np lv (gI 0 :: st) M Q) : gj_G xt Y S k n pc lv (gL b :: gL a :: st) M Q := by
  subst h
  refine gj_stE (st' := gL (Int64.ofInt a).toInt :: gL (Int64.ofInt a).toInt :: st) (fun ad => ?_) (gj_lcmp np hd hp (gj_in64 _) (gj_in64 _) (gj_top 0 (by rw [if_neg (by omega), if_pos rfl]) kk))
  simp only [List.map_cons, gL, gj_c, Int64.ofInt_toInt]
end GQ
