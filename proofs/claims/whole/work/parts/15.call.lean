theorem gj_goodIn : GoodIn gj_tb gj_tb := fun w hw => ⟨hw, good_of_word (List.mem_filter.mp hw).2⟩
theorem gj_goodC {w : Cond} (h : w ∈ gj_tb) : GoodIn gj_tb (w :: gj_tb) := fun x hx => (List.mem_cons.mp hx).elim (fun e => e ▸ gj_goodIn w h) (gj_goodIn x)
def gj_cp (M : gj_M) (hs hd : Nat) (sp dp n : Int) : gj_M := fun h i => if h = hd ∧ dp ≤ i ∧ i < dp + n then M hs (sp + (i - dp)) else M h i
theorem gj_R.cp {M : gj_M} (hR : gj_R M) {hs : Nat} (hd : Nat) (sp dp n : Int) (h5 : hs < 5000) : gj_R (gj_cp M hs hd sp dp n) := by
  intro h hh i
  unfold gj_cp
  split
  · exact hR hs h5 _
  · exact hR h hh i
def gj_al : List gj_V → Nat
  | [] => 0
  | .inr (.inl _) :: t => gj_al t + 2
  | .inl _ :: t => gj_al t + 1
  | .inr (.inr _) :: t => gj_al t + 1
theorem gj_al_eq (ad : Nat → Nat) : ∀ As : List gj_V, (lg_sl (As.map (gj_c ad))).length = gj_al As := by
  intro As
  induction As with
  | nil => rfl
  | cons v t ih =>
    match v with
    | .inl a => simp [lg_sl, gj_c, Value.category, gj_al] at ih ⊢; omega
    | .inr (.inl a) => simp [lg_sl, gj_c, Value.category, gj_al] at ih ⊢; omega
    | .inr (.inr (some h)) => simp [lg_sl, gj_c, Value.category, gj_al] at ih ⊢; omega
    | .inr (.inr none) => simp [lg_sl, gj_c, Value.category, gj_al] at ih ⊢; omega
theorem gj_ct (ad : Nat → Nat) : ∀ As : List gj_V, ((As.map (gj_c ad)).map fun v => v.category).sum = gj_al As := by
  intro As
  induction As with
  | nil => rfl
  | cons v t ih =>
    match v with
    | .inl a => simp [gj_c, Value.category, gj_al] at ih ⊢; omega
    | .inr (.inl a) => simp [gj_c, Value.category, gj_al] at ih ⊢; omega
    | .inr (.inr (some h)) => simp [gj_c, Value.category, gj_al] at ih ⊢; omega
    | .inr (.inr none) => simp [gj_c, Value.category, gj_al] at ih ⊢; omega
def gj_no : Nat → List (Option gj_V)
  | 0 => []
  | n + 1 => none :: gj_no n
def gj_en : Nat → List gj_V → List (Option gj_V)
  | n, [] => gj_no n
  | n, .inl a :: t => some (gI a) :: gj_en (n - 1) t
  | n, .inr (.inl a) :: t => some (gL a) :: none :: gj_en (n - 2) t
  | n, .inr (.inr (some h)) :: t => some (gR h) :: gj_en (n - 1) t
  | n, .inr (.inr none) :: t => some (.inr (.inr none)) :: gj_en (n - 1) t
theorem gj_no_get : ∀ (n i : Nat) (v : gj_V), (gj_no n)[i]? = some (some v) → False := by
  intro n
  induction n with
  | zero => intro i v h; simp [gj_no] at h
  | succ n ih =>
    intro i v h
    cases i with
    | zero => simp [gj_no] at h
    | succ i => exact ih i v (by simpa [gj_no] using h)
theorem gj_en_get (ad : Nat → Nat) : ∀ (As : List gj_V) (n o i : Nat) (v : gj_V), (gj_en n As)[i]? = some (some v) → (o + i, gj_c ad v) ∈ lv_args o (As.map (gj_c ad)) := by
  intro As
  induction As with
  | nil => intro n o i v h; exact absurd h (fun q => gj_no_get n i v q)
  | cons a t ih =>
    intro n o i v h
    match a, i, h with
    | .inl x, 0, h => simp [gj_en] at h; subst h; simp [lv_args]; exact Or.inl rfl
    | .inl x, i + 1, h =>
      have := ih (n - 1) (o + 1) i v (by simpa [gj_en] using h)
      have e : o + 1 + i = o + (i + 1) := by omega
      rw [e] at this
      exact List.mem_cons_of_mem _ this
    | .inr (.inl x), 0, h => simp [gj_en] at h; subst h; simp [lv_args]; exact Or.inl rfl
    | .inr (.inl x), 1, h => simp [gj_en] at h
    | .inr (.inl x), i + 2, h =>
      have := ih (n - 2) (o + 2) i v (by simpa [gj_en] using h)
      have e : o + 2 + i = o + (i + 2) := by omega
      rw [e] at this
      exact List.mem_cons_of_mem _ this
    | .inr (.inr (some x)), 0, h => simp [gj_en] at h; subst h; simp [lv_args]; exact Or.inl rfl
    | .inr (.inr (some x)), i + 1, h =>
      have := ih (n - 1) (o + 1) i v (by simpa [gj_en] using h)
      have e : o + 1 + i = o + (i + 1) := by omega
      rw [e] at this
      exact List.mem_cons_of_mem _ this
    | .inr (.inr none), 0, h => simp [gj_en] at h; subst h; simp [lv_args]
    | .inr (.inr none), i + 1, h =>
      have := ih (n - 1) (o + 1) i v (by simpa [gj_en] using h)
      have e : o + 1 + i = o + (i + 1) := by omega
      rw [e] at this
      exact List.mem_cons_of_mem _ this
section GC
variable {xt : Nat × (Nat → Int)} {Y : gj_Y} {S : List gj_H} {k n pc : Nat} {lv lv' : List (Option gj_V)} {st : List gj_V} {M : gj_M} {Q : Option gj_V → List gj_H → gj_M → Prop}
theorem gj_copy {idx hs hd N0 N1 : Nat} {sp dp z : Int} (np : Nat) (hdd : decode Y.2.1 pc = .ok (.invokestatic idx, 3)) (hp : pc + 3 = np) (hl : Cond.methodLink Y.1.cls idx arraycopyName ∈ gj_tb) (h0 : S[hs]? = some (.inr (false, N0))) (h1 : S[hd]? = some (.inr (false, N1))) (hsp : 0 ≤ sp ∧ 0 ≤ z ∧ sp + z ≤ N0) (hdp : 0 ≤ dp ∧ dp + z ≤ N1) (hsm : N0 ≤ 100000 ∧ N1 ≤ 100000) (hfr : 1 ≤ Y.2.2.2.2.frames) (hlo : gj_al st + 18 ≤ Y.2.2.2.2.locals) (kk : gj_G xt Y S k n np lv st (gj_cp M hs hd sp dp z) Q) : gj_G xt Y S k n pc lv (gI z :: gI dp :: gR hd :: gI sp :: gR hs :: st) M Q := by
  subst hp
  intro p l e s m args below meth c H locs ls ad cA cZ D A Z hC hW hL hR
  obtain ⟨hP, hD, hK, hS, hRm, hSl⟩ := hW
  have hh0 := gj_hl h0 hSl
  have hh1 := gj_hl h1 hSl
  have rs : gj_in sp := ⟨by omega, by omega⟩
  have rd : gj_in dp := ⟨by omega, by omega⟩
  have rz : gj_in z := ⟨by omega, by omega⟩
  have z0 : gj_in 0 := ⟨by omega, by omega⟩
  have ngt : ∀ {x : Int}, gj_in x → 0 ≤ x → ¬ Int32.ofInt x < 0 := fun hx h => by rw [← gj_0, gj_lt hx z0]; omega
  refine va_copyi (ty := .int) hC.1 hC.2.1 (hC.2.2.1.trans hL.1.symm) hC.2.2.2.1 (hC.2.2.2.2.1 _ hl) (hC.2.2.2.2.1 (.native arraycopyName) (by decide +kernel)) (hC.2.2.2.2.1 (.static arraycopyName) (by decide +kernel)) (hC.2.2.2.2.1 (.initialized "java/lang/System") (by decide +kernel)) hK hP hD hS hs hd 0 0 (gj_w_at h0) (gj_w_at h1) rfl rfl rfl (ngt rs hsp.1) (ngt rd hdp.1) (ngt rz hsp.2.1) (by rw [gj_cl rs, gj_cl rz]; omega) (by rw [gj_cl rd, gj_cl rz]; omega) (fun i _ => rfl) hfr (by
    have := gj_ct ad st
    have e : nativeFrameWords "java/lang/System" "arraycopy" 5 = 7 := by decide +kernel
    rw [e]
    have h2 : (List.map (fun v => v.category) (List.map (gj_c ad) st)).sum = gj_al st := this
    omega) hdd (fun H1 locs1 hP1 hD1 hS1 => ?_)
  have e1 : (gj_w ad cA cZ M 0 S).set hd (ad hd, .inl (cA, N1, .inl (va_cpy (fun x : Nat => Int32.ofInt (M hs x)) (fun x : Nat => Int32.ofInt (M hd x)) (Int32.ofInt sp).toNatClampNeg (Int32.ofInt dp).toNatClampNeg (Int32.ofInt z).toNatClampNeg))) = gj_w ad cA cZ (gj_cp M hs hd sp dp z) 0 S := by
    refine gj_w_set h1 ?_ (fun j' x hne _ => gj_e_o (fun i => if_neg (fun q => hne q.1)) (fun i => if_neg (fun q => by omega)))
    show Sum.inl (cA, N1, Sum.inl (fun i : Nat => Int32.ofInt (gj_cp M hs hd sp dp z hd i))) = _
    rw [gj_cl rs, gj_cl rd, gj_cl rz]
    congr 4
    funext i
    unfold va_cpy gj_cp
    by_cases q : dp.toNat ≤ i ∧ i < dp.toNat + z.toNat
    · rw [if_pos q, if_pos ⟨rfl, by omega, by omega⟩]
      congr 2
      omega
    · rw [if_neg q, if_neg (by omega)]
  have hP2 : va_P D vwCl ((gj_w ad cA cZ M 0 S).set hd (ad hd, .inl (cA, N1, .inl (va_cpy (fun x : Nat => Int32.ofInt (M hs x)) (fun x : Nat => Int32.ofInt (M hd x)) (Int32.ofInt sp).toNatClampNeg (Int32.ofInt dp).toNatClampNeg (Int32.ofInt z).toNatClampNeg)))) H1 := hP1
  have hD2 : va_D A ((gj_w ad cA cZ M 0 S).set hd (ad hd, .inl (cA, N1, .inl (va_cpy (fun x : Nat => Int32.ofInt (M hs x)) (fun x : Nat => Int32.ofInt (M hd x)) (Int32.ofInt sp).toNatClampNeg (Int32.ofInt dp).toNatClampNeg (Int32.ofInt z).toNatClampNeg)))) := hD1
  rw [e1] at hP2 hD2
  exact kk p l e s m args below meth c H1 locs1 ls ad cA cZ D A Z hC ⟨hP2, hD2, hK, hS1, hRm.cp hd sp dp z (by omega), hSl⟩ hL hR
theorem gj_min {idx : Nat} {a b : Int} (np : Nat) (hd : decode Y.2.1 pc = .ok (.invokestatic idx, 3)) (hp : pc + 3 = np) (hl : Cond.methodLink Y.1.cls idx Lib.Math.min.name ∈ gj_tb) (ha : gj_in a) (hb : gj_in b) (hfr : 1 ≤ Y.2.2.2.2.frames) (hlo : gj_al st + 13 ≤ Y.2.2.2.2.locals) (hkk : k ≤ Y.2.2.2.2.cells ∧ n ≤ Y.2.2.2.2.slots) (kk : gj_G xt Y S k n np lv (gI (min a b) :: st) M Q) : gj_G xt Y S k n pc lv (gI b :: gI a :: st) M Q := by
  subst hp
  intro p l e s m args below meth c H locs ls ad cA cZ D A Z hC hW hL hR
  have hk := kk p l e s m args below meth c H locs ls ad cA cZ D A Z hC hW hL hR
  refine va_mmin hC.1 hC.2.1 (hC.2.2.1.trans hL.1.symm) hC.2.2.2.1 (hC.2.2.2.2.1 _ hl) (hC.2.2.2.2.1 (.static Lib.Math.min.name) (by decide +kernel)) (hC.2.2.2.2.1 (.initialized "java/lang/Math") (by decide +kernel)) (hC.2.2.2.2.1 (.code Lib.Math.min.name Lib.Math.min.code 2 (some .int)) (by decide +kernel)) hfr (by
    have h2 : (List.map (fun v => v.category) (List.map (gj_c ad) st)).sum = gj_al st := gj_ct ad st
    omega) hkk.1 hkk.2 hd ?_
  have e1 : (if Int32.ofInt b < Int32.ofInt a then Int32.ofInt b else Int32.ofInt a) = Int32.ofInt (min a b) := by
    by_cases q : b < a
    · rw [if_pos ((gj_lt hb ha).mpr q)]; congr 1; omega
    · rw [if_neg (fun z => q ((gj_lt hb ha).mp z))]; congr 1; omega
  rw [e1]
  exact hk
theorem gj_max {idx : Nat} {a b : Int} (np : Nat) (hd : decode Y.2.1 pc = .ok (.invokestatic idx, 3)) (hp : pc + 3 = np) (hl : Cond.methodLink Y.1.cls idx Lib.Math.max.name ∈ gj_tb) (ha : gj_in a) (hb : gj_in b) (hfr : 1 ≤ Y.2.2.2.2.frames) (hlo : gj_al st + 13 ≤ Y.2.2.2.2.locals) (hkk : k ≤ Y.2.2.2.2.cells ∧ n ≤ Y.2.2.2.2.slots) (kk : gj_G xt Y S k n np lv (gI (max a b) :: st) M Q) : gj_G xt Y S k n pc lv (gI b :: gI a :: st) M Q := by
  subst hp
  intro p l e s m args below meth c H locs ls ad cA cZ D A Z hC hW hL hR
  have hk := kk p l e s m args below meth c H locs ls ad cA cZ D A Z hC hW hL hR
  refine va_mmax hC.1 hC.2.1 (hC.2.2.1.trans hL.1.symm) hC.2.2.2.1 (hC.2.2.2.2.1 _ hl) (hC.2.2.2.2.1 (.static Lib.Math.max.name) (by decide +kernel)) (hC.2.2.2.2.1 (.initialized "java/lang/Math") (by decide +kernel)) (hC.2.2.2.2.1 (.code Lib.Math.max.name Lib.Math.max.code 2 (some .int)) (by decide +kernel)) hfr (by
    have h2 : (List.map (fun v => v.category) (List.map (gj_c ad) st)).sum = gj_al st := gj_ct ad st
    omega) hkk.1 hkk.2 hd ?_
  have e1 : (if Int32.ofInt a < Int32.ofInt b then Int32.ofInt b else Int32.ofInt a) = Int32.ofInt (max a b) := by
    by_cases q : a < b
    · rw [if_pos ((gj_lt ha hb).mpr q)]; congr 1; omega
    · rw [if_neg (fun z => q ((gj_lt ha hb).mp z))]; congr 1; omega
  rw [e1]
  exact hk
/-! ends -/
theorem gj_iret {a : Int} (hd : decode Y.2.1 pc = .ok (.ireturn, 1)) (ht : Y.2.2.2.1 = some .int) (hk : k ≤ Y.2.2.2.2.cells ∧ n ≤ Y.2.2.2.2.slots) (hq : Q (some (gI a)) S M) : gj_G xt Y S k n pc lv [gI a] M Q := by
  intro p l e s m args below meth c H locs ls ad cA cZ D A Z hC hW hL hR
  exact W.widen hk.1 hk.2 (hR (some (gI a)) S M H locs pc ls ad hq (Or.inl ht) (gj_ag.rf rfl) hW hd)
theorem gj_zret {a : Int} (hd : decode Y.2.1 pc = .ok (.ireturn, 1)) (ht : Y.2.2.2.1 = some .boolean) (ha : a = 0 ∨ a = 1) (hk : k ≤ Y.2.2.2.2.cells ∧ n ≤ Y.2.2.2.2.slots) (hq : Q (some (gI a)) S M) : gj_G xt Y S k n pc lv [gI a] M Q := by
  intro p l e s m args below meth c H locs ls ad cA cZ D A Z hC hW hL hR
  exact W.widen hk.1 hk.2 (hR (some (gI a)) S M H locs pc ls ad hq (Or.inr ⟨ht, ha⟩) (gj_ag.rf rfl) hW hd)
theorem gj_lret {a : Int} (hd : decode Y.2.1 pc = .ok (.lreturn, 1)) (ht : Y.2.2.2.1 = some .long) (hk : k ≤ Y.2.2.2.2.cells ∧ n ≤ Y.2.2.2.2.slots) (hq : Q (some (gL a)) S M) : gj_G xt Y S k n pc lv [gL a] M Q := by
  intro p l e s m args below meth c H locs ls ad cA cZ D A Z hC hW hL hR
  exact W.widen hk.1 hk.2 (hR (some (gL a)) S M H locs pc ls ad hq ht (gj_ag.rf rfl) hW hd)
theorem gj_aret {h : Nat} {cn : String} (hd : decode Y.2.1 pc = .ok (.areturn, 1)) (ht : Y.2.2.2.1 = some (.object cn)) (hk : k ≤ Y.2.2.2.2.cells ∧ n ≤ Y.2.2.2.2.slots) (hq : Q (some (gR h)) S M) : gj_G xt Y S k n pc lv [gR h] M Q := by
  intro p l e s m args below meth c H locs ls ad cA cZ D A Z hC hW hL hR
  exact W.widen hk.1 hk.2 (hR (some (gR h)) S M H locs pc ls ad hq ⟨⟨cn, ht⟩, h, rfl⟩ (gj_ag.rf rfl) hW hd)
theorem gj_vret (hd : decode Y.2.1 pc = .ok (.return_, 1)) (ht : Y.2.2.2.1 = none) (hk : k ≤ Y.2.2.2.2.cells ∧ n ≤ Y.2.2.2.2.slots) (hq : Q none S M) : gj_G xt Y S k n pc lv [] M Q := by
  intro p l e s m args below meth c H locs ls ad cA cZ D A Z hC hW hL hR
  exact W.widen hk.1 hk.2 (hR none S M H locs pc ls ad hq ht (gj_ag.rf rfl) hW hd)
end GC
/-! a method's contract over the machine -/
def gj_Pre (xt : Nat × (Nat → Int)) (ad : Nat → Nat) (cA cZ : ClassId) (D : va_G) (S : List gj_H) (M : gj_M) (sz : Nat) (U : State) : Prop := U.heap.size = sz ∧ va_P D vwCl (gj_w ad cA cZ M 0 S) U.heap ∧ va_K D vwCl [(cA, .int), (cZ, .boolean)] U ∧ va_D (fun _ => True) (gj_w ad cA cZ M 0 S) ∧ gj_R M ∧ S.length ≤ 1000 ∧ gj_X ad (va_A (gj_w ad cA cZ M 0 S) sz) xt U U.heap
def gj_Post (ad : Nat → Nat) (cA cZ : ClassId) (D : va_G) (S : List gj_H) (M : gj_M) (sz : Nat) (Q : Option gj_V → List gj_H → gj_M → Prop) : Array Value → State → Outcome → State → Prop := fun _ st oc t => ∃ (rv : Option gj_V) (S' : List gj_H) (M' : gj_M) (ad' : Nat → Nat), oc = .returned (rv.map (gj_c ad')) ∧ Q rv S' M' ∧ gj_ag S S' ad ad' ∧ va_P D vwCl (gj_w ad' cA cZ M' 0 S') t.heap ∧ va_D (va_A (gj_w ad cA cZ M 0 S) sz) (gj_w ad' cA cZ M' 0 S') ∧ va_K D vwCl [(cA, .int), (cZ, .boolean)] t ∧ gj_R M' ∧ S'.length ≤ 1000 ∧ va_F (va_A (gj_w ad cA cZ M 0 S) sz) st t
theorem gj_X.moved {xt : Nat × (Nat → Int)} {ad : Nat → Nat} {A : Nat → Prop} {u U : State} {H : Heap} (hvm : u.vm.Alike U.vm) (hn : ∀ w ∈ gj_nb, va_Nw w u → va_Nw w U) (h : gj_X ad A xt u H) : gj_X ad A xt U H := ⟨h.1.moved hvm, h.2.1.moved hvm, h.2.2.1.moved hvm, fun w hw => hn w hw (h.2.2.2 w hw)⟩
theorem gj_X.kept {xt : Nat × (Nat → Int)} {ad : Nat → Nat} {A : Nat → Prop} {U : State} {H H1 : Heap} (h : gj_X ad A xt U H) (hq : ∀ a : Nat, a < H.size → ¬ A a → H1[a]? = H[a]?) : gj_X ad A xt U H1 := ⟨h.1.kept hq, h.2.1.kept hq, h.2.2.1.kept hq, h.2.2.2⟩
theorem gj_X.narrow {xt : Nat × (Nat → Int)} {ad : Nat → Nat} {A B : Nat → Prop} {U : State} {H : Heap} (h : gj_X ad A xt U H) (hAB : ∀ q, B q → A q) : gj_X ad B xt U H := ⟨h.1.narrow hAB, h.2.1.narrow hAB, h.2.2.1.narrow hAB, h.2.2.2⟩
theorem gj_met {xt : Nat × (Nat → Int)} {Y : gj_Y} {S : List gj_H} {As : List gj_V} {M : gj_M} {Q : Option gj_V → List gj_H → gj_M → Prop} (hy : plainName Y.1.cls = true) (hal : gj_al As ≤ Y.2.2.1) (hG : gj_G xt Y S 0 0 0 (gj_en Y.2.2.1 As) [] M Q) (l : Launch) (ad : Nat → Nat) (cA cZ : ClassId) (D : va_G) (sz : Nat) :
    Met l Y.1 (Cond.code Y.1 Y.2.1 Y.2.2.1 Y.2.2.2.1 :: gj_tb) Y.2.2.2.2 (va_Pc (As.map (gj_c ad)) (gj_Pre xt ad cA cZ D S M sz)) (gj_Post ad cA cZ D S M sz Q) Y.2.2.2.2.cells Y.2.2.2.2.slots (va_A (gj_w ad cA cZ M 0 S) sz) := by
  refine Met.ofW (cc := Y.2.1) (maxL := Y.2.2.1) (ret := Y.2.2.2.1) hy rfl ?_
  intro p e s m args below meth c s₁ B hml hv
  obtain ⟨rfl, hsz, hP, hK, hD0, hRm, hSl, hX⟩ := hv
  have hx := B.exec
  have hb := B.bytes
  have hr := B.returns
  have hts := atoms_spec (ws := Cond.code Y.1 Y.2.1 Y.2.2.1 Y.2.2.2.1 :: gj_tb) B.pre
  have hown : s.vm.findClass Y.1.cls = some m.cls := findClass_of_methodNamed B.named
  have hlocks := B.notSynchronized
  have hin : meth.name = Y.1.name := (name_of_methodNamed B.named B.method).1
  subst hsz
  have hD := hD0.self (sz := s.heap.size)
  have hl := lv_entry (As.map (gj_c ad)) (n := Y.2.2.1) (by rw [gj_al_eq]; exact hal)
  rw [lg_entry_eq]
  refine hG p l e s m _ below meth c s.heap [] _ ad cA cZ D (va_A (gj_w ad cA cZ M 0 S) s.heap.size) _ ⟨hx, hb, hml, hown, fun w hw => hts w (List.mem_cons_of_mem _ hw), hin, fun q h => Or.inr h, hX⟩ ⟨hP, hD, hK, va_S.rf, hRm, hSl⟩ ⟨hl.1, hl.2.1, fun i v hi => hl.2.2 (i, gj_c ad v) (by simpa using gj_en_get ad As Y.2.2.1 0 i v hi)⟩ ?_
  intro rv S' M' H' locs' pc' ls' ad' hQ hro hag hW' hdd
  obtain ⟨hP', hD', hK', hS', hR', hSl'⟩ := hW'
  have post : ∀ t : State, t.heap = H' → s.WarmedH t.vm → gj_Post ad cA cZ D S M s.heap.size Q (As.map (gj_c ad)).toArray s (.returned (rv.map (gj_c ad'))) t := fun t ht hWm => ⟨rv, S', M', ad', rfl, hQ, hag, by rw [ht]; exact hP', hD', va_K.moved hWm.alike hK', hR', hSl', hS'.F ht⟩
  match rv, hro, hdd, post with
  | none, hro, hdd, post => exact W.vret hx hb (hr.trans hro) post hS'.2.2 hdd
  | some (.inl a), hro, hdd, post =>
    rcases hro with hro | ⟨hro, ha⟩
    · exact W.iret hx hb (hr.trans hro) post hS'.2.2 hdd
    · exact W.zret hx hb (hr.trans hro) (by rcases ha with rfl | rfl <;> decide) post hS'.2.2 hdd
  | some (.inr (.inl a)), hro, hdd, post => exact W.lret hx hb (hr.trans hro) post hS'.2.2 hdd
  | some (.inr (.inr (some h))), hro, hdd, post =>
    obtain ⟨⟨cn, hro⟩, -⟩ := hro
    exact W.aret hx hb (hr.trans hro) (Or.inl ⟨cn, rfl⟩) (Or.inr ⟨ad' h, rfl⟩) post hS'.2.2 hdd
  | some (.inr (.inr none)), hro, hdd, post =>
    obtain ⟨-, h, hh⟩ := hro
    cases hh
