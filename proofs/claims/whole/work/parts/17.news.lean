def gj_vo (n : Nat) : gj_V → Bool
  | .inr (.inr (some h)) => decide (h < n) || decide (1000 ≤ h)
  | .inr (.inr none) => true
  | .inr (.inl _) => true
  | .inl _ => true
def gj_lo (n : Nat) : List (Option gj_V) → Bool
  | [] => true
  | none :: t => gj_lo n t
  | some v :: t => gj_vo n v && gj_lo n t
def gj_so (n : Nat) (st : List gj_V) : Bool := st.all (gj_vo n)
def gj_sh (n : Nat) (S : List gj_H) : Bool := S.all (fun x => match x with | .inl o => o.2.all (fun f => decide (f < n + 3)) | .inr _ => true)
theorem gj_vo_c {n : Nat} {v : gj_V} {ad ad' : Nat → Nat} (h : gj_vo n v = true) (hag : ∀ h : Nat, (h < n ∨ 1000 ≤ h) → ad' h = ad h) : gj_c ad' v = gj_c ad v := by
  match v, h with
  | .inl a, _ => rfl
  | .inr (.inl a), _ => rfl
  | .inr (.inr none), _ => rfl
  | .inr (.inr (some x)), h =>
    simp only [gj_vo, Bool.or_eq_true, decide_eq_true_eq] at h
    simp only [gj_c]
    rw [hag x h]
theorem gj_so_c {n : Nat} {st : List gj_V} {ad ad' : Nat → Nat} (h : gj_so n st = true) (hag : ∀ h : Nat, (h < n ∨ 1000 ≤ h) → ad' h = ad h) : st.map (gj_c ad') = st.map (gj_c ad) := by
  apply List.map_congr_left
  intro v hv
  exact gj_vo_c (List.all_eq_true.mp h v hv) hag
theorem gj_lo_c {n : Nat} : ∀ (lv : List (Option gj_V)), gj_lo n lv = true → ∀ (i : Nat) (v : gj_V), lv[i]? = some (some v) → gj_vo n v = true := by
  intro lv
  induction lv with
  | nil => intro _ i v h; simp at h
  | cons a t ih =>
    intro h i v hi
    match a, h with
    | none, h =>
      cases i with
      | zero => simp at hi
      | succ i => exact ih h i v (by simpa using hi)
    | some w, h =>
      simp only [gj_lo, Bool.and_eq_true] at h
      cases i with
      | zero => simp at hi; rw [← hi]; exact h.1
      | succ i => exact ih h.2 i v (by simpa using hi)
theorem gj_l_c {n nL : Nat} {ls : Array Slot} {lv : List (Option gj_V)} {ad ad' : Nat → Nat} (h : gj_lo n lv = true) (hag : ∀ h : Nat, (h < n ∨ 1000 ≤ h) → ad' h = ad h) (hL : gj_l ad ls nL lv) : gj_l ad' ls nL lv := ⟨hL.1, hL.2.1, fun i v hi => by rw [gj_vo_c (gj_lo_c lv h i v hi) hag]; exact hL.2.2 i v hi⟩
theorem gj_fs_c {n : Nat} {ad ad' : Nat → Nat} {M : gj_M} {h : Nat} (hag : ∀ h : Nat, (h < n ∨ 1000 ≤ h) → ad' h = ad h) : ∀ (fs : List Nat) (k : Nat), fs.all (fun f => decide (f < n + 3)) = true → gj_fs ad' M h k fs = gj_fs ad M h k fs := by
  intro fs
  induction fs with
  | nil => intro k _; rfl
  | cons f t ih =>
    intro k hf
    simp only [List.all_cons, Bool.and_eq_true, decide_eq_true_eq] at hf
    simp only [gj_fs, ih (k + 1) hf.2]
    congr 1
    match f, hf.1 with
    | 0, _ => rfl
    | 1, _ => rfl
    | 2, _ => rfl
    | g + 3, hg => simp only [gj_fv]; rw [hag g (Or.inl (by omega))]
theorem gj_w_c {n : Nat} {ad ad' : Nat → Nat} {cA cZ : ClassId} {M : gj_M} {S : List gj_H} (hag : ∀ h : Nat, (h < n ∨ 1000 ≤ h) → ad' h = ad h) (hn : S.length ≤ n) (hS : gj_sh n S = true) : gj_w ad' cA cZ M 0 S = gj_w ad cA cZ M 0 S := by
  apply List.ext_getElem?
  intro k
  rw [gj_w_get, gj_w_get]
  cases hz : S[k]? with
  | none => rfl
  | some z =>
    have hk := (List.getElem?_eq_some_iff.mp hz).1
    have hz2 := List.all_eq_true.mp hS z (List.mem_of_getElem? hz)
    simp only [Option.map_some, Nat.zero_add]
    rw [hag k (Or.inl (by omega))]
    match z, hz2 with
    | .inl o, hz2 => simp only [gj_e]; rw [gj_fs_c hag o.2 0 hz2]
    | .inr a, _ => rfl
theorem gj_w_app (ad : Nat → Nat) (cA cZ : ClassId) (M : gj_M) (S' : List gj_H) : ∀ (S : List gj_H) (n : Nat), gj_w ad cA cZ M n (S ++ S') = gj_w ad cA cZ M n S ++ gj_w ad cA cZ M (n + S.length) S' := by
  intro S
  induction S with
  | nil => intro n; simp [gj_w]
  | cons x t ih =>
    intro n
    simp only [List.cons_append, gj_w, ih, List.length_cons]
    have e : n + 1 + t.length = n + (t.length + 1) := by omega
    rw [e]
theorem gj_w_sh {ad : Nat → Nat} {cA cZ : ClassId} {M : gj_M} {S : List gj_H} {h : Nat} {x y : gj_H} (hs : S[h]? = some x) : (gj_w ad cA cZ M 0 S).set h (ad h, gj_e ad cA cZ M h y) = gj_w ad cA cZ M 0 (S.set h y) := by
  apply List.ext_getElem?
  intro k
  rw [gj_w_get]
  by_cases hk : k = h
  · subst hk
    have hl := (List.getElem?_eq_some_iff.mp hs).1
    rw [List.getElem?_set_self (by rw [gj_w_len]; exact hl), List.getElem?_set_self hl, Nat.zero_add]
    rfl
  · rw [List.getElem?_set_ne (Ne.symm hk), List.getElem?_set_ne (Ne.symm hk), gj_w_get]
def gj_dv : Nat → Option Value
  | 0 => some (.int 0)
  | 1 => some (.long 0)
  | 2 => some .null
  | _ => none
section GN
variable {xt : Nat × (Nat → Int)} {Y Y' : gj_Y} {S : List gj_H} {k n pc idx na : Nat} {lv lv' : List (Option gj_V)} {st stk : List gj_V} {M : gj_M} {Q Q' : Option gj_V → List gj_H → gj_M → Prop}
/-- the walk goes on with more cells: their addresses are known only now -/
theorem gj_move {S' : List gj_H} {M' : gj_M} {k' n' np : Nat} (kk : gj_G xt Y S' k' n' np lv st M' Q) (hlv : gj_lo S.length lv = true) (hst : gj_so S.length st = true) {p : Program} {l : Launch} {e : Env} {s : State} {m : MethodId} {args : Array Value} {below : List Frame} {meth : Method} {c : Code} {H1 : Heap} {locs1 : List Loc} {ls : Array Slot} {ad ad' : Nat → Nat} {cA cZ : ClassId} {D : va_G} {A : Nat → Prop} {Z : State → Prop} (hC : gj_C xt Y p s m args meth c ad A) (hL : gj_l ad ls Y.2.2.1 lv)
    (hR : ∀ (rv : Option gj_V) (S' : List gj_H) (M' : gj_M) (H' : Heap) (locs' : List Loc) (pc' : Nat) (ls' : Array Slot) (ad' : Nat → Nat), Q rv S' M' → gj_ro Y.2.2.2.1 rv → gj_ag S S' ad ad' → gj_Wd ad' cA cZ D A S' M' s H' locs' → decode Y.2.1 pc' = .ok (gj_ri rv, 1) → W p l e Y.2.2.2.2 s m args below meth c H' locs' Y.2.2.2.2.cells Y.2.2.2.2.slots Z (F0 m pc' ls' (rv.toList.map (gj_c ad'))))
    (hag : gj_ag S S' ad ad') (hW : gj_Wd ad' cA cZ D A S' M' s H1 locs1) : W p l e Y.2.2.2.2 s m args below meth c H1 locs1 k' n' Z (F0 m np ls (st.map (gj_c ad))) := by
  rw [← gj_so_c hst hag.2.2]
  have h0 : ad' 1000 = ad 1000 := hag.2.2 1000 (Or.inr (by omega))
  have h1 : ad' 1001 = ad 1001 := hag.2.2 1001 (Or.inr (by omega))
  refine kk p l e s m args below meth c H1 locs1 ls ad' cA cZ D A Z ⟨hC.1, hC.2.1, hC.2.2.1, hC.2.2.2.1, hC.2.2.2.2.1, hC.2.2.2.2.2.1, hC.2.2.2.2.2.2.1, ?_⟩ hW (gj_l_c hlv hag.2.2 hL) (fun rv S2 M2 H' locs' pc' ls' ad2 hq ho ha => hR rv S2 M2 H' locs' pc' ls' ad2 hq ho (hag.tr ha))
  have hX := hC.2.2.2.2.2.2.2
  unfold gj_X at hX ⊢
  rw [h0, h1]
  exact hX
theorem gj_new {ci N : Nat} {C : String} {T : u_T} {ty : Nat → FieldType} {fs0 : List Nat} (np : Nat) (hd : decode Y.2.1 pc = .ok (.new idx, 3)) (hp : pc + 3 = np) (hk : gj_k ci C T N ty) (hl : Cond.classLink Y.1.cls idx C ∈ gj_tb) (hl2 : Cond.instantiable C N ∈ gj_tb ∧ Cond.initialized C ∈ gj_tb) (hfl : fs0.length = N) (hfs : ∀ j, j < N → gj_dv (fs0.getD j 9) = some (defaultValue (ty j))) (hM : ∀ i, M S.length i = 0 ∧ M (S.length + 5000) i = 0) (hv : gj_lo S.length lv = true ∧ gj_so S.length st = true ∧ gj_sh S.length S = true) (hSl : S.length < 1000) (hcs : k + 1 ≤ Y.2.2.2.2.cells ∧ n + N ≤ Y.2.2.2.2.slots) (kk : gj_G xt Y (S ++ [.inl (ci, fs0)]) (k + 1) (n + N) np lv (gR S.length :: st) M Q) : gj_G xt Y S k n pc lv st M Q := by
  subst hp
  obtain ⟨h1, h2, h3, h4⟩ := hk
  intro p l e s m args below meth c H locs ls ad cA cZ D A Z hC hW hL hR
  obtain ⟨hP, hD, hK, hS, hRm, hSl0⟩ := hW
  have hts := hC.2.2.2.2.1
  have hdef : ∀ j, j < N → gj_fv ad M S.length j (fs0.getD j 9) = defaultValue (ty j) := by
    intro j hj
    have := hfs j hj
    match hf : fs0.getD j 9, this with
    | 0, this => rw [← Option.some.inj this]; simp only [gj_fv]; rw [(hM j).1]; rfl
    | 1, this => rw [← Option.some.inj this]; simp only [gj_fv]; rw [(hM j).2]; rfl
    | 2, this => rw [← Option.some.inj this]; rfl
    | g + 3, this => simp [gj_dv] at this
  refine va_new (ci := ci) (fs := gj_fs ad M S.length 0 fs0) hC.1 hC.2.1 hts h2 ty h3 hC.2.2.2.1 (hts _ hl) (hts _ hl2.1) (hts _ hl2.2) hK hP hD hS hC.2.2.2.2.2.2.1 h1 (fun j hj => ?_) hcs.1 hcs.2 hd (fun q H1 hP1 hD1 hS1 => ?_)
  · rw [← hdef j hj]
    unfold vp_V
    rw [List.getD_eq_getElem?_getD, List.getD_eq_getElem?_getD, gj_fs_get, List.getElem?_eq_getElem (by omega), Nat.zero_add]
    rfl
  · have hag : gj_ag S (S ++ [.inl (ci, fs0)]) ad (fun h => if h = S.length then q else ad h) := by
      refine ⟨by simp, fun h => by simp at h, fun h hh => if_neg (by omega)⟩
    have ew : gj_w (fun h => if h = S.length then q else ad h) cA cZ M 0 (S ++ [.inl (ci, fs0)]) = gj_w ad cA cZ M 0 S ++ [(q, .inr (ci, gj_fs ad M S.length 0 fs0))] := by
      rw [gj_w_app, gj_w_c hag.2.2 (Nat.le_refl _) hv.2.2]
      congr 1
      simp only [gj_w, Nat.zero_add, if_true, gj_e]
      rw [gj_fs_c (n := 0) (ad := ad) (ad' := fun h => if h = S.length then q else ad h) (fun h hh => if_neg (by omega)) fs0 0]
      rw [List.all_eq_true]
      intro f hf
      obtain ⟨j, hj⟩ := List.getElem?_of_mem hf
      have hjl := (List.getElem?_eq_some_iff.mp hj).1
      have := hfs j (by omega)
      rw [List.getD_eq_getElem?_getD, hj] at this
      match f, this with
      | 0, _ => rfl
      | 1, _ => rfl
      | 2, _ => rfl
      | g + 3, this => simp [gj_dv] at this
    have e2 : (Value.ref q :: List.map (gj_c ad) st) = List.map (gj_c (fun h => if h = S.length then q else ad h)) (gR S.length :: st) := by
      rw [List.map_cons, gj_so_c hv.2.1 hag.2.2]
      simp [gj_c, gR]
    have kk2 := kk p l e s m args below meth c H1 locs ls (fun h => if h = S.length then q else ad h) cA cZ D A Z ⟨hC.1, hC.2.1, hC.2.2.1, hC.2.2.2.1, hC.2.2.2.2.1, hC.2.2.2.2.2.1, hC.2.2.2.2.2.2.1, by
      have hX := hC.2.2.2.2.2.2.2
      unfold gj_X at hX ⊢
      rw [hag.2.2 1000 (Or.inr (by omega)), hag.2.2 1001 (Or.inr (by omega))]
      exact hX⟩ ⟨by rw [ew]; exact hP1, by rw [ew]; exact hD1, hK, hS1, hRm, by simp; omega⟩ (gj_l_c hv.1 hag.2.2 hL) (fun rv S2 M2 H' locs' pc' ls' ad2 hq ho ha => hR rv S2 M2 H' locs' pc' ls' ad2 hq ho (hag.tr ha))
    rw [e2]
    exact kk2
theorem gj_newi {N : Nat} {z : Int} (np : Nat) (hd : decode Y.2.1 pc = .ok (.newarray .int, 2)) (hp : pc + 2 = np) (hz : z = N) (hN : N ≤ 100000) (hM : ∀ i, M S.length i = 0) (hv : gj_lo S.length lv = true ∧ gj_so S.length st = true ∧ gj_sh S.length S = true) (hSl : S.length < 1000) (hcs : k + 1 ≤ Y.2.2.2.2.cells ∧ n + N ≤ Y.2.2.2.2.slots) (kk : gj_G xt Y (S ++ [.inr (false, N)]) (k + 1) (n + N) np lv (gR S.length :: st) M Q) : gj_G xt Y S k n pc lv (gI z :: st) M Q := by
  subst hp
  subst hz
  intro p l e s m args below meth c H locs ls ad cA cZ D A Z hC hW hL hR
  obtain ⟨hP, hD, hK, hS, hRm, hSl0⟩ := hW
  have hts := hC.2.2.2.2.1
  have rN : gj_in (N : Int) := ⟨by omega, by omega⟩
  refine va_newa (atype := .int) (ty := .int) (a0 := (N, .inl (fun _ => 0))) hC.1 hC.2.1 (hts (.arrayClass .int) (by decide +kernel)) rfl hK hP hD hS hC.2.2.2.2.2.2.1 (N' := N) (fun _ => rfl) (by rw [← gj_0, gj_lt rN ⟨by omega, by omega⟩]; omega) (by rw [gj_cl rN]; omega) (by show N * 4 ≤ _; omega) hcs.1 hcs.2 hd (fun q cA' H1 hK1 hP1 hD1 hS1 => ?_)
  have hA1 : s.vm.findClass ("[" ++ FieldType.int.toString) = some cA' := (hK1.2 2 (cA', .int) rfl).2
  have hA2 : s.vm.findClass ("[" ++ FieldType.int.toString) = some cA := (hK.2 0 (cA, .int) rfl).2
  have hcc : cA' = cA := Option.some.inj (hA1.symm.trans hA2)
  subst hcc
  have hag : gj_ag S (S ++ [.inr (false, N)]) ad (fun h => if h = S.length then q else ad h) := by
    refine ⟨by simp, fun h => by simp at h, fun h hh => if_neg (by omega)⟩
  have ew : gj_w (fun h => if h = S.length then q else ad h) cA' cZ M 0 (S ++ [.inr (false, N)]) = gj_w ad cA' cZ M 0 S ++ [(q, .inl (cA', N, .inl (fun _ => 0)))] := by
    rw [gj_w_app, gj_w_c hag.2.2 (Nat.le_refl _) hv.2.2]
    congr 1
    simp only [gj_w, Nat.zero_add, if_true, gj_e, hM]
    rfl
  have e2 : (Value.ref q :: List.map (gj_c ad) st) = List.map (gj_c (fun h => if h = S.length then q else ad h)) (gR S.length :: st) := by
    rw [List.map_cons, gj_so_c hv.2.1 hag.2.2]
    simp [gj_c, gR]
  have kk2 := kk p l e s m args below meth c H1 locs ls (fun h => if h = S.length then q else ad h) cA' cZ D A Z ⟨hC.1, hC.2.1, hC.2.2.1, hC.2.2.2.1, hC.2.2.2.2.1, hC.2.2.2.2.2.1, hC.2.2.2.2.2.2.1, by
    have hX := hC.2.2.2.2.2.2.2
    unfold gj_X at hX ⊢
    rw [hag.2.2 1000 (Or.inr (by omega)), hag.2.2 1001 (Or.inr (by omega))]
    exact hX⟩ ⟨by rw [ew]; exact hP1, by rw [ew]; exact hD1, hK, hS1, hRm, by simp; omega⟩ (gj_l_c hv.1 hag.2.2 hL) (fun rv S2 M2 H' locs' pc' ls' ad2 hq ho ha => hR rv S2 M2 H' locs' pc' ls' ad2 hq ho (hag.tr ha))
  rw [e2]
  exact kk2
theorem gj_newz {N : Nat} {z : Int} (np : Nat) (hd : decode Y.2.1 pc = .ok (.newarray .boolean, 2)) (hp : pc + 2 = np) (hz : z = N) (hN : N ≤ 100000) (hM : ∀ i, M S.length i = 0) (hv : gj_lo S.length lv = true ∧ gj_so S.length st = true ∧ gj_sh S.length S = true) (hSl : S.length < 1000) (hcs : k + 1 ≤ Y.2.2.2.2.cells ∧ n + N ≤ Y.2.2.2.2.slots) (kk : gj_G xt Y (S ++ [.inr (true, N)]) (k + 1) (n + N) np lv (gR S.length :: st) M Q) : gj_G xt Y S k n pc lv (gI z :: st) M Q := by
  subst hp
  subst hz
  intro p l e s m args below meth c H locs ls ad cA cZ D A Z hC hW hL hR
  obtain ⟨hP, hD, hK, hS, hRm, hSl0⟩ := hW
  have hts := hC.2.2.2.2.1
  have rN : gj_in (N : Int) := ⟨by omega, by omega⟩
  refine va_newa (atype := .boolean) (ty := .boolean) (a0 := (N, .inl (fun _ => 0))) hC.1 hC.2.1 (hts (.arrayClass .boolean) (by decide +kernel)) rfl hK hP hD hS hC.2.2.2.2.2.2.1 (N' := N) (fun _ => rfl) (by rw [← gj_0, gj_lt rN ⟨by omega, by omega⟩]; omega) (by rw [gj_cl rN]; omega) (by show N * 1 ≤ _; omega) hcs.1 hcs.2 hd (fun q cA' H1 hK1 hP1 hD1 hS1 => ?_)
  have hA1 : s.vm.findClass ("[" ++ FieldType.boolean.toString) = some cA' := (hK1.2 2 (cA', .boolean) rfl).2
  have hA2 : s.vm.findClass ("[" ++ FieldType.boolean.toString) = some cZ := (hK.2 1 (cZ, .boolean) rfl).2
  have hcc : cA' = cZ := Option.some.inj (hA1.symm.trans hA2)
  subst hcc
  have hag : gj_ag S (S ++ [.inr (true, N)]) ad (fun h => if h = S.length then q else ad h) := by
    refine ⟨by simp, fun h => by simp at h, fun h hh => if_neg (by omega)⟩
  have ew : gj_w (fun h => if h = S.length then q else ad h) cA cA' M 0 (S ++ [.inr (true, N)]) = gj_w ad cA cA' M 0 S ++ [(q, .inl (cA', N, .inl (fun _ => 0)))] := by
    rw [gj_w_app, gj_w_c hag.2.2 (Nat.le_refl _) hv.2.2]
    congr 1
    simp only [gj_w, Nat.zero_add, if_true, gj_e, hM]
    rfl
  have e2 : (Value.ref q :: List.map (gj_c ad) st) = List.map (gj_c (fun h => if h = S.length then q else ad h)) (gR S.length :: st) := by
    rw [List.map_cons, gj_so_c hv.2.1 hag.2.2]
    simp [gj_c, gR]
  have kk2 := kk p l e s m args below meth c H1 locs ls (fun h => if h = S.length then q else ad h) cA cA' D A Z ⟨hC.1, hC.2.1, hC.2.2.1, hC.2.2.2.1, hC.2.2.2.2.1, hC.2.2.2.2.2.1, hC.2.2.2.2.2.2.1, by
    have hX := hC.2.2.2.2.2.2.2
    unfold gj_X at hX ⊢
    rw [hag.2.2 1000 (Or.inr (by omega)), hag.2.2 1001 (Or.inr (by omega))]
    exact hX⟩ ⟨by rw [ew]; exact hP1, by rw [ew]; exact hD1, hK, hS1, hRm, by simp; omega⟩ (gj_l_c hv.1 hag.2.2 hL) (fun rv S2 M2 H' locs' pc' ls' ad2 hq ho ha => hR rv S2 M2 H' locs' pc' ls' ad2 hq ho (hag.tr ha))
  rw [e2]
  exact kk2
/-- a final field that holds a cell, in a constructor -/
theorem gj_putfr {h g ci j : Nat} {z : Int} {t : FieldType} {fs : List Nat} (np : Nat) (hd : decode Y.2.1 pc = .ok (.putfield idx, 3)) (hp : pc + 3 = np) (hl : gj_fw Y.1.cls idx ci j z t true) (hin : Y.1.name = "<init>") (ht : narrow t (.ref 0) = .ref 0 ∧ ∀ a, fits t (.ref a) = true ∧ narrow t (.ref a) = .ref a) (hs : S[h]? = some (.inl (ci, fs))) (hj : j < fs.length) (kk : gj_G xt Y (S.set h (.inl (ci, fs.set j (g + 3)))) k n np lv st M Q) : gj_G xt Y S k n pc lv (gR g :: gR h :: st) M Q := by
  subst hp
  obtain ⟨C, T, N, ty, ⟨h1, h2, h3, h4⟩, hjN, rfl, hlk, hfin, hpd, hdc⟩ := hl
  intro p l e s m args below meth c H locs ls ad cA cZ D A Z hC hW hL hR
  obtain ⟨hP, hD, hK, hS, hRm, hSl⟩ := hW
  have e1 : (gj_w ad cA cZ M 0 S).set h (ad h, .inr (ci, (gj_fs ad M h 0 fs).set j (.ref (ad g)))) = gj_w ad cA cZ M 0 (S.set h (.inl (ci, fs.set j (g + 3)))) := by
    rw [← gj_w_sh hs]
    congr 2
    show Sum.inr (ci, _) = Sum.inr (ci, gj_fs ad M h 0 (fs.set j (g + 3)))
    congr 2
    apply List.ext_getElem?
    intro i
    rw [gj_fs_get]
    by_cases q : i = j
    · subst q
      rw [List.getElem?_set_self (by rw [gj_fs_len]; exact hj), List.getElem?_set_self hj]
      rfl
    · rw [List.getElem?_set_ne (Ne.symm q), List.getElem?_set_ne (Ne.symm q), gj_fs_get]
  refine va_putF hC.1 hC.2.1 hC.2.2.2.2.1 h2 ty h3 h4 hC.2.2.2.1 hK hP hD hS h (gj_w_at hs) h1 j hjN (hC.2.2.2.2.1 _ hlk) (fun _ q => q) hfin (hC.2.2.2.2.2.1.trans hin) (hdc rfl) (v := .ref (ad g)) hpd (ht.2 _).2 (ht.2 _).1 (by rw [gj_fs_len]; exact hj) hd (fun H1 locs1 hP1 hD1 hS1 => ?_)
  rw [e1] at hP1 hD1
  have hsl : (S.set h (.inl (ci, fs.set j (g + 3)))).length = S.length := by simp
  exact kk p l e s m args below meth c H1 locs1 ls ad cA cZ D A Z hC ⟨hP1, hD1, hK, hS1, hRm, by rw [hsl]; exact hSl⟩ hL (fun rv S2 M2 H' locs' pc' ls' ad2 hq ho ha => hR rv S2 M2 H' locs' pc' ls' ad2 hq ho ⟨by have := ha.1; omega, fun q => ha.2.1 (by omega), fun x hx => ha.2.2 x (by omega)⟩)
theorem gj_oinit {h : Nat} (np : Nat) (hd : decode Y.2.1 pc = .ok (.invokespecial idx, 3)) (hp : pc + 3 = np) (hl : Cond.methodLink Y.1.cls idx Lib.objectInit ∈ gj_tb) (hfr : 1 ≤ Y.2.2.2.2.frames) (hlo : gj_al st + 12 ≤ Y.2.2.2.2.locals) (kk : gj_G xt Y S k n np lv st M Q) : gj_G xt Y S k n pc lv (gR h :: st) M Q := by
  subst hp
  intro p l e s m args below meth c H locs ls ad cA cZ D A Z hC hW hL hR
  have hts := hC.2.2.2.2.1
  exact W.objInit hC.1 hC.2.1 hC.2.2.2.1 (hts _ hl) (hts (.instanceMethod Lib.objectInit) (by decide +kernel)) (hts (.code Lib.objectInit ⟨#[0xb1]⟩ 1 none) (by decide +kernel)) rfl (by rw [hC.2.2.1]; exact hL.1) (rest := st.map (gj_c ad)) rfl hd hfr (by
    have h2 : (List.map (fun v => v.category) (List.map (gj_c ad) st)).sum = gj_al st := gj_ct ad st
    show 2 * 0 + _ + 12 ≤ _
    omega) (kk p l e s m args below meth c H locs ls ad cA cZ D A Z hC hW hL hR)
/-- a constructor's call, of a class of any package or of a nest mate -/
theorem gj_cI {As : List gj_V} {h : Nat} (np : Nat) (hd : decode Y.2.1 pc = .ok (.invokespecial idx, 3)) (hp : pc + 3 = np) (hok : gj_ok Y' na) (hnm : Y'.1.name = "<init>" ∧ Y'.2.2.2.1 = none) (hl : Cond.methodLink Y.1.cls idx Y'.1 ∈ gj_tb ∨ ∃ host, Cond.methodLinkNest Y.1.cls idx Y'.1 host ∈ gj_nb) (hi : Cond.instanceMethod Y'.1 ∈ gj_tb) (hstk : stk = As.reverse ++ gR h :: st) (hn : As.length = na) (hal : gj_al (gR h :: As) ≤ Y'.2.2.1) (hrm : gj_rm Y Y') (hct : gj_al st ≤ 8) (hf : k + Y'.2.2.2.2.cells ≤ Y.2.2.2.2.cells ∧ n + Y'.2.2.2.2.slots ≤ Y.2.2.2.2.slots) (hlv : gj_lo S.length lv = true) (hst : gj_so S.length st = true)
    {q : List gj_H → gj_M → Prop} (hG : gj_G xt Y' S 0 0 0 (gj_en Y'.2.2.1 (gR h :: As)) [] M (fun r S' M' => r = none ∧ q S' M'))
    (kk : ∀ (S' : List gj_H) (M' : gj_M), q S' M' → gj_G xt Y S' (k + Y'.2.2.2.2.cells) (n + Y'.2.2.2.2.slots) np lv st M' Q) : gj_G xt Y S k n pc lv stk M Q := by
  subst hp
  subst hstk
  subst hn
  intro p l e s m args below meth c H locs ls ad cA cZ D A Z hC hW hL hR
  obtain ⟨hpl, hcode, hini, hd1⟩ := hok
  have hts := hC.2.2.2.2.1
  have hgo : ∀ (rv : Option gj_V) (S' : List gj_H) (M' : gj_M) (ad' : Nat → Nat) (H1 : Heap) (locs1 : List Loc), (rv = none ∧ q S' M') → gj_ag S S' ad ad' → gj_Wd ad' cA cZ D A S' M' s H1 locs1 → W p l e Y.2.2.2.2 s m args below meth c H1 locs1 (k + Y'.2.2.2.2.cells) (n + Y'.2.2.2.2.slots) Z (F0 m (pc + 3) ls ((rv.map (gj_c ad')).toList ++ st.map (gj_c ad))) := by
    rintro rv S' M' ad' H1 locs1 ⟨rfl, hq⟩ hag hW1
    exact gj_move (kk S' M' hq) hlv hst hC hL hR hag hW1
  have hcat : 2 * (F0 m pc ls (List.map (gj_c ad) (As.reverse ++ gR h :: st))).monitorRoom + ((st.map (gj_c ad)).map fun v => v.category).sum ≤ 8 := lv_room (by rw [gj_ct]; exact hct)
  have hM := gj_met hpl hal hG l ad cA cZ D H.size
  rw [hnm.2] at hM hcode
  have hpre : PreS s H (va_Pc ((gR h :: As).map (gj_c ad)) (gj_Pre xt ad cA cZ D S M H.size)) (.ref (ad h) :: As.map (gj_c ad)) := ⟨gj_blind, fun U hU hWm => ⟨rfl, gj_pre hC hW U hU hWm⟩⟩
  rcases hl with hl | ⟨host, hl⟩
  · exact gj_aft hC hW (va_runI (As := As.map (gj_c ad)) (rest := st.map (gj_c ad)) (b := ad h) (Ts := gj_tb) ⟨hC.1, hC.2.1, hC.2.2.1, hC.2.2.2.1, hts⟩ hM ⟨callB_of As.length hts (gj_goodC hcode) rfl rfl rfl (hts _ hini) (hts _ hl) hd1 hrm, hnm.1, hts _ hi⟩ hpre rfl (by simp) (hL.1) (by simp [gj_c, gR]) hcat hd hf) hgo
  · exact gj_aft hC hW (va_runIN (As := As.map (gj_c ad)) (rest := st.map (gj_c ad)) (b := ad h) (Ts := gj_tb) ⟨hC.1, hC.2.1, hC.2.2.1, hC.2.2.2.1, hts⟩ hM ⟨va_cnB As.length hts (gj_goodC hcode) rfl rfl rfl (hC.2.2.2.2.2.2.2.2.2.2 _ hl) (hts _ hini) hd1 hrm, hnm.1, hts _ hi⟩ hpre rfl (by simp) (hL.1) (by simp [gj_c, gR]) hcat hd hf) hgo
end GN
