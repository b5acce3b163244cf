/-- the words that keep over calls -/
def gj_tb : List Cond := lw_tbl.filter goodWord
def gj_isN : Cond → Bool
  | .fieldLinkNest _ _ _ _ _ _ => true
  | .methodLinkNest _ _ _ _ => true
  | _ => false
def gj_nb : List Cond := lw_tbl.filter gj_isN
theorem gj_nb_warm {s U : State} (hW : s.WarmedH U.vm) {w : Cond} (h : w ∈ gj_nb) (hs : va_Nw w s) : va_Nw w U := by
  have hn := (List.mem_filter.mp h).2
  cases w <;> first | exact va_Nw.warmF hW hs | exact va_Nw.warmM hW hs | (simp [gj_isN] at hn)
theorem gj_nb_same {s U : State} (hv : s.vm = U.vm) {w : Cond} (h : w ∈ gj_nb) (hs : va_Nw w s) : va_Nw w U := by
  have hn := (List.mem_filter.mp h).2
  refine va_Nw.same ?_ hv hs
  cases w <;> first | rfl | (simp [gj_isN] at hn)
theorem gj_tb_in {w : Cond} (h : w ∈ gj_tb) : w ∈ lw_tbl := (List.mem_filter.mp h).1
/-! values, memory, shapes: a world of cells by handles; a handle's address is a variable -/
abbrev gj_V : Type := Int ⊕ (Int ⊕ Option Nat)
abbrev gj_M : Type := Nat → Int → Int
abbrev gj_H : Type := (Nat × List Nat) ⊕ (Bool × Nat)
abbrev gj_Y : Type := MethodName × ByteArray × Nat × Option FieldType × Room
def gI (a : Int) : gj_V := .inl a
def gL (a : Int) : gj_V := .inr (.inl a)
def gR (h : Nat) : gj_V := .inr (.inr (some h))
def gj_c (ad : Nat → Nat) : gj_V → Value
  | .inl a => .int (Int32.ofInt a)
  | .inr (.inl a) => .long (Int64.ofInt a)
  | .inr (.inr (some h)) => .ref (ad h)
  | .inr (.inr none) => .null
def gj_fv (ad : Nat → Nat) (M : gj_M) (h k : Nat) : Nat → Value
  | 0 => .int (Int32.ofInt (M h k))
  | 1 => .long (Int64.ofInt (M (h + 5000) k))
  | 2 => .null
  | g + 3 => .ref (ad g)
def gj_fs (ad : Nat → Nat) (M : gj_M) (h : Nat) : Nat → List Nat → List Value
  | _, [] => []
  | k, f :: fs => gj_fv ad M h k f :: gj_fs ad M h (k + 1) fs
def gj_e (ad : Nat → Nat) (cA cZ : ClassId) (M : gj_M) (h : Nat) : gj_H → va_E
  | .inl o => .inr (o.1, gj_fs ad M h 0 o.2)
  | .inr a => .inl (cond a.1 cZ cA, a.2, .inl (fun i => Int32.ofInt (M h i)))
def gj_w (ad : Nat → Nat) (cA cZ : ClassId) (M : gj_M) : Nat → List gj_H → va_W
  | _, [] => []
  | h, x :: xs => (ad h, gj_e ad cA cZ M h x) :: gj_w ad cA cZ M (h + 1) xs
def gj_u (M : gj_M) (h : Nat) (i v : Int) : gj_M := fun h' i' => if h' = h ∧ i' = i then v else M h' i'
abbrev gj_in (a : Int) : Prop := -2147483648 ≤ a ∧ a ≤ 2147483647
abbrev gj_in6 (a : Int) : Prop := -9223372036854775808 ≤ a ∧ a ≤ 9223372036854775807
def gj_R (M : gj_M) : Prop := ∀ h : Nat, h < 5000 → ∀ i : Int, gj_in (M h i)
theorem gj_R.u {M : gj_M} (hR : gj_R M) (h : Nat) (i : Int) {v : Int} (hv : gj_in v) : gj_R (gj_u M h i v) := by
  intro h' hh i'
  unfold gj_u
  split
  · exact hv
  · exact hR h' hh i'
theorem gj_R.uL {M : gj_M} (hR : gj_R M) (h : Nat) (i v : Int) : gj_R (gj_u M (h + 5000) i v) := by
  intro h' hh i'
  unfold gj_u
  rw [if_neg (fun q => by omega)]
  exact hR h' hh i'
theorem gj_fs_get (ad : Nat → Nat) (M : gj_M) (h : Nat) : ∀ (fs : List Nat) (n k : Nat), (gj_fs ad M h n fs)[k]? = (fs[k]?).map (gj_fv ad M h (n + k)) := by
  intro fs
  induction fs with
  | nil => intro n k; simp [gj_fs]
  | cons f fs ih =>
    intro n k
    cases k with
    | zero => simp [gj_fs]
    | succ k =>
      simp only [gj_fs, List.getElem?_cons_succ]
      rw [ih]
      congr 2
      omega
theorem gj_fs_len (ad : Nat → Nat) (M : gj_M) (h : Nat) : ∀ (fs : List Nat) (n : Nat), (gj_fs ad M h n fs).length = fs.length := by
  intro fs
  induction fs with
  | nil => intro n; rfl
  | cons f fs ih => intro n; simp [gj_fs, ih]
theorem gj_w_get (ad : Nat → Nat) (cA cZ : ClassId) (M : gj_M) : ∀ (S : List gj_H) (n k : Nat), (gj_w ad cA cZ M n S)[k]? = (S[k]?).map (fun x => (ad (n + k), gj_e ad cA cZ M (n + k) x)) := by
  intro S
  induction S with
  | nil => intro n k; simp [gj_w]
  | cons x S ih =>
    intro n k
    cases k with
    | zero => simp [gj_w]
    | succ k =>
      simp only [gj_w, List.getElem?_cons_succ]
      rw [ih]
      have e : n + 1 + k = n + (k + 1) := by omega
      rw [e]
theorem gj_w_at {ad : Nat → Nat} {cA cZ : ClassId} {M : gj_M} {S : List gj_H} {h : Nat} {x : gj_H} (hs : S[h]? = some x) : (gj_w ad cA cZ M 0 S)[h]? = some (ad h, gj_e ad cA cZ M h x) := by
  rw [gj_w_get, hs, Nat.zero_add]
  rfl
theorem gj_w_len (ad : Nat → Nat) (cA cZ : ClassId) (M : gj_M) : ∀ (S : List gj_H) (n : Nat), (gj_w ad cA cZ M n S).length = S.length := by
  intro S
  induction S with
  | nil => intro n; rfl
  | cons x S ih => intro n; simp [gj_w, ih]
/-- the world with another memory, that differs at one handle alone -/
theorem gj_w_set {ad : Nat → Nat} {cA cZ : ClassId} {M M' : gj_M} {S : List gj_H} {h : Nat} {x : gj_H} {y : va_E} (hs : S[h]? = some x) (hy : gj_e ad cA cZ M' h x = y) (ho : ∀ (j : Nat) (z : gj_H), j ≠ h → S[j]? = some z → gj_e ad cA cZ M' j z = gj_e ad cA cZ M j z) : (gj_w ad cA cZ M 0 S).set h (ad h, y) = gj_w ad cA cZ M' 0 S := by
  apply List.ext_getElem?
  intro k
  rw [gj_w_get]
  by_cases hk : k = h
  · subst hk
    rw [List.getElem?_set_self (by rw [gj_w_len]; exact (List.getElem?_eq_some_iff.mp hs).1), hs, Nat.zero_add]
    simp [hy]
  · rw [List.getElem?_set_ne (Ne.symm hk), gj_w_get]
    cases hz : S[k]? with
    | none => rfl
    | some z => simp [ho k z hk hz]
theorem gj_e_o {ad : Nat → Nat} {cA cZ : ClassId} {M M' : gj_M} {j : Nat} {z : gj_H} (h0 : ∀ i, M' j i = M j i) (h5 : ∀ i, M' (j + 5000) i = M (j + 5000) i) : gj_e ad cA cZ M' j z = gj_e ad cA cZ M j z := by
  have hf : ∀ (fs : List Nat) (n : Nat), gj_fs ad M' j n fs = gj_fs ad M j n fs := by
    intro fs
    induction fs with
    | nil => intro n; rfl
    | cons f fs ih =>
      intro n
      simp only [gj_fs, ih]
      congr 1
      match f with
      | 0 => simp [gj_fv, h0]
      | 1 => simp [gj_fv, h5]
      | 2 => rfl
      | g + 3 => rfl
  match z with
  | .inl o => simp [gj_e, hf]
  | .inr a => simp [gj_e, h0]
theorem gj_fs_set {ad : Nat → Nat} {M M' : gj_M} {h : Nat} {v : Value} : ∀ (fs : List Nat) (n k : Nat) {f : Nat}, fs[k]? = some f → gj_fv ad M' h (n + k) f = v → (∀ (j g : Nat), j ≠ n + k → fs[j - n]? = some g → n ≤ j → gj_fv ad M' h j g = gj_fv ad M h j g) → (gj_fs ad M h n fs).set k v = gj_fs ad M' h n fs := by
  intro fs n k f hk hv ho
  apply List.ext_getElem?
  intro j
  rw [gj_fs_get]
  by_cases hj : j = k
  · subst hj
    rw [List.getElem?_set_self (by rw [gj_fs_len]; exact (List.getElem?_eq_some_iff.mp hk).1), hk]
    simp [hv]
  · rw [List.getElem?_set_ne (Ne.symm hj), gj_fs_get]
    cases hz : fs[j]? with
    | none => rfl
    | some z =>
      have := ho (n + j) z (by omega) (by rw [Nat.add_sub_cancel_left]; exact hz) (by omega)
      simp [this]
/-! the locals -/
def gj_dr : Option gj_V → Option gj_V
  | some (.inr (.inl _)) => none
  | x => x
def gj_s1 : List (Option gj_V) → Nat → gj_V → List (Option gj_V)
  | [], _, _ => []
  | _ :: t, 0, v => some v :: t
  | a :: t, 1, v => gj_dr a :: gj_s1 t 0 v
  | a :: t, n + 2, v => a :: gj_s1 t (n + 1) v
def gj_s2 : List (Option gj_V) → Nat → gj_V → List (Option gj_V)
  | [], _, _ => []
  | _ :: t, 0, v => some v :: (match t with | [] => [] | _ :: t => none :: t)
  | a :: t, 1, v => gj_dr a :: gj_s2 t 0 v
  | a :: t, n + 2, v => a :: gj_s2 t (n + 1) v
def gj_l (ad : Nat → Nat) (ls : Array Slot) (nL : Nat) (lv : List (Option gj_V)) : Prop := ls.size = nL ∧ lv_wf ls ∧ ∀ (i : Nat) (v : gj_V), lv[i]? = some (some v) → ls[i]? = some (.val (gj_c ad v))
def gj_as (ad : Nat → Nat) : Nat → List (Option gj_V) → List (Nat × Value)
  | _, [] => []
  | n, some v :: t => (n, gj_c ad v) :: gj_as ad (n + 1) t
  | n, none :: t => gj_as ad (n + 1) t
theorem gj_as_mem {ad : Nat → Nat} : ∀ (lv : List (Option gj_V)) (n : Nat) (q : Nat × Value), q ∈ gj_as ad n lv ↔ ∃ (j : Nat) (v : gj_V), lv[j]? = some (some v) ∧ q = (n + j, gj_c ad v) := by
  intro lv
  induction lv with
  | nil => intro n q; simp [gj_as]
  | cons a t ih =>
    intro n q
    have step : (∃ (j : Nat) (v : gj_V), (a :: t)[j]? = some (some v) ∧ q = (n + j, gj_c ad v)) ↔ (∃ v, a = some v ∧ q = (n, gj_c ad v)) ∨ ∃ (j : Nat) (v : gj_V), t[j]? = some (some v) ∧ q = (n + 1 + j, gj_c ad v) := by
      constructor
      · rintro ⟨j, v, h1, h2⟩
        cases j with
        | zero => exact Or.inl ⟨v, by simpa using h1, by simpa using h2⟩
        | succ j => exact Or.inr ⟨j, v, by simpa using h1, by rw [h2]; congr 1; omega⟩
      · rintro (⟨v, h1, h2⟩ | ⟨j, v, h1, h2⟩)
        · exact ⟨0, v, by simp [h1], by simpa using h2⟩
        · exact ⟨j + 1, v, by simpa using h1, by rw [h2]; congr 1; omega⟩
    rw [step]
    cases a with
    | none => simp [gj_as, ih]
    | some v => simp [gj_as, ih]
theorem gj_l.has {ad : Nat → Nat} {ls : Array Slot} {nL : Nat} {lv : List (Option gj_V)} (h : gj_l ad ls nL lv) : lv_has ls nL (gj_as ad 0 lv) := by
  refine ⟨h.1, h.2.1, fun q hq => ?_⟩
  obtain ⟨j, v, h1, rfl⟩ := (gj_as_mem lv 0 q).mp hq
  simpa using h.2.2 j v h1
theorem gj_s1_get : ∀ (lv : List (Option gj_V)) (i : Nat) (v : gj_V) (j : Nat) (w : gj_V), (gj_s1 lv i v)[j]? = some (some w) → (j = i ∧ w = v) ∨ (j ≠ i ∧ lv[j]? = some (some w) ∧ ¬ (j + 1 = i ∧ ∃ a, w = gL a)) := by
  intro lv
  induction lv with
  | nil => intro i v j w h; simp [gj_s1] at h
  | cons a t ih =>
    intro i v j w h
    match i, j, h with
    | 0, 0, h => simp [gj_s1] at h; exact Or.inl ⟨rfl, h.symm⟩
    | 0, j + 1, h => simp [gj_s1] at h; exact Or.inr ⟨by omega, by simpa using h, by omega⟩
    | 1, 0, h =>
      simp only [gj_s1, List.getElem?_cons_zero, Option.some.injEq] at h
      refine Or.inr ⟨by omega, ?_, ?_⟩
      · match a, h with
        | some (.inl x), h => simpa [gj_dr] using h
        | some (.inr (.inr x)), h => simpa [gj_dr] using h
      · rintro ⟨-, x, hx⟩
        subst hx
        match a, h with
        | some (.inl x), h => simp [gj_dr, gL] at h
        | some (.inr (.inr x)), h => simp [gj_dr, gL] at h
    | 1, j + 1, h =>
      simp only [gj_s1, List.getElem?_cons_succ] at h
      rcases ih 0 v j w h with ⟨h1, h2⟩ | ⟨h1, h2, h3⟩
      · exact Or.inl ⟨by omega, h2⟩
      · exact Or.inr ⟨by omega, by simpa using h2, by omega⟩
    | n + 2, 0, h =>
      simp only [gj_s1, List.getElem?_cons_zero] at h
      exact Or.inr ⟨by omega, by simpa using h, by omega⟩
    | n + 2, j + 1, h =>
      simp only [gj_s1, List.getElem?_cons_succ] at h
      rcases ih (n + 1) v j w h with ⟨h1, h2⟩ | ⟨h1, h2, h3⟩
      · exact Or.inl ⟨by omega, h2⟩
      · exact Or.inr ⟨by omega, by simpa using h2, fun q => h3 ⟨by omega, q.2⟩⟩
theorem gj_s2_get : ∀ (lv : List (Option gj_V)) (i : Nat) (v : gj_V) (j : Nat) (w : gj_V), (gj_s2 lv i v)[j]? = some (some w) → (j = i ∧ w = v) ∨ (j ≠ i ∧ j ≠ i + 1 ∧ lv[j]? = some (some w) ∧ ¬ (j + 1 = i ∧ ∃ a, w = gL a)) := by
  intro lv
  induction lv with
  | nil => intro i v j w h; simp [gj_s2] at h
  | cons a t ih =>
    intro i v j w h
    match i, j, h with
    | 0, 0, h => simp [gj_s2] at h; exact Or.inl ⟨rfl, h.symm⟩
    | 0, j + 1, h =>
      cases t with
      | nil => simp [gj_s2] at h
      | cons b t =>
        cases j with
        | zero => simp [gj_s2] at h
        | succ j => simp [gj_s2] at h; exact Or.inr ⟨by omega, by omega, by simpa using h, by omega⟩
    | 1, 0, h =>
      simp only [gj_s2, List.getElem?_cons_zero, Option.some.injEq] at h
      refine Or.inr ⟨by omega, by omega, ?_, ?_⟩
      · match a, h with
        | some (.inl x), h => simpa [gj_dr] using h
        | some (.inr (.inr x)), h => simpa [gj_dr] using h
      · rintro ⟨-, x, hx⟩
        subst hx
        match a, h with
        | some (.inl x), h => simp [gj_dr, gL] at h
        | some (.inr (.inr x)), h => simp [gj_dr, gL] at h
    | 1, j + 1, h =>
      simp only [gj_s2, List.getElem?_cons_succ] at h
      rcases ih 0 v j w h with ⟨h1, h2⟩ | ⟨h1, h0, h2, h3⟩
      · exact Or.inl ⟨by omega, h2⟩
      · exact Or.inr ⟨by omega, by omega, by simpa using h2, by omega⟩
    | n + 2, 0, h =>
      simp only [gj_s2, List.getElem?_cons_zero] at h
      exact Or.inr ⟨by omega, by omega, by simpa using h, by omega⟩
    | n + 2, j + 1, h =>
      simp only [gj_s2, List.getElem?_cons_succ] at h
      rcases ih (n + 1) v j w h with ⟨h1, h2⟩ | ⟨h1, h0, h2, h3⟩
      · exact Or.inl ⟨by omega, h2⟩
      · exact Or.inr ⟨by omega, by omega, by simpa using h2, fun q => h3 ⟨by omega, q.2⟩⟩
theorem gj_c_cat2 {ad : Nat → Nat} {w : gj_V} : (gj_c ad w).category = 2 ↔ ∃ a, w = gL a := by
  match w with
  | .inl a => simp [gj_c, Value.category, gL]
  | .inr (.inl a) => simp [gj_c, Value.category, gL]
  | .inr (.inr (some h)) => simp [gj_c, Value.category, gL]
  | .inr (.inr none) => simp [gj_c, Value.category, gL]
theorem gj_l.s1 {ad : Nat → Nat} {ls' : Array Slot} {nL i : Nat} {lv : List (Option gj_V)} {v : gj_V} (h : lv_has ls' nL ((i, gj_c ad v) :: (gj_as ad 0 lv).filter (fun q => !(q.1 == i) && !(q.1 + 1 == i && q.2.category == 2)))) : gj_l ad ls' nL (gj_s1 lv i v) := by
  refine ⟨h.1, h.2.1, fun j w hj => ?_⟩
  rcases gj_s1_get lv i v j w hj with ⟨rfl, rfl⟩ | ⟨h1, h2, h3⟩
  · exact h.2.2 (j, gj_c ad w) List.mem_cons_self
  · refine h.2.2 (j, gj_c ad w) (List.mem_cons_of_mem _ (List.mem_filter.mpr ⟨(gj_as_mem lv 0 _).mpr ⟨j, w, h2, by simp⟩, ?_⟩))
    have h4 : ¬ (j + 1 = i ∧ (gj_c ad w).category = 2) := fun q => h3 ⟨q.1, gj_c_cat2.mp q.2⟩
    simp only [Bool.and_eq_true, Bool.not_eq_true', beq_eq_false_iff_ne, ne_eq, Bool.and_eq_false_iff]
    refine ⟨h1, ?_⟩
    by_cases q : j + 1 = i
    · exact Or.inr fun z => h4 ⟨q, z⟩
    · exact Or.inl q
theorem gj_l.s2 {ad : Nat → Nat} {ls' : Array Slot} {nL i : Nat} {lv : List (Option gj_V)} {v : gj_V} (h : lv_has ls' nL ((i, gj_c ad v) :: (gj_as ad 0 lv).filter (fun q => !(q.1 == i) && (!(q.1 == i + 1) && !(q.1 + 1 == i && q.2.category == 2))))) : gj_l ad ls' nL (gj_s2 lv i v) := by
  refine ⟨h.1, h.2.1, fun j w hj => ?_⟩
  rcases gj_s2_get lv i v j w hj with ⟨rfl, rfl⟩ | ⟨h1, h0, h2, h3⟩
  · exact h.2.2 (j, gj_c ad w) List.mem_cons_self
  · refine h.2.2 (j, gj_c ad w) (List.mem_cons_of_mem _ (List.mem_filter.mpr ⟨(gj_as_mem lv 0 _).mpr ⟨j, w, h2, by simp⟩, ?_⟩))
    have h4 : ¬ (j + 1 = i ∧ (gj_c ad w).category = 2) := fun q => h3 ⟨q.1, gj_c_cat2.mp q.2⟩
    simp only [Bool.and_eq_true, Bool.not_eq_true', beq_eq_false_iff_ne, ne_eq, Bool.and_eq_false_iff]
    refine ⟨h1, h0, ?_⟩
    by_cases q : j + 1 = i
    · exact Or.inr fun z => h4 ⟨q, z⟩
    · exact Or.inl q
/-- fewer known locals -/
def gj_le : List (Option gj_V) → List (Option gj_V) → Prop
  | [], _ => True
  | none :: t, _ :: t' => gj_le t t'
  | some v :: t, w :: t' => w = some v ∧ gj_le t t'
  | none :: t, [] => gj_le t []
  | some _ :: _, [] => False
theorem gj_le_get : ∀ (a b : List (Option gj_V)) (i : Nat) (v : gj_V), gj_le a b → a[i]? = some (some v) → b[i]? = some (some v) := by
  intro a
  induction a with
  | nil => intro b i v _ h; simp at h
  | cons x t ih =>
    intro b i v hl h
    match x, b, hl with
    | none, [], hl =>
      cases i with
      | zero => simp at h
      | succ i => have := ih [] i v hl (by simpa using h); simp at this
    | none, y :: t', hl =>
      cases i with
      | zero => simp at h
      | succ i => simpa using ih t' i v hl (by simpa using h)
    | some z, y :: t', hl =>
      cases i with
      | zero => simp at h ⊢; rw [hl.1, h]
      | succ i => simpa using ih t' i v hl.2 (by simpa using h)
/-! the judgement -/
def gj_tens (j : Nat) : Int := match j with | 0 => 1 | 1 => 10 | 2 => 100 | 3 => 1000 | _ => 10000
def gj_X (ad : Nat → Nat) (A : Nat → Prop) (xt : Nat × (Nat → Int)) (s : State) (H : Heap) : Prop :=
  va_Z "CelSheets" "TENS" "[I" (.ref (ad 1000)) A s H ∧ va_T .int (ad 1000) 5 (fun j => .int (Int32.ofInt (gj_tens j))) A s H ∧ va_T .int (ad 1001) xt.1 (fun j => .int (Int32.ofInt (xt.2 j))) A s H ∧ ∀ w ∈ gj_nb, va_Nw w s
def gj_C (xt : Nat × (Nat → Int)) (Y : gj_Y) (p : Program) (s : State) (m : MethodId) (args : Array Value) (meth : Method) (c : Code) (ad : Nat → Nat) (A : Nat → Prop) : Prop :=
  p.tables.exec = Jvm.exec ∧ c.code = Y.2.1 ∧ c.maxLocals = Y.2.2.1 ∧ s.vm.findClass Y.1.cls = some m.cls ∧ (∀ w ∈ gj_tb, w.before args s = true) ∧ meth.name = Y.1.name ∧ (∀ q : Nat, s.heap.size ≤ q → A q) ∧ gj_X ad A xt s s.heap
def gj_Wd (ad : Nat → Nat) (cA cZ : ClassId) (D : va_G) (A : Nat → Prop) (S : List gj_H) (M : gj_M) (s : State) (H : Heap) (locs : List Loc) : Prop :=
  va_P D vwCl (gj_w ad cA cZ M 0 S) H ∧ va_D A (gj_w ad cA cZ M 0 S) ∧ va_K D vwCl [(cA, .int), (cZ, .boolean)] s ∧ va_S A s.heap H locs ∧ gj_R M ∧ S.length ≤ 1000
def gj_ri : Option gj_V → Instr
  | none => .return_
  | some (.inl _) => .ireturn
  | some (.inr (.inl _)) => .lreturn
  | some (.inr (.inr _)) => .areturn
def gj_ro (ret : Option FieldType) : Option gj_V → Prop
  | none => ret = none
  | some (.inl a) => ret = some .int ∨ (ret = some .boolean ∧ (a = 0 ∨ a = 1))
  | some (.inr (.inl _)) => ret = some .long
  | some (.inr (.inr r)) => (∃ n, ret = some (.object n)) ∧ ∃ h, r = some h
def gj_ag (S S' : List gj_H) (ad ad' : Nat → Nat) : Prop := S.length ≤ S'.length ∧ (S'.length = S.length → ad' = ad) ∧ ∀ h : Nat, (h < S.length ∨ 1000 ≤ h) → ad' h = ad h
theorem gj_ag.rf {S S' : List gj_H} {ad : Nat → Nat} (h : S.length = S'.length) : gj_ag S S' ad ad := ⟨by omega, fun _ => rfl, fun _ _ => rfl⟩
theorem gj_ag.tr {S S' S'' : List gj_H} {ad ad' ad'' : Nat → Nat} (h : gj_ag S S' ad ad') (g : gj_ag S' S'' ad' ad'') : gj_ag S S'' ad ad'' := by
  refine ⟨Nat.le_trans h.1 g.1, fun q => ?_, fun x hx => ?_⟩
  · have h1 := h.1
    have g1 := g.1
    rw [g.2.1 (by omega), h.2.1 (by omega)]
  · rw [g.2.2 x (by have := h.1; omega), h.2.2 x hx]
def gj_G (xt : Nat × (Nat → Int)) (Y : gj_Y) (S : List gj_H) (k n pc : Nat) (lv : List (Option gj_V)) (st : List gj_V) (M : gj_M) (Q : Option gj_V → List gj_H → gj_M → Prop) : Prop :=
  ∀ (p : Program) (l : Launch) (e : Env) (s : State) (m : MethodId) (args : Array Value) (below : List Frame) (meth : Method) (c : Code) (H : Heap) (locs : List Loc) (ls : Array Slot) (ad : Nat → Nat) (cA cZ : ClassId) (D : va_G) (A : Nat → Prop) (Z : State → Prop),
    gj_C xt Y p s m args meth c ad A → gj_Wd ad cA cZ D A S M s H locs → gj_l ad ls Y.2.2.1 lv →
    (∀ (rv : Option gj_V) (S' : List gj_H) (M' : gj_M) (H' : Heap) (locs' : List Loc) (pc' : Nat) (ls' : Array Slot) (ad' : Nat → Nat), Q rv S' M' → gj_ro Y.2.2.2.1 rv → gj_ag S S' ad ad' → gj_Wd ad' cA cZ D A S' M' s H' locs' → decode Y.2.1 pc' = .ok (gj_ri rv, 1) → W p l e Y.2.2.2.2 s m args below meth c H' locs' Y.2.2.2.2.cells Y.2.2.2.2.slots Z (F0 m pc' ls' (rv.toList.map (gj_c ad')))) →
    W p l e Y.2.2.2.2 s m args below meth c H locs k n Z (F0 m pc ls (st.map (gj_c ad)))
