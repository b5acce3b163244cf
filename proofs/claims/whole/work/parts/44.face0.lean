/-! the face of the class: answers and memories -/
def x_isD (M : gj_M) (d : Int) : Int := if 0 ≤ d ∧ d < M 10 0 then 1 else 0
def x_isL (M : gj_M) (l : Int) : Int := if 0 ≤ l ∧ l < M 10 1 then 1 else 0
def x_isF (f : Int) : Int := if 0 ≤ f ∧ f < 48 then 1 else 0
def x_isW (c : Int) : Int := if 0 ≤ c ∧ c < 10 then 1 else 0
def x_hasP (M : gj_M) (l : Int) : Int := if l = 9 ∨ (0 ≤ l ∧ l < M 10 1) then 1 else 0
def x_panOf (l : Int) : Int := if l = 9 then 4 else l
def x_write (M : gj_M) (c : Int) : Int := if c < 0 ∨ 255 < c then -2 else if 80 ≤ M 0 1 then -4 else M 0 1 + 1
def m_write (M : gj_M) (c : Int) : gj_M := if c < 0 ∨ 255 < c then M else if 80 ≤ M 0 1 then M else gj_u (gj_u M 1 (M 0 1) c) 0 1 (M 0 1 + 1)
def m_fault (M : gj_M) : gj_M := r_ru M (M 1) (r_fn M (M 1) (M 0 1).toNat 0)
def x_fault (M : gj_M) : Int := r_ff M (M 1) (M 0 1).toNat 0
def m_reel (M : gj_M) : gj_M := if x_fault M = -9 then p_clr (gj_u (p_clr (b_bg (b_rc (m_fault M))) 31 4) 35 0 0) 68 2 else m_fault M
def x_reel (M : gj_M) : Int := if x_fault M = -9 then m_fault M 3 1 else -3
def x_drawing (M : gj_M) (d w : Int) : Int := if 0 ≤ d ∧ d < M 10 0 then (if w = 0 then M 16 d else if w = 1 then M 17 d else if w = 2 then c_mo M d else -2) else -1
def x_where (M : gj_M) (l f : Int) : Int := if l = 9 ∨ (0 ≤ l ∧ l < M 10 1) then (if 0 ≤ f ∧ f < 48 then 1000 + p_pan (M 19) (M 20) (M 21) (x_panOf l) f else -2) else -1
def x_redraw (M : gj_M) (d x w : Int) : Int := if 0 ≤ d ∧ d < M 10 0 then (if x < 0 ∨ 9 < x ∨ w < 1 ∨ 5 < w then -2 else 10 * M 16 d + M 17 d) else -1
def m_redraw (M : gj_M) (d x w : Int) : gj_M := if 0 ≤ d ∧ d < M 10 0 then (if x < 0 ∨ 9 < x ∨ w < 1 ∨ 5 < w then M else gj_u (gj_u (k_ad M 0 d (M 16 d) (M 17 d) 0) 16 d x) 17 d w) else M
def x_delay (M : gj_M) (l v : Int) : Int := if 0 ≤ l ∧ l < M 10 1 then (if v < 0 ∨ 9 < v then -2 else M 18 l) else -1
def m_delay (M : gj_M) (l v : Int) : gj_M := if 0 ≤ l ∧ l < M 10 1 then (if v < 0 ∨ 9 < v then M else gj_u (k_ad M 1 l (M 18 l) 0 0) 18 l v) else M
def x_pan (M : gj_M) (l s b e : Int) : Int := if l = 9 ∨ (0 ≤ l ∧ l < M 10 1) then (if s < -9 ∨ 9 < s ∨ b < -3 ∨ 3 < b ∨ e < 1 ∨ 9 < e then -2 else 1000 + (s + b * (47 / e))) else -1
def m_pan (M : gj_M) (l s b e : Int) : gj_M := if l = 9 ∨ (0 ≤ l ∧ l < M 10 1) then (if s < -9 ∨ 9 < s ∨ b < -3 ∨ 3 < b ∨ e < 1 ∨ 9 < e then M else gj_u (gj_u (gj_u (k_ad M 2 (x_panOf l) (M 19 (x_panOf l)) (M 20 (x_panOf l)) (M 21 (x_panOf l))) 19 (x_panOf l) s) 20 (x_panOf l) b) 21 (x_panOf l) e) else M
def b_as (M : gj_M) (f o : Int) : gj_M := gj_u (gj_u (gj_u M 22 (M 15 6) f) 23 (M 15 6) o) 15 6 (M 15 6 + 1)
def x_swap (M : gj_M) (f o : Int) : Int := if (0 ≤ f ∧ f < 48) ∧ p_io (M 10 1) o = 1 then (if 4 ≤ M 15 6 then -4 else M 15 6 + 1) else -2
def m_swap (M : gj_M) (f o : Int) : gj_M := if (0 ≤ f ∧ f < 48) ∧ p_io (M 10 1) o = 1 then (if 4 ≤ M 15 6 then M else b_as (k_ad M 3 0 0 0 0) f o) else M
def x_back (M : gj_M) : Int := if M 15 6 < 1 then -3 else M 15 6 - 1
def m_back (M : gj_M) : gj_M := if M 15 6 < 1 then M else gj_u (k_ad M 4 0 (M 22 (M 15 6 - 1)) (M 23 (M 15 6 - 1)) 0) 15 6 (M 15 6 - 1)
def x_undo (M : gj_M) : Int := if M 35 0 = 0 then -3 else M 35 0 - 1
def m_undo (M : gj_M) : gj_M := if M 35 0 = 0 then M else k_bk M
def x_exposed (M : gj_M) (l f : Int) : Int := if 0 ≤ l ∧ l < M 10 1 then (if 0 ≤ f ∧ f < 48 then c_ex M l f else -2) else -1
def x_order (M : gj_M) (f : Int) : Int := if 0 ≤ f ∧ f < 48 then c_ord M f else -2
def x_look (M : gj_M) (f c : Int) : Int := if (0 ≤ f ∧ f < 48) ∧ 0 ≤ c ∧ c < 10 then c_seen M f c (-1) else -2
def x_ask (M : gj_M) (w : Int) : Int := if w = 0 then c_chg M 47 else if w = 1 then c_cels M else -2
def x_see (M : gj_M) (f c v : Int) : Int := if (0 ≤ f ∧ f < 48) ∧ (0 ≤ c ∧ c < 10) ∧ (v = -9 ∨ (0 ≤ v ∧ v ≤ 39)) then (if 6 ≤ M 37 0 then -4 else M 37 0 + 1) else -2
def m_see (M : gj_M) (f c v : Int) : gj_M := if (0 ≤ f ∧ f < 48) ∧ (0 ≤ c ∧ c < 10) ∧ (v = -9 ∨ (0 ≤ v ∧ v ≤ 39)) then (if 6 ≤ M 37 0 then M else g_ad M f c v) else M
def x_wh (M : gj_M) : Nat → Int
  | 0 => 0
  | k + 1 => if g_al M k (M 37 0).toNat 0 = 0 then x_wh M k else (Int32.ofInt (x_wh M k) ||| Int32.ofInt (Int32.ofInt 1 <<< (Int32.ofInt k &&& 31)).toInt).toInt
/-- the greatest number that divides two, by so many steps at most -/
def e_cd : Nat → Int → Int → Int
  | 0, h, _ => h
  | n + 1, h, l => if l = 0 then h else e_cd n l (h % l)
def e_fp (a b u : Int) : Int := if e_cd 64 a b < 1 then (if u = 0 then b else a) else (if u = 0 then b else a) / e_cd 64 a b
def x_share (M : gj_M) (l u : Int) : Int := if 0 ≤ l ∧ l < M 10 1 then e_fp (c_share M l) 12 u else -1
def e_pw (x : Int) : Nat → Int
  | 0 => 1
  | n + 1 => e_pw x n * x
def x_lost (M : gj_M) (f c x u : Int) : Int := if (0 ≤ f ∧ f < 48) ∧ (0 ≤ c ∧ c < 10) ∧ 0 ≤ x ∧ x ≤ 10 then e_fp (e_pw 10 (c_lc M f c).toNat - e_pw x (c_lc M f c).toNat) (e_pw 10 (c_lc M f c).toNat) u else -2
def e_lcg (x : Int) : Int := x * 6364136223846793005 + 1442695040888963407
def e_v (x : Int) : Int := x % 18446744073709551616 / 8589934592
def e_sd (x : Int) : Nat → Int
  | 0 => x
  | n + 1 => e_lcg (e_sd x n)
def x_lk (M : gj_M) : Nat → Int
  | 0 => 0
  | n + 1 => if c_seen M (e_v (e_sd (M 5000 12) (n + 1)) % 48) (e_v (e_sd (M 5000 12) (n + 1)) / 48 % 10) (-1) = -9 then x_lk M n else x_lk M n + 1
def x_looks (M : gj_M) (m : Int) : Int := if m < 1 ∨ 40 < m then -2 else x_lk M m.toNat
def m_looks (M : gj_M) (m : Int) : gj_M := if m < 1 ∨ 40 < m then M else gj_u M 5000 12 (e_sd (M 5000 12) m.toNat)
def x_keep (M : gj_M) (s : Int) : Int := if s < 0 ∨ 2 ≤ s then -1 else M 15 6
def m_keep (M : gj_M) (s : Int) : gj_M := if s < 0 ∨ 2 ≤ s then M else gj_u (b_cp M (if s = 0 then 50 else 59) 15) 68 s 1
def x_again (M : gj_M) (s : Int) : Int := if s < 0 ∨ 2 ≤ s then -1 else if M 68 s = 0 then -3 else if s = 0 then M 50 6 else M 59 6
def m_again (M : gj_M) (s : Int) : gj_M := if s < 0 ∨ 2 ≤ s then M else if M 68 s = 0 then M else gj_u (b_cp M 15 (if s = 0 then 50 else 59)) 35 0 0
def x_count (M : gj_M) (w : Int) : Int := if w = 0 then M 0 1 else if w = 1 then M 10 0 else if w = 2 then M 10 1 else if w = 3 then M 15 6 else if w = 4 then M 35 0 else if w = 5 then M 37 0 else -2
