/-! answers: who covers all, who is hired, which questions, good ones, alike, changes, sheets, lots -/
def s_an (A : am_S) (m q : Nat) : Nat → Bool
  | 0 => false
  | n + 1 => s_an A m q n || (m.testBit n && s_cn A n q)
def s_cv (A : am_S) (m : Nat) : Nat := mk_m (fun q => s_an A m q (s_np A)) (s_nq A)
def s_pc (m : Nat) : Nat → Nat
  | 0 => 0
  | n + 1 => s_pc m n + if m.testBit n then 1 else 0
def s_on (m : Nat) : Nat := s_pc m 12
def s_co (A : am_S) : Nat → Option Nat
  | 0 => none
  | n + 1 => match s_co A n with
    | none => if s_cv A n = s_cv A (2 ^ s_np A - 1) then some n else none
    | some b => if s_on n < s_on b ∧ s_cv A n = s_cv A (2 ^ s_np A - 1) then some n else some b
def s_ob (A : am_S) : Nat := (s_co A (2 ^ s_np A)).getD 0
def sp_cover (A : am_S) (w : Int32) : Int32 := if w = 0 then nI (s_on (s_ob A)) else if w = 1 then nI (s_ob A) else -2
/-- the topic that one knows deepest -/
def s_d1 (A : am_S) (p : Nat) : Nat := if A 70 (4 * p + 0) < A 70 (4 * p + 1) then 1 else 0
def s_d2 (A : am_S) (p : Nat) : Nat := if A 70 (4 * p + s_d1 A p) < A 70 (4 * p + 2) then 2 else s_d1 A p
def s_dt (A : am_S) (p : Nat) : Nat := if A 70 (4 * p + s_d2 A p) < A 70 (4 * p + 3) then 3 else s_d2 A p
def s_pr (A : am_S) (p : Nat) : Int32 := s_as A 2 (s_nm (A 70 (4 * p + s_dt A p)) 0 (A 67 p) (nI (s_dt A p)) 0 (nI p))
def sp_price (A : am_S) (p : Int32) : Int32 := if am_in p (s_np A) then s_pr A (sN p) else -5
def s_hi (A : am_S) (T : Nat) (coin : Int32) : Nat → Option Nat × Int32 × Int32
  | 0 => (none, s_now A T, -1)
  | n + 1 => if A 69 n = -1 ∧ s_pr A n ≤ coin then
      (if (s_hi A T coin n).2.1 < s_wi A T n (nI T) ∨ ((s_hi A T coin n).1 ≠ none ∧ s_wi A T n (nI T) = (s_hi A T coin n).2.1 ∧ s_pr A n < (s_hi A T coin n).2.2) then (some n, s_wi A T n (nI T), s_pr A n) else s_hi A T coin n)
    else s_hi A T coin n
def sp_hire (A : am_S) (t coin w : Int32) : Int32 := if am_in t 3 then (if am_in coin 1000 then (if w = 0 then s_bi (s_hi A (sN t) coin (s_np A)).1 else if w = 1 then (s_hi A (sN t) coin (s_np A)).2.2 else -7) else -7) else -5
def s_cl (A : am_S) (k : Nat) : Nat → Option Nat
  | 0 => none
  | n + 1 => if s_on n = k then (match s_cl A k n with
      | none => some n
      | some b => if s_ap A (fun q => n.testBit q) < s_ap A (fun q => b.testBit q) then some n else some b) else s_cl A k n
def s_cr (A : am_S) (k : Nat) : Option Nat := s_cl A k (2 ^ s_nq A)
def sp_close (A : am_S) (k w : Int32) : Int32 := if am_in k 9 then (if w = 0 then s_bi (s_cr A (sN k)) else if w = 1 then (match s_cr A (sN k) with
  | none => -1
  | some b => s_ap A (fun q => b.testBit q)) else -2) else -2
def s_sn (x : Int32) : Int32 := if 0 < x then 1 else if x < 0 then -1 else 0
def s_pg (A : am_S) (q a b : Nat) : Int32 := if a ≠ b ∧ s_rt A (s_se A a) q = true ∧ ¬ s_rt A (s_se A b) q = true then s_sn (s_now A a - s_ps2 A a q - s_now A b) else 0
def s_g1 (A : am_S) (q a : Nat) (n0 : Int32) : Nat → Int32
  | 0 => n0
  | b + 1 => s_g1 A q a n0 b + s_pg A q a b
def s_g2 (A : am_S) (q : Nat) : Nat → Int32
  | 0 => 0
  | a + 1 => s_g1 A q a (s_g2 A q a) 3
def sp_good (A : am_S) (q : Int32) : Int32 := if am_in q (s_nq A) then s_g2 A (sN q) 3 else -100000
/-- above or below the line, in lowest terms -/
def s_lo (a b : Nat) (z : Bool) : Int64 := if z then lN (a / Nat.gcd a b) else lN (b / Nat.gcd a b)
def s_al (A : am_S) (a b : Nat) (both : Bool) : Nat := mk_m (fun q => if both then !(s_rt A (s_se A a) q || s_rt A (s_se A b) q) else !(s_rt A (s_se A a) q && s_rt A (s_se A b) q)) (s_nq A)
def sp_alike (A : am_S) (a b w : Int32) : Int64 := if am_in a 3 && am_in b 3 && decide (a ≠ b) && (decide (w = 0) || decide (w = 1)) then (if s_al A (sN a) (sN b) false = 0 then -4611686018427387904 else s_lo (s_on (s_al A (sN a) (sN b) true)) (s_on (s_al A (sN a) (sN b) false)) (decide (w = 0))) else -4611686018427387904
/-- two change places -/
def s_sw (A : am_S) (a b : Nat) : am_S := am_up (am_up A 69 a (A 69 b)) 69 b (A 69 a)
def s_ac (A : am_S) (a b : Nat) : Int32 := s_ap (s_sw A a b) (fun _ => true)
def s_c1 (A : am_S) (a : Nat) (x : Int32 × Int32) : Nat → Int32 × Int32
  | 0 => x
  | n + 1 => if A 69 a = A 69 (a + 1 + n) then s_c1 A a x n else if s_ac A a (a + 1 + n) < (s_c1 A a x n).2 then (nI (10 * a + (a + 1 + n)), s_ac A a (a + 1 + n)) else s_c1 A a x n
def s_c2 (A : am_S) : Nat → Int32 × Int32
  | 0 => (-1, s_ap A (fun _ => true))
  | a + 1 => s_c1 A a (s_c2 A a) (s_np A - (a + 1))
def sp_change (A : am_S) (w : Int32) : Int32 := if w = 0 then (s_c2 A (s_np A)).1 else if w = 1 then (s_c2 A (s_np A)).2 else -2
/-- the first question that a table has otherwise than a sheet -/
def s_b2 (b : Bool) : Int32 := if b then 1 else 0
def s_uf (A : am_S) (s : Nat) (S : Nat → Bool) : Nat → Nat → Option Nat
  | 0, _ => none
  | n + 1, q => if A 82 (40 * s + q) = s_b2 (s_rt A S q) then s_uf A s S n (q + 1) else some q
def s_ul (A : am_S) (s : Nat) (S : Nat → Bool) : Option Nat := s_uf A s S (s_nq A) 0
def sp_judge (A : am_S) (s t : Int32) : Int32 := if s_wr A s ≠ 0 then s_wr A s else if am_in t 3 then s_bi (s_ul A (sN s) (s_se A (sN t))) else -5
def sp_whose (A : am_S) (s : Int32) : Int32 := if s_wr A s ≠ 0 then s_wr A s else nI (mk_m (fun t => decide (s_ul A (sN s) (s_se A t) = none)) 3)
def s_dd (A : am_S) (p i : Nat) (d : Nat) : am_S := am_up A 70 (4 * p + i) (nI d)
def sp_depth (A : am_S) (s p i : Int32) : Int32 := if s_wr A s ≠ 0 then s_wr A s else if am_in p (s_np A) && decide (A 69 (sN p) ≠ -1) then (if am_in i 4 then nI (mk_m (fun d => decide (s_ul (s_dd A (sN p) (sN i) d) (sN s) (s_se A (sN (A 69 (sN p)))) = none)) 10) else -7) else -5
def s_fo (A : am_S) (k : Nat) : am_S := am_up A 65 15 (nI k)
def sp_laws (A : am_S) (s t : Int32) : Int32 := if s_wr A s ≠ 0 then s_wr A s else if am_in t 3 then nI (mk_m (fun k => decide (s_ul (s_fo A k) (sN s) (s_se A (sN t)) = none)) (s_nt A)) else -5
def s_fm (A : am_S) (s T : Nat) : Nat → am_S
  | 0 => am_up (am_up A 80 s 2) 81 s (A 65 6)
  | n + 1 => am_up (s_fm A s T n) 82 (40 * s + n) (if n < s_nq A ∧ s_rt A (s_se A T) n = true then 1 else 0)
def sp_film (A : am_S) (s t : Int32) : Int32 × am_S := if am_in s 4 then (if am_in t 3 then (A 65 6, s_fm A (sN s) (sN t) 40) else (-5, A)) else (-2, A)
/-- lots -/
def s_lt (l : Int64) : Int64 := l * 48271 - l * 48271 / 2147483647 * 2147483647
def s_lk (l : Int64) : Nat → Int64
  | 0 => l
  | n + 1 => s_lt (s_lk l n)
def s_dr (A : am_S) (l : Int64) : Nat → am_S
  | 0 => A
  | k + 1 => am_up (s_dr A l k) 70 k (am_bd (A 70 k + (s_lk l (k + 1) - s_lk l (k + 1) / 3 * 3).toInt32 - 1) 0 9)
def s_wb (A : am_S) (seed : Int32) : Nat := s_wn (s_dr A (seed.toInt64 + 1) (4 * s_np A))
def sp_drawn (A : am_S) (seed : Int32) : Int32 := if am_in seed 100000 then nI (s_wb A seed) else -2
def s_od (A : am_S) (seed : Int32) (T : Nat) : Nat → Nat
  | 0 => 0
  | k + 1 => s_od A seed T k + if s_wb A (seed + nI k) = T then 1 else 0
def sp_odds (A : am_S) (seed n t w : Int32) : Int64 := if am_in seed 100000 && (decide (1 ≤ n) && decide (n ≤ 30)) && am_in t 3 && (decide (w = 0) || decide (w = 1)) then s_lo (s_od A seed (sN t) (sN n)) (sN n) (decide (w = 0)) else -4611686018427387904
