/-! WHAT IS ANSWERED, over the abstract state -/
def s_np (A : am_S) : Nat := sN (A 65 0)
def s_nq (A : am_S) : Nat := sN (A 65 6)
def s_tp (A : am_S) : Nat := sN (A 65 11)
def s_nt (A : am_S) : Nat := sN (A 65 14)
def s_rl (A : am_S) : Nat := sN (A 65 15)
/-! a text: its steps over a pile -/
def s_leaf (c : Int32) : Bool := decide (100000 ≤ c) || decide (c < 11)
def s_one (nm : Nat → Int32) (c : Int32) (st : List Int32) : List Int32 :=
  if s_leaf c then (if c < 11 then nm (sN c) else c - 100000) :: st
  else if c = 13 then (match st with
    | a :: t => (if a = 0 then 1 else 0) :: t
    | [] => [])
  else if c = 19 then (match st with
    | a :: t => (-a) :: t
    | [] => [])
  else (match st with
    | b :: a :: t => s_tw c a b :: t
    | _ => [])
def s_run (nm : Nat → Int32) (cs : List Int32) (st : List Int32) : List Int32 := cs.foldl (fun st c => s_one nm c st) st
/-- a step that stands in a text -/
def wf_c (c : Int32) : Bool := (decide (0 ≤ c) && decide (c < 6)) || (decide (100000 ≤ c) && decide (c ≤ 109999)) || decide (c = 11) || decide (c = 12) || decide (c = 13) || decide (c = 14) || decide (c = 15) || decide (c = 16) || decide (c = 17) || decide (c = 18) || decide (c = 19)
/-- how high the pile is behind them, if it never falls below or grows above 32 -/
def wf_d : List Int32 → Nat → Option Nat
  | [], d => some d
  | c :: cs, d => if wf_c c = false then none else if s_leaf c then (if d < 32 then wf_d cs (d + 1) else none) else if c = 13 ∨ c = 19 then (if 0 < d then wf_d cs d else none) else (if 2 ≤ d then wf_d cs (d - 1) else none)
def s_sl (A : am_S) (t s e : Nat) : List Int32 := (List.range' s (e - s)).map (fun k => A 75 (200 * t + k))
def s_st (A : am_S) (t part : Nat) : Nat := sN (A 76 (4 * t + part))
def s_cs (A : am_S) (t part : Nat) : List Int32 := s_sl A t (s_st A t part) (s_st A t (part + 1))
def s_sy (A : am_S) (part : Nat) (nm : Nat → Int32) : Int32 := (s_run nm (s_cs A (s_rl A) part) []).headD 0
def s_as (A : am_S) (part : Nat) (nm : Nat → Int32) : Int32 := if part = 0 then am_bd (s_sy A 0 nm) (-999) 999 else am_bd (s_sy A part nm) 0 99
def s_nm (d a l t r w : Int32) : Nat → Int32 := fun k => match k with
  | 0 => d
  | 1 => a
  | 2 => l
  | 3 => t
  | 4 => r
  | _ => w
/-! people at questions -/
def s_kv (A : am_S) (p : Nat) (tq q d : Int32) : Int32 := if A 66 p = 1 then (if tq = A 68 p - A 68 p / 4 * 4 then d + 3 else d) else if A 66 p = 3 then (if tq = A 68 p - A 68 p / 4 * 4 then d + 3 else d) - q / 3 else if A 66 p = 4 then d + 2 else if A 66 p = 5 ∧ A 68 p ≤ q then 9 else d
def s_kn (A : am_S) (p q : Nat) : Int32 := am_bd (s_kv A p (A 71 q) (nI q) (A 70 (4 * p + sN (A 71 q)))) 0 9
def s_ld (A : am_S) (p : Nat) (tq : Int32) : Int32 := if A 66 p = 2 then A 67 p / 3 else if A 66 p = 3 then 2 * A 67 p + 5 else if A 66 p = 4 then (if tq = A 68 p - A 68 p / 4 * 4 then A 67 p / 3 else 0) else A 67 p
def s_wt (A : am_S) (p q : Nat) : Int32 := s_as A 0 (s_nm (s_kn A p q) (A 72 q) (s_ld A p (A 71 q)) (A 71 q) (nI q) (nI p))
def s_cn (A : am_S) (p q : Nat) : Bool := decide (A 72 q ≤ s_kn A p q)
def s_bl (A : am_S) (S : Nat → Bool) (q : Nat) : Nat → Option Nat
  | 0 => none
  | n + 1 => if S n then (match s_bl A S q n with
    | none => some n
    | some p => if s_wt A p q < s_wt A n q then some n else some p) else s_bl A S q n
def s_be (A : am_S) (S : Nat → Bool) (q : Nat) : Option Nat := s_bl A S q (s_np A)
def s_rt (A : am_S) (S : Nat → Bool) (q : Nat) : Bool := match s_be A S q with
  | none => false
  | some p => s_cn A p q
def s_pt (A : am_S) (q : Nat) : Int32 := s_as A 1 (s_nm 0 (A 72 q) 0 (A 71 q) (nI q) 0)
def s_wo (A : am_S) (f : Nat → Bool) (j : Int32) : Nat → Int32
  | 0 => 0
  | n + 1 => s_wo A f j n + (if f n then (if j = nI n then 2 * s_pt A n else s_pt A n) else 0)
def s_se (A : am_S) (t : Nat) : Nat → Bool := fun p => decide (A 69 p = nI t)
def s_sc (A : am_S) (S : Nat → Bool) (j : Int32) (F : Nat → Bool) : Int32 := s_wo A (fun q => F q && s_rt A S q) j (s_nq A)
def s_now (A : am_S) (t : Nat) : Int32 := s_sc A (s_se A t) (A 73 t) (fun _ => true)
/-! what holds of every state -/
def wf_p (A : am_S) (p : Nat) : Prop := am_rg (A 66 p) 6 ∧ am_rg (A 67 p) 21 ∧ am_rg (A 68 p) 10 ∧ (A 69 p = -1 ∨ am_rg (A 69 p) 3) ∧ ∀ j, j < 4 → am_rg (A 70 (4 * p + j)) 10
def wf_q (A : am_S) (q : Nat) : Prop := am_rg (A 71 q) 4 ∧ am_rg (A 72 q) 10
def wf_t (A : am_S) (t : Nat) : Prop := A 76 (4 * t) = 0 ∧ ∀ part, part < 3 → (A 76 (4 * t + part + 1) = nI (s_st A t (part + 1)) ∧ s_st A t part ≤ s_st A t (part + 1) ∧ s_st A t (part + 1) ≤ 160 ∧ wf_d (s_cs A t part) 0 = some 1)
def wf_j (x : Int32) : Prop := x = -1 ∨ am_rg x 8
def wf_i (A : am_S) : Prop := A 65 16 = 0 ∨ (A 65 16 = 1 ∧ (∃ n, A 65 17 = nI n ∧ n ≤ s_np A) ∧ (∃ n, A 65 18 = nI n ∧ n ≤ s_nq A) ∧ (∃ n, A 65 19 = nI n ∧ n < s_nt A) ∧ (∀ p, p < sN (A 65 17) → (A 77 p = -1 ∨ am_rg (A 77 p) 3) ∧ ∀ j, j < 4 → am_rg (A 78 (4 * p + j)) 10) ∧ ∀ t, t < 3 → wf_j (A 79 t))
def wf_s (A : am_S) (s : Nat) : Prop := (A 80 s = -1 ∨ am_rg (A 80 s) 3) ∧ am_rg (A 81 s) 41
def wf_A (A : am_S) : Prop := (A 65 0 = nI (s_np A) ∧ s_np A ≤ 7) ∧ (A 65 6 = nI (s_nq A) ∧ s_nq A ≤ 8) ∧ (A 65 11 = nI (s_tp A) ∧ s_tp A ≤ 160) ∧ (A 65 14 = nI (s_nt A) ∧ 1 ≤ s_nt A ∧ s_nt A ≤ 6) ∧ (A 65 15 = nI (s_rl A) ∧ s_rl A < s_nt A) ∧ (∀ p, p < s_np A → wf_p A p) ∧ (∀ q, q < s_nq A → wf_q A q) ∧ (∀ t, t < 3 → wf_j (A 73 t)) ∧ (∀ i, i < s_tp A → am_rg (A 74 i) 256) ∧ (∀ t, t < s_nt A → wf_t A t) ∧ wf_i A ∧ ∀ s, s < 4 → wf_s A s
theorem wf_np {A : am_S} (h : wf_A A) : A 65 0 = nI (s_np A) := h.1.1
theorem wf_np7 {A : am_S} (h : wf_A A) : s_np A ≤ 7 := h.1.2
theorem wf_nq {A : am_S} (h : wf_A A) : A 65 6 = nI (s_nq A) := h.2.1.1
theorem wf_nq8 {A : am_S} (h : wf_A A) : s_nq A ≤ 8 := h.2.1.2
theorem wf_tp {A : am_S} (h : wf_A A) : A 65 11 = nI (s_tp A) := h.2.2.1.1
theorem wf_tp160 {A : am_S} (h : wf_A A) : s_tp A ≤ 160 := h.2.2.1.2
theorem wf_nt {A : am_S} (h : wf_A A) : A 65 14 = nI (s_nt A) := h.2.2.2.1.1
theorem wf_nt1 {A : am_S} (h : wf_A A) : 1 ≤ s_nt A := h.2.2.2.1.2.1
theorem wf_nt6 {A : am_S} (h : wf_A A) : s_nt A ≤ 6 := h.2.2.2.1.2.2
theorem wf_rl {A : am_S} (h : wf_A A) : A 65 15 = nI (s_rl A) := h.2.2.2.2.1.1
theorem wf_rlt {A : am_S} (h : wf_A A) : s_rl A < s_nt A := h.2.2.2.2.1.2
theorem wf_pp {A : am_S} (h : wf_A A) : ∀ p, p < s_np A → wf_p A p := h.2.2.2.2.2.1
theorem wf_qq {A : am_S} (h : wf_A A) : ∀ q, q < s_nq A → wf_q A q := h.2.2.2.2.2.2.1
theorem wf_jj {A : am_S} (h : wf_A A) : ∀ t, t < 3 → wf_j (A 73 t) := h.2.2.2.2.2.2.2.1
theorem wf_by {A : am_S} (h : wf_A A) : ∀ i, i < s_tp A → am_rg (A 74 i) 256 := h.2.2.2.2.2.2.2.2.1
theorem wf_tt {A : am_S} (h : wf_A A) : ∀ t, t < s_nt A → wf_t A t := h.2.2.2.2.2.2.2.2.2.1
theorem wf_ii {A : am_S} (h : wf_A A) : wf_i A := h.2.2.2.2.2.2.2.2.2.2.1
theorem wf_ss {A : am_S} (h : wf_A A) : ∀ s, s < 4 → wf_s A s := h.2.2.2.2.2.2.2.2.2.2.2
/-- the reference's answer: the abstract state stays, or becomes B -/
def am_qM (A : am_S) (v : Value) (σ0 : am_M) : Option Value → am_M → Prop := fun r σ' => r = some v ∧ iv_M A σ' ∧ fr_M σ0 σ'
def am_zM (c : Prop) (A : am_S) (σ0 : am_M) : Option Value → am_M → Prop := fun r σ' => (c ∧ r = some (.int 1) ∧ iv_M A σ' ∧ fr_M σ0 σ') ∨ (¬ c ∧ r = some (.int 0) ∧ iv_M A σ' ∧ fr_M σ0 σ')
