/-! THE PARSER, pure: tokens -/
def lx_run (p : Int32 → Bool) (b : Nat → Int32) : Nat → Nat → Nat
  | 0, a => a
  | m + 1, a => if p (b a) then lx_run p b m (a + 1) else a
theorem lx_run_le {p : Int32 → Bool} {b : Nat → Int32} : ∀ {m a : Nat}, lx_run p b m a ≤ a + m := by
  intro m
  induction m with
  | zero => intro a; exact Nat.le_refl _
  | succ m ih =>
    intro a
    show (if p (b a) then lx_run p b m (a + 1) else a) ≤ _
    have := ih (a := a + 1)
    split <;> omega
theorem lx_run_ge {p : Int32 → Bool} {b : Nat → Int32} : ∀ {m a : Nat}, a ≤ lx_run p b m a := by
  intro m
  induction m with
  | zero => intro a; exact Nat.le_refl _
  | succ m ih =>
    intro a
    show a ≤ (if p (b a) then lx_run p b m (a + 1) else a)
    have := ih (a := a + 1)
    split <;> omega
theorem lx_run_in {p : Int32 → Bool} {b : Nat → Int32} : ∀ {m a k : Nat}, a ≤ k → k < lx_run p b m a → p (b k) = true := by
  intro m
  induction m with
  | zero => intro a k h1 h2; exact absurd h2 (by show ¬ k < a; omega)
  | succ m ih =>
    intro a k h1 h2
    have e : lx_run p b (m + 1) a = if p (b a) then lx_run p b m (a + 1) else a := rfl
    cases hp : p (b a) with
    | true =>
      rw [e, hp, if_pos rfl] at h2
      by_cases q : k = a
      · subst q; exact hp
      · exact ih (by omega) h2
    | false =>
      rw [e, hp, if_neg (by decide)] at h2
      omega
/-- a step of such a run, in a stretch that ends at n -/
theorem lx_runS {p : Int32 → Bool} {b : Nat → Int32} {n a : Nat} (h : a < n) (hp : p (b a) = true) : lx_run p b (n - a) a = lx_run p b (n - (a + 1)) (a + 1) := by
  rw [show n - a = (n - (a + 1)) + 1 by omega]
  exact if_pos hp
theorem lx_runE {p : Int32 → Bool} {b : Nat → Int32} {n a : Nat} (hp : p (b a) = false) : lx_run p b (n - a) a = a := by
  rcases Nat.lt_or_ge a n with h | h
  · rw [show n - a = (n - (a + 1)) + 1 by omega]
    exact if_neg (by rw [hp]; decide)
  · rw [show n - a = 0 by omega]
    rfl
theorem lx_run0 {p : Int32 → Bool} {b : Nat → Int32} {n a : Nat} (h : n ≤ a) : lx_run p b (n - a) a = a := by
  rw [show n - a = 0 by omega]
  rfl
def lx_bl (x : Int32) : Bool := decide (x = 32) || decide (x = 10)
def lx_le (x : Int32) : Bool := decide (97 ≤ x) && decide (x ≤ 122)
def lx_di (x : Int32) : Bool := decide (48 ≤ x) && decide (x ≤ 57)
/-- the words, eight letters each, filled up with blanks -/
def lx_ws : List Nat := [119, 101, 105, 103, 104, 116, 32, 32, 112, 111, 105, 110, 116, 115, 32, 32, 104, 105, 114, 101, 115, 32, 32, 32, 100, 101, 112, 116, 104, 32, 32, 32, 97, 115, 107, 101, 100, 32, 32, 32, 108, 111, 117, 100, 32, 32, 32, 32, 116, 111, 112, 105, 99, 32, 32, 32, 114, 111, 117, 110, 100, 32, 32, 32, 119, 104, 111, 32, 32, 32, 32, 32, 111, 114, 32, 32, 32, 32, 32, 32, 97, 110, 100, 32, 32, 32, 32, 32, 110, 111, 116, 32, 32, 32, 32, 32]
def lx_W (i : Nat) : Int32 := nI (lx_ws.getD i 0)
def lx_ma (b : Nat → Int32) (p q w : Nat) : Nat → Bool
  | 0 => true
  | i + 1 => lx_ma b p q w i && decide (lx_W (8 * w + i) = if p + i < q then b (p + i) else 32)
def lx_m (b : Nat → Int32) (p q w : Nat) : Bool := decide (q - p ≤ 8) && lx_ma b p q w 8
def lx_wf (b : Nat → Int32) (p q : Nat) : Nat → Nat → Nat
  | 0, _ => 12
  | m + 1, w => if lx_m b p q w then w else lx_wf b p q m (w + 1)
def lx_wi (b : Nat → Int32) (p q : Nat) : Nat := lx_wf b p q 12 0
def lx_tw (w : Nat) : Int32 := if w < 3 then -19 - nI w else if w < 9 then -1 - nI (w - 3) else if w = 12 then -23 else -7 - nI (w - 9)
def lx_v (b : Nat → Int32) (p : Nat) : Nat → Nat
  | 0 => 0
  | k + 1 => 10 * lx_v b p k + (sN (b (p + k)) - 48)
abbrev lx_T : Type := Int32 × Nat × Nat
def lx_at (b : Nat → Int32) (n p : Nat) : lx_T := if n ≤ p then (-22, p, p) else if lx_le (b p) then (lx_tw (lx_wi b p (lx_run lx_le b (n - p) p)), p, lx_run lx_le b (n - p) p) else if lx_di (b p) then (if lx_run lx_di b (n - p) p - p ≤ 4 then nI (lx_v b p (lx_run lx_di b (n - p) p - p)) else -23, p, lx_run lx_di b (n - p) p) else (s_sg (b p), p, p + 1)
def lx_nx (b : Nat → Int32) (n a : Nat) : lx_T := lx_at b n (lx_run lx_bl b (n - a) a)
/-- a token that may stand -/
def lx_ok (n : Nat) (t : lx_T) : Prop := t.2.1 ≤ n ∧ t.2.2 ≤ n ∧ t.2.1 ≤ t.2.2 ∧ (t.1 ≠ -22 → t.2.1 < t.2.2)
theorem lx_at_pl {b : Nat → Int32} {n p : Nat} : (lx_at b n p).2.1 = p := by
  unfold lx_at
  split
  · rfl
  · split
    · rfl
    · split <;> rfl
theorem lx_at_ok {b : Nat → Int32} {n p : Nat} (h : p ≤ n) : lx_ok n (lx_at b n p) := by
  unfold lx_at
  by_cases h1 : n ≤ p
  · rw [if_pos h1]
    exact ⟨h, h, Nat.le_refl _, fun z => absurd rfl z⟩
  · rw [if_neg h1]
    cases h2 : lx_le (b p) with
    | true =>
      rw [if_pos rfl]
      have e := lx_runS (n := n) (by omega) h2
      have g1 := lx_run_le (p := lx_le) (b := b) (m := n - p) (a := p)
      have g2 := lx_run_ge (p := lx_le) (b := b) (m := n - (p + 1)) (a := p + 1)
      refine ⟨?_, ?_, ?_, fun _ => ?_⟩
      · show p ≤ n; omega
      · show lx_run lx_le b (n - p) p ≤ n; omega
      · show p ≤ lx_run lx_le b (n - p) p; omega
      · show p < lx_run lx_le b (n - p) p; omega
    | false =>
      rw [if_neg (by decide)]
      cases h3 : lx_di (b p) with
      | true =>
        rw [if_pos rfl]
        have e := lx_runS (n := n) (by omega) h3
        have g1 := lx_run_le (p := lx_di) (b := b) (m := n - p) (a := p)
        have g2 := lx_run_ge (p := lx_di) (b := b) (m := n - (p + 1)) (a := p + 1)
        refine ⟨?_, ?_, ?_, fun _ => ?_⟩
        · show p ≤ n; omega
        · show lx_run lx_di b (n - p) p ≤ n; omega
        · show p ≤ lx_run lx_di b (n - p) p; omega
        · show p < lx_run lx_di b (n - p) p; omega
      | false =>
        rw [if_neg (by decide)]
        refine ⟨?_, ?_, ?_, fun _ => ?_⟩
        · show p ≤ n; omega
        · show p + 1 ≤ n; omega
        · show p ≤ p + 1; omega
        · show p < p + 1; omega
theorem lx_nx_ok {b : Nat → Int32} {n a : Nat} (h : a ≤ n) : lx_ok n (lx_nx b n a) := by
  have := lx_run_le (p := lx_bl) (b := b) (m := n - a) (a := a)
  exact lx_at_ok (by omega)
theorem lx_nx_ge {b : Nat → Int32} {n a : Nat} : a ≤ (lx_nx b n a).2.1 := by
  unfold lx_nx
  rw [lx_at_pl]
  exact lx_run_ge
/-! recursive descent -/
abbrev lx_F : Type := Bool × List Int32 × lx_T
def rd_cd (s : Int32) : Int32 := if 0 ≤ s then 100000 + s else if -6 ≤ s then -1 - s else 4 - s
def rd_one (k0 : Bool) (sE sO : lx_T → lx_F) (nx : Nat → lx_T) (t : lx_T) : lx_F :=
  if -6 ≤ t.1 then (true, [rd_cd t.1], nx t.2.2)
  else if (t.1 ≠ -13 ∧ t.1 ≠ -16) ∨ k0 = false then (false, [], t)
  else if t.1 = -16 then (if (sE (nx t.2.2)).1 = false ∨ (sE (nx t.2.2)).2.2.1 ≠ -17 then (false, [], (sE (nx t.2.2)).2.2) else (true, (sE (nx t.2.2)).2.1, nx (sE (nx t.2.2)).2.2.2.2))
  else (if (sO (nx t.2.2)).1 then (true, (sO (nx t.2.2)).2.1 ++ [19], (sO (nx t.2.2)).2.2) else (false, [], (sO (nx t.2.2)).2.2))
def rd_lp (op : Int32 → Bool) (sub : lx_T → lx_F) (nx : Nat → lx_T) : Nat → List Int32 → lx_T → lx_F
  | 0, l, t => (true, l, t)
  | f + 1, l, t => if op t.1 then (if (sub (nx t.2.2)).1 then rd_lp op sub nx f (l ++ (sub (nx t.2.2)).2.1 ++ [rd_cd t.1]) (sub (nx t.2.2)).2.2 else (false, [], (sub (nx t.2.2)).2.2)) else (true, l, t)
def rd_ch (op : Int32 → Bool) (sub : lx_T → lx_F) (nx : Nat → lx_T) (t : lx_T) : lx_F := if (sub t).1 then rd_lp op sub nx 160 (sub t).2.1 (sub t).2.2 else (false, [], (sub t).2.2)
def rd_not (k0 : Bool) (sN sum : lx_T → lx_F) (nx : Nat → lx_T) (t : lx_T) : lx_F :=
  if t.1 = -9 then (if k0 = false then (false, [], t) else if (sN (nx t.2.2)).1 then (true, (sN (nx t.2.2)).2.1 ++ [13], (sN (nx t.2.2)).2.2) else (false, [], (sN (nx t.2.2)).2.2))
  else if (sum t).1 = false then (false, [], (sum t).2.2)
  else if (sum t).2.2.1 ≠ -10 ∧ (sum t).2.2.1 ≠ -11 then (true, (sum t).2.1, (sum t).2.2)
  else if (sum (nx (sum t).2.2.2.2)).1 then (true, (sum t).2.1 ++ (sum (nx (sum t).2.2.2.2)).2.1 ++ [rd_cd (sum t).2.2.1], (sum (nx (sum t).2.2.2.2)).2.2) else (false, [], (sum (nx (sum t).2.2.2.2)).2.2)
def op_m (x : Int32) : Bool := decide (x = -14)
def op_p (x : Int32) : Bool := decide (x = -12) || decide (x = -13)
def op_a (x : Int32) : Bool := decide (x = -8)
def op_o (x : Int32) : Bool := decide (x = -7)
def rd_O (nx : Nat → lx_T) (k0 : Bool) (s : (lx_T → lx_F) × (lx_T → lx_F) × (lx_T → lx_F)) : lx_T → lx_F := rd_one k0 s.2.2 s.1 nx
def rd_S (nx : Nat → lx_T) (k0 : Bool) (s : (lx_T → lx_F) × (lx_T → lx_F) × (lx_T → lx_F)) : lx_T → lx_F := rd_ch op_p (rd_ch op_m (rd_O nx k0 s) nx) nx
def rd_N (nx : Nat → lx_T) (k0 : Bool) (s : (lx_T → lx_F) × (lx_T → lx_F) × (lx_T → lx_F)) : lx_T → lx_F := rd_not k0 s.2.1 (rd_S nx k0 s) nx
def rd_E (nx : Nat → lx_T) (k0 : Bool) (s : (lx_T → lx_F) × (lx_T → lx_F) × (lx_T → lx_F)) : lx_T → lx_F := rd_ch op_o (rd_ch op_a (rd_N nx k0 s) nx) nx
def rd_z : lx_T → lx_F := fun t => (false, [], t)
/-- one, not, E, with k that may still begin -/
def rd (nx : Nat → lx_T) : Nat → (lx_T → lx_F) × (lx_T → lx_F) × (lx_T → lx_F)
  | 0 => (rd_O nx false (rd_z, rd_z, rd_z), rd_N nx false (rd_z, rd_z, rd_z), rd_E nx false (rd_z, rd_z, rd_z))
  | k + 1 => (rd_O nx true (rd nx k), rd_N nx true (rd nx k), rd_E nx true (rd nx k))
/-- what holds of each part that is read: m is how much higher the pile grows -/
def rd_G (n m : Nat) (f : lx_T → lx_F) : Prop := ∀ t, lx_ok n t → lx_ok n (f t).2.2 ∧ t.2.1 ≤ (f t).2.2.2.1 ∧ ((f t).1 = true → (f t).2.1.length ≤ (f t).2.2.2.1 - t.2.1 ∧ 1 ≤ (f t).2.1.length ∧ ∀ d, d + m ≤ 32 → wf_d (f t).2.1 d = some (d + 1))
def rd_X (n : Nat) (nx : Nat → lx_T) : Prop := ∀ a, a ≤ n → lx_ok n (nx a) ∧ a ≤ (nx a).2.1
theorem wf_xC {c : Int32} {cs : List Int32} {d : Nat} : wf_d (c :: cs) d = (if wf_c c = false then none else if s_leaf c then (if d < 32 then wf_d cs (d + 1) else none) else if c = 13 ∨ c = 19 then (if 0 < d then wf_d cs d else none) else (if 2 ≤ d then wf_d cs (d - 1) else none)) := rfl
theorem wf_xA {cs ds : List Int32} : ∀ {d e : Nat}, wf_d cs d = some e → wf_d (cs ++ ds) d = wf_d ds e := by
  induction cs with
  | nil =>
    intro d e h
    have h2 : some d = some e := h
    cases h2
    rfl
  | cons c cs ih =>
    intro d e h
    show wf_d (c :: (cs ++ ds)) d = _
    rw [wf_xC] at h ⊢
    by_cases h1 : wf_c c = false
    · rw [if_pos h1] at h; cases h
    · rw [if_neg h1] at h ⊢
      by_cases h2 : s_leaf c = true
      · rw [if_pos h2] at h ⊢
        by_cases h3 : d < 32
        · rw [if_pos h3] at h ⊢; exact ih h
        · rw [if_neg h3] at h; cases h
      · rw [if_neg h2] at h ⊢
        by_cases h3 : c = 13 ∨ c = 19
        · rw [if_pos h3] at h ⊢
          by_cases h4 : 0 < d
          · rw [if_pos h4] at h ⊢; exact ih h
          · rw [if_neg h4] at h; cases h
        · rw [if_neg h3] at h ⊢
          by_cases h4 : 2 ≤ d
          · rw [if_pos h4] at h ⊢; exact ih h
          · rw [if_neg h4] at h; cases h
theorem wf_x2 {c : Int32} {d : Nat} (hc : c = 11 ∨ c = 12 ∨ c = 14 ∨ c = 15 ∨ c = 16 ∨ c = 17 ∨ c = 18) : wf_d [c] (d + 2) = some (d + 1) := by
  rw [wf_xC]
  have h1 : ¬ wf_c c = false := by rcases hc with rfl | rfl | rfl | rfl | rfl | rfl | rfl <;> decide
  have h2 : ¬ s_leaf c = true := by rcases hc with rfl | rfl | rfl | rfl | rfl | rfl | rfl <;> decide
  have h3 : ¬ (c = 13 ∨ c = 19) := by rcases hc with rfl | rfl | rfl | rfl | rfl | rfl | rfl <;> decide
  rw [if_neg h1, if_neg h2, if_neg h3, if_pos (by omega)]
  rfl
theorem wf_xU {c : Int32} {d : Nat} (hc : c = 13 ∨ c = 19) : wf_d [c] (d + 1) = some (d + 1) := by
  rw [wf_xC]
  have h1 : ¬ wf_c c = false := by rcases hc with rfl | rfl <;> decide
  have h2 : ¬ s_leaf c = true := by rcases hc with rfl | rfl <;> decide
  rw [if_neg h1, if_neg h2, if_pos hc, if_pos (by omega)]
  rfl
theorem wf_xF {c : Int32} {d : Nat} (hc : wf_c c = true) (hl : s_leaf c = true) (hd : d < 32) : wf_d [c] d = some (d + 1) := by
  rw [wf_xC, if_neg (by rw [hc]; decide), if_pos hl, if_pos hd]
  rfl
