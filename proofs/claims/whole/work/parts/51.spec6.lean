/-! answers: images, sheets, copies, triples; feeding -/
def s_cpy (A : am_S) (a b : Nat) : Nat → am_S
  | 0 => A
  | n + 1 => am_up (s_cpy A a b n) b n (A a n)
theorem s_cpy_x {A : am_S} {a b c k : Nat} (h : c ≠ b) : ∀ {n : Nat}, s_cpy A a b n c k = A c k
  | 0 => rfl
  | n + 1 => (am_ua h).trans (s_cpy_x h)
theorem s_cpy_b {A : am_S} {a b k : Nat} : ∀ {n : Nat}, s_cpy A a b n b k = if k < n then A a k else A b k := by
  intro n
  induction n with
  | zero => rw [if_neg (Nat.not_lt_zero k)]; rfl
  | succ n ih =>
    show am_up (s_cpy A a b n) b n (A a n) b k = _
    by_cases e : k = n
    · subst e
      rw [am_us, if_pos (Nat.lt_succ_self k)]
    · rw [am_uk e, ih]
      by_cases h : k < n
      · rw [if_pos h, if_pos (by omega)]
      · rw [if_neg h, if_neg (by omega)]
def s_i0 (A : am_S) : am_S := am_up (am_up (am_up (am_up A 65 16 1) 65 17 (A 65 0)) 65 18 (A 65 6)) 65 19 (A 65 15)
def s_im (A : am_S) : am_S := s_cpy (s_cpy (s_cpy (s_i0 A) 69 77 7) 70 78 28) 73 79 3
def sp_image (A : am_S) : Int32 × am_S := (A 65 0, s_im A)
def s_b0 (A : am_S) : am_S := am_up (am_up (am_up A 65 0 (A 65 17)) 65 6 (A 65 18)) 65 15 (A 65 19)
def s_bk (A : am_S) : am_S := s_cpy (s_cpy (s_cpy (s_b0 A) 77 69 7) 78 70 28) 79 73 3
def sp_back (A : am_S) : Int32 × am_S := if A 65 16 = 0 then (-3, A) else (A 65 17, s_bk A)
/-- a sheet begins anew -/
def s_s0 (A : am_S) (s : Nat) : Nat → am_S
  | 0 => A
  | n + 1 => am_up (s_s0 A s n) 82 (40 * s + n) 0
def sp_sheet (A : am_S) (s b n : Int32) : Int32 × am_S := if am_in s 4 && am_sb b && (decide (b = -1) || decide (n ≤ 40)) then (if b ≠ -1 ∧ n < 0 then (-14, A) else (1, s_s0 (am_up (am_up A 80 (sN s) b) 81 (sN s) (if b = -1 then 0 else n)) (sN s) 40)) else (-2, A)
def s_cast (k v : Int32) : Int32 := if k = 0 then v.toInt8.toInt32 else if k = 1 then v.toInt16.toInt32 else v
def sp_cell (A : am_S) (s i v : Int32) : Int32 × am_S := if am_in s 4 then (if A 80 (sN s) = -1 then (-11, A) else if am_in i (sN (A 81 (sN s))) then (1, am_up A 82 (40 * sN s + sN i) (s_cast (A 80 (sN s)) v)) else (-12, A)) else (-2, A)
/-- n cells from src on go to dst on -/
def s_mv (A : am_S) (src dst n : Nat) : am_S := fun a x => if a = 82 ∧ dst ≤ x ∧ x < dst + n then A 82 (src + (x - dst)) else A a x
def s_row (A : am_S) (s : Nat) (i n : Int32) : Bool := decide (0 ≤ i) && (decide (0 ≤ n) && decide (i ≤ A 81 s - n))
def sp_copy (A : am_S) (s i o j n : Int32) : Int32 × am_S := if am_in s 4 && am_in o 4 then (if A 80 (sN s) = -1 ∨ A 80 (sN o) = -1 then (-11, A) else if A 80 (sN s) ≠ A 80 (sN o) then (-13, A) else if s_row A (sN s) i n && s_row A (sN o) j n then (n, s_mv A (40 * sN s + sN i) (40 * sN o + sN j) (sN n)) else (-12, A)) else (-2, A)
/-- triples: how many became, and the state; none once one stands outside -/
def s_tr (A : am_S) (s f : Nat) : Nat → Nat × am_S
  | 0 => (0, A)
  | i + 1 => ((s_tr A s f i).1 + (if 0 ≤ (sp_learn (s_tr A s f i).2 (A 82 (40 * s + (f + 3 * i))) (A 82 (40 * s + (f + 3 * i) + 1)) (A 82 (40 * s + (f + 3 * i) + 2))).1 then 1 else 0), (sp_learn (s_tr A s f i).2 (A 82 (40 * s + (f + 3 * i))) (A 82 (40 * s + (f + 3 * i) + 1)) (A 82 (40 * s + (f + 3 * i) + 2))).2)
/-- how many triples stand inside, of n -/
def s_ti (sz f n : Nat) : Nat := min n (if f ≤ sz then (sz - f) / 3 else 0)
def sp_depthsBy (A : am_S) (s b f n : Int32) : Int32 × am_S := if am_in s 4 && (am_in b 3 && am_in n 13) then (if A 80 (sN s) = -1 then (-11, A) else if A 80 (sN s) ≠ b then (-13, A) else if n = 0 then (0, A) else if f < 0 then (-12, A) else (if s_ti (sN (A 81 (sN s))) (sN f) (sN n) = sN n then nI (s_tr A (sN s) (sN f) (sN n)).1 else -12, (s_tr A (sN s) (sN f) (s_ti (sN (A 81 (sN s))) (sN f) (sN n))).2)) else (-2, A)
/-- bytes onto the tape -/
def s_fb (a b c d e : Int32) : Nat → Int32 := fun k => match k with
  | 0 => a
  | 1 => b
  | 2 => c
  | 3 => d
  | _ => e
def s_fd (A : am_S) (g : Nat → Int32) : Nat → am_S
  | 0 => A
  | k + 1 => am_up (am_up (s_fd A g k) 74 (s_tp A + k) (g k)) 65 11 (nI (s_tp A + k + 1))
def sp_feed (A : am_S) (n a b c d e : Int32) : Int32 × am_S := if (decide (1 ≤ n) && decide (n ≤ 5)) && (am_in a 256 && (am_in b 256 && (am_in c 256 && (am_in d 256 && am_in e 256)))) then (if 160 < s_tp A + sN n then (-4, A) else (nI (s_tp A + sN n), s_fd A (s_fb a b c d e) (sN n))) else (-2, A)
theorem s_i0_x {A : am_S} {a k : Nat} (h : ¬ (a = 65 ∧ 16 ≤ k ∧ k ≤ 19)) : s_i0 A a k = A a k := by
  unfold s_i0
  rw [am_un (by omega), am_un (by omega), am_un (by omega), am_un (by omega)]
theorem s_b0_x {A : am_S} {a k : Nat} (h : ¬ (a = 65 ∧ (k = 0 ∨ k = 6 ∨ k = 15))) : s_b0 A a k = A a k := by
  unfold s_b0
  rw [am_un (by omega), am_un (by omega), am_un (by omega)]
theorem s_im_x {A : am_S} {a k : Nat} (h1 : a ≠ 77) (h2 : a ≠ 78) (h3 : a ≠ 79) : s_im A a k = s_i0 A a k := by
  unfold s_im
  rw [s_cpy_x h3, s_cpy_x h2, s_cpy_x h1]
theorem s_bk_x {A : am_S} {a k : Nat} (h1 : a ≠ 69) (h2 : a ≠ 70) (h3 : a ≠ 73) : s_bk A a k = s_b0 A a k := by
  unfold s_bk
  rw [s_cpy_x h3, s_cpy_x h2, s_cpy_x h1]
theorem s_im_77 {A : am_S} {k : Nat} (h : k < 7) : s_im A 77 k = A 69 k := by
  unfold s_im
  rw [s_cpy_x (by decide), s_cpy_x (by decide), s_cpy_b, if_pos h, s_i0_x (by omega)]
theorem s_im_78 {A : am_S} {k : Nat} (h : k < 28) : s_im A 78 k = A 70 k := by
  unfold s_im
  rw [s_cpy_x (by decide), s_cpy_b, if_pos h, s_cpy_x (by decide), s_i0_x (by omega)]
theorem s_im_79 {A : am_S} {k : Nat} (h : k < 3) : s_im A 79 k = A 73 k := by
  unfold s_im
  rw [s_cpy_b, if_pos h, s_cpy_x (by decide), s_cpy_x (by decide), s_i0_x (by omega)]
theorem s_bk_69 {A : am_S} {k : Nat} (h : k < 7) : s_bk A 69 k = A 77 k := by
  unfold s_bk
  rw [s_cpy_x (by decide), s_cpy_x (by decide), s_cpy_b, if_pos h, s_b0_x (by omega)]
theorem s_bk_70 {A : am_S} {k : Nat} (h : k < 28) : s_bk A 70 k = A 78 k := by
  unfold s_bk
  rw [s_cpy_x (by decide), s_cpy_b, if_pos h, s_cpy_x (by decide), s_b0_x (by omega)]
theorem s_bk_73 {A : am_S} {k : Nat} (h : k < 3) : s_bk A 73 k = A 79 k := by
  unfold s_bk
  rw [s_cpy_b, if_pos h, s_cpy_x (by decide), s_cpy_x (by decide), s_b0_x (by omega)]
theorem wf_im {A : am_S} (h : wf_A A) : wf_A (s_im A) := by
  have e : ∀ a k, a ≠ 65 → a ≠ 77 → a ≠ 78 → a ≠ 79 → s_im A a k = A a k := fun a k h0 h1 h2 h3 => (s_im_x h1 h2 h3).trans (s_i0_x (fun z => h0 z.1))
  have e5 : ∀ k, ¬ (16 ≤ k ∧ k ≤ 19) → s_im A 65 k = A 65 k := fun k h0 => (s_im_x (by decide) (by decide) (by decide)).trans (s_i0_x (fun z => h0 z.2))
  have e6 : s_im A 65 16 = 1 ∧ s_im A 65 17 = A 65 0 ∧ s_im A 65 18 = A 65 6 ∧ s_im A 65 19 = A 65 15 := by
    refine ⟨?_, ?_, ?_, ?_⟩ <;> rw [s_im_x (by decide) (by decide) (by decide)] <;> rfl
  have e2 : ∀ a, a ≠ 65 → a ≠ 77 → a ≠ 78 → a ≠ 79 → s_im A a = A a := fun a h0 h1 h2 h3 => funext fun k => e a k h0 h1 h2 h3
  obtain ⟨h1, h2, h3, h4, h5, h6, h7, h8, h9, h10, h11, h12⟩ := h
  have n0 : s_np (s_im A) = s_np A := congrArg sN (e5 0 (by decide))
  have n1 : s_nq (s_im A) = s_nq A := congrArg sN (e5 6 (by decide))
  have n2 : s_tp (s_im A) = s_tp A := congrArg sN (e5 11 (by decide))
  have n3 : s_nt (s_im A) = s_nt A := congrArg sN (e5 14 (by decide))
  have n4 : s_rl (s_im A) = s_rl A := congrArg sN (e5 15 (by decide))
  unfold wf_A
  rw [n0, n1, n2, n3, n4]
  refine ⟨⟨(e5 0 (by decide)).trans h1.1, h1.2⟩, ⟨(e5 6 (by decide)).trans h2.1, h2.2⟩, ⟨(e5 11 (by decide)).trans h3.1, h3.2⟩, ⟨(e5 14 (by decide)).trans h4.1, h4.2⟩, ⟨(e5 15 (by decide)).trans h5.1, h5.2⟩, fun x hx => ?_, fun q hq => ?_, fun t ht => ?_, fun i hi => ?_, fun t ht => ?_, ?_, fun s hs => ?_⟩
  · unfold wf_p; rw [e2 66 (by decide) (by decide) (by decide) (by decide), e2 67 (by decide) (by decide) (by decide) (by decide), e2 68 (by decide) (by decide) (by decide) (by decide), e2 69 (by decide) (by decide) (by decide) (by decide), e2 70 (by decide) (by decide) (by decide) (by decide)]; exact h6 x hx
  · unfold wf_q; rw [e2 71 (by decide) (by decide) (by decide) (by decide), e2 72 (by decide) (by decide) (by decide) (by decide)]; exact h7 q hq
  · rw [e2 73 (by decide) (by decide) (by decide) (by decide)]; exact h8 t ht
  · rw [e2 74 (by decide) (by decide) (by decide) (by decide)]; exact h9 i hi
  · unfold wf_t s_cs s_st s_sl; rw [e2 75 (by decide) (by decide) (by decide) (by decide), e2 76 (by decide) (by decide) (by decide) (by decide)]; exact h10 t ht
  · unfold wf_i
    rw [n0, n1, n3, e6.1, e6.2.1, e6.2.2.1, e6.2.2.2]
    refine Or.inr ⟨rfl, ⟨s_np A, h1.1, Nat.le_refl _⟩, ⟨s_nq A, h2.1, Nat.le_refl _⟩, ⟨s_rl A, h5.1, h5.2⟩, fun p hp => ?_, fun t ht => ?_⟩
    · have hp2 : p < s_np A := hp
      have h17 := h1.2
      refine ⟨?_, fun j hj => ?_⟩
      · rw [s_im_77 (by omega)]; exact (h6 p hp2).2.2.2.1
      · rw [s_im_78 (by omega)]; exact (h6 p hp2).2.2.2.2 j hj
    · rw [s_im_79 ht]; exact h8 t ht
  · unfold wf_s; rw [e2 80 (by decide) (by decide) (by decide) (by decide), e2 81 (by decide) (by decide) (by decide) (by decide)]; exact h12 s hs
theorem wf_bk {A : am_S} (h : wf_A A) (hz : ¬ A 65 16 = 0) : wf_A (s_bk A) := by
  have e : ∀ a k, a ≠ 65 → a ≠ 69 → a ≠ 70 → a ≠ 73 → s_bk A a k = A a k := fun a k h0 h1 h2 h3 => (s_bk_x h1 h2 h3).trans (s_b0_x (fun z => h0 z.1))
  have e5 : ∀ k, ¬ (k = 0 ∨ k = 6 ∨ k = 15) → s_bk A 65 k = A 65 k := fun k h0 => (s_bk_x (by decide) (by decide) (by decide)).trans (s_b0_x (fun z => h0 z.2))
  have e6 : s_bk A 65 0 = A 65 17 ∧ s_bk A 65 6 = A 65 18 ∧ s_bk A 65 15 = A 65 19 := by
    refine ⟨?_, ?_, ?_⟩ <;> rw [s_bk_x (by decide) (by decide) (by decide)] <;> rfl
  have e2 : ∀ a, a ≠ 65 → a ≠ 69 → a ≠ 70 → a ≠ 73 → s_bk A a = A a := fun a h0 h1 h2 h3 => funext fun k => e a k h0 h1 h2 h3
  obtain ⟨h1, h2, h3, h4, h5, h6, h7, h8, h9, h10, h11, h12⟩ := h
  obtain ⟨g1, ⟨n, g2, g3⟩, ⟨q, g4, g5⟩, ⟨t, g6, g7⟩, g8, g9⟩ := h11.resolve_left hz
  have a7 := h1.2
  have a8 := h2.2
  have a6 := h4.2.2
  have n0 : s_np (s_bk A) = n := (congrArg sN (e6.1.trans g2)).trans (sN_n (by omega))
  have n1 : s_nq (s_bk A) = q := (congrArg sN (e6.2.1.trans g4)).trans (sN_n (by omega))
  have n2 : s_tp (s_bk A) = s_tp A := congrArg sN (e5 11 (by decide))
  have n3 : s_nt (s_bk A) = s_nt A := congrArg sN (e5 14 (by decide))
  have n4 : s_rl (s_bk A) = t := (congrArg sN (e6.2.2.trans g6)).trans (sN_n (by omega))
  rw [g2, sN_n (show n < 2 ^ 31 by omega)] at g8
  unfold wf_A
  rw [n0, n1, n2, n3, n4]
  refine ⟨⟨e6.1.trans g2, by omega⟩, ⟨e6.2.1.trans g4, by omega⟩, ⟨(e5 11 (by decide)).trans h3.1, h3.2⟩, ⟨(e5 14 (by decide)).trans h4.1, h4.2⟩, ⟨e6.2.2.trans g6, g7⟩, fun x hx => ?_, fun y hy => ?_, fun y hy => ?_, fun i hi => ?_, fun y hy => ?_, ?_, fun s hs => ?_⟩
  · obtain ⟨f1, f2, f3, -, -⟩ := h6 x (by omega)
    unfold wf_p
    rw [e2 66 (by decide) (by decide) (by decide) (by decide), e2 67 (by decide) (by decide) (by decide) (by decide), e2 68 (by decide) (by decide) (by decide) (by decide), s_bk_69 (by omega)]
    refine ⟨f1, f2, f3, (g8 x hx).1, fun j hj => ?_⟩
    rw [s_bk_70 (by omega)]
    exact (g8 x hx).2 j hj
  · unfold wf_q; rw [e2 71 (by decide) (by decide) (by decide) (by decide), e2 72 (by decide) (by decide) (by decide) (by decide)]; exact h7 y (by omega)
  · rw [s_bk_73 hy]; exact g9 y hy
  · rw [e2 74 (by decide) (by decide) (by decide) (by decide)]; exact h9 i hi
  · unfold wf_t s_cs s_st s_sl; rw [e2 75 (by decide) (by decide) (by decide) (by decide), e2 76 (by decide) (by decide) (by decide) (by decide)]; exact h10 y hy
  · unfold wf_i
    rw [n0, n1, n3, e5 16 (by decide), e5 17 (by decide), e5 18 (by decide), e5 19 (by decide), e2 77 (by decide) (by decide) (by decide) (by decide), e2 78 (by decide) (by decide) (by decide) (by decide), e2 79 (by decide) (by decide) (by decide) (by decide)]
    refine Or.inr ⟨g1, ⟨n, g2, Nat.le_refl _⟩, ⟨q, g4, Nat.le_refl _⟩, ⟨t, g6, g7⟩, ?_, g9⟩
    rw [g2, sN_n (show n < 2 ^ 31 by omega)]
    exact g8
  · unfold wf_s; rw [e2 80 (by decide) (by decide) (by decide) (by decide), e2 81 (by decide) (by decide) (by decide) (by decide)]; exact h12 s hs
theorem s_mv0 {A : am_S} {src dst : Nat} : s_mv A src dst 0 = A := by
  funext a x
  exact if_neg (by omega)
/-- forward: the cell behind the first k -/
theorem s_mvF {A : am_S} {src dst k : Nat} : am_up (s_mv A src dst k) 82 (dst + k) (A 82 (src + k)) = s_mv A src dst (k + 1) := by
  funext a x
  by_cases e : a = 82 ∧ x = dst + k
  · obtain ⟨rfl, rfl⟩ := e
    rw [am_us]
    unfold s_mv
    rw [if_pos ⟨rfl, by omega, by omega⟩, Nat.add_sub_cancel_left]
  · rw [am_un e]
    unfold s_mv
    by_cases e3 : a = 82 ∧ dst ≤ x ∧ x < dst + k
    · rw [if_pos e3, if_pos ⟨e3.1, e3.2.1, by omega⟩]
    · rw [if_neg e3, if_neg (by omega)]
theorem s_mvFr {A : am_S} {src dst k x : Nat} (h : x < dst ∨ dst + k ≤ x) : s_mv A src dst k 82 x = A 82 x := if_neg (by omega)
/-- backward: the cell ahead of the last k of n -/
theorem s_mvB {A : am_S} {src dst k n : Nat} (h : k < n) : am_up (s_mv A (src + (n - k)) (dst + (n - k)) k) 82 (dst + (n - 1 - k)) (A 82 (src + (n - 1 - k))) = s_mv A (src + (n - (k + 1))) (dst + (n - (k + 1))) (k + 1) := by
  have e0 : n - (k + 1) = n - 1 - k := by omega
  rw [e0]
  funext a x
  by_cases e : a = 82 ∧ x = dst + (n - 1 - k)
  · obtain ⟨rfl, rfl⟩ := e
    rw [am_us]
    unfold s_mv
    rw [if_pos ⟨rfl, by omega, by omega⟩, Nat.sub_self, Nat.add_zero]
  · rw [am_un e]
    unfold s_mv
    by_cases e3 : a = 82 ∧ dst + (n - k) ≤ x ∧ x < dst + (n - k) + k
    · rw [if_pos e3, if_pos ⟨e3.1, by omega, by omega⟩]
      congr 1
      omega
    · rw [if_neg e3, if_neg (by omega)]
theorem wf_mv {A : am_S} {src dst n : Nat} (h : wf_A A) : wf_A (s_mv A src dst n) := by
  have e2 : ∀ a, a ≠ 82 → s_mv A src dst n a = A a := fun a ha => funext fun k => if_neg (fun z => ha z.1)
  have e : ∀ a k, a ≠ 82 → s_mv A src dst n a k = A a k := fun a k ha => if_neg (fun z => ha z.1)
  unfold wf_A s_np s_nq s_tp s_nt s_rl wf_p wf_q wf_t s_cs s_st s_sl wf_i wf_s s_np s_nq s_nt
  rw [e2 65 (by decide), e2 66 (by decide), e2 67 (by decide), e2 68 (by decide), e2 69 (by decide), e2 70 (by decide), e2 71 (by decide), e2 72 (by decide), e2 73 (by decide), e2 74 (by decide), e2 75 (by decide), e2 76 (by decide), e2 77 (by decide), e2 78 (by decide), e2 79 (by decide), e2 80 (by decide), e2 81 (by decide)]
  exact h
theorem wf_s0 {A : am_S} {s : Nat} (h : wf_A A) : ∀ n, wf_A (s_s0 A s n)
  | 0 => h
  | n + 1 => wf_82 (wf_s0 h n)
