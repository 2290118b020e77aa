/-! answers, II: those that change the state -/
def am_qP (x : Int32 × am_S) (σ0 : am_M) : Option Value → am_M → Prop := fun r σ' => r = some (.int x.1) ∧ iv_M x.2 σ' ∧ fr_M σ0 σ'
theorem am_qPi {x : Int32 × am_S} {v : Int32} {B : am_S} {σ0 σ' : am_M} (e : x = (v, B)) (hI : iv_M B σ') (hf : fr_M σ0 σ') : am_qP x σ0 (some (.int v)) σ' := by subst e; exact ⟨rfl, hI, hf⟩
/-- a table, or none -/
def am_sb (t : Int32) : Bool := decide (t = -1) || am_in t 3
theorem am_sbT {t : Int32} (h : -1 ≤ t ∧ t ≤ 2) : am_sb t = true := by
  unfold am_sb am_in
  rw [Int32.le_iff_toInt_le, Int32.le_iff_toInt_le] at h
  have e1 : (-1 : Int32).toInt = -1 := by decide
  have e2 : (2 : Int32).toInt = 2 := by decide
  rw [e1, e2] at h
  by_cases q : t = -1
  · simp [q]
  · have q2 : t.toInt ≠ -1 := fun z => q (Int32.toInt_inj.mp (by rw [z, e1]))
    simp
    omega
theorem am_sbF {t : Int32} (h : ¬ (-1 ≤ t ∧ t ≤ 2)) : am_sb t = false := by
  unfold am_sb am_in
  rw [Int32.le_iff_toInt_le, Int32.le_iff_toInt_le] at h
  have e1 : (-1 : Int32).toInt = -1 := by decide
  have e2 : (2 : Int32).toInt = 2 := by decide
  rw [e1, e2] at h
  have q : t ≠ -1 := by
    rintro rfl
    exact h (by decide)
  simp [q]
  omega
theorem am_sbR {t : Int32} : am_sb t = true ↔ (t = -1 ∨ am_rg t 3) := by
  unfold am_sb
  rw [Bool.or_eq_true, decide_eq_true_eq, am_inR (by decide)]
theorem am_sbN {t : Int32} (h : ¬ (t = -1 ∨ am_rg t 3)) : am_sb t = false := by
  cases e : am_sb t with
  | false => rfl
  | true => exact absurd (am_sbR.mp e) h
theorem am_rgl {x c : Int32} {n : Nat} (hc : c.toInt + 1 = n) : (0 ≤ x ∧ x ≤ c) ↔ am_rg x n := by
  have h1 := c.toInt_lt
  have e : (0 : Int32).toInt = 0 := rfl
  rcases Nat.lt_or_ge n (2 ^ 31) with hn | hn
  · rw [am_rgt hn, Int32.le_iff_toInt_le, Int32.le_iff_toInt_le, e]
    omega
  · constructor
    · intro h
      obtain ⟨j, hj, ej⟩ := nI_of (x := x) (Int32.not_lt.mpr h.1)
      exact ⟨j, by omega, ej⟩
    · rintro ⟨j, hj, rfl⟩
      rw [Int32.le_iff_toInt_le, Int32.le_iff_toInt_le, e]
      have hz := (nI j).toInt_lt
      have hj2 : j < 2 ^ 31 ∨ 2 ^ 31 ≤ j := Nat.lt_or_ge _ _
      rcases hj2 with q | q
      · rw [nI_toInt q]; omega
      · have : n = 2 ^ 31 := by omega
        omega
def sp_force (A : am_S) (t : Int32) : Int32 × am_S := if am_in t (s_nt A) then (A 65 15, am_up A 65 15 t) else (-2, A)
def sp_learn (A : am_S) (p i v : Int32) : Int32 × am_S := if am_in p (s_np A) then (if am_in i 4 && am_in v 10 then (A 70 (4 * sN p + sN i), am_up A 70 (4 * sN p + sN i) v) else (-7, A)) else (-5, A)
def sp_sit (A : am_S) (p t : Int32) : Int32 × am_S := if am_in p (s_np A) then (if am_sb t then (A 69 (sN p), am_up A 69 (sN p) t) else (-7, A)) else (-5, A)
def sp_told (A : am_S) (p w : Int32) : Int32 := if am_in p (s_np A) then (if am_in w 4 then A 70 (4 * sN p + sN w) else if w = 4 then A 69 (sN p) else if w = 5 then A 66 (sN p) else if w = 6 then A 67 (sN p) else if w = 7 then A 68 (sN p) else -7) else -5
def sp_question (A : am_S) (i d : Int32) : Int32 × am_S := if am_in i 4 && am_in d 10 then (if s_nq A = 8 then (-4, A) else (nI (s_nq A), am_up (am_up (am_up A 71 (s_nq A) i) 72 (s_nq A) d) 65 6 (nI (s_nq A + 1)))) else (-2, A)
def sp_askedOf (A : am_S) (q w : Int32) : Int32 := if am_in q (s_nq A) then (if w = 0 then A 71 (sN q) else if w = 1 then A 72 (sN q) else -7) else -5
def sp_lay (A : am_S) (t q : Int32) : Int32 × am_S := if am_in t 3 then (if q = -1 || am_in q (s_nq A) then (A 73 (sN t), am_up A 73 (sN t) q) else (-7, A)) else (-5, A)
def sp_laid (A : am_S) (t : Int32) : Int32 := if am_in t 3 then A 73 (sN t) else -5
/-- one more of people -/
def s_cm (A : am_S) (n : Nat) (km l a : Int32) : am_S := am_up (am_up (am_up (am_up (am_up (am_up (am_up (am_up (am_up A 66 n (km / 10)) 68 n (km - km / 10 * 10)) 67 n l) 69 n a) 70 (4 * n + 0) 0) 70 (4 * n + 1) 0) 70 (4 * n + 2) 0) 70 (4 * n + 3) 0) 65 0 (nI (n + 1))
def sp_come (A : am_S) (km l a : Int32) : Int32 × am_S := if am_in km 60 && (am_in l 21 && am_sb a) then (if s_np A = 7 then (-4, A) else (nI (s_np A), s_cm A (s_np A) km l a)) else (-2, A)
/-- a kind below one -/
def s_un (k o : Int32) : Bool := decide (o = 0 ∨ k = o ∨ (o = 1 ∧ k = 3) ∨ (o = 2 ∧ k = 4))
def sp_taken (A : am_S) (i k : Int32) : Int32 := if am_in k 7 then (if am_in i 15 then (if i < 8 then (if sN i < s_nq A then (if k = 6 then A 72 (sN i) else -13) else -11) else (if sN i - 8 < s_np A then (if k ≠ 6 ∧ s_un (A 66 (sN i - 8)) k then nI (sN i - 8) else -13) else -11)) else -12) else -2
/-- what refuses a sheet that tells of all questions -/
def s_wr (A : am_S) (s : Int32) : Int32 := if am_in s 4 then (if A 80 (sN s) = -1 then -11 else if A 81 (sN s) = A 65 6 then 0 else -2) else -2
