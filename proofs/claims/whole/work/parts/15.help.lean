/-! helpers: rooms, ranges, answers -/
theorem am_hR {D' D m kx nx : Nat} (h : D' + 1 ≤ D) (hm : m ≤ 40) : D' + 1 ≤ (am_R D kx nx).frames ∧ 8 + (m + 11) + 64 * D' ≤ (am_R D kx nx).locals := ⟨h, by show 8 + (m + 11) + 64 * D' ≤ 64 * D; omega⟩
/-- a whole number of 0 .. n - 1 -/
def am_rg (t : Int32) (n : Nat) : Prop := ∃ j, j < n ∧ t = nI j
theorem am_rgt {t : Int32} {n : Nat} (hn : n < 2 ^ 31) : am_rg t n ↔ 0 ≤ t.toInt ∧ t.toInt < n := by
  constructor
  · rintro ⟨j, hj, rfl⟩
    rw [nI_toInt (by omega)]
    omega
  · intro h
    obtain ⟨j, hj, e⟩ := vp_in_of (vp_in_iff.mpr h) hn
    exact ⟨j, hj, e⟩
theorem am_lt0 {t : Int32} : t < 0 ↔ t.toInt < 0 := Int32.lt_iff_toInt_lt
theorem am_rg1 {t c : Int32} {n : Nat} (hc : c.toInt = n) (h1 : ¬ t < 0) (h2 : t < c) : am_rg t n := by
  rw [am_lt0] at h1
  rw [Int32.lt_iff_toInt_lt, hc] at h2
  refine (am_rgt ?_).mpr ⟨by omega, h2⟩
  have := c.toInt_lt
  omega
theorem am_rg2 {t c : Int32} {n : Nat} (hc : c.toInt = n) (h1 : ¬ t < 0) (h2 : ¬ c ≤ t) : am_rg t n := am_rg1 hc h1 (Int32.not_le.mp h2)
theorem am_rg3 {t c : Int32} {n : Nat} (hc : c.toInt + 1 = n) (h1 : ¬ t < 0) (h2 : t ≤ c) : am_rg t n := by
  rw [am_lt0] at h1
  rw [Int32.le_iff_toInt_le] at h2
  have hz := c.toInt_lt
  rcases Nat.lt_or_ge n (2 ^ 31) with hn | hn
  · exact (am_rgt hn).mpr ⟨by omega, by omega⟩
  · have hb : t.toInt < 2 ^ 31 := t.toInt_lt
    obtain ⟨j, hj, e⟩ := nI_of (x := t) (by rw [am_lt0]; exact h1)
    refine ⟨j, ?_, e⟩
    omega
theorem am_rgn {t : Int32} {n : Nat} (hn : n < 2 ^ 31) (h : t < 0) : ¬ am_rg t n := by
  rintro ⟨j, hj, rfl⟩
  exact nI_pos (by omega) h
theorem am_rgm {t c : Int32} {n : Nat} (hc : c.toInt = n) (h : c ≤ t) : ¬ am_rg t n := by
  have hz := c.toInt_lt
  rw [am_rgt (by omega)]
  rw [Int32.le_iff_toInt_le] at h
  omega
theorem am_rgm2 {t c : Int32} {n : Nat} (hc : c.toInt = n) (h : ¬ t < c) : ¬ am_rg t n := am_rgm hc (Int32.not_lt.mp h)
theorem am_rgm3 {t c : Int32} {n : Nat} (hc : c.toInt + 1 = n) (hn : n < 2 ^ 31) (h : ¬ t ≤ c) : ¬ am_rg t n := by
  rw [am_rgt hn]
  rw [Int32.le_iff_toInt_le] at h
  omega
/-- one answer, the memory as it was -/
def am_q (v : Value) (σ0 : am_M) : Option Value → am_M → Prop := fun r σ' => r = some v ∧ σ0 = σ'
/-- 1 if it holds, 0 if not -/
def am_zq (c : Prop) (σ0 : am_M) : Option Value → am_M → Prop := fun r σ' => (c ∧ r = some (.int 1) ∧ σ0 = σ') ∨ (¬ c ∧ r = some (.int 0) ∧ σ0 = σ')
