/-! what a fresh object answers, where it hangs on the argument -/
def sp_isIn (v lo hi : Int32) : Int32 := if lo ≤ v ∧ v ≤ hi then 1 else 0
def sp_end (n : Int32) : Int32 := if n = 0 then 1 else 0
def sp_seed (n : Int32) : Int32 := if n < 0 then 0 else 1
def sp_fault (w : Int32) : Int32 := if w = 0 then 0 else -1
def sp_why (w : Int32) : Int32 := if w = 0 then 0 else if w = 1 then 0 else -1
def sp_has (w : Int32) : Int32 := if w = 14 then 1 else if 0 ≤ w ∧ w ≤ 13 then 0 else -1
def sp_status (w : Int32) : Int32 := if 0 ≤ w ∧ w ≤ 5 then 0 else -1
theorem sp_isIn_e {v lo hi : Int32} (h : hi < lo) : sp_isIn v lo hi = 0 := by
  unfold sp_isIn
  rw [if_neg]
  intro q
  rw [Int32.lt_iff_toInt_lt] at h
  have h1 := Int32.le_iff_toInt_le.mp q.1
  have h2 := Int32.le_iff_toInt_le.mp q.2
  omega
theorem sp_isIn_or (v lo hi : Int32) : (sp_isIn v lo hi = 1 ∧ lo ≤ v ∧ v ≤ hi) ∨ (sp_isIn v lo hi = 0 ∧ ¬ (lo ≤ v ∧ v ≤ hi)) := by
  unfold sp_isIn
  by_cases h : lo ≤ v ∧ v ≤ hi
  · exact Or.inl ⟨if_pos h, h.1, h.2⟩
  · exact Or.inr ⟨if_neg h, h⟩
theorem nz_sp_isIn (v lo hi : Int32) : narrow .boolean (.int (sp_isIn v lo hi)) = .int (sp_isIn v lo hi) := by unfold sp_isIn; split <;> rfl
theorem nz_sp_end (n : Int32) : narrow .boolean (.int (sp_end n)) = .int (sp_end n) := by unfold sp_end; split <;> rfl
theorem nz_sp_seed (n : Int32) : narrow .boolean (.int (sp_seed n)) = .int (sp_seed n) := by unfold sp_seed; split <;> rfl
theorem pl_0 (x0 : Int32) (c0 : ¬ x0 < 0) (c1 : ¬ 300 ≤ x0) : vp_in x0 300 := by
  have e0 : ((-1) : Int32).toInt = -1 := by decide
  have e1 : (0 : Int32).toInt = 0 := by decide
  have e2 : (1 : Int32).toInt = 1 := by decide
  have e3 : (5 : Int32).toInt = 5 := by decide
  have e4 : (13 : Int32).toInt = 13 := by decide
  have e5 : (14 : Int32).toInt = 14 := by decide
  have e6 : (300 : Int32).toInt = 300 := by decide
  try simp only [sp_isIn, sp_end, sp_seed, sp_fault, sp_why, sp_has, sp_status, vp_in_iff]
  try simp only [Int32.le_iff_toInt_le, Int32.lt_iff_toInt_lt, ← Int32.toInt_inj] at *
  (repeat' split) <;> (first | omega | rfl)
theorem pl_1 (x0 : Int32) (c0 : x0 < 0) : 0 = sp_end x0 := by
  have e0 : ((-1) : Int32).toInt = -1 := by decide
  have e1 : (0 : Int32).toInt = 0 := by decide
  have e2 : (1 : Int32).toInt = 1 := by decide
  have e3 : (5 : Int32).toInt = 5 := by decide
  have e4 : (13 : Int32).toInt = 13 := by decide
  have e5 : (14 : Int32).toInt = 14 := by decide
  try simp only [sp_isIn, sp_end, sp_seed, sp_fault, sp_why, sp_has, sp_status, vp_in_iff]
  try simp only [Int32.le_iff_toInt_le, Int32.lt_iff_toInt_lt, ← Int32.toInt_inj] at *
  (repeat' split) <;> (first | omega | rfl)
theorem pl_2 (x0 : Int32) (c0 : ¬ x0 < 0) (c1 : x0 ≤ 0) : 1 = sp_end x0 := by
  have e0 : ((-1) : Int32).toInt = -1 := by decide
  have e1 : (0 : Int32).toInt = 0 := by decide
  have e2 : (1 : Int32).toInt = 1 := by decide
  have e3 : (5 : Int32).toInt = 5 := by decide
  have e4 : (13 : Int32).toInt = 13 := by decide
  have e5 : (14 : Int32).toInt = 14 := by decide
  try simp only [sp_isIn, sp_end, sp_seed, sp_fault, sp_why, sp_has, sp_status, vp_in_iff]
  try simp only [Int32.le_iff_toInt_le, Int32.lt_iff_toInt_lt, ← Int32.toInt_inj] at *
  (repeat' split) <;> (first | omega | rfl)
theorem pl_3 (x0 : Int32) (c0 : ¬ x0 < 0) (c1 : ¬ x0 ≤ 0) : 0 = sp_end x0 := by
  have e0 : ((-1) : Int32).toInt = -1 := by decide
  have e1 : (0 : Int32).toInt = 0 := by decide
  have e2 : (1 : Int32).toInt = 1 := by decide
  have e3 : (5 : Int32).toInt = 5 := by decide
  have e4 : (13 : Int32).toInt = 13 := by decide
  have e5 : (14 : Int32).toInt = 14 := by decide
  try simp only [sp_isIn, sp_end, sp_seed, sp_fault, sp_why, sp_has, sp_status, vp_in_iff]
  try simp only [Int32.le_iff_toInt_le, Int32.lt_iff_toInt_lt, ← Int32.toInt_inj] at *
  (repeat' split) <;> (first | omega | rfl)
theorem pl_4 (x0 : Int32) (c0 : ¬ x0 = 0) (c1 : ¬ x0 = 1) : (-1) = sp_fault x0 := by
  have e0 : ((-1) : Int32).toInt = -1 := by decide
  have e1 : (0 : Int32).toInt = 0 := by decide
  have e2 : (1 : Int32).toInt = 1 := by decide
  have e3 : (5 : Int32).toInt = 5 := by decide
  have e4 : (13 : Int32).toInt = 13 := by decide
  have e5 : (14 : Int32).toInt = 14 := by decide
  try simp only [sp_isIn, sp_end, sp_seed, sp_fault, sp_why, sp_has, sp_status, vp_in_iff]
  try simp only [Int32.le_iff_toInt_le, Int32.lt_iff_toInt_lt, ← Int32.toInt_inj] at *
  (repeat' split) <;> (first | omega | rfl)
theorem pl_5 (x0 : Int32) (c0 : ¬ x0 = 0) (c1 : x0 = 1) : (-1) = sp_fault x0 := by
  have e0 : ((-1) : Int32).toInt = -1 := by decide
  have e1 : (0 : Int32).toInt = 0 := by decide
  have e2 : (1 : Int32).toInt = 1 := by decide
  have e3 : (5 : Int32).toInt = 5 := by decide
  have e4 : (13 : Int32).toInt = 13 := by decide
  have e5 : (14 : Int32).toInt = 14 := by decide
  try simp only [sp_isIn, sp_end, sp_seed, sp_fault, sp_why, sp_has, sp_status, vp_in_iff]
  try simp only [Int32.le_iff_toInt_le, Int32.lt_iff_toInt_lt, ← Int32.toInt_inj] at *
  (repeat' split) <;> (first | omega | rfl)
theorem pl_6 (x0 : Int32) (c0 : x0 = 0) : 0 = sp_fault x0 := by
  have e0 : ((-1) : Int32).toInt = -1 := by decide
  have e1 : (0 : Int32).toInt = 0 := by decide
  have e2 : (1 : Int32).toInt = 1 := by decide
  have e3 : (5 : Int32).toInt = 5 := by decide
  have e4 : (13 : Int32).toInt = 13 := by decide
  have e5 : (14 : Int32).toInt = 14 := by decide
  try simp only [sp_isIn, sp_end, sp_seed, sp_fault, sp_why, sp_has, sp_status, vp_in_iff]
  try simp only [Int32.le_iff_toInt_le, Int32.lt_iff_toInt_lt, ← Int32.toInt_inj] at *
  (repeat' split) <;> (first | omega | rfl)
theorem pl_7 (x0 : Int32) (c0 : ¬ x0 = 14) (c1 : x0 < 0) : (-1) = sp_has x0 := by
  have e0 : ((-1) : Int32).toInt = -1 := by decide
  have e1 : (0 : Int32).toInt = 0 := by decide
  have e2 : (1 : Int32).toInt = 1 := by decide
  have e3 : (5 : Int32).toInt = 5 := by decide
  have e4 : (13 : Int32).toInt = 13 := by decide
  have e5 : (14 : Int32).toInt = 14 := by decide
  try simp only [sp_isIn, sp_end, sp_seed, sp_fault, sp_why, sp_has, sp_status, vp_in_iff]
  try simp only [Int32.le_iff_toInt_le, Int32.lt_iff_toInt_lt, ← Int32.toInt_inj] at *
  (repeat' split) <;> (first | omega | rfl)
theorem pl_8 (x0 : Int32) (c0 : ¬ x0 = 14) (c1 : ¬ x0 < 0) (c2 : x0 ≤ 14) : 0 = sp_has x0 := by
  have e0 : ((-1) : Int32).toInt = -1 := by decide
  have e1 : (0 : Int32).toInt = 0 := by decide
  have e2 : (1 : Int32).toInt = 1 := by decide
  have e3 : (5 : Int32).toInt = 5 := by decide
  have e4 : (13 : Int32).toInt = 13 := by decide
  have e5 : (14 : Int32).toInt = 14 := by decide
  try simp only [sp_isIn, sp_end, sp_seed, sp_fault, sp_why, sp_has, sp_status, vp_in_iff]
  try simp only [Int32.le_iff_toInt_le, Int32.lt_iff_toInt_lt, ← Int32.toInt_inj] at *
  (repeat' split) <;> (first | omega | rfl)
theorem pl_9 (x0 : Int32) (c0 : ¬ x0 = 14) (c1 : ¬ x0 < 0) (c2 : ¬ x0 ≤ 14) : (-1) = sp_has x0 := by
  have e0 : ((-1) : Int32).toInt = -1 := by decide
  have e1 : (0 : Int32).toInt = 0 := by decide
  have e2 : (1 : Int32).toInt = 1 := by decide
  have e3 : (5 : Int32).toInt = 5 := by decide
  have e4 : (13 : Int32).toInt = 13 := by decide
  have e5 : (14 : Int32).toInt = 14 := by decide
  try simp only [sp_isIn, sp_end, sp_seed, sp_fault, sp_why, sp_has, sp_status, vp_in_iff]
  try simp only [Int32.le_iff_toInt_le, Int32.lt_iff_toInt_lt, ← Int32.toInt_inj] at *
  (repeat' split) <;> (first | omega | rfl)
theorem pl_10 (x0 : Int32) (c0 : x0 = 14) : 1 = sp_has x0 := by
  have e0 : ((-1) : Int32).toInt = -1 := by decide
  have e1 : (0 : Int32).toInt = 0 := by decide
  have e2 : (1 : Int32).toInt = 1 := by decide
  have e3 : (5 : Int32).toInt = 5 := by decide
  have e4 : (13 : Int32).toInt = 13 := by decide
  have e5 : (14 : Int32).toInt = 14 := by decide
  try simp only [sp_isIn, sp_end, sp_seed, sp_fault, sp_why, sp_has, sp_status, vp_in_iff]
  try simp only [Int32.le_iff_toInt_le, Int32.lt_iff_toInt_lt, ← Int32.toInt_inj] at *
  (repeat' split) <;> (first | omega | rfl)
theorem pl_11 (x0 : Int32) (c0 : ¬ x0 < 0) (c1 : ¬ 0 ≤ x0) : False := by
  have e0 : ((-1) : Int32).toInt = -1 := by decide
  have e1 : (0 : Int32).toInt = 0 := by decide
  have e2 : (1 : Int32).toInt = 1 := by decide
  have e3 : (5 : Int32).toInt = 5 := by decide
  have e4 : (13 : Int32).toInt = 13 := by decide
  have e5 : (14 : Int32).toInt = 14 := by decide
  try simp only [sp_isIn, sp_end, sp_seed, sp_fault, sp_why, sp_has, sp_status, vp_in_iff]
  try simp only [Int32.le_iff_toInt_le, Int32.lt_iff_toInt_lt, ← Int32.toInt_inj] at *
  (repeat' split) <;> (first | omega | rfl)
theorem pl_12 (x0 : Int32) (c0 : ¬ x0 < 0) (c1 : x0 < 0) : False := by
  have e0 : ((-1) : Int32).toInt = -1 := by decide
  have e1 : (0 : Int32).toInt = 0 := by decide
  have e2 : (1 : Int32).toInt = 1 := by decide
  have e3 : (5 : Int32).toInt = 5 := by decide
  have e4 : (13 : Int32).toInt = 13 := by decide
  have e5 : (14 : Int32).toInt = 14 := by decide
  try simp only [sp_isIn, sp_end, sp_seed, sp_fault, sp_why, sp_has, sp_status, vp_in_iff]
  try simp only [Int32.le_iff_toInt_le, Int32.lt_iff_toInt_lt, ← Int32.toInt_inj] at *
  (repeat' split) <;> (first | omega | rfl)
theorem pl_13 (x0 : Int32) (c0 : x0 < 0) : 0 = sp_isIn x0 0 2 := by
  have e0 : ((-1) : Int32).toInt = -1 := by decide
  have e1 : (0 : Int32).toInt = 0 := by decide
  have e2 : (1 : Int32).toInt = 1 := by decide
  have e3 : (2 : Int32).toInt = 2 := by decide
  have e4 : (5 : Int32).toInt = 5 := by decide
  have e5 : (13 : Int32).toInt = 13 := by decide
  have e6 : (14 : Int32).toInt = 14 := by decide
  try simp only [sp_isIn, sp_end, sp_seed, sp_fault, sp_why, sp_has, sp_status, vp_in_iff]
  try simp only [Int32.le_iff_toInt_le, Int32.lt_iff_toInt_lt, ← Int32.toInt_inj] at *
  (repeat' split) <;> (first | omega | rfl)
theorem pl_14 (x0 : Int32) (c0 : ¬ x0 < 0) (c1 : 2 < x0) : 0 = sp_isIn x0 0 2 := by
  have e0 : ((-1) : Int32).toInt = -1 := by decide
  have e1 : (0 : Int32).toInt = 0 := by decide
  have e2 : (1 : Int32).toInt = 1 := by decide
  have e3 : (2 : Int32).toInt = 2 := by decide
  have e4 : (5 : Int32).toInt = 5 := by decide
  have e5 : (13 : Int32).toInt = 13 := by decide
  have e6 : (14 : Int32).toInt = 14 := by decide
  try simp only [sp_isIn, sp_end, sp_seed, sp_fault, sp_why, sp_has, sp_status, vp_in_iff]
  try simp only [Int32.le_iff_toInt_le, Int32.lt_iff_toInt_lt, ← Int32.toInt_inj] at *
  (repeat' split) <;> (first | omega | rfl)
theorem pl_15 (x0 : Int32) (c0 : ¬ x0 < 0) (c1 : ¬ 2 < x0) : 1 = sp_isIn x0 0 2 := by
  have e0 : ((-1) : Int32).toInt = -1 := by decide
  have e1 : (0 : Int32).toInt = 0 := by decide
  have e2 : (1 : Int32).toInt = 1 := by decide
  have e3 : (2 : Int32).toInt = 2 := by decide
  have e4 : (5 : Int32).toInt = 5 := by decide
  have e5 : (13 : Int32).toInt = 13 := by decide
  have e6 : (14 : Int32).toInt = 14 := by decide
  try simp only [sp_isIn, sp_end, sp_seed, sp_fault, sp_why, sp_has, sp_status, vp_in_iff]
  try simp only [Int32.le_iff_toInt_le, Int32.lt_iff_toInt_lt, ← Int32.toInt_inj] at *
  (repeat' split) <;> (first | omega | rfl)
theorem pl_16 (x0 : Int32) (c0 : ¬ x0 = 0) (c1 : ¬ x0 = 1) : (-1) = sp_why x0 := by
  have e0 : ((-1) : Int32).toInt = -1 := by decide
  have e1 : (0 : Int32).toInt = 0 := by decide
  have e2 : (1 : Int32).toInt = 1 := by decide
  have e3 : (5 : Int32).toInt = 5 := by decide
  have e4 : (13 : Int32).toInt = 13 := by decide
  have e5 : (14 : Int32).toInt = 14 := by decide
  try simp only [sp_isIn, sp_end, sp_seed, sp_fault, sp_why, sp_has, sp_status, vp_in_iff]
  try simp only [Int32.le_iff_toInt_le, Int32.lt_iff_toInt_lt, ← Int32.toInt_inj] at *
  (repeat' split) <;> (first | omega | rfl)
theorem pl_17 (x0 : Int32) (c0 : ¬ x0 = 0) (c1 : x0 = 1) : 0 = sp_why x0 := by
  have e0 : ((-1) : Int32).toInt = -1 := by decide
  have e1 : (0 : Int32).toInt = 0 := by decide
  have e2 : (1 : Int32).toInt = 1 := by decide
  have e3 : (5 : Int32).toInt = 5 := by decide
  have e4 : (13 : Int32).toInt = 13 := by decide
  have e5 : (14 : Int32).toInt = 14 := by decide
  try simp only [sp_isIn, sp_end, sp_seed, sp_fault, sp_why, sp_has, sp_status, vp_in_iff]
  try simp only [Int32.le_iff_toInt_le, Int32.lt_iff_toInt_lt, ← Int32.toInt_inj] at *
  (repeat' split) <;> (first | omega | rfl)
theorem pl_18 (x0 : Int32) (c0 : x0 = 0) : 0 = sp_why x0 := by
  have e0 : ((-1) : Int32).toInt = -1 := by decide
  have e1 : (0 : Int32).toInt = 0 := by decide
  have e2 : (1 : Int32).toInt = 1 := by decide
  have e3 : (5 : Int32).toInt = 5 := by decide
  have e4 : (13 : Int32).toInt = 13 := by decide
  have e5 : (14 : Int32).toInt = 14 := by decide
  try simp only [sp_isIn, sp_end, sp_seed, sp_fault, sp_why, sp_has, sp_status, vp_in_iff]
  try simp only [Int32.le_iff_toInt_le, Int32.lt_iff_toInt_lt, ← Int32.toInt_inj] at *
  (repeat' split) <;> (first | omega | rfl)
theorem pl_19 (x0 : Int32) (c0 : 0 ≤ x0) : 1 = sp_seed x0 := by
  have e0 : ((-1) : Int32).toInt = -1 := by decide
  have e1 : (0 : Int32).toInt = 0 := by decide
  have e2 : (1 : Int32).toInt = 1 := by decide
  have e3 : (5 : Int32).toInt = 5 := by decide
  have e4 : (13 : Int32).toInt = 13 := by decide
  have e5 : (14 : Int32).toInt = 14 := by decide
  try simp only [sp_isIn, sp_end, sp_seed, sp_fault, sp_why, sp_has, sp_status, vp_in_iff]
  try simp only [Int32.le_iff_toInt_le, Int32.lt_iff_toInt_lt, ← Int32.toInt_inj] at *
  (repeat' split) <;> (first | omega | rfl)
theorem pl_20 (x0 : Int32) (c0 : ¬ 0 ≤ x0) : 0 = sp_seed x0 := by
  have e0 : ((-1) : Int32).toInt = -1 := by decide
  have e1 : (0 : Int32).toInt = 0 := by decide
  have e2 : (1 : Int32).toInt = 1 := by decide
  have e3 : (5 : Int32).toInt = 5 := by decide
  have e4 : (13 : Int32).toInt = 13 := by decide
  have e5 : (14 : Int32).toInt = 14 := by decide
  try simp only [sp_isIn, sp_end, sp_seed, sp_fault, sp_why, sp_has, sp_status, vp_in_iff]
  try simp only [Int32.le_iff_toInt_le, Int32.lt_iff_toInt_lt, ← Int32.toInt_inj] at *
  (repeat' split) <;> (first | omega | rfl)
theorem pl_21 (x0 : Int32) (c0 : x0 < 0) : (-1) = sp_status x0 := by
  have e0 : ((-1) : Int32).toInt = -1 := by decide
  have e1 : (0 : Int32).toInt = 0 := by decide
  have e2 : (1 : Int32).toInt = 1 := by decide
  have e3 : (5 : Int32).toInt = 5 := by decide
  have e4 : (13 : Int32).toInt = 13 := by decide
  have e5 : (14 : Int32).toInt = 14 := by decide
  try simp only [sp_isIn, sp_end, sp_seed, sp_fault, sp_why, sp_has, sp_status, vp_in_iff]
  try simp only [Int32.le_iff_toInt_le, Int32.lt_iff_toInt_lt, ← Int32.toInt_inj] at *
  (repeat' split) <;> (first | omega | rfl)
theorem pl_22 (x0 : Int32) (c0 : ¬ x0 < 0) (c1 : 6 ≤ x0) : (-1) = sp_status x0 := by
  have e0 : ((-1) : Int32).toInt = -1 := by decide
  have e1 : (0 : Int32).toInt = 0 := by decide
  have e2 : (1 : Int32).toInt = 1 := by decide
  have e3 : (5 : Int32).toInt = 5 := by decide
  have e4 : (6 : Int32).toInt = 6 := by decide
  have e5 : (13 : Int32).toInt = 13 := by decide
  have e6 : (14 : Int32).toInt = 14 := by decide
  try simp only [sp_isIn, sp_end, sp_seed, sp_fault, sp_why, sp_has, sp_status, vp_in_iff]
  try simp only [Int32.le_iff_toInt_le, Int32.lt_iff_toInt_lt, ← Int32.toInt_inj] at *
  (repeat' split) <;> (first | omega | rfl)
theorem pl_23 (x0 : Int32) (c0 : ¬ x0 < 0) (c1 : ¬ 6 ≤ x0) : vp_in x0 6 := by
  have e0 : ((-1) : Int32).toInt = -1 := by decide
  have e1 : (0 : Int32).toInt = 0 := by decide
  have e2 : (1 : Int32).toInt = 1 := by decide
  have e3 : (5 : Int32).toInt = 5 := by decide
  have e4 : (6 : Int32).toInt = 6 := by decide
  have e5 : (13 : Int32).toInt = 13 := by decide
  have e6 : (14 : Int32).toInt = 14 := by decide
  try simp only [sp_isIn, sp_end, sp_seed, sp_fault, sp_why, sp_has, sp_status, vp_in_iff]
  try simp only [Int32.le_iff_toInt_le, Int32.lt_iff_toInt_lt, ← Int32.toInt_inj] at *
  (repeat' split) <;> (first | omega | rfl)
theorem pl_24 (x0 : Int32) (c0 : ¬ x0 < 0) (c1 : ¬ 6 ≤ x0) : 0 = sp_status x0 := by
  have e0 : ((-1) : Int32).toInt = -1 := by decide
  have e1 : (0 : Int32).toInt = 0 := by decide
  have e2 : (1 : Int32).toInt = 1 := by decide
  have e3 : (5 : Int32).toInt = 5 := by decide
  have e4 : (6 : Int32).toInt = 6 := by decide
  have e5 : (13 : Int32).toInt = 13 := by decide
  have e6 : (14 : Int32).toInt = 14 := by decide
  try simp only [sp_isIn, sp_end, sp_seed, sp_fault, sp_why, sp_has, sp_status, vp_in_iff]
  try simp only [Int32.le_iff_toInt_le, Int32.lt_iff_toInt_lt, ← Int32.toInt_inj] at *
  (repeat' split) <;> (first | omega | rfl)
theorem pl_25 (x0 x1 x2 : Int32) (c0 : x0 < x1) : 0 = sp_isIn x0 x1 x2 := by
  have e0 : ((-1) : Int32).toInt = -1 := by decide
  have e1 : (0 : Int32).toInt = 0 := by decide
  have e2 : (1 : Int32).toInt = 1 := by decide
  have e3 : (5 : Int32).toInt = 5 := by decide
  have e4 : (13 : Int32).toInt = 13 := by decide
  have e5 : (14 : Int32).toInt = 14 := by decide
  try simp only [sp_isIn, sp_end, sp_seed, sp_fault, sp_why, sp_has, sp_status, vp_in_iff]
  try simp only [Int32.le_iff_toInt_le, Int32.lt_iff_toInt_lt, ← Int32.toInt_inj] at *
  (repeat' split) <;> (first | omega | rfl)
theorem pl_26 (x0 x1 x2 : Int32) (c0 : ¬ x0 < x1) (c1 : x2 < x0) : 0 = sp_isIn x0 x1 x2 := by
  have e0 : ((-1) : Int32).toInt = -1 := by decide
  have e1 : (0 : Int32).toInt = 0 := by decide
  have e2 : (1 : Int32).toInt = 1 := by decide
  have e3 : (5 : Int32).toInt = 5 := by decide
  have e4 : (13 : Int32).toInt = 13 := by decide
  have e5 : (14 : Int32).toInt = 14 := by decide
  try simp only [sp_isIn, sp_end, sp_seed, sp_fault, sp_why, sp_has, sp_status, vp_in_iff]
  try simp only [Int32.le_iff_toInt_le, Int32.lt_iff_toInt_lt, ← Int32.toInt_inj] at *
  (repeat' split) <;> (first | omega | rfl)
theorem pl_27 (x0 x1 x2 : Int32) (c0 : ¬ x0 < x1) (c1 : ¬ x2 < x0) : 1 = sp_isIn x0 x1 x2 := by
  have e0 : ((-1) : Int32).toInt = -1 := by decide
  have e1 : (0 : Int32).toInt = 0 := by decide
  have e2 : (1 : Int32).toInt = 1 := by decide
  have e3 : (5 : Int32).toInt = 5 := by decide
  have e4 : (13 : Int32).toInt = 13 := by decide
  have e5 : (14 : Int32).toInt = 14 := by decide
  try simp only [sp_isIn, sp_end, sp_seed, sp_fault, sp_why, sp_has, sp_status, vp_in_iff]
  try simp only [Int32.le_iff_toInt_le, Int32.lt_iff_toInt_lt, ← Int32.toInt_inj] at *
  (repeat' split) <;> (first | omega | rfl)
theorem pl_28 (x0 : Int32) (c0 : ¬ x0 = 14) (c1 : 0 ≤ x0) (c2 : x0 ≤ 13) : 0 = sp_has x0 := by
  have e0 : ((-1) : Int32).toInt = -1 := by decide
  have e1 : (0 : Int32).toInt = 0 := by decide
  have e2 : (1 : Int32).toInt = 1 := by decide
  have e3 : (5 : Int32).toInt = 5 := by decide
  have e4 : (13 : Int32).toInt = 13 := by decide
  have e5 : (14 : Int32).toInt = 14 := by decide
  try simp only [sp_isIn, sp_end, sp_seed, sp_fault, sp_why, sp_has, sp_status, vp_in_iff]
  try simp only [Int32.le_iff_toInt_le, Int32.lt_iff_toInt_lt, ← Int32.toInt_inj] at *
  (repeat' split) <;> (first | omega | rfl)
theorem pl_29 (x0 : Int32) (c0 : ¬ x0 = 14) (c1 : ¬ (0 ≤ x0 ∧ x0 ≤ 13)) : (-1) = sp_has x0 := by
  have e0 : ((-1) : Int32).toInt = -1 := by decide
  have e1 : (0 : Int32).toInt = 0 := by decide
  have e2 : (1 : Int32).toInt = 1 := by decide
  have e3 : (5 : Int32).toInt = 5 := by decide
  have e4 : (13 : Int32).toInt = 13 := by decide
  have e5 : (14 : Int32).toInt = 14 := by decide
  try simp only [sp_isIn, sp_end, sp_seed, sp_fault, sp_why, sp_has, sp_status, vp_in_iff]
  try simp only [Int32.le_iff_toInt_le, Int32.lt_iff_toInt_lt, ← Int32.toInt_inj] at *
  (repeat' split) <;> (first | omega | rfl)
theorem pl_30 (x0 : Int32) (c0 : 0 ≤ x0) (c1 : x0 ≤ 5) : vp_in x0 6 := by
  have e0 : ((-1) : Int32).toInt = -1 := by decide
  have e1 : (0 : Int32).toInt = 0 := by decide
  have e2 : (1 : Int32).toInt = 1 := by decide
  have e3 : (5 : Int32).toInt = 5 := by decide
  have e4 : (6 : Int32).toInt = 6 := by decide
  have e5 : (13 : Int32).toInt = 13 := by decide
  have e6 : (14 : Int32).toInt = 14 := by decide
  try simp only [sp_isIn, sp_end, sp_seed, sp_fault, sp_why, sp_has, sp_status, vp_in_iff]
  try simp only [Int32.le_iff_toInt_le, Int32.lt_iff_toInt_lt, ← Int32.toInt_inj] at *
  (repeat' split) <;> (first | omega | rfl)
theorem pl_31 (x0 : Int32) (c0 : 0 ≤ x0) (c1 : x0 ≤ 5) : 0 = sp_status x0 := by
  have e0 : ((-1) : Int32).toInt = -1 := by decide
  have e1 : (0 : Int32).toInt = 0 := by decide
  have e2 : (1 : Int32).toInt = 1 := by decide
  have e3 : (5 : Int32).toInt = 5 := by decide
  have e4 : (13 : Int32).toInt = 13 := by decide
  have e5 : (14 : Int32).toInt = 14 := by decide
  try simp only [sp_isIn, sp_end, sp_seed, sp_fault, sp_why, sp_has, sp_status, vp_in_iff]
  try simp only [Int32.le_iff_toInt_le, Int32.lt_iff_toInt_lt, ← Int32.toInt_inj] at *
  (repeat' split) <;> (first | omega | rfl)
theorem pl_32 (x0 : Int32) (c0 : ¬ (0 ≤ x0 ∧ x0 ≤ 5)) : (-1) = sp_status x0 := by
  have e0 : ((-1) : Int32).toInt = -1 := by decide
  have e1 : (0 : Int32).toInt = 0 := by decide
  have e2 : (1 : Int32).toInt = 1 := by decide
  have e3 : (5 : Int32).toInt = 5 := by decide
  have e4 : (13 : Int32).toInt = 13 := by decide
  have e5 : (14 : Int32).toInt = 14 := by decide
  try simp only [sp_isIn, sp_end, sp_seed, sp_fault, sp_why, sp_has, sp_status, vp_in_iff]
  try simp only [Int32.le_iff_toInt_le, Int32.lt_iff_toInt_lt, ← Int32.toInt_inj] at *
  (repeat' split) <;> (first | omega | rfl)
