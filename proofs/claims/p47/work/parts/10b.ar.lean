/-! bounds on room without counting in ones -/
theorem ar_l {z A k M : Nat} (hz : z + A ≤ M) (h : Nat.ble k A = true) : z + k ≤ M := by
  have h := Nat.le_of_ble_eq_true h
  try rw [Nat.succ_mul] at hz
  try generalize f * u = w at *
  omega
theorem ar_l2 {z A a b M : Nat} (hz : z + A ≤ M) (h : Nat.ble (a + b) A = true) : z + a + b ≤ M := by
  have h := Nat.le_of_ble_eq_true h
  try rw [Nat.succ_mul] at hz
  try generalize f * u = w at *
  omega
theorem ar_l0 {z A M : Nat} (hz : z + A ≤ M) (h : Nat.ble 0 A = true) : z ≤ M := by
  have h := Nat.le_of_ble_eq_true h
  try rw [Nat.succ_mul] at hz
  try generalize f * u = w at *
  omega
theorem ar_e0 {z A E M : Nat} (hz : z + (A + E) ≤ M) (h : Nat.ble 0 A = true) : z ≤ M := by
  have h := Nat.le_of_ble_eq_true h
  try rw [Nat.succ_mul] at hz
  try generalize f * u = w at *
  omega
theorem ar_e {z A E k M : Nat} (hz : z + (A + E) ≤ M) (h : Nat.ble k A = true) : z + k ≤ M := by
  have h := Nat.le_of_ble_eq_true h
  try rw [Nat.succ_mul] at hz
  try generalize f * u = w at *
  omega
theorem ar_e2 {z A E a b M : Nat} (hz : z + (A + E) ≤ M) (h : Nat.ble (a + b) A = true) : z + a + b ≤ M := by
  have h := Nat.le_of_ble_eq_true h
  try rw [Nat.succ_mul] at hz
  try generalize f * u = w at *
  omega
theorem ar_e3 {z A E a c M : Nat} (hz : z + (A + E) ≤ M) (h : Nat.ble (a + c) A = true) : z + a + (c + E) ≤ M := by
  have h := Nat.le_of_ble_eq_true h
  try rw [Nat.succ_mul] at hz
  try generalize f * u = w at *
  omega
theorem ar_e4 {z A E c M : Nat} (hz : z + (A + E) ≤ M) (h : Nat.ble c A = true) : z + (c + E) ≤ M := by
  have h := Nat.le_of_ble_eq_true h
  try rw [Nat.succ_mul] at hz
  try generalize f * u = w at *
  omega
theorem ar_e5 {z A E a M : Nat} (hz : z + (A + E) ≤ M) (h : Nat.ble a A = true) : z + a + E ≤ M := by
  have h := Nat.le_of_ble_eq_true h
  try rw [Nat.succ_mul] at hz
  try generalize f * u = w at *
  omega
theorem ar_e6 {z A E M : Nat} (hz : z + (A + E) ≤ M) (h : Nat.ble 0 A = true) : z + E ≤ M := by
  have h := Nat.le_of_ble_eq_true h
  try rw [Nat.succ_mul] at hz
  try generalize f * u = w at *
  omega
theorem ar_f0 {z f u B M : Nat} (hz : z + ((f + 1) * u + B) ≤ M) (h : Nat.ble 0 B = true) : z ≤ M := by
  have h := Nat.le_of_ble_eq_true h
  try rw [Nat.succ_mul] at hz
  try generalize f * u = w at *
  omega
theorem ar_f {z f u B k M : Nat} (hz : z + ((f + 1) * u + B) ≤ M) (h : Nat.ble k (u + B) = true) : z + k ≤ M := by
  have h := Nat.le_of_ble_eq_true h
  try rw [Nat.succ_mul] at hz
  try generalize f * u = w at *
  omega
theorem ar_f2 {z f u B a b M : Nat} (hz : z + ((f + 1) * u + B) ≤ M) (h : Nat.ble (a + b) (u + B) = true) : z + a + b ≤ M := by
  have h := Nat.le_of_ble_eq_true h
  try rw [Nat.succ_mul] at hz
  try generalize f * u = w at *
  omega
theorem ar_f3 {z f u B a M : Nat} (hz : z + ((f + 1) * u + B) ≤ M) (h : Nat.ble a u = true) : z + a + (f * u + B) ≤ M := by
  have h := Nat.le_of_ble_eq_true h
  try rw [Nat.succ_mul] at hz
  try generalize f * u = w at *
  omega
theorem ar_f4 {z f u B a c M : Nat} (hz : z + ((f + 1) * u + B) ≤ M) (h : Nat.ble (a + c) u = true) : z + a + (c + (f * u + B)) ≤ M := by
  have h := Nat.le_of_ble_eq_true h
  try rw [Nat.succ_mul] at hz
  try generalize f * u = w at *
  omega
theorem ar_f5 {z f u B M : Nat} (hz : z + ((f + 1) * u + B) ≤ M) (h : Nat.ble 0 u = true) : z + (f * u + B) ≤ M := by
  have h := Nat.le_of_ble_eq_true h
  try rw [Nat.succ_mul] at hz
  try generalize f * u = w at *
  omega
theorem ar_f6 {z f u B c M : Nat} (hz : z + ((f + 1) * u + B) ≤ M) (h : Nat.ble c u = true) : z + (c + (f * u + B)) ≤ M := by
  have h := Nat.le_of_ble_eq_true h
  try rw [Nat.succ_mul] at hz
  try generalize f * u = w at *
  omega
theorem ar_g0 {z f u B E M : Nat} (hz : z + ((f + 1) * u + B + E) ≤ M) (h : Nat.ble 0 B = true) : z ≤ M := by
  have h := Nat.le_of_ble_eq_true h
  try rw [Nat.succ_mul] at hz
  try generalize f * u = w at *
  omega
theorem ar_g {z f u B E k M : Nat} (hz : z + ((f + 1) * u + B + E) ≤ M) (h : Nat.ble k (u + B) = true) : z + k ≤ M := by
  have h := Nat.le_of_ble_eq_true h
  try rw [Nat.succ_mul] at hz
  try generalize f * u = w at *
  omega
theorem ar_g2 {z f u B E a b M : Nat} (hz : z + ((f + 1) * u + B + E) ≤ M) (h : Nat.ble (a + b) (u + B) = true) : z + a + b ≤ M := by
  have h := Nat.le_of_ble_eq_true h
  try rw [Nat.succ_mul] at hz
  try generalize f * u = w at *
  omega
theorem ar_g3 {z f u B E a M : Nat} (hz : z + ((f + 1) * u + B + E) ≤ M) (h : Nat.ble a u = true) : z + a + (f * u + B + E) ≤ M := by
  have h := Nat.le_of_ble_eq_true h
  try rw [Nat.succ_mul] at hz
  try generalize f * u = w at *
  omega
theorem ar_g4 {z f u B E a c M : Nat} (hz : z + ((f + 1) * u + B + E) ≤ M) (h : Nat.ble (a + c) (u + B) = true) : z + a + (c + E) ≤ M := by
  have h := Nat.le_of_ble_eq_true h
  try rw [Nat.succ_mul] at hz
  try generalize f * u = w at *
  omega
theorem ar_g6 {z f u B E M : Nat} (hz : z + ((f + 1) * u + B + E) ≤ M) (h : Nat.ble 0 u = true) : z + (f * u + B + E) ≤ M := by
  have h := Nat.le_of_ble_eq_true h
  try rw [Nat.succ_mul] at hz
  try generalize f * u = w at *
  omega
theorem ar_g5 {z f u B E c M : Nat} (hz : z + ((f + 1) * u + B + E) ≤ M) (h : Nat.ble c (u + B) = true) : z + (c + E) ≤ M := by
  have h := Nat.le_of_ble_eq_true h
  try rw [Nat.succ_mul] at hz
  try generalize f * u = w at *
  omega
theorem ar_g7 {z f u B E a M : Nat} (hz : z + ((f + 1) * u + B + E) ≤ M) (h : Nat.ble a (u + B) = true) : z + a + E ≤ M := by
  have h := Nat.le_of_ble_eq_true h
  try rw [Nat.succ_mul] at hz
  try generalize f * u = w at *
  omega
theorem ar_g8 {z f u B E M : Nat} (hz : z + ((f + 1) * u + B + E) ≤ M) (h : Nat.ble 0 (u + B) = true) : z + E ≤ M := by
  have h := Nat.le_of_ble_eq_true h
  try rw [Nat.succ_mul] at hz
  try generalize f * u = w at *
  omega
theorem ar_g9 {z f u B E a c M : Nat} (hz : z + ((f + 1) * u + B + E) ≤ M) (h : Nat.ble (a + c) u = true) : z + a + (c + (f * u + B + E)) ≤ M := by
  have h := Nat.le_of_ble_eq_true h
  try rw [Nat.succ_mul] at hz
  try generalize f * u = w at *
  omega
theorem ar_g10 {z f u B E c M : Nat} (hz : z + ((f + 1) * u + B + E) ≤ M) (h : Nat.ble c u = true) : z + (c + (f * u + B + E)) ≤ M := by
  have h := Nat.le_of_ble_eq_true h
  try rw [Nat.succ_mul] at hz
  try generalize f * u = w at *
  omega
