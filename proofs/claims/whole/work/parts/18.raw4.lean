theorem lN_ne0 {b : Nat} (h0 : 0 < b) (hb : b < 2 ^ 63) : ¬ lN b = 0 := fun q => by
  have h1 : (lN b).toInt = (0 : Int64).toInt := by rw [q]
  rw [pk_lT hb] at h1
  have h2 : (0 : Int64).toInt = 0 := by decide
  omega
theorem lN_le0 {b : Nat} (hb : b < 2 ^ 63) (h : lN b ≤ 0) : b = 0 := by
  have h1 := Int64.le_iff_toInt_le.mp h
  rw [pk_lT hb] at h1
  have h2 : (0 : Int64).toInt = 0 := by decide
  omega
theorem lN_pos {b : Nat} (hb : b < 2 ^ 63) (h : 0 < lN b) : 0 < b := by
  have h1 := Int64.lt_iff_toInt_lt.mp h
  rw [pk_lT hb] at h1
  have h2 : (0 : Int64).toInt = 0 := by decide
  omega
noncomputable def mMod (u v : Int64) (g : Nat) (q : Int32) : Int64 := @ite Int64 (q = 0) (Classical.propDecidable _) (u / lN g) (v / lN g)
theorem gcd_step (a b : Nat) : Nat.gcd b (a % b) = Nat.gcd a b := by rw [Nat.gcd_comm a b, Nat.gcd_rec b a, Nat.gcd_comm]
theorem half_l {x y k : Nat} (h : y - x < 2 ^ (k + 1)) (h2 : x < y) : y - ((x + y) / 2 + 1) < 2 ^ k := by rw [Nat.pow_succ] at h; omega
theorem half_h {x y k : Nat} (h : y - x < 2 ^ (k + 1)) (h2 : x < y) : (x + y) / 2 - x < 2 ^ k := by rw [Nat.pow_succ] at h; omega
theorem half_k {x y k : Nat} (h : y - x < 2 ^ k) (h2 : x < y) : ∃ z, k = z + 1 := by
  cases k with
  | zero => rw [Nat.pow_zero] at h; omega
  | succ k => exact ⟨k, rfl⟩
theorem lk_half0 : 10000 - 0 < 2 ^ 100 := by decide
