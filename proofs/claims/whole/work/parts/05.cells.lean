/-! what a walk asks of cells -/
def zk (n k ci : Nat) : Prop := k < n ∧ (zkd k).1 = ci
def za (n k tag : Nat) (i : Int32) : Prop := k < n ∧ (zkd k).1 = tag ∧ vp_in i (zkd k).2
theorem zkd_eta {k tag : Nat} (h : (zkd k).1 = tag) : zkd k = (tag, (zkd k).2) := by rw [← h]
theorem zsw_out {x : Int32} {lo hi : Int} (hlo : lo ≤ hi) (h : ∀ v : Int, lo ≤ v → v ≤ hi → ¬ x.toInt = v) : x.toInt < lo ∨ hi < x.toInt := by
  by_cases h1 : x.toInt < lo
  · exact Or.inl h1
  · by_cases h2 : hi < x.toInt
    · exact Or.inr h2
    · exact absurd rfl (h x.toInt (by omega) (by omega))
