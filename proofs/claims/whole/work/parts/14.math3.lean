/-! rows that the walks of the readers use -/
theorem fo_d_is {n : Nat} {G : Nat → Nat} (F : fo_ok n G) {j i : Nat} (hi : i ≤ fo_d G j) (h : G (fo_up G i j) = fo_up G i j) : i = fo_d G j := by
  have h1 := fo_d_up F j i hi
  have h2 := (fo_d_z F).mpr h
  omega
theorem fo_d_gt {n : Nat} {G : Nat → Nat} (F : fo_ok n G) {j i : Nat} (hi : i ≤ fo_d G j) (h : ¬ G (fo_up G i j) = fo_up G i j) : i < fo_d G j := by
  have h1 := fo_d_up F j i hi
  have h2 : ¬ fo_d G (fo_up G i j) = 0 := fun q => h ((fo_d_z F).mp q)
  omega
theorem i_neg_le {x : Int32} {i : Nat} (h : x < 0) (hi : i < 2 ^ 31) : x ≤ nI i := by
  have h0 : x.toInt < 0 := Int32.lt_iff_toInt_lt.mp h
  refine Int32.le_iff_toInt_le.mpr ?_
  rw [nI_toInt hi]
  omega
theorem climb_ge {x : Int32} {i k : Nat} (hx : x = nI k ∨ (x < 0 ∧ k = 0)) (c : x ≤ nI i) (hi : i ≤ k) (hk : k ≤ 63) : i = k := by
  rcases hx with h | ⟨_, h⟩
  · rw [h] at c
    have := cn_le (by omega) (by omega) c
    omega
  · omega
theorem climb_lt {x : Int32} {i k : Nat} (hx : x = nI k ∨ (x < 0 ∧ k = 0)) (c : ¬ x ≤ nI i) (hi : i ≤ k) (hk : k ≤ 63) : i < k := by
  rcases hx with h | ⟨h, h2⟩
  · rw [h] at c
    exact cn_nle (by omega) (by omega) c
  · exact absurd (i_neg_le h (by omega)) c
theorem sub_neg {a b : Nat} (ha : a < 2 ^ 30) (_ : b < 2 ^ 30) (h : nI a - nI b < 0) : a < b := by
  apply Nat.lt_of_not_le
  intro q
  rw [pk_sub q] at h
  exact nI_pos (by omega) h
theorem sub_nneg {a b : Nat} (_ : a < 2 ^ 30) (hb : b < 2 ^ 30) (h : ¬ nI a - nI b < 0) : b ≤ a := by
  apply Nat.le_of_not_lt
  intro q
  exact h (pk_sneg hb q)
theorem sub_cl {a b : Nat} (_ : a < 2 ^ 30) (hb : b < 2 ^ 30) : nI a - nI b = nI (a - b) ∨ (nI a - nI b < 0 ∧ a - b = 0) := by
  rcases Nat.le_total b a with h | h
  · exact Or.inl (pk_sub h)
  · by_cases e : a = b
    · rw [e]; exact Or.inl (pk_sub (Nat.le_refl b))
    · exact Or.inr ⟨pk_sneg hb (by omega), by omega⟩
theorem neg_cl {a b : Nat} (ha : a < 2 ^ 30) (hb : b < 2 ^ 30) : -(nI a - nI b) = nI (b - a) ∨ (-(nI a - nI b) < 0 ∧ b - a = 0) := by
  rw [Int32.neg_sub]
  exact sub_cl hb ha
theorem fo_nrm {n : Nat} {G : Nat → Nat} (F : fo_ok n G) {a b : Nat} (hd : fo_d G a = fo_d G b) (hr : fo_r G a = fo_r G b) (e : a ≠ b) : ¬ G a = a ∧ ¬ G b = b := by
  have ha : ¬ G a = a := fun q => e (by
    have h1 := fo_d_0 q
    have h2 : G b = b := (fo_d_z F).mp (by omega)
    rw [fo_r_of q, fo_r_of h2] at hr
    exact hr)
  exact ⟨ha, fun q => ha ((fo_d_z F).mp (by have := fo_d_0 q; omega))⟩
theorem fo_mF_eq {G : Nat → Nat} {k a b : Nat} (h : a = b) : fo_mF G k a b = a := by
  cases k with
  | zero => rfl
  | succ k => show (if a = b then a else fo_mF G k (G a) (G b)) = a; rw [if_pos h]
theorem fo_mF_st {G : Nat → Nat} {i a b : Nat} (hi : i < 64) (h : a ≠ b) : fo_mF G (64 - i) a b = fo_mF G (64 - (i + 1)) (G a) (G b) := by
  rw [show 64 - i = (64 - (i + 1)) + 1 by omega]
  show (if a = b then a else fo_mF G (64 - (i + 1)) (G a) (G b)) = _
  rw [if_neg h]
theorem fo_dist_v {n : Nat} {G : Nat → Nat} (F : fo_ok n G) {u v : Nat} (hr : fo_r G u = fo_r G v) : nI (fo_d G u) + nI (fo_d G v) - 2 * nI (fo_d G (fo_m G u v)) = nI (fo_dist G u v) := by
  obtain ⟨m1, m2, _⟩ := fo_m_spec F hr
  rw [show (2 : Int32) = nI 2 from rfl, pk_mul, nI_add, pk_sub (by omega)]
  rfl
