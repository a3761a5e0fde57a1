/-! counts, meeting points, distances, paths of the pure forest -/
def fo_cnt (f : Nat → Bool) : Nat → Nat
  | 0 => 0
  | k + 1 => if f k = true then fo_cnt f k + 1 else fo_cnt f k
theorem fo_cnt_le (f : Nat → Bool) (k : Nat) : fo_cnt f k ≤ k := by
  induction k with
  | zero => exact Nat.le_refl 0
  | succ k ih =>
    show (if f k = true then fo_cnt f k + 1 else fo_cnt f k) ≤ k + 1
    by_cases h : f k = true
    · rw [if_pos h]; omega
    · rw [if_neg h]; omega
theorem fo_cnt_t {f : Nat → Bool} {k : Nat} (h : f k = true) : fo_cnt f (k + 1) = fo_cnt f k + 1 := if_pos h
theorem fo_cnt_f {f : Nat → Bool} {k : Nat} (h : f k = false) : fo_cnt f (k + 1) = fo_cnt f k := if_neg (by rw [h]; decide)
theorem fo_cnt_eq {f g : Nat → Bool} {k : Nat} (h : ∀ v, v < k → f v = g v) : fo_cnt f k = fo_cnt g k := by
  induction k with
  | zero => rfl
  | succ k ih =>
    show (if f k = true then fo_cnt f k + 1 else fo_cnt f k) = (if g k = true then fo_cnt g k + 1 else fo_cnt g k)
    rw [ih (fun v hv => h v (by omega)), h k (by omega)]
def fo_sum (f : Nat → Bool) (va : Nat → Int32) : Nat → Int32
  | 0 => 0
  | k + 1 => if f k = true then fo_sum f va k + va k else fo_sum f va k
theorem fo_sum_t {f : Nat → Bool} {va : Nat → Int32} {k : Nat} (h : f k = true) : fo_sum f va (k + 1) = fo_sum f va k + va k := if_pos h
theorem fo_sum_f {f : Nat → Bool} {va : Nat → Int32} {k : Nat} (h : f k = false) : fo_sum f va (k + 1) = fo_sum f va k := if_neg (by rw [h]; decide)
/-- v lies in the subtree of t -/
def fo_bel (p : Nat → Nat) (v t : Nat) : Bool := decide (fo_d p t ≤ fo_d p v) && decide (fo_up p (fo_d p v - fo_d p t) v = t)
theorem fo_bel_root {n : Nat} {p : Nat → Nat} (_F : fo_ok n p) {v t : Nat} (ht : p t = t) : fo_bel p v t = decide (fo_r p v = t) := by
  unfold fo_bel fo_r
  rw [fo_d_0 ht]
  simp
theorem fo_bel_self (p : Nat → Nat) (v : Nat) : fo_bel p v v = true := by
  unfold fo_bel
  simp [fo_up]
theorem fo_bel_step {n : Nat} {p : Nat → Nat} (F : fo_ok n p) {v t : Nat} (h1 : v ≠ t) (h2 : ¬ p v = v) : fo_bel p v t = fo_bel p (p v) t := by
  unfold fo_bel
  have hd := fo_d_s F h2
  by_cases h : fo_d p t ≤ fo_d p (p v)
  · have e : fo_d p v - fo_d p t = (fo_d p (p v) - fo_d p t) + 1 := by omega
    rw [e]
    have a1 : fo_d p t ≤ fo_d p v := by omega
    rw [show fo_up p (fo_d p (p v) - fo_d p t + 1) v = fo_up p (fo_d p (p v) - fo_d p t) (p v) from rfl]
    simp [a1, h]
  · by_cases h3 : fo_d p t ≤ fo_d p v
    · have e : fo_d p v - fo_d p t = 0 := by omega
      rw [e]
      simp [h, fo_up, h1]
    · simp [h, h3]
theorem fo_bel_0 {n : Nat} {p : Nat → Nat} (_F : fo_ok n p) {v t : Nat} (h1 : v ≠ t) (h2 : p v = v) : fo_bel p v t = false := by
  unfold fo_bel
  have hd := fo_d_0 h2
  rw [hd]
  simp [fo_up, h1]
/-- the meeting point -/
def fo_mF (p : Nat → Nat) : Nat → Nat → Nat → Nat
  | 0, a, _ => a
  | k + 1, a, b => if a = b then a else fo_mF p k (p a) (p b)
def fo_m (p : Nat → Nat) (u v : Nat) : Nat := fo_mF p 64 (fo_up p (fo_d p u - fo_d p v) u) (fo_up p (fo_d p v - fo_d p u) v)
theorem fo_mF_spec {n : Nat} {p : Nat → Nat} (F : fo_ok n p) : ∀ (k a b : Nat), fo_d p a = fo_d p b → fo_r p a = fo_r p b → fo_d p a < k → ∃ i, i ≤ fo_d p a ∧ fo_mF p k a b = fo_up p i a ∧ fo_up p i a = fo_up p i b ∧ ∀ j, j < i → fo_up p j a ≠ fo_up p j b := by
  intro k
  induction k with
  | zero => intro a b _ _ h; exact absurd h (Nat.not_lt_zero _)
  | succ k ih =>
    intro a b hd hr hk
    by_cases e : a = b
    · refine ⟨0, Nat.zero_le _, ?_, e, fun j h => absurd h (Nat.not_lt_zero _)⟩
      show (if a = b then a else fo_mF p k (p a) (p b)) = a
      rw [if_pos e]
    · have ha : ¬ p a = a := fun q => e (by
        have h1 := fo_d_0 q
        have h2 : p b = b := (fo_d_z F).mp (by omega)
        rw [fo_r_of q, fo_r_of h2] at hr
        exact hr)
      have hb : ¬ p b = b := fun q => ha ((fo_d_z F).mp (by have := fo_d_0 q; omega))
      have h1 := fo_d_s F ha
      have h2 := fo_d_s F hb
      obtain ⟨i, i1, i2, i3, i4⟩ := ih (p a) (p b) (by omega) (by rw [fo_r_p F, fo_r_p F]; exact hr) (by omega)
      refine ⟨i + 1, by omega, ?_, i3, fun j hj => ?_⟩
      · show (if a = b then a else fo_mF p k (p a) (p b)) = fo_up p i (p a)
        rw [if_neg e]; exact i2
      · cases j with
        | zero => exact e
        | succ j => exact i4 j (by omega)
theorem fo_mF_fuel {n : Nat} {p : Nat → Nat} (F : fo_ok n p) {k k' a b : Nat} (hd : fo_d p a = fo_d p b) (hr : fo_r p a = fo_r p b) (hk : fo_d p a < k) (hk' : fo_d p a < k') : fo_mF p k a b = fo_mF p k' a b := by
  obtain ⟨i, i1, i2, i3, i4⟩ := fo_mF_spec F k a b hd hr hk
  obtain ⟨j, j1, j2, j3, j4⟩ := fo_mF_spec F k' a b hd hr hk'
  have : i = j := by
    rcases Nat.lt_trichotomy i j with h | h | h
    · exact absurd i3 (j4 i h)
    · exact h
    · exact absurd j3 (i4 j h)
  rw [i2, j2, this]
theorem fo_m_spec {n : Nat} {p : Nat → Nat} (F : fo_ok n p) {u v : Nat} (hr : fo_r p u = fo_r p v) : fo_d p (fo_m p u v) ≤ fo_d p u ∧ fo_d p (fo_m p u v) ≤ fo_d p v ∧ fo_up p (fo_d p u - fo_d p (fo_m p u v)) u = fo_m p u v ∧ fo_up p (fo_d p v - fo_d p (fo_m p u v)) v = fo_m p u v ∧ ∀ e, fo_d p (fo_m p u v) < e → e ≤ fo_d p u → e ≤ fo_d p v → fo_up p (fo_d p u - e) u ≠ fo_up p (fo_d p v - e) v := by
  have da := fo_d_up F u (fo_d p u - fo_d p v) (Nat.sub_le _ _)
  have db := fo_d_up F v (fo_d p v - fo_d p u) (Nat.sub_le _ _)
  have l1 := fo_d_le F u
  obtain ⟨i, i1, i2, i3, i4⟩ := fo_mF_spec F 64 (fo_up p (fo_d p u - fo_d p v) u) (fo_up p (fo_d p v - fo_d p u) v) (by omega) (by rw [fo_r_up F, fo_r_up F]; exact hr) (by omega)
  have hm : fo_m p u v = fo_up p i (fo_up p (fo_d p u - fo_d p v) u) := i2
  have hdm : fo_d p (fo_m p u v) = fo_d p (fo_up p (fo_d p u - fo_d p v) u) - i := by
    rw [hm]; exact fo_d_up F _ i i1
  refine ⟨by omega, by omega, ?_, ?_, ?_⟩
  · rw [show fo_d p u - fo_d p (fo_m p u v) = (fo_d p u - fo_d p v) + i by omega, fo_up_add]
    exact hm.symm
  · rw [show fo_d p v - fo_d p (fo_m p u v) = (fo_d p v - fo_d p u) + i by omega, fo_up_add, ← i3]
    exact hm.symm
  · intro e h1 h2 h3
    have hj := i4 (fo_d p u - e - (fo_d p u - fo_d p v)) (by omega)
    rw [← fo_up_add, ← fo_up_add] at hj
    rw [show fo_d p u - e = (fo_d p u - fo_d p v) + (fo_d p u - e - (fo_d p u - fo_d p v)) by omega, show fo_d p v - e = (fo_d p v - fo_d p u) + (fo_d p u - e - (fo_d p u - fo_d p v)) by omega]
    exact hj
theorem fo_m_le {n : Nat} {p : Nat → Nat} (F : fo_ok n p) {u v : Nat} (hr : fo_r p u = fo_r p v) {e : Nat} (h1 : e ≤ fo_d p u) (h2 : e ≤ fo_d p v) : fo_up p (fo_d p u - e) u = fo_up p (fo_d p v - e) v ↔ e ≤ fo_d p (fo_m p u v) := by
  obtain ⟨m1, m2, m3, m4, m5⟩ := fo_m_spec F hr
  constructor
  · intro h
    apply Classical.byContradiction
    intro hc
    exact m5 e (by omega) h1 h2 h
  · intro h
    rw [show fo_d p u - e = (fo_d p u - fo_d p (fo_m p u v)) + (fo_d p (fo_m p u v) - e) by omega, show fo_d p v - e = (fo_d p v - fo_d p (fo_m p u v)) + (fo_d p (fo_m p u v) - e) by omega, fo_up_add, fo_up_add, m3, m4]
theorem fo_m_lt {n : Nat} {p : Nat → Nat} (F : fo_ok n p) {u v : Nat} (hr : fo_r p u = fo_r p v) (hu : u < n) : fo_m p u v < n := by
  obtain ⟨m1, m2, m3, m4, m5⟩ := fo_m_spec F hr
  rw [← m3]; exact fo_lt F hu _
theorem fo_dm_comm {n : Nat} {p : Nat → Nat} (F : fo_ok n p) {u v : Nat} (hr : fo_r p u = fo_r p v) : fo_d p (fo_m p u v) = fo_d p (fo_m p v u) := by
  obtain ⟨m1, m2, m3, m4, m5⟩ := fo_m_spec F hr
  obtain ⟨k1, k2, k3, k4, k5⟩ := fo_m_spec F hr.symm
  have h1 := (fo_m_le F hr.symm m2 m1).mp (by rw [m3, m4])
  have h2 := (fo_m_le F hr k2 k1).mp (by rw [k3, k4])
  omega
/-- how many edges lie between them -/
def fo_dist (p : Nat → Nat) (u v : Nat) : Nat := fo_d p u + fo_d p v - 2 * fo_d p (fo_m p u v)
theorem fo_dist_comm {n : Nat} {p : Nat → Nat} (F : fo_ok n p) {u v : Nat} (hr : fo_r p u = fo_r p v) : fo_dist p u v = fo_dist p v u := by
  unfold fo_dist
  rw [fo_dm_comm F hr, Nat.add_comm]
theorem fo_m_self {n : Nat} {p : Nat → Nat} (F : fo_ok n p) (v : Nat) : fo_d p (fo_m p v v) = fo_d p v := by
  obtain ⟨m1, m2, m3, m4, m5⟩ := fo_m_spec F (u := v) (v := v) rfl
  have := (fo_m_le F (u := v) (v := v) rfl (Nat.le_refl _) (Nat.le_refl _)).mp rfl
  omega
theorem fo_dist_self {n : Nat} {p : Nat → Nat} (F : fo_ok n p) (v : Nat) : fo_dist p v v = 0 := by
  unfold fo_dist
  rw [fo_m_self F]
  omega
theorem fo_ultra {n : Nat} {p : Nat → Nat} (F : fo_ok n p) {x y z : Nat} (h1 : fo_r p x = fo_r p y) (h2 : fo_r p y = fo_r p z) : fo_d p (fo_m p x y) ≤ fo_d p (fo_m p x z) ∨ fo_d p (fo_m p y z) ≤ fo_d p (fo_m p x z) := by
  obtain ⟨a1, a2, a3, a4, a5⟩ := fo_m_spec F h1
  obtain ⟨b1, b2, b3, b4, b5⟩ := fo_m_spec F h2
  rcases Nat.le_total (fo_d p (fo_m p x y)) (fo_d p (fo_m p y z)) with h | h
  · left
    refine (fo_m_le F (h1.trans h2) a1 (by omega)).mp ?_
    rw [(fo_m_le F h1 a1 a2).mpr (Nat.le_refl _), (fo_m_le F h2 a2 (by omega)).mpr h]
  · right
    refine (fo_m_le F (h1.trans h2) (by omega) b2).mp ?_
    rw [(fo_m_le F h1 (by omega) b1).mpr h, (fo_m_le F h2 b1 b2).mpr (Nat.le_refl _)]
theorem fo_four {n : Nat} {p : Nat → Nat} (F : fo_ok n p) {x y z w : Nat} (h1 : fo_r p x = fo_r p y) (h2 : fo_r p y = fo_r p z) (h3 : fo_r p z = fo_r p w) : fo_dist p x y + fo_dist p z w ≤ fo_dist p x z + fo_dist p y w ∨ fo_dist p x y + fo_dist p z w ≤ fo_dist p x w + fo_dist p y z := by
  have a1 := fo_ultra F (x := x) (y := z) (z := y) (by rw [h1, h2]) h2.symm
  have a2 := fo_ultra F (x := x) (y := w) (z := y) (by rw [h1, h2, h3]) (by rw [h2, h3])
  have a3 := fo_ultra F (x := z) (y := x) (z := w) (by rw [h1, h2]) (by rw [h1, h2, h3])
  have a4 := fo_ultra F (x := z) (y := y) (z := w) h2.symm (by rw [h2, h3])
  have c1 := fo_dm_comm F (u := z) (v := y) h2.symm
  have c2 := fo_dm_comm F (u := w) (v := y) (by rw [h2, h3])
  have c3 := fo_dm_comm F (u := z) (v := x) (by rw [h1, h2])
  have e1 := fo_m_spec F h1
  have e2 := fo_m_spec F h3
  have e3 := fo_m_spec F (u := x) (v := z) (by rw [h1, h2])
  have e4 := fo_m_spec F (u := y) (v := w) (by rw [h2, h3])
  have e5 := fo_m_spec F (u := x) (v := w) (by rw [h1, h2, h3])
  have e6 := fo_m_spec F h2
  unfold fo_dist
  have := e1.1; have := e1.2.1; have := e2.1; have := e2.2.1; have := e3.1; have := e3.2.1; have := e4.1; have := e4.2.1; have := e5.1; have := e5.2.1; have := e6.1; have := e6.2.1
  omega
theorem fo_dist_le {n : Nat} {p : Nat → Nat} (F : fo_ok n p) (u v : Nat) : fo_dist p u v ≤ 126 := by
  have := fo_d_le F u
  have := fo_d_le F v
  unfold fo_dist
  omega
/-- the path from u to v: its vertices by their places -/
def fo_pi (p : Nat → Nat) (u v : Nat) : Nat := fo_d p u - fo_d p (fo_m p u v)
def fo_pL (p : Nat → Nat) (u v : Nat) : Nat := fo_pi p u v + (fo_d p v - fo_d p (fo_m p u v)) + 1
def fo_pt (p : Nat → Nat) (u v : Nat) : Nat → Nat := fun k => if k ≤ fo_pi p u v then fo_up p k u else fo_up p (fo_pL p u v - 1 - k) v
theorem fo_pt_lt {n : Nat} {p : Nat → Nat} (F : fo_ok n p) {u v : Nat} (hu : u < n) (hv : v < n) (k : Nat) : fo_pt p u v k < n := by
  unfold fo_pt
  by_cases h : k ≤ fo_pi p u v
  · rw [if_pos h]; exact fo_lt F hu _
  · rw [if_neg h]; exact fo_lt F hv _
theorem fo_pt_ne {n : Nat} {p : Nat → Nat} (F : fo_ok n p) {u v : Nat} (hr : fo_r p u = fo_r p v) {i j : Nat} (hij : i < j) (hj : j < fo_pL p u v) : fo_pt p u v i ≠ fo_pt p u v j := by
  obtain ⟨m1, m2, m3, m4, m5⟩ := fo_m_spec F hr
  unfold fo_pt
  have hL : fo_pL p u v = fo_pi p u v + (fo_d p v - fo_d p (fo_m p u v)) + 1 := rfl
  have hI : fo_pi p u v = fo_d p u - fo_d p (fo_m p u v) := rfl
  by_cases h1 : j ≤ fo_pi p u v
  · rw [if_pos h1, if_pos (by omega)]
    exact fo_up_ne F (by omega) (by omega) (by omega)
  · rw [if_neg h1]
    by_cases h2 : i ≤ fo_pi p u v
    · rw [if_pos h2]
      intro he
      have d1 := fo_d_up F u i (by omega)
      have d2 := fo_d_up F v (fo_pL p u v - 1 - j) (by omega)
      rw [he] at d1
      refine m5 (fo_d p u - i) (by omega) (by omega) (by omega) ?_
      rw [show fo_d p u - (fo_d p u - i) = i by omega, show fo_d p v - (fo_d p u - i) = fo_pL p u v - 1 - j by omega]
      exact he
    · rw [if_neg h2]
      exact fo_up_ne F (by omega) (by omega) (by omega)
theorem fo_pL_le {n : Nat} {p : Nat → Nat} (F : fo_ok n p) {u v : Nat} (hr : fo_r p u = fo_r p v) (hu : u < n) (hv : v < n) : fo_pL p u v ≤ n := by
  apply Classical.byContradiction
  intro hc
  obtain ⟨i, j, hij, hj, he⟩ := fo_ph n (fo_pt p u v) (fun i _ => fo_pt_lt F hu hv i)
  exact fo_pt_ne F hr hij (by omega) he
theorem fo_pL_d {n : Nat} {p : Nat → Nat} (F : fo_ok n p) {u v : Nat} (hr : fo_r p u = fo_r p v) : fo_pL p u v = fo_dist p u v + 1 := by
  obtain ⟨m1, m2, m3, m4, m5⟩ := fo_m_spec F hr
  unfold fo_pL fo_pi fo_dist
  omega
