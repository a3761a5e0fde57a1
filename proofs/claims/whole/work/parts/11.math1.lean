/-! the pure forest: p v is the parent of v, or v itself where v is a root -/
def fo_up (p : Nat → Nat) : Nat → Nat → Nat
  | 0, v => v
  | k + 1, v => fo_up p k (p v)
theorem fo_up_s (p : Nat → Nat) (k v : Nat) : fo_up p (k + 1) v = p (fo_up p k v) := by
  induction k generalizing v with
  | zero => rfl
  | succ k ih => exact ih (p v)
theorem fo_up_add (p : Nat → Nat) (a b v : Nat) : fo_up p (a + b) v = fo_up p b (fo_up p a v) := by
  induction a generalizing v with
  | zero => rw [Nat.zero_add]; rfl
  | succ a ih => rw [Nat.add_right_comm]; exact ih (p v)
theorem fo_up_root {p : Nat → Nat} {v : Nat} (h : p v = v) (k : Nat) : fo_up p k v = v := by
  induction k with
  | zero => rfl
  | succ k ih => show fo_up p k (p v) = v; rw [h]; exact ih
def fo_dF (p : Nat → Nat) : Nat → Nat → Nat
  | 0, _ => 0
  | k + 1, v => if p v = v then 0 else fo_dF p k (p v) + 1
def fo_d (p : Nat → Nat) (v : Nat) : Nat := fo_dF p 64 v
def fo_r (p : Nat → Nat) (v : Nat) : Nat := fo_up p (fo_d p v) v
def fo_ok (n : Nat) (p : Nat → Nat) : Prop := 1 ≤ n ∧ n ≤ 64 ∧ (∀ v, v < n → p v < n) ∧ (∀ v, n ≤ v → p v = v) ∧ (∀ v, p (fo_up p 63 v) = fo_up p 63 v)
theorem fo_dF_st {p : Nat → Nat} : ∀ (k v : Nat), p (fo_up p k v) = fo_up p k v → ∀ m, k ≤ m → fo_dF p m v = fo_dF p k v := by
  intro k
  induction k with
  | zero =>
    intro v h m _
    have h : p v = v := h
    cases m with
    | zero => rfl
    | succ m => show (if p v = v then 0 else fo_dF p m (p v) + 1) = 0; rw [if_pos h]
  | succ k ih =>
    intro v h m hm
    cases m with
    | zero => exact absurd hm (Nat.not_succ_le_zero k)
    | succ m =>
      show (if p v = v then 0 else fo_dF p m (p v) + 1) = (if p v = v then 0 else fo_dF p k (p v) + 1)
      rw [ih (p v) h m (Nat.le_of_succ_le_succ hm)]
theorem fo_dF_le (p : Nat → Nat) : ∀ (k v : Nat), fo_dF p k v ≤ k := by
  intro k
  induction k with
  | zero => intro v; exact Nat.le_refl 0
  | succ k ih =>
    intro v
    show (if p v = v then 0 else fo_dF p k (p v) + 1) ≤ k + 1
    by_cases h : p v = v
    · rw [if_pos h]; exact Nat.zero_le _
    · rw [if_neg h]; exact Nat.succ_le_succ (ih (p v))
theorem fo_dF_root {p : Nat → Nat} : ∀ (k v : Nat), p (fo_up p k v) = fo_up p k v → p (fo_up p (fo_dF p k v) v) = fo_up p (fo_dF p k v) v := by
  intro k
  induction k with
  | zero => intro v h; exact h
  | succ k ih =>
    intro v h
    show p (fo_up p (if p v = v then 0 else fo_dF p k (p v) + 1) v) = fo_up p (if p v = v then 0 else fo_dF p k (p v) + 1) v
    by_cases e : p v = v
    · rw [if_pos e]; exact e
    · rw [if_neg e]; exact ih (p v) h
theorem fo_ph : ∀ (n : Nat) (f : Nat → Nat), (∀ i, i ≤ n → f i < n) → ∃ i j, i < j ∧ j ≤ n ∧ f i = f j := by
  intro n
  induction n with
  | zero => intro f h; exact absurd (h 0 (Nat.le_refl 0)) (Nat.not_lt_zero _)
  | succ n ih =>
    intro f h
    by_cases e : ∃ i, i ≤ n ∧ f i = f (n + 1)
    · obtain ⟨i, hi, he⟩ := e
      exact ⟨i, n + 1, by omega, Nat.le_refl _, he⟩
    · have ne : ∀ i, i ≤ n → f i ≠ f (n + 1) := fun i hi he => e ⟨i, hi, he⟩
      obtain ⟨i, j, hij, hj, he⟩ := ih (fun i => if f i = n then f (n + 1) else f i) (by
        intro i hi
        show (if f i = n then f (n + 1) else f i) < n
        have h1 := h i (by omega)
        have h2 := h (n + 1) (Nat.le_refl _)
        have h3 := ne i hi
        by_cases e1 : f i = n
        · rw [if_pos e1]; omega
        · rw [if_neg e1]; omega)
      refine ⟨i, j, hij, by omega, ?_⟩
      have hi3 := ne i (by omega)
      have hj3 := ne j hj
      have he : (if f i = n then f (n + 1) else f i) = (if f j = n then f (n + 1) else f j) := he
      by_cases e1 : f i = n
      · by_cases e2 : f j = n
        · rw [e1, e2]
        · rw [if_pos e1, if_neg e2] at he; exact absurd he.symm hj3
      · by_cases e2 : f j = n
        · rw [if_neg e1, if_pos e2] at he; exact absurd he hi3
        · rw [if_neg e1, if_neg e2] at he; exact he
/-- it comes to a root -/
def fo_rch (p : Nat → Nat) (v : Nat) : Prop := ∃ k, p (fo_up p k v) = fo_up p k v
theorem fo_rch_s {p : Nat → Nat} {v : Nat} (h : fo_rch p (p v)) : fo_rch p v := by
  obtain ⟨k, h⟩ := h
  exact ⟨k + 1, h⟩
theorem fo_rch_0 {p : Nat → Nat} {v : Nat} (h : p v = v) : fo_rch p v := ⟨0, h⟩
theorem fo_up_lt {n : Nat} {p : Nat → Nat} (h : ∀ v, v < n → p v < n) {v : Nat} (hv : v < n) (k : Nat) : fo_up p k v < n := by
  induction k generalizing v with
  | zero => exact hv
  | succ k ih => exact ih (h v hv)
theorem fo_mk {n : Nat} {p : Nat → Nat} (h1 : 1 ≤ n) (h2 : n ≤ 64) (h3 : ∀ v, v < n → p v < n) (h4 : ∀ v, n ≤ v → p v = v) (h5 : ∀ v, v < n → fo_rch p v) : fo_ok n p := by
  refine ⟨h1, h2, h3, h4, fun v => ?_⟩
  by_cases hv : v < n
  · apply Classical.byContradiction
    intro hc
    have hnr : ∀ i, i ≤ 63 → p (fo_up p i v) ≠ fo_up p i v := by
      intro i hi he
      apply hc
      have : fo_up p 63 v = fo_up p i v := by
        rw [show 63 = i + (63 - i) by omega, fo_up_add]
        exact fo_up_root he _
      rw [this]; exact he
    obtain ⟨k, hk⟩ := h5 v hv
    obtain ⟨i, j, hij, hj, he⟩ := fo_ph n (fun i => fo_up p i v) (fun i _ => fo_up_lt h3 hv i)
    have he : fo_up p i v = fo_up p j v := he
    have per : ∀ t, fo_up p (i + t * (j - i)) v = fo_up p i v := by
      intro t
      induction t with
      | zero => rw [Nat.zero_mul]; rfl
      | succ t ih =>
        rw [show i + (t + 1) * (j - i) = (i + t * (j - i)) + (j - i) by rw [Nat.add_mul, Nat.one_mul, Nat.add_assoc], fo_up_add, ih, ← fo_up_add, show i + (j - i) = j by omega]
        exact he.symm
    have hi : i ≤ 63 := by omega
    apply hnr i hi
    rw [← per k]
    have hge : k ≤ i + k * (j - i) := by
      have : k * 1 ≤ k * (j - i) := Nat.mul_le_mul_left k (by omega)
      omega
    have e2 : fo_up p (i + k * (j - i)) v = fo_up p k v := by
      rw [show i + k * (j - i) = k + (i + k * (j - i) - k) by omega, fo_up_add]
      exact fo_up_root hk _
    rw [e2]; exact hk
  · have e := h4 v (by omega)
    rw [fo_up_root e 63]; exact e
section FO
variable {n : Nat} {p : Nat → Nat} (F : fo_ok n p)
theorem fo_lt (F : fo_ok n p) {v : Nat} (hv : v < n) (k : Nat) : fo_up p k v < n := fo_up_lt F.2.2.1 hv k
theorem fo_d_0 {v : Nat} (h : p v = v) : fo_d p v = 0 := by
  show (if p v = v then 0 else fo_dF p 63 (p v) + 1) = 0
  rw [if_pos h]
theorem fo_d_s (F : fo_ok n p) {v : Nat} (h : ¬ p v = v) : fo_d p v = fo_d p (p v) + 1 := by
  have e : fo_d p v = fo_dF p 63 (p v) + 1 := by
    show (if p v = v then 0 else fo_dF p 63 (p v) + 1) = _
    rw [if_neg h]
  rw [e]
  unfold fo_d
  rw [fo_dF_st 63 (p v) (F.2.2.2.2 (p v)) 64 (by omega)]
theorem fo_d_le (F : fo_ok n p) (v : Nat) : fo_d p v ≤ 63 := by
  unfold fo_d
  rw [fo_dF_st 63 v (F.2.2.2.2 v) 64 (by omega)]
  exact fo_dF_le p 63 v
theorem fo_d_z (F : fo_ok n p) {v : Nat} : fo_d p v = 0 ↔ p v = v := by
  refine ⟨fun h => ?_, fo_d_0⟩
  apply Classical.byContradiction
  intro hc
  have := fo_d_s F hc
  omega
theorem fo_d_up (F : fo_ok n p) (v : Nat) : ∀ i, i ≤ fo_d p v → fo_d p (fo_up p i v) = fo_d p v - i := by
  intro i
  induction i with
  | zero => intro _; rfl
  | succ i ih =>
    intro h
    have e := ih (by omega)
    rw [fo_up_s]
    have hn : ¬ p (fo_up p i v) = fo_up p i v := fun he => by
      have := (fo_d_z F).mpr he
      omega
    have := fo_d_s F hn
    omega
theorem fo_nr (F : fo_ok n p) {v i : Nat} (h : i < fo_d p v) : ¬ p (fo_up p i v) = fo_up p i v := fun he => by
  have := (fo_d_z F).mpr he
  have := fo_d_up F v i (by omega)
  omega
theorem fo_r_root (F : fo_ok n p) (v : Nat) : p (fo_r p v) = fo_r p v := by
  have := fo_d_up F v (fo_d p v) (Nat.le_refl _)
  exact (fo_d_z F).mp (by show fo_d p (fo_up p (fo_d p v) v) = 0; omega)
theorem fo_r_of {v : Nat} (h : p v = v) : fo_r p v = v := by
  unfold fo_r
  rw [fo_d_0 h]; rfl
theorem fo_r_p (F : fo_ok n p) (v : Nat) : fo_r p (p v) = fo_r p v := by
  by_cases h : p v = v
  · rw [h]
  · unfold fo_r
    rw [fo_d_s F h]; rfl
theorem fo_r_up (F : fo_ok n p) (v k : Nat) : fo_r p (fo_up p k v) = fo_r p v := by
  induction k with
  | zero => rfl
  | succ k ih => rw [fo_up_s, fo_r_p F, ih]
theorem fo_r_lt (F : fo_ok n p) {v : Nat} (hv : v < n) : fo_r p v < n := fo_lt F hv _
theorem fo_r_r (F : fo_ok n p) (v : Nat) : fo_r p (fo_r p v) = fo_r p v := fo_r_of (fo_r_root F v)
theorem fo_up_ne (F : fo_ok n p) {v i j : Nat} (hi : i ≤ fo_d p v) (hj : j ≤ fo_d p v) (h : i ≠ j) : fo_up p i v ≠ fo_up p j v := fun he => by
  have h1 := fo_d_up F v i hi
  have h2 := fo_d_up F v j hj
  rw [he] at h1
  omega
end FO
/-- p with a new parent x of k -/
def fo_set (p : Nat → Nat) (k x : Nat) : Nat → Nat := fun j => if j = k then x else p j
theorem fo_set_s (p : Nat → Nat) (k x : Nat) : fo_set p k x k = x := if_pos rfl
theorem fo_set_n (p : Nat → Nat) {k x j : Nat} (h : j ≠ k) : fo_set p k x j = p j := if_neg h
theorem fo_cut {n : Nat} {p : Nat → Nat} (F : fo_ok n p) {c : Nat} (_ : c < n) : fo_ok n (fo_set p c c) := by
  refine fo_mk F.1 F.2.1 (fun v hv => ?_) (fun v hv => ?_) (fun v _ => ?_)
  · by_cases e : v = c
    · rw [e, fo_set_s]; omega
    · rw [fo_set_n p e]; exact F.2.2.1 v hv
  · rw [fo_set_n p (by omega)]; exact F.2.2.2.1 v hv
  · have key : ∀ d w, fo_d p w = d → fo_rch (fo_set p c c) w := by
      intro d
      induction d with
      | zero =>
        intro w hw
        have e := (fo_d_z F).mp hw
        refine fo_rch_0 ?_
        by_cases e2 : w = c
        · rw [e2, fo_set_s]
        · rw [fo_set_n p e2]; exact e
      | succ d ih =>
        intro w hw
        by_cases e2 : w = c
        · exact fo_rch_0 (by rw [e2, fo_set_s])
        · refine fo_rch_s ?_
          rw [fo_set_n p e2]
          refine ih (p w) ?_
          have hn : ¬ p w = w := fun e => by have := fo_d_0 e; omega
          have := fo_d_s F hn
          omega
    exact key _ v rfl
theorem fo_link {n : Nat} {p : Nat → Nat} (F : fo_ok n p) {c u : Nat} (hc : c < n) (hu : u < n) (hr : p c = c) (hne : ¬ fo_r p u = c) : fo_ok n (fo_set p c u) := by
  have A : ∀ d w, fo_d p w = d → ¬ fo_r p w = c → fo_rch (fo_set p c u) w := by
    intro d
    induction d with
    | zero =>
      intro w hw hx
      have e := (fo_d_z F).mp hw
      have e2 : w ≠ c := fun e2 => hx (by rw [fo_r_of e, e2])
      exact fo_rch_0 (by rw [fo_set_n p e2]; exact e)
    | succ d ih =>
      intro w hw hx
      have hn : ¬ p w = w := fun e => by have := fo_d_0 e; omega
      have e2 : w ≠ c := fun e2 => hn (by rw [e2]; exact hr)
      refine fo_rch_s ?_
      rw [fo_set_n p e2]
      refine ih (p w) ?_ (by rw [fo_r_p F]; exact hx)
      have := fo_d_s F hn
      omega
  have B : fo_rch (fo_set p c u) c := fo_rch_s (by rw [fo_set_s]; exact A _ u rfl hne)
  have C : ∀ d w, fo_d p w = d → fo_rch (fo_set p c u) w := by
    intro d
    induction d with
    | zero =>
      intro w hw
      by_cases e2 : w = c
      · rw [e2]; exact B
      · exact fo_rch_0 (by rw [fo_set_n p e2]; exact (fo_d_z F).mp hw)
    | succ d ih =>
      intro w hw
      by_cases e2 : w = c
      · rw [e2]; exact B
      · refine fo_rch_s ?_
        rw [fo_set_n p e2]
        refine ih (p w) ?_
        have hn : ¬ p w = w := fun e => by have := fo_d_0 e; omega
        have := fo_d_s F hn
        omega
  refine fo_mk F.1 F.2.1 (fun v hv => ?_) (fun v hv => ?_) (fun v _ => C _ v rfl)
  · by_cases e : v = c
    · rw [e, fo_set_s]; exact hu
    · rw [fo_set_n p e]; exact F.2.2.1 v hv
  · rw [fo_set_n p (by omega)]; exact F.2.2.2.1 v hv
/-- another root: the path of v turned, its first k vertices -/
def fo_rs (p : Nat → Nat) (v : Nat) : Nat → (Nat → Nat)
  | 0 => p
  | k + 1 => fo_set (fo_rs p v k) (fo_up p k v) (fo_up p (k - 1) v)
def fo_rr (p : Nat → Nat) (v : Nat) : Nat → Nat := fo_rs p v (fo_d p v + 1)
theorem fo_rs_o (p : Nat → Nat) (v w : Nat) : ∀ k, (∀ i, i < k → w ≠ fo_up p i v) → fo_rs p v k w = p w := by
  intro k
  induction k with
  | zero => intro _; rfl
  | succ k ih =>
    intro h
    show fo_set (fo_rs p v k) (fo_up p k v) (fo_up p (k - 1) v) w = p w
    rw [fo_set_n _ (h k (Nat.lt_succ_self k))]
    exact ih (fun i hi => h i (by omega))
theorem fo_rs_at {n : Nat} {p : Nat → Nat} (F : fo_ok n p) (v : Nat) {k : Nat} (hk : k ≤ fo_d p v) : fo_rs p v k (fo_up p k v) = p (fo_up p k v) :=
  fo_rs_o p v _ k (fun i hi => fo_up_ne F hk (by omega) (by omega))
theorem fo_rs_on {n : Nat} {p : Nat → Nat} (F : fo_ok n p) (v i : Nat) : ∀ k, i < k → k ≤ fo_d p v + 1 → fo_rs p v k (fo_up p i v) = fo_up p (i - 1) v := by
  intro k
  induction k with
  | zero => intro h; exact absurd h (Nat.not_lt_zero _)
  | succ k ih =>
    intro hi hk
    show fo_set (fo_rs p v k) (fo_up p k v) (fo_up p (k - 1) v) (fo_up p i v) = _
    by_cases e : i = k
    · rw [e, fo_set_s]
    · rw [fo_set_n _ (fo_up_ne F (by omega) (by omega) e)]
      exact ih (by omega) (by omega)
theorem fo_rs_lt {n : Nat} {p : Nat → Nat} (F : fo_ok n p) {v w : Nat} (hv : v < n) (hw : w < n) (k : Nat) : fo_rs p v k w < n := by
  induction k with
  | zero => exact F.2.2.1 w hw
  | succ k ih =>
    show fo_set (fo_rs p v k) (fo_up p k v) (fo_up p (k - 1) v) w < n
    by_cases e : w = fo_up p k v
    · rw [e, fo_set_s]; exact fo_lt F hv _
    · rw [fo_set_n _ e]; exact ih
theorem fo_rr_ok {n : Nat} {p : Nat → Nat} (F : fo_ok n p) {v : Nat} (hv : v < n) : fo_ok n (fo_rr p v) := by
  have A : ∀ i, i ≤ fo_d p v → fo_rch (fo_rr p v) (fo_up p i v) := by
    intro i
    induction i with
    | zero =>
      intro _
      exact fo_rch_0 (fo_rs_on F v 0 _ (by omega) (Nat.le_refl _))
    | succ i ih =>
      intro h
      refine fo_rch_s ?_
      rw [show fo_rr p v (fo_up p (i + 1) v) = fo_up p i v from fo_rs_on F v (i + 1) _ (by omega) (Nat.le_refl _)]
      exact ih (by omega)
  have B : ∀ d w, fo_d p w = d → fo_rch (fo_rr p v) w := by
    intro d
    induction d with
    | zero =>
      intro w hw
      by_cases e : ∃ i, i ≤ fo_d p v ∧ w = fo_up p i v
      · obtain ⟨i, hi, e⟩ := e
        rw [e]; exact A i hi
      · refine fo_rch_0 ?_
        rw [show fo_rr p v w = p w from fo_rs_o p v w _ (fun i hi he => e ⟨i, by omega, he⟩)]
        exact (fo_d_z F).mp hw
    | succ d ih =>
      intro w hw
      by_cases e : ∃ i, i ≤ fo_d p v ∧ w = fo_up p i v
      · obtain ⟨i, hi, e⟩ := e
        rw [e]; exact A i hi
      · refine fo_rch_s ?_
        rw [show fo_rr p v w = p w from fo_rs_o p v w _ (fun i hi he => e ⟨i, by omega, he⟩)]
        refine ih (p w) ?_
        have hn : ¬ p w = w := fun e => by have := fo_d_0 e; omega
        have := fo_d_s F hn
        omega
  refine fo_mk F.1 F.2.1 (fun w hw => fo_rs_lt F hv hw _) (fun w hw => ?_) (fun w _ => B _ w rfl)
  have : fo_rr p v w = p w := fo_rs_o p v w _ (fun i _ he => by have := fo_lt F hv i; omega)
  rw [this]; exact F.2.2.2.1 w hw
