/-! what each call answers and changes, said once for both systems -/
def tn (v : Int32) : Nat := v.toNatClampNeg
theorem tn_nI {j : Nat} (h : j < 2 ^ 31) : tn (nI j) = j := nI_clamp h
def ga {α : Type} (n : Nat) (v : Int32) (f : Nat → α) (d : α) : α := if hasB n v = true then f (tn v) else d
theorem ga_t {α : Type} {n j : Nat} {f : Nat → α} {d : α} (hj : j < n) (hn : n ≤ 64) : ga n (nI j) f d = f j := by
  unfold ga
  rw [if_pos (hasB_t hj hn), tn_nI (by omega)]
theorem ga_f {α : Type} {n : Nat} {v : Int32} {f : Nat → α} {d : α} (h : hasB n v = false) : ga n v f d = d := by
  unfold ga
  rw [if_neg (by rw [h]; decide)]
def gb {α : Type} (n : Nat) (u v : Int32) (f : Nat → Nat → α) (d : α) : α := if hasB n u = true ∧ hasB n v = true then f (tn u) (tn v) else d
theorem gb_t {α : Type} {n j k : Nat} {f : Nat → Nat → α} {d : α} (hj : j < n) (hk : k < n) (hn : n ≤ 64) : gb n (nI j) (nI k) f d = f j k := by
  unfold gb
  rw [if_pos ⟨hasB_t hj hn, hasB_t hk hn⟩, tn_nI (by omega), tn_nI (by omega)]
theorem gb_fl {α : Type} {n : Nat} {u v : Int32} {f : Nat → Nat → α} {d : α} (h : hasB n u = false) : gb n u v f d = d := by
  unfold gb
  rw [if_neg (by rw [h]; simp)]
theorem gb_fr {α : Type} {n : Nat} {u v : Int32} {f : Nat → Nat → α} {d : α} (h : hasB n v = false) : gb n u v f d = d := by
  unfold gb
  rw [if_neg (by rw [h]; simp)]
def gp {α : Type} (n : Nat) (G : Nat → Nat) (u v : Int32) (f : Nat → Nat → α) (d e : α) : α := gb n u v (fun a b => if fo_r G a = fo_r G b then f a b else e) d
theorem gp_t {α : Type} {n j k : Nat} {G : Nat → Nat} {f : Nat → Nat → α} {d e : α} (hj : j < n) (hk : k < n) (hn : n ≤ 64) (hr : fo_r G j = fo_r G k) : gp n G (nI j) (nI k) f d e = f j k := by
  unfold gp
  rw [gb_t hj hk hn, if_pos hr]
theorem gp_n {α : Type} {n j k : Nat} {G : Nat → Nat} {f : Nat → Nat → α} {d e : α} (hj : j < n) (hk : k < n) (hn : n ≤ 64) (hr : ¬ fo_r G j = fo_r G k) : gp n G (nI j) (nI k) f d e = e := by
  unfold gp
  rw [gb_t hj hk hn, if_neg hr]
theorem gp_fl {α : Type} {n : Nat} {G : Nat → Nat} {u v : Int32} {f : Nat → Nat → α} {d e : α} (h : hasB n u = false) : gp n G u v f d e = d := gb_fl h
theorem gp_fr {α : Type} {n : Nat} {G : Nat → Nat} {u v : Int32} {f : Nat → Nat → α} {d e : α} (h : hasB n v = false) : gp n G u v f d e = d := gb_fr h
/-- the answer to a pair without a path; 0 where there is one -/
def pE (n : Nat) (G : Nat → Nat) (u v : Int32) : Int32 := gp n G u v (fun _ _ => 0) (-100000001) (-100000004)
theorem pE_ok {n : Nat} {G : Nat → Nat} {u v : Int32} (hn : n ≤ 64) (h : pE n G u v = 0) : ∃ j k, j < n ∧ k < n ∧ u = nI j ∧ v = nI k ∧ fo_r G j = fo_r G k := by
  cases hu : hasB n u with
  | false =>
    unfold pE at h
    rw [gp_fl hu] at h
    exact absurd h (by decide)
  | true =>
    cases hv : hasB n v with
    | false =>
      unfold pE at h
      rw [gp_fr hv] at h
      exact absurd h (by decide)
    | true =>
      obtain ⟨j, hj, ej⟩ := hasB_of hn hu
      obtain ⟨k, hk, ek⟩ := hasB_of hn hv
      refine ⟨j, k, hj, hk, ej, ek, Classical.byContradiction fun q => ?_⟩
      subst ej; subst ek
      unfold pE at h
      rw [gp_n hj hk hn q] at h
      exact absurd h (by decide)
theorem pE_no {n : Nat} {G : Nat → Nat} {u v : Int32} {α : Type} (hn : n ≤ 64) (h : ¬ pE n G u v = 0) (f g : Nat → Nat → α) (d e : α) : gp n G u v f d e = gp n G u v g d e := by
  cases hu : hasB n u with
  | false => rw [gp_fl hu, gp_fl hu]
  | true =>
    cases hv : hasB n v with
    | false => rw [gp_fr hv, gp_fr hv]
    | true =>
      obtain ⟨j, hj, ej⟩ := hasB_of hn hu
      obtain ⟨k, hk, ek⟩ := hasB_of hn hv
      subst ej; subst ek
      by_cases q : fo_r G j = fo_r G k
      · exact absurd (by unfold pE; rw [gp_t hj hk hn q]) h
      · rw [gp_n hj hk hn q, gp_n hj hk hn q]
theorem pE_same {n : Nat} {G : Nat → Nat} {u v : Int32} {α : Type} (hn : n ≤ 64) (h : ¬ pE n G u v = 0) (f : Nat → Nat → α) (d : α) : gp n G u v f d d = d := by
  rw [pE_no hn h f (fun _ _ => d)]
  unfold gp gb
  by_cases q : hasB n u = true ∧ hasB n v = true
  · rw [if_pos q]
    dsimp only
    by_cases q2 : fo_r G (tn u) = fo_r G (tn v)
    · rw [if_pos q2]
    · rw [if_neg q2]
  · rw [if_neg q]
def isV (x : Int32) : Bool := !decide (x < -1000000) && !decide (1000000 < x)
def isN (x : Int32) : Bool := !decide (x < 1) && !decide (64 < x)
def gk {α : Type} (x : Int32) (f : Nat → α) (d : α) : α := if isN x = true then f (tn x) else d
theorem isN_of {x : Int32} (h : isN x = true) : ∃ j, 1 ≤ j ∧ j ≤ 64 ∧ x = nI j := by
  simp only [isN, Bool.and_eq_true, Bool.not_eq_true', decide_eq_false_iff_not] at h
  obtain ⟨h1, h2⟩ := h
  have h0 : ¬ x < 0 := fun q => h1 (Int32.lt_trans q (by decide))
  obtain ⟨j, hj, e⟩ := nI_of h0
  rw [e] at h1 h2
  exact ⟨j, cn_nlt (a := j) (b := 1) hj (by decide) h1, cn_nlt (a := 64) (by decide) hj h2, e⟩
theorem isN_t {j : Nat} (h1 : 1 ≤ j) (h2 : j ≤ 64) : isN (nI j) = true := by
  have a1 : ¬ nI j < 1 := fun q => by have := cn_lt (a := j) (b := 1) (by omega) (by decide) q; omega
  have a2 : ¬ (64 : Int32) < nI j := fun q => by have := cn_lt (a := 64) (b := j) (by decide) (by omega) q; omega
  simp [isN, a1, a2]
theorem gk_t {α : Type} {j : Nat} {f : Nat → α} {d : α} (h1 : 1 ≤ j) (h2 : j ≤ 64) : gk (nI j) f d = f j := by
  unfold gk
  rw [if_pos (isN_t h1 h2), tn_nI (by omega)]
theorem gk_f {α : Type} {x : Int32} {f : Nat → α} {d : α} (h : isN x = false) : gk x f d = d := by
  unfold gk
  rw [if_neg (by rw [h]; decide)]
theorem fo_cp_id : fo_cp (fun v => v) = fun _ => -1 := by
  funext v
  exact fo_cp_r rfl
theorem fo_set_id {G : Nat → Nat} {j : Nat} (h : G j = j) : fo_set G j j = G := by
  funext v
  unfold fo_set
  by_cases e : v = j
  · rw [if_pos e, e, h]
  · rw [if_neg e]
theorem fo_id_ok {n : Nat} (h1 : 1 ≤ n) (h2 : n ≤ 64) : fo_ok n (fun v => v) := ⟨h1, h2, fun _ h => h, fun _ _ => rfl, fun _ => rfl⟩
def gLink (n : Nat) (G : Nat → Nat) (v u : Int32) : Nat → Nat := gb n v u (fun a b => if G a = a ∧ ¬ fo_r G b = a then fo_set G a b else G) G
def rLink (n : Nat) (G : Nat → Nat) (v u : Int32) : Int32 := gb n v u (fun a b => if G a = a then (if fo_r G b = a then -100000008 else nI (fo_cnt (fun w => fo_bel (fo_set G a b) w (fo_r (fo_set G a b) b)) n)) else -100000003) (-100000001)
def pvV (n : Nat) (G : Nat → Nat) (vs : Nat → Int32) (u v : Int32) : Nat → Int32 := gp n G u v (fun a b => fillI (fo_pL G a b) (fun t => nI (fo_pt G a b t)) vs) vs vs
def pvL (n : Nat) (G : Nat → Nat) (L : Nat) (u v : Int32) : Nat := gp n G u v (fun a b => fo_pL G a b) L L
theorem pvV_t {n j k : Nat} {G : Nat → Nat} {vs : Nat → Int32} (hj : j < n) (hk : k < n) (hn : n ≤ 64) (hr : fo_r G j = fo_r G k) : pvV n G vs (nI j) (nI k) = fillI (fo_pL G j k) (fun t => nI (fo_pt G j k t)) vs := gp_t hj hk hn hr
theorem pvL_t {n j k : Nat} {G : Nat → Nat} {L : Nat} (hj : j < n) (hk : k < n) (hn : n ≤ 64) (hr : fo_r G j = fo_r G k) : pvL n G L (nI j) (nI k) = fo_pL G j k := gp_t hj hk hn hr
theorem pvL_le {n : Nat} {G : Nat → Nat} (F : fo_ok n G) {L : Nat} (hL : L ≤ 64) (u v : Int32) : pvL n G L u v ≤ 64 := by
  by_cases h : pE n G u v = 0
  · obtain ⟨j, k, hj, hk, e1, e2, hr⟩ := pE_ok F.2.1 h
    rw [e1, e2, pvL_t hj hk F.2.1 hr]
    exact Nat.le_trans (fo_pL_le F hr hj hk) F.2.1
  · unfold pvL
    rw [pE_same F.2.1 h]; exact hL
/-- sums, least and greatest, reach, along a row P of vertices -/
def pSum (va : Nat → Int32) (P : Nat → Nat) : Nat → Int32
  | 0 => 0
  | k + 1 => pSum va P k + va (P k)
def pMin (va : Nat → Int32) (P : Nat → Nat) : Nat → Nat
  | 0 => P 0
  | k + 1 => if va (P k) < va (pMin va P k) then P k else pMin va P k
def pMax (va : Nat → Int32) (P : Nat → Nat) : Nat → Nat
  | 0 => P 0
  | k + 1 => if va (pMax va P k) < va (P k) then P k else pMax va P k
theorem pMin_y {va : Nat → Int32} {P : Nat → Nat} {k : Nat} (h : va (P k) < va (pMin va P k)) : pMin va P (k + 1) = P k := if_pos h
theorem pMin_n {va : Nat → Int32} {P : Nat → Nat} {k : Nat} (h : ¬ va (P k) < va (pMin va P k)) : pMin va P (k + 1) = pMin va P k := if_neg h
theorem pMax_y {va : Nat → Int32} {P : Nat → Nat} {k : Nat} (h : va (pMax va P k) < va (P k)) : pMax va P (k + 1) = P k := if_pos h
theorem pMax_n {va : Nat → Int32} {P : Nat → Nat} {k : Nat} (h : ¬ va (pMax va P k) < va (P k)) : pMax va P (k + 1) = pMax va P k := if_neg h
theorem pMin_1 (va : Nat → Int32) (P : Nat → Nat) : pMin va P 1 = P 0 := pMin_n (fun h => Int32.lt_irrefl h)
theorem pMax_1 (va : Nat → Int32) (P : Nat → Nat) : pMax va P 1 = P 0 := pMax_n (fun h => Int32.lt_irrefl h)
theorem pMin_lt {n : Nat} {va : Nat → Int32} {P : Nat → Nat} (h : ∀ k, P k < n) (k : Nat) : pMin va P k < n := by
  induction k with
  | zero => exact h 0
  | succ k ih =>
    show (if va (P k) < va (pMin va P k) then P k else pMin va P k) < n
    by_cases e : va (P k) < va (pMin va P k)
    · rw [if_pos e]; exact h k
    · rw [if_neg e]; exact ih
theorem pMax_lt {n : Nat} {va : Nat → Int32} {P : Nat → Nat} (h : ∀ k, P k < n) (k : Nat) : pMax va P k < n := by
  induction k with
  | zero => exact h 0
  | succ k ih =>
    show (if va (pMax va P k) < va (P k) then P k else pMax va P k) < n
    by_cases e : va (pMax va P k) < va (P k)
    · rw [if_pos e]; exact h k
    · rw [if_neg e]; exact ih
def pRch (va : Nat → Int32) (P : Nat → Nat) (bd : Int32) : Nat → Nat → Int32
  | 0, _ => -100000007
  | f + 1, k => if bd ≤ pSum va P (k + 1) then nI (P k) else pRch va P bd f (k + 1)
theorem pRch_y {va : Nat → Int32} {P : Nat → Nat} {bd : Int32} {L i : Nat} (hi : i < L) (h : bd ≤ pSum va P (i + 1)) : pRch va P bd (L - i) i = nI (P i) := by
  rw [show L - i = (L - (i + 1)) + 1 by omega]
  exact if_pos h
theorem pRch_n {va : Nat → Int32} {P : Nat → Nat} {bd : Int32} {L i : Nat} (hi : i < L) (h : ¬ bd ≤ pSum va P (i + 1)) : pRch va P bd (L - i) i = pRch va P bd (L - (i + 1)) (i + 1) := by
  rw [show L - i = (L - (i + 1)) + 1 by omega]
  exact if_neg h
theorem pRch_e {va : Nat → Int32} {P : Nat → Nat} {bd : Int32} {L i : Nat} (hi : L ≤ i) : pRch va P bd (L - i) i = -100000007 := by
  rw [show L - i = 0 by omega]
  rfl
def fAll (f : Nat → Bool) : Nat → Bool
  | 0 => true
  | k + 1 => fAll f k && f k
theorem fAll_s {f : Nat → Bool} {k : Nat} (h1 : fAll f k = true) (h2 : f k = true) : fAll f (k + 1) = true := by
  show (fAll f k && f k) = true
  rw [h1, h2]; rfl
theorem fAll_f {f : Nat → Bool} {i : Nat} (h : f i = false) : ∀ L, i < L → fAll f L = false := by
  intro L
  induction L with
  | zero => intro q; exact absurd q (Nat.not_lt_zero _)
  | succ L ih =>
    intro q
    show (fAll f L && f L) = false
    by_cases e : i = L
    · rw [← e, h, Bool.and_false]
    · rw [ih (by omega), Bool.false_and]
theorem fAll_at {f : Nat → Bool} {L : Nat} (h : fAll f L = true) {i : Nat} (hi : i < L) : f i = true := by
  cases e : f i with
  | true => rfl
  | false => rw [fAll_f e L hi] at h; exact absurd h (by decide)
theorem fAll_eq {f g : Nat → Bool} {k : Nat} (h : ∀ v, v < k → f v = g v) : fAll f k = fAll g k := by
  induction k with
  | zero => rfl
  | succ k ih =>
    show (fAll f k && f k) = (fAll g k && g k)
    rw [ih (fun v hv => h v (by omega)), h k (by omega)]
def vAdd (va : Nat → Int32) (P : Nat → Nat) (d : Int32) : Nat → (Nat → Int32)
  | 0 => va
  | k + 1 => upd (vAdd va P d k) (P k) (vAdd va P d k (P k) + d)
def vSet (va : Nat → Int32) (P : Nat → Nat) (x : Int32) : Nat → (Nat → Int32)
  | 0 => va
  | k + 1 => upd (vSet va P x k) (P k) x
def vRev (va : Nat → Int32) (P : Nat → Nat) (L : Nat) : Nat → (Nat → Int32)
  | 0 => va
  | k + 1 => upd (upd (vRev va P L k) (P k) (vRev va P L k (P (L - 1 - k)))) (P (L - 1 - k)) (vRev va P L k (P k))
def vSub (va : Nat → Int32) (f : Nat → Bool) (d : Int32) : Nat → (Nat → Int32)
  | 0 => va
  | k + 1 => if f k = true then upd (vSub va f d k) k (vSub va f d k k + d) else vSub va f d k
theorem vSub_y {va : Nat → Int32} {f : Nat → Bool} {d : Int32} {k : Nat} (h : f k = true) : vSub va f d (k + 1) = upd (vSub va f d k) k (vSub va f d k k + d) := if_pos h
theorem vSub_n {va : Nat → Int32} {f : Nat → Bool} {d : Int32} {k : Nat} (h : f k = false) : vSub va f d (k + 1) = vSub va f d k := if_neg (by rw [h]; decide)
theorem vSub_o {va : Nat → Int32} {f : Nat → Bool} {d : Int32} : ∀ (k w : Nat), k ≤ w → vSub va f d k w = va w := by
  intro k
  induction k with
  | zero => intro w _; rfl
  | succ k ih =>
    intro w hw
    cases e : f k with
    | true => rw [vSub_y e, pk_un (by omega)]; exact ih w (by omega)
    | false => rw [vSub_n e]; exact ih w (by omega)
def oAdd (va : Nat → Int32) (P : Nat → Nat) (d : Int32) (L : Nat) : Bool := isV d && fAll (fun i => isV (va (P i) + d)) L
def rAdd (va : Nat → Int32) (P : Nat → Nat) (d : Int32) (L : Nat) : Int32 := if isV d = true then (if fAll (fun i => isV (va (P i) + d)) L = true then nI L else -100000005) else -100000002
def oSub (n : Nat) (G : Nat → Nat) (va : Nat → Int32) (d : Int32) (j : Nat) : Bool := isV d && fAll (fun w => !fo_bel G w j || isV (va w + d)) n
def rSub (n : Nat) (G : Nat → Nat) (va : Nat → Int32) (d : Int32) (j : Nat) : Int32 := if isV d = true then (if fAll (fun w => !fo_bel G w j || isV (va w + d)) n = true then nI (fo_cnt (fun w => fo_bel G w j) n) else -100000005) else -100000002
def isS (x : Int32) : Bool := decide (x = 0) || decide (x = 1)
theorem fo_pt_0 (G : Nat → Nat) (u v : Nat) : fo_pt G u v 0 = u := if_pos (Nat.zero_le _)
