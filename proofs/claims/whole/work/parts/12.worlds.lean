/-! the cells of the two systems, and small rows of numbers -/
abbrev wFr (f fa fb fc : Nat) (cI cZ : ClassId) (n : Nat) (pa va ma : Nat → Int32) : va_W := [(f, .inr (0, [.int (nI n), .ref fa, .ref fb, .ref fc])), (fa, .inl (cI, 64, .inl pa)), (fb, .inl (cI, 64, .inl va)), (fc, .inl (cZ, 64, .inl ma))]
abbrev wF (f fa fb fc : Nat) (cI cZ : ClassId) (n : Nat) (pa va : Nat → Int32) (mk : Nat → Bool) : va_W := [(f, .inr (0, [.int (nI n), .ref fa, .ref fb, .ref fc])), (fa, .inl (cI, 64, .inl pa)), (fb, .inl (cI, 64, .inl va)), (fc, .inl (cZ, 64, .inl (fun i => bI (mk i))))]
abbrev wP (h hq : Nat) (cI : ClassId) (vs : Nat → Int32) (len : Int32) : va_W := [(h, .inr (1, [.ref hq, .int len])), (hq, .inl (cI, 64, .inl vs))]
abbrev wO (h f0 f1 f2 ph : Nat) : va_W := [(h, .inr (2, [.ref f0, .ref f1, .ref f2, .ref ph]))]
abbrev wM (h st sl sv pt : Nat) (cI cZ : ClassId) (fst fsl fsv fpt : Nat → Int32) (many : Int32) : va_W := [(h, .inr (3, [.ref st, .ref sl, .ref sv, .ref pt, .int many])), (st, .inl (cI, 193, .inl fst)), (sl, .inl (cI, 386, .inl fsl)), (sv, .inl (cZ, 2, .inl fsv)), (pt, .inl (cI, 64, .inl fpt))]
theorem cn_le {a b : Nat} (ha : a < 2 ^ 31) (hb : b < 2 ^ 31) (h : nI a ≤ nI b) : a ≤ b := (nI_leI ha hb).mp h
theorem cn_nle {a b : Nat} (ha : a < 2 ^ 31) (hb : b < 2 ^ 31) (h : ¬ nI a ≤ nI b) : b < a := Nat.lt_of_not_le fun q => h ((nI_leI ha hb).mpr q)
theorem cn_lt {a b : Nat} (ha : a < 2 ^ 31) (hb : b < 2 ^ 31) (h : nI a < nI b) : a < b := (nI_ltI ha hb).mp h
theorem cn_nlt {a b : Nat} (ha : a < 2 ^ 31) (hb : b < 2 ^ 31) (h : ¬ nI a < nI b) : b ≤ a := Nat.le_of_not_lt fun q => h ((nI_ltI ha hb).mpr q)
theorem cn_eq {a b : Nat} (ha : a < 2 ^ 31) (hb : b < 2 ^ 31) (h : nI a = nI b) : a = b := (nI_eq ha hb).mp h
theorem cn_ne {a b : Nat} (_ : a < 2 ^ 31) (_ : b < 2 ^ 31) (h : ¬ nI a = nI b) : a ≠ b := fun q => h (by rw [q])
def hasB (n : Nat) (v : Int32) : Bool := !decide (v < 0) && !decide (nI n ≤ v) && !decide (64 ≤ v)
theorem hasB_t {n j : Nat} (hj : j < n) (hn : n ≤ 64) : hasB n (nI j) = true := by
  have h1 : ¬ nI j < 0 := nI_pos (by omega)
  have h2 : ¬ nI n ≤ nI j := fun h => by have := cn_le (by omega) (by omega) h; omega
  have h3 : ¬ (64 : Int32) ≤ nI j := fun h => by have := cn_le (a := 64) (by omega) (by omega) h; omega
  simp [hasB, h1, h2, h3]
theorem hasB_of {n : Nat} {v : Int32} (hn : n ≤ 64) (h : hasB n v = true) : ∃ j, j < n ∧ v = nI j := by
  simp only [hasB, Bool.and_eq_true, Bool.not_eq_true', decide_eq_false_iff_not] at h
  obtain ⟨⟨h1, h2⟩, h3⟩ := h
  obtain ⟨j, hj, e⟩ := nI_of h1
  rw [e] at h2
  exact ⟨j, cn_nle (by omega) (by omega) h2, e⟩
theorem hasB_x {n j : Nat} {A : Prop} (hj : j < n) (hn : n ≤ 64) (h : hasB n (nI j) = false) : A := absurd h (by rw [hasB_t hj hn]; decide)
/-- the rows of parents as they stand in the class: -1 at a root -/
def fo_cp (G : Nat → Nat) : Nat → Int32 := fun v => if G v = v then -1 else nI (G v)
theorem fo_cp_r {G : Nat → Nat} {v : Nat} (h : G v = v) : fo_cp G v = -1 := if_pos h
theorem fo_cp_n {G : Nat → Nat} {v : Nat} (h : ¬ G v = v) : fo_cp G v = nI (G v) := if_neg h
theorem nI_m1 {k : Nat} (h : k < 2 ^ 31) : ¬ nI k = -1 := fun e => nI_pos h (by rw [e]; decide)
theorem fo_cp_1 {n : Nat} {G : Nat → Nat} (F : fo_ok n G) {v : Nat} (hv : v < n) : fo_cp G v = -1 ↔ G v = v := by
  by_cases e : G v = v
  · exact ⟨fun _ => e, fun _ => fo_cp_r e⟩
  · refine ⟨fun h => ?_, fun h => absurd h e⟩
    rw [fo_cp_n e] at h
    have := F.2.2.1 v hv
    have := F.2.1
    exact absurd h (nI_m1 (by omega))
theorem fo_cp_cut (G : Nat → Nat) (v : Nat) : upd (fo_cp G) v (-1) = fo_cp (fo_set G v v) := by
  funext j
  unfold upd fo_cp fo_set
  by_cases e : j = v
  · rw [if_pos e, if_pos e, if_pos e.symm]
  · rw [if_neg e, if_neg e]
theorem fo_cp_set (G : Nat → Nat) {v u : Nat} (h : u ≠ v) : upd (fo_cp G) v (nI u) = fo_cp (fo_set G v u) := by
  funext j
  unfold upd fo_cp fo_set
  by_cases e : j = v
  · rw [if_pos e, if_pos e, if_neg (by rw [e]; exact h)]
  · rw [if_neg e, if_neg e]
def bset (mk : Nat → Bool) (j : Nat) (on : Bool) : Nat → Bool := fun i => if i = j then on else mk i
theorem bset_eq (mk : Nat → Bool) (j : Nat) (on : Bool) : upd (fun i => bI (mk i)) j (bI on) = fun i => bI (bset mk j on i) := by
  funext i
  unfold upd bset
  by_cases e : i = j
  · rw [if_pos e, if_pos e]
  · rw [if_neg e, if_neg e]
/-- the first i of a row filled -/
def fillI (i : Nat) (g f : Nat → Int32) : Nat → Int32 := fun j => if j < i then g j else f j
theorem fillI_0 (g f : Nat → Int32) : fillI 0 g f = f := by
  funext j
  unfold fillI
  rw [if_neg (Nat.not_lt_zero j)]
theorem fillI_s (i : Nat) (g f : Nat → Int32) : upd (fillI i g f) i (g i) = fillI (i + 1) g f := by
  funext j
  unfold upd fillI
  by_cases e : j = i
  · rw [if_pos e, if_pos (by omega), e]
  · rw [if_neg e]
    by_cases e2 : j < i
    · rw [if_pos e2, if_pos (by omega)]
    · rw [if_neg e2, if_neg (by omega)]
theorem fillI_c (i : Nat) (x : Int32) (f : Nat → Int32) : upd (fillI i (fun _ => x) f) i x = fillI (i + 1) (fun _ => x) f := fillI_s i (fun _ => x) f
def fillB (i : Nat) (g mk : Nat → Bool) : Nat → Bool := fun j => if j < i then g j else mk j
theorem fillB_0 (g mk : Nat → Bool) : fillB 0 g mk = mk := by
  funext j
  unfold fillB
  rw [if_neg (Nat.not_lt_zero j)]
theorem fillB_s (i : Nat) (g mk : Nat → Bool) : upd (fun t => bI (fillB i g mk t)) i (bI (g i)) = fun t => bI (fillB (i + 1) g mk t) := by
  funext j
  unfold upd fillB
  by_cases e : j = i
  · rw [if_pos e, if_pos (by omega), e]
  · rw [if_neg e]
    show bI (if j < i then g j else mk j) = bI (if j < i + 1 then g j else mk j)
    by_cases e2 : j < i
    · rw [if_pos e2, if_pos (by omega)]
    · rw [if_neg e2, if_neg (by omega)]
theorem fillB_c (i : Nat) (mk : Nat → Bool) : upd (fun t => bI (fillB i (fun _ => false) mk t)) i 0 = fun t => bI (fillB (i + 1) (fun _ => false) mk t) := fillB_s i (fun _ => false) mk
theorem fillI_lt {i j : Nat} (g f : Nat → Int32) (h : j < i) : fillI i g f j = g j := if_pos h
theorem fillB_lt {i j : Nat} (g f : Nat → Bool) (h : j < i) : fillB i g f j = g j := if_pos h
