/-! what is farthest, what is nearest, a turned path, a path laid -/
def fo_fs (G : Nat → Nat) (v : Nat) : Nat → Nat × Nat
  | 0 => (v, 0)
  | k + 1 => if fo_r G k = fo_r G v ∧ (fo_fs G v k).2 < fo_dist G v k then (k, fo_dist G v k) else fo_fs G v k
theorem fo_fs_y {G : Nat → Nat} {v k : Nat} (h1 : fo_r G k = fo_r G v) (h2 : (fo_fs G v k).2 < fo_dist G v k) : fo_fs G v (k + 1) = (k, fo_dist G v k) := if_pos ⟨h1, h2⟩
theorem fo_fs_n {G : Nat → Nat} {v k : Nat} (h : ¬ (fo_r G k = fo_r G v ∧ (fo_fs G v k).2 < fo_dist G v k)) : fo_fs G v (k + 1) = fo_fs G v k := if_neg h
theorem fo_fs_spec {n : Nat} {G : Nat → Nat} (F : fo_ok n G) {v : Nat} (hv : v < n) : ∀ k, k ≤ n → (fo_fs G v k).1 < n ∧ fo_r G (fo_fs G v k).1 = fo_r G v ∧ (fo_fs G v k).2 = fo_dist G v (fo_fs G v k).1 ∧ ∀ w, w < k → fo_r G w = fo_r G v → fo_dist G v w ≤ (fo_fs G v k).2 := by
  intro k
  induction k with
  | zero => intro _; exact ⟨hv, rfl, (fo_dist_self F v).symm, fun w h => absurd h (Nat.not_lt_zero _)⟩
  | succ k ih =>
    intro hk
    obtain ⟨a1, a2, a3, a4⟩ := ih (by omega)
    by_cases h : fo_r G k = fo_r G v ∧ (fo_fs G v k).2 < fo_dist G v k
    · rw [fo_fs_y h.1 h.2]
      refine ⟨hk, h.1, rfl, fun w hw hr => ?_⟩
      show fo_dist G v w ≤ fo_dist G v k
      by_cases e : w = k
      · rw [e]; exact Nat.le_refl _
      · have := a4 w (by omega) hr; omega
    · rw [fo_fs_n h]
      refine ⟨a1, a2, a3, fun w hw hr => ?_⟩
      by_cases e : w = k
      · rw [e] at hr ⊢
        exact Nat.le_of_not_lt fun q => h ⟨hr, q⟩
      · exact a4 w (by omega) hr
theorem fo_fs_le {n : Nat} {G : Nat → Nat} (F : fo_ok n G) {v : Nat} (hv : v < n) {k : Nat} (hk : k ≤ n) : (fo_fs G v k).2 ≤ 126 := by
  obtain ⟨_, _, a3, _⟩ := fo_fs_spec F hv k hk
  rw [a3]; exact fo_dist_le F _ _
def fo_ns (G : Nat → Nat) (mk : Nat → Bool) (v : Nat) : Nat → Option Nat × Nat
  | 0 => (none, 64)
  | k + 1 => if mk k = true ∧ fo_r G k = fo_r G v ∧ fo_dist G v k < (fo_ns G mk v k).2 then (some k, fo_dist G v k) else fo_ns G mk v k
theorem fo_ns_y {G : Nat → Nat} {mk : Nat → Bool} {v k : Nat} (h0 : mk k = true) (h1 : fo_r G k = fo_r G v) (h2 : fo_dist G v k < (fo_ns G mk v k).2) : fo_ns G mk v (k + 1) = (some k, fo_dist G v k) := if_pos ⟨h0, h1, h2⟩
theorem fo_ns_n {G : Nat → Nat} {mk : Nat → Bool} {v k : Nat} (h : ¬ (mk k = true ∧ fo_r G k = fo_r G v ∧ fo_dist G v k < (fo_ns G mk v k).2)) : fo_ns G mk v (k + 1) = fo_ns G mk v k := if_neg h
theorem fo_ns_le (G : Nat → Nat) (mk : Nat → Bool) (v k : Nat) : (fo_ns G mk v k).2 ≤ 64 ∧ ∀ w, (fo_ns G mk v k).1 = some w → w < k := by
  induction k with
  | zero => exact ⟨Nat.le_refl _, fun w h => by cases h⟩
  | succ k ih =>
    by_cases h : mk k = true ∧ fo_r G k = fo_r G v ∧ fo_dist G v k < (fo_ns G mk v k).2
    · rw [fo_ns_y h.1 h.2.1 h.2.2]
      refine ⟨?_, fun w hw => ?_⟩
      · show fo_dist G v k ≤ 64
        omega
      · have hw : some k = some w := hw
        cases hw; exact Nat.lt_succ_self k
    · rw [fo_ns_n h]
      exact ⟨ih.1, fun w hw => Nat.lt_succ_of_lt (ih.2 w hw)⟩
def oI (d : Int32) (x : Option Nat) : Int32 := match x with
  | none => d
  | some k => nI k
/-- the two rows of numbers of the turning loop -/
def twb (G : Nat → Nat) (v : Nat) : Nat → Int32
  | 0 => -1
  | i + 1 => nI (fo_up G i v)
def twa (G : Nat → Nat) (v i : Nat) : Int32 := if i ≤ fo_d G v then nI (fo_up G i v) else -1
theorem twa_le {G : Nat → Nat} {v i : Nat} (h : i ≤ fo_d G v) : twa G v i = nI (fo_up G i v) := if_pos h
theorem turn_at {n : Nat} {G : Nat → Nat} (F : fo_ok n G) {v i : Nat} (hi : i ≤ fo_d G v) : fo_cp (fo_rs G v i) (fo_up G i v) = twa G v (i + 1) := by
  have e := fo_rs_at F v hi
  by_cases h : G (fo_up G i v) = fo_up G i v
  · have hd := fo_d_is F hi h
    rw [fo_cp_r (by rw [e]; exact h)]
    unfold twa
    rw [if_neg (by omega)]
  · have hd := fo_d_gt F hi h
    rw [fo_cp_n (by rw [e]; exact h), e, ← fo_up_s G i v, twa_le (by omega)]
theorem turn_set {n : Nat} {G : Nat → Nat} (F : fo_ok n G) {v i : Nat} (hi : i ≤ fo_d G v) : upd (fo_cp (fo_rs G v i)) (fo_up G i v) (twb G v i) = fo_cp (fo_rs G v (i + 1)) := by
  cases i with
  | zero => exact fo_cp_cut _ _
  | succ i => exact fo_cp_set _ (fo_up_ne F (by omega) hi (by omega))
/-- the rows of a path: vertices appended on the way up, a stretch turned round -/
def apF (G : Nat → Nat) (b : Nat) (vs : Nat → Int32) (L k : Nat) : Nat → Int32 := fun t => if L ≤ t ∧ t < L + k then nI (fo_up G (t - L) b) else vs t
theorem apF_0 (G : Nat → Nat) (b : Nat) (vs : Nat → Int32) (L : Nat) : apF G b vs L 0 = vs := by
  funext t
  unfold apF
  rw [if_neg (by omega)]
theorem apF_s (G : Nat → Nat) (b : Nat) (vs : Nat → Int32) (L k : Nat) : upd (apF G b vs L k) (L + k) (nI (fo_up G k b)) = apF G b vs L (k + 1) := by
  funext t
  unfold upd apF
  by_cases e : t = L + k
  · rw [if_pos e, if_pos (by omega), e, Nat.add_sub_cancel_left]
  · rw [if_neg e]
    by_cases e2 : L ≤ t ∧ t < L + k
    · rw [if_pos e2, if_pos (by omega)]
    · rw [if_neg e2, if_neg (by omega)]
def rvK (vs : Nat → Int32) (S L k : Nat) : Nat → Int32 := fun t => if (S ≤ t ∧ t < S + k) ∨ (L - k ≤ t ∧ t < L) then vs (S + L - 1 - t) else vs t
def rvF (vs : Nat → Int32) (S L : Nat) : Nat → Int32 := fun t => if S ≤ t ∧ t < L then vs (S + L - 1 - t) else vs t
theorem rvK_0 (vs : Nat → Int32) (S L : Nat) : rvK vs S L 0 = vs := by
  funext t
  unfold rvK
  rw [if_neg (by omega)]
theorem rvK_s {vs : Nat → Int32} {S L k : Nat} (h : S + k < L - 1 - k) : upd (upd (rvK vs S L k) (S + k) (rvK vs S L k (L - 1 - k))) (L - 1 - k) (rvK vs S L k (S + k)) = rvK vs S L (k + 1) := by
  funext t
  have e1 : rvK vs S L k (L - 1 - k) = vs (L - 1 - k) := if_neg (by omega)
  have e2 : rvK vs S L k (S + k) = vs (S + k) := if_neg (by omega)
  rw [e1, e2]
  unfold upd rvK
  by_cases a : t = L - 1 - k
  · rw [if_pos a, if_pos (by omega)]
    rw [show S + L - 1 - t = S + k by omega]
  · rw [if_neg a]
    by_cases b : t = S + k
    · rw [if_pos b, if_pos (by omega)]
      rw [show S + L - 1 - t = L - 1 - k by omega]
    · rw [if_neg b]
      by_cases c : (S ≤ t ∧ t < S + k) ∨ (L - k ≤ t ∧ t < L)
      · rw [if_pos c, if_pos (by omega)]
      · rw [if_neg c, if_neg (by omega)]
theorem rvK_end {vs : Nat → Int32} {S L k : Nat} (h : S + 2 * k ≤ L) (h2 : L - 1 - k ≤ S + k) : rvK vs S L k = rvF vs S L := by
  funext t
  unfold rvK rvF
  by_cases c : (S ≤ t ∧ t < S + k) ∨ (L - k ≤ t ∧ t < L)
  · rw [if_pos c, if_pos (by omega)]
  · rw [if_neg c]
    by_cases e : S ≤ t ∧ t < L
    · rw [if_pos e, show S + L - 1 - t = t by omega]
    · rw [if_neg e]
theorem trace_eq {n : Nat} {G : Nat → Nat} (F : fo_ok n G) {u v : Nat} (hr : fo_r G u = fo_r G v) (vs : Nat → Int32) : rvF (apF G v (upd (apF G u vs 0 (fo_pi G u v)) (0 + fo_pi G u v) (nI (fo_m G u v))) (0 + fo_pi G u v + 1) (fo_d G v - fo_d G (fo_m G u v))) (0 + fo_pi G u v + 1) (0 + fo_pi G u v + 1 + (fo_d G v - fo_d G (fo_m G u v))) = fillI (fo_pL G u v) (fun t => nI (fo_pt G u v t)) vs := by
  obtain ⟨m1, m2, m3, m4, m5⟩ := fo_m_spec F hr
  have hL : fo_pL G u v = fo_pi G u v + (fo_d G v - fo_d G (fo_m G u v)) + 1 := rfl
  have hI : fo_pi G u v = fo_d G u - fo_d G (fo_m G u v) := rfl
  generalize fo_d G v - fo_d G (fo_m G u v) = k at *
  funext t
  unfold fillI
  by_cases a : t < fo_pL G u v
  · rw [if_pos a]
    show _ = nI (fo_pt G u v t)
    unfold fo_pt
    by_cases b : t ≤ fo_pi G u v
    · rw [if_pos b]
      unfold rvF apF
      rw [if_neg (by omega)]
      show (if 0 + fo_pi G u v + 1 ≤ t ∧ _ then _ else _) = _
      rw [if_neg (by omega)]
      unfold upd
      by_cases e : t = 0 + fo_pi G u v
      · rw [if_pos e, show t = fo_d G u - fo_d G (fo_m G u v) by omega, m3]
      · rw [if_neg e]
        dsimp only
        rw [if_pos (by omega), Nat.sub_zero]
    · rw [if_neg b]
      unfold rvF
      rw [if_pos (by omega)]
      unfold apF
      rw [if_pos (by omega)]
      rw [show 0 + fo_pi G u v + 1 + (0 + fo_pi G u v + 1 + k) - 1 - t - (0 + fo_pi G u v + 1) = fo_pL G u v - 1 - t by omega]
  · rw [if_neg a]
    unfold rvF apF
    rw [if_neg (by omega)]
    show (if 0 + fo_pi G u v + 1 ≤ t ∧ _ then _ else _) = _
    rw [if_neg (by omega)]
    unfold upd
    rw [if_neg (by omega)]
    dsimp only
    rw [if_neg (by omega)]
