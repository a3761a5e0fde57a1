/-! the reference's rows: its state as one row of 193 numbers -/
def mst (n : Nat) (G : Nat → Nat) (va : Nat → Int32) (mk : Nat → Bool) : Nat → Int32 := fun j => if j = 0 then nI n else if j < 65 then nI (G (j - 1)) else if j < 129 then va (j - 65) else bI (mk (j - 129))
theorem mst_0 (n : Nat) (G : Nat → Nat) (va : Nat → Int32) (mk : Nat → Bool) : mst n G va mk 0 = nI n := rfl
theorem mst_p (n : Nat) (G : Nat → Nat) (va : Nat → Int32) (mk : Nat → Bool) {j : Nat} (h : j < 64) : mst n G va mk (1 + j) = nI (G j) := by
  unfold mst
  rw [if_neg (by omega), if_pos (by omega), Nat.add_sub_cancel_left]
theorem mst_v (n : Nat) (G : Nat → Nat) (va : Nat → Int32) (mk : Nat → Bool) {j : Nat} (h : j < 64) : mst n G va mk (65 + j) = va j := by
  unfold mst
  rw [if_neg (by omega), if_neg (by omega), if_pos (by omega), Nat.add_sub_cancel_left]
theorem mst_m (n : Nat) (G : Nat → Nat) (va : Nat → Int32) (mk : Nat → Bool) (j : Nat) : mst n G va mk (129 + j) = bI (mk j) := by
  unfold mst
  rw [if_neg (by omega), if_neg (by omega), if_neg (by omega), Nat.add_sub_cancel_left]
theorem mst_sp (n : Nat) (G : Nat → Nat) (va : Nat → Int32) (mk : Nat → Bool) {j u : Nat} (h : j < 64) : upd (mst n G va mk) (1 + j) (nI u) = mst n (fo_set G j u) va mk := by
  funext t
  unfold upd mst fo_set
  by_cases e : t = 1 + j
  · rw [if_pos e, if_neg (by omega), if_pos (by omega), if_pos (by omega)]
  · rw [if_neg e]
    by_cases e1 : t = 0
    · rw [if_pos e1, if_pos e1]
    · rw [if_neg e1, if_neg e1]
      by_cases e2 : t < 65
      · rw [if_pos e2, if_pos e2, if_neg (by omega)]
      · rw [if_neg e2, if_neg e2]
theorem mst_sv (n : Nat) (G : Nat → Nat) (va : Nat → Int32) (mk : Nat → Bool) {j : Nat} {x : Int32} (h : j < 64) : upd (mst n G va mk) (65 + j) x = mst n G (upd va j x) mk := by
  funext t
  unfold upd mst
  by_cases e : t = 65 + j
  · rw [if_pos e, if_neg (by omega), if_neg (by omega), if_pos (by omega)]
    dsimp only
    rw [if_pos (by omega)]
  · rw [if_neg e]
    by_cases e1 : t = 0
    · rw [if_pos e1, if_pos e1]
    · rw [if_neg e1, if_neg e1]
      by_cases e2 : t < 65
      · rw [if_pos e2, if_pos e2]
      · rw [if_neg e2, if_neg e2]
        by_cases e3 : t < 129
        · rw [if_pos e3, if_pos e3]
          dsimp only
          rw [if_neg (by omega)]
        · rw [if_neg e3, if_neg e3]
theorem mst_sm (n : Nat) (G : Nat → Nat) (va : Nat → Int32) (mk : Nat → Bool) {j : Nat} {on : Bool} : upd (mst n G va mk) (129 + j) (bI on) = mst n G va (bset mk j on) := by
  funext t
  unfold upd mst bset
  by_cases e : t = 129 + j
  · rw [if_pos e, if_neg (by omega), if_neg (by omega), if_neg (by omega), if_pos (by omega)]
  · rw [if_neg e]
    by_cases e1 : t = 0
    · rw [if_pos e1, if_pos e1]
    · rw [if_neg e1, if_neg e1]
      by_cases e2 : t < 65
      · rw [if_pos e2, if_pos e2]
      · rw [if_neg e2, if_neg e2]
        by_cases e3 : t < 129
        · rw [if_pos e3, if_pos e3]
        · rw [if_neg e3, if_neg e3, if_neg (by omega)]
/-- the state begun anew, its first i vertices -/
def bgn (k i : Nat) (f : Nat → Int32) : Nat → Int32 := fun j => if j = 0 then nI k else if 1 ≤ j ∧ j < 1 + i then nI (j - 1) else if 65 ≤ j ∧ j < 65 + i then 0 else if 129 ≤ j ∧ j < 129 + i then 0 else f j
theorem bgn_0 (k : Nat) (f : Nat → Int32) : upd f 0 (nI k) = bgn k 0 f := by
  funext t
  unfold upd bgn
  by_cases e : t = 0
  · rw [if_pos e, if_pos e]
  · rw [if_neg e, if_neg e, if_neg (by omega), if_neg (by omega), if_neg (by omega)]
theorem bgn_s {k i : Nat} {f : Nat → Int32} (h : i < 64) : upd (upd (upd (bgn k i f) (1 + i) (nI i)) (65 + i) 0) (129 + i) 0 = bgn k (i + 1) f := by
  funext t
  unfold upd bgn
  by_cases e : t = 129 + i
  · rw [if_pos e, if_neg (by omega), if_neg (by omega), if_neg (by omega), if_pos (by omega)]
  · rw [if_neg e]
    by_cases e1 : t = 65 + i
    · rw [if_pos e1, if_neg (by omega), if_neg (by omega), if_pos (by omega)]
    · rw [if_neg e1]
      by_cases e2 : t = 1 + i
      · rw [if_pos e2, if_neg (by omega), if_pos (by omega), show t - 1 = i by omega]
      · rw [if_neg e2]
        by_cases e3 : t = 0
        · rw [if_pos e3, if_pos e3]
        · rw [if_neg e3, if_neg e3]
          by_cases e4 : 1 ≤ t ∧ t < 1 + i
          · rw [if_pos e4, if_pos (by omega)]
          · rw [if_neg e4, if_neg (show ¬ (1 ≤ t ∧ t < 1 + (i + 1)) by omega)]
            by_cases e5 : 65 ≤ t ∧ t < 65 + i
            · rw [if_pos e5, if_pos (by omega)]
            · rw [if_neg e5, if_neg (show ¬ (65 ≤ t ∧ t < 65 + (i + 1)) by omega)]
              by_cases e6 : 129 ≤ t ∧ t < 129 + i
              · rw [if_pos e6, if_pos (by omega)]
              · rw [if_neg e6, if_neg (by omega)]
theorem bgn_e {k : Nat} {f : Nat → Int32} {j : Nat} (h : j < 193) : bgn k 64 f j = mst k (fun w => w) (fun _ => 0) (fun _ => false) j := by
  unfold bgn mst
  by_cases e1 : j = 0
  · rw [if_pos e1, if_pos e1]
  · rw [if_neg e1, if_neg e1]
    by_cases e2 : j < 65
    · rw [if_pos (by omega), if_pos e2]
    · rw [if_neg (by omega), if_neg e2]
      by_cases e3 : j < 129
      · rw [if_pos (by omega), if_pos e3]
      · rw [if_neg (by omega), if_pos (by omega), if_neg e3]
        rfl
def inB (v lo hi : Int32) : Bool := !decide (v < lo) && !decide (hi < v)
theorem inB_has {n : Nat} {v : Int32} (h1 : 1 ≤ n) (h2 : n ≤ 64) : inB v 0 (nI n - 1) = hasB n v := by
  have e : nI n - 1 = nI (n - 1) := pk_sub (b := 1) h1
  unfold inB hasB
  rw [e]
  by_cases a : v < 0
  · simp [a]
  · obtain ⟨j, hj, rfl⟩ := nI_of a
    by_cases b : n ≤ j
    · have b1 : nI (n - 1) < nI j := nI_lt (by omega) hj
      have b2 : nI n ≤ nI j := nI_le b hj
      simp [a, b1, b2]
    · have b1 : ¬ nI (n - 1) < nI j := nI_nlt (by omega) (by omega)
      have b2 : ¬ nI n ≤ nI j := fun q => b (cn_le (by omega) hj q)
      have b3 : ¬ (64 : Int32) ≤ nI j := fun q => by have := cn_le (a := 64) (by omega) hj q; omega
      simp [a, b1, b2, b3]
theorem bI_e1 {b : Bool} (h : bI b = 1) : b = true := by cases b with
  | true => rfl
  | false => exact absurd h (by decide)
theorem bI_n1 {b : Bool} (h : ¬ bI b = 1) : b = false := by cases b with
  | false => rfl
  | true => exact absurd rfl h
/-- a row that another one is copied into -/
def fillAt (b i : Nat) (g f : Nat → Int32) : Nat → Int32 := fun j => if b ≤ j ∧ j < b + i then g (j - b) else f j
theorem fillAt_0 (b : Nat) (g f : Nat → Int32) : fillAt b 0 g f = f := by
  funext j
  unfold fillAt
  rw [if_neg (by omega)]
theorem fillAt_s (b i : Nat) (g f : Nat → Int32) : upd (fillAt b i g f) (b + i) (g i) = fillAt b (i + 1) g f := by
  funext j
  unfold upd fillAt
  by_cases e : j = b + i
  · rw [if_pos e, if_pos (by omega), show j - b = i by omega]
  · rw [if_neg e]
    by_cases e2 : b ≤ j ∧ j < b + i
    · rw [if_pos e2, if_pos (by omega)]
    · rw [if_neg e2, if_neg (by omega)]
/-- the way down of a path, its last i vertices -/
def dnF (G : Nat → Nat) (v L i : Nat) (f : Nat → Int32) : Nat → Int32 := fun t => if L - i ≤ t ∧ t < L then nI (fo_up G (L - 1 - t) v) else f t
theorem dnF_0 (G : Nat → Nat) (v L : Nat) (f : Nat → Int32) : dnF G v L 0 f = f := by
  funext t
  unfold dnF
  rw [if_neg (by omega)]
theorem dnF_s {G : Nat → Nat} {v L i : Nat} {f : Nat → Int32} (h : i < L) : upd (dnF G v L i f) (L - 1 - i) (nI (fo_up G i v)) = dnF G v L (i + 1) f := by
  funext t
  unfold upd dnF
  by_cases e : t = L - 1 - i
  · rw [if_pos e, if_pos (by omega), show L - 1 - t = i by omega]
  · rw [if_neg e]
    by_cases e2 : L - i ≤ t ∧ t < L
    · rw [if_pos e2, if_pos (by omega)]
    · rw [if_neg e2, if_neg (by omega)]
theorem lay_eq {n : Nat} {G : Nat → Nat} (F : fo_ok n G) {u v : Nat} (hr : fo_r G u = fo_r G v) (f : Nat → Int32) : dnF G v (fo_pL G u v) (fo_d G v - fo_d G (fo_m G u v)) (upd (apF G u f 0 (fo_pi G u v)) (fo_pi G u v) (nI (fo_m G u v))) = fillI (fo_pL G u v) (fun t => nI (fo_pt G u v t)) f := by
  obtain ⟨m1, m2, m3, m4, m5⟩ := fo_m_spec F hr
  have hL : fo_pL G u v = fo_pi G u v + (fo_d G v - fo_d G (fo_m G u v)) + 1 := rfl
  have hI : fo_pi G u v = fo_d G u - fo_d G (fo_m G u v) := rfl
  generalize fo_d G v - fo_d G (fo_m G u v) = k at *
  funext t
  unfold fillI dnF
  by_cases a : t < fo_pL G u v
  · rw [if_pos a]
    show _ = nI (fo_pt G u v t)
    unfold fo_pt
    by_cases b : t ≤ fo_pi G u v
    · rw [if_pos b, if_neg (by omega)]
      unfold upd
      by_cases e : t = fo_pi G u v
      · rw [if_pos e, show t = fo_d G u - fo_d G (fo_m G u v) by omega, m3]
      · rw [if_neg e]
        unfold apF
        rw [if_pos (by omega), Nat.sub_zero]
    · rw [if_neg b, if_pos (by omega)]
  · rw [if_neg a, if_neg (by omega)]
    unfold upd
    rw [if_neg (by omega)]
    unfold apF
    rw [if_neg (by omega)]
theorem fo_pt_ends {n : Nat} {G : Nat → Nat} (F : fo_ok n G) {u v : Nat} (hr : fo_r G u = fo_r G v) : fo_pi G u v ≤ fo_d G u ∧ fo_up G (fo_pi G u v) u = fo_m G u v := by
  obtain ⟨m1, m2, m3, m4, m5⟩ := fo_m_spec F hr
  exact ⟨Nat.sub_le _ _, m3⟩
/-- the longest distance, looked for among all pairs -/
def dIn (G : Nat → Nat) (r0 u : Nat) : Nat → Nat → Nat
  | 0, m => m
  | w + 1, m => if dIn G r0 u w m < (if fo_r G w = r0 then fo_dist G u w else 0) then (if fo_r G w = r0 then fo_dist G u w else 0) else dIn G r0 u w m
def dOut (G : Nat → Nat) (r0 : Nat) : Nat → Nat
  | 0 => 0
  | u + 1 => if fo_r G u = r0 then dIn G r0 u u (dOut G r0 u) else dOut G r0 u
theorem dIn_y {G : Nat → Nat} {r0 u w m : Nat} (h : fo_r G w = r0) (h2 : dIn G r0 u w m < fo_dist G u w) : dIn G r0 u (w + 1) m = fo_dist G u w := by
  show (if dIn G r0 u w m < (if fo_r G w = r0 then fo_dist G u w else 0) then (if fo_r G w = r0 then fo_dist G u w else 0) else dIn G r0 u w m) = _
  rw [if_pos h, if_pos h2]
theorem dIn_n {G : Nat → Nat} {r0 u w m : Nat} (h : ¬ (fo_r G w = r0 ∧ dIn G r0 u w m < fo_dist G u w)) : dIn G r0 u (w + 1) m = dIn G r0 u w m := by
  show (if dIn G r0 u w m < (if fo_r G w = r0 then fo_dist G u w else 0) then (if fo_r G w = r0 then fo_dist G u w else 0) else dIn G r0 u w m) = _
  by_cases e : fo_r G w = r0
  · rw [if_pos e, if_neg (fun q => h ⟨e, q⟩)]
  · rw [if_neg e, if_neg (Nat.not_lt_zero _)]
theorem dOut_y {G : Nat → Nat} {r0 u : Nat} (h : fo_r G u = r0) : dOut G r0 (u + 1) = dIn G r0 u u (dOut G r0 u) := if_pos h
theorem dOut_n {G : Nat → Nat} {r0 u : Nat} (h : ¬ fo_r G u = r0) : dOut G r0 (u + 1) = dOut G r0 u := if_neg h
def dSome (n : Nat) (G : Nat → Nat) (r0 m : Nat) : Prop := m = 0 ∨ ∃ u w, u < n ∧ w < n ∧ fo_r G u = r0 ∧ fo_r G w = r0 ∧ m = fo_dist G u w
theorem dIn_spec {n : Nat} {G : Nat → Nat} {r0 u : Nat} (hu : u < n) (hr : fo_r G u = r0) {m : Nat} (hm : dSome n G r0 m) : ∀ k, k ≤ n → m ≤ dIn G r0 u k m ∧ dSome n G r0 (dIn G r0 u k m) ∧ ∀ w, w < k → fo_r G w = r0 → fo_dist G u w ≤ dIn G r0 u k m := by
  intro k
  induction k with
  | zero => intro _; exact ⟨Nat.le_refl _, hm, fun w h => absurd h (Nat.not_lt_zero _)⟩
  | succ k ih =>
    intro hk
    obtain ⟨a1, a2, a3⟩ := ih (by omega)
    by_cases h : fo_r G k = r0 ∧ dIn G r0 u k m < fo_dist G u k
    · rw [dIn_y h.1 h.2]
      refine ⟨by omega, Or.inr ⟨u, k, hu, hk, hr, h.1, rfl⟩, fun w hw hwr => ?_⟩
      by_cases e : w = k
      · rw [e]; exact Nat.le_refl _
      · have := a3 w (by omega) hwr; omega
    · rw [dIn_n h]
      refine ⟨a1, a2, fun w hw hwr => ?_⟩
      by_cases e : w = k
      · rw [e] at hwr ⊢
        exact Nat.le_of_not_lt fun q => h ⟨hwr, q⟩
      · exact a3 w (by omega) hwr
theorem dOut_spec {n : Nat} {G : Nat → Nat} {r0 : Nat} : ∀ k, k ≤ n → dSome n G r0 (dOut G r0 k) ∧ ∀ u w, u < k → w < u → fo_r G u = r0 → fo_r G w = r0 → fo_dist G u w ≤ dOut G r0 k := by
  intro k
  induction k with
  | zero => intro _; exact ⟨Or.inl rfl, fun u w h => absurd h (Nat.not_lt_zero _)⟩
  | succ k ih =>
    intro hk
    obtain ⟨a1, a2⟩ := ih (by omega)
    by_cases h : fo_r G k = r0
    · obtain ⟨b1, b2, b3⟩ := dIn_spec hk h a1 k (by omega)
      rw [dOut_y h]
      refine ⟨b2, fun u w hu hw hur hwr => ?_⟩
      by_cases e : u = k
      · rw [e] at hw ⊢; exact b3 w hw hwr
      · have := a2 u w (by omega) hw hur hwr; omega
    · rw [dOut_n h]
      refine ⟨a1, fun u w hu hw hur hwr => ?_⟩
      by_cases e : u = k
      · rw [e] at hur; exact absurd hur h
      · exact a2 u w (by omega) hw hur hwr
theorem dIn_le {n : Nat} {G : Nat → Nat} (F : fo_ok n G) (r0 u : Nat) {m : Nat} (hm : m ≤ 126) (k : Nat) : dIn G r0 u k m ≤ 126 := by
  induction k with
  | zero => exact hm
  | succ k ih =>
    by_cases h : fo_r G k = r0 ∧ dIn G r0 u k m < fo_dist G u k
    · rw [dIn_y h.1 h.2]; exact fo_dist_le F _ _
    · rw [dIn_n h]; exact ih
theorem dOut_le {n : Nat} {G : Nat → Nat} (F : fo_ok n G) (r0 : Nat) (k : Nat) : dOut G r0 k ≤ 126 := by
  induction k with
  | zero => exact Nat.zero_le _
  | succ k ih =>
    by_cases h : fo_r G k = r0
    · rw [dOut_y h]; exact dIn_le F r0 k ih k
    · rw [dOut_n h]; exact ih
/-- a vertex that is farthest from any is an end of a longest path -/
theorem diam_eq {n : Nat} {G : Nat → Nat} (F : fo_ok n G) {j : Nat} (hj : j < n) : dOut G (fo_r G j) n = fo_dist G (fo_fs G j n).1 (fo_fs G (fo_fs G j n).1 n).1 := by
  obtain ⟨a1, a2, a3, a4⟩ := fo_fs_spec F hj n (Nat.le_refl n)
  obtain ⟨b1, b2, b3, b4⟩ := fo_fs_spec F a1 n (Nat.le_refl n)
  obtain ⟨c1, c2⟩ := dOut_spec (n := n) (G := G) (r0 := fo_r G j) n (Nat.le_refl n)
  generalize (fo_fs G (fo_fs G j n).1 n).1 = b at *
  generalize (fo_fs G j n).1 = a at *
  apply Nat.le_antisymm
  · rcases c1 with h | ⟨x, y, hx, hy, hxr, hyr, h⟩
    · rw [h]; exact Nat.zero_le _
    · rw [h]
      have f1 := fo_four F (x := j) (y := a) (z := x) (w := y) a2.symm (by rw [a2, hxr]) (by rw [hxr, hyr])
      have g1 := a4 x hx hxr
      have g2 := a4 y hy hyr
      have g3 := b4 x hx (by rw [hxr, a2])
      have g4 := b4 y hy (by rw [hyr, a2])
      rw [a3] at g1 g2
      rw [b3] at g3 g4
      omega
  · rcases Nat.lt_trichotomy a b with h | h | h
    · rw [fo_dist_comm F b2.symm]
      exact c2 b a b1 h (by rw [b2, a2]) a2
    · rw [← h, fo_dist_self F]; exact Nat.zero_le _
    · exact c2 a b a1 h a2 (by rw [b2, a2])
/-- values that stay in their range -/
def okV (va : Nat → Int32) : Prop := ∀ w, isV (va w) = true
theorem isV_b {x : Int32} (h : isV x = true) : -1000000 ≤ x.toInt ∧ x.toInt ≤ 1000000 := by
  simp only [isV, Bool.and_eq_true, Bool.not_eq_true', decide_eq_false_iff_not] at h
  obtain ⟨h1, h2⟩ := h
  have a := Int32.le_iff_toInt_le.mp (Int32.not_lt.mp h1)
  have b := Int32.le_iff_toInt_le.mp (Int32.not_lt.mp h2)
  exact ⟨a, b⟩
theorem neg1_toInt {x : Int32} (h : isV x = true) : (-1 * x).toInt = - x.toInt := by
  obtain ⟨h1, h2⟩ := isV_b h
  rw [Int32.toInt_mul]
  have e : (-1 : Int32).toInt = -1 := by decide
  rw [e, Int.neg_one_mul]
  apply Int.bmod_eq_of_le
  · omega
  · omega
theorem neg_le {x y : Int32} (hx : isV x = true) (hy : isV y = true) : -1 * x ≤ -1 * y ↔ y ≤ x := by
  rw [Int32.le_iff_toInt_le, Int32.le_iff_toInt_le, neg1_toInt hx, neg1_toInt hy]
  omega
