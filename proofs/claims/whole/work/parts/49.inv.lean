/-! what stays true from call to call -/
theorem okV_upd {va : Nat → Int32} {j : Nat} {x : Int32} (h : okV va) (hx : isV x = true) : okV (upd va j x) := by
  intro w
  unfold upd
  by_cases e : w = j
  · rw [if_pos e]; exact hx
  · rw [if_neg e]; exact h w
theorem okV_0 : okV (fun _ => 0) := fun _ => show isV 0 = true from by decide
theorem vAdd_o {va : Nat → Int32} {P : Nat → Nat} {d : Int32} {w : Nat} : ∀ k, (∀ i, i < k → P i ≠ w) → vAdd va P d k w = va w := by
  intro k
  induction k with
  | zero => intro _; rfl
  | succ k ih =>
    intro h
    show upd (vAdd va P d k) (P k) (vAdd va P d k (P k) + d) w = va w
    rw [pk_un (fun q => h k (Nat.lt_succ_self k) q.symm)]
    exact ih (fun i hi => h i (by omega))
theorem vAdd_ok {va : Nat → Int32} {P : Nat → Nat} {d : Int32} {L : Nat} (h : okV va) (hinj : ∀ i j, i < j → j < L → P i ≠ P j) (ha : ∀ i, i < L → isV (va (P i) + d) = true) : ∀ k, k ≤ L → okV (vAdd va P d k) := by
  intro k
  induction k with
  | zero => intro _; exact h
  | succ k ih =>
    intro hk
    refine okV_upd (ih (by omega)) ?_
    rw [vAdd_o k (fun i hi => hinj i k hi hk)]
    exact ha k hk
theorem vSet_ok {va : Nat → Int32} {P : Nat → Nat} {x : Int32} (h : okV va) (hx : isV x = true) (k : Nat) : okV (vSet va P x k) := by
  induction k with
  | zero => exact h
  | succ k ih => exact okV_upd ih hx
theorem vRev_ok {va : Nat → Int32} {P : Nat → Nat} {L : Nat} (h : okV va) (k : Nat) : okV (vRev va P L k) := by
  induction k with
  | zero => exact h
  | succ k ih => exact okV_upd (okV_upd ih (ih _)) (ih _)
theorem vSub_ok {va : Nat → Int32} {f : Nat → Bool} {d : Int32} {n : Nat} (h : okV va) (ha : ∀ w, w < n → f w = true → isV (va w + d) = true) : ∀ k, k ≤ n → okV (vSub va f d k) := by
  intro k
  induction k with
  | zero => intro _; exact h
  | succ k ih =>
    intro hk
    cases e : f k with
    | true =>
      rw [vSub_y e]
      refine okV_upd (ih (by omega)) ?_
      rw [vSub_o k k (Nat.le_refl k)]
      exact ha k hk e
    | false =>
      rw [vSub_n e]
      exact ih (by omega)
theorem gb_ind {α : Type} {n : Nat} {u v : Int32} {f : Nat → Nat → α} {d : α} (T : α → Prop) (hn : n ≤ 64) (hd : T d) (hf : ∀ j k, j < n → k < n → T (f j k)) : T (gb n u v f d) := by
  cases hu : hasB n u with
  | false => rw [gb_fl hu]; exact hd
  | true =>
    cases hv : hasB n v with
    | false => rw [gb_fr hv]; exact hd
    | true =>
      obtain ⟨j, hj, rfl⟩ := hasB_of hn hu
      obtain ⟨k, hk, rfl⟩ := hasB_of hn hv
      rw [gb_t hj hk hn]; exact hf j k hj hk
theorem ga_ind {α : Type} {n : Nat} {v : Int32} {f : Nat → α} {d : α} (T : α → Prop) (hn : n ≤ 64) (hd : T d) (hf : ∀ j, j < n → T (f j)) : T (ga n v f d) := by
  cases hv : hasB n v with
  | false => rw [ga_f hv]; exact hd
  | true =>
    obtain ⟨k, hk, rfl⟩ := hasB_of hn hv
    rw [ga_t hk hn]; exact hf k hk
theorem gp_ind {α : Type} {n : Nat} {G : Nat → Nat} {u v : Int32} {f : Nat → Nat → α} {d : α} (T : α → Prop) (hn : n ≤ 64) (hd : T d) (hf : ∀ j k, j < n → k < n → fo_r G j = fo_r G k → T (f j k)) : T (gp n G u v f d d) := by
  refine gb_ind T hn hd (fun j k hj hk => ?_)
  by_cases e : fo_r G j = fo_r G k
  · rw [if_pos e]; exact hf j k hj hk e
  · rw [if_neg e]; exact hd
theorem reset_ok {n : Nat} {G : Nat → Nat} (F : fo_ok n G) (x : Int32) : fo_ok (gk x (fun j => j) n) (gk x (fun _ w => w) G) := by
  cases h : isN x with
  | false => rw [gk_f h, gk_f h]; exact F
  | true =>
    obtain ⟨j, h1, h2, rfl⟩ := isN_of h
    rw [gk_t h1 h2, gk_t h1 h2]
    exact fo_id_ok h1 h2
theorem reset_okV {va : Nat → Int32} (h0 : okV va) (x : Int32) : okV (gk x (fun _ _ => 0) va) := by
  cases h : isN x with
  | false => rw [gk_f h]; exact h0
  | true =>
    obtain ⟨j, h1, h2, rfl⟩ := isN_of h
    rw [gk_t h1 h2]
    exact okV_0
theorem link_ok {n : Nat} {G : Nat → Nat} (F : fo_ok n G) (v u : Int32) : fo_ok n (gLink n G v u) := by
  refine gb_ind (fun g => fo_ok n g) F.2.1 F (fun j k hj hk => ?_)
  by_cases e : G j = j ∧ ¬ fo_r G k = j
  · rw [if_pos e]; exact fo_link F hj hk e.1 e.2
  · rw [if_neg e]; exact F
theorem cut_ok {n : Nat} {G : Nat → Nat} (F : fo_ok n G) (v : Int32) : fo_ok n (ga n v (fun j => fo_set G j j) G) :=
  ga_ind (fun g => fo_ok n g) F.2.1 F (fun _ hj => fo_cut F hj)
theorem reroot_ok {n : Nat} {G : Nat → Nat} (F : fo_ok n G) (v : Int32) : fo_ok n (ga n v (fun j => fo_rr G j) G) :=
  ga_ind (fun g => fo_ok n g) F.2.1 F (fun _ hj => fo_rr_ok F hj)
theorem setValue_ok {n : Nat} {G : Nat → Nat} {va : Nat → Int32} (F : fo_ok n G) (h : okV va) (v x : Int32) : okV (ga n v (fun j => if isV x = true then upd va j x else va) va) := by
  refine ga_ind okV F.2.1 h (fun j _ => ?_)
  by_cases e : isV x = true
  · rw [if_pos e]; exact okV_upd h e
  · rw [if_neg e]; exact h
theorem addSub_ok {n : Nat} {G : Nat → Nat} {va : Nat → Int32} (F : fo_ok n G) (h : okV va) (v x : Int32) : okV (ga n v (fun j => if oSub n G va x j = true then vSub va (fun w => fo_bel G w j) x n else va) va) := by
  refine ga_ind okV F.2.1 h (fun j _ => ?_)
  by_cases e : oSub n G va x j = true
  · rw [if_pos e]
    unfold oSub at e
    have e2 := (Bool.and_eq_true _ _ ▸ e).2
    refine vSub_ok h (fun w hw hf => ?_) n (Nat.le_refl n)
    have e3 := fAll_at e2 hw
    simpa [hf] using e3
  · rw [if_neg e]; exact h
theorem addPath_ok {n : Nat} {G : Nat → Nat} {va : Nat → Int32} (F : fo_ok n G) (h : okV va) (u v x : Int32) : okV (gp n G u v (fun a b => if oAdd va (fo_pt G a b) x (fo_pL G a b) = true then vAdd va (fo_pt G a b) x (fo_pL G a b) else va) va va) := by
  refine gp_ind okV F.2.1 h (fun j k _ _ hr => ?_)
  by_cases e : oAdd va (fo_pt G j k) x (fo_pL G j k) = true
  · rw [if_pos e]
    unfold oAdd at e
    have e2 := (Bool.and_eq_true _ _ ▸ e).2
    exact vAdd_ok h (fun a b hab hb => fo_pt_ne F hr hab hb) (fun i hi => fAll_at e2 hi) _ (Nat.le_refl _)
  · rw [if_neg e]; exact h
theorem setPath_ok {n : Nat} {G : Nat → Nat} {va : Nat → Int32} (F : fo_ok n G) (h : okV va) (u v x : Int32) : okV (gp n G u v (fun a b => if isV x = true then vSet va (fo_pt G a b) x (fo_pL G a b) else va) va va) := by
  refine gp_ind okV F.2.1 h (fun j k _ _ _ => ?_)
  by_cases e : isV x = true
  · rw [if_pos e]; exact vSet_ok h e _
  · rw [if_neg e]; exact h
theorem revPath_ok {n : Nat} {G : Nat → Nat} {va : Nat → Int32} (F : fo_ok n G) (h : okV va) (u v : Int32) : okV (gp n G u v (fun a b => vRev va (fo_pt G a b) (fo_pL G a b) (fo_pL G a b / 2)) va va) :=
  gp_ind okV F.2.1 h (fun _ _ _ _ _ => vRev_ok h _)
/-- a slot: never saved, or one state in both systems -/
def slR (k b n1 : Nat) (pa1 va1 : Nat → Int32) (mk1 : Nat → Bool) (fsl fsv : Nat → Int32) : Prop :=
  (n1 = 0 ∧ fsv k = bI false) ∨ ∃ G1, fo_ok n1 G1 ∧ okV va1 ∧ pa1 = fo_cp G1 ∧ fsv k = bI true ∧ ∀ t, t < 193 → fsl (b + t) = mst n1 G1 va1 mk1 t
theorem slR_new0 {n : Nat} {G : Nat → Nat} {va : Nat → Int32} {mk : Nat → Bool} (F : fo_ok n G) (h : okV va) (fsl fsv : Nat → Int32) : slR 0 0 n (fo_cp G) va mk (fillAt 0 193 (mst n G va mk) fsl) (upd fsv 0 1) := by
  refine Or.inr ⟨G, F, h, rfl, rfl, fun t ht => ?_⟩
  unfold fillAt
  rw [if_pos (by omega), Nat.add_sub_cancel_left]
theorem slR_new1 {n : Nat} {G : Nat → Nat} {va : Nat → Int32} {mk : Nat → Bool} (F : fo_ok n G) (h : okV va) (fsl fsv : Nat → Int32) : slR 1 193 n (fo_cp G) va mk (fillAt 193 193 (mst n G va mk) fsl) (upd fsv 1 1) := by
  refine Or.inr ⟨G, F, h, rfl, rfl, fun t ht => ?_⟩
  unfold fillAt
  rw [if_pos (by omega), Nat.add_sub_cancel_left]
theorem slR_old1 {n1 : Nat} {pa1 va1 : Nat → Int32} {mk1 : Nat → Bool} {fsl fsv g : Nat → Int32} (h : slR 1 193 n1 pa1 va1 mk1 fsl fsv) : slR 1 193 n1 pa1 va1 mk1 (fillAt 0 193 g fsl) (upd fsv 0 1) := by
  rcases h with ⟨h1, h2⟩ | ⟨G1, h1, h2, h3, h4, h5⟩
  · exact Or.inl ⟨h1, h2⟩
  · refine Or.inr ⟨G1, h1, h2, h3, h4, fun t ht => ?_⟩
    unfold fillAt
    rw [if_neg (by omega)]; exact h5 t ht
theorem slR_old0 {n1 : Nat} {pa1 va1 : Nat → Int32} {mk1 : Nat → Bool} {fsl fsv g : Nat → Int32} (h : slR 0 0 n1 pa1 va1 mk1 fsl fsv) : slR 0 0 n1 pa1 va1 mk1 (fillAt 193 193 g fsl) (upd fsv 1 1) := by
  rcases h with ⟨h1, h2⟩ | ⟨G1, h1, h2, h3, h4, h5⟩
  · exact Or.inl ⟨h1, h2⟩
  · refine Or.inr ⟨G1, h1, h2, h3, h4, fun t ht => ?_⟩
    unfold fillAt
    rw [if_neg (by omega)]; exact h5 t ht
def LInv (n : Nat) (G : Nat → Nat) (va : Nat → Int32) (n1 : Nat) (pa1 va1 : Nat → Int32) (mk1 : Nat → Bool) (n2 : Nat) (pa2 va2 : Nat → Int32) (mk2 : Nat → Bool) (L : Nat) (fsl fsv : Nat → Int32) : Prop :=
  fo_ok n G ∧ okV va ∧ L ≤ 64 ∧ slR 0 0 n1 pa1 va1 mk1 fsl fsv ∧ slR 1 193 n2 pa2 va2 mk2 fsl fsv
/-- the world of the law's loop -/
abbrev LW (h f fa fb fc f1 fa1 fb1 fc1 f2 fa2 fb2 fc2 ph hq g st sl sv pt : Nat) (cI cZ : ClassId) (n : Nat) (G : Nat → Nat) (va : Nat → Int32) (mk : Nat → Bool) (n1 : Nat) (pa1 va1 : Nat → Int32) (mk1 : Nat → Bool) (n2 : Nat) (pa2 va2 : Nat → Int32) (mk2 : Nat → Bool) (vs : Nat → Int32) (L : Nat) (fsl fsv fpt : Nat → Int32) (many : Int32) : va_W :=
  wO h f f1 f2 ph ++ wF f fa fb fc cI cZ n (fo_cp G) va mk ++ wF f1 fa1 fb1 fc1 cI cZ n1 pa1 va1 mk1 ++ wF f2 fa2 fb2 fc2 cI cZ n2 pa2 va2 mk2 ++ wP ph hq cI vs (nI L) ++ wM g st sl sv pt cI cZ (mst n G va mk) fsl fsv fpt many
abbrev aI (s : State) : Nat → Prop := fun q : Nat => s.heap.size ≤ q
abbrev Wl (p : Program) (l : Launch) (e : Env) (s : State) (m : MethodId) (b : Nat) (below : List Frame) (meth : Method) (c : Code) (H : Heap) (locs : List Loc) (g : JFrame) : Prop := W p l e room_1 s m #[Value.ref b] below meth c H locs 20 1308 (lw_Z below #[Value.ref b] s) g
/-- what a case of the law comes to: the loop's end, with a state of both systems -/
def LKont (p : Program) (l : Launch) (e : Env) (s : State) (m : MethodId) (b : Nat) (below : List Frame) (meth : Method) (c : Code) (D : va_G) (cI cZ : ClassId) (h f fa fb fc f1 fa1 fb1 fc1 f2 fa2 fb2 fc2 ph hq g st sl sv pt : Nat) (ls : Array Slot) : Prop :=
  ∀ (n : Nat) (G : Nat → Nat) (va : Nat → Int32) (mk : Nat → Bool) (n1 : Nat) (pa1 va1 : Nat → Int32) (mk1 : Nat → Bool) (n2 : Nat) (pa2 va2 : Nat → Int32) (mk2 : Nat → Bool) (vs : Nat → Int32) (L : Nat) (fsl fsv fpt : Nat → Int32) (many : Int32), LInv n G va n1 pa1 va1 mk1 n2 pa2 va2 mk2 L fsl fsv → ∀ (H : Heap) (locs : List Loc), va_P D vwCl (LW h f fa fb fc f1 fa1 fb1 fc1 f2 fa2 fb2 fc2 ph hq g st sl sv pt cI cZ n G va mk n1 pa1 va1 mk1 n2 pa2 va2 mk2 vs L fsl fsv fpt many) H → va_D (aI s) (LW h f fa fb fc f1 fa1 fb1 fc1 f2 fa2 fb2 fc2 ph hq g st sl sv pt cI cZ n G va mk n1 pa1 va1 mk1 n2 pa2 va2 mk2 vs L fsl fsv fpt many) → va_S (aI s) s.heap H locs → Wl p l e s m b below meth c H locs (F0 m 1044 ls [])
theorem sc_ld {p : Program} {l : Launch} {e : Env} {R : Jvm.Room} {s : State} {m : MethodId} {args : Array Value} {below : List Frame} {meth : Method} {c : Code} {H : Heap} {locs : List Loc} {cells slots : Nat} {Q : State → Prop} {cc : ByteArray} {pc : Nat} {ls : Array Slot} {rest : List Value} {b Len k : Nat} {xs : Nat → Int32} (hx : p.tables.exec = Jvm.exec) (hb : c.code = cc) (hX : va_X b Len xs s s.heap) (hbl : b < s.heap.size) (hS : va_S (aI s) s.heap H locs) (hk : k < Len) (hL : Len ≤ 2048) (hdg : decode cc pc = .ok (.iaload, 1))
    (kk : W p l e R s m args below meth c H locs cells slots Q (F0 m (pc + 1) ls (.int (xs k) :: rest))) : W p l e R s m args below meth c H locs cells slots Q (F0 m pc ls (.int (nI k) :: .ref b :: rest)) :=
  va_sld hx hb hX hbl (Nat.not_le.mpr hbl) hS (vp_in_nI hk (by omega)) hdg (by rw [nI_clamp (by omega)]; exact kk)
theorem law_in {Len i : Nat} (hL : Len ≤ 2048) (_hi : i < 2 ^ 31) (h : ¬ nI Len - 4 < nI i) : i + 4 ≤ Len := by
  by_cases a : Len < 4
  · have h1 : nI Len - nI 4 < 0 := pk_sneg (by omega) a
    exact absurd (Int32.lt_of_lt_of_le h1 (nI_pos' (by omega))) h
  · rw [show nI Len - 4 = nI (Len - 4) from pk_sub (b := 4) (by omega)] at h
    have := cn_nlt (a := Len - 4) (b := i) (by omega) (by omega) h
    omega
