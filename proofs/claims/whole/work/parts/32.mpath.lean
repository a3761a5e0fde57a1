theorem fillAt_s0 (i : Nat) (g f : Nat → Int32) : upd (fillAt 0 i g f) i (g i) = fillAt 0 (i + 1) g f := by
  have h := fillAt_s 0 i g f
  rw [Nat.zero_add] at h
  exact h
def pvM (n : Nat) (G : Nat → Nat) (many : Int32) (u v : Int32) : Int32 := gp n G u v (fun a b => nI (fo_pL G a b)) many many
theorem pvM_t {n j k : Nat} {G : Nat → Nat} {many : Int32} (hj : j < n) (hk : k < n) (hn : n ≤ 64) (hr : fo_r G j = fo_r G k) : pvM n G many (nI j) (nI k) = nI (fo_pL G j k) := gp_t hj hk hn hr
theorem inB_S {x : Int32} : inB x 0 1 = isS x := by
  unfold inB isS
  by_cases a : x < 0
  · have h0 : ¬ x = 0 := fun q => by rw [q] at a; exact absurd a (by decide)
    have h1 : ¬ x = 1 := fun q => by rw [q] at a; exact absurd a (by decide)
    simp [a, h0, h1]
  · obtain ⟨j, hj, rfl⟩ := nI_of a
    by_cases b : j < 2
    · have e : j = 0 ∨ j = 1 := by omega
      rcases e with rfl | rfl <;> decide
    · have b1 : (1 : Int32) < nI j := nI_lt (a := 1) (by omega) hj
      have h0 : ¬ nI j = 0 := fun q => by have := cn_eq (a := j) (b := 0) hj (by decide) q; omega
      have h1 : ¬ nI j = 1 := fun q => by have := cn_eq (a := j) (b := 1) hj (by decide) q; omega
      simp [a, b1, h0, h1]
set_option maxHeartbeats 4000000 in
set_option maxRecDepth 100000 in
theorem c_X3_pathVertex (l : Launch) (D : va_G) (cI cZ : ClassId) (h : Nat) (st : Nat) (sl : Nat) (sv : Nat) (pt : Nat) (fsl : Nat → Int32) (fsv : Nat → Int32) (fpt : Nat → Int32) (many : Int32) (n : Nat) (G : Nat → Nat) (va : Nat → Int32) (mk : Nat → Bool) (F : fo_ok n G) (u : Int32) (v : Int32) (x : Int32) : WrM l yX3_pathVertex wsX3_pathVertex 5 114 D cI cZ (wM h st sl sv pt cI cZ (mst n G va mk) fsl fsv fpt many) (wM h st sl sv pt cI cZ (mst n G va mk) fsl fsv (pvV n G fpt u v) (pvM n G many u v)) [.ref h, .int u, .int v, .int x] (some (.int (gp n G u v (fun a b => ga (fo_pL G a b) x (fun i => nI (fo_pt G a b i)) (-100000007)) (-100000001) (-100000004)))) := by
  refine WrM.of (cc := cX3_pathVertex) (maxL := 5) (ret := (some .int)) (by decide) rfl (Nat.le_of_ble_eq_true rfl) ?_
  intro p e s m below meth c hx hb hr hml hown hts hlocks hP hK hD hS ls hl
  have hown : s.vm.findClass RX3 = some m.cls := hown
  have hl : lv_has ls 5 [(0, .ref h), (1, .int u), (2, .int v), (3, .int x)] := hl
  have hP : va_P D vwCl (wM h st sl sv pt cI cZ (mst n G va mk) fsl fsv fpt many) s.heap := hP
  have hf62 := hts (.fieldLink RX3 62 "DynamicForestModel" "pathMany" "I") (by decide +kernel)
  have hf20 := hts (.fieldLink RX3 20 "DynamicForestModel" "path" "[I") (by decide +kernel)
  have hk53 := hts (.constant RX3 53 (-100000007)) (by decide +kernel)
  have hin3 : ∀ w ∈ u_ws RX3 TX3 5, w ∈ wsX3_pathVertex := by decide +kernel
  have hn : n ≤ 64 := F.2.1
  refine lv_aload_n hx hb dX3_pathVertex_0 rfl (lv_at hl 0 rfl) ?_
  refine lv_iload_n hx hb dX3_pathVertex_1 rfl (lv_at hl 1 rfl) ?_
  refine lv_iload_n hx hb dX3_pathVertex_2 rfl (lv_at hl 2 rfl) ?_
  refine rd_call ⟨hx, hb, hml, hown, hts⟩ (c_X3_wrongPair l D cI cZ h st sl sv pt fsl fsv fpt many n G va mk F u v) (cwV 2 hts gX3_pathVertex_X3_wrongPair rfl rfl rfl (by decide +kernel) ⟨Nat.le_of_ble_eq_true rfl, Nat.le_of_ble_eq_true rfl⟩) hP hK rfl rfl rfl hl rfl (Nat.le_of_ble_eq_true rfl) dX3_pathVertex_3 ⟨Nat.zero_le _, Nat.zero_le _⟩ ?_
  refine lv_istore (lv' := [(4, .int (pE n G u v)), (0, .ref h), (1, .int u), (2, .int v), (3, .int x)]) hx hb dX3_pathVertex_6 hl (by decide) rfl (fun ls hl => ?_)
  refine lv_iload hx hb dX3_pathVertex_8 (lv_at hl 0 rfl) ?_
  refine lv_if_eq (tgt := 16) hx hb dX3_pathVertex_10 (by decide) (fun c_10 => ?_) (fun c_10 => ?_)
  · skip
    obtain ⟨j, k, hj, hk, rfl, rfl, hro⟩ := pE_ok hn c_10
    have hLL : fo_pL G j k ≤ n := fo_pL_le F hro hj hk
    have hL1 : 1 ≤ fo_pL G j k := Nat.succ_le_succ (Nat.zero_le _)
    have hLL2 : fo_pL G j k ≤ 64 := Nat.le_trans hLL hn
    refine lv_aload_n hx hb dX3_pathVertex_16 rfl (lv_at hl 1 rfl) ?_
    refine lv_iload_n hx hb dX3_pathVertex_17 rfl (lv_at hl 2 rfl) ?_
    refine lv_iload_n hx hb dX3_pathVertex_18 rfl (lv_at hl 3 rfl) ?_
    refine wr_call (V1 := wM h st sl sv pt cI cZ (mst n G va mk) fsl fsv (fillI (fo_pL G j k) (fun t => nI (fo_pt G j k t)) fpt) (nI (fo_pL G j k))) ⟨hx, hb, hml, hown, hts⟩ (c_X3_layPath l D cI cZ h st sl sv pt fsl fsv fpt many n G va mk F j k hj hk hro) (cwV 2 hts gX3_pathVertex_X3_layPath rfl rfl rfl (by decide +kernel) ⟨Nat.le_of_ble_eq_true rfl, Nat.le_of_ble_eq_true rfl⟩) hP hK hD hS [0, 1, 2, 3, 4] [] [0, 1, 2, 3, 4] rfl rfl (by decide) rfl rfl rfl rfl rfl hl rfl (Nat.le_of_ble_eq_true rfl) dX3_pathVertex_19 ⟨Nat.zero_le _, Nat.zero_le _⟩ (fun H locs hP hD hS => ?_)
    refine lv_iload_n hx hb dX3_pathVertex_22 rfl (lv_at hl 4 rfl) ?_
    refine lv_iconst (v := 0) hx hb dX3_pathVertex_23 (by decide) ?_
    refine lv_aload_n hx hb dX3_pathVertex_24 rfl (lv_at hl 1 rfl) ?_
    refine va_get (D := D) (ci := 3) (v := .int (nI (fo_pL G j k))) (C := RX3) (T := TX3) (N := 5) hx hb hts hin3 hown hK hP 0 rfl rfl 4 (by decide) hf62 (fun _ h9 => h9) rfl dX3_pathVertex_25 ?_
    refine lv_iconst (v := 1) hx hb dX3_pathVertex_28 (by decide) ?_
    refine lv_isub hx hb dX3_pathVertex_29 ?_
    refine rd_callS ⟨hx, hb, hml, hown, hts⟩ (c_X3_in l D cI cZ x 0 (nI (fo_pL G j k) - 1)) (va_cwS 3 hts gX3_pathVertex_X3_in rfl rfl rfl (by decide +kernel) ⟨Nat.le_of_ble_eq_true rfl, Nat.le_of_ble_eq_true rfl⟩) hK rfl hl rfl (Nat.le_of_ble_eq_true rfl) dX3_pathVertex_30 ⟨Nat.zero_le _, Nat.zero_le _⟩ ?_
    refine lv_if_eq (tgt := 45) hx hb dX3_pathVertex_33 (by decide) (fun c_33 => ?_) (fun c_33 => ?_)
    · skip
      have c_33 := bI_0 c_33
      rw [inB_has (by omega) hLL2] at c_33
      refine lv_ldc (own := RX3) hx hb hown hk53 dX3_pathVertex_45 ?_
      have hP : va_P D vwCl (wM h st sl sv pt cI cZ (mst n G va mk) fsl fsv (pvV n G fpt (nI j) (nI k)) (pvM n G many (nI j) (nI k))) H := by rw [pvV_t hj hk hn hro, pvM_t hj hk hn hro]; exact hP
      exact wr_i hx hb hr hlocks hP hS (by rw [gp_t hj hk hn hro, ga_f c_33]) dX3_pathVertex_47
    · skip
      have c_33 := bI_1 c_33
      rw [inB_has (by omega) hLL2] at c_33
      obtain ⟨i, hi, rfl⟩ := hasB_of hLL2 c_33
      refine lv_aload_n hx hb dX3_pathVertex_36 rfl (lv_at hl 1 rfl) ?_
      refine va_get (D := D) (ci := 3) (v := .ref pt) (C := RX3) (T := TX3) (N := 5) hx hb hts hin3 hown hK hP 0 rfl rfl 3 (by decide) hf20 (fun _ h9 => h9) rfl dX3_pathVertex_37 ?_
      refine lv_iload_n hx hb dX3_pathVertex_40 rfl (lv_at hl 4 rfl) ?_
      refine ar_i (tys := []) hx hb hK hP 4 rfl (k := i) (by omega) (by decide) dX3_pathVertex_41 ?_
      rw [fillI_lt _ _ hi]
      refine lv_goto (tgt := 47) hx hb dX3_pathVertex_42 (by decide) ?_
      have hP : va_P D vwCl (wM h st sl sv pt cI cZ (mst n G va mk) fsl fsv (pvV n G fpt (nI j) (nI k)) (pvM n G many (nI j) (nI k))) H := by rw [pvV_t hj hk hn hro, pvM_t hj hk hn hro]; exact hP
      exact wr_i hx hb hr hlocks hP hS (by rw [gp_t hj hk hn hro, ga_t hi hLL2]) dX3_pathVertex_47
  · skip
    refine lv_iload hx hb dX3_pathVertex_13 (lv_at hl 0 rfl) ?_
    have hP : va_P D vwCl (wM h st sl sv pt cI cZ (mst n G va mk) fsl fsv (pvV n G fpt u v) (pvM n G many u v)) s.heap := by unfold pvV pvM; rw [pE_same hn c_10, pE_same hn c_10]; exact hP
    exact wr_i hx hb hr hlocks hP hS (pE_no hn c_10 _ _ _ _) dX3_pathVertex_15
set_option maxHeartbeats 4000000 in
set_option maxRecDepth 100000 in
theorem c_X3_pathSum (l : Launch) (D : va_G) (cI cZ : ClassId) (h : Nat) (st : Nat) (sl : Nat) (sv : Nat) (pt : Nat) (fsl : Nat → Int32) (fsv : Nat → Int32) (fpt : Nat → Int32) (many : Int32) (n : Nat) (G : Nat → Nat) (va : Nat → Int32) (mk : Nat → Bool) (F : fo_ok n G) (u : Int32) (v : Int32) : WrM l yX3_pathSum wsX3_pathSum 5 114 D cI cZ (wM h st sl sv pt cI cZ (mst n G va mk) fsl fsv fpt many) (wM h st sl sv pt cI cZ (mst n G va mk) fsl fsv (pvV n G fpt u v) (pvM n G many u v)) [.ref h, .int u, .int v] (some (.int (gp n G u v (fun a b => pSum va (fo_pt G a b) (fo_pL G a b)) (-100000001) (-100000004)))) := by
  refine WrM.of (cc := cX3_pathSum) (maxL := 6) (ret := (some .int)) (by decide) rfl (Nat.le_of_ble_eq_true rfl) ?_
  intro p e s m below meth c hx hb hr hml hown hts hlocks hP hK hD hS ls hl
  have hown : s.vm.findClass RX3 = some m.cls := hown
  have hl : lv_has ls 6 [(0, .ref h), (1, .int u), (2, .int v)] := hl
  have hP : va_P D vwCl (wM h st sl sv pt cI cZ (mst n G va mk) fsl fsv fpt many) s.heap := hP
  have hf62 := hts (.fieldLink RX3 62 "DynamicForestModel" "pathMany" "I") (by decide +kernel)
  have hf20 := hts (.fieldLink RX3 20 "DynamicForestModel" "path" "[I") (by decide +kernel)
  have hin3 : ∀ w ∈ u_ws RX3 TX3 5, w ∈ wsX3_pathSum := by decide +kernel
  have hn : n ≤ 64 := F.2.1
  refine lv_aload_n hx hb dX3_pathSum_0 rfl (lv_at hl 0 rfl) ?_
  refine lv_iload_n hx hb dX3_pathSum_1 rfl (lv_at hl 1 rfl) ?_
  refine lv_iload_n hx hb dX3_pathSum_2 rfl (lv_at hl 2 rfl) ?_
  refine rd_call ⟨hx, hb, hml, hown, hts⟩ (c_X3_wrongPair l D cI cZ h st sl sv pt fsl fsv fpt many n G va mk F u v) (cwV 2 hts gX3_pathSum_X3_wrongPair rfl rfl rfl (by decide +kernel) ⟨Nat.le_of_ble_eq_true rfl, Nat.le_of_ble_eq_true rfl⟩) hP hK rfl rfl rfl hl rfl (Nat.le_of_ble_eq_true rfl) dX3_pathSum_3 ⟨Nat.zero_le _, Nat.zero_le _⟩ ?_
  refine lv_istore_n (lv' := [(3, .int (pE n G u v)), (0, .ref h), (1, .int u), (2, .int v)]) hx hb dX3_pathSum_6 rfl hl (by decide) rfl (fun ls hl => ?_)
  refine lv_iload_n hx hb dX3_pathSum_7 rfl (lv_at hl 0 rfl) ?_
  refine lv_if_eq (tgt := 13) hx hb dX3_pathSum_8 (by decide) (fun c_8 => ?_) (fun c_8 => ?_)
  · skip
    obtain ⟨j, k, hj, hk, rfl, rfl, hro⟩ := pE_ok hn c_8
    have hLL : fo_pL G j k ≤ n := fo_pL_le F hro hj hk
    have hL1 : 1 ≤ fo_pL G j k := Nat.succ_le_succ (Nat.zero_le _)
    have hLL2 : fo_pL G j k ≤ 64 := Nat.le_trans hLL hn
    refine lv_aload_n hx hb dX3_pathSum_13 rfl (lv_at hl 1 rfl) ?_
    refine lv_iload_n hx hb dX3_pathSum_14 rfl (lv_at hl 2 rfl) ?_
    refine lv_iload_n hx hb dX3_pathSum_15 rfl (lv_at hl 3 rfl) ?_
    refine wr_call (V1 := wM h st sl sv pt cI cZ (mst n G va mk) fsl fsv (fillI (fo_pL G j k) (fun t => nI (fo_pt G j k t)) fpt) (nI (fo_pL G j k))) ⟨hx, hb, hml, hown, hts⟩ (c_X3_layPath l D cI cZ h st sl sv pt fsl fsv fpt many n G va mk F j k hj hk hro) (cwV 2 hts gX3_pathSum_X3_layPath rfl rfl rfl (by decide +kernel) ⟨Nat.le_of_ble_eq_true rfl, Nat.le_of_ble_eq_true rfl⟩) hP hK hD hS [0, 1, 2, 3, 4] [] [0, 1, 2, 3, 4] rfl rfl (by decide) rfl rfl rfl rfl rfl hl rfl (Nat.le_of_ble_eq_true rfl) dX3_pathSum_16 ⟨Nat.zero_le _, Nat.zero_le _⟩ (fun H locs hP hD hS => ?_)
    refine lv_iconst (v := 0) hx hb dX3_pathSum_19 (by decide) ?_
    refine lv_istore (lv' := [(4, .int 0), (3, .int (pE n G (nI j) (nI k))), (0, .ref h), (1, .int (nI j)), (2, .int (nI k))]) hx hb dX3_pathSum_20 hl (by decide) rfl (fun ls hl => ?_)
    refine lv_iconst (v := nI 0) hx hb dX3_pathSum_22 (by decide) ?_
    refine lv_istore (lv' := [(5, .int (nI 0)), (4, .int 0), (3, .int (pE n G (nI j) (nI k))), (0, .ref h), (1, .int (nI j)), (2, .int (nI k))]) hx hb dX3_pathSum_23 hl (by decide) rfl (fun ls hl => ?_)
    have L25 : ∀ (k25_ : Nat) (i : Nat), i ≤ fo_pL G j k → fo_pL G j k - i < k25_ → ∀ (H : Heap) (locs : List Loc), va_P D vwCl (wM h st sl sv pt cI cZ (mst n G va mk) fsl fsv (fillI (fo_pL G j k) (fun t => nI (fo_pt G j k t)) fpt) (nI (fo_pL G j k))) H → va_D (adr (wM h st sl sv pt cI cZ (mst n G va mk) fsl fsv fpt many)) (wM h st sl sv pt cI cZ (mst n G va mk) fsl fsv (fillI (fo_pL G j k) (fun t => nI (fo_pt G j k t)) fpt) (nI (fo_pL G j k))) → va_S (adr (wM h st sl sv pt cI cZ (mst n G va mk) fsl fsv fpt many)) s.heap H locs → ∀ ls, lv_has ls 6 [(0, .ref h), (4, .int (pSum va (fo_pt G j k) i)), (5, .int (nI i))] → Ww0 p l e wsX3_pathSum 5 114 s m [.ref h, .int (nI j), .int (nI k)] below meth c D (wM h st sl sv pt cI cZ (mst n G va mk) fsl fsv fpt many) (wM h st sl sv pt cI cZ (mst n G va mk) fsl fsv (pvV n G fpt (nI j) (nI k)) (pvM n G many (nI j) (nI k))) (some (.int (gp n G (nI j) (nI k) (fun a b => pSum va (fo_pt G a b) (fo_pL G a b)) (-100000001) (-100000004)))) H locs (F0 m 25 ls []) := by
      intro k25_
      induction k25_ with
      | zero => intro i hi hk25_; exact absurd hk25_ (Nat.not_lt_zero _)
      | succ k25_ ih25 =>
        intro i hi hk25_ H locs hP hD hS ls hl
        refine lv_iload hx hb dX3_pathSum_25 (lv_at hl 2 rfl) ?_
        refine lv_aload_n hx hb dX3_pathSum_27 rfl (lv_at hl 0 rfl) ?_
        refine va_get (D := D) (ci := 3) (v := .int (nI (fo_pL G j k))) (C := RX3) (T := TX3) (N := 5) hx hb hts hin3 hown hK hP 0 rfl rfl 4 (by decide) hf62 (fun _ h9 => h9) rfl dX3_pathSum_28 ?_
        refine lv_icmp_ge (tgt := 56) hx hb dX3_pathSum_31 (by decide) (fun c_31 => ?_) (fun c_31 => ?_)
        · skip
          have c_31 := cn_le (a := (fo_pL G j k)) (b := i) (by omega) (by omega) c_31
          refine lv_iload hx hb dX3_pathSum_56 (lv_at hl 1 rfl) ?_
          have hP : va_P D vwCl (wM h st sl sv pt cI cZ (mst n G va mk) fsl fsv (pvV n G fpt (nI j) (nI k)) (pvM n G many (nI j) (nI k))) H := by rw [pvV_t hj hk hn hro, pvM_t hj hk hn hro]; exact hP
          exact wr_i hx hb hr hlocks hP hS (by rw [gp_t hj hk hn hro, show i = fo_pL G j k by omega]) dX3_pathSum_58
        · skip
          have c_31 := cn_nle (a := (fo_pL G j k)) (b := i) (by omega) (by omega) c_31
          refine lv_iload hx hb dX3_pathSum_34 (lv_at hl 1 rfl) ?_
          refine lv_aload_n hx hb dX3_pathSum_36 rfl (lv_at hl 0 rfl) ?_
          refine lv_aload_n hx hb dX3_pathSum_37 rfl (lv_at hl 0 rfl) ?_
          refine va_get (D := D) (ci := 3) (v := .ref pt) (C := RX3) (T := TX3) (N := 5) hx hb hts hin3 hown hK hP 0 rfl rfl 3 (by decide) hf20 (fun _ h9 => h9) rfl dX3_pathSum_38 ?_
          refine lv_iload hx hb dX3_pathSum_41 (lv_at hl 2 rfl) ?_
          refine ar_i (tys := []) hx hb hK hP 4 rfl (k := i) (by omega) (by decide) dX3_pathSum_43 ?_
          rw [fillI_lt _ _ c_31]
          have hpi := fo_pt_lt F hj hk i
          refine rd_call ⟨hx, hb, hml, hown, hts⟩ (c_X3_valueOf l D cI cZ h st sl sv pt fsl fsv (fillI (fo_pL G j k) (fun t => nI (fo_pt G j k t)) fpt) (nI (fo_pL G j k)) n G va mk F (fo_pt G j k i) hpi) (cwV 1 hts gX3_pathSum_X3_valueOf rfl rfl rfl (by decide +kernel) ⟨Nat.le_of_ble_eq_true rfl, Nat.le_of_ble_eq_true rfl⟩) hP hK rfl rfl rfl hl rfl (Nat.le_of_ble_eq_true rfl) dX3_pathSum_44 ⟨Nat.zero_le _, Nat.zero_le _⟩ ?_
          refine lv_iadd hx hb dX3_pathSum_47 ?_
          refine lv_istore (lv' := [(4, .int ((pSum va (fo_pt G j k) i) + (va (fo_pt G j k i)))), (0, .ref h), (5, .int (nI i))]) hx hb dX3_pathSum_48 hl (by decide) rfl (fun ls hl => ?_)
          refine lv_iinc (v := nI (i + 1)) (lv' := [(5, .int (nI (i + 1))), (4, .int ((pSum va (fo_pt G j k) i) + (va (fo_pt G j k i)))), (0, .ref h)]) hx hb dX3_pathSum_50 hl (k := 2) rfl (nI_1 i) (by decide) rfl (fun ls hl => ?_)
          refine lv_goto (tgt := 25) hx hb dX3_pathSum_53 (by decide) ?_
          exact ih25 (i + 1) (by omega) (by omega) _ _ hP hD hS ls (lv_sub hl [2, 1, 0] rfl)
    exact L25 (fo_pL G j k - 0 + 1) 0 (Nat.zero_le _) (Nat.lt_succ_self _) _ _ hP hD hS ls (lv_sub hl [3, 1, 0] rfl)
  · skip
    refine lv_iload_n hx hb dX3_pathSum_11 rfl (lv_at hl 0 rfl) ?_
    have hP : va_P D vwCl (wM h st sl sv pt cI cZ (mst n G va mk) fsl fsv (pvV n G fpt u v) (pvM n G many u v)) s.heap := by unfold pvV pvM; rw [pE_same hn c_8, pE_same hn c_8]; exact hP
    exact wr_i hx hb hr hlocks hP hS (pE_no hn c_8 _ _ _ _) dX3_pathSum_12
set_option maxHeartbeats 4000000 in
set_option maxRecDepth 100000 in
theorem c_X3_farthest_min (l : Launch) (D : va_G) (cI cZ : ClassId) (h : Nat) (st : Nat) (sl : Nat) (sv : Nat) (pt : Nat) (fsl : Nat → Int32) (fsv : Nat → Int32) (fpt : Nat → Int32) (n : Nat) (G : Nat → Nat) (va : Nat → Int32) (mk : Nat → Bool) (F : fo_ok n G) (P : Nat → Nat) (L : Nat) (hP0 : ∀ t, P t < n) (hL1 : 1 ≤ L) (hL2 : L ≤ 64) (hfp : ∀ t, t < L → fpt t = nI (P t)) (hva : okV va) : RdM l yX3_farthest wsX3_farthest 1 21 D cI cZ (wM h st sl sv pt cI cZ (mst n G va mk) fsl fsv fpt (nI L)) [.ref h, .int (-1)] (nI (pMin va P L)) := by
  refine RdM.of (cc := cX3_farthest) (maxL := 4) (ret := (some .int)) (by decide) rfl (Nat.le_of_ble_eq_true rfl) ?_
  intro p e s m below meth c hx hb hr hml hown hts hlocks hP hK ls hl
  have hown : s.vm.findClass RX3 = some m.cls := hown
  have hl : lv_has ls 4 [(0, .ref h), (1, .int (-1))] := hl
  have hf20 := hts (.fieldLink RX3 20 "DynamicForestModel" "path" "[I") (by decide +kernel)
  have hf62 := hts (.fieldLink RX3 62 "DynamicForestModel" "pathMany" "I") (by decide +kernel)
  have hin3 : ∀ w ∈ u_ws RX3 TX3 5, w ∈ wsX3_farthest := by decide +kernel
  have hn : n ≤ 64 := F.2.1
  refine lv_aload_n hx hb dX3_farthest_0 rfl (lv_at hl 0 rfl) ?_
  refine va_get (D := D) (ci := 3) (v := .ref pt) (C := RX3) (T := TX3) (N := 5) hx hb hts hin3 hown hK hP 0 rfl rfl 3 (by decide) hf20 (fun _ h9 => h9) rfl dX3_farthest_1 ?_
  refine lv_iconst (v := nI 0) hx hb dX3_farthest_4 (by decide) ?_
  refine ar_i (tys := []) hx hb hK hP 4 rfl (k := 0) (by decide) (by decide) dX3_farthest_5 ?_
  rw [hfp 0 (by omega)]
  refine lv_istore_n (lv' := [(2, .int (nI (P 0))), (0, .ref h), (1, .int (-1))]) hx hb dX3_farthest_6 rfl hl (by decide) rfl (fun ls hl => ?_)
  refine lv_iconst (v := nI 1) hx hb dX3_farthest_7 (by decide) ?_
  refine lv_istore_n (lv' := [(3, .int (nI 1)), (2, .int (nI (P 0))), (0, .ref h), (1, .int (-1))]) hx hb dX3_farthest_8 rfl hl (by decide) rfl (fun ls hl => ?_)
  have L9 : ∀ (k9_ : Nat) (i : Nat), 1 ≤ i → i ≤ L → L - i < k9_ → ∀ ls, lv_has ls 4 [(0, .ref h), (1, .int (-1)), (2, .int (nI (pMin va P i))), (3, .int (nI i))] → Wr0 p l e wsX3_farthest 1 21 s m [.ref h, .int (-1)] below meth c (nI (pMin va P L)) (F0 m 9 ls []) := by
    intro k9_
    induction k9_ with
    | zero => intro i hi1 hi hk9_; exact absurd hk9_ (Nat.not_lt_zero _)
    | succ k9_ ih9 =>
      intro i hi1 hi hk9_ ls hl
      have hbl : (pMin va P i) < n := pMin_lt hP0 i
      refine lv_iload_n hx hb dX3_farthest_9 rfl (lv_at hl 3 rfl) ?_
      refine lv_aload_n hx hb dX3_farthest_10 rfl (lv_at hl 0 rfl) ?_
      refine va_get (D := D) (ci := 3) (v := .int (nI L)) (C := RX3) (T := TX3) (N := 5) hx hb hts hin3 hown hK hP 0 rfl rfl 4 (by decide) hf62 (fun _ h9 => h9) rfl dX3_farthest_11 ?_
      refine lv_icmp_ge (tgt := 56) hx hb dX3_farthest_14 (by decide) (fun c_14 => ?_) (fun c_14 => ?_)
      · skip
        have c_14 := cn_le (a := L) (b := i) (by omega) (by omega) c_14
        refine lv_iload_n hx hb dX3_farthest_56 rfl (lv_at hl 2 rfl) ?_
        exact rd_i hx hb hr hlocks (by rw [show i = L by omega]) dX3_farthest_57
      · skip
        have c_14 := cn_nle (a := L) (b := i) (by omega) (by omega) c_14
        refine lv_iload_n hx hb dX3_farthest_17 rfl (lv_at hl 1 rfl) ?_
        refine lv_aload_n hx hb dX3_farthest_18 rfl (lv_at hl 0 rfl) ?_
        refine lv_aload_n hx hb dX3_farthest_19 rfl (lv_at hl 0 rfl) ?_
        refine va_get (D := D) (ci := 3) (v := .ref pt) (C := RX3) (T := TX3) (N := 5) hx hb hts hin3 hown hK hP 0 rfl rfl 3 (by decide) hf20 (fun _ h9 => h9) rfl dX3_farthest_20 ?_
        refine lv_iload_n hx hb dX3_farthest_23 rfl (lv_at hl 3 rfl) ?_
        refine ar_i (tys := []) hx hb hK hP 4 rfl (k := i) (by omega) (by decide) dX3_farthest_24 ?_
        rw [hfp i c_14]
        refine rd_call ⟨hx, hb, hml, hown, hts⟩ (c_X3_valueOf l D cI cZ h st sl sv pt fsl fsv fpt (nI L) n G va mk F (P i) (hP0 i)) (cwV 1 hts gX3_farthest_X3_valueOf rfl rfl rfl (by decide +kernel) ⟨Nat.le_of_ble_eq_true rfl, Nat.le_of_ble_eq_true rfl⟩) hP hK rfl rfl rfl hl rfl (Nat.le_of_ble_eq_true rfl) dX3_farthest_25 ⟨Nat.zero_le _, Nat.zero_le _⟩ ?_
        refine lv_imul hx hb dX3_farthest_28 ?_
        refine lv_iload_n hx hb dX3_farthest_29 rfl (lv_at hl 1 rfl) ?_
        refine lv_aload_n hx hb dX3_farthest_30 rfl (lv_at hl 0 rfl) ?_
        refine lv_iload_n hx hb dX3_farthest_31 rfl (lv_at hl 2 rfl) ?_
        refine rd_call ⟨hx, hb, hml, hown, hts⟩ (c_X3_valueOf l D cI cZ h st sl sv pt fsl fsv fpt (nI L) n G va mk F (pMin va P i) hbl) (cwV 1 hts gX3_farthest_X3_valueOf rfl rfl rfl (by decide +kernel) ⟨Nat.le_of_ble_eq_true rfl, Nat.le_of_ble_eq_true rfl⟩) hP hK rfl rfl rfl hl rfl (Nat.le_of_ble_eq_true rfl) dX3_farthest_32 ⟨Nat.zero_le _, Nat.zero_le _⟩ ?_
        refine lv_imul hx hb dX3_farthest_35 ?_
        refine lv_icmp_le (tgt := 48) hx hb dX3_farthest_36 (by decide) (fun c_36 => ?_) (fun c_36 => ?_)
        · skip
          refine lv_iload_n hx hb dX3_farthest_48 rfl (lv_at hl 2 rfl) ?_
          refine lv_istore_n (lv' := [(2, .int (nI (pMin va P i))), (0, .ref h), (1, .int (-1)), (3, .int (nI i))]) hx hb dX3_farthest_49 rfl hl (by decide) rfl (fun ls hl => ?_)
          refine lv_iinc (v := nI (i + 1)) (lv' := [(3, .int (nI (i + 1))), (2, .int (nI (pMin va P i))), (0, .ref h), (1, .int (-1))]) hx hb dX3_farthest_50 hl (k := 3) rfl (nI_1 i) (by decide) rfl (fun ls hl => ?_)
          refine lv_goto (tgt := 9) hx hb dX3_farthest_53 (by decide) ?_
          exact ih9 (i + 1) (by omega) (by omega) (by omega) ls (by rw [pMin_n (Int32.not_lt.mpr ((neg_le (hva _) (hva _)).mp c_36))]; exact lv_sub hl [2, 3, 1, 0] rfl)
        · skip
          refine lv_aload_n hx hb dX3_farthest_39 rfl (lv_at hl 0 rfl) ?_
          refine va_get (D := D) (ci := 3) (v := .ref pt) (C := RX3) (T := TX3) (N := 5) hx hb hts hin3 hown hK hP 0 rfl rfl 3 (by decide) hf20 (fun _ h9 => h9) rfl dX3_farthest_40 ?_
          refine lv_iload_n hx hb dX3_farthest_43 rfl (lv_at hl 3 rfl) ?_
          refine ar_i (tys := []) hx hb hK hP 4 rfl (k := i) (by omega) (by decide) dX3_farthest_44 ?_
          rw [hfp i c_14]
          refine lv_goto (tgt := 49) hx hb dX3_farthest_45 (by decide) ?_
          refine lv_istore_n (lv' := [(2, .int (nI (P i))), (0, .ref h), (1, .int (-1)), (3, .int (nI i))]) hx hb dX3_farthest_49 rfl hl (by decide) rfl (fun ls hl => ?_)
          refine lv_iinc (v := nI (i + 1)) (lv' := [(3, .int (nI (i + 1))), (2, .int (nI (P i))), (0, .ref h), (1, .int (-1))]) hx hb dX3_farthest_50 hl (k := 3) rfl (nI_1 i) (by decide) rfl (fun ls hl => ?_)
          refine lv_goto (tgt := 9) hx hb dX3_farthest_53 (by decide) ?_
          exact ih9 (i + 1) (by omega) (by omega) (by omega) ls (by rw [pMin_y (Int32.not_le.mp (fun q => c_36 ((neg_le (hva _) (hva _)).mpr q)))]; exact lv_sub hl [2, 3, 1, 0] rfl)
  exact L9 (L - 1 + 1) 1 (Nat.le_refl _) hL1 (Nat.lt_succ_self _) ls (by rw [pMin_1]; exact lv_sub hl [2, 3, 1, 0] rfl)
set_option maxHeartbeats 4000000 in
set_option maxRecDepth 100000 in
theorem c_X3_farthest_max (l : Launch) (D : va_G) (cI cZ : ClassId) (h : Nat) (st : Nat) (sl : Nat) (sv : Nat) (pt : Nat) (fsl : Nat → Int32) (fsv : Nat → Int32) (fpt : Nat → Int32) (n : Nat) (G : Nat → Nat) (va : Nat → Int32) (mk : Nat → Bool) (F : fo_ok n G) (P : Nat → Nat) (L : Nat) (hP0 : ∀ t, P t < n) (hL1 : 1 ≤ L) (hL2 : L ≤ 64) (hfp : ∀ t, t < L → fpt t = nI (P t)) : RdM l yX3_farthest wsX3_farthest 1 21 D cI cZ (wM h st sl sv pt cI cZ (mst n G va mk) fsl fsv fpt (nI L)) [.ref h, .int 1] (nI (pMax va P L)) := by
  refine RdM.of (cc := cX3_farthest) (maxL := 4) (ret := (some .int)) (by decide) rfl (Nat.le_of_ble_eq_true rfl) ?_
  intro p e s m below meth c hx hb hr hml hown hts hlocks hP hK ls hl
  have hown : s.vm.findClass RX3 = some m.cls := hown
  have hl : lv_has ls 4 [(0, .ref h), (1, .int 1)] := hl
  have hf20 := hts (.fieldLink RX3 20 "DynamicForestModel" "path" "[I") (by decide +kernel)
  have hf62 := hts (.fieldLink RX3 62 "DynamicForestModel" "pathMany" "I") (by decide +kernel)
  have hin3 : ∀ w ∈ u_ws RX3 TX3 5, w ∈ wsX3_farthest := by decide +kernel
  have hn : n ≤ 64 := F.2.1
  refine lv_aload_n hx hb dX3_farthest_0 rfl (lv_at hl 0 rfl) ?_
  refine va_get (D := D) (ci := 3) (v := .ref pt) (C := RX3) (T := TX3) (N := 5) hx hb hts hin3 hown hK hP 0 rfl rfl 3 (by decide) hf20 (fun _ h9 => h9) rfl dX3_farthest_1 ?_
  refine lv_iconst (v := nI 0) hx hb dX3_farthest_4 (by decide) ?_
  refine ar_i (tys := []) hx hb hK hP 4 rfl (k := 0) (by decide) (by decide) dX3_farthest_5 ?_
  rw [hfp 0 (by omega)]
  refine lv_istore_n (lv' := [(2, .int (nI (P 0))), (0, .ref h), (1, .int 1)]) hx hb dX3_farthest_6 rfl hl (by decide) rfl (fun ls hl => ?_)
  refine lv_iconst (v := nI 1) hx hb dX3_farthest_7 (by decide) ?_
  refine lv_istore_n (lv' := [(3, .int (nI 1)), (2, .int (nI (P 0))), (0, .ref h), (1, .int 1)]) hx hb dX3_farthest_8 rfl hl (by decide) rfl (fun ls hl => ?_)
  have L9 : ∀ (k9_ : Nat) (i : Nat), 1 ≤ i → i ≤ L → L - i < k9_ → ∀ ls, lv_has ls 4 [(0, .ref h), (1, .int 1), (2, .int (nI (pMax va P i))), (3, .int (nI i))] → Wr0 p l e wsX3_farthest 1 21 s m [.ref h, .int 1] below meth c (nI (pMax va P L)) (F0 m 9 ls []) := by
    intro k9_
    induction k9_ with
    | zero => intro i hi1 hi hk9_; exact absurd hk9_ (Nat.not_lt_zero _)
    | succ k9_ ih9 =>
      intro i hi1 hi hk9_ ls hl
      have hbl : (pMax va P i) < n := pMax_lt hP0 i
      refine lv_iload_n hx hb dX3_farthest_9 rfl (lv_at hl 3 rfl) ?_
      refine lv_aload_n hx hb dX3_farthest_10 rfl (lv_at hl 0 rfl) ?_
      refine va_get (D := D) (ci := 3) (v := .int (nI L)) (C := RX3) (T := TX3) (N := 5) hx hb hts hin3 hown hK hP 0 rfl rfl 4 (by decide) hf62 (fun _ h9 => h9) rfl dX3_farthest_11 ?_
      refine lv_icmp_ge (tgt := 56) hx hb dX3_farthest_14 (by decide) (fun c_14 => ?_) (fun c_14 => ?_)
      · skip
        have c_14 := cn_le (a := L) (b := i) (by omega) (by omega) c_14
        refine lv_iload_n hx hb dX3_farthest_56 rfl (lv_at hl 2 rfl) ?_
        exact rd_i hx hb hr hlocks (by rw [show i = L by omega]) dX3_farthest_57
      · skip
        have c_14 := cn_nle (a := L) (b := i) (by omega) (by omega) c_14
        refine lv_iload_n hx hb dX3_farthest_17 rfl (lv_at hl 1 rfl) ?_
        refine lv_aload_n hx hb dX3_farthest_18 rfl (lv_at hl 0 rfl) ?_
        refine lv_aload_n hx hb dX3_farthest_19 rfl (lv_at hl 0 rfl) ?_
        refine va_get (D := D) (ci := 3) (v := .ref pt) (C := RX3) (T := TX3) (N := 5) hx hb hts hin3 hown hK hP 0 rfl rfl 3 (by decide) hf20 (fun _ h9 => h9) rfl dX3_farthest_20 ?_
        refine lv_iload_n hx hb dX3_farthest_23 rfl (lv_at hl 3 rfl) ?_
        refine ar_i (tys := []) hx hb hK hP 4 rfl (k := i) (by omega) (by decide) dX3_farthest_24 ?_
        rw [hfp i c_14]
        refine rd_call ⟨hx, hb, hml, hown, hts⟩ (c_X3_valueOf l D cI cZ h st sl sv pt fsl fsv fpt (nI L) n G va mk F (P i) (hP0 i)) (cwV 1 hts gX3_farthest_X3_valueOf rfl rfl rfl (by decide +kernel) ⟨Nat.le_of_ble_eq_true rfl, Nat.le_of_ble_eq_true rfl⟩) hP hK rfl rfl rfl hl rfl (Nat.le_of_ble_eq_true rfl) dX3_farthest_25 ⟨Nat.zero_le _, Nat.zero_le _⟩ ?_
        refine lv_imul hx hb dX3_farthest_28 ?_
        refine lv_iload_n hx hb dX3_farthest_29 rfl (lv_at hl 1 rfl) ?_
        refine lv_aload_n hx hb dX3_farthest_30 rfl (lv_at hl 0 rfl) ?_
        refine lv_iload_n hx hb dX3_farthest_31 rfl (lv_at hl 2 rfl) ?_
        refine rd_call ⟨hx, hb, hml, hown, hts⟩ (c_X3_valueOf l D cI cZ h st sl sv pt fsl fsv fpt (nI L) n G va mk F (pMax va P i) hbl) (cwV 1 hts gX3_farthest_X3_valueOf rfl rfl rfl (by decide +kernel) ⟨Nat.le_of_ble_eq_true rfl, Nat.le_of_ble_eq_true rfl⟩) hP hK rfl rfl rfl hl rfl (Nat.le_of_ble_eq_true rfl) dX3_farthest_32 ⟨Nat.zero_le _, Nat.zero_le _⟩ ?_
        refine lv_imul hx hb dX3_farthest_35 ?_
        refine lv_icmp_le (tgt := 48) hx hb dX3_farthest_36 (by decide) (fun c_36 => ?_) (fun c_36 => ?_)
        · skip
          refine lv_iload_n hx hb dX3_farthest_48 rfl (lv_at hl 2 rfl) ?_
          refine lv_istore_n (lv' := [(2, .int (nI (pMax va P i))), (0, .ref h), (1, .int 1), (3, .int (nI i))]) hx hb dX3_farthest_49 rfl hl (by decide) rfl (fun ls hl => ?_)
          refine lv_iinc (v := nI (i + 1)) (lv' := [(3, .int (nI (i + 1))), (2, .int (nI (pMax va P i))), (0, .ref h), (1, .int 1)]) hx hb dX3_farthest_50 hl (k := 3) rfl (nI_1 i) (by decide) rfl (fun ls hl => ?_)
          refine lv_goto (tgt := 9) hx hb dX3_farthest_53 (by decide) ?_
          exact ih9 (i + 1) (by omega) (by omega) (by omega) ls (by rw [pMax_n (Int32.not_lt.mpr (by rw [Int32.one_mul, Int32.one_mul] at c_36; exact c_36))]; exact lv_sub hl [2, 3, 1, 0] rfl)
        · skip
          refine lv_aload_n hx hb dX3_farthest_39 rfl (lv_at hl 0 rfl) ?_
          refine va_get (D := D) (ci := 3) (v := .ref pt) (C := RX3) (T := TX3) (N := 5) hx hb hts hin3 hown hK hP 0 rfl rfl 3 (by decide) hf20 (fun _ h9 => h9) rfl dX3_farthest_40 ?_
          refine lv_iload_n hx hb dX3_farthest_43 rfl (lv_at hl 3 rfl) ?_
          refine ar_i (tys := []) hx hb hK hP 4 rfl (k := i) (by omega) (by decide) dX3_farthest_44 ?_
          rw [hfp i c_14]
          refine lv_goto (tgt := 49) hx hb dX3_farthest_45 (by decide) ?_
          refine lv_istore_n (lv' := [(2, .int (nI (P i))), (0, .ref h), (1, .int 1), (3, .int (nI i))]) hx hb dX3_farthest_49 rfl hl (by decide) rfl (fun ls hl => ?_)
          refine lv_iinc (v := nI (i + 1)) (lv' := [(3, .int (nI (i + 1))), (2, .int (nI (P i))), (0, .ref h), (1, .int 1)]) hx hb dX3_farthest_50 hl (k := 3) rfl (nI_1 i) (by decide) rfl (fun ls hl => ?_)
          refine lv_goto (tgt := 9) hx hb dX3_farthest_53 (by decide) ?_
          exact ih9 (i + 1) (by omega) (by omega) (by omega) ls (by rw [pMax_y (Int32.not_le.mp (by rw [Int32.one_mul, Int32.one_mul] at c_36; exact c_36))]; exact lv_sub hl [2, 3, 1, 0] rfl)
  exact L9 (L - 1 + 1) 1 (Nat.le_refl _) hL1 (Nat.lt_succ_self _) ls (by rw [pMax_1]; exact lv_sub hl [2, 3, 1, 0] rfl)
set_option maxHeartbeats 4000000 in
set_option maxRecDepth 100000 in
theorem c_X3_pathMinimum (l : Launch) (D : va_G) (cI cZ : ClassId) (h : Nat) (st : Nat) (sl : Nat) (sv : Nat) (pt : Nat) (fsl : Nat → Int32) (fsv : Nat → Int32) (fpt : Nat → Int32) (many : Int32) (n : Nat) (G : Nat → Nat) (va : Nat → Int32) (mk : Nat → Bool) (F : fo_ok n G) (u : Int32) (v : Int32) (hva : okV va) : WrM l yX3_pathMinimum wsX3_pathMinimum 5 114 D cI cZ (wM h st sl sv pt cI cZ (mst n G va mk) fsl fsv fpt many) (wM h st sl sv pt cI cZ (mst n G va mk) fsl fsv (pvV n G fpt u v) (pvM n G many u v)) [.ref h, .int u, .int v] (some (.int (gp n G u v (fun a b => nI (pMin va (fo_pt G a b) (fo_pL G a b))) (-100000001) (-100000004)))) := by
  refine WrM.of (cc := cX3_pathMinimum) (maxL := 4) (ret := (some .int)) (by decide) rfl (Nat.le_of_ble_eq_true rfl) ?_
  intro p e s m below meth c hx hb hr hml hown hts hlocks hP hK hD hS ls hl
  have hown : s.vm.findClass RX3 = some m.cls := hown
  have hl : lv_has ls 4 [(0, .ref h), (1, .int u), (2, .int v)] := hl
  have hP : va_P D vwCl (wM h st sl sv pt cI cZ (mst n G va mk) fsl fsv fpt many) s.heap := hP
  have hn : n ≤ 64 := F.2.1
  refine lv_aload_n hx hb dX3_pathMinimum_0 rfl (lv_at hl 0 rfl) ?_
  refine lv_iload_n hx hb dX3_pathMinimum_1 rfl (lv_at hl 1 rfl) ?_
  refine lv_iload_n hx hb dX3_pathMinimum_2 rfl (lv_at hl 2 rfl) ?_
  refine rd_call ⟨hx, hb, hml, hown, hts⟩ (c_X3_wrongPair l D cI cZ h st sl sv pt fsl fsv fpt many n G va mk F u v) (cwV 2 hts gX3_pathMinimum_X3_wrongPair rfl rfl rfl (by decide +kernel) ⟨Nat.le_of_ble_eq_true rfl, Nat.le_of_ble_eq_true rfl⟩) hP hK rfl rfl rfl hl rfl (Nat.le_of_ble_eq_true rfl) dX3_pathMinimum_3 ⟨Nat.zero_le _, Nat.zero_le _⟩ ?_
  refine lv_istore_n (lv' := [(3, .int (pE n G u v)), (0, .ref h), (1, .int u), (2, .int v)]) hx hb dX3_pathMinimum_6 rfl hl (by decide) rfl (fun ls hl => ?_)
  refine lv_iload_n hx hb dX3_pathMinimum_7 rfl (lv_at hl 0 rfl) ?_
  refine lv_if_eq (tgt := 13) hx hb dX3_pathMinimum_8 (by decide) (fun c_8 => ?_) (fun c_8 => ?_)
  · skip
    obtain ⟨j, k, hj, hk, rfl, rfl, hro⟩ := pE_ok hn c_8
    have hLL : fo_pL G j k ≤ n := fo_pL_le F hro hj hk
    have hL1 : 1 ≤ fo_pL G j k := Nat.succ_le_succ (Nat.zero_le _)
    have hLL2 : fo_pL G j k ≤ 64 := Nat.le_trans hLL hn
    refine lv_aload_n hx hb dX3_pathMinimum_13 rfl (lv_at hl 1 rfl) ?_
    refine lv_iload_n hx hb dX3_pathMinimum_14 rfl (lv_at hl 2 rfl) ?_
    refine lv_iload_n hx hb dX3_pathMinimum_15 rfl (lv_at hl 3 rfl) ?_
    refine wr_call (V1 := wM h st sl sv pt cI cZ (mst n G va mk) fsl fsv (fillI (fo_pL G j k) (fun t => nI (fo_pt G j k t)) fpt) (nI (fo_pL G j k))) ⟨hx, hb, hml, hown, hts⟩ (c_X3_layPath l D cI cZ h st sl sv pt fsl fsv fpt many n G va mk F j k hj hk hro) (cwV 2 hts gX3_pathMinimum_X3_layPath rfl rfl rfl (by decide +kernel) ⟨Nat.le_of_ble_eq_true rfl, Nat.le_of_ble_eq_true rfl⟩) hP hK hD hS [0, 1, 2, 3, 4] [] [0, 1, 2, 3, 4] rfl rfl (by decide) rfl rfl rfl rfl rfl hl rfl (Nat.le_of_ble_eq_true rfl) dX3_pathMinimum_16 ⟨Nat.zero_le _, Nat.zero_le _⟩ (fun H locs hP hD hS => ?_)
    refine lv_aload_n hx hb dX3_pathMinimum_19 rfl (lv_at hl 1 rfl) ?_
    refine lv_iconst (v := -1) hx hb dX3_pathMinimum_20 (by decide) ?_
    refine rd_call ⟨hx, hb, hml, hown, hts⟩ (c_X3_farthest_min l D cI cZ h st sl sv pt fsl fsv (fillI (fo_pL G j k) (fun t => nI (fo_pt G j k t)) fpt) n G va mk F (fo_pt G j k) (fo_pL G j k) (fun t => fo_pt_lt F hj hk t) hL1 hLL2 (fun t ht => fillI_lt _ _ ht) hva) (cwV 1 hts gX3_pathMinimum_X3_farthest rfl rfl rfl (by decide +kernel) ⟨Nat.le_of_ble_eq_true rfl, Nat.le_of_ble_eq_true rfl⟩) hP hK rfl rfl rfl hl rfl (Nat.le_of_ble_eq_true rfl) dX3_pathMinimum_21 ⟨Nat.zero_le _, Nat.zero_le _⟩ ?_
    have hP : va_P D vwCl (wM h st sl sv pt cI cZ (mst n G va mk) fsl fsv (pvV n G fpt (nI j) (nI k)) (pvM n G many (nI j) (nI k))) H := by rw [pvV_t hj hk hn hro, pvM_t hj hk hn hro]; exact hP
    exact wr_i hx hb hr hlocks hP hS (by rw [gp_t hj hk hn hro]) dX3_pathMinimum_24
  · skip
    refine lv_iload_n hx hb dX3_pathMinimum_11 rfl (lv_at hl 0 rfl) ?_
    have hP : va_P D vwCl (wM h st sl sv pt cI cZ (mst n G va mk) fsl fsv (pvV n G fpt u v) (pvM n G many u v)) s.heap := by unfold pvV pvM; rw [pE_same hn c_8, pE_same hn c_8]; exact hP
    exact wr_i hx hb hr hlocks hP hS (pE_no hn c_8 _ _ _ _) dX3_pathMinimum_12
set_option maxHeartbeats 4000000 in
set_option maxRecDepth 100000 in
theorem c_X3_pathMaximum (l : Launch) (D : va_G) (cI cZ : ClassId) (h : Nat) (st : Nat) (sl : Nat) (sv : Nat) (pt : Nat) (fsl : Nat → Int32) (fsv : Nat → Int32) (fpt : Nat → Int32) (many : Int32) (n : Nat) (G : Nat → Nat) (va : Nat → Int32) (mk : Nat → Bool) (F : fo_ok n G) (u : Int32) (v : Int32) : WrM l yX3_pathMaximum wsX3_pathMaximum 5 114 D cI cZ (wM h st sl sv pt cI cZ (mst n G va mk) fsl fsv fpt many) (wM h st sl sv pt cI cZ (mst n G va mk) fsl fsv (pvV n G fpt u v) (pvM n G many u v)) [.ref h, .int u, .int v] (some (.int (gp n G u v (fun a b => nI (pMax va (fo_pt G a b) (fo_pL G a b))) (-100000001) (-100000004)))) := by
  refine WrM.of (cc := cX3_pathMaximum) (maxL := 4) (ret := (some .int)) (by decide) rfl (Nat.le_of_ble_eq_true rfl) ?_
  intro p e s m below meth c hx hb hr hml hown hts hlocks hP hK hD hS ls hl
  have hown : s.vm.findClass RX3 = some m.cls := hown
  have hl : lv_has ls 4 [(0, .ref h), (1, .int u), (2, .int v)] := hl
  have hP : va_P D vwCl (wM h st sl sv pt cI cZ (mst n G va mk) fsl fsv fpt many) s.heap := hP
  have hn : n ≤ 64 := F.2.1
  refine lv_aload_n hx hb dX3_pathMaximum_0 rfl (lv_at hl 0 rfl) ?_
  refine lv_iload_n hx hb dX3_pathMaximum_1 rfl (lv_at hl 1 rfl) ?_
  refine lv_iload_n hx hb dX3_pathMaximum_2 rfl (lv_at hl 2 rfl) ?_
  refine rd_call ⟨hx, hb, hml, hown, hts⟩ (c_X3_wrongPair l D cI cZ h st sl sv pt fsl fsv fpt many n G va mk F u v) (cwV 2 hts gX3_pathMaximum_X3_wrongPair rfl rfl rfl (by decide +kernel) ⟨Nat.le_of_ble_eq_true rfl, Nat.le_of_ble_eq_true rfl⟩) hP hK rfl rfl rfl hl rfl (Nat.le_of_ble_eq_true rfl) dX3_pathMaximum_3 ⟨Nat.zero_le _, Nat.zero_le _⟩ ?_
  refine lv_istore_n (lv' := [(3, .int (pE n G u v)), (0, .ref h), (1, .int u), (2, .int v)]) hx hb dX3_pathMaximum_6 rfl hl (by decide) rfl (fun ls hl => ?_)
  refine lv_iload_n hx hb dX3_pathMaximum_7 rfl (lv_at hl 0 rfl) ?_
  refine lv_if_eq (tgt := 13) hx hb dX3_pathMaximum_8 (by decide) (fun c_8 => ?_) (fun c_8 => ?_)
  · skip
    obtain ⟨j, k, hj, hk, rfl, rfl, hro⟩ := pE_ok hn c_8
    have hLL : fo_pL G j k ≤ n := fo_pL_le F hro hj hk
    have hL1 : 1 ≤ fo_pL G j k := Nat.succ_le_succ (Nat.zero_le _)
    have hLL2 : fo_pL G j k ≤ 64 := Nat.le_trans hLL hn
    refine lv_aload_n hx hb dX3_pathMaximum_13 rfl (lv_at hl 1 rfl) ?_
    refine lv_iload_n hx hb dX3_pathMaximum_14 rfl (lv_at hl 2 rfl) ?_
    refine lv_iload_n hx hb dX3_pathMaximum_15 rfl (lv_at hl 3 rfl) ?_
    refine wr_call (V1 := wM h st sl sv pt cI cZ (mst n G va mk) fsl fsv (fillI (fo_pL G j k) (fun t => nI (fo_pt G j k t)) fpt) (nI (fo_pL G j k))) ⟨hx, hb, hml, hown, hts⟩ (c_X3_layPath l D cI cZ h st sl sv pt fsl fsv fpt many n G va mk F j k hj hk hro) (cwV 2 hts gX3_pathMaximum_X3_layPath rfl rfl rfl (by decide +kernel) ⟨Nat.le_of_ble_eq_true rfl, Nat.le_of_ble_eq_true rfl⟩) hP hK hD hS [0, 1, 2, 3, 4] [] [0, 1, 2, 3, 4] rfl rfl (by decide) rfl rfl rfl rfl rfl hl rfl (Nat.le_of_ble_eq_true rfl) dX3_pathMaximum_16 ⟨Nat.zero_le _, Nat.zero_le _⟩ (fun H locs hP hD hS => ?_)
    refine lv_aload_n hx hb dX3_pathMaximum_19 rfl (lv_at hl 1 rfl) ?_
    refine lv_iconst (v := 1) hx hb dX3_pathMaximum_20 (by decide) ?_
    refine rd_call ⟨hx, hb, hml, hown, hts⟩ (c_X3_farthest_max l D cI cZ h st sl sv pt fsl fsv (fillI (fo_pL G j k) (fun t => nI (fo_pt G j k t)) fpt) n G va mk F (fo_pt G j k) (fo_pL G j k) (fun t => fo_pt_lt F hj hk t) hL1 hLL2 (fun t ht => fillI_lt _ _ ht)) (cwV 1 hts gX3_pathMaximum_X3_farthest rfl rfl rfl (by decide +kernel) ⟨Nat.le_of_ble_eq_true rfl, Nat.le_of_ble_eq_true rfl⟩) hP hK rfl rfl rfl hl rfl (Nat.le_of_ble_eq_true rfl) dX3_pathMaximum_21 ⟨Nat.zero_le _, Nat.zero_le _⟩ ?_
    have hP : va_P D vwCl (wM h st sl sv pt cI cZ (mst n G va mk) fsl fsv (pvV n G fpt (nI j) (nI k)) (pvM n G many (nI j) (nI k))) H := by rw [pvV_t hj hk hn hro, pvM_t hj hk hn hro]; exact hP
    exact wr_i hx hb hr hlocks hP hS (by rw [gp_t hj hk hn hro]) dX3_pathMaximum_24
  · skip
    refine lv_iload_n hx hb dX3_pathMaximum_11 rfl (lv_at hl 0 rfl) ?_
    have hP : va_P D vwCl (wM h st sl sv pt cI cZ (mst n G va mk) fsl fsv (pvV n G fpt u v) (pvM n G many u v)) s.heap := by unfold pvV pvM; rw [pE_same hn c_8, pE_same hn c_8]; exact hP
    exact wr_i hx hb hr hlocks hP hS (pE_no hn c_8 _ _ _ _) dX3_pathMaximum_12
set_option maxHeartbeats 4000000 in
set_option maxRecDepth 100000 in
theorem c_X3_reach (l : Launch) (D : va_G) (cI cZ : ClassId) (h : Nat) (st : Nat) (sl : Nat) (sv : Nat) (pt : Nat) (fsl : Nat → Int32) (fsv : Nat → Int32) (fpt : Nat → Int32) (many : Int32) (n : Nat) (G : Nat → Nat) (va : Nat → Int32) (mk : Nat → Bool) (F : fo_ok n G) (u : Int32) (v : Int32) (x : Int32) : WrM l yX3_reach wsX3_reach 5 114 D cI cZ (wM h st sl sv pt cI cZ (mst n G va mk) fsl fsv fpt many) (wM h st sl sv pt cI cZ (mst n G va mk) fsl fsv (pvV n G fpt u v) (pvM n G many u v)) [.ref h, .int u, .int v, .int x] (some (.int (gp n G u v (fun a b => pRch va (fo_pt G a b) x (fo_pL G a b) 0) (-100000001) (-100000004)))) := by
  refine WrM.of (cc := cX3_reach) (maxL := 7) (ret := (some .int)) (by decide) rfl (Nat.le_of_ble_eq_true rfl) ?_
  intro p e s m below meth c hx hb hr hml hown hts hlocks hP hK hD hS ls hl
  have hown : s.vm.findClass RX3 = some m.cls := hown
  have hl : lv_has ls 7 [(0, .ref h), (1, .int u), (2, .int v), (3, .int x)] := hl
  have hP : va_P D vwCl (wM h st sl sv pt cI cZ (mst n G va mk) fsl fsv fpt many) s.heap := hP
  have hf62 := hts (.fieldLink RX3 62 "DynamicForestModel" "pathMany" "I") (by decide +kernel)
  have hf20 := hts (.fieldLink RX3 20 "DynamicForestModel" "path" "[I") (by decide +kernel)
  have hk53 := hts (.constant RX3 53 (-100000007)) (by decide +kernel)
  have hin3 : ∀ w ∈ u_ws RX3 TX3 5, w ∈ wsX3_reach := by decide +kernel
  have hn : n ≤ 64 := F.2.1
  refine lv_aload_n hx hb dX3_reach_0 rfl (lv_at hl 0 rfl) ?_
  refine lv_iload_n hx hb dX3_reach_1 rfl (lv_at hl 1 rfl) ?_
  refine lv_iload_n hx hb dX3_reach_2 rfl (lv_at hl 2 rfl) ?_
  refine rd_call ⟨hx, hb, hml, hown, hts⟩ (c_X3_wrongPair l D cI cZ h st sl sv pt fsl fsv fpt many n G va mk F u v) (cwV 2 hts gX3_reach_X3_wrongPair rfl rfl rfl (by decide +kernel) ⟨Nat.le_of_ble_eq_true rfl, Nat.le_of_ble_eq_true rfl⟩) hP hK rfl rfl rfl hl rfl (Nat.le_of_ble_eq_true rfl) dX3_reach_3 ⟨Nat.zero_le _, Nat.zero_le _⟩ ?_
  refine lv_istore (lv' := [(4, .int (pE n G u v)), (0, .ref h), (1, .int u), (2, .int v), (3, .int x)]) hx hb dX3_reach_6 hl (by decide) rfl (fun ls hl => ?_)
  refine lv_iload hx hb dX3_reach_8 (lv_at hl 0 rfl) ?_
  refine lv_if_eq (tgt := 16) hx hb dX3_reach_10 (by decide) (fun c_10 => ?_) (fun c_10 => ?_)
  · skip
    obtain ⟨j, k, hj, hk, rfl, rfl, hro⟩ := pE_ok hn c_10
    have hLL : fo_pL G j k ≤ n := fo_pL_le F hro hj hk
    have hL1 : 1 ≤ fo_pL G j k := Nat.succ_le_succ (Nat.zero_le _)
    have hLL2 : fo_pL G j k ≤ 64 := Nat.le_trans hLL hn
    refine lv_aload_n hx hb dX3_reach_16 rfl (lv_at hl 1 rfl) ?_
    refine lv_iload_n hx hb dX3_reach_17 rfl (lv_at hl 2 rfl) ?_
    refine lv_iload_n hx hb dX3_reach_18 rfl (lv_at hl 3 rfl) ?_
    refine wr_call (V1 := wM h st sl sv pt cI cZ (mst n G va mk) fsl fsv (fillI (fo_pL G j k) (fun t => nI (fo_pt G j k t)) fpt) (nI (fo_pL G j k))) ⟨hx, hb, hml, hown, hts⟩ (c_X3_layPath l D cI cZ h st sl sv pt fsl fsv fpt many n G va mk F j k hj hk hro) (cwV 2 hts gX3_reach_X3_layPath rfl rfl rfl (by decide +kernel) ⟨Nat.le_of_ble_eq_true rfl, Nat.le_of_ble_eq_true rfl⟩) hP hK hD hS [0, 1, 2, 3, 4] [] [0, 1, 2, 3, 4] rfl rfl (by decide) rfl rfl rfl rfl rfl hl rfl (Nat.le_of_ble_eq_true rfl) dX3_reach_19 ⟨Nat.zero_le _, Nat.zero_le _⟩ (fun H locs hP hD hS => ?_)
    refine lv_iconst (v := 0) hx hb dX3_reach_22 (by decide) ?_
    refine lv_istore (lv' := [(5, .int 0), (4, .int (pE n G (nI j) (nI k))), (0, .ref h), (1, .int (nI j)), (2, .int (nI k)), (3, .int x)]) hx hb dX3_reach_23 hl (by decide) rfl (fun ls hl => ?_)
    refine lv_iconst (v := nI 0) hx hb dX3_reach_25 (by decide) ?_
    refine lv_istore (lv' := [(6, .int (nI 0)), (5, .int 0), (4, .int (pE n G (nI j) (nI k))), (0, .ref h), (1, .int (nI j)), (2, .int (nI k)), (3, .int x)]) hx hb dX3_reach_26 hl (by decide) rfl (fun ls hl => ?_)
    have L28 : ∀ (k28_ : Nat) (i : Nat), i ≤ fo_pL G j k → pRch va (fo_pt G j k) x (fo_pL G j k - i) i = pRch va (fo_pt G j k) x (fo_pL G j k) 0 → fo_pL G j k - i < k28_ → ∀ (H : Heap) (locs : List Loc), va_P D vwCl (wM h st sl sv pt cI cZ (mst n G va mk) fsl fsv (fillI (fo_pL G j k) (fun t => nI (fo_pt G j k t)) fpt) (nI (fo_pL G j k))) H → va_D (adr (wM h st sl sv pt cI cZ (mst n G va mk) fsl fsv fpt many)) (wM h st sl sv pt cI cZ (mst n G va mk) fsl fsv (fillI (fo_pL G j k) (fun t => nI (fo_pt G j k t)) fpt) (nI (fo_pL G j k))) → va_S (adr (wM h st sl sv pt cI cZ (mst n G va mk) fsl fsv fpt many)) s.heap H locs → ∀ ls, lv_has ls 7 [(0, .ref h), (3, .int x), (5, .int (pSum va (fo_pt G j k) i)), (6, .int (nI i))] → Ww0 p l e wsX3_reach 5 114 s m [.ref h, .int (nI j), .int (nI k), .int x] below meth c D (wM h st sl sv pt cI cZ (mst n G va mk) fsl fsv fpt many) (wM h st sl sv pt cI cZ (mst n G va mk) fsl fsv (pvV n G fpt (nI j) (nI k)) (pvM n G many (nI j) (nI k))) (some (.int (gp n G (nI j) (nI k) (fun a b => pRch va (fo_pt G a b) x (fo_pL G a b) 0) (-100000001) (-100000004)))) H locs (F0 m 28 ls []) := by
      intro k28_
      induction k28_ with
      | zero => intro i hi hrc hk28_; exact absurd hk28_ (Nat.not_lt_zero _)
      | succ k28_ ih28 =>
        intro i hi hrc hk28_ H locs hP hD hS ls hl
        refine lv_iload hx hb dX3_reach_28 (lv_at hl 3 rfl) ?_
        refine lv_aload_n hx hb dX3_reach_30 rfl (lv_at hl 0 rfl) ?_
        refine va_get (D := D) (ci := 3) (v := .int (nI (fo_pL G j k))) (C := RX3) (T := TX3) (N := 5) hx hb hts hin3 hown hK hP 0 rfl rfl 4 (by decide) hf62 (fun _ h9 => h9) rfl dX3_reach_31 ?_
        refine lv_icmp_ge (tgt := 73) hx hb dX3_reach_34 (by decide) (fun c_34 => ?_) (fun c_34 => ?_)
        · skip
          have c_34 := cn_le (a := (fo_pL G j k)) (b := i) (by omega) (by omega) c_34
          refine lv_ldc (own := RX3) hx hb hown hk53 dX3_reach_73 ?_
          have hP : va_P D vwCl (wM h st sl sv pt cI cZ (mst n G va mk) fsl fsv (pvV n G fpt (nI j) (nI k)) (pvM n G many (nI j) (nI k))) H := by rw [pvV_t hj hk hn hro, pvM_t hj hk hn hro]; exact hP
          exact wr_i hx hb hr hlocks hP hS (by rw [gp_t hj hk hn hro, ← hrc]; exact (pRch_e c_34).symm) dX3_reach_75
        · skip
          have c_34 := cn_nle (a := (fo_pL G j k)) (b := i) (by omega) (by omega) c_34
          refine lv_iload hx hb dX3_reach_37 (lv_at hl 2 rfl) ?_
          refine lv_aload_n hx hb dX3_reach_39 rfl (lv_at hl 0 rfl) ?_
          refine lv_aload_n hx hb dX3_reach_40 rfl (lv_at hl 0 rfl) ?_
          refine va_get (D := D) (ci := 3) (v := .ref pt) (C := RX3) (T := TX3) (N := 5) hx hb hts hin3 hown hK hP 0 rfl rfl 3 (by decide) hf20 (fun _ h9 => h9) rfl dX3_reach_41 ?_
          refine lv_iload hx hb dX3_reach_44 (lv_at hl 3 rfl) ?_
          refine ar_i (tys := []) hx hb hK hP 4 rfl (k := i) (by omega) (by decide) dX3_reach_46 ?_
          rw [fillI_lt _ _ c_34]
          have hpi := fo_pt_lt F hj hk i
          refine rd_call ⟨hx, hb, hml, hown, hts⟩ (c_X3_valueOf l D cI cZ h st sl sv pt fsl fsv (fillI (fo_pL G j k) (fun t => nI (fo_pt G j k t)) fpt) (nI (fo_pL G j k)) n G va mk F (fo_pt G j k i) hpi) (cwV 1 hts gX3_reach_X3_valueOf rfl rfl rfl (by decide +kernel) ⟨Nat.le_of_ble_eq_true rfl, Nat.le_of_ble_eq_true rfl⟩) hP hK rfl rfl rfl hl rfl (Nat.le_of_ble_eq_true rfl) dX3_reach_47 ⟨Nat.zero_le _, Nat.zero_le _⟩ ?_
          refine lv_iadd hx hb dX3_reach_50 ?_
          refine lv_istore (lv' := [(5, .int ((pSum va (fo_pt G j k) i) + (va (fo_pt G j k i)))), (0, .ref h), (3, .int x), (6, .int (nI i))]) hx hb dX3_reach_51 hl (by decide) rfl (fun ls hl => ?_)
          refine lv_iload hx hb dX3_reach_53 (lv_at hl 0 rfl) ?_
          refine lv_iload_n hx hb dX3_reach_55 rfl (lv_at hl 2 rfl) ?_
          refine lv_icmp_lt (tgt := 67) hx hb dX3_reach_56 (by decide) (fun c_56 => ?_) (fun c_56 => ?_)
          · skip
            refine lv_iinc (v := nI (i + 1)) (lv' := [(6, .int (nI (i + 1))), (5, .int ((pSum va (fo_pt G j k) i) + (va (fo_pt G j k i)))), (0, .ref h), (3, .int x)]) hx hb dX3_reach_67 hl (k := 3) rfl (nI_1 i) (by decide) rfl (fun ls hl => ?_)
            refine lv_goto (tgt := 28) hx hb dX3_reach_70 (by decide) ?_
            exact ih28 (i + 1) (by omega) (by rw [← hrc]; exact (pRch_n c_34 (Int32.not_le.mpr c_56)).symm) (by omega) _ _ hP hD hS ls (lv_sub hl [2, 3, 1, 0] rfl)
          · skip
            refine lv_aload_n hx hb dX3_reach_59 rfl (lv_at hl 1 rfl) ?_
            refine va_get (D := D) (ci := 3) (v := .ref pt) (C := RX3) (T := TX3) (N := 5) hx hb hts hin3 hown hK hP 0 rfl rfl 3 (by decide) hf20 (fun _ h9 => h9) rfl dX3_reach_60 ?_
            refine lv_iload hx hb dX3_reach_63 (lv_at hl 3 rfl) ?_
            refine ar_i (tys := []) hx hb hK hP 4 rfl (k := i) (by omega) (by decide) dX3_reach_65 ?_
            rw [fillI_lt _ _ c_34]
            have hP : va_P D vwCl (wM h st sl sv pt cI cZ (mst n G va mk) fsl fsv (pvV n G fpt (nI j) (nI k)) (pvM n G many (nI j) (nI k))) H := by rw [pvV_t hj hk hn hro, pvM_t hj hk hn hro]; exact hP
            exact wr_i hx hb hr hlocks hP hS (by rw [gp_t hj hk hn hro, ← hrc]; exact (pRch_y c_34 (Int32.not_lt.mp c_56)).symm) dX3_reach_66
    exact L28 (fo_pL G j k - 0 + 1) 0 (Nat.zero_le _) rfl (Nat.lt_succ_self _) _ _ hP hD hS ls (lv_sub hl [3, 6, 1, 0] rfl)
  · skip
    refine lv_iload hx hb dX3_reach_13 (lv_at hl 0 rfl) ?_
    have hP : va_P D vwCl (wM h st sl sv pt cI cZ (mst n G va mk) fsl fsv (pvV n G fpt u v) (pvM n G many u v)) s.heap := by unfold pvV pvM; rw [pE_same hn c_10, pE_same hn c_10]; exact hP
    exact wr_i hx hb hr hlocks hP hS (pE_no hn c_10 _ _ _ _) dX3_reach_15
set_option maxHeartbeats 4000000 in
set_option maxRecDepth 100000 in
theorem c_X3_addOnPath (l : Launch) (D : va_G) (cI cZ : ClassId) (h : Nat) (st : Nat) (sl : Nat) (sv : Nat) (pt : Nat) (fsl : Nat → Int32) (fsv : Nat → Int32) (fpt : Nat → Int32) (many : Int32) (n : Nat) (G : Nat → Nat) (va : Nat → Int32) (mk : Nat → Bool) (F : fo_ok n G) (u : Int32) (v : Int32) (x : Int32) : WrM l yX3_addOnPath wsX3_addOnPath 5 114 D cI cZ (wM h st sl sv pt cI cZ (mst n G va mk) fsl fsv fpt many) (wM h st sl sv pt cI cZ (mst n G (gp n G u v (fun a b => if oAdd va (fo_pt G a b) x (fo_pL G a b) = true then vAdd va (fo_pt G a b) x (fo_pL G a b) else va) va va) mk) fsl fsv (gp n G u v (fun a b => if isV x = true then fillI (fo_pL G a b) (fun t => nI (fo_pt G a b t)) fpt else fpt) fpt fpt) (gp n G u v (fun a b => if isV x = true then nI (fo_pL G a b) else many) many many)) [.ref h, .int u, .int v, .int x] (some (.int (gp n G u v (fun a b => rAdd va (fo_pt G a b) x (fo_pL G a b)) (-100000001) (-100000004)))) := by
  refine WrM.of (cc := cX3_addOnPath) (maxL := 6) (ret := (some .int)) (by decide) rfl (Nat.le_of_ble_eq_true rfl) ?_
  intro p e s m below meth c hx hb hr hml hown hts hlocks hP hK hD hS ls hl
  have hown : s.vm.findClass RX3 = some m.cls := hown
  have hl : lv_has ls 6 [(0, .ref h), (1, .int u), (2, .int v), (3, .int x)] := hl
  have hP : va_P D vwCl (wM h st sl sv pt cI cZ (mst n G va mk) fsl fsv fpt many) s.heap := hP
  have hk43 := hts (.constant RX3 43 (-100000002)) (by decide +kernel)
  have hf62 := hts (.fieldLink RX3 62 "DynamicForestModel" "pathMany" "I") (by decide +kernel)
  have hf20 := hts (.fieldLink RX3 20 "DynamicForestModel" "path" "[I") (by decide +kernel)
  have hk87 := hts (.constant RX3 87 (-100000005)) (by decide +kernel)
  have hf7 := hts (.fieldLink RX3 7 "DynamicForestModel" "state" "[I") (by decide +kernel)
  have hin3 : ∀ w ∈ u_ws RX3 TX3 5, w ∈ wsX3_addOnPath := by decide +kernel
  have hn : n ≤ 64 := F.2.1
  refine lv_aload_n hx hb dX3_addOnPath_0 rfl (lv_at hl 0 rfl) ?_
  refine lv_iload_n hx hb dX3_addOnPath_1 rfl (lv_at hl 1 rfl) ?_
  refine lv_iload_n hx hb dX3_addOnPath_2 rfl (lv_at hl 2 rfl) ?_
  refine rd_call ⟨hx, hb, hml, hown, hts⟩ (c_X3_wrongPair l D cI cZ h st sl sv pt fsl fsv fpt many n G va mk F u v) (cwV 2 hts gX3_addOnPath_X3_wrongPair rfl rfl rfl (by decide +kernel) ⟨Nat.le_of_ble_eq_true rfl, Nat.le_of_ble_eq_true rfl⟩) hP hK rfl rfl rfl hl rfl (Nat.le_of_ble_eq_true rfl) dX3_addOnPath_3 ⟨Nat.zero_le _, Nat.zero_le _⟩ ?_
  refine lv_istore (lv' := [(4, .int (pE n G u v)), (0, .ref h), (1, .int u), (2, .int v), (3, .int x)]) hx hb dX3_addOnPath_6 hl (by decide) rfl (fun ls hl => ?_)
  refine lv_iload hx hb dX3_addOnPath_8 (lv_at hl 0 rfl) ?_
  refine lv_if_eq (tgt := 16) hx hb dX3_addOnPath_10 (by decide) (fun c_10 => ?_) (fun c_10 => ?_)
  · skip
    obtain ⟨j, k, hj, hk, rfl, rfl, hro⟩ := pE_ok hn c_10
    have hLL : fo_pL G j k ≤ n := fo_pL_le F hro hj hk
    have hL1 : 1 ≤ fo_pL G j k := Nat.succ_le_succ (Nat.zero_le _)
    have hLL2 : fo_pL G j k ≤ 64 := Nat.le_trans hLL hn
    refine lv_iload_n hx hb dX3_addOnPath_16 rfl (lv_at hl 4 rfl) ?_
    refine rd_callS ⟨hx, hb, hml, hown, hts⟩ (c_X3_isValue l D cI cZ x) (va_cwS 1 hts gX3_addOnPath_X3_isValue rfl rfl rfl (by decide +kernel) ⟨Nat.le_of_ble_eq_true rfl, Nat.le_of_ble_eq_true rfl⟩) hK rfl hl rfl (Nat.le_of_ble_eq_true rfl) dX3_addOnPath_17 ⟨Nat.zero_le _, Nat.zero_le _⟩ ?_
    refine lv_if_ne (tgt := 26) hx hb dX3_addOnPath_20 (by decide) (fun c_20 => ?_) (fun c_20 => ?_)
    · skip
      have c_20 := bI_1 c_20
      refine lv_aload_n hx hb dX3_addOnPath_26 rfl (lv_at hl 1 rfl) ?_
      refine lv_iload_n hx hb dX3_addOnPath_27 rfl (lv_at hl 2 rfl) ?_
      refine lv_iload_n hx hb dX3_addOnPath_28 rfl (lv_at hl 3 rfl) ?_
      refine wr_call (V1 := wM h st sl sv pt cI cZ (mst n G va mk) fsl fsv (fillI (fo_pL G j k) (fun t => nI (fo_pt G j k t)) fpt) (nI (fo_pL G j k))) ⟨hx, hb, hml, hown, hts⟩ (c_X3_layPath l D cI cZ h st sl sv pt fsl fsv fpt many n G va mk F j k hj hk hro) (cwV 2 hts gX3_addOnPath_X3_layPath rfl rfl rfl (by decide +kernel) ⟨Nat.le_of_ble_eq_true rfl, Nat.le_of_ble_eq_true rfl⟩) hP hK hD hS [0, 1, 2, 3, 4] [] [0, 1, 2, 3, 4] rfl rfl (by decide) rfl rfl rfl rfl rfl hl rfl (Nat.le_of_ble_eq_true rfl) dX3_addOnPath_29 ⟨Nat.zero_le _, Nat.zero_le _⟩ (fun H locs hP hD hS => ?_)
      refine lv_iconst (v := nI 0) hx hb dX3_addOnPath_32 (by decide) ?_
      refine lv_istore (lv' := [(5, .int (nI 0)), (4, .int (pE n G (nI j) (nI k))), (0, .ref h), (1, .int (nI j)), (2, .int (nI k)), (3, .int x)]) hx hb dX3_addOnPath_33 hl (by decide) rfl (fun ls hl => ?_)
      have L35 : ∀ (k35_ : Nat) (i : Nat), i ≤ fo_pL G j k → fAll (fun i => isV (va (fo_pt G j k i) + x)) i = true → fo_pL G j k - i < k35_ → ∀ (H : Heap) (locs : List Loc), va_P D vwCl (wM h st sl sv pt cI cZ (mst n G va mk) fsl fsv (fillI (fo_pL G j k) (fun t => nI (fo_pt G j k t)) fpt) (nI (fo_pL G j k))) H → va_D (adr (wM h st sl sv pt cI cZ (mst n G va mk) fsl fsv fpt many)) (wM h st sl sv pt cI cZ (mst n G va mk) fsl fsv (fillI (fo_pL G j k) (fun t => nI (fo_pt G j k t)) fpt) (nI (fo_pL G j k))) → va_S (adr (wM h st sl sv pt cI cZ (mst n G va mk) fsl fsv fpt many)) s.heap H locs → ∀ ls, lv_has ls 6 [(0, .ref h), (3, .int x), (5, .int (nI i))] → Ww0 p l e wsX3_addOnPath 5 114 s m [.ref h, .int (nI j), .int (nI k), .int x] below meth c D (wM h st sl sv pt cI cZ (mst n G va mk) fsl fsv fpt many) (wM h st sl sv pt cI cZ (mst n G (gp n G (nI j) (nI k) (fun a b => if oAdd va (fo_pt G a b) x (fo_pL G a b) = true then vAdd va (fo_pt G a b) x (fo_pL G a b) else va) va va) mk) fsl fsv (gp n G (nI j) (nI k) (fun a b => if isV x = true then fillI (fo_pL G a b) (fun t => nI (fo_pt G a b t)) fpt else fpt) fpt fpt) (gp n G (nI j) (nI k) (fun a b => if isV x = true then nI (fo_pL G a b) else many) many many)) (some (.int (gp n G (nI j) (nI k) (fun a b => rAdd va (fo_pt G a b) x (fo_pL G a b)) (-100000001) (-100000004)))) H locs (F0 m 35 ls []) := by
        intro k35_
        induction k35_ with
        | zero => intro i hi ha hk35_; exact absurd hk35_ (Nat.not_lt_zero _)
        | succ k35_ ih35 =>
          intro i hi ha hk35_ H locs hP hD hS ls hl
          refine lv_iload hx hb dX3_addOnPath_35 (lv_at hl 2 rfl) ?_
          refine lv_aload_n hx hb dX3_addOnPath_37 rfl (lv_at hl 0 rfl) ?_
          refine va_get (D := D) (ci := 3) (v := .int (nI (fo_pL G j k))) (C := RX3) (T := TX3) (N := 5) hx hb hts hin3 hown hK hP 0 rfl rfl 4 (by decide) hf62 (fun _ h9 => h9) rfl dX3_addOnPath_38 ?_
          refine lv_icmp_ge (tgt := 72) hx hb dX3_addOnPath_41 (by decide) (fun c_41 => ?_) (fun c_41 => ?_)
          · skip
            have c_41 := cn_le (a := (fo_pL G j k)) (b := i) (by omega) (by omega) c_41
            have hall : fAll (fun i => isV (va (fo_pt G j k i) + x)) (fo_pL G j k) = true := by rw [show fo_pL G j k = i by omega]; exact ha
            refine lv_iconst (v := nI 0) hx hb dX3_addOnPath_72 (by decide) ?_
            refine lv_istore (lv' := [(5, .int (nI 0)), (0, .ref h), (3, .int x)]) hx hb dX3_addOnPath_73 hl (by decide) rfl (fun ls hl => ?_)
            have L75 : ∀ (k75_ : Nat) (i : Nat), i ≤ fo_pL G j k → fo_pL G j k - i < k75_ → ∀ (H : Heap) (locs : List Loc), va_P D vwCl (wM h st sl sv pt cI cZ (mst n G (vAdd va (fo_pt G j k) x i) mk) fsl fsv (fillI (fo_pL G j k) (fun t => nI (fo_pt G j k t)) fpt) (nI (fo_pL G j k))) H → va_D (adr (wM h st sl sv pt cI cZ (mst n G va mk) fsl fsv fpt many)) (wM h st sl sv pt cI cZ (mst n G (vAdd va (fo_pt G j k) x i) mk) fsl fsv (fillI (fo_pL G j k) (fun t => nI (fo_pt G j k t)) fpt) (nI (fo_pL G j k))) → va_S (adr (wM h st sl sv pt cI cZ (mst n G va mk) fsl fsv fpt many)) s.heap H locs → ∀ ls, lv_has ls 6 [(0, .ref h), (3, .int x), (5, .int (nI i))] → Ww0 p l e wsX3_addOnPath 5 114 s m [.ref h, .int (nI j), .int (nI k), .int x] below meth c D (wM h st sl sv pt cI cZ (mst n G va mk) fsl fsv fpt many) (wM h st sl sv pt cI cZ (mst n G (gp n G (nI j) (nI k) (fun a b => if oAdd va (fo_pt G a b) x (fo_pL G a b) = true then vAdd va (fo_pt G a b) x (fo_pL G a b) else va) va va) mk) fsl fsv (gp n G (nI j) (nI k) (fun a b => if isV x = true then fillI (fo_pL G a b) (fun t => nI (fo_pt G a b t)) fpt else fpt) fpt fpt) (gp n G (nI j) (nI k) (fun a b => if isV x = true then nI (fo_pL G a b) else many) many many)) (some (.int (gp n G (nI j) (nI k) (fun a b => rAdd va (fo_pt G a b) x (fo_pL G a b)) (-100000001) (-100000004)))) H locs (F0 m 75 ls []) := by
              intro k75_
              induction k75_ with
              | zero => intro i hi2 hk75_; exact absurd hk75_ (Nat.not_lt_zero _)
              | succ k75_ ih75 =>
                intro i hi2 hk75_ H locs hP hD hS ls hl
                refine lv_iload hx hb dX3_addOnPath_75 (lv_at hl 2 rfl) ?_
                refine lv_aload_n hx hb dX3_addOnPath_77 rfl (lv_at hl 0 rfl) ?_
                refine va_get (D := D) (ci := 3) (v := .int (nI (fo_pL G j k))) (C := RX3) (T := TX3) (N := 5) hx hb hts hin3 hown hK hP 0 rfl rfl 4 (by decide) hf62 (fun _ h9 => h9) rfl dX3_addOnPath_78 ?_
                refine lv_icmp_ge (tgt := 109) hx hb dX3_addOnPath_81 (by decide) (fun c_81 => ?_) (fun c_81 => ?_)
                · skip
                  have c_81 := cn_le (a := (fo_pL G j k)) (b := i) (by omega) (by omega) c_81
                  have en : i = fo_pL G j k := by omega
                  rw [en] at hP
                  refine lv_aload_n hx hb dX3_addOnPath_109 rfl (lv_at hl 0 rfl) ?_
                  refine va_get (D := D) (ci := 3) (v := .int (nI (fo_pL G j k))) (C := RX3) (T := TX3) (N := 5) hx hb hts hin3 hown hK hP 0 rfl rfl 4 (by decide) hf62 (fun _ h9 => h9) rfl dX3_addOnPath_110 ?_
                  have hP : va_P D vwCl (wM h st sl sv pt cI cZ (mst n G (gp n G (nI j) (nI k) (fun a b => if oAdd va (fo_pt G a b) x (fo_pL G a b) = true then vAdd va (fo_pt G a b) x (fo_pL G a b) else va) va va) mk) fsl fsv (gp n G (nI j) (nI k) (fun a b => if isV x = true then fillI (fo_pL G a b) (fun t => nI (fo_pt G a b t)) fpt else fpt) fpt fpt) (gp n G (nI j) (nI k) (fun a b => if isV x = true then nI (fo_pL G a b) else many) many many)) H := by rw [gp_t hj hk hn hro, gp_t hj hk hn hro, gp_t hj hk hn hro]; rw [if_pos (show oAdd va (fo_pt G j k) x (fo_pL G j k) = true by unfold oAdd; rw [c_20, hall]; rfl), if_pos c_20, if_pos c_20]; exact hP
                  exact wr_i hx hb hr hlocks hP hS (by rw [gp_t hj hk hn hro]; unfold rAdd; rw [c_20, hall]; rfl) dX3_addOnPath_113
                · skip
                  have c_81 := cn_nle (a := (fo_pL G j k)) (b := i) (by omega) (by omega) c_81
                  refine lv_aload_n hx hb dX3_addOnPath_84 rfl (lv_at hl 0 rfl) ?_
                  refine va_get (D := D) (ci := 3) (v := .ref st) (C := RX3) (T := TX3) (N := 5) hx hb hts hin3 hown hK hP 0 rfl rfl 0 (by decide) hf7 (fun _ h9 => h9) rfl dX3_addOnPath_85 ?_
                  refine lv_bipush (v := 65) hx hb dX3_addOnPath_88 (by decide) ?_
                  refine lv_aload_n hx hb dX3_addOnPath_90 rfl (lv_at hl 0 rfl) ?_
                  refine va_get (D := D) (ci := 3) (v := .ref pt) (C := RX3) (T := TX3) (N := 5) hx hb hts hin3 hown hK hP 0 rfl rfl 3 (by decide) hf20 (fun _ h9 => h9) rfl dX3_addOnPath_91 ?_
                  refine lv_iload hx hb dX3_addOnPath_94 (lv_at hl 2 rfl) ?_
                  refine ar_i (tys := []) hx hb hK hP 4 rfl (k := i) (by omega) (by decide) dX3_addOnPath_96 ?_
                  rw [fillI_lt _ _ c_81]
                  have hpi := fo_pt_lt F hj hk i
                  refine lv_iadd hx hb dX3_addOnPath_97 ?_
                  rw [show (65 + (nI (fo_pt G j k i)) : Int32) = nI (65 + (fo_pt G j k i)) from nI_add 65 (fo_pt G j k i)]
                  refine lv_dup2_11 hx hb dX3_addOnPath_98 rfl rfl ?_
                  refine ar_i (tys := []) hx hb hK hP 1 rfl (k := (65 + (fo_pt G j k i))) (by omega) (by decide) dX3_addOnPath_99 ?_
                  rw [mst_v n G _ mk (by omega)]
                  refine lv_iload_n hx hb dX3_addOnPath_100 rfl (lv_at hl 1 rfl) ?_
                  refine lv_iadd hx hb dX3_addOnPath_101 ?_
                  refine ar_is hx hb hK hP hD hS 1 rfl (k := (65 + (fo_pt G j k i))) (by omega) (by decide) dX3_addOnPath_102 (fun H locs hP hD hS => ?_)
                  have hP : va_P D vwCl (wM h st sl sv pt cI cZ (upd (mst n G (vAdd va (fo_pt G j k) x i) mk) (65 + (fo_pt G j k i)) ((vAdd va (fo_pt G j k) x i (fo_pt G j k i)) + x)) fsl fsv (fillI (fo_pL G j k) (fun t => nI (fo_pt G j k t)) fpt) (nI (fo_pL G j k))) H := hP
                  rw [mst_sv n G _ mk (by omega)] at hP
                  have hD : va_D (adr (wM h st sl sv pt cI cZ (mst n G va mk) fsl fsv fpt many)) (wM h st sl sv pt cI cZ (mst n G (vAdd va (fo_pt G j k) x (i + 1)) mk) fsl fsv (fillI (fo_pL G j k) (fun t => nI (fo_pt G j k t)) fpt) (nI (fo_pL G j k))) := vd_same hD rfl
                  refine lv_iinc (v := nI (i + 1)) (lv' := [(5, .int (nI (i + 1))), (0, .ref h), (3, .int x)]) hx hb dX3_addOnPath_103 hl (k := 2) rfl (nI_1 i) (by decide) rfl (fun ls hl => ?_)
                  refine lv_goto (tgt := 75) hx hb dX3_addOnPath_106 (by decide) ?_
                  exact ih75 (i + 1) (by omega) (by omega) _ _ hP hD hS ls (lv_sub hl [1, 2, 0] rfl)
            exact L75 (fo_pL G j k - 0 + 1) 0 (Nat.zero_le _) (Nat.lt_succ_self _) _ _ hP hD hS ls (lv_sub hl [1, 2, 0] rfl)
          · skip
            have c_41 := cn_nle (a := (fo_pL G j k)) (b := i) (by omega) (by omega) c_41
            refine lv_aload_n hx hb dX3_addOnPath_44 rfl (lv_at hl 0 rfl) ?_
            refine lv_aload_n hx hb dX3_addOnPath_45 rfl (lv_at hl 0 rfl) ?_
            refine va_get (D := D) (ci := 3) (v := .ref pt) (C := RX3) (T := TX3) (N := 5) hx hb hts hin3 hown hK hP 0 rfl rfl 3 (by decide) hf20 (fun _ h9 => h9) rfl dX3_addOnPath_46 ?_
            refine lv_iload hx hb dX3_addOnPath_49 (lv_at hl 2 rfl) ?_
            refine ar_i (tys := []) hx hb hK hP 4 rfl (k := i) (by omega) (by decide) dX3_addOnPath_51 ?_
            rw [fillI_lt _ _ c_41]
            have hpi := fo_pt_lt F hj hk i
            refine rd_call ⟨hx, hb, hml, hown, hts⟩ (c_X3_valueOf l D cI cZ h st sl sv pt fsl fsv (fillI (fo_pL G j k) (fun t => nI (fo_pt G j k t)) fpt) (nI (fo_pL G j k)) n G va mk F (fo_pt G j k i) hpi) (cwV 1 hts gX3_addOnPath_X3_valueOf rfl rfl rfl (by decide +kernel) ⟨Nat.le_of_ble_eq_true rfl, Nat.le_of_ble_eq_true rfl⟩) hP hK rfl rfl rfl hl rfl (Nat.le_of_ble_eq_true rfl) dX3_addOnPath_52 ⟨Nat.zero_le _, Nat.zero_le _⟩ ?_
            refine lv_iload_n hx hb dX3_addOnPath_55 rfl (lv_at hl 1 rfl) ?_
            refine lv_iadd hx hb dX3_addOnPath_56 ?_
            refine rd_callS ⟨hx, hb, hml, hown, hts⟩ (c_X3_isValue l D cI cZ (va (fo_pt G j k i) + x)) (va_cwS 1 hts gX3_addOnPath_X3_isValue rfl rfl rfl (by decide +kernel) ⟨Nat.le_of_ble_eq_true rfl, Nat.le_of_ble_eq_true rfl⟩) hK rfl hl rfl (Nat.le_of_ble_eq_true rfl) dX3_addOnPath_57 ⟨Nat.zero_le _, Nat.zero_le _⟩ ?_
            refine lv_if_ne (tgt := 66) hx hb dX3_addOnPath_60 (by decide) (fun c_60 => ?_) (fun c_60 => ?_)
            · skip
              have c_60 := bI_1 c_60
              refine lv_iinc (v := nI (i + 1)) (lv' := [(5, .int (nI (i + 1))), (0, .ref h), (3, .int x)]) hx hb dX3_addOnPath_66 hl (k := 2) rfl (nI_1 i) (by decide) rfl (fun ls hl => ?_)
              refine lv_goto (tgt := 35) hx hb dX3_addOnPath_69 (by decide) ?_
              exact ih35 (i + 1) (by omega) (fAll_s ha c_60) (by omega) _ _ hP hD hS ls (lv_sub hl [1, 2, 0] rfl)
            · skip
              have c_60 := bI_0 c_60
              refine lv_ldc (own := RX3) hx hb hown hk87 dX3_addOnPath_63 ?_
              have hfa := fAll_f (f := (fun i => isV (va (fo_pt G j k i) + x))) (i := i) c_60 (fo_pL G j k) c_41
              have hP : va_P D vwCl (wM h st sl sv pt cI cZ (mst n G (gp n G (nI j) (nI k) (fun a b => if oAdd va (fo_pt G a b) x (fo_pL G a b) = true then vAdd va (fo_pt G a b) x (fo_pL G a b) else va) va va) mk) fsl fsv (gp n G (nI j) (nI k) (fun a b => if isV x = true then fillI (fo_pL G a b) (fun t => nI (fo_pt G a b t)) fpt else fpt) fpt fpt) (gp n G (nI j) (nI k) (fun a b => if isV x = true then nI (fo_pL G a b) else many) many many)) H := by rw [gp_t hj hk hn hro, gp_t hj hk hn hro, gp_t hj hk hn hro]; rw [if_neg (show ¬ oAdd va (fo_pt G j k) x (fo_pL G j k) = true by unfold oAdd; rw [hfa, Bool.and_false]; decide), if_pos c_20, if_pos c_20]; exact hP
              exact wr_i hx hb hr hlocks hP hS (by rw [gp_t hj hk hn hro]; unfold rAdd; rw [c_20, hfa]; rfl) dX3_addOnPath_65
      exact L35 (fo_pL G j k - 0 + 1) 0 (Nat.zero_le _) rfl (Nat.lt_succ_self _) _ _ hP hD hS ls (lv_sub hl [2, 5, 0] rfl)
    · skip
      have c_20 := bI_0 c_20
      refine lv_ldc (own := RX3) hx hb hown hk43 dX3_addOnPath_23 ?_
      have hP : va_P D vwCl (wM h st sl sv pt cI cZ (mst n G (gp n G (nI j) (nI k) (fun a b => if oAdd va (fo_pt G a b) x (fo_pL G a b) = true then vAdd va (fo_pt G a b) x (fo_pL G a b) else va) va va) mk) fsl fsv (gp n G (nI j) (nI k) (fun a b => if isV x = true then fillI (fo_pL G a b) (fun t => nI (fo_pt G a b t)) fpt else fpt) fpt fpt) (gp n G (nI j) (nI k) (fun a b => if isV x = true then nI (fo_pL G a b) else many) many many)) s.heap := by rw [gp_t hj hk hn hro, gp_t hj hk hn hro, gp_t hj hk hn hro]; rw [if_neg (show ¬ oAdd va (fo_pt G j k) x (fo_pL G j k) = true by unfold oAdd; rw [c_20, Bool.false_and]; decide), if_neg (show ¬ isV x = true by rw [c_20]; decide), if_neg (show ¬ isV x = true by rw [c_20]; decide)]; exact hP
      exact wr_i hx hb hr hlocks hP hS (by rw [gp_t hj hk hn hro]; unfold rAdd; rw [c_20]; rfl) dX3_addOnPath_25
  · skip
    refine lv_iload hx hb dX3_addOnPath_13 (lv_at hl 0 rfl) ?_
    have hP : va_P D vwCl (wM h st sl sv pt cI cZ (mst n G (gp n G u v (fun a b => if oAdd va (fo_pt G a b) x (fo_pL G a b) = true then vAdd va (fo_pt G a b) x (fo_pL G a b) else va) va va) mk) fsl fsv (gp n G u v (fun a b => if isV x = true then fillI (fo_pL G a b) (fun t => nI (fo_pt G a b t)) fpt else fpt) fpt fpt) (gp n G u v (fun a b => if isV x = true then nI (fo_pL G a b) else many) many many)) s.heap := by rw [pE_same hn c_10, pE_same hn c_10, pE_same hn c_10]; exact hP
    exact wr_i hx hb hr hlocks hP hS (pE_no hn c_10 _ _ _ _) dX3_addOnPath_15
set_option maxHeartbeats 4000000 in
set_option maxRecDepth 100000 in
theorem c_X3_setOnPath (l : Launch) (D : va_G) (cI cZ : ClassId) (h : Nat) (st : Nat) (sl : Nat) (sv : Nat) (pt : Nat) (fsl : Nat → Int32) (fsv : Nat → Int32) (fpt : Nat → Int32) (many : Int32) (n : Nat) (G : Nat → Nat) (va : Nat → Int32) (mk : Nat → Bool) (F : fo_ok n G) (u : Int32) (v : Int32) (x : Int32) : WrM l yX3_setOnPath wsX3_setOnPath 5 114 D cI cZ (wM h st sl sv pt cI cZ (mst n G va mk) fsl fsv fpt many) (wM h st sl sv pt cI cZ (mst n G (gp n G u v (fun a b => if isV x = true then vSet va (fo_pt G a b) x (fo_pL G a b) else va) va va) mk) fsl fsv (gp n G u v (fun a b => if isV x = true then fillI (fo_pL G a b) (fun t => nI (fo_pt G a b t)) fpt else fpt) fpt fpt) (gp n G u v (fun a b => if isV x = true then nI (fo_pL G a b) else many) many many)) [.ref h, .int u, .int v, .int x] (some (.int (gp n G u v (fun a b => if isV x = true then nI (fo_pL G a b) else -100000002) (-100000001) (-100000004)))) := by
  refine WrM.of (cc := cX3_setOnPath) (maxL := 6) (ret := (some .int)) (by decide) rfl (Nat.le_of_ble_eq_true rfl) ?_
  intro p e s m below meth c hx hb hr hml hown hts hlocks hP hK hD hS ls hl
  have hown : s.vm.findClass RX3 = some m.cls := hown
  have hl : lv_has ls 6 [(0, .ref h), (1, .int u), (2, .int v), (3, .int x)] := hl
  have hP : va_P D vwCl (wM h st sl sv pt cI cZ (mst n G va mk) fsl fsv fpt many) s.heap := hP
  have hk43 := hts (.constant RX3 43 (-100000002)) (by decide +kernel)
  have hf62 := hts (.fieldLink RX3 62 "DynamicForestModel" "pathMany" "I") (by decide +kernel)
  have hf7 := hts (.fieldLink RX3 7 "DynamicForestModel" "state" "[I") (by decide +kernel)
  have hf20 := hts (.fieldLink RX3 20 "DynamicForestModel" "path" "[I") (by decide +kernel)
  have hin3 : ∀ w ∈ u_ws RX3 TX3 5, w ∈ wsX3_setOnPath := by decide +kernel
  have hn : n ≤ 64 := F.2.1
  refine lv_aload_n hx hb dX3_setOnPath_0 rfl (lv_at hl 0 rfl) ?_
  refine lv_iload_n hx hb dX3_setOnPath_1 rfl (lv_at hl 1 rfl) ?_
  refine lv_iload_n hx hb dX3_setOnPath_2 rfl (lv_at hl 2 rfl) ?_
  refine rd_call ⟨hx, hb, hml, hown, hts⟩ (c_X3_wrongPair l D cI cZ h st sl sv pt fsl fsv fpt many n G va mk F u v) (cwV 2 hts gX3_setOnPath_X3_wrongPair rfl rfl rfl (by decide +kernel) ⟨Nat.le_of_ble_eq_true rfl, Nat.le_of_ble_eq_true rfl⟩) hP hK rfl rfl rfl hl rfl (Nat.le_of_ble_eq_true rfl) dX3_setOnPath_3 ⟨Nat.zero_le _, Nat.zero_le _⟩ ?_
  refine lv_istore (lv' := [(4, .int (pE n G u v)), (0, .ref h), (1, .int u), (2, .int v), (3, .int x)]) hx hb dX3_setOnPath_6 hl (by decide) rfl (fun ls hl => ?_)
  refine lv_iload hx hb dX3_setOnPath_8 (lv_at hl 0 rfl) ?_
  refine lv_if_eq (tgt := 16) hx hb dX3_setOnPath_10 (by decide) (fun c_10 => ?_) (fun c_10 => ?_)
  · skip
    obtain ⟨j, k, hj, hk, rfl, rfl, hro⟩ := pE_ok hn c_10
    have hLL : fo_pL G j k ≤ n := fo_pL_le F hro hj hk
    have hL1 : 1 ≤ fo_pL G j k := Nat.succ_le_succ (Nat.zero_le _)
    have hLL2 : fo_pL G j k ≤ 64 := Nat.le_trans hLL hn
    refine lv_iload_n hx hb dX3_setOnPath_16 rfl (lv_at hl 4 rfl) ?_
    refine rd_callS ⟨hx, hb, hml, hown, hts⟩ (c_X3_isValue l D cI cZ x) (va_cwS 1 hts gX3_setOnPath_X3_isValue rfl rfl rfl (by decide +kernel) ⟨Nat.le_of_ble_eq_true rfl, Nat.le_of_ble_eq_true rfl⟩) hK rfl hl rfl (Nat.le_of_ble_eq_true rfl) dX3_setOnPath_17 ⟨Nat.zero_le _, Nat.zero_le _⟩ ?_
    refine lv_if_ne (tgt := 26) hx hb dX3_setOnPath_20 (by decide) (fun c_20 => ?_) (fun c_20 => ?_)
    · skip
      have c_20 := bI_1 c_20
      refine lv_aload_n hx hb dX3_setOnPath_26 rfl (lv_at hl 1 rfl) ?_
      refine lv_iload_n hx hb dX3_setOnPath_27 rfl (lv_at hl 2 rfl) ?_
      refine lv_iload_n hx hb dX3_setOnPath_28 rfl (lv_at hl 3 rfl) ?_
      refine wr_call (V1 := wM h st sl sv pt cI cZ (mst n G va mk) fsl fsv (fillI (fo_pL G j k) (fun t => nI (fo_pt G j k t)) fpt) (nI (fo_pL G j k))) ⟨hx, hb, hml, hown, hts⟩ (c_X3_layPath l D cI cZ h st sl sv pt fsl fsv fpt many n G va mk F j k hj hk hro) (cwV 2 hts gX3_setOnPath_X3_layPath rfl rfl rfl (by decide +kernel) ⟨Nat.le_of_ble_eq_true rfl, Nat.le_of_ble_eq_true rfl⟩) hP hK hD hS [0, 1, 2, 3, 4] [] [0, 1, 2, 3, 4] rfl rfl (by decide) rfl rfl rfl rfl rfl hl rfl (Nat.le_of_ble_eq_true rfl) dX3_setOnPath_29 ⟨Nat.zero_le _, Nat.zero_le _⟩ (fun H locs hP hD hS => ?_)
      refine lv_iconst (v := nI 0) hx hb dX3_setOnPath_32 (by decide) ?_
      refine lv_istore (lv' := [(5, .int (nI 0)), (4, .int (pE n G (nI j) (nI k))), (0, .ref h), (1, .int (nI j)), (2, .int (nI k)), (3, .int x)]) hx hb dX3_setOnPath_33 hl (by decide) rfl (fun ls hl => ?_)
      have L35 : ∀ (k35_ : Nat) (i : Nat), i ≤ fo_pL G j k → fo_pL G j k - i < k35_ → ∀ (H : Heap) (locs : List Loc), va_P D vwCl (wM h st sl sv pt cI cZ (mst n G (vSet va (fo_pt G j k) x i) mk) fsl fsv (fillI (fo_pL G j k) (fun t => nI (fo_pt G j k t)) fpt) (nI (fo_pL G j k))) H → va_D (adr (wM h st sl sv pt cI cZ (mst n G va mk) fsl fsv fpt many)) (wM h st sl sv pt cI cZ (mst n G (vSet va (fo_pt G j k) x i) mk) fsl fsv (fillI (fo_pL G j k) (fun t => nI (fo_pt G j k t)) fpt) (nI (fo_pL G j k))) → va_S (adr (wM h st sl sv pt cI cZ (mst n G va mk) fsl fsv fpt many)) s.heap H locs → ∀ ls, lv_has ls 6 [(0, .ref h), (3, .int x), (5, .int (nI i))] → Ww0 p l e wsX3_setOnPath 5 114 s m [.ref h, .int (nI j), .int (nI k), .int x] below meth c D (wM h st sl sv pt cI cZ (mst n G va mk) fsl fsv fpt many) (wM h st sl sv pt cI cZ (mst n G (gp n G (nI j) (nI k) (fun a b => if isV x = true then vSet va (fo_pt G a b) x (fo_pL G a b) else va) va va) mk) fsl fsv (gp n G (nI j) (nI k) (fun a b => if isV x = true then fillI (fo_pL G a b) (fun t => nI (fo_pt G a b t)) fpt else fpt) fpt fpt) (gp n G (nI j) (nI k) (fun a b => if isV x = true then nI (fo_pL G a b) else many) many many)) (some (.int (gp n G (nI j) (nI k) (fun a b => if isV x = true then nI (fo_pL G a b) else -100000002) (-100000001) (-100000004)))) H locs (F0 m 35 ls []) := by
        intro k35_
        induction k35_ with
        | zero => intro i hi hk35_; exact absurd hk35_ (Nat.not_lt_zero _)
        | succ k35_ ih35 =>
          intro i hi hk35_ H locs hP hD hS ls hl
          refine lv_iload hx hb dX3_setOnPath_35 (lv_at hl 2 rfl) ?_
          refine lv_aload_n hx hb dX3_setOnPath_37 rfl (lv_at hl 0 rfl) ?_
          refine va_get (D := D) (ci := 3) (v := .int (nI (fo_pL G j k))) (C := RX3) (T := TX3) (N := 5) hx hb hts hin3 hown hK hP 0 rfl rfl 4 (by decide) hf62 (fun _ h9 => h9) rfl dX3_setOnPath_38 ?_
          refine lv_icmp_ge (tgt := 66) hx hb dX3_setOnPath_41 (by decide) (fun c_41 => ?_) (fun c_41 => ?_)
          · skip
            have c_41 := cn_le (a := (fo_pL G j k)) (b := i) (by omega) (by omega) c_41
            have en : i = fo_pL G j k := by omega
            rw [en] at hP
            refine lv_aload_n hx hb dX3_setOnPath_66 rfl (lv_at hl 0 rfl) ?_
            refine va_get (D := D) (ci := 3) (v := .int (nI (fo_pL G j k))) (C := RX3) (T := TX3) (N := 5) hx hb hts hin3 hown hK hP 0 rfl rfl 4 (by decide) hf62 (fun _ h9 => h9) rfl dX3_setOnPath_67 ?_
            have hP : va_P D vwCl (wM h st sl sv pt cI cZ (mst n G (gp n G (nI j) (nI k) (fun a b => if isV x = true then vSet va (fo_pt G a b) x (fo_pL G a b) else va) va va) mk) fsl fsv (gp n G (nI j) (nI k) (fun a b => if isV x = true then fillI (fo_pL G a b) (fun t => nI (fo_pt G a b t)) fpt else fpt) fpt fpt) (gp n G (nI j) (nI k) (fun a b => if isV x = true then nI (fo_pL G a b) else many) many many)) H := by rw [gp_t hj hk hn hro, gp_t hj hk hn hro, gp_t hj hk hn hro]; rw [if_pos c_20, if_pos c_20, if_pos c_20]; exact hP
            exact wr_i hx hb hr hlocks hP hS (by rw [gp_t hj hk hn hro, if_pos c_20]) dX3_setOnPath_70
          · skip
            have c_41 := cn_nle (a := (fo_pL G j k)) (b := i) (by omega) (by omega) c_41
            refine lv_aload_n hx hb dX3_setOnPath_44 rfl (lv_at hl 0 rfl) ?_
            refine va_get (D := D) (ci := 3) (v := .ref st) (C := RX3) (T := TX3) (N := 5) hx hb hts hin3 hown hK hP 0 rfl rfl 0 (by decide) hf7 (fun _ h9 => h9) rfl dX3_setOnPath_45 ?_
            refine lv_bipush (v := 65) hx hb dX3_setOnPath_48 (by decide) ?_
            refine lv_aload_n hx hb dX3_setOnPath_50 rfl (lv_at hl 0 rfl) ?_
            refine va_get (D := D) (ci := 3) (v := .ref pt) (C := RX3) (T := TX3) (N := 5) hx hb hts hin3 hown hK hP 0 rfl rfl 3 (by decide) hf20 (fun _ h9 => h9) rfl dX3_setOnPath_51 ?_
            refine lv_iload hx hb dX3_setOnPath_54 (lv_at hl 2 rfl) ?_
            refine ar_i (tys := []) hx hb hK hP 4 rfl (k := i) (by omega) (by decide) dX3_setOnPath_56 ?_
            rw [fillI_lt _ _ c_41]
            have hpi := fo_pt_lt F hj hk i
            refine lv_iadd hx hb dX3_setOnPath_57 ?_
            rw [show (65 + (nI (fo_pt G j k i)) : Int32) = nI (65 + (fo_pt G j k i)) from nI_add 65 (fo_pt G j k i)]
            refine lv_iload_n hx hb dX3_setOnPath_58 rfl (lv_at hl 1 rfl) ?_
            refine ar_is hx hb hK hP hD hS 1 rfl (k := (65 + (fo_pt G j k i))) (by omega) (by decide) dX3_setOnPath_59 (fun H locs hP hD hS => ?_)
            have hP : va_P D vwCl (wM h st sl sv pt cI cZ (upd (mst n G (vSet va (fo_pt G j k) x i) mk) (65 + (fo_pt G j k i)) x) fsl fsv (fillI (fo_pL G j k) (fun t => nI (fo_pt G j k t)) fpt) (nI (fo_pL G j k))) H := hP
            rw [mst_sv n G _ mk (by omega)] at hP
            have hD : va_D (adr (wM h st sl sv pt cI cZ (mst n G va mk) fsl fsv fpt many)) (wM h st sl sv pt cI cZ (mst n G (vSet va (fo_pt G j k) x (i + 1)) mk) fsl fsv (fillI (fo_pL G j k) (fun t => nI (fo_pt G j k t)) fpt) (nI (fo_pL G j k))) := vd_same hD rfl
            refine lv_iinc (v := nI (i + 1)) (lv' := [(5, .int (nI (i + 1))), (0, .ref h), (3, .int x)]) hx hb dX3_setOnPath_60 hl (k := 2) rfl (nI_1 i) (by decide) rfl (fun ls hl => ?_)
            refine lv_goto (tgt := 35) hx hb dX3_setOnPath_63 (by decide) ?_
            exact ih35 (i + 1) (by omega) (by omega) _ _ hP hD hS ls (lv_sub hl [1, 2, 0] rfl)
      exact L35 (fo_pL G j k - 0 + 1) 0 (Nat.zero_le _) (Nat.lt_succ_self _) _ _ hP hD hS ls (lv_sub hl [2, 5, 0] rfl)
    · skip
      have c_20 := bI_0 c_20
      refine lv_ldc (own := RX3) hx hb hown hk43 dX3_setOnPath_23 ?_
      have hP : va_P D vwCl (wM h st sl sv pt cI cZ (mst n G (gp n G (nI j) (nI k) (fun a b => if isV x = true then vSet va (fo_pt G a b) x (fo_pL G a b) else va) va va) mk) fsl fsv (gp n G (nI j) (nI k) (fun a b => if isV x = true then fillI (fo_pL G a b) (fun t => nI (fo_pt G a b t)) fpt else fpt) fpt fpt) (gp n G (nI j) (nI k) (fun a b => if isV x = true then nI (fo_pL G a b) else many) many many)) s.heap := by rw [gp_t hj hk hn hro, gp_t hj hk hn hro, gp_t hj hk hn hro]; rw [if_neg (show ¬ isV x = true by rw [c_20]; decide), if_neg (show ¬ isV x = true by rw [c_20]; decide), if_neg (show ¬ isV x = true by rw [c_20]; decide)]; exact hP
      exact wr_i hx hb hr hlocks hP hS (by rw [gp_t hj hk hn hro, if_neg (show ¬ isV x = true by rw [c_20]; decide)]) dX3_setOnPath_25
  · skip
    refine lv_iload hx hb dX3_setOnPath_13 (lv_at hl 0 rfl) ?_
    have hP : va_P D vwCl (wM h st sl sv pt cI cZ (mst n G (gp n G u v (fun a b => if isV x = true then vSet va (fo_pt G a b) x (fo_pL G a b) else va) va va) mk) fsl fsv (gp n G u v (fun a b => if isV x = true then fillI (fo_pL G a b) (fun t => nI (fo_pt G a b t)) fpt else fpt) fpt fpt) (gp n G u v (fun a b => if isV x = true then nI (fo_pL G a b) else many) many many)) s.heap := by rw [pE_same hn c_10, pE_same hn c_10, pE_same hn c_10]; exact hP
    exact wr_i hx hb hr hlocks hP hS (pE_no hn c_10 _ _ _ _) dX3_setOnPath_15
set_option maxHeartbeats 4000000 in
set_option maxRecDepth 100000 in
theorem c_X3_reverseValues (l : Launch) (D : va_G) (cI cZ : ClassId) (h : Nat) (st : Nat) (sl : Nat) (sv : Nat) (pt : Nat) (fsl : Nat → Int32) (fsv : Nat → Int32) (fpt : Nat → Int32) (many : Int32) (n : Nat) (G : Nat → Nat) (va : Nat → Int32) (mk : Nat → Bool) (F : fo_ok n G) (u : Int32) (v : Int32) : WrM l yX3_reverseValues wsX3_reverseValues 5 114 D cI cZ (wM h st sl sv pt cI cZ (mst n G va mk) fsl fsv fpt many) (wM h st sl sv pt cI cZ (mst n G (gp n G u v (fun a b => vRev va (fo_pt G a b) (fo_pL G a b) (fo_pL G a b / 2)) va va) mk) fsl fsv (pvV n G fpt u v) (pvM n G many u v)) [.ref h, .int u, .int v] (some (.int (gp n G u v (fun a b => nI (fo_pL G a b)) (-100000001) (-100000004)))) := by
  refine WrM.of (cc := cX3_reverseValues) (maxL := 8) (ret := (some .int)) (by decide) rfl (Nat.le_of_ble_eq_true rfl) ?_
  intro p e s m below meth c hx hb hr hml hown hts hlocks hP hK hD hS ls hl
  have hown : s.vm.findClass RX3 = some m.cls := hown
  have hl : lv_has ls 8 [(0, .ref h), (1, .int u), (2, .int v)] := hl
  have hP : va_P D vwCl (wM h st sl sv pt cI cZ (mst n G va mk) fsl fsv fpt many) s.heap := hP
  have hf62 := hts (.fieldLink RX3 62 "DynamicForestModel" "pathMany" "I") (by decide +kernel)
  have hf20 := hts (.fieldLink RX3 20 "DynamicForestModel" "path" "[I") (by decide +kernel)
  have hf7 := hts (.fieldLink RX3 7 "DynamicForestModel" "state" "[I") (by decide +kernel)
  have hin3 : ∀ w ∈ u_ws RX3 TX3 5, w ∈ wsX3_reverseValues := by decide +kernel
  have hn : n ≤ 64 := F.2.1
  refine lv_aload_n hx hb dX3_reverseValues_0 rfl (lv_at hl 0 rfl) ?_
  refine lv_iload_n hx hb dX3_reverseValues_1 rfl (lv_at hl 1 rfl) ?_
  refine lv_iload_n hx hb dX3_reverseValues_2 rfl (lv_at hl 2 rfl) ?_
  refine rd_call ⟨hx, hb, hml, hown, hts⟩ (c_X3_wrongPair l D cI cZ h st sl sv pt fsl fsv fpt many n G va mk F u v) (cwV 2 hts gX3_reverseValues_X3_wrongPair rfl rfl rfl (by decide +kernel) ⟨Nat.le_of_ble_eq_true rfl, Nat.le_of_ble_eq_true rfl⟩) hP hK rfl rfl rfl hl rfl (Nat.le_of_ble_eq_true rfl) dX3_reverseValues_3 ⟨Nat.zero_le _, Nat.zero_le _⟩ ?_
  refine lv_istore_n (lv' := [(3, .int (pE n G u v)), (0, .ref h), (1, .int u), (2, .int v)]) hx hb dX3_reverseValues_6 rfl hl (by decide) rfl (fun ls hl => ?_)
  refine lv_iload_n hx hb dX3_reverseValues_7 rfl (lv_at hl 0 rfl) ?_
  refine lv_if_eq (tgt := 13) hx hb dX3_reverseValues_8 (by decide) (fun c_8 => ?_) (fun c_8 => ?_)
  · skip
    obtain ⟨j, k, hj, hk, rfl, rfl, hro⟩ := pE_ok hn c_8
    have hLL : fo_pL G j k ≤ n := fo_pL_le F hro hj hk
    have hL1 : 1 ≤ fo_pL G j k := Nat.succ_le_succ (Nat.zero_le _)
    have hLL2 : fo_pL G j k ≤ 64 := Nat.le_trans hLL hn
    refine lv_aload_n hx hb dX3_reverseValues_13 rfl (lv_at hl 1 rfl) ?_
    refine lv_iload_n hx hb dX3_reverseValues_14 rfl (lv_at hl 2 rfl) ?_
    refine lv_iload_n hx hb dX3_reverseValues_15 rfl (lv_at hl 3 rfl) ?_
    refine wr_call (V1 := wM h st sl sv pt cI cZ (mst n G va mk) fsl fsv (fillI (fo_pL G j k) (fun t => nI (fo_pt G j k t)) fpt) (nI (fo_pL G j k))) ⟨hx, hb, hml, hown, hts⟩ (c_X3_layPath l D cI cZ h st sl sv pt fsl fsv fpt many n G va mk F j k hj hk hro) (cwV 2 hts gX3_reverseValues_X3_layPath rfl rfl rfl (by decide +kernel) ⟨Nat.le_of_ble_eq_true rfl, Nat.le_of_ble_eq_true rfl⟩) hP hK hD hS [0, 1, 2, 3, 4] [] [0, 1, 2, 3, 4] rfl rfl (by decide) rfl rfl rfl rfl rfl hl rfl (Nat.le_of_ble_eq_true rfl) dX3_reverseValues_16 ⟨Nat.zero_le _, Nat.zero_le _⟩ (fun H locs hP hD hS => ?_)
    refine lv_iconst (v := nI 0) hx hb dX3_reverseValues_19 (by decide) ?_
    refine lv_istore (lv' := [(4, .int (nI 0)), (3, .int (pE n G (nI j) (nI k))), (0, .ref h), (1, .int (nI j)), (2, .int (nI k))]) hx hb dX3_reverseValues_20 hl (by decide) rfl (fun ls hl => ?_)
    have L22 : ∀ (k22_ : Nat) (i : Nat), 2 * i ≤ fo_pL G j k → fo_pL G j k - i < k22_ → ∀ (H : Heap) (locs : List Loc), va_P D vwCl (wM h st sl sv pt cI cZ (mst n G (vRev va (fo_pt G j k) (fo_pL G j k) i) mk) fsl fsv (fillI (fo_pL G j k) (fun t => nI (fo_pt G j k t)) fpt) (nI (fo_pL G j k))) H → va_D (adr (wM h st sl sv pt cI cZ (mst n G va mk) fsl fsv fpt many)) (wM h st sl sv pt cI cZ (mst n G (vRev va (fo_pt G j k) (fo_pL G j k) i) mk) fsl fsv (fillI (fo_pL G j k) (fun t => nI (fo_pt G j k t)) fpt) (nI (fo_pL G j k))) → va_S (adr (wM h st sl sv pt cI cZ (mst n G va mk) fsl fsv fpt many)) s.heap H locs → ∀ ls, lv_has ls 8 [(0, .ref h), (4, .int (nI i))] → Ww0 p l e wsX3_reverseValues 5 114 s m [.ref h, .int (nI j), .int (nI k)] below meth c D (wM h st sl sv pt cI cZ (mst n G va mk) fsl fsv fpt many) (wM h st sl sv pt cI cZ (mst n G (gp n G (nI j) (nI k) (fun a b => vRev va (fo_pt G a b) (fo_pL G a b) (fo_pL G a b / 2)) va va) mk) fsl fsv (pvV n G fpt (nI j) (nI k)) (pvM n G many (nI j) (nI k))) (some (.int (gp n G (nI j) (nI k) (fun a b => nI (fo_pL G a b)) (-100000001) (-100000004)))) H locs (F0 m 22 ls []) := by
      intro k22_
      induction k22_ with
      | zero => intro i hi hk22_; exact absurd hk22_ (Nat.not_lt_zero _)
      | succ k22_ ih22 =>
        intro i hi hk22_ H locs hP hD hS ls hl
        refine lv_iload hx hb dX3_reverseValues_22 (lv_at hl 1 rfl) ?_
        refine lv_aload_n hx hb dX3_reverseValues_24 rfl (lv_at hl 0 rfl) ?_
        refine va_get (D := D) (ci := 3) (v := .int (nI (fo_pL G j k))) (C := RX3) (T := TX3) (N := 5) hx hb hts hin3 hown hK hP 0 rfl rfl 4 (by decide) hf62 (fun _ h9 => h9) rfl dX3_reverseValues_25 ?_
        refine lv_iconst (v := 2) hx hb dX3_reverseValues_28 (by decide) ?_
        refine lv_idiv hx hb dX3_reverseValues_29 (by decide) ?_
        rw [show nI (fo_pL G j k) / 2 = nI (fo_pL G j k / 2) from pk_div (d := 2) (by omega) (by decide) (by decide)]
        refine lv_icmp_ge (tgt := 100) hx hb dX3_reverseValues_30 (by decide) (fun c_30 => ?_) (fun c_30 => ?_)
        · skip
          have c_30 := cn_le (a := (fo_pL G j k / 2)) (b := i) (by omega) (by omega) c_30
          have en : i = fo_pL G j k / 2 := by omega
          rw [en] at hP
          refine lv_aload_n hx hb dX3_reverseValues_100 rfl (lv_at hl 0 rfl) ?_
          refine va_get (D := D) (ci := 3) (v := .int (nI (fo_pL G j k))) (C := RX3) (T := TX3) (N := 5) hx hb hts hin3 hown hK hP 0 rfl rfl 4 (by decide) hf62 (fun _ h9 => h9) rfl dX3_reverseValues_101 ?_
          have hP : va_P D vwCl (wM h st sl sv pt cI cZ (mst n G (gp n G (nI j) (nI k) (fun a b => vRev va (fo_pt G a b) (fo_pL G a b) (fo_pL G a b / 2)) va va) mk) fsl fsv (pvV n G fpt (nI j) (nI k)) (pvM n G many (nI j) (nI k))) H := by rw [pvV_t hj hk hn hro, pvM_t hj hk hn hro]; rw [gp_t hj hk hn hro]; exact hP
          exact wr_i hx hb hr hlocks hP hS (by rw [gp_t hj hk hn hro]) dX3_reverseValues_104
        · skip
          have c_30 := cn_nle (a := (fo_pL G j k / 2)) (b := i) (by omega) (by omega) c_30
          refine lv_aload_n hx hb dX3_reverseValues_33 rfl (lv_at hl 0 rfl) ?_
          refine va_get (D := D) (ci := 3) (v := .ref pt) (C := RX3) (T := TX3) (N := 5) hx hb hts hin3 hown hK hP 0 rfl rfl 3 (by decide) hf20 (fun _ h9 => h9) rfl dX3_reverseValues_34 ?_
          refine lv_iload hx hb dX3_reverseValues_37 (lv_at hl 1 rfl) ?_
          refine ar_i (tys := []) hx hb hK hP 4 rfl (k := i) (by omega) (by decide) dX3_reverseValues_39 ?_
          rw [fillI_lt _ _ (show i < fo_pL G j k by omega)]
          have hpi := fo_pt_lt F hj hk i
          refine lv_istore (lv' := [(5, .int (nI (fo_pt G j k i))), (0, .ref h), (4, .int (nI i))]) hx hb dX3_reverseValues_40 hl (by decide) rfl (fun ls hl => ?_)
          refine lv_aload_n hx hb dX3_reverseValues_42 rfl (lv_at hl 1 rfl) ?_
          refine va_get (D := D) (ci := 3) (v := .ref pt) (C := RX3) (T := TX3) (N := 5) hx hb hts hin3 hown hK hP 0 rfl rfl 3 (by decide) hf20 (fun _ h9 => h9) rfl dX3_reverseValues_43 ?_
          refine lv_aload_n hx hb dX3_reverseValues_46 rfl (lv_at hl 1 rfl) ?_
          refine va_get (D := D) (ci := 3) (v := .int (nI (fo_pL G j k))) (C := RX3) (T := TX3) (N := 5) hx hb hts hin3 hown hK hP 0 rfl rfl 4 (by decide) hf62 (fun _ h9 => h9) rfl dX3_reverseValues_47 ?_
          refine lv_iconst (v := 1) hx hb dX3_reverseValues_50 (by decide) ?_
          refine lv_isub hx hb dX3_reverseValues_51 ?_
          rw [show nI (fo_pL G j k) - 1 = nI (fo_pL G j k - 1) from pk_sub (b := 1) hL1]
          refine lv_iload hx hb dX3_reverseValues_52 (lv_at hl 2 rfl) ?_
          refine lv_isub hx hb dX3_reverseValues_54 ?_
          rw [show nI (fo_pL G j k - 1) - nI i = nI (fo_pL G j k - 1 - i) from pk_sub (by omega)]
          refine ar_i (tys := []) hx hb hK hP 4 rfl (k := (fo_pL G j k - 1 - i)) (by omega) (by decide) dX3_reverseValues_55 ?_
          rw [fillI_lt _ _ (show (fo_pL G j k - 1 - i) < fo_pL G j k by omega)]
          have hpi2 := fo_pt_lt F hj hk (fo_pL G j k - 1 - i)
          refine lv_istore (lv' := [(6, .int (nI (fo_pt G j k (fo_pL G j k - 1 - i)))), (5, .int (nI (fo_pt G j k i))), (0, .ref h), (4, .int (nI i))]) hx hb dX3_reverseValues_56 hl (by decide) rfl (fun ls hl => ?_)
          refine lv_aload_n hx hb dX3_reverseValues_58 rfl (lv_at hl 2 rfl) ?_
          refine lv_iload hx hb dX3_reverseValues_59 (lv_at hl 1 rfl) ?_
          refine rd_call ⟨hx, hb, hml, hown, hts⟩ (c_X3_valueOf l D cI cZ h st sl sv pt fsl fsv (fillI (fo_pL G j k) (fun t => nI (fo_pt G j k t)) fpt) (nI (fo_pL G j k)) n G (vRev va (fo_pt G j k) (fo_pL G j k) i) mk F (fo_pt G j k i) hpi) (cwV 1 hts gX3_reverseValues_X3_valueOf rfl rfl rfl (by decide +kernel) ⟨Nat.le_of_ble_eq_true rfl, Nat.le_of_ble_eq_true rfl⟩) hP hK rfl rfl rfl hl rfl (Nat.le_of_ble_eq_true rfl) dX3_reverseValues_61 ⟨Nat.zero_le _, Nat.zero_le _⟩ ?_
          refine lv_istore (lv' := [(7, .int ((vRev va (fo_pt G j k) (fo_pL G j k) i) (fo_pt G j k i))), (6, .int (nI (fo_pt G j k (fo_pL G j k - 1 - i)))), (5, .int (nI (fo_pt G j k i))), (0, .ref h), (4, .int (nI i))]) hx hb dX3_reverseValues_64 hl (by decide) rfl (fun ls hl => ?_)
          refine lv_aload_n hx hb dX3_reverseValues_66 rfl (lv_at hl 3 rfl) ?_
          refine va_get (D := D) (ci := 3) (v := .ref st) (C := RX3) (T := TX3) (N := 5) hx hb hts hin3 hown hK hP 0 rfl rfl 0 (by decide) hf7 (fun _ h9 => h9) rfl dX3_reverseValues_67 ?_
          refine lv_bipush (v := 65) hx hb dX3_reverseValues_70 (by decide) ?_
          refine lv_iload hx hb dX3_reverseValues_72 (lv_at hl 2 rfl) ?_
          refine lv_iadd hx hb dX3_reverseValues_74 ?_
          rw [show (65 + (nI (fo_pt G j k i)) : Int32) = nI (65 + (fo_pt G j k i)) from nI_add 65 (fo_pt G j k i)]
          refine lv_aload_n hx hb dX3_reverseValues_75 rfl (lv_at hl 3 rfl) ?_
          refine lv_iload hx hb dX3_reverseValues_76 (lv_at hl 1 rfl) ?_
          refine rd_call ⟨hx, hb, hml, hown, hts⟩ (c_X3_valueOf l D cI cZ h st sl sv pt fsl fsv (fillI (fo_pL G j k) (fun t => nI (fo_pt G j k t)) fpt) (nI (fo_pL G j k)) n G (vRev va (fo_pt G j k) (fo_pL G j k) i) mk F (fo_pt G j k (fo_pL G j k - 1 - i)) hpi2) (cwV 1 hts gX3_reverseValues_X3_valueOf rfl rfl rfl (by decide +kernel) ⟨Nat.le_of_ble_eq_true rfl, Nat.le_of_ble_eq_true rfl⟩) hP hK rfl rfl rfl hl rfl (Nat.le_of_ble_eq_true rfl) dX3_reverseValues_78 ⟨Nat.zero_le _, Nat.zero_le _⟩ ?_
          refine ar_is hx hb hK hP hD hS 1 rfl (k := (65 + (fo_pt G j k i))) (by omega) (by decide) dX3_reverseValues_81 (fun H locs hP hD hS => ?_)
          have hP : va_P D vwCl (wM h st sl sv pt cI cZ (upd (mst n G (vRev va (fo_pt G j k) (fo_pL G j k) i) mk) (65 + (fo_pt G j k i)) ((vRev va (fo_pt G j k) (fo_pL G j k) i) (fo_pt G j k (fo_pL G j k - 1 - i)))) fsl fsv (fillI (fo_pL G j k) (fun t => nI (fo_pt G j k t)) fpt) (nI (fo_pL G j k))) H := hP
          rw [mst_sv n G _ mk (by omega)] at hP
          have hD : va_D (adr (wM h st sl sv pt cI cZ (mst n G va mk) fsl fsv fpt many)) (wM h st sl sv pt cI cZ (mst n G (upd (vRev va (fo_pt G j k) (fo_pL G j k) i) (fo_pt G j k i) (vRev va (fo_pt G j k) (fo_pL G j k) i (fo_pt G j k (fo_pL G j k - 1 - i)))) mk) fsl fsv (fillI (fo_pL G j k) (fun t => nI (fo_pt G j k t)) fpt) (nI (fo_pL G j k))) := vd_same hD rfl
          refine lv_aload_n hx hb dX3_reverseValues_82 rfl (lv_at hl 3 rfl) ?_
          refine va_get (D := D) (ci := 3) (v := .ref st) (C := RX3) (T := TX3) (N := 5) hx hb hts hin3 hown hK hP 0 rfl rfl 0 (by decide) hf7 (fun _ h9 => h9) rfl dX3_reverseValues_83 ?_
          refine lv_bipush (v := 65) hx hb dX3_reverseValues_86 (by decide) ?_
          refine lv_iload hx hb dX3_reverseValues_88 (lv_at hl 1 rfl) ?_
          refine lv_iadd hx hb dX3_reverseValues_90 ?_
          rw [show (65 + (nI (fo_pt G j k (fo_pL G j k - 1 - i))) : Int32) = nI (65 + (fo_pt G j k (fo_pL G j k - 1 - i))) from nI_add 65 (fo_pt G j k (fo_pL G j k - 1 - i))]
          refine lv_iload hx hb dX3_reverseValues_91 (lv_at hl 0 rfl) ?_
          refine ar_is hx hb hK hP hD hS 1 rfl (k := (65 + (fo_pt G j k (fo_pL G j k - 1 - i)))) (by omega) (by decide) dX3_reverseValues_93 (fun H locs hP hD hS => ?_)
          have hP : va_P D vwCl (wM h st sl sv pt cI cZ (upd (mst n G (upd (vRev va (fo_pt G j k) (fo_pL G j k) i) (fo_pt G j k i) (vRev va (fo_pt G j k) (fo_pL G j k) i (fo_pt G j k (fo_pL G j k - 1 - i)))) mk) (65 + (fo_pt G j k (fo_pL G j k - 1 - i))) ((vRev va (fo_pt G j k) (fo_pL G j k) i) (fo_pt G j k i))) fsl fsv (fillI (fo_pL G j k) (fun t => nI (fo_pt G j k t)) fpt) (nI (fo_pL G j k))) H := hP
          rw [mst_sv n G _ mk (by omega)] at hP
          have hD : va_D (adr (wM h st sl sv pt cI cZ (mst n G va mk) fsl fsv fpt many)) (wM h st sl sv pt cI cZ (mst n G (vRev va (fo_pt G j k) (fo_pL G j k) (i + 1)) mk) fsl fsv (fillI (fo_pL G j k) (fun t => nI (fo_pt G j k t)) fpt) (nI (fo_pL G j k))) := vd_same hD rfl
          refine lv_iinc (v := nI (i + 1)) (lv' := [(4, .int (nI (i + 1))), (7, .int ((vRev va (fo_pt G j k) (fo_pL G j k) i) (fo_pt G j k i))), (6, .int (nI (fo_pt G j k (fo_pL G j k - 1 - i)))), (5, .int (nI (fo_pt G j k i))), (0, .ref h)]) hx hb dX3_reverseValues_94 hl (k := 4) rfl (nI_1 i) (by decide) rfl (fun ls hl => ?_)
          refine lv_goto (tgt := 22) hx hb dX3_reverseValues_97 (by decide) ?_
          exact ih22 (i + 1) (by omega) (by omega) _ _ hP hD hS ls (lv_sub hl [4, 0] rfl)
    exact L22 (fo_pL G j k - 0 + 1) 0 (by omega) (Nat.lt_succ_self _) _ _ hP hD hS ls (lv_sub hl [2, 0] rfl)
  · skip
    refine lv_iload_n hx hb dX3_reverseValues_11 rfl (lv_at hl 0 rfl) ?_
    have hP : va_P D vwCl (wM h st sl sv pt cI cZ (mst n G (gp n G u v (fun a b => vRev va (fo_pt G a b) (fo_pL G a b) (fo_pL G a b / 2)) va va) mk) fsl fsv (pvV n G fpt u v) (pvM n G many u v)) s.heap := by rw [pE_same hn c_8]; unfold pvV pvM; rw [pE_same hn c_8, pE_same hn c_8]; exact hP
    exact wr_i hx hb hr hlocks hP hS (pE_no hn c_8 _ _ _ _) dX3_reverseValues_12
set_option maxHeartbeats 4000000 in
set_option maxRecDepth 100000 in
theorem c_X3_save_0 (l : Launch) (D : va_G) (cI cZ : ClassId) (h : Nat) (st : Nat) (sl : Nat) (sv : Nat) (pt : Nat) (fsl : Nat → Int32) (fsv : Nat → Int32) (fpt : Nat → Int32) (many : Int32) (n : Nat) (G : Nat → Nat) (va : Nat → Int32) (mk : Nat → Bool) (F : fo_ok n G) : WrM l yX3_save wsX3_save 1 22 D cI cZ (wM h st sl sv pt cI cZ (mst n G va mk) fsl fsv fpt many) (wM h st sl sv pt cI cZ (mst n G va mk) (fillAt 0 193 (mst n G va mk) fsl) (upd fsv 0 1) fpt many) [.ref h, .int 0] (some (.int (nI n))) := by
  refine WrM.of (cc := cX3_save) (maxL := 3) (ret := (some .int)) (by decide) rfl (Nat.le_of_ble_eq_true rfl) ?_
  intro p e s m below meth c hx hb hr hml hown hts hlocks hP hK hD hS ls hl
  have hown : s.vm.findClass RX3 = some m.cls := hown
  have hl : lv_has ls 3 [(0, .ref h), (1, .int 0)] := hl
  have hP : va_P D vwCl (wM h st sl sv pt cI cZ (mst n G va mk) fsl fsv fpt many) s.heap := hP
  have hk43 := hts (.constant RX3 43 (-100000002)) (by decide +kernel)
  have hf13 := hts (.fieldLink RX3 13 "DynamicForestModel" "slots" "[I") (by decide +kernel)
  have hf7 := hts (.fieldLink RX3 7 "DynamicForestModel" "state" "[I") (by decide +kernel)
  have hf16 := hts (.fieldLink RX3 16 "DynamicForestModel" "isSaved" "[Z") (by decide +kernel)
  have hin3 : ∀ w ∈ u_ws RX3 TX3 5, w ∈ wsX3_save := by decide +kernel
  have hn : n ≤ 64 := F.2.1
  refine lv_iload_n hx hb dX3_save_0 rfl (lv_at hl 1 rfl) ?_
  refine lv_iconst (v := 0) hx hb dX3_save_1 (by decide) ?_
  refine lv_iconst (v := 1) hx hb dX3_save_2 (by decide) ?_
  refine rd_callS ⟨hx, hb, hml, hown, hts⟩ (c_X3_in l D cI cZ 0 0 1) (va_cwS 3 hts gX3_save_X3_in rfl rfl rfl (by decide +kernel) ⟨Nat.le_of_ble_eq_true rfl, Nat.le_of_ble_eq_true rfl⟩) hK rfl hl rfl (Nat.le_of_ble_eq_true rfl) dX3_save_3 ⟨Nat.zero_le _, Nat.zero_le _⟩ ?_
  refine lv_if_ne (tgt := 12) hx hb dX3_save_6 (by decide) (fun c_6 => ?_) (fun c_6 => ?_)
  · skip
    have c_6 := bI_1 c_6
    refine lv_iconst (v := nI 0) hx hb dX3_save_12 (by decide) ?_
    refine lv_istore_n (lv' := [(2, .int (nI 0)), (0, .ref h), (1, .int 0)]) hx hb dX3_save_13 rfl hl (by decide) rfl (fun ls hl => ?_)
    have L14 : ∀ (k14_ : Nat) (i : Nat), i ≤ 193 → 193 - i < k14_ → ∀ (H : Heap) (locs : List Loc), va_P D vwCl (wM h st sl sv pt cI cZ (mst n G va mk) (fillAt 0 i (mst n G va mk) fsl) fsv fpt many) H → va_D (adr (wM h st sl sv pt cI cZ (mst n G va mk) fsl fsv fpt many)) (wM h st sl sv pt cI cZ (mst n G va mk) (fillAt 0 i (mst n G va mk) fsl) fsv fpt many) → va_S (adr (wM h st sl sv pt cI cZ (mst n G va mk) fsl fsv fpt many)) s.heap H locs → ∀ ls, lv_has ls 3 [(0, .ref h), (1, .int 0), (2, .int (nI i))] → Ww0 p l e wsX3_save 1 22 s m [.ref h, .int 0] below meth c D (wM h st sl sv pt cI cZ (mst n G va mk) fsl fsv fpt many) (wM h st sl sv pt cI cZ (mst n G va mk) (fillAt 0 193 (mst n G va mk) fsl) (upd fsv 0 1) fpt many) (some (.int (nI n))) H locs (F0 m 14 ls []) := by
      intro k14_
      induction k14_ with
      | zero => intro i hi hk14_; exact absurd hk14_ (Nat.not_lt_zero _)
      | succ k14_ ih14 =>
        intro i hi hk14_ H locs hP hD hS ls hl
        refine lv_iload_n hx hb dX3_save_14 rfl (lv_at hl 2 rfl) ?_
        refine lv_sipush (v := 193) hx hb dX3_save_15 (by decide) ?_
        refine lv_icmp_ge (tgt := 45) hx hb dX3_save_18 (by decide) (fun c_18 => ?_) (fun c_18 => ?_)
        · skip
          have c_18 := cn_le (a := 193) (b := i) (by omega) (by omega) c_18
          have en : i = 193 := by omega
          rw [en] at hP
          have hD : va_D (adr (wM h st sl sv pt cI cZ (mst n G va mk) fsl fsv fpt many)) (wM h st sl sv pt cI cZ (mst n G va mk) (fillAt 0 193 (mst n G va mk) fsl) fsv fpt many) := vd_same hD rfl
          refine lv_aload_n hx hb dX3_save_45 rfl (lv_at hl 0 rfl) ?_
          refine va_get (D := D) (ci := 3) (v := .ref sv) (C := RX3) (T := TX3) (N := 5) hx hb hts hin3 hown hK hP 0 rfl rfl 2 (by decide) hf16 (fun _ h9 => h9) rfl dX3_save_46 ?_
          refine lv_iload_n hx hb dX3_save_49 rfl (lv_at hl 1 rfl) ?_
          refine lv_iconst (v := 1) hx hb dX3_save_50 (by decide) ?_
          refine ar_zs hx hb hK hP hD hS 3 rfl (k := 0) (by decide) (by decide) rfl dX3_save_51 (fun H locs hP hD hS => ?_)
          have hP : va_P D vwCl (wM h st sl sv pt cI cZ (mst n G va mk) (fillAt 0 193 (mst n G va mk) fsl) (upd fsv 0 1) fpt many) H := hP
          have hD : va_D (adr (wM h st sl sv pt cI cZ (mst n G va mk) fsl fsv fpt many)) (wM h st sl sv pt cI cZ (mst n G va mk) (fillAt 0 193 (mst n G va mk) fsl) (upd fsv 0 1) fpt many) := vd_same hD rfl
          refine lv_aload_n hx hb dX3_save_52 rfl (lv_at hl 0 rfl) ?_
          refine rd_call ⟨hx, hb, hml, hown, hts⟩ (c_X3_many l D cI cZ h st sl sv pt (fillAt 0 193 (mst n G va mk) fsl) (upd fsv 0 1) fpt many n G va mk F) (cwV 0 hts gX3_save_X3_many rfl rfl rfl (by decide +kernel) ⟨Nat.le_of_ble_eq_true rfl, Nat.le_of_ble_eq_true rfl⟩) hP hK rfl rfl rfl hl rfl (Nat.le_of_ble_eq_true rfl) dX3_save_53 ⟨Nat.zero_le _, Nat.zero_le _⟩ ?_
          exact wr_i hx hb hr hlocks hP hS rfl dX3_save_56
        · skip
          have c_18 := cn_nle (a := 193) (b := i) (by omega) (by omega) c_18
          refine lv_aload_n hx hb dX3_save_21 rfl (lv_at hl 0 rfl) ?_
          refine va_get (D := D) (ci := 3) (v := .ref sl) (C := RX3) (T := TX3) (N := 5) hx hb hts hin3 hown hK hP 0 rfl rfl 1 (by decide) hf13 (fun _ h9 => h9) rfl dX3_save_22 ?_
          refine lv_sipush (v := 193) hx hb dX3_save_25 (by decide) ?_
          refine lv_iload_n hx hb dX3_save_28 rfl (lv_at hl 1 rfl) ?_
          refine lv_imul hx hb dX3_save_29 ?_
          rw [show (193 : Int32) * 0 = nI 0 from by decide]
          refine lv_iload_n hx hb dX3_save_30 rfl (lv_at hl 2 rfl) ?_
          refine lv_iadd hx hb dX3_save_31 ?_
          rw [show ((nI 0) + (nI i) : Int32) = nI (0 + i) from nI_add 0 i]
          refine lv_aload_n hx hb dX3_save_32 rfl (lv_at hl 0 rfl) ?_
          refine va_get (D := D) (ci := 3) (v := .ref st) (C := RX3) (T := TX3) (N := 5) hx hb hts hin3 hown hK hP 0 rfl rfl 0 (by decide) hf7 (fun _ h9 => h9) rfl dX3_save_33 ?_
          refine lv_iload_n hx hb dX3_save_36 rfl (lv_at hl 2 rfl) ?_
          refine ar_i (tys := []) hx hb hK hP 1 rfl (k := i) (by omega) (by decide) dX3_save_37 ?_
          refine ar_is hx hb hK hP hD hS 2 rfl (k := (0 + i)) (by omega) (by decide) dX3_save_38 (fun H locs hP hD hS => ?_)
          have hP : va_P D vwCl (wM h st sl sv pt cI cZ (mst n G va mk) (upd (fillAt 0 i (mst n G va mk) fsl) (0 + i) ((mst n G va mk) i)) fsv fpt many) H := hP
          rw [fillAt_s] at hP
          have hD : va_D (adr (wM h st sl sv pt cI cZ (mst n G va mk) fsl fsv fpt many)) (wM h st sl sv pt cI cZ (mst n G va mk) (fillAt 0 (i + 1) (mst n G va mk) fsl) fsv fpt many) := vd_same hD rfl
          refine lv_iinc (v := nI (i + 1)) (lv' := [(2, .int (nI (i + 1))), (0, .ref h), (1, .int 0)]) hx hb dX3_save_39 hl (k := 2) rfl (nI_1 i) (by decide) rfl (fun ls hl => ?_)
          refine lv_goto (tgt := 14) hx hb dX3_save_42 (by decide) ?_
          exact ih14 (i + 1) (by omega) (by omega) _ _ hP hD hS ls (lv_sub hl [1, 2, 0] rfl)
    have hP : va_P D vwCl (wM h st sl sv pt cI cZ (mst n G va mk) (fillAt 0 0 (mst n G va mk) fsl) fsv fpt many) s.heap := by rw [fillAt_0]; exact hP
    have hD : va_D (adr (wM h st sl sv pt cI cZ (mst n G va mk) fsl fsv fpt many)) (wM h st sl sv pt cI cZ (mst n G va mk) (fillAt 0 0 (mst n G va mk) fsl) fsv fpt many) := vd_same hD rfl
    exact L14 (193 - 0 + 1) 0 (Nat.zero_le _) (Nat.lt_succ_self _) _ _ hP hD hS ls (lv_sub hl [1, 2, 0] rfl)
  · skip
    have c_6 := bI_0 c_6
    exact absurd c_6 (by decide)
set_option maxHeartbeats 4000000 in
set_option maxRecDepth 100000 in
theorem c_X3_save_1 (l : Launch) (D : va_G) (cI cZ : ClassId) (h : Nat) (st : Nat) (sl : Nat) (sv : Nat) (pt : Nat) (fsl : Nat → Int32) (fsv : Nat → Int32) (fpt : Nat → Int32) (many : Int32) (n : Nat) (G : Nat → Nat) (va : Nat → Int32) (mk : Nat → Bool) (F : fo_ok n G) : WrM l yX3_save wsX3_save 1 22 D cI cZ (wM h st sl sv pt cI cZ (mst n G va mk) fsl fsv fpt many) (wM h st sl sv pt cI cZ (mst n G va mk) (fillAt 193 193 (mst n G va mk) fsl) (upd fsv 1 1) fpt many) [.ref h, .int 1] (some (.int (nI n))) := by
  refine WrM.of (cc := cX3_save) (maxL := 3) (ret := (some .int)) (by decide) rfl (Nat.le_of_ble_eq_true rfl) ?_
  intro p e s m below meth c hx hb hr hml hown hts hlocks hP hK hD hS ls hl
  have hown : s.vm.findClass RX3 = some m.cls := hown
  have hl : lv_has ls 3 [(0, .ref h), (1, .int 1)] := hl
  have hP : va_P D vwCl (wM h st sl sv pt cI cZ (mst n G va mk) fsl fsv fpt many) s.heap := hP
  have hk43 := hts (.constant RX3 43 (-100000002)) (by decide +kernel)
  have hf13 := hts (.fieldLink RX3 13 "DynamicForestModel" "slots" "[I") (by decide +kernel)
  have hf7 := hts (.fieldLink RX3 7 "DynamicForestModel" "state" "[I") (by decide +kernel)
  have hf16 := hts (.fieldLink RX3 16 "DynamicForestModel" "isSaved" "[Z") (by decide +kernel)
  have hin3 : ∀ w ∈ u_ws RX3 TX3 5, w ∈ wsX3_save := by decide +kernel
  have hn : n ≤ 64 := F.2.1
  refine lv_iload_n hx hb dX3_save_0 rfl (lv_at hl 1 rfl) ?_
  refine lv_iconst (v := 0) hx hb dX3_save_1 (by decide) ?_
  refine lv_iconst (v := 1) hx hb dX3_save_2 (by decide) ?_
  refine rd_callS ⟨hx, hb, hml, hown, hts⟩ (c_X3_in l D cI cZ 1 0 1) (va_cwS 3 hts gX3_save_X3_in rfl rfl rfl (by decide +kernel) ⟨Nat.le_of_ble_eq_true rfl, Nat.le_of_ble_eq_true rfl⟩) hK rfl hl rfl (Nat.le_of_ble_eq_true rfl) dX3_save_3 ⟨Nat.zero_le _, Nat.zero_le _⟩ ?_
  refine lv_if_ne (tgt := 12) hx hb dX3_save_6 (by decide) (fun c_6 => ?_) (fun c_6 => ?_)
  · skip
    have c_6 := bI_1 c_6
    refine lv_iconst (v := nI 0) hx hb dX3_save_12 (by decide) ?_
    refine lv_istore_n (lv' := [(2, .int (nI 0)), (0, .ref h), (1, .int 1)]) hx hb dX3_save_13 rfl hl (by decide) rfl (fun ls hl => ?_)
    have L14 : ∀ (k14_ : Nat) (i : Nat), i ≤ 193 → 193 - i < k14_ → ∀ (H : Heap) (locs : List Loc), va_P D vwCl (wM h st sl sv pt cI cZ (mst n G va mk) (fillAt 193 i (mst n G va mk) fsl) fsv fpt many) H → va_D (adr (wM h st sl sv pt cI cZ (mst n G va mk) fsl fsv fpt many)) (wM h st sl sv pt cI cZ (mst n G va mk) (fillAt 193 i (mst n G va mk) fsl) fsv fpt many) → va_S (adr (wM h st sl sv pt cI cZ (mst n G va mk) fsl fsv fpt many)) s.heap H locs → ∀ ls, lv_has ls 3 [(0, .ref h), (1, .int 1), (2, .int (nI i))] → Ww0 p l e wsX3_save 1 22 s m [.ref h, .int 1] below meth c D (wM h st sl sv pt cI cZ (mst n G va mk) fsl fsv fpt many) (wM h st sl sv pt cI cZ (mst n G va mk) (fillAt 193 193 (mst n G va mk) fsl) (upd fsv 1 1) fpt many) (some (.int (nI n))) H locs (F0 m 14 ls []) := by
      intro k14_
      induction k14_ with
      | zero => intro i hi hk14_; exact absurd hk14_ (Nat.not_lt_zero _)
      | succ k14_ ih14 =>
        intro i hi hk14_ H locs hP hD hS ls hl
        refine lv_iload_n hx hb dX3_save_14 rfl (lv_at hl 2 rfl) ?_
        refine lv_sipush (v := 193) hx hb dX3_save_15 (by decide) ?_
        refine lv_icmp_ge (tgt := 45) hx hb dX3_save_18 (by decide) (fun c_18 => ?_) (fun c_18 => ?_)
        · skip
          have c_18 := cn_le (a := 193) (b := i) (by omega) (by omega) c_18
          have en : i = 193 := by omega
          rw [en] at hP
          have hD : va_D (adr (wM h st sl sv pt cI cZ (mst n G va mk) fsl fsv fpt many)) (wM h st sl sv pt cI cZ (mst n G va mk) (fillAt 193 193 (mst n G va mk) fsl) fsv fpt many) := vd_same hD rfl
          refine lv_aload_n hx hb dX3_save_45 rfl (lv_at hl 0 rfl) ?_
          refine va_get (D := D) (ci := 3) (v := .ref sv) (C := RX3) (T := TX3) (N := 5) hx hb hts hin3 hown hK hP 0 rfl rfl 2 (by decide) hf16 (fun _ h9 => h9) rfl dX3_save_46 ?_
          refine lv_iload_n hx hb dX3_save_49 rfl (lv_at hl 1 rfl) ?_
          refine lv_iconst (v := 1) hx hb dX3_save_50 (by decide) ?_
          refine ar_zs hx hb hK hP hD hS 3 rfl (k := 1) (by decide) (by decide) rfl dX3_save_51 (fun H locs hP hD hS => ?_)
          have hP : va_P D vwCl (wM h st sl sv pt cI cZ (mst n G va mk) (fillAt 193 193 (mst n G va mk) fsl) (upd fsv 1 1) fpt many) H := hP
          have hD : va_D (adr (wM h st sl sv pt cI cZ (mst n G va mk) fsl fsv fpt many)) (wM h st sl sv pt cI cZ (mst n G va mk) (fillAt 193 193 (mst n G va mk) fsl) (upd fsv 1 1) fpt many) := vd_same hD rfl
          refine lv_aload_n hx hb dX3_save_52 rfl (lv_at hl 0 rfl) ?_
          refine rd_call ⟨hx, hb, hml, hown, hts⟩ (c_X3_many l D cI cZ h st sl sv pt (fillAt 193 193 (mst n G va mk) fsl) (upd fsv 1 1) fpt many n G va mk F) (cwV 0 hts gX3_save_X3_many rfl rfl rfl (by decide +kernel) ⟨Nat.le_of_ble_eq_true rfl, Nat.le_of_ble_eq_true rfl⟩) hP hK rfl rfl rfl hl rfl (Nat.le_of_ble_eq_true rfl) dX3_save_53 ⟨Nat.zero_le _, Nat.zero_le _⟩ ?_
          exact wr_i hx hb hr hlocks hP hS rfl dX3_save_56
        · skip
          have c_18 := cn_nle (a := 193) (b := i) (by omega) (by omega) c_18
          refine lv_aload_n hx hb dX3_save_21 rfl (lv_at hl 0 rfl) ?_
          refine va_get (D := D) (ci := 3) (v := .ref sl) (C := RX3) (T := TX3) (N := 5) hx hb hts hin3 hown hK hP 0 rfl rfl 1 (by decide) hf13 (fun _ h9 => h9) rfl dX3_save_22 ?_
          refine lv_sipush (v := 193) hx hb dX3_save_25 (by decide) ?_
          refine lv_iload_n hx hb dX3_save_28 rfl (lv_at hl 1 rfl) ?_
          refine lv_imul hx hb dX3_save_29 ?_
          rw [show (193 : Int32) * 1 = nI 193 from by decide]
          refine lv_iload_n hx hb dX3_save_30 rfl (lv_at hl 2 rfl) ?_
          refine lv_iadd hx hb dX3_save_31 ?_
          rw [show ((nI 193) + (nI i) : Int32) = nI (193 + i) from nI_add 193 i]
          refine lv_aload_n hx hb dX3_save_32 rfl (lv_at hl 0 rfl) ?_
          refine va_get (D := D) (ci := 3) (v := .ref st) (C := RX3) (T := TX3) (N := 5) hx hb hts hin3 hown hK hP 0 rfl rfl 0 (by decide) hf7 (fun _ h9 => h9) rfl dX3_save_33 ?_
          refine lv_iload_n hx hb dX3_save_36 rfl (lv_at hl 2 rfl) ?_
          refine ar_i (tys := []) hx hb hK hP 1 rfl (k := i) (by omega) (by decide) dX3_save_37 ?_
          refine ar_is hx hb hK hP hD hS 2 rfl (k := (193 + i)) (by omega) (by decide) dX3_save_38 (fun H locs hP hD hS => ?_)
          have hP : va_P D vwCl (wM h st sl sv pt cI cZ (mst n G va mk) (upd (fillAt 193 i (mst n G va mk) fsl) (193 + i) ((mst n G va mk) i)) fsv fpt many) H := hP
          rw [fillAt_s] at hP
          have hD : va_D (adr (wM h st sl sv pt cI cZ (mst n G va mk) fsl fsv fpt many)) (wM h st sl sv pt cI cZ (mst n G va mk) (fillAt 193 (i + 1) (mst n G va mk) fsl) fsv fpt many) := vd_same hD rfl
          refine lv_iinc (v := nI (i + 1)) (lv' := [(2, .int (nI (i + 1))), (0, .ref h), (1, .int 1)]) hx hb dX3_save_39 hl (k := 2) rfl (nI_1 i) (by decide) rfl (fun ls hl => ?_)
          refine lv_goto (tgt := 14) hx hb dX3_save_42 (by decide) ?_
          exact ih14 (i + 1) (by omega) (by omega) _ _ hP hD hS ls (lv_sub hl [1, 2, 0] rfl)
    have hP : va_P D vwCl (wM h st sl sv pt cI cZ (mst n G va mk) (fillAt 193 0 (mst n G va mk) fsl) fsv fpt many) s.heap := by rw [fillAt_0]; exact hP
    have hD : va_D (adr (wM h st sl sv pt cI cZ (mst n G va mk) fsl fsv fpt many)) (wM h st sl sv pt cI cZ (mst n G va mk) (fillAt 193 0 (mst n G va mk) fsl) fsv fpt many) := vd_same hD rfl
    exact L14 (193 - 0 + 1) 0 (Nat.zero_le _) (Nat.lt_succ_self _) _ _ hP hD hS ls (lv_sub hl [1, 2, 0] rfl)
  · skip
    have c_6 := bI_0 c_6
    exact absurd c_6 (by decide)
set_option maxHeartbeats 4000000 in
set_option maxRecDepth 100000 in
theorem c_X3_save_b (l : Launch) (D : va_G) (cI cZ : ClassId) (h : Nat) (st : Nat) (sl : Nat) (sv : Nat) (pt : Nat) (fsl : Nat → Int32) (fsv : Nat → Int32) (fpt : Nat → Int32) (many : Int32) (n : Nat) (G : Nat → Nat) (va : Nat → Int32) (mk : Nat → Bool) (F : fo_ok n G) (x : Int32) (hx0 : isS x = false) : RdM l yX3_save wsX3_save 1 22 D cI cZ (wM h st sl sv pt cI cZ (mst n G va mk) fsl fsv fpt many) [.ref h, .int x] (-100000002) := by
  refine RdM.of (cc := cX3_save) (maxL := 3) (ret := (some .int)) (by decide) rfl (Nat.le_of_ble_eq_true rfl) ?_
  intro p e s m below meth c hx hb hr hml hown hts hlocks hP hK ls hl
  have hown : s.vm.findClass RX3 = some m.cls := hown
  have hl : lv_has ls 3 [(0, .ref h), (1, .int x)] := hl
  have hk43 := hts (.constant RX3 43 (-100000002)) (by decide +kernel)
  have hf13 := hts (.fieldLink RX3 13 "DynamicForestModel" "slots" "[I") (by decide +kernel)
  have hf7 := hts (.fieldLink RX3 7 "DynamicForestModel" "state" "[I") (by decide +kernel)
  have hf16 := hts (.fieldLink RX3 16 "DynamicForestModel" "isSaved" "[Z") (by decide +kernel)
  have hin3 : ∀ w ∈ u_ws RX3 TX3 5, w ∈ wsX3_save := by decide +kernel
  have hn : n ≤ 64 := F.2.1
  refine lv_iload_n hx hb dX3_save_0 rfl (lv_at hl 1 rfl) ?_
  refine lv_iconst (v := 0) hx hb dX3_save_1 (by decide) ?_
  refine lv_iconst (v := 1) hx hb dX3_save_2 (by decide) ?_
  refine rd_callS ⟨hx, hb, hml, hown, hts⟩ (c_X3_in l D cI cZ x 0 1) (va_cwS 3 hts gX3_save_X3_in rfl rfl rfl (by decide +kernel) ⟨Nat.le_of_ble_eq_true rfl, Nat.le_of_ble_eq_true rfl⟩) hK rfl hl rfl (Nat.le_of_ble_eq_true rfl) dX3_save_3 ⟨Nat.zero_le _, Nat.zero_le _⟩ ?_
  refine lv_if_ne (tgt := 12) hx hb dX3_save_6 (by decide) (fun c_6 => ?_) (fun c_6 => ?_)
  · skip
    have c_6 := bI_1 c_6
    rw [inB_S] at c_6; exact absurd c_6 (by rw [hx0]; decide)
  · skip
    have c_6 := bI_0 c_6
    refine lv_ldc (own := RX3) hx hb hown hk43 dX3_save_9 ?_
    exact rd_i hx hb hr hlocks rfl dX3_save_11
set_option maxHeartbeats 4000000 in
set_option maxRecDepth 100000 in
theorem c_X3_restore_b (l : Launch) (D : va_G) (cI cZ : ClassId) (h : Nat) (st : Nat) (sl : Nat) (sv : Nat) (pt : Nat) (fsl : Nat → Int32) (fsv : Nat → Int32) (fpt : Nat → Int32) (many : Int32) (n : Nat) (G : Nat → Nat) (va : Nat → Int32) (mk : Nat → Bool) (F : fo_ok n G) (x : Int32) (hx0 : isS x = false) : RdM l yX3_restore wsX3_restore 1 22 D cI cZ (wM h st sl sv pt cI cZ (mst n G va mk) fsl fsv fpt many) [.ref h, .int x] (-100000002) := by
  refine RdM.of (cc := cX3_restore) (maxL := 3) (ret := (some .int)) (by decide) rfl (Nat.le_of_ble_eq_true rfl) ?_
  intro p e s m below meth c hx hb hr hml hown hts hlocks hP hK ls hl
  have hown : s.vm.findClass RX3 = some m.cls := hown
  have hl : lv_has ls 3 [(0, .ref h), (1, .int x)] := hl
  have hk43 := hts (.constant RX3 43 (-100000002)) (by decide +kernel)
  have hf16 := hts (.fieldLink RX3 16 "DynamicForestModel" "isSaved" "[Z") (by decide +kernel)
  have hk92 := hts (.constant RX3 92 (-100000006)) (by decide +kernel)
  have hf7 := hts (.fieldLink RX3 7 "DynamicForestModel" "state" "[I") (by decide +kernel)
  have hf13 := hts (.fieldLink RX3 13 "DynamicForestModel" "slots" "[I") (by decide +kernel)
  have hin3 : ∀ w ∈ u_ws RX3 TX3 5, w ∈ wsX3_restore := by decide +kernel
  have hn : n ≤ 64 := F.2.1
  refine lv_iload_n hx hb dX3_restore_0 rfl (lv_at hl 1 rfl) ?_
  refine lv_iconst (v := 0) hx hb dX3_restore_1 (by decide) ?_
  refine lv_iconst (v := 1) hx hb dX3_restore_2 (by decide) ?_
  refine rd_callS ⟨hx, hb, hml, hown, hts⟩ (c_X3_in l D cI cZ x 0 1) (va_cwS 3 hts gX3_restore_X3_in rfl rfl rfl (by decide +kernel) ⟨Nat.le_of_ble_eq_true rfl, Nat.le_of_ble_eq_true rfl⟩) hK rfl hl rfl (Nat.le_of_ble_eq_true rfl) dX3_restore_3 ⟨Nat.zero_le _, Nat.zero_le _⟩ ?_
  refine lv_if_ne (tgt := 12) hx hb dX3_restore_6 (by decide) (fun c_6 => ?_) (fun c_6 => ?_)
  · skip
    have c_6 := bI_1 c_6
    rw [inB_S] at c_6; exact absurd c_6 (by rw [hx0]; decide)
  · skip
    have c_6 := bI_0 c_6
    refine lv_ldc (own := RX3) hx hb hown hk43 dX3_restore_9 ?_
    exact rd_i hx hb hr hlocks rfl dX3_restore_11
set_option maxHeartbeats 4000000 in
set_option maxRecDepth 100000 in
theorem c_X3_restore_0u (l : Launch) (D : va_G) (cI cZ : ClassId) (h : Nat) (st : Nat) (sl : Nat) (sv : Nat) (pt : Nat) (fsl : Nat → Int32) (fsv : Nat → Int32) (fpt : Nat → Int32) (many : Int32) (n : Nat) (G : Nat → Nat) (va : Nat → Int32) (mk : Nat → Bool) (F : fo_ok n G) (hfl : fsv 0 = bI false) : RdM l yX3_restore wsX3_restore 1 22 D cI cZ (wM h st sl sv pt cI cZ (mst n G va mk) fsl fsv fpt many) [.ref h, .int 0] (-100000006) := by
  refine RdM.of (cc := cX3_restore) (maxL := 3) (ret := (some .int)) (by decide) rfl (Nat.le_of_ble_eq_true rfl) ?_
  intro p e s m below meth c hx hb hr hml hown hts hlocks hP hK ls hl
  have hown : s.vm.findClass RX3 = some m.cls := hown
  have hl : lv_has ls 3 [(0, .ref h), (1, .int 0)] := hl
  have hk43 := hts (.constant RX3 43 (-100000002)) (by decide +kernel)
  have hf16 := hts (.fieldLink RX3 16 "DynamicForestModel" "isSaved" "[Z") (by decide +kernel)
  have hk92 := hts (.constant RX3 92 (-100000006)) (by decide +kernel)
  have hf7 := hts (.fieldLink RX3 7 "DynamicForestModel" "state" "[I") (by decide +kernel)
  have hf13 := hts (.fieldLink RX3 13 "DynamicForestModel" "slots" "[I") (by decide +kernel)
  have hin3 : ∀ w ∈ u_ws RX3 TX3 5, w ∈ wsX3_restore := by decide +kernel
  have hn : n ≤ 64 := F.2.1
  refine lv_iload_n hx hb dX3_restore_0 rfl (lv_at hl 1 rfl) ?_
  refine lv_iconst (v := 0) hx hb dX3_restore_1 (by decide) ?_
  refine lv_iconst (v := 1) hx hb dX3_restore_2 (by decide) ?_
  refine rd_callS ⟨hx, hb, hml, hown, hts⟩ (c_X3_in l D cI cZ 0 0 1) (va_cwS 3 hts gX3_restore_X3_in rfl rfl rfl (by decide +kernel) ⟨Nat.le_of_ble_eq_true rfl, Nat.le_of_ble_eq_true rfl⟩) hK rfl hl rfl (Nat.le_of_ble_eq_true rfl) dX3_restore_3 ⟨Nat.zero_le _, Nat.zero_le _⟩ ?_
  refine lv_if_ne (tgt := 12) hx hb dX3_restore_6 (by decide) (fun c_6 => ?_) (fun c_6 => ?_)
  · skip
    have c_6 := bI_1 c_6
    refine lv_aload_n hx hb dX3_restore_12 rfl (lv_at hl 0 rfl) ?_
    refine va_get (D := D) (ci := 3) (v := .ref sv) (C := RX3) (T := TX3) (N := 5) hx hb hts hin3 hown hK hP 0 rfl rfl 2 (by decide) hf16 (fun _ h9 => h9) rfl dX3_restore_13 ?_
    refine lv_iload_n hx hb dX3_restore_16 rfl (lv_at hl 1 rfl) ?_
    refine ar_z hx hb hK hP 3 rfl (k := 0) (by decide) (by decide) dX3_restore_17 ?_
    rw [hfl]
    refine lv_if_ne (tgt := 24) hx hb dX3_restore_18 (by decide) (fun c_18 => ?_) (fun c_18 => ?_)
    · skip
      have c_18 := bI_1 c_18
      exact absurd c_18 (by decide)
    · skip
      have c_18 := bI_0 c_18
      refine lv_ldc (own := RX3) hx hb hown hk92 dX3_restore_21 ?_
      exact rd_i hx hb hr hlocks rfl dX3_restore_23
  · skip
    have c_6 := bI_0 c_6
    exact absurd c_6 (by decide)
set_option maxHeartbeats 4000000 in
set_option maxRecDepth 100000 in
theorem c_X3_restore_0s (l : Launch) (D : va_G) (cI cZ : ClassId) (h : Nat) (st : Nat) (sl : Nat) (sv : Nat) (pt : Nat) (fsl : Nat → Int32) (fsv : Nat → Int32) (fpt : Nat → Int32) (many : Int32) (n : Nat) (G : Nat → Nat) (va : Nat → Int32) (mk : Nat → Bool) (F : fo_ok n G) (n1 : Nat) (G1 : Nat → Nat) (va1 : Nat → Int32) (mk1 : Nat → Bool) (F1 : fo_ok n1 G1) (hfl : fsv 0 = bI true) (hsl : ∀ t, t < 193 → fsl (0 + t) = mst n1 G1 va1 mk1 t) : WrM l yX3_restore wsX3_restore 1 22 D cI cZ (wM h st sl sv pt cI cZ (mst n G va mk) fsl fsv fpt many) (wM h st sl sv pt cI cZ (mst n1 G1 va1 mk1) fsl fsv fpt many) [.ref h, .int 0] (some (.int (nI n1))) := by
  refine WrM.of (cc := cX3_restore) (maxL := 3) (ret := (some .int)) (by decide) rfl (Nat.le_of_ble_eq_true rfl) ?_
  intro p e s m below meth c hx hb hr hml hown hts hlocks hP hK hD hS ls hl
  have hown : s.vm.findClass RX3 = some m.cls := hown
  have hl : lv_has ls 3 [(0, .ref h), (1, .int 0)] := hl
  have hP : va_P D vwCl (wM h st sl sv pt cI cZ (mst n G va mk) fsl fsv fpt many) s.heap := hP
  have hk43 := hts (.constant RX3 43 (-100000002)) (by decide +kernel)
  have hf16 := hts (.fieldLink RX3 16 "DynamicForestModel" "isSaved" "[Z") (by decide +kernel)
  have hk92 := hts (.constant RX3 92 (-100000006)) (by decide +kernel)
  have hf7 := hts (.fieldLink RX3 7 "DynamicForestModel" "state" "[I") (by decide +kernel)
  have hf13 := hts (.fieldLink RX3 13 "DynamicForestModel" "slots" "[I") (by decide +kernel)
  have hin3 : ∀ w ∈ u_ws RX3 TX3 5, w ∈ wsX3_restore := by decide +kernel
  have hn : n ≤ 64 := F.2.1
  refine lv_iload_n hx hb dX3_restore_0 rfl (lv_at hl 1 rfl) ?_
  refine lv_iconst (v := 0) hx hb dX3_restore_1 (by decide) ?_
  refine lv_iconst (v := 1) hx hb dX3_restore_2 (by decide) ?_
  refine rd_callS ⟨hx, hb, hml, hown, hts⟩ (c_X3_in l D cI cZ 0 0 1) (va_cwS 3 hts gX3_restore_X3_in rfl rfl rfl (by decide +kernel) ⟨Nat.le_of_ble_eq_true rfl, Nat.le_of_ble_eq_true rfl⟩) hK rfl hl rfl (Nat.le_of_ble_eq_true rfl) dX3_restore_3 ⟨Nat.zero_le _, Nat.zero_le _⟩ ?_
  refine lv_if_ne (tgt := 12) hx hb dX3_restore_6 (by decide) (fun c_6 => ?_) (fun c_6 => ?_)
  · skip
    have c_6 := bI_1 c_6
    refine lv_aload_n hx hb dX3_restore_12 rfl (lv_at hl 0 rfl) ?_
    refine va_get (D := D) (ci := 3) (v := .ref sv) (C := RX3) (T := TX3) (N := 5) hx hb hts hin3 hown hK hP 0 rfl rfl 2 (by decide) hf16 (fun _ h9 => h9) rfl dX3_restore_13 ?_
    refine lv_iload_n hx hb dX3_restore_16 rfl (lv_at hl 1 rfl) ?_
    refine ar_z hx hb hK hP 3 rfl (k := 0) (by decide) (by decide) dX3_restore_17 ?_
    rw [hfl]
    refine lv_if_ne (tgt := 24) hx hb dX3_restore_18 (by decide) (fun c_18 => ?_) (fun c_18 => ?_)
    · skip
      have c_18 := bI_1 c_18
      refine lv_iconst (v := nI 0) hx hb dX3_restore_24 (by decide) ?_
      refine lv_istore_n (lv' := [(2, .int (nI 0)), (0, .ref h), (1, .int 0)]) hx hb dX3_restore_25 rfl hl (by decide) rfl (fun ls hl => ?_)
      have L26 : ∀ (k26_ : Nat) (i : Nat), i ≤ 193 → 193 - i < k26_ → ∀ (H : Heap) (locs : List Loc), va_P D vwCl (wM h st sl sv pt cI cZ (fillAt 0 i (fun t => fsl (0 + t)) (mst n G va mk)) fsl fsv fpt many) H → va_D (adr (wM h st sl sv pt cI cZ (mst n G va mk) fsl fsv fpt many)) (wM h st sl sv pt cI cZ (fillAt 0 i (fun t => fsl (0 + t)) (mst n G va mk)) fsl fsv fpt many) → va_S (adr (wM h st sl sv pt cI cZ (mst n G va mk) fsl fsv fpt many)) s.heap H locs → ∀ ls, lv_has ls 3 [(0, .ref h), (1, .int 0), (2, .int (nI i))] → Ww0 p l e wsX3_restore 1 22 s m [.ref h, .int 0] below meth c D (wM h st sl sv pt cI cZ (mst n G va mk) fsl fsv fpt many) (wM h st sl sv pt cI cZ (mst n1 G1 va1 mk1) fsl fsv fpt many) (some (.int (nI n1))) H locs (F0 m 26 ls []) := by
        intro k26_
        induction k26_ with
        | zero => intro i hi hk26_; exact absurd hk26_ (Nat.not_lt_zero _)
        | succ k26_ ih26 =>
          intro i hi hk26_ H locs hP hD hS ls hl
          refine lv_iload_n hx hb dX3_restore_26 rfl (lv_at hl 2 rfl) ?_
          refine lv_sipush (v := 193) hx hb dX3_restore_27 (by decide) ?_
          refine lv_icmp_ge (tgt := 57) hx hb dX3_restore_30 (by decide) (fun c_30 => ?_) (fun c_30 => ?_)
          · skip
            have c_30 := cn_le (a := 193) (b := i) (by omega) (by omega) c_30
            have en : i = 193 := by omega
            rw [en] at hP
            have hP := ar_sw (g := mst n1 G1 va1 mk1) hP 1 rfl (fun j h => by unfold fillAt; rw [if_pos (by omega)]; exact hsl j h)
            have hP : va_P D vwCl (wM h st sl sv pt cI cZ (mst n1 G1 va1 mk1) fsl fsv fpt many) H := hP
            have hD : va_D (adr (wM h st sl sv pt cI cZ (mst n G va mk) fsl fsv fpt many)) (wM h st sl sv pt cI cZ (mst n1 G1 va1 mk1) fsl fsv fpt many) := vd_same hD rfl
            refine lv_aload_n hx hb dX3_restore_57 rfl (lv_at hl 0 rfl) ?_
            refine rd_call ⟨hx, hb, hml, hown, hts⟩ (c_X3_many l D cI cZ h st sl sv pt fsl fsv fpt many n1 G1 va1 mk1 F1) (cwV 0 hts gX3_restore_X3_many rfl rfl rfl (by decide +kernel) ⟨Nat.le_of_ble_eq_true rfl, Nat.le_of_ble_eq_true rfl⟩) hP hK rfl rfl rfl hl rfl (Nat.le_of_ble_eq_true rfl) dX3_restore_58 ⟨Nat.zero_le _, Nat.zero_le _⟩ ?_
            exact wr_i hx hb hr hlocks hP hS rfl dX3_restore_61
          · skip
            have c_30 := cn_nle (a := 193) (b := i) (by omega) (by omega) c_30
            refine lv_aload_n hx hb dX3_restore_33 rfl (lv_at hl 0 rfl) ?_
            refine va_get (D := D) (ci := 3) (v := .ref st) (C := RX3) (T := TX3) (N := 5) hx hb hts hin3 hown hK hP 0 rfl rfl 0 (by decide) hf7 (fun _ h9 => h9) rfl dX3_restore_34 ?_
            refine lv_iload_n hx hb dX3_restore_37 rfl (lv_at hl 2 rfl) ?_
            refine lv_aload_n hx hb dX3_restore_38 rfl (lv_at hl 0 rfl) ?_
            refine va_get (D := D) (ci := 3) (v := .ref sl) (C := RX3) (T := TX3) (N := 5) hx hb hts hin3 hown hK hP 0 rfl rfl 1 (by decide) hf13 (fun _ h9 => h9) rfl dX3_restore_39 ?_
            refine lv_sipush (v := 193) hx hb dX3_restore_42 (by decide) ?_
            refine lv_iload_n hx hb dX3_restore_45 rfl (lv_at hl 1 rfl) ?_
            refine lv_imul hx hb dX3_restore_46 ?_
            rw [show (193 : Int32) * 0 = nI 0 from by decide]
            refine lv_iload_n hx hb dX3_restore_47 rfl (lv_at hl 2 rfl) ?_
            refine lv_iadd hx hb dX3_restore_48 ?_
            rw [show ((nI 0) + (nI i) : Int32) = nI (0 + i) from nI_add 0 i]
            refine ar_i (tys := []) hx hb hK hP 2 rfl (k := (0 + i)) (by omega) (by decide) dX3_restore_49 ?_
            refine ar_is hx hb hK hP hD hS 1 rfl (k := i) (by omega) (by decide) dX3_restore_50 (fun H locs hP hD hS => ?_)
            have hP : va_P D vwCl (wM h st sl sv pt cI cZ (upd (fillAt 0 i (fun t => fsl (0 + t)) (mst n G va mk)) i (fsl (0 + i))) fsl fsv fpt many) H := hP
            have hP : va_P D vwCl (wM h st sl sv pt cI cZ (fillAt 0 (i + 1) (fun t => fsl (0 + t)) (mst n G va mk)) fsl fsv fpt many) H := by rw [← fillAt_s0]; exact hP
            have hD : va_D (adr (wM h st sl sv pt cI cZ (mst n G va mk) fsl fsv fpt many)) (wM h st sl sv pt cI cZ (fillAt 0 (i + 1) (fun t => fsl (0 + t)) (mst n G va mk)) fsl fsv fpt many) := vd_same hD rfl
            refine lv_iinc (v := nI (i + 1)) (lv' := [(2, .int (nI (i + 1))), (0, .ref h), (1, .int 0)]) hx hb dX3_restore_51 hl (k := 2) rfl (nI_1 i) (by decide) rfl (fun ls hl => ?_)
            refine lv_goto (tgt := 26) hx hb dX3_restore_54 (by decide) ?_
            exact ih26 (i + 1) (by omega) (by omega) _ _ hP hD hS ls (lv_sub hl [1, 2, 0] rfl)
      have hP : va_P D vwCl (wM h st sl sv pt cI cZ (fillAt 0 0 (fun t => fsl (0 + t)) (mst n G va mk)) fsl fsv fpt many) s.heap := by rw [fillAt_0]; exact hP
      have hD : va_D (adr (wM h st sl sv pt cI cZ (mst n G va mk) fsl fsv fpt many)) (wM h st sl sv pt cI cZ (fillAt 0 0 (fun t => fsl (0 + t)) (mst n G va mk)) fsl fsv fpt many) := vd_same hD rfl
      exact L26 (193 - 0 + 1) 0 (Nat.zero_le _) (Nat.lt_succ_self _) _ _ hP hD hS ls (lv_sub hl [1, 2, 0] rfl)
    · skip
      have c_18 := bI_0 c_18
      exact absurd c_18 (by decide)
  · skip
    have c_6 := bI_0 c_6
    exact absurd c_6 (by decide)
set_option maxHeartbeats 4000000 in
set_option maxRecDepth 100000 in
theorem c_X3_restore_1u (l : Launch) (D : va_G) (cI cZ : ClassId) (h : Nat) (st : Nat) (sl : Nat) (sv : Nat) (pt : Nat) (fsl : Nat → Int32) (fsv : Nat → Int32) (fpt : Nat → Int32) (many : Int32) (n : Nat) (G : Nat → Nat) (va : Nat → Int32) (mk : Nat → Bool) (F : fo_ok n G) (hfl : fsv 1 = bI false) : RdM l yX3_restore wsX3_restore 1 22 D cI cZ (wM h st sl sv pt cI cZ (mst n G va mk) fsl fsv fpt many) [.ref h, .int 1] (-100000006) := by
  refine RdM.of (cc := cX3_restore) (maxL := 3) (ret := (some .int)) (by decide) rfl (Nat.le_of_ble_eq_true rfl) ?_
  intro p e s m below meth c hx hb hr hml hown hts hlocks hP hK ls hl
  have hown : s.vm.findClass RX3 = some m.cls := hown
  have hl : lv_has ls 3 [(0, .ref h), (1, .int 1)] := hl
  have hk43 := hts (.constant RX3 43 (-100000002)) (by decide +kernel)
  have hf16 := hts (.fieldLink RX3 16 "DynamicForestModel" "isSaved" "[Z") (by decide +kernel)
  have hk92 := hts (.constant RX3 92 (-100000006)) (by decide +kernel)
  have hf7 := hts (.fieldLink RX3 7 "DynamicForestModel" "state" "[I") (by decide +kernel)
  have hf13 := hts (.fieldLink RX3 13 "DynamicForestModel" "slots" "[I") (by decide +kernel)
  have hin3 : ∀ w ∈ u_ws RX3 TX3 5, w ∈ wsX3_restore := by decide +kernel
  have hn : n ≤ 64 := F.2.1
  refine lv_iload_n hx hb dX3_restore_0 rfl (lv_at hl 1 rfl) ?_
  refine lv_iconst (v := 0) hx hb dX3_restore_1 (by decide) ?_
  refine lv_iconst (v := 1) hx hb dX3_restore_2 (by decide) ?_
  refine rd_callS ⟨hx, hb, hml, hown, hts⟩ (c_X3_in l D cI cZ 1 0 1) (va_cwS 3 hts gX3_restore_X3_in rfl rfl rfl (by decide +kernel) ⟨Nat.le_of_ble_eq_true rfl, Nat.le_of_ble_eq_true rfl⟩) hK rfl hl rfl (Nat.le_of_ble_eq_true rfl) dX3_restore_3 ⟨Nat.zero_le _, Nat.zero_le _⟩ ?_
  refine lv_if_ne (tgt := 12) hx hb dX3_restore_6 (by decide) (fun c_6 => ?_) (fun c_6 => ?_)
  · skip
    have c_6 := bI_1 c_6
    refine lv_aload_n hx hb dX3_restore_12 rfl (lv_at hl 0 rfl) ?_
    refine va_get (D := D) (ci := 3) (v := .ref sv) (C := RX3) (T := TX3) (N := 5) hx hb hts hin3 hown hK hP 0 rfl rfl 2 (by decide) hf16 (fun _ h9 => h9) rfl dX3_restore_13 ?_
    refine lv_iload_n hx hb dX3_restore_16 rfl (lv_at hl 1 rfl) ?_
    refine ar_z hx hb hK hP 3 rfl (k := 1) (by decide) (by decide) dX3_restore_17 ?_
    rw [hfl]
    refine lv_if_ne (tgt := 24) hx hb dX3_restore_18 (by decide) (fun c_18 => ?_) (fun c_18 => ?_)
    · skip
      have c_18 := bI_1 c_18
      exact absurd c_18 (by decide)
    · skip
      have c_18 := bI_0 c_18
      refine lv_ldc (own := RX3) hx hb hown hk92 dX3_restore_21 ?_
      exact rd_i hx hb hr hlocks rfl dX3_restore_23
  · skip
    have c_6 := bI_0 c_6
    exact absurd c_6 (by decide)
set_option maxHeartbeats 4000000 in
set_option maxRecDepth 100000 in
theorem c_X3_restore_1s (l : Launch) (D : va_G) (cI cZ : ClassId) (h : Nat) (st : Nat) (sl : Nat) (sv : Nat) (pt : Nat) (fsl : Nat → Int32) (fsv : Nat → Int32) (fpt : Nat → Int32) (many : Int32) (n : Nat) (G : Nat → Nat) (va : Nat → Int32) (mk : Nat → Bool) (F : fo_ok n G) (n1 : Nat) (G1 : Nat → Nat) (va1 : Nat → Int32) (mk1 : Nat → Bool) (F1 : fo_ok n1 G1) (hfl : fsv 1 = bI true) (hsl : ∀ t, t < 193 → fsl (193 + t) = mst n1 G1 va1 mk1 t) : WrM l yX3_restore wsX3_restore 1 22 D cI cZ (wM h st sl sv pt cI cZ (mst n G va mk) fsl fsv fpt many) (wM h st sl sv pt cI cZ (mst n1 G1 va1 mk1) fsl fsv fpt many) [.ref h, .int 1] (some (.int (nI n1))) := by
  refine WrM.of (cc := cX3_restore) (maxL := 3) (ret := (some .int)) (by decide) rfl (Nat.le_of_ble_eq_true rfl) ?_
  intro p e s m below meth c hx hb hr hml hown hts hlocks hP hK hD hS ls hl
  have hown : s.vm.findClass RX3 = some m.cls := hown
  have hl : lv_has ls 3 [(0, .ref h), (1, .int 1)] := hl
  have hP : va_P D vwCl (wM h st sl sv pt cI cZ (mst n G va mk) fsl fsv fpt many) s.heap := hP
  have hk43 := hts (.constant RX3 43 (-100000002)) (by decide +kernel)
  have hf16 := hts (.fieldLink RX3 16 "DynamicForestModel" "isSaved" "[Z") (by decide +kernel)
  have hk92 := hts (.constant RX3 92 (-100000006)) (by decide +kernel)
  have hf7 := hts (.fieldLink RX3 7 "DynamicForestModel" "state" "[I") (by decide +kernel)
  have hf13 := hts (.fieldLink RX3 13 "DynamicForestModel" "slots" "[I") (by decide +kernel)
  have hin3 : ∀ w ∈ u_ws RX3 TX3 5, w ∈ wsX3_restore := by decide +kernel
  have hn : n ≤ 64 := F.2.1
  refine lv_iload_n hx hb dX3_restore_0 rfl (lv_at hl 1 rfl) ?_
  refine lv_iconst (v := 0) hx hb dX3_restore_1 (by decide) ?_
  refine lv_iconst (v := 1) hx hb dX3_restore_2 (by decide) ?_
  refine rd_callS ⟨hx, hb, hml, hown, hts⟩ (c_X3_in l D cI cZ 1 0 1) (va_cwS 3 hts gX3_restore_X3_in rfl rfl rfl (by decide +kernel) ⟨Nat.le_of_ble_eq_true rfl, Nat.le_of_ble_eq_true rfl⟩) hK rfl hl rfl (Nat.le_of_ble_eq_true rfl) dX3_restore_3 ⟨Nat.zero_le _, Nat.zero_le _⟩ ?_
  refine lv_if_ne (tgt := 12) hx hb dX3_restore_6 (by decide) (fun c_6 => ?_) (fun c_6 => ?_)
  · skip
    have c_6 := bI_1 c_6
    refine lv_aload_n hx hb dX3_restore_12 rfl (lv_at hl 0 rfl) ?_
    refine va_get (D := D) (ci := 3) (v := .ref sv) (C := RX3) (T := TX3) (N := 5) hx hb hts hin3 hown hK hP 0 rfl rfl 2 (by decide) hf16 (fun _ h9 => h9) rfl dX3_restore_13 ?_
    refine lv_iload_n hx hb dX3_restore_16 rfl (lv_at hl 1 rfl) ?_
    refine ar_z hx hb hK hP 3 rfl (k := 1) (by decide) (by decide) dX3_restore_17 ?_
    rw [hfl]
    refine lv_if_ne (tgt := 24) hx hb dX3_restore_18 (by decide) (fun c_18 => ?_) (fun c_18 => ?_)
    · skip
      have c_18 := bI_1 c_18
      refine lv_iconst (v := nI 0) hx hb dX3_restore_24 (by decide) ?_
      refine lv_istore_n (lv' := [(2, .int (nI 0)), (0, .ref h), (1, .int 1)]) hx hb dX3_restore_25 rfl hl (by decide) rfl (fun ls hl => ?_)
      have L26 : ∀ (k26_ : Nat) (i : Nat), i ≤ 193 → 193 - i < k26_ → ∀ (H : Heap) (locs : List Loc), va_P D vwCl (wM h st sl sv pt cI cZ (fillAt 0 i (fun t => fsl (193 + t)) (mst n G va mk)) fsl fsv fpt many) H → va_D (adr (wM h st sl sv pt cI cZ (mst n G va mk) fsl fsv fpt many)) (wM h st sl sv pt cI cZ (fillAt 0 i (fun t => fsl (193 + t)) (mst n G va mk)) fsl fsv fpt many) → va_S (adr (wM h st sl sv pt cI cZ (mst n G va mk) fsl fsv fpt many)) s.heap H locs → ∀ ls, lv_has ls 3 [(0, .ref h), (1, .int 1), (2, .int (nI i))] → Ww0 p l e wsX3_restore 1 22 s m [.ref h, .int 1] below meth c D (wM h st sl sv pt cI cZ (mst n G va mk) fsl fsv fpt many) (wM h st sl sv pt cI cZ (mst n1 G1 va1 mk1) fsl fsv fpt many) (some (.int (nI n1))) H locs (F0 m 26 ls []) := by
        intro k26_
        induction k26_ with
        | zero => intro i hi hk26_; exact absurd hk26_ (Nat.not_lt_zero _)
        | succ k26_ ih26 =>
          intro i hi hk26_ H locs hP hD hS ls hl
          refine lv_iload_n hx hb dX3_restore_26 rfl (lv_at hl 2 rfl) ?_
          refine lv_sipush (v := 193) hx hb dX3_restore_27 (by decide) ?_
          refine lv_icmp_ge (tgt := 57) hx hb dX3_restore_30 (by decide) (fun c_30 => ?_) (fun c_30 => ?_)
          · skip
            have c_30 := cn_le (a := 193) (b := i) (by omega) (by omega) c_30
            have en : i = 193 := by omega
            rw [en] at hP
            have hP := ar_sw (g := mst n1 G1 va1 mk1) hP 1 rfl (fun j h => by unfold fillAt; rw [if_pos (by omega)]; exact hsl j h)
            have hP : va_P D vwCl (wM h st sl sv pt cI cZ (mst n1 G1 va1 mk1) fsl fsv fpt many) H := hP
            have hD : va_D (adr (wM h st sl sv pt cI cZ (mst n G va mk) fsl fsv fpt many)) (wM h st sl sv pt cI cZ (mst n1 G1 va1 mk1) fsl fsv fpt many) := vd_same hD rfl
            refine lv_aload_n hx hb dX3_restore_57 rfl (lv_at hl 0 rfl) ?_
            refine rd_call ⟨hx, hb, hml, hown, hts⟩ (c_X3_many l D cI cZ h st sl sv pt fsl fsv fpt many n1 G1 va1 mk1 F1) (cwV 0 hts gX3_restore_X3_many rfl rfl rfl (by decide +kernel) ⟨Nat.le_of_ble_eq_true rfl, Nat.le_of_ble_eq_true rfl⟩) hP hK rfl rfl rfl hl rfl (Nat.le_of_ble_eq_true rfl) dX3_restore_58 ⟨Nat.zero_le _, Nat.zero_le _⟩ ?_
            exact wr_i hx hb hr hlocks hP hS rfl dX3_restore_61
          · skip
            have c_30 := cn_nle (a := 193) (b := i) (by omega) (by omega) c_30
            refine lv_aload_n hx hb dX3_restore_33 rfl (lv_at hl 0 rfl) ?_
            refine va_get (D := D) (ci := 3) (v := .ref st) (C := RX3) (T := TX3) (N := 5) hx hb hts hin3 hown hK hP 0 rfl rfl 0 (by decide) hf7 (fun _ h9 => h9) rfl dX3_restore_34 ?_
            refine lv_iload_n hx hb dX3_restore_37 rfl (lv_at hl 2 rfl) ?_
            refine lv_aload_n hx hb dX3_restore_38 rfl (lv_at hl 0 rfl) ?_
            refine va_get (D := D) (ci := 3) (v := .ref sl) (C := RX3) (T := TX3) (N := 5) hx hb hts hin3 hown hK hP 0 rfl rfl 1 (by decide) hf13 (fun _ h9 => h9) rfl dX3_restore_39 ?_
            refine lv_sipush (v := 193) hx hb dX3_restore_42 (by decide) ?_
            refine lv_iload_n hx hb dX3_restore_45 rfl (lv_at hl 1 rfl) ?_
            refine lv_imul hx hb dX3_restore_46 ?_
            rw [show (193 : Int32) * 1 = nI 193 from by decide]
            refine lv_iload_n hx hb dX3_restore_47 rfl (lv_at hl 2 rfl) ?_
            refine lv_iadd hx hb dX3_restore_48 ?_
            rw [show ((nI 193) + (nI i) : Int32) = nI (193 + i) from nI_add 193 i]
            refine ar_i (tys := []) hx hb hK hP 2 rfl (k := (193 + i)) (by omega) (by decide) dX3_restore_49 ?_
            refine ar_is hx hb hK hP hD hS 1 rfl (k := i) (by omega) (by decide) dX3_restore_50 (fun H locs hP hD hS => ?_)
            have hP : va_P D vwCl (wM h st sl sv pt cI cZ (upd (fillAt 0 i (fun t => fsl (193 + t)) (mst n G va mk)) i (fsl (193 + i))) fsl fsv fpt many) H := hP
            have hP : va_P D vwCl (wM h st sl sv pt cI cZ (fillAt 0 (i + 1) (fun t => fsl (193 + t)) (mst n G va mk)) fsl fsv fpt many) H := by rw [← fillAt_s0]; exact hP
            have hD : va_D (adr (wM h st sl sv pt cI cZ (mst n G va mk) fsl fsv fpt many)) (wM h st sl sv pt cI cZ (fillAt 0 (i + 1) (fun t => fsl (193 + t)) (mst n G va mk)) fsl fsv fpt many) := vd_same hD rfl
            refine lv_iinc (v := nI (i + 1)) (lv' := [(2, .int (nI (i + 1))), (0, .ref h), (1, .int 1)]) hx hb dX3_restore_51 hl (k := 2) rfl (nI_1 i) (by decide) rfl (fun ls hl => ?_)
            refine lv_goto (tgt := 26) hx hb dX3_restore_54 (by decide) ?_
            exact ih26 (i + 1) (by omega) (by omega) _ _ hP hD hS ls (lv_sub hl [1, 2, 0] rfl)
      have hP : va_P D vwCl (wM h st sl sv pt cI cZ (fillAt 0 0 (fun t => fsl (193 + t)) (mst n G va mk)) fsl fsv fpt many) s.heap := by rw [fillAt_0]; exact hP
      have hD : va_D (adr (wM h st sl sv pt cI cZ (mst n G va mk) fsl fsv fpt many)) (wM h st sl sv pt cI cZ (fillAt 0 0 (fun t => fsl (193 + t)) (mst n G va mk)) fsl fsv fpt many) := vd_same hD rfl
      exact L26 (193 - 0 + 1) 0 (Nat.zero_le _) (Nat.lt_succ_self _) _ _ hP hD hS ls (lv_sub hl [1, 2, 0] rfl)
    · skip
      have c_18 := bI_0 c_18
      exact absurd c_18 (by decide)
  · skip
    have c_6 := bI_0 c_6
    exact absurd c_6 (by decide)
