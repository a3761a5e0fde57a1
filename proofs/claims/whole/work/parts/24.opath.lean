set_option maxHeartbeats 4000000 in
set_option maxRecDepth 100000 in
theorem c_X2_tracePath (l : Launch) (D : va_G) (cI cZ : ClassId) (h : Nat) (f1 : Nat) (f2 : Nat) (ph : Nat) (f : Nat) (fa : Nat) (fb : Nat) (fc : Nat) (n : Nat) (G : Nat → Nat) (va : Nat → Int32) (mk : Nat → Bool) (F : fo_ok n G) (hq : Nat) (vs : Nat → Int32) (L : Nat) (hL : L ≤ 64) (u : Int32) (v : Int32) : WrM l yX2_tracePath wsX2_tracePath 5 117 D cI cZ (wO h f f1 f2 ph ++ wF f fa fb fc cI cZ n (fo_cp G) va mk ++ wP ph hq cI vs (nI L)) (wO h f f1 f2 ph ++ wF f fa fb fc cI cZ n (fo_cp G) va mk ++ wP ph hq cI (pvV n G vs u v) (nI (pvL n G L u v))) [.ref h, .int u, .int v] (some (.int (pE n G u v))) := by
  refine WrM.of (cc := cX2_tracePath) (maxL := 4) (ret := (some .int)) (by decide) rfl (Nat.le_of_ble_eq_true rfl) ?_
  intro p e s m below meth c hx hb hr hml hown hts hlocks hP hK hD hS ls hl
  have hown : s.vm.findClass RX2 = some m.cls := hown
  have hl : lv_has ls 4 [(0, .ref h), (1, .int u), (2, .int v)] := hl
  have hP : va_P D vwCl (wO h f f1 f2 ph ++ wF f fa fb fc cI cZ n (fo_cp G) va mk ++ wP ph hq cI vs (nI L)) s.heap := hP
  have hf25 := hts (.fieldLink RX2 25 "DynamicForest" "path" "LDynamicForest$Path;") (by decide +kernel)
  have hf10 := hts (.fieldLink RX2 10 "DynamicForest" "forest" "LDynamicForest$Forest;") (by decide +kernel)
  have hin2 : ∀ w ∈ u_ws RX2 TX2 4, w ∈ wsX2_tracePath := by decide +kernel
  have hn : n ≤ 64 := F.2.1
  refine lv_aload_n hx hb dX2_tracePath_0 rfl (lv_at hl 0 rfl) ?_
  refine lv_iload_n hx hb dX2_tracePath_1 rfl (lv_at hl 1 rfl) ?_
  refine lv_iload_n hx hb dX2_tracePath_2 rfl (lv_at hl 2 rfl) ?_
  refine rd_call ⟨hx, hb, hml, hown, hts⟩ (c_X2_pathError l D cI cZ h f1 f2 ph f fa fb fc n G va mk F u v) (cwV 2 hts gX2_tracePath_X2_pathError rfl rfl rfl (by decide +kernel) ⟨Nat.le_of_ble_eq_true rfl, Nat.le_of_ble_eq_true rfl⟩) (hP.sub (ws' := wO h f f1 f2 ph ++ wF f fa fb fc cI cZ n (fo_cp G) va mk) [0, 1, 2, 3, 4] rfl) hK rfl rfl rfl hl rfl (Nat.le_of_ble_eq_true rfl) dX2_tracePath_3 ⟨Nat.zero_le _, Nat.zero_le _⟩ ?_
  refine lv_istore_n (lv' := [(3, .int (pE n G u v)), (0, .ref h), (1, .int u), (2, .int v)]) hx hb dX2_tracePath_6 rfl hl (by decide) rfl (fun ls hl => ?_)
  refine lv_iload_n hx hb dX2_tracePath_7 rfl (lv_at hl 0 rfl) ?_
  refine lv_if_ne (tgt := 24) hx hb dX2_tracePath_8 (by decide) (fun c_8 => ?_) (fun c_8 => ?_)
  · skip
    refine lv_iload_n hx hb dX2_tracePath_24 rfl (lv_at hl 0 rfl) ?_
    have hP : va_P D vwCl (wO h f f1 f2 ph ++ wF f fa fb fc cI cZ n (fo_cp G) va mk ++ wP ph hq cI (pvV n G vs u v) (nI (pvL n G L u v))) s.heap := by unfold pvV pvL; rw [pE_same hn c_8, pE_same hn c_8]; exact hP
    exact wr_i hx hb hr hlocks hP hS rfl dX2_tracePath_25
  · skip
    obtain ⟨j, k, hj, hk, rfl, rfl, hro⟩ := pE_ok hn c_8
    refine lv_aload_n hx hb dX2_tracePath_11 rfl (lv_at hl 1 rfl) ?_
    refine va_get (D := D) (ci := 2) (v := .ref ph) (C := RX2) (T := TX2) (N := 4) hx hb hts hin2 hown hK hP 0 rfl rfl 3 (by decide) hf25 (fun _ h9 => h9) rfl dX2_tracePath_12 ?_
    refine lv_aload_n hx hb dX2_tracePath_15 rfl (lv_at hl 1 rfl) ?_
    refine va_get (D := D) (ci := 2) (v := .ref f) (C := RX2) (T := TX2) (N := 4) hx hb hts hin2 hown hK hP 0 rfl rfl 0 (by decide) hf10 (fun _ h9 => h9) rfl dX2_tracePath_16 ?_
    refine lv_iload_n hx hb dX2_tracePath_19 rfl (lv_at hl 2 rfl) ?_
    refine lv_iload_n hx hb dX2_tracePath_20 rfl (lv_at hl 3 rfl) ?_
    refine wr_call (V1 := wO h f f1 f2 ph ++ wF f fa fb fc cI cZ n (fo_cp G) va mk ++ wP ph hq cI (fillI (fo_pL G j k) (fun t => nI (fo_pt G j k t)) vs) (nI (fo_pL G j k))) ⟨hx, hb, hml, hown, hts⟩ (c_X1_trace l D cI cZ ph hq vs L hL f fa fb fc n G va mk F j k hj hk hro) (cwV 3 hts gX2_tracePath_X1_trace rfl rfl rfl (by decide +kernel) ⟨Nat.le_of_ble_eq_true rfl, Nat.le_of_ble_eq_true rfl⟩) hP hK hD hS [5, 6, 1, 2, 3, 4] [0] [0, 3, 4, 5, 6, 1, 2] rfl rfl (by decide) rfl rfl rfl rfl rfl hl rfl (Nat.le_of_ble_eq_true rfl) dX2_tracePath_21 ⟨Nat.zero_le _, Nat.zero_le _⟩ (fun H locs hP hD hS => ?_)
    refine lv_iload_n hx hb dX2_tracePath_24 rfl (lv_at hl 0 rfl) ?_
    have hP : va_P D vwCl (wO h f f1 f2 ph ++ wF f fa fb fc cI cZ n (fo_cp G) va mk ++ wP ph hq cI (pvV n G vs (nI j) (nI k)) (nI (pvL n G L (nI j) (nI k)))) H := by rw [pvV_t hj hk hn hro, pvL_t hj hk hn hro]; exact hP
    exact wr_i hx hb hr hlocks hP hS rfl dX2_tracePath_25
set_option maxHeartbeats 4000000 in
set_option maxRecDepth 100000 in
theorem c_X2_pathVertex (l : Launch) (D : va_G) (cI cZ : ClassId) (h : Nat) (f1 : Nat) (f2 : Nat) (ph : Nat) (f : Nat) (fa : Nat) (fb : Nat) (fc : Nat) (n : Nat) (G : Nat → Nat) (va : Nat → Int32) (mk : Nat → Bool) (F : fo_ok n G) (hq : Nat) (vs : Nat → Int32) (L : Nat) (hL : L ≤ 64) (u : Int32) (v : Int32) (x : Int32) : WrM l yX2_pathVertex wsX2_pathVertex 6 140 D cI cZ (wO h f f1 f2 ph ++ wF f fa fb fc cI cZ n (fo_cp G) va mk ++ wP ph hq cI vs (nI L)) (wO h f f1 f2 ph ++ wF f fa fb fc cI cZ n (fo_cp G) va mk ++ wP ph hq cI (pvV n G vs u v) (nI (pvL n G L u v))) [.ref h, .int u, .int v, .int x] (some (.int (gp n G u v (fun a b => ga (fo_pL G a b) x (fun i => nI (fo_pt G a b i)) (-100000007)) (-100000001) (-100000004)))) := by
  refine WrM.of (cc := cX2_pathVertex) (maxL := 5) (ret := (some .int)) (by decide) rfl (Nat.le_of_ble_eq_true rfl) ?_
  intro p e s m below meth c hx hb hr hml hown hts hlocks hP hK hD hS ls hl
  have hown : s.vm.findClass RX2 = some m.cls := hown
  have hl : lv_has ls 5 [(0, .ref h), (1, .int u), (2, .int v), (3, .int x)] := hl
  have hP : va_P D vwCl (wO h f f1 f2 ph ++ wF f fa fb fc cI cZ n (fo_cp G) va mk ++ wP ph hq cI vs (nI L)) s.heap := hP
  have hf25 := hts (.fieldLink RX2 25 "DynamicForest" "path" "LDynamicForest$Path;") (by decide +kernel)
  have hk59 := hts (.constant RX2 59 (-100000007)) (by decide +kernel)
  have hin2 : ∀ w ∈ u_ws RX2 TX2 4, w ∈ wsX2_pathVertex := by decide +kernel
  have hn : n ≤ 64 := F.2.1
  refine lv_aload_n hx hb dX2_pathVertex_0 rfl (lv_at hl 0 rfl) ?_
  refine lv_iload_n hx hb dX2_pathVertex_1 rfl (lv_at hl 1 rfl) ?_
  refine lv_iload_n hx hb dX2_pathVertex_2 rfl (lv_at hl 2 rfl) ?_
  refine wr_call (V1 := wO h f f1 f2 ph ++ wF f fa fb fc cI cZ n (fo_cp G) va mk ++ wP ph hq cI (pvV n G vs u v) (nI (pvL n G L u v))) ⟨hx, hb, hml, hown, hts⟩ (c_X2_tracePath l D cI cZ h f1 f2 ph f fa fb fc n G va mk F hq vs L hL u v) (cwV 2 hts gX2_pathVertex_X2_tracePath rfl rfl rfl (by decide +kernel) ⟨Nat.le_of_ble_eq_true rfl, Nat.le_of_ble_eq_true rfl⟩) hP hK hD hS [0, 1, 2, 3, 4, 5, 6] [] [0, 1, 2, 3, 4, 5, 6] rfl rfl (by decide) rfl rfl rfl rfl rfl hl rfl (Nat.le_of_ble_eq_true rfl) dX2_pathVertex_3 ⟨Nat.zero_le _, Nat.zero_le _⟩ (fun H locs hP hD hS => ?_)
  refine lv_istore (lv' := [(4, .int (pE n G u v)), (0, .ref h), (1, .int u), (2, .int v), (3, .int x)]) hx hb dX2_pathVertex_6 hl (by decide) rfl (fun ls hl => ?_)
  refine lv_iload hx hb dX2_pathVertex_8 (lv_at hl 0 rfl) ?_
  refine lv_if_eq (tgt := 16) hx hb dX2_pathVertex_10 (by decide) (fun c_10 => ?_) (fun c_10 => ?_)
  · skip
    obtain ⟨j, k, hj, hk, rfl, rfl, hro⟩ := pE_ok hn c_10
    rw [pvV_t hj hk hn hro, pvL_t hj hk hn hro] at hP
    have hD : va_D (adr (wO h f f1 f2 ph ++ wF f fa fb fc cI cZ n (fo_cp G) va mk ++ wP ph hq cI vs (nI L))) (wO h f f1 f2 ph ++ wF f fa fb fc cI cZ n (fo_cp G) va mk ++ wP ph hq cI (fillI (fo_pL G j k) (fun t => nI (fo_pt G j k t)) vs) (nI (fo_pL G j k))) := vd_same hD rfl
    have hLL : fo_pL G j k ≤ n := fo_pL_le F hro hj hk
    have hL1 : 1 ≤ fo_pL G j k := Nat.succ_le_succ (Nat.zero_le _)
    have hLL2 : fo_pL G j k ≤ 64 := Nat.le_trans hLL hn
    refine lv_aload_n hx hb dX2_pathVertex_16 rfl (lv_at hl 1 rfl) ?_
    refine va_get (D := D) (ci := 2) (v := .ref ph) (C := RX2) (T := TX2) (N := 4) hx hb hts hin2 hown hK hP 0 rfl rfl 3 (by decide) hf25 (fun _ h9 => h9) rfl dX2_pathVertex_17 ?_
    refine lv_iload_n hx hb dX2_pathVertex_20 rfl (lv_at hl 4 rfl) ?_
    refine rd_call ⟨hx, hb, hml, hown, hts⟩ (c_X1_hasIndex l D cI cZ ph hq (fillI (fo_pL G j k) (fun t => nI (fo_pt G j k t)) vs) (fo_pL G j k) hLL2 x) (cwV 1 hts gX2_pathVertex_X1_hasIndex rfl rfl rfl (by decide +kernel) ⟨Nat.le_of_ble_eq_true rfl, Nat.le_of_ble_eq_true rfl⟩) (hP.sub (ws' := wP ph hq cI (fillI (fo_pL G j k) (fun t => nI (fo_pt G j k t)) vs) (nI (fo_pL G j k))) [5, 6] rfl) hK rfl rfl rfl hl rfl (Nat.le_of_ble_eq_true rfl) dX2_pathVertex_21 ⟨Nat.zero_le _, Nat.zero_le _⟩ ?_
    refine lv_if_eq (tgt := 38) hx hb dX2_pathVertex_24 (by decide) (fun c_24 => ?_) (fun c_24 => ?_)
    · skip
      have c_24 := bI_0 c_24
      refine lv_ldc (own := RX2) hx hb hown hk59 dX2_pathVertex_38 ?_
      have hP : va_P D vwCl (wO h f f1 f2 ph ++ wF f fa fb fc cI cZ n (fo_cp G) va mk ++ wP ph hq cI (pvV n G vs (nI j) (nI k)) (nI (pvL n G L (nI j) (nI k)))) H := by rw [pvV_t hj hk hn hro, pvL_t hj hk hn hro]; exact hP
      exact wr_i hx hb hr hlocks hP hS (by rw [gp_t hj hk hn hro, ga_f c_24]) dX2_pathVertex_40
    · skip
      have c_24 := bI_1 c_24
      obtain ⟨i, hi, rfl⟩ := hasB_of hLL2 c_24
      refine lv_aload_n hx hb dX2_pathVertex_27 rfl (lv_at hl 1 rfl) ?_
      refine va_get (D := D) (ci := 2) (v := .ref ph) (C := RX2) (T := TX2) (N := 4) hx hb hts hin2 hown hK hP 0 rfl rfl 3 (by decide) hf25 (fun _ h9 => h9) rfl dX2_pathVertex_28 ?_
      refine lv_iload_n hx hb dX2_pathVertex_31 rfl (lv_at hl 4 rfl) ?_
      refine rd_call ⟨hx, hb, hml, hown, hts⟩ (c_X1_vertexAt l D cI cZ ph hq (fillI (fo_pL G j k) (fun t => nI (fo_pt G j k t)) vs) (fo_pL G j k) hLL2 i hi) (cwV 1 hts gX2_pathVertex_X1_vertexAt rfl rfl rfl (by decide +kernel) ⟨Nat.le_of_ble_eq_true rfl, Nat.le_of_ble_eq_true rfl⟩) (hP.sub (ws' := wP ph hq cI (fillI (fo_pL G j k) (fun t => nI (fo_pt G j k t)) vs) (nI (fo_pL G j k))) [5, 6] rfl) hK rfl rfl rfl hl rfl (Nat.le_of_ble_eq_true rfl) dX2_pathVertex_32 ⟨Nat.zero_le _, Nat.zero_le _⟩ ?_
      rw [fillI_lt _ _ hi]
      have hpi := fo_pt_lt F hj hk i
      refine lv_goto (tgt := 40) hx hb dX2_pathVertex_35 (by decide) ?_
      have hP : va_P D vwCl (wO h f f1 f2 ph ++ wF f fa fb fc cI cZ n (fo_cp G) va mk ++ wP ph hq cI (pvV n G vs (nI j) (nI k)) (nI (pvL n G L (nI j) (nI k)))) H := by rw [pvV_t hj hk hn hro, pvL_t hj hk hn hro]; exact hP
      exact wr_i hx hb hr hlocks hP hS (by rw [gp_t hj hk hn hro, ga_t hi hLL2]) dX2_pathVertex_40
  · skip
    refine lv_iload hx hb dX2_pathVertex_13 (lv_at hl 0 rfl) ?_
    exact wr_i hx hb hr hlocks hP hS (pE_no hn c_10 _ _ _ _) dX2_pathVertex_15
set_option maxHeartbeats 4000000 in
set_option maxRecDepth 100000 in
theorem c_X2_pathSum (l : Launch) (D : va_G) (cI cZ : ClassId) (h : Nat) (f1 : Nat) (f2 : Nat) (ph : Nat) (f : Nat) (fa : Nat) (fb : Nat) (fc : Nat) (n : Nat) (G : Nat → Nat) (va : Nat → Int32) (mk : Nat → Bool) (F : fo_ok n G) (hq : Nat) (vs : Nat → Int32) (L : Nat) (hL : L ≤ 64) (u : Int32) (v : Int32) : WrM l yX2_pathSum wsX2_pathSum 6 140 D cI cZ (wO h f f1 f2 ph ++ wF f fa fb fc cI cZ n (fo_cp G) va mk ++ wP ph hq cI vs (nI L)) (wO h f f1 f2 ph ++ wF f fa fb fc cI cZ n (fo_cp G) va mk ++ wP ph hq cI (pvV n G vs u v) (nI (pvL n G L u v))) [.ref h, .int u, .int v] (some (.int (gp n G u v (fun a b => pSum va (fo_pt G a b) (fo_pL G a b)) (-100000001) (-100000004)))) := by
  refine WrM.of (cc := cX2_pathSum) (maxL := 6) (ret := (some .int)) (by decide) rfl (Nat.le_of_ble_eq_true rfl) ?_
  intro p e s m below meth c hx hb hr hml hown hts hlocks hP hK hD hS ls hl
  have hown : s.vm.findClass RX2 = some m.cls := hown
  have hl : lv_has ls 6 [(0, .ref h), (1, .int u), (2, .int v)] := hl
  have hP : va_P D vwCl (wO h f f1 f2 ph ++ wF f fa fb fc cI cZ n (fo_cp G) va mk ++ wP ph hq cI vs (nI L)) s.heap := hP
  have hf25 := hts (.fieldLink RX2 25 "DynamicForest" "path" "LDynamicForest$Path;") (by decide +kernel)
  have hf10 := hts (.fieldLink RX2 10 "DynamicForest" "forest" "LDynamicForest$Forest;") (by decide +kernel)
  have hin2 : ∀ w ∈ u_ws RX2 TX2 4, w ∈ wsX2_pathSum := by decide +kernel
  have hn : n ≤ 64 := F.2.1
  refine lv_aload_n hx hb dX2_pathSum_0 rfl (lv_at hl 0 rfl) ?_
  refine lv_iload_n hx hb dX2_pathSum_1 rfl (lv_at hl 1 rfl) ?_
  refine lv_iload_n hx hb dX2_pathSum_2 rfl (lv_at hl 2 rfl) ?_
  refine wr_call (V1 := wO h f f1 f2 ph ++ wF f fa fb fc cI cZ n (fo_cp G) va mk ++ wP ph hq cI (pvV n G vs u v) (nI (pvL n G L u v))) ⟨hx, hb, hml, hown, hts⟩ (c_X2_tracePath l D cI cZ h f1 f2 ph f fa fb fc n G va mk F hq vs L hL u v) (cwV 2 hts gX2_pathSum_X2_tracePath rfl rfl rfl (by decide +kernel) ⟨Nat.le_of_ble_eq_true rfl, Nat.le_of_ble_eq_true rfl⟩) hP hK hD hS [0, 1, 2, 3, 4, 5, 6] [] [0, 1, 2, 3, 4, 5, 6] rfl rfl (by decide) rfl rfl rfl rfl rfl hl rfl (Nat.le_of_ble_eq_true rfl) dX2_pathSum_3 ⟨Nat.zero_le _, Nat.zero_le _⟩ (fun H locs hP hD hS => ?_)
  refine lv_istore_n (lv' := [(3, .int (pE n G u v)), (0, .ref h), (1, .int u), (2, .int v)]) hx hb dX2_pathSum_6 rfl hl (by decide) rfl (fun ls hl => ?_)
  refine lv_iload_n hx hb dX2_pathSum_7 rfl (lv_at hl 0 rfl) ?_
  refine lv_if_eq (tgt := 13) hx hb dX2_pathSum_8 (by decide) (fun c_8 => ?_) (fun c_8 => ?_)
  · skip
    obtain ⟨j, k, hj, hk, rfl, rfl, hro⟩ := pE_ok hn c_8
    rw [pvV_t hj hk hn hro, pvL_t hj hk hn hro] at hP
    have hD : va_D (adr (wO h f f1 f2 ph ++ wF f fa fb fc cI cZ n (fo_cp G) va mk ++ wP ph hq cI vs (nI L))) (wO h f f1 f2 ph ++ wF f fa fb fc cI cZ n (fo_cp G) va mk ++ wP ph hq cI (fillI (fo_pL G j k) (fun t => nI (fo_pt G j k t)) vs) (nI (fo_pL G j k))) := vd_same hD rfl
    have hLL : fo_pL G j k ≤ n := fo_pL_le F hro hj hk
    have hL1 : 1 ≤ fo_pL G j k := Nat.succ_le_succ (Nat.zero_le _)
    have hLL2 : fo_pL G j k ≤ 64 := Nat.le_trans hLL hn
    refine lv_iconst (v := 0) hx hb dX2_pathSum_13 (by decide) ?_
    refine lv_istore (lv' := [(4, .int 0), (3, .int (pE n G (nI j) (nI k))), (0, .ref h), (1, .int (nI j)), (2, .int (nI k))]) hx hb dX2_pathSum_14 hl (by decide) rfl (fun ls hl => ?_)
    refine lv_iconst (v := nI 0) hx hb dX2_pathSum_16 (by decide) ?_
    refine lv_istore (lv' := [(5, .int (nI 0)), (4, .int 0), (3, .int (pE n G (nI j) (nI k))), (0, .ref h), (1, .int (nI j)), (2, .int (nI k))]) hx hb dX2_pathSum_17 hl (by decide) rfl (fun ls hl => ?_)
    have L19 : ∀ (k19_ : Nat) (i : Nat), i ≤ fo_pL G j k → fo_pL G j k - i < k19_ → ∀ (H : Heap) (locs : List Loc), va_P D vwCl (wO h f f1 f2 ph ++ wF f fa fb fc cI cZ n (fo_cp G) va mk ++ wP ph hq cI (fillI (fo_pL G j k) (fun t => nI (fo_pt G j k t)) vs) (nI (fo_pL G j k))) H → va_D (adr (wO h f f1 f2 ph ++ wF f fa fb fc cI cZ n (fo_cp G) va mk ++ wP ph hq cI vs (nI L))) (wO h f f1 f2 ph ++ wF f fa fb fc cI cZ n (fo_cp G) va mk ++ wP ph hq cI (fillI (fo_pL G j k) (fun t => nI (fo_pt G j k t)) vs) (nI (fo_pL G j k))) → va_S (adr (wO h f f1 f2 ph ++ wF f fa fb fc cI cZ n (fo_cp G) va mk ++ wP ph hq cI vs (nI L))) s.heap H locs → ∀ ls, lv_has ls 6 [(0, .ref h), (4, .int (pSum va (fo_pt G j k) i)), (5, .int (nI i))] → Ww0 p l e wsX2_pathSum 6 140 s m [.ref h, .int (nI j), .int (nI k)] below meth c D (wO h f f1 f2 ph ++ wF f fa fb fc cI cZ n (fo_cp G) va mk ++ wP ph hq cI vs (nI L)) (wO h f f1 f2 ph ++ wF f fa fb fc cI cZ n (fo_cp G) va mk ++ wP ph hq cI (pvV n G vs (nI j) (nI k)) (nI (pvL n G L (nI j) (nI k)))) (some (.int (gp n G (nI j) (nI k) (fun a b => pSum va (fo_pt G a b) (fo_pL G a b)) (-100000001) (-100000004)))) H locs (F0 m 19 ls []) := by
      intro k19_
      induction k19_ with
      | zero => intro i hi hk19_; exact absurd hk19_ (Nat.not_lt_zero _)
      | succ k19_ ih19 =>
        intro i hi hk19_ H locs hP hD hS ls hl
        refine lv_iload hx hb dX2_pathSum_19 (lv_at hl 2 rfl) ?_
        refine lv_aload_n hx hb dX2_pathSum_21 rfl (lv_at hl 0 rfl) ?_
        refine va_get (D := D) (ci := 2) (v := .ref ph) (C := RX2) (T := TX2) (N := 4) hx hb hts hin2 hown hK hP 0 rfl rfl 3 (by decide) hf25 (fun _ h9 => h9) rfl dX2_pathSum_22 ?_
        refine rd_call ⟨hx, hb, hml, hown, hts⟩ (c_X1_length l D cI cZ ph hq (fillI (fo_pL G j k) (fun t => nI (fo_pt G j k t)) vs) (fo_pL G j k) hLL2) (cwV 0 hts gX2_pathSum_X1_length rfl rfl rfl (by decide +kernel) ⟨Nat.le_of_ble_eq_true rfl, Nat.le_of_ble_eq_true rfl⟩) (hP.sub (ws' := wP ph hq cI (fillI (fo_pL G j k) (fun t => nI (fo_pt G j k t)) vs) (nI (fo_pL G j k))) [5, 6] rfl) hK rfl rfl rfl hl rfl (Nat.le_of_ble_eq_true rfl) dX2_pathSum_25 ⟨Nat.zero_le _, Nat.zero_le _⟩ ?_
        refine lv_icmp_ge (tgt := 58) hx hb dX2_pathSum_28 (by decide) (fun c_28 => ?_) (fun c_28 => ?_)
        · skip
          have c_28 := cn_le (a := (fo_pL G j k)) (b := i) (by omega) (by omega) c_28
          refine lv_iload hx hb dX2_pathSum_58 (lv_at hl 1 rfl) ?_
          have hP : va_P D vwCl (wO h f f1 f2 ph ++ wF f fa fb fc cI cZ n (fo_cp G) va mk ++ wP ph hq cI (pvV n G vs (nI j) (nI k)) (nI (pvL n G L (nI j) (nI k)))) H := by rw [pvV_t hj hk hn hro, pvL_t hj hk hn hro]; exact hP
          exact wr_i hx hb hr hlocks hP hS (by rw [gp_t hj hk hn hro, show i = fo_pL G j k by omega]) dX2_pathSum_60
        · skip
          have c_28 := cn_nle (a := (fo_pL G j k)) (b := i) (by omega) (by omega) c_28
          refine lv_iload hx hb dX2_pathSum_31 (lv_at hl 1 rfl) ?_
          refine lv_aload_n hx hb dX2_pathSum_33 rfl (lv_at hl 0 rfl) ?_
          refine va_get (D := D) (ci := 2) (v := .ref f) (C := RX2) (T := TX2) (N := 4) hx hb hts hin2 hown hK hP 0 rfl rfl 0 (by decide) hf10 (fun _ h9 => h9) rfl dX2_pathSum_34 ?_
          refine lv_aload_n hx hb dX2_pathSum_37 rfl (lv_at hl 0 rfl) ?_
          refine va_get (D := D) (ci := 2) (v := .ref ph) (C := RX2) (T := TX2) (N := 4) hx hb hts hin2 hown hK hP 0 rfl rfl 3 (by decide) hf25 (fun _ h9 => h9) rfl dX2_pathSum_38 ?_
          refine lv_iload hx hb dX2_pathSum_41 (lv_at hl 2 rfl) ?_
          refine rd_call ⟨hx, hb, hml, hown, hts⟩ (c_X1_vertexAt l D cI cZ ph hq (fillI (fo_pL G j k) (fun t => nI (fo_pt G j k t)) vs) (fo_pL G j k) hLL2 i c_28) (cwV 1 hts gX2_pathSum_X1_vertexAt rfl rfl rfl (by decide +kernel) ⟨Nat.le_of_ble_eq_true rfl, Nat.le_of_ble_eq_true rfl⟩) (hP.sub (ws' := wP ph hq cI (fillI (fo_pL G j k) (fun t => nI (fo_pt G j k t)) vs) (nI (fo_pL G j k))) [5, 6] rfl) hK rfl rfl rfl hl rfl (Nat.le_of_ble_eq_true rfl) dX2_pathSum_43 ⟨Nat.zero_le _, Nat.zero_le _⟩ ?_
          rw [fillI_lt _ _ c_28]
          have hpi := fo_pt_lt F hj hk i
          refine rd_call ⟨hx, hb, hml, hown, hts⟩ (c_X0_valueOf l D cI cZ f fa fb fc n (fo_cp G) va mk (fo_pt G j k i) hpi hn) (cwV 1 hts gX2_pathSum_X0_valueOf rfl rfl rfl (by decide +kernel) ⟨Nat.le_of_ble_eq_true rfl, Nat.le_of_ble_eq_true rfl⟩) (hP.sub (ws' := wF f fa fb fc cI cZ n (fo_cp G) va mk) [1, 2, 3, 4] rfl) hK rfl rfl rfl hl rfl (Nat.le_of_ble_eq_true rfl) dX2_pathSum_46 ⟨Nat.zero_le _, Nat.zero_le _⟩ ?_
          refine lv_iadd hx hb dX2_pathSum_49 ?_
          refine lv_istore (lv' := [(4, .int ((pSum va (fo_pt G j k) i) + (va (fo_pt G j k i)))), (0, .ref h), (5, .int (nI i))]) hx hb dX2_pathSum_50 hl (by decide) rfl (fun ls hl => ?_)
          refine lv_iinc (v := nI (i + 1)) (lv' := [(5, .int (nI (i + 1))), (4, .int ((pSum va (fo_pt G j k) i) + (va (fo_pt G j k i)))), (0, .ref h)]) hx hb dX2_pathSum_52 hl (k := 2) rfl (nI_1 i) (by decide) rfl (fun ls hl => ?_)
          refine lv_goto (tgt := 19) hx hb dX2_pathSum_55 (by decide) ?_
          exact ih19 (i + 1) (by omega) (by omega) _ _ hP hD hS ls (lv_sub hl [2, 1, 0] rfl)
    exact L19 (fo_pL G j k - 0 + 1) 0 (Nat.zero_le _) (Nat.lt_succ_self _) _ _ hP hD hS ls (lv_sub hl [3, 1, 0] rfl)
  · skip
    refine lv_iload_n hx hb dX2_pathSum_11 rfl (lv_at hl 0 rfl) ?_
    exact wr_i hx hb hr hlocks hP hS (pE_no hn c_8 _ _ _ _) dX2_pathSum_12
set_option maxHeartbeats 4000000 in
set_option maxRecDepth 100000 in
theorem c_X2_pathMinimum (l : Launch) (D : va_G) (cI cZ : ClassId) (h : Nat) (f1 : Nat) (f2 : Nat) (ph : Nat) (f : Nat) (fa : Nat) (fb : Nat) (fc : Nat) (n : Nat) (G : Nat → Nat) (va : Nat → Int32) (mk : Nat → Bool) (F : fo_ok n G) (hq : Nat) (vs : Nat → Int32) (L : Nat) (hL : L ≤ 64) (u : Int32) (v : Int32) : WrM l yX2_pathMinimum wsX2_pathMinimum 6 140 D cI cZ (wO h f f1 f2 ph ++ wF f fa fb fc cI cZ n (fo_cp G) va mk ++ wP ph hq cI vs (nI L)) (wO h f f1 f2 ph ++ wF f fa fb fc cI cZ n (fo_cp G) va mk ++ wP ph hq cI (pvV n G vs u v) (nI (pvL n G L u v))) [.ref h, .int u, .int v] (some (.int (gp n G u v (fun a b => nI (pMin va (fo_pt G a b) (fo_pL G a b))) (-100000001) (-100000004)))) := by
  refine WrM.of (cc := cX2_pathMinimum) (maxL := 6) (ret := (some .int)) (by decide) rfl (Nat.le_of_ble_eq_true rfl) ?_
  intro p e s m below meth c hx hb hr hml hown hts hlocks hP hK hD hS ls hl
  have hown : s.vm.findClass RX2 = some m.cls := hown
  have hl : lv_has ls 6 [(0, .ref h), (1, .int u), (2, .int v)] := hl
  have hP : va_P D vwCl (wO h f f1 f2 ph ++ wF f fa fb fc cI cZ n (fo_cp G) va mk ++ wP ph hq cI vs (nI L)) s.heap := hP
  have hf25 := hts (.fieldLink RX2 25 "DynamicForest" "path" "LDynamicForest$Path;") (by decide +kernel)
  have hf10 := hts (.fieldLink RX2 10 "DynamicForest" "forest" "LDynamicForest$Forest;") (by decide +kernel)
  have hin2 : ∀ w ∈ u_ws RX2 TX2 4, w ∈ wsX2_pathMinimum := by decide +kernel
  have hn : n ≤ 64 := F.2.1
  refine lv_aload_n hx hb dX2_pathMinimum_0 rfl (lv_at hl 0 rfl) ?_
  refine lv_iload_n hx hb dX2_pathMinimum_1 rfl (lv_at hl 1 rfl) ?_
  refine lv_iload_n hx hb dX2_pathMinimum_2 rfl (lv_at hl 2 rfl) ?_
  refine wr_call (V1 := wO h f f1 f2 ph ++ wF f fa fb fc cI cZ n (fo_cp G) va mk ++ wP ph hq cI (pvV n G vs u v) (nI (pvL n G L u v))) ⟨hx, hb, hml, hown, hts⟩ (c_X2_tracePath l D cI cZ h f1 f2 ph f fa fb fc n G va mk F hq vs L hL u v) (cwV 2 hts gX2_pathMinimum_X2_tracePath rfl rfl rfl (by decide +kernel) ⟨Nat.le_of_ble_eq_true rfl, Nat.le_of_ble_eq_true rfl⟩) hP hK hD hS [0, 1, 2, 3, 4, 5, 6] [] [0, 1, 2, 3, 4, 5, 6] rfl rfl (by decide) rfl rfl rfl rfl rfl hl rfl (Nat.le_of_ble_eq_true rfl) dX2_pathMinimum_3 ⟨Nat.zero_le _, Nat.zero_le _⟩ (fun H locs hP hD hS => ?_)
  refine lv_istore_n (lv' := [(3, .int (pE n G u v)), (0, .ref h), (1, .int u), (2, .int v)]) hx hb dX2_pathMinimum_6 rfl hl (by decide) rfl (fun ls hl => ?_)
  refine lv_iload_n hx hb dX2_pathMinimum_7 rfl (lv_at hl 0 rfl) ?_
  refine lv_if_eq (tgt := 13) hx hb dX2_pathMinimum_8 (by decide) (fun c_8 => ?_) (fun c_8 => ?_)
  · skip
    obtain ⟨j, k, hj, hk, rfl, rfl, hro⟩ := pE_ok hn c_8
    rw [pvV_t hj hk hn hro, pvL_t hj hk hn hro] at hP
    have hD : va_D (adr (wO h f f1 f2 ph ++ wF f fa fb fc cI cZ n (fo_cp G) va mk ++ wP ph hq cI vs (nI L))) (wO h f f1 f2 ph ++ wF f fa fb fc cI cZ n (fo_cp G) va mk ++ wP ph hq cI (fillI (fo_pL G j k) (fun t => nI (fo_pt G j k t)) vs) (nI (fo_pL G j k))) := vd_same hD rfl
    have hLL : fo_pL G j k ≤ n := fo_pL_le F hro hj hk
    have hL1 : 1 ≤ fo_pL G j k := Nat.succ_le_succ (Nat.zero_le _)
    have hLL2 : fo_pL G j k ≤ 64 := Nat.le_trans hLL hn
    refine lv_iload_n hx hb dX2_pathMinimum_13 rfl (lv_at hl 2 rfl) ?_
    refine lv_istore (lv' := [(4, .int (nI j)), (3, .int (pE n G (nI j) (nI k))), (0, .ref h), (1, .int (nI j)), (2, .int (nI k))]) hx hb dX2_pathMinimum_14 hl (by decide) rfl (fun ls hl => ?_)
    refine lv_iconst (v := nI 1) hx hb dX2_pathMinimum_16 (by decide) ?_
    refine lv_istore (lv' := [(5, .int (nI 1)), (4, .int (nI j)), (3, .int (pE n G (nI j) (nI k))), (0, .ref h), (1, .int (nI j)), (2, .int (nI k))]) hx hb dX2_pathMinimum_17 hl (by decide) rfl (fun ls hl => ?_)
    have L19 : ∀ (k19_ : Nat) (i : Nat), 1 ≤ i → i ≤ fo_pL G j k → fo_pL G j k - i < k19_ → ∀ (H : Heap) (locs : List Loc), va_P D vwCl (wO h f f1 f2 ph ++ wF f fa fb fc cI cZ n (fo_cp G) va mk ++ wP ph hq cI (fillI (fo_pL G j k) (fun t => nI (fo_pt G j k t)) vs) (nI (fo_pL G j k))) H → va_D (adr (wO h f f1 f2 ph ++ wF f fa fb fc cI cZ n (fo_cp G) va mk ++ wP ph hq cI vs (nI L))) (wO h f f1 f2 ph ++ wF f fa fb fc cI cZ n (fo_cp G) va mk ++ wP ph hq cI (fillI (fo_pL G j k) (fun t => nI (fo_pt G j k t)) vs) (nI (fo_pL G j k))) → va_S (adr (wO h f f1 f2 ph ++ wF f fa fb fc cI cZ n (fo_cp G) va mk ++ wP ph hq cI vs (nI L))) s.heap H locs → ∀ ls, lv_has ls 6 [(0, .ref h), (4, .int (nI (pMin va (fo_pt G j k) i))), (5, .int (nI i))] → Ww0 p l e wsX2_pathMinimum 6 140 s m [.ref h, .int (nI j), .int (nI k)] below meth c D (wO h f f1 f2 ph ++ wF f fa fb fc cI cZ n (fo_cp G) va mk ++ wP ph hq cI vs (nI L)) (wO h f f1 f2 ph ++ wF f fa fb fc cI cZ n (fo_cp G) va mk ++ wP ph hq cI (pvV n G vs (nI j) (nI k)) (nI (pvL n G L (nI j) (nI k)))) (some (.int (gp n G (nI j) (nI k) (fun a b => nI (pMin va (fo_pt G a b) (fo_pL G a b))) (-100000001) (-100000004)))) H locs (F0 m 19 ls []) := by
      intro k19_
      induction k19_ with
      | zero => intro i hi1 hi hk19_; exact absurd hk19_ (Nat.not_lt_zero _)
      | succ k19_ ih19 =>
        intro i hi1 hi hk19_ H locs hP hD hS ls hl
        have hbl : (pMin va (fo_pt G j k) i) < n := pMin_lt (fun t => fo_pt_lt F hj hk t) i
        refine lv_iload hx hb dX2_pathMinimum_19 (lv_at hl 2 rfl) ?_
        refine lv_aload_n hx hb dX2_pathMinimum_21 rfl (lv_at hl 0 rfl) ?_
        refine va_get (D := D) (ci := 2) (v := .ref ph) (C := RX2) (T := TX2) (N := 4) hx hb hts hin2 hown hK hP 0 rfl rfl 3 (by decide) hf25 (fun _ h9 => h9) rfl dX2_pathMinimum_22 ?_
        refine rd_call ⟨hx, hb, hml, hown, hts⟩ (c_X1_length l D cI cZ ph hq (fillI (fo_pL G j k) (fun t => nI (fo_pt G j k t)) vs) (fo_pL G j k) hLL2) (cwV 0 hts gX2_pathMinimum_X1_length rfl rfl rfl (by decide +kernel) ⟨Nat.le_of_ble_eq_true rfl, Nat.le_of_ble_eq_true rfl⟩) (hP.sub (ws' := wP ph hq cI (fillI (fo_pL G j k) (fun t => nI (fo_pt G j k t)) vs) (nI (fo_pL G j k))) [5, 6] rfl) hK rfl rfl rfl hl rfl (Nat.le_of_ble_eq_true rfl) dX2_pathMinimum_25 ⟨Nat.zero_le _, Nat.zero_le _⟩ ?_
        refine lv_icmp_ge (tgt := 76) hx hb dX2_pathMinimum_28 (by decide) (fun c_28 => ?_) (fun c_28 => ?_)
        · skip
          have c_28 := cn_le (a := (fo_pL G j k)) (b := i) (by omega) (by omega) c_28
          refine lv_iload hx hb dX2_pathMinimum_76 (lv_at hl 1 rfl) ?_
          have hP : va_P D vwCl (wO h f f1 f2 ph ++ wF f fa fb fc cI cZ n (fo_cp G) va mk ++ wP ph hq cI (pvV n G vs (nI j) (nI k)) (nI (pvL n G L (nI j) (nI k)))) H := by rw [pvV_t hj hk hn hro, pvL_t hj hk hn hro]; exact hP
          exact wr_i hx hb hr hlocks hP hS (by rw [gp_t hj hk hn hro, show i = fo_pL G j k by omega]) dX2_pathMinimum_78
        · skip
          have c_28 := cn_nle (a := (fo_pL G j k)) (b := i) (by omega) (by omega) c_28
          refine lv_aload_n hx hb dX2_pathMinimum_31 rfl (lv_at hl 0 rfl) ?_
          refine va_get (D := D) (ci := 2) (v := .ref f) (C := RX2) (T := TX2) (N := 4) hx hb hts hin2 hown hK hP 0 rfl rfl 0 (by decide) hf10 (fun _ h9 => h9) rfl dX2_pathMinimum_32 ?_
          refine lv_aload_n hx hb dX2_pathMinimum_35 rfl (lv_at hl 0 rfl) ?_
          refine va_get (D := D) (ci := 2) (v := .ref ph) (C := RX2) (T := TX2) (N := 4) hx hb hts hin2 hown hK hP 0 rfl rfl 3 (by decide) hf25 (fun _ h9 => h9) rfl dX2_pathMinimum_36 ?_
          refine lv_iload hx hb dX2_pathMinimum_39 (lv_at hl 2 rfl) ?_
          refine rd_call ⟨hx, hb, hml, hown, hts⟩ (c_X1_vertexAt l D cI cZ ph hq (fillI (fo_pL G j k) (fun t => nI (fo_pt G j k t)) vs) (fo_pL G j k) hLL2 i c_28) (cwV 1 hts gX2_pathMinimum_X1_vertexAt rfl rfl rfl (by decide +kernel) ⟨Nat.le_of_ble_eq_true rfl, Nat.le_of_ble_eq_true rfl⟩) (hP.sub (ws' := wP ph hq cI (fillI (fo_pL G j k) (fun t => nI (fo_pt G j k t)) vs) (nI (fo_pL G j k))) [5, 6] rfl) hK rfl rfl rfl hl rfl (Nat.le_of_ble_eq_true rfl) dX2_pathMinimum_41 ⟨Nat.zero_le _, Nat.zero_le _⟩ ?_
          rw [fillI_lt _ _ c_28]
          have hpi := fo_pt_lt F hj hk i
          refine rd_call ⟨hx, hb, hml, hown, hts⟩ (c_X0_valueOf l D cI cZ f fa fb fc n (fo_cp G) va mk (fo_pt G j k i) hpi hn) (cwV 1 hts gX2_pathMinimum_X0_valueOf rfl rfl rfl (by decide +kernel) ⟨Nat.le_of_ble_eq_true rfl, Nat.le_of_ble_eq_true rfl⟩) (hP.sub (ws' := wF f fa fb fc cI cZ n (fo_cp G) va mk) [1, 2, 3, 4] rfl) hK rfl rfl rfl hl rfl (Nat.le_of_ble_eq_true rfl) dX2_pathMinimum_44 ⟨Nat.zero_le _, Nat.zero_le _⟩ ?_
          refine lv_aload_n hx hb dX2_pathMinimum_47 rfl (lv_at hl 0 rfl) ?_
          refine va_get (D := D) (ci := 2) (v := .ref f) (C := RX2) (T := TX2) (N := 4) hx hb hts hin2 hown hK hP 0 rfl rfl 0 (by decide) hf10 (fun _ h9 => h9) rfl dX2_pathMinimum_48 ?_
          refine lv_iload hx hb dX2_pathMinimum_51 (lv_at hl 1 rfl) ?_
          refine rd_call ⟨hx, hb, hml, hown, hts⟩ (c_X0_valueOf l D cI cZ f fa fb fc n (fo_cp G) va mk (pMin va (fo_pt G j k) i) hbl hn) (cwV 1 hts gX2_pathMinimum_X0_valueOf rfl rfl rfl (by decide +kernel) ⟨Nat.le_of_ble_eq_true rfl, Nat.le_of_ble_eq_true rfl⟩) (hP.sub (ws' := wF f fa fb fc cI cZ n (fo_cp G) va mk) [1, 2, 3, 4] rfl) hK rfl rfl rfl hl rfl (Nat.le_of_ble_eq_true rfl) dX2_pathMinimum_53 ⟨Nat.zero_le _, Nat.zero_le _⟩ ?_
          refine lv_icmp_ge (tgt := 70) hx hb dX2_pathMinimum_56 (by decide) (fun c_56 => ?_) (fun c_56 => ?_)
          · skip
            refine lv_iinc (v := nI (i + 1)) (lv' := [(5, .int (nI (i + 1))), (0, .ref h), (4, .int (nI (pMin va (fo_pt G j k) i)))]) hx hb dX2_pathMinimum_70 hl (k := 2) rfl (nI_1 i) (by decide) rfl (fun ls hl => ?_)
            refine lv_goto (tgt := 19) hx hb dX2_pathMinimum_73 (by decide) ?_
            exact ih19 (i + 1) (by omega) (by omega) (by omega) _ _ hP hD hS ls (by rw [pMin_n (Int32.not_lt.mpr c_56)]; exact lv_sub hl [1, 2, 0] rfl)
          · skip
            refine lv_aload_n hx hb dX2_pathMinimum_59 rfl (lv_at hl 0 rfl) ?_
            refine va_get (D := D) (ci := 2) (v := .ref ph) (C := RX2) (T := TX2) (N := 4) hx hb hts hin2 hown hK hP 0 rfl rfl 3 (by decide) hf25 (fun _ h9 => h9) rfl dX2_pathMinimum_60 ?_
            refine lv_iload hx hb dX2_pathMinimum_63 (lv_at hl 2 rfl) ?_
            refine rd_call ⟨hx, hb, hml, hown, hts⟩ (c_X1_vertexAt l D cI cZ ph hq (fillI (fo_pL G j k) (fun t => nI (fo_pt G j k t)) vs) (fo_pL G j k) hLL2 i c_28) (cwV 1 hts gX2_pathMinimum_X1_vertexAt rfl rfl rfl (by decide +kernel) ⟨Nat.le_of_ble_eq_true rfl, Nat.le_of_ble_eq_true rfl⟩) (hP.sub (ws' := wP ph hq cI (fillI (fo_pL G j k) (fun t => nI (fo_pt G j k t)) vs) (nI (fo_pL G j k))) [5, 6] rfl) hK rfl rfl rfl hl rfl (Nat.le_of_ble_eq_true rfl) dX2_pathMinimum_65 ⟨Nat.zero_le _, Nat.zero_le _⟩ ?_
            rw [fillI_lt _ _ c_28]
            have hpi := fo_pt_lt F hj hk i
            refine lv_istore (lv' := [(4, .int (nI (fo_pt G j k i))), (0, .ref h), (5, .int (nI i))]) hx hb dX2_pathMinimum_68 hl (by decide) rfl (fun ls hl => ?_)
            refine lv_iinc (v := nI (i + 1)) (lv' := [(5, .int (nI (i + 1))), (4, .int (nI (fo_pt G j k i))), (0, .ref h)]) hx hb dX2_pathMinimum_70 hl (k := 2) rfl (nI_1 i) (by decide) rfl (fun ls hl => ?_)
            refine lv_goto (tgt := 19) hx hb dX2_pathMinimum_73 (by decide) ?_
            exact ih19 (i + 1) (by omega) (by omega) (by omega) _ _ hP hD hS ls (by rw [pMin_y (Int32.not_le.mp c_56)]; exact lv_sub hl [2, 1, 0] rfl)
    exact L19 (fo_pL G j k - 1 + 1) 1 (Nat.le_refl _) hL1 (Nat.lt_succ_self _) _ _ hP hD hS ls (by rw [pMin_1, fo_pt_0]; exact lv_sub hl [3, 1, 0] rfl)
  · skip
    refine lv_iload_n hx hb dX2_pathMinimum_11 rfl (lv_at hl 0 rfl) ?_
    exact wr_i hx hb hr hlocks hP hS (pE_no hn c_8 _ _ _ _) dX2_pathMinimum_12
set_option maxHeartbeats 4000000 in
set_option maxRecDepth 100000 in
theorem c_X2_pathMaximum (l : Launch) (D : va_G) (cI cZ : ClassId) (h : Nat) (f1 : Nat) (f2 : Nat) (ph : Nat) (f : Nat) (fa : Nat) (fb : Nat) (fc : Nat) (n : Nat) (G : Nat → Nat) (va : Nat → Int32) (mk : Nat → Bool) (F : fo_ok n G) (hq : Nat) (vs : Nat → Int32) (L : Nat) (hL : L ≤ 64) (u : Int32) (v : Int32) : WrM l yX2_pathMaximum wsX2_pathMaximum 6 140 D cI cZ (wO h f f1 f2 ph ++ wF f fa fb fc cI cZ n (fo_cp G) va mk ++ wP ph hq cI vs (nI L)) (wO h f f1 f2 ph ++ wF f fa fb fc cI cZ n (fo_cp G) va mk ++ wP ph hq cI (pvV n G vs u v) (nI (pvL n G L u v))) [.ref h, .int u, .int v] (some (.int (gp n G u v (fun a b => nI (pMax va (fo_pt G a b) (fo_pL G a b))) (-100000001) (-100000004)))) := by
  refine WrM.of (cc := cX2_pathMaximum) (maxL := 6) (ret := (some .int)) (by decide) rfl (Nat.le_of_ble_eq_true rfl) ?_
  intro p e s m below meth c hx hb hr hml hown hts hlocks hP hK hD hS ls hl
  have hown : s.vm.findClass RX2 = some m.cls := hown
  have hl : lv_has ls 6 [(0, .ref h), (1, .int u), (2, .int v)] := hl
  have hP : va_P D vwCl (wO h f f1 f2 ph ++ wF f fa fb fc cI cZ n (fo_cp G) va mk ++ wP ph hq cI vs (nI L)) s.heap := hP
  have hf25 := hts (.fieldLink RX2 25 "DynamicForest" "path" "LDynamicForest$Path;") (by decide +kernel)
  have hf10 := hts (.fieldLink RX2 10 "DynamicForest" "forest" "LDynamicForest$Forest;") (by decide +kernel)
  have hin2 : ∀ w ∈ u_ws RX2 TX2 4, w ∈ wsX2_pathMaximum := by decide +kernel
  have hn : n ≤ 64 := F.2.1
  refine lv_aload_n hx hb dX2_pathMaximum_0 rfl (lv_at hl 0 rfl) ?_
  refine lv_iload_n hx hb dX2_pathMaximum_1 rfl (lv_at hl 1 rfl) ?_
  refine lv_iload_n hx hb dX2_pathMaximum_2 rfl (lv_at hl 2 rfl) ?_
  refine wr_call (V1 := wO h f f1 f2 ph ++ wF f fa fb fc cI cZ n (fo_cp G) va mk ++ wP ph hq cI (pvV n G vs u v) (nI (pvL n G L u v))) ⟨hx, hb, hml, hown, hts⟩ (c_X2_tracePath l D cI cZ h f1 f2 ph f fa fb fc n G va mk F hq vs L hL u v) (cwV 2 hts gX2_pathMaximum_X2_tracePath rfl rfl rfl (by decide +kernel) ⟨Nat.le_of_ble_eq_true rfl, Nat.le_of_ble_eq_true rfl⟩) hP hK hD hS [0, 1, 2, 3, 4, 5, 6] [] [0, 1, 2, 3, 4, 5, 6] rfl rfl (by decide) rfl rfl rfl rfl rfl hl rfl (Nat.le_of_ble_eq_true rfl) dX2_pathMaximum_3 ⟨Nat.zero_le _, Nat.zero_le _⟩ (fun H locs hP hD hS => ?_)
  refine lv_istore_n (lv' := [(3, .int (pE n G u v)), (0, .ref h), (1, .int u), (2, .int v)]) hx hb dX2_pathMaximum_6 rfl hl (by decide) rfl (fun ls hl => ?_)
  refine lv_iload_n hx hb dX2_pathMaximum_7 rfl (lv_at hl 0 rfl) ?_
  refine lv_if_eq (tgt := 13) hx hb dX2_pathMaximum_8 (by decide) (fun c_8 => ?_) (fun c_8 => ?_)
  · skip
    obtain ⟨j, k, hj, hk, rfl, rfl, hro⟩ := pE_ok hn c_8
    rw [pvV_t hj hk hn hro, pvL_t hj hk hn hro] at hP
    have hD : va_D (adr (wO h f f1 f2 ph ++ wF f fa fb fc cI cZ n (fo_cp G) va mk ++ wP ph hq cI vs (nI L))) (wO h f f1 f2 ph ++ wF f fa fb fc cI cZ n (fo_cp G) va mk ++ wP ph hq cI (fillI (fo_pL G j k) (fun t => nI (fo_pt G j k t)) vs) (nI (fo_pL G j k))) := vd_same hD rfl
    have hLL : fo_pL G j k ≤ n := fo_pL_le F hro hj hk
    have hL1 : 1 ≤ fo_pL G j k := Nat.succ_le_succ (Nat.zero_le _)
    have hLL2 : fo_pL G j k ≤ 64 := Nat.le_trans hLL hn
    refine lv_iload_n hx hb dX2_pathMaximum_13 rfl (lv_at hl 2 rfl) ?_
    refine lv_istore (lv' := [(4, .int (nI j)), (3, .int (pE n G (nI j) (nI k))), (0, .ref h), (1, .int (nI j)), (2, .int (nI k))]) hx hb dX2_pathMaximum_14 hl (by decide) rfl (fun ls hl => ?_)
    refine lv_iconst (v := nI 1) hx hb dX2_pathMaximum_16 (by decide) ?_
    refine lv_istore (lv' := [(5, .int (nI 1)), (4, .int (nI j)), (3, .int (pE n G (nI j) (nI k))), (0, .ref h), (1, .int (nI j)), (2, .int (nI k))]) hx hb dX2_pathMaximum_17 hl (by decide) rfl (fun ls hl => ?_)
    have L19 : ∀ (k19_ : Nat) (i : Nat), 1 ≤ i → i ≤ fo_pL G j k → fo_pL G j k - i < k19_ → ∀ (H : Heap) (locs : List Loc), va_P D vwCl (wO h f f1 f2 ph ++ wF f fa fb fc cI cZ n (fo_cp G) va mk ++ wP ph hq cI (fillI (fo_pL G j k) (fun t => nI (fo_pt G j k t)) vs) (nI (fo_pL G j k))) H → va_D (adr (wO h f f1 f2 ph ++ wF f fa fb fc cI cZ n (fo_cp G) va mk ++ wP ph hq cI vs (nI L))) (wO h f f1 f2 ph ++ wF f fa fb fc cI cZ n (fo_cp G) va mk ++ wP ph hq cI (fillI (fo_pL G j k) (fun t => nI (fo_pt G j k t)) vs) (nI (fo_pL G j k))) → va_S (adr (wO h f f1 f2 ph ++ wF f fa fb fc cI cZ n (fo_cp G) va mk ++ wP ph hq cI vs (nI L))) s.heap H locs → ∀ ls, lv_has ls 6 [(0, .ref h), (4, .int (nI (pMax va (fo_pt G j k) i))), (5, .int (nI i))] → Ww0 p l e wsX2_pathMaximum 6 140 s m [.ref h, .int (nI j), .int (nI k)] below meth c D (wO h f f1 f2 ph ++ wF f fa fb fc cI cZ n (fo_cp G) va mk ++ wP ph hq cI vs (nI L)) (wO h f f1 f2 ph ++ wF f fa fb fc cI cZ n (fo_cp G) va mk ++ wP ph hq cI (pvV n G vs (nI j) (nI k)) (nI (pvL n G L (nI j) (nI k)))) (some (.int (gp n G (nI j) (nI k) (fun a b => nI (pMax va (fo_pt G a b) (fo_pL G a b))) (-100000001) (-100000004)))) H locs (F0 m 19 ls []) := by
      intro k19_
      induction k19_ with
      | zero => intro i hi1 hi hk19_; exact absurd hk19_ (Nat.not_lt_zero _)
      | succ k19_ ih19 =>
        intro i hi1 hi hk19_ H locs hP hD hS ls hl
        have hbl : (pMax va (fo_pt G j k) i) < n := pMax_lt (fun t => fo_pt_lt F hj hk t) i
        refine lv_iload hx hb dX2_pathMaximum_19 (lv_at hl 2 rfl) ?_
        refine lv_aload_n hx hb dX2_pathMaximum_21 rfl (lv_at hl 0 rfl) ?_
        refine va_get (D := D) (ci := 2) (v := .ref ph) (C := RX2) (T := TX2) (N := 4) hx hb hts hin2 hown hK hP 0 rfl rfl 3 (by decide) hf25 (fun _ h9 => h9) rfl dX2_pathMaximum_22 ?_
        refine rd_call ⟨hx, hb, hml, hown, hts⟩ (c_X1_length l D cI cZ ph hq (fillI (fo_pL G j k) (fun t => nI (fo_pt G j k t)) vs) (fo_pL G j k) hLL2) (cwV 0 hts gX2_pathMaximum_X1_length rfl rfl rfl (by decide +kernel) ⟨Nat.le_of_ble_eq_true rfl, Nat.le_of_ble_eq_true rfl⟩) (hP.sub (ws' := wP ph hq cI (fillI (fo_pL G j k) (fun t => nI (fo_pt G j k t)) vs) (nI (fo_pL G j k))) [5, 6] rfl) hK rfl rfl rfl hl rfl (Nat.le_of_ble_eq_true rfl) dX2_pathMaximum_25 ⟨Nat.zero_le _, Nat.zero_le _⟩ ?_
        refine lv_icmp_ge (tgt := 76) hx hb dX2_pathMaximum_28 (by decide) (fun c_28 => ?_) (fun c_28 => ?_)
        · skip
          have c_28 := cn_le (a := (fo_pL G j k)) (b := i) (by omega) (by omega) c_28
          refine lv_iload hx hb dX2_pathMaximum_76 (lv_at hl 1 rfl) ?_
          have hP : va_P D vwCl (wO h f f1 f2 ph ++ wF f fa fb fc cI cZ n (fo_cp G) va mk ++ wP ph hq cI (pvV n G vs (nI j) (nI k)) (nI (pvL n G L (nI j) (nI k)))) H := by rw [pvV_t hj hk hn hro, pvL_t hj hk hn hro]; exact hP
          exact wr_i hx hb hr hlocks hP hS (by rw [gp_t hj hk hn hro, show i = fo_pL G j k by omega]) dX2_pathMaximum_78
        · skip
          have c_28 := cn_nle (a := (fo_pL G j k)) (b := i) (by omega) (by omega) c_28
          refine lv_aload_n hx hb dX2_pathMaximum_31 rfl (lv_at hl 0 rfl) ?_
          refine va_get (D := D) (ci := 2) (v := .ref f) (C := RX2) (T := TX2) (N := 4) hx hb hts hin2 hown hK hP 0 rfl rfl 0 (by decide) hf10 (fun _ h9 => h9) rfl dX2_pathMaximum_32 ?_
          refine lv_aload_n hx hb dX2_pathMaximum_35 rfl (lv_at hl 0 rfl) ?_
          refine va_get (D := D) (ci := 2) (v := .ref ph) (C := RX2) (T := TX2) (N := 4) hx hb hts hin2 hown hK hP 0 rfl rfl 3 (by decide) hf25 (fun _ h9 => h9) rfl dX2_pathMaximum_36 ?_
          refine lv_iload hx hb dX2_pathMaximum_39 (lv_at hl 2 rfl) ?_
          refine rd_call ⟨hx, hb, hml, hown, hts⟩ (c_X1_vertexAt l D cI cZ ph hq (fillI (fo_pL G j k) (fun t => nI (fo_pt G j k t)) vs) (fo_pL G j k) hLL2 i c_28) (cwV 1 hts gX2_pathMaximum_X1_vertexAt rfl rfl rfl (by decide +kernel) ⟨Nat.le_of_ble_eq_true rfl, Nat.le_of_ble_eq_true rfl⟩) (hP.sub (ws' := wP ph hq cI (fillI (fo_pL G j k) (fun t => nI (fo_pt G j k t)) vs) (nI (fo_pL G j k))) [5, 6] rfl) hK rfl rfl rfl hl rfl (Nat.le_of_ble_eq_true rfl) dX2_pathMaximum_41 ⟨Nat.zero_le _, Nat.zero_le _⟩ ?_
          rw [fillI_lt _ _ c_28]
          have hpi := fo_pt_lt F hj hk i
          refine rd_call ⟨hx, hb, hml, hown, hts⟩ (c_X0_valueOf l D cI cZ f fa fb fc n (fo_cp G) va mk (fo_pt G j k i) hpi hn) (cwV 1 hts gX2_pathMaximum_X0_valueOf rfl rfl rfl (by decide +kernel) ⟨Nat.le_of_ble_eq_true rfl, Nat.le_of_ble_eq_true rfl⟩) (hP.sub (ws' := wF f fa fb fc cI cZ n (fo_cp G) va mk) [1, 2, 3, 4] rfl) hK rfl rfl rfl hl rfl (Nat.le_of_ble_eq_true rfl) dX2_pathMaximum_44 ⟨Nat.zero_le _, Nat.zero_le _⟩ ?_
          refine lv_aload_n hx hb dX2_pathMaximum_47 rfl (lv_at hl 0 rfl) ?_
          refine va_get (D := D) (ci := 2) (v := .ref f) (C := RX2) (T := TX2) (N := 4) hx hb hts hin2 hown hK hP 0 rfl rfl 0 (by decide) hf10 (fun _ h9 => h9) rfl dX2_pathMaximum_48 ?_
          refine lv_iload hx hb dX2_pathMaximum_51 (lv_at hl 1 rfl) ?_
          refine rd_call ⟨hx, hb, hml, hown, hts⟩ (c_X0_valueOf l D cI cZ f fa fb fc n (fo_cp G) va mk (pMax va (fo_pt G j k) i) hbl hn) (cwV 1 hts gX2_pathMaximum_X0_valueOf rfl rfl rfl (by decide +kernel) ⟨Nat.le_of_ble_eq_true rfl, Nat.le_of_ble_eq_true rfl⟩) (hP.sub (ws' := wF f fa fb fc cI cZ n (fo_cp G) va mk) [1, 2, 3, 4] rfl) hK rfl rfl rfl hl rfl (Nat.le_of_ble_eq_true rfl) dX2_pathMaximum_53 ⟨Nat.zero_le _, Nat.zero_le _⟩ ?_
          refine lv_icmp_le (tgt := 70) hx hb dX2_pathMaximum_56 (by decide) (fun c_56 => ?_) (fun c_56 => ?_)
          · skip
            refine lv_iinc (v := nI (i + 1)) (lv' := [(5, .int (nI (i + 1))), (0, .ref h), (4, .int (nI (pMax va (fo_pt G j k) i)))]) hx hb dX2_pathMaximum_70 hl (k := 2) rfl (nI_1 i) (by decide) rfl (fun ls hl => ?_)
            refine lv_goto (tgt := 19) hx hb dX2_pathMaximum_73 (by decide) ?_
            exact ih19 (i + 1) (by omega) (by omega) (by omega) _ _ hP hD hS ls (by rw [pMax_n (Int32.not_lt.mpr c_56)]; exact lv_sub hl [1, 2, 0] rfl)
          · skip
            refine lv_aload_n hx hb dX2_pathMaximum_59 rfl (lv_at hl 0 rfl) ?_
            refine va_get (D := D) (ci := 2) (v := .ref ph) (C := RX2) (T := TX2) (N := 4) hx hb hts hin2 hown hK hP 0 rfl rfl 3 (by decide) hf25 (fun _ h9 => h9) rfl dX2_pathMaximum_60 ?_
            refine lv_iload hx hb dX2_pathMaximum_63 (lv_at hl 2 rfl) ?_
            refine rd_call ⟨hx, hb, hml, hown, hts⟩ (c_X1_vertexAt l D cI cZ ph hq (fillI (fo_pL G j k) (fun t => nI (fo_pt G j k t)) vs) (fo_pL G j k) hLL2 i c_28) (cwV 1 hts gX2_pathMaximum_X1_vertexAt rfl rfl rfl (by decide +kernel) ⟨Nat.le_of_ble_eq_true rfl, Nat.le_of_ble_eq_true rfl⟩) (hP.sub (ws' := wP ph hq cI (fillI (fo_pL G j k) (fun t => nI (fo_pt G j k t)) vs) (nI (fo_pL G j k))) [5, 6] rfl) hK rfl rfl rfl hl rfl (Nat.le_of_ble_eq_true rfl) dX2_pathMaximum_65 ⟨Nat.zero_le _, Nat.zero_le _⟩ ?_
            rw [fillI_lt _ _ c_28]
            have hpi := fo_pt_lt F hj hk i
            refine lv_istore (lv' := [(4, .int (nI (fo_pt G j k i))), (0, .ref h), (5, .int (nI i))]) hx hb dX2_pathMaximum_68 hl (by decide) rfl (fun ls hl => ?_)
            refine lv_iinc (v := nI (i + 1)) (lv' := [(5, .int (nI (i + 1))), (4, .int (nI (fo_pt G j k i))), (0, .ref h)]) hx hb dX2_pathMaximum_70 hl (k := 2) rfl (nI_1 i) (by decide) rfl (fun ls hl => ?_)
            refine lv_goto (tgt := 19) hx hb dX2_pathMaximum_73 (by decide) ?_
            exact ih19 (i + 1) (by omega) (by omega) (by omega) _ _ hP hD hS ls (by rw [pMax_y (Int32.not_le.mp c_56)]; exact lv_sub hl [2, 1, 0] rfl)
    exact L19 (fo_pL G j k - 1 + 1) 1 (Nat.le_refl _) hL1 (Nat.lt_succ_self _) _ _ hP hD hS ls (by rw [pMax_1, fo_pt_0]; exact lv_sub hl [3, 1, 0] rfl)
  · skip
    refine lv_iload_n hx hb dX2_pathMaximum_11 rfl (lv_at hl 0 rfl) ?_
    exact wr_i hx hb hr hlocks hP hS (pE_no hn c_8 _ _ _ _) dX2_pathMaximum_12
set_option maxHeartbeats 4000000 in
set_option maxRecDepth 100000 in
theorem c_X2_reach (l : Launch) (D : va_G) (cI cZ : ClassId) (h : Nat) (f1 : Nat) (f2 : Nat) (ph : Nat) (f : Nat) (fa : Nat) (fb : Nat) (fc : Nat) (n : Nat) (G : Nat → Nat) (va : Nat → Int32) (mk : Nat → Bool) (F : fo_ok n G) (hq : Nat) (vs : Nat → Int32) (L : Nat) (hL : L ≤ 64) (u : Int32) (v : Int32) (x : Int32) : WrM l yX2_reach wsX2_reach 6 140 D cI cZ (wO h f f1 f2 ph ++ wF f fa fb fc cI cZ n (fo_cp G) va mk ++ wP ph hq cI vs (nI L)) (wO h f f1 f2 ph ++ wF f fa fb fc cI cZ n (fo_cp G) va mk ++ wP ph hq cI (pvV n G vs u v) (nI (pvL n G L u v))) [.ref h, .int u, .int v, .int x] (some (.int (gp n G u v (fun a b => pRch va (fo_pt G a b) x (fo_pL G a b) 0) (-100000001) (-100000004)))) := by
  refine WrM.of (cc := cX2_reach) (maxL := 7) (ret := (some .int)) (by decide) rfl (Nat.le_of_ble_eq_true rfl) ?_
  intro p e s m below meth c hx hb hr hml hown hts hlocks hP hK hD hS ls hl
  have hown : s.vm.findClass RX2 = some m.cls := hown
  have hl : lv_has ls 7 [(0, .ref h), (1, .int u), (2, .int v), (3, .int x)] := hl
  have hP : va_P D vwCl (wO h f f1 f2 ph ++ wF f fa fb fc cI cZ n (fo_cp G) va mk ++ wP ph hq cI vs (nI L)) s.heap := hP
  have hf25 := hts (.fieldLink RX2 25 "DynamicForest" "path" "LDynamicForest$Path;") (by decide +kernel)
  have hf10 := hts (.fieldLink RX2 10 "DynamicForest" "forest" "LDynamicForest$Forest;") (by decide +kernel)
  have hk59 := hts (.constant RX2 59 (-100000007)) (by decide +kernel)
  have hin2 : ∀ w ∈ u_ws RX2 TX2 4, w ∈ wsX2_reach := by decide +kernel
  have hn : n ≤ 64 := F.2.1
  refine lv_aload_n hx hb dX2_reach_0 rfl (lv_at hl 0 rfl) ?_
  refine lv_iload_n hx hb dX2_reach_1 rfl (lv_at hl 1 rfl) ?_
  refine lv_iload_n hx hb dX2_reach_2 rfl (lv_at hl 2 rfl) ?_
  refine wr_call (V1 := wO h f f1 f2 ph ++ wF f fa fb fc cI cZ n (fo_cp G) va mk ++ wP ph hq cI (pvV n G vs u v) (nI (pvL n G L u v))) ⟨hx, hb, hml, hown, hts⟩ (c_X2_tracePath l D cI cZ h f1 f2 ph f fa fb fc n G va mk F hq vs L hL u v) (cwV 2 hts gX2_reach_X2_tracePath rfl rfl rfl (by decide +kernel) ⟨Nat.le_of_ble_eq_true rfl, Nat.le_of_ble_eq_true rfl⟩) hP hK hD hS [0, 1, 2, 3, 4, 5, 6] [] [0, 1, 2, 3, 4, 5, 6] rfl rfl (by decide) rfl rfl rfl rfl rfl hl rfl (Nat.le_of_ble_eq_true rfl) dX2_reach_3 ⟨Nat.zero_le _, Nat.zero_le _⟩ (fun H locs hP hD hS => ?_)
  refine lv_istore (lv' := [(4, .int (pE n G u v)), (0, .ref h), (1, .int u), (2, .int v), (3, .int x)]) hx hb dX2_reach_6 hl (by decide) rfl (fun ls hl => ?_)
  refine lv_iload hx hb dX2_reach_8 (lv_at hl 0 rfl) ?_
  refine lv_if_eq (tgt := 16) hx hb dX2_reach_10 (by decide) (fun c_10 => ?_) (fun c_10 => ?_)
  · skip
    obtain ⟨j, k, hj, hk, rfl, rfl, hro⟩ := pE_ok hn c_10
    rw [pvV_t hj hk hn hro, pvL_t hj hk hn hro] at hP
    have hD : va_D (adr (wO h f f1 f2 ph ++ wF f fa fb fc cI cZ n (fo_cp G) va mk ++ wP ph hq cI vs (nI L))) (wO h f f1 f2 ph ++ wF f fa fb fc cI cZ n (fo_cp G) va mk ++ wP ph hq cI (fillI (fo_pL G j k) (fun t => nI (fo_pt G j k t)) vs) (nI (fo_pL G j k))) := vd_same hD rfl
    have hLL : fo_pL G j k ≤ n := fo_pL_le F hro hj hk
    have hL1 : 1 ≤ fo_pL G j k := Nat.succ_le_succ (Nat.zero_le _)
    have hLL2 : fo_pL G j k ≤ 64 := Nat.le_trans hLL hn
    refine lv_iconst (v := 0) hx hb dX2_reach_16 (by decide) ?_
    refine lv_istore (lv' := [(5, .int 0), (4, .int (pE n G (nI j) (nI k))), (0, .ref h), (1, .int (nI j)), (2, .int (nI k)), (3, .int x)]) hx hb dX2_reach_17 hl (by decide) rfl (fun ls hl => ?_)
    refine lv_iconst (v := nI 0) hx hb dX2_reach_19 (by decide) ?_
    refine lv_istore (lv' := [(6, .int (nI 0)), (5, .int 0), (4, .int (pE n G (nI j) (nI k))), (0, .ref h), (1, .int (nI j)), (2, .int (nI k)), (3, .int x)]) hx hb dX2_reach_20 hl (by decide) rfl (fun ls hl => ?_)
    have L22 : ∀ (k22_ : Nat) (i : Nat), i ≤ fo_pL G j k → pRch va (fo_pt G j k) x (fo_pL G j k - i) i = pRch va (fo_pt G j k) x (fo_pL G j k) 0 → fo_pL G j k - i < k22_ → ∀ (H : Heap) (locs : List Loc), va_P D vwCl (wO h f f1 f2 ph ++ wF f fa fb fc cI cZ n (fo_cp G) va mk ++ wP ph hq cI (fillI (fo_pL G j k) (fun t => nI (fo_pt G j k t)) vs) (nI (fo_pL G j k))) H → va_D (adr (wO h f f1 f2 ph ++ wF f fa fb fc cI cZ n (fo_cp G) va mk ++ wP ph hq cI vs (nI L))) (wO h f f1 f2 ph ++ wF f fa fb fc cI cZ n (fo_cp G) va mk ++ wP ph hq cI (fillI (fo_pL G j k) (fun t => nI (fo_pt G j k t)) vs) (nI (fo_pL G j k))) → va_S (adr (wO h f f1 f2 ph ++ wF f fa fb fc cI cZ n (fo_cp G) va mk ++ wP ph hq cI vs (nI L))) s.heap H locs → ∀ ls, lv_has ls 7 [(0, .ref h), (3, .int x), (5, .int (pSum va (fo_pt G j k) i)), (6, .int (nI i))] → Ww0 p l e wsX2_reach 6 140 s m [.ref h, .int (nI j), .int (nI k), .int x] below meth c D (wO h f f1 f2 ph ++ wF f fa fb fc cI cZ n (fo_cp G) va mk ++ wP ph hq cI vs (nI L)) (wO h f f1 f2 ph ++ wF f fa fb fc cI cZ n (fo_cp G) va mk ++ wP ph hq cI (pvV n G vs (nI j) (nI k)) (nI (pvL n G L (nI j) (nI k)))) (some (.int (gp n G (nI j) (nI k) (fun a b => pRch va (fo_pt G a b) x (fo_pL G a b) 0) (-100000001) (-100000004)))) H locs (F0 m 22 ls []) := by
      intro k22_
      induction k22_ with
      | zero => intro i hi hrc hk22_; exact absurd hk22_ (Nat.not_lt_zero _)
      | succ k22_ ih22 =>
        intro i hi hrc hk22_ H locs hP hD hS ls hl
        refine lv_iload hx hb dX2_reach_22 (lv_at hl 3 rfl) ?_
        refine lv_aload_n hx hb dX2_reach_24 rfl (lv_at hl 0 rfl) ?_
        refine va_get (D := D) (ci := 2) (v := .ref ph) (C := RX2) (T := TX2) (N := 4) hx hb hts hin2 hown hK hP 0 rfl rfl 3 (by decide) hf25 (fun _ h9 => h9) rfl dX2_reach_25 ?_
        refine rd_call ⟨hx, hb, hml, hown, hts⟩ (c_X1_length l D cI cZ ph hq (fillI (fo_pL G j k) (fun t => nI (fo_pt G j k t)) vs) (fo_pL G j k) hLL2) (cwV 0 hts gX2_reach_X1_length rfl rfl rfl (by decide +kernel) ⟨Nat.le_of_ble_eq_true rfl, Nat.le_of_ble_eq_true rfl⟩) (hP.sub (ws' := wP ph hq cI (fillI (fo_pL G j k) (fun t => nI (fo_pt G j k t)) vs) (nI (fo_pL G j k))) [5, 6] rfl) hK rfl rfl rfl hl rfl (Nat.le_of_ble_eq_true rfl) dX2_reach_28 ⟨Nat.zero_le _, Nat.zero_le _⟩ ?_
        refine lv_icmp_ge (tgt := 77) hx hb dX2_reach_31 (by decide) (fun c_31 => ?_) (fun c_31 => ?_)
        · skip
          have c_31 := cn_le (a := (fo_pL G j k)) (b := i) (by omega) (by omega) c_31
          refine lv_ldc (own := RX2) hx hb hown hk59 dX2_reach_77 ?_
          have hP : va_P D vwCl (wO h f f1 f2 ph ++ wF f fa fb fc cI cZ n (fo_cp G) va mk ++ wP ph hq cI (pvV n G vs (nI j) (nI k)) (nI (pvL n G L (nI j) (nI k)))) H := by rw [pvV_t hj hk hn hro, pvL_t hj hk hn hro]; exact hP
          exact wr_i hx hb hr hlocks hP hS (by rw [gp_t hj hk hn hro, ← hrc]; exact (pRch_e c_31).symm) dX2_reach_79
        · skip
          have c_31 := cn_nle (a := (fo_pL G j k)) (b := i) (by omega) (by omega) c_31
          refine lv_iload hx hb dX2_reach_34 (lv_at hl 2 rfl) ?_
          refine lv_aload_n hx hb dX2_reach_36 rfl (lv_at hl 0 rfl) ?_
          refine va_get (D := D) (ci := 2) (v := .ref f) (C := RX2) (T := TX2) (N := 4) hx hb hts hin2 hown hK hP 0 rfl rfl 0 (by decide) hf10 (fun _ h9 => h9) rfl dX2_reach_37 ?_
          refine lv_aload_n hx hb dX2_reach_40 rfl (lv_at hl 0 rfl) ?_
          refine va_get (D := D) (ci := 2) (v := .ref ph) (C := RX2) (T := TX2) (N := 4) hx hb hts hin2 hown hK hP 0 rfl rfl 3 (by decide) hf25 (fun _ h9 => h9) rfl dX2_reach_41 ?_
          refine lv_iload hx hb dX2_reach_44 (lv_at hl 3 rfl) ?_
          refine rd_call ⟨hx, hb, hml, hown, hts⟩ (c_X1_vertexAt l D cI cZ ph hq (fillI (fo_pL G j k) (fun t => nI (fo_pt G j k t)) vs) (fo_pL G j k) hLL2 i c_31) (cwV 1 hts gX2_reach_X1_vertexAt rfl rfl rfl (by decide +kernel) ⟨Nat.le_of_ble_eq_true rfl, Nat.le_of_ble_eq_true rfl⟩) (hP.sub (ws' := wP ph hq cI (fillI (fo_pL G j k) (fun t => nI (fo_pt G j k t)) vs) (nI (fo_pL G j k))) [5, 6] rfl) hK rfl rfl rfl hl rfl (Nat.le_of_ble_eq_true rfl) dX2_reach_46 ⟨Nat.zero_le _, Nat.zero_le _⟩ ?_
          rw [fillI_lt _ _ c_31]
          have hpi := fo_pt_lt F hj hk i
          refine rd_call ⟨hx, hb, hml, hown, hts⟩ (c_X0_valueOf l D cI cZ f fa fb fc n (fo_cp G) va mk (fo_pt G j k i) hpi hn) (cwV 1 hts gX2_reach_X0_valueOf rfl rfl rfl (by decide +kernel) ⟨Nat.le_of_ble_eq_true rfl, Nat.le_of_ble_eq_true rfl⟩) (hP.sub (ws' := wF f fa fb fc cI cZ n (fo_cp G) va mk) [1, 2, 3, 4] rfl) hK rfl rfl rfl hl rfl (Nat.le_of_ble_eq_true rfl) dX2_reach_49 ⟨Nat.zero_le _, Nat.zero_le _⟩ ?_
          refine lv_iadd hx hb dX2_reach_52 ?_
          refine lv_istore (lv' := [(5, .int ((pSum va (fo_pt G j k) i) + (va (fo_pt G j k i)))), (0, .ref h), (3, .int x), (6, .int (nI i))]) hx hb dX2_reach_53 hl (by decide) rfl (fun ls hl => ?_)
          refine lv_iload hx hb dX2_reach_55 (lv_at hl 0 rfl) ?_
          refine lv_iload_n hx hb dX2_reach_57 rfl (lv_at hl 2 rfl) ?_
          refine lv_icmp_lt (tgt := 71) hx hb dX2_reach_58 (by decide) (fun c_58 => ?_) (fun c_58 => ?_)
          · skip
            refine lv_iinc (v := nI (i + 1)) (lv' := [(6, .int (nI (i + 1))), (5, .int ((pSum va (fo_pt G j k) i) + (va (fo_pt G j k i)))), (0, .ref h), (3, .int x)]) hx hb dX2_reach_71 hl (k := 3) rfl (nI_1 i) (by decide) rfl (fun ls hl => ?_)
            refine lv_goto (tgt := 22) hx hb dX2_reach_74 (by decide) ?_
            exact ih22 (i + 1) (by omega) (by rw [← hrc]; exact (pRch_n c_31 (Int32.not_le.mpr c_58)).symm) (by omega) _ _ hP hD hS ls (lv_sub hl [2, 3, 1, 0] rfl)
          · skip
            refine lv_aload_n hx hb dX2_reach_61 rfl (lv_at hl 1 rfl) ?_
            refine va_get (D := D) (ci := 2) (v := .ref ph) (C := RX2) (T := TX2) (N := 4) hx hb hts hin2 hown hK hP 0 rfl rfl 3 (by decide) hf25 (fun _ h9 => h9) rfl dX2_reach_62 ?_
            refine lv_iload hx hb dX2_reach_65 (lv_at hl 3 rfl) ?_
            refine rd_call ⟨hx, hb, hml, hown, hts⟩ (c_X1_vertexAt l D cI cZ ph hq (fillI (fo_pL G j k) (fun t => nI (fo_pt G j k t)) vs) (fo_pL G j k) hLL2 i c_31) (cwV 1 hts gX2_reach_X1_vertexAt rfl rfl rfl (by decide +kernel) ⟨Nat.le_of_ble_eq_true rfl, Nat.le_of_ble_eq_true rfl⟩) (hP.sub (ws' := wP ph hq cI (fillI (fo_pL G j k) (fun t => nI (fo_pt G j k t)) vs) (nI (fo_pL G j k))) [5, 6] rfl) hK rfl rfl rfl hl rfl (Nat.le_of_ble_eq_true rfl) dX2_reach_67 ⟨Nat.zero_le _, Nat.zero_le _⟩ ?_
            rw [fillI_lt _ _ c_31]
            have hpi := fo_pt_lt F hj hk i
            have hP : va_P D vwCl (wO h f f1 f2 ph ++ wF f fa fb fc cI cZ n (fo_cp G) va mk ++ wP ph hq cI (pvV n G vs (nI j) (nI k)) (nI (pvL n G L (nI j) (nI k)))) H := by rw [pvV_t hj hk hn hro, pvL_t hj hk hn hro]; exact hP
            exact wr_i hx hb hr hlocks hP hS (by rw [gp_t hj hk hn hro, ← hrc]; exact (pRch_y c_31 (Int32.not_lt.mp c_58)).symm) dX2_reach_70
    exact L22 (fo_pL G j k - 0 + 1) 0 (Nat.zero_le _) rfl (Nat.lt_succ_self _) _ _ hP hD hS ls (lv_sub hl [3, 6, 1, 0] rfl)
  · skip
    refine lv_iload hx hb dX2_reach_13 (lv_at hl 0 rfl) ?_
    exact wr_i hx hb hr hlocks hP hS (pE_no hn c_10 _ _ _ _) dX2_reach_15
set_option maxHeartbeats 4000000 in
set_option maxRecDepth 100000 in
theorem c_X2_addOnPath (l : Launch) (D : va_G) (cI cZ : ClassId) (h : Nat) (f1 : Nat) (f2 : Nat) (ph : Nat) (f : Nat) (fa : Nat) (fb : Nat) (fc : Nat) (n : Nat) (G : Nat → Nat) (va : Nat → Int32) (mk : Nat → Bool) (F : fo_ok n G) (hq : Nat) (vs : Nat → Int32) (L : Nat) (hL : L ≤ 64) (u : Int32) (v : Int32) (x : Int32) : WrM l yX2_addOnPath wsX2_addOnPath 6 140 D cI cZ (wO h f f1 f2 ph ++ wF f fa fb fc cI cZ n (fo_cp G) va mk ++ wP ph hq cI vs (nI L)) (wO h f f1 f2 ph ++ wF f fa fb fc cI cZ n (fo_cp G) (gp n G u v (fun a b => if oAdd va (fo_pt G a b) x (fo_pL G a b) = true then vAdd va (fo_pt G a b) x (fo_pL G a b) else va) va va) mk ++ wP ph hq cI (pvV n G vs u v) (nI (pvL n G L u v))) [.ref h, .int u, .int v, .int x] (some (.int (gp n G u v (fun a b => rAdd va (fo_pt G a b) x (fo_pL G a b)) (-100000001) (-100000004)))) := by
  refine WrM.of (cc := cX2_addOnPath) (maxL := 7) (ret := (some .int)) (by decide) rfl (Nat.le_of_ble_eq_true rfl) ?_
  intro p e s m below meth c hx hb hr hml hown hts hlocks hP hK hD hS ls hl
  have hown : s.vm.findClass RX2 = some m.cls := hown
  have hl : lv_has ls 7 [(0, .ref h), (1, .int u), (2, .int v), (3, .int x)] := hl
  have hP : va_P D vwCl (wO h f f1 f2 ph ++ wF f fa fb fc cI cZ n (fo_cp G) va mk ++ wP ph hq cI vs (nI L)) s.heap := hP
  have hk33 := hts (.constant RX2 33 (-100000002)) (by decide +kernel)
  have hf25 := hts (.fieldLink RX2 25 "DynamicForest" "path" "LDynamicForest$Path;") (by decide +kernel)
  have hf10 := hts (.fieldLink RX2 10 "DynamicForest" "forest" "LDynamicForest$Forest;") (by decide +kernel)
  have hk100 := hts (.constant RX2 100 (-100000005)) (by decide +kernel)
  have hin2 : ∀ w ∈ u_ws RX2 TX2 4, w ∈ wsX2_addOnPath := by decide +kernel
  have hn : n ≤ 64 := F.2.1
  refine lv_aload_n hx hb dX2_addOnPath_0 rfl (lv_at hl 0 rfl) ?_
  refine lv_iload_n hx hb dX2_addOnPath_1 rfl (lv_at hl 1 rfl) ?_
  refine lv_iload_n hx hb dX2_addOnPath_2 rfl (lv_at hl 2 rfl) ?_
  refine wr_call (V1 := wO h f f1 f2 ph ++ wF f fa fb fc cI cZ n (fo_cp G) va mk ++ wP ph hq cI (pvV n G vs u v) (nI (pvL n G L u v))) ⟨hx, hb, hml, hown, hts⟩ (c_X2_tracePath l D cI cZ h f1 f2 ph f fa fb fc n G va mk F hq vs L hL u v) (cwV 2 hts gX2_addOnPath_X2_tracePath rfl rfl rfl (by decide +kernel) ⟨Nat.le_of_ble_eq_true rfl, Nat.le_of_ble_eq_true rfl⟩) hP hK hD hS [0, 1, 2, 3, 4, 5, 6] [] [0, 1, 2, 3, 4, 5, 6] rfl rfl (by decide) rfl rfl rfl rfl rfl hl rfl (Nat.le_of_ble_eq_true rfl) dX2_addOnPath_3 ⟨Nat.zero_le _, Nat.zero_le _⟩ (fun H locs hP hD hS => ?_)
  refine lv_istore (lv' := [(4, .int (pE n G u v)), (0, .ref h), (1, .int u), (2, .int v), (3, .int x)]) hx hb dX2_addOnPath_6 hl (by decide) rfl (fun ls hl => ?_)
  refine lv_iload hx hb dX2_addOnPath_8 (lv_at hl 0 rfl) ?_
  refine lv_if_eq (tgt := 16) hx hb dX2_addOnPath_10 (by decide) (fun c_10 => ?_) (fun c_10 => ?_)
  · skip
    obtain ⟨j, k, hj, hk, rfl, rfl, hro⟩ := pE_ok hn c_10
    rw [pvV_t hj hk hn hro, pvL_t hj hk hn hro] at hP
    have hD : va_D (adr (wO h f f1 f2 ph ++ wF f fa fb fc cI cZ n (fo_cp G) va mk ++ wP ph hq cI vs (nI L))) (wO h f f1 f2 ph ++ wF f fa fb fc cI cZ n (fo_cp G) va mk ++ wP ph hq cI (fillI (fo_pL G j k) (fun t => nI (fo_pt G j k t)) vs) (nI (fo_pL G j k))) := vd_same hD rfl
    have hLL : fo_pL G j k ≤ n := fo_pL_le F hro hj hk
    have hL1 : 1 ≤ fo_pL G j k := Nat.succ_le_succ (Nat.zero_le _)
    have hLL2 : fo_pL G j k ≤ 64 := Nat.le_trans hLL hn
    refine lv_iload_n hx hb dX2_addOnPath_16 rfl (lv_at hl 4 rfl) ?_
    refine rd_callS ⟨hx, hb, hml, hown, hts⟩ (c_X2_isValue l D cI cZ x) (va_cwS 1 hts gX2_addOnPath_X2_isValue rfl rfl rfl (by decide +kernel) ⟨Nat.le_of_ble_eq_true rfl, Nat.le_of_ble_eq_true rfl⟩) hK rfl hl rfl (Nat.le_of_ble_eq_true rfl) dX2_addOnPath_17 ⟨Nat.zero_le _, Nat.zero_le _⟩ ?_
    refine lv_if_ne (tgt := 26) hx hb dX2_addOnPath_20 (by decide) (fun c_20 => ?_) (fun c_20 => ?_)
    · skip
      have c_20 := bI_1 c_20
      refine lv_iconst (v := nI 0) hx hb dX2_addOnPath_26 (by decide) ?_
      refine lv_istore (lv' := [(5, .int (nI 0)), (4, .int (pE n G (nI j) (nI k))), (0, .ref h), (1, .int (nI j)), (2, .int (nI k)), (3, .int x)]) hx hb dX2_addOnPath_27 hl (by decide) rfl (fun ls hl => ?_)
      have L29 : ∀ (k29_ : Nat) (i : Nat), i ≤ fo_pL G j k → fAll (fun i => isV (va (fo_pt G j k i) + x)) i = true → fo_pL G j k - i < k29_ → ∀ (H : Heap) (locs : List Loc), va_P D vwCl (wO h f f1 f2 ph ++ wF f fa fb fc cI cZ n (fo_cp G) va mk ++ wP ph hq cI (fillI (fo_pL G j k) (fun t => nI (fo_pt G j k t)) vs) (nI (fo_pL G j k))) H → va_D (adr (wO h f f1 f2 ph ++ wF f fa fb fc cI cZ n (fo_cp G) va mk ++ wP ph hq cI vs (nI L))) (wO h f f1 f2 ph ++ wF f fa fb fc cI cZ n (fo_cp G) va mk ++ wP ph hq cI (fillI (fo_pL G j k) (fun t => nI (fo_pt G j k t)) vs) (nI (fo_pL G j k))) → va_S (adr (wO h f f1 f2 ph ++ wF f fa fb fc cI cZ n (fo_cp G) va mk ++ wP ph hq cI vs (nI L))) s.heap H locs → ∀ ls, lv_has ls 7 [(0, .ref h), (3, .int x), (5, .int (nI i))] → Ww0 p l e wsX2_addOnPath 6 140 s m [.ref h, .int (nI j), .int (nI k), .int x] below meth c D (wO h f f1 f2 ph ++ wF f fa fb fc cI cZ n (fo_cp G) va mk ++ wP ph hq cI vs (nI L)) (wO h f f1 f2 ph ++ wF f fa fb fc cI cZ n (fo_cp G) (gp n G (nI j) (nI k) (fun a b => if oAdd va (fo_pt G a b) x (fo_pL G a b) = true then vAdd va (fo_pt G a b) x (fo_pL G a b) else va) va va) mk ++ wP ph hq cI (pvV n G vs (nI j) (nI k)) (nI (pvL n G L (nI j) (nI k)))) (some (.int (gp n G (nI j) (nI k) (fun a b => rAdd va (fo_pt G a b) x (fo_pL G a b)) (-100000001) (-100000004)))) H locs (F0 m 29 ls []) := by
        intro k29_
        induction k29_ with
        | zero => intro i hi ha hk29_; exact absurd hk29_ (Nat.not_lt_zero _)
        | succ k29_ ih29 =>
          intro i hi ha hk29_ H locs hP hD hS ls hl
          refine lv_iload hx hb dX2_addOnPath_29 (lv_at hl 2 rfl) ?_
          refine lv_aload_n hx hb dX2_addOnPath_31 rfl (lv_at hl 0 rfl) ?_
          refine va_get (D := D) (ci := 2) (v := .ref ph) (C := RX2) (T := TX2) (N := 4) hx hb hts hin2 hown hK hP 0 rfl rfl 3 (by decide) hf25 (fun _ h9 => h9) rfl dX2_addOnPath_32 ?_
          refine rd_call ⟨hx, hb, hml, hown, hts⟩ (c_X1_length l D cI cZ ph hq (fillI (fo_pL G j k) (fun t => nI (fo_pt G j k t)) vs) (fo_pL G j k) hLL2) (cwV 0 hts gX2_addOnPath_X1_length rfl rfl rfl (by decide +kernel) ⟨Nat.le_of_ble_eq_true rfl, Nat.le_of_ble_eq_true rfl⟩) (hP.sub (ws' := wP ph hq cI (fillI (fo_pL G j k) (fun t => nI (fo_pt G j k t)) vs) (nI (fo_pL G j k))) [5, 6] rfl) hK rfl rfl rfl hl rfl (Nat.le_of_ble_eq_true rfl) dX2_addOnPath_35 ⟨Nat.zero_le _, Nat.zero_le _⟩ ?_
          refine lv_icmp_ge (tgt := 74) hx hb dX2_addOnPath_38 (by decide) (fun c_38 => ?_) (fun c_38 => ?_)
          · skip
            have c_38 := cn_le (a := (fo_pL G j k)) (b := i) (by omega) (by omega) c_38
            have hall : fAll (fun i => isV (va (fo_pt G j k i) + x)) (fo_pL G j k) = true := by rw [show fo_pL G j k = i by omega]; exact ha
            refine lv_iconst (v := nI 0) hx hb dX2_addOnPath_74 (by decide) ?_
            refine lv_istore (lv' := [(5, .int (nI 0)), (0, .ref h), (3, .int x)]) hx hb dX2_addOnPath_75 hl (by decide) rfl (fun ls hl => ?_)
            have L77 : ∀ (k77_ : Nat) (i : Nat), i ≤ fo_pL G j k → fo_pL G j k - i < k77_ → ∀ (H : Heap) (locs : List Loc), va_P D vwCl (wO h f f1 f2 ph ++ wF f fa fb fc cI cZ n (fo_cp G) (vAdd va (fo_pt G j k) x i) mk ++ wP ph hq cI (fillI (fo_pL G j k) (fun t => nI (fo_pt G j k t)) vs) (nI (fo_pL G j k))) H → va_D (adr (wO h f f1 f2 ph ++ wF f fa fb fc cI cZ n (fo_cp G) va mk ++ wP ph hq cI vs (nI L))) (wO h f f1 f2 ph ++ wF f fa fb fc cI cZ n (fo_cp G) (vAdd va (fo_pt G j k) x i) mk ++ wP ph hq cI (fillI (fo_pL G j k) (fun t => nI (fo_pt G j k t)) vs) (nI (fo_pL G j k))) → va_S (adr (wO h f f1 f2 ph ++ wF f fa fb fc cI cZ n (fo_cp G) va mk ++ wP ph hq cI vs (nI L))) s.heap H locs → ∀ ls, lv_has ls 7 [(0, .ref h), (3, .int x), (5, .int (nI i))] → Ww0 p l e wsX2_addOnPath 6 140 s m [.ref h, .int (nI j), .int (nI k), .int x] below meth c D (wO h f f1 f2 ph ++ wF f fa fb fc cI cZ n (fo_cp G) va mk ++ wP ph hq cI vs (nI L)) (wO h f f1 f2 ph ++ wF f fa fb fc cI cZ n (fo_cp G) (gp n G (nI j) (nI k) (fun a b => if oAdd va (fo_pt G a b) x (fo_pL G a b) = true then vAdd va (fo_pt G a b) x (fo_pL G a b) else va) va va) mk ++ wP ph hq cI (pvV n G vs (nI j) (nI k)) (nI (pvL n G L (nI j) (nI k)))) (some (.int (gp n G (nI j) (nI k) (fun a b => rAdd va (fo_pt G a b) x (fo_pL G a b)) (-100000001) (-100000004)))) H locs (F0 m 77 ls []) := by
              intro k77_
              induction k77_ with
              | zero => intro i hi2 hk77_; exact absurd hk77_ (Nat.not_lt_zero _)
              | succ k77_ ih77 =>
                intro i hi2 hk77_ H locs hP hD hS ls hl
                refine lv_iload hx hb dX2_addOnPath_77 (lv_at hl 2 rfl) ?_
                refine lv_aload_n hx hb dX2_addOnPath_79 rfl (lv_at hl 0 rfl) ?_
                refine va_get (D := D) (ci := 2) (v := .ref ph) (C := RX2) (T := TX2) (N := 4) hx hb hts hin2 hown hK hP 0 rfl rfl 3 (by decide) hf25 (fun _ h9 => h9) rfl dX2_addOnPath_80 ?_
                refine rd_call ⟨hx, hb, hml, hown, hts⟩ (c_X1_length l D cI cZ ph hq (fillI (fo_pL G j k) (fun t => nI (fo_pt G j k t)) vs) (fo_pL G j k) hLL2) (cwV 0 hts gX2_addOnPath_X1_length rfl rfl rfl (by decide +kernel) ⟨Nat.le_of_ble_eq_true rfl, Nat.le_of_ble_eq_true rfl⟩) (hP.sub (ws' := wP ph hq cI (fillI (fo_pL G j k) (fun t => nI (fo_pt G j k t)) vs) (nI (fo_pL G j k))) [5, 6] rfl) hK rfl rfl rfl hl rfl (Nat.le_of_ble_eq_true rfl) dX2_addOnPath_83 ⟨Nat.zero_le _, Nat.zero_le _⟩ ?_
                refine lv_icmp_ge (tgt := 126) hx hb dX2_addOnPath_86 (by decide) (fun c_86 => ?_) (fun c_86 => ?_)
                · skip
                  have c_86 := cn_le (a := (fo_pL G j k)) (b := i) (by omega) (by omega) c_86
                  have en : i = fo_pL G j k := by omega
                  rw [en] at hP
                  have hD : va_D (adr (wO h f f1 f2 ph ++ wF f fa fb fc cI cZ n (fo_cp G) va mk ++ wP ph hq cI vs (nI L))) (wO h f f1 f2 ph ++ wF f fa fb fc cI cZ n (fo_cp G) (vAdd va (fo_pt G j k) x (fo_pL G j k)) mk ++ wP ph hq cI (fillI (fo_pL G j k) (fun t => nI (fo_pt G j k t)) vs) (nI (fo_pL G j k))) := vd_same hD rfl
                  refine lv_aload_n hx hb dX2_addOnPath_126 rfl (lv_at hl 0 rfl) ?_
                  refine va_get (D := D) (ci := 2) (v := .ref ph) (C := RX2) (T := TX2) (N := 4) hx hb hts hin2 hown hK hP 0 rfl rfl 3 (by decide) hf25 (fun _ h9 => h9) rfl dX2_addOnPath_127 ?_
                  refine rd_call ⟨hx, hb, hml, hown, hts⟩ (c_X1_length l D cI cZ ph hq (fillI (fo_pL G j k) (fun t => nI (fo_pt G j k t)) vs) (fo_pL G j k) hLL2) (cwV 0 hts gX2_addOnPath_X1_length rfl rfl rfl (by decide +kernel) ⟨Nat.le_of_ble_eq_true rfl, Nat.le_of_ble_eq_true rfl⟩) (hP.sub (ws' := wP ph hq cI (fillI (fo_pL G j k) (fun t => nI (fo_pt G j k t)) vs) (nI (fo_pL G j k))) [5, 6] rfl) hK rfl rfl rfl hl rfl (Nat.le_of_ble_eq_true rfl) dX2_addOnPath_130 ⟨Nat.zero_le _, Nat.zero_le _⟩ ?_
                  have hP : va_P D vwCl (wO h f f1 f2 ph ++ wF f fa fb fc cI cZ n (fo_cp G) (gp n G (nI j) (nI k) (fun a b => if oAdd va (fo_pt G a b) x (fo_pL G a b) = true then vAdd va (fo_pt G a b) x (fo_pL G a b) else va) va va) mk ++ wP ph hq cI (pvV n G vs (nI j) (nI k)) (nI (pvL n G L (nI j) (nI k)))) H := by rw [pvV_t hj hk hn hro, pvL_t hj hk hn hro]; rw [gp_t hj hk hn hro, if_pos (by unfold oAdd; rw [c_20, hall]; rfl)]; exact hP
                  exact wr_i hx hb hr hlocks hP hS (by rw [gp_t hj hk hn hro]; unfold rAdd; rw [c_20, hall]; rfl) dX2_addOnPath_133
                · skip
                  have c_86 := cn_nle (a := (fo_pL G j k)) (b := i) (by omega) (by omega) c_86
                  refine lv_aload_n hx hb dX2_addOnPath_89 rfl (lv_at hl 0 rfl) ?_
                  refine va_get (D := D) (ci := 2) (v := .ref ph) (C := RX2) (T := TX2) (N := 4) hx hb hts hin2 hown hK hP 0 rfl rfl 3 (by decide) hf25 (fun _ h9 => h9) rfl dX2_addOnPath_90 ?_
                  refine lv_iload hx hb dX2_addOnPath_93 (lv_at hl 2 rfl) ?_
                  refine rd_call ⟨hx, hb, hml, hown, hts⟩ (c_X1_vertexAt l D cI cZ ph hq (fillI (fo_pL G j k) (fun t => nI (fo_pt G j k t)) vs) (fo_pL G j k) hLL2 i c_86) (cwV 1 hts gX2_addOnPath_X1_vertexAt rfl rfl rfl (by decide +kernel) ⟨Nat.le_of_ble_eq_true rfl, Nat.le_of_ble_eq_true rfl⟩) (hP.sub (ws' := wP ph hq cI (fillI (fo_pL G j k) (fun t => nI (fo_pt G j k t)) vs) (nI (fo_pL G j k))) [5, 6] rfl) hK rfl rfl rfl hl rfl (Nat.le_of_ble_eq_true rfl) dX2_addOnPath_95 ⟨Nat.zero_le _, Nat.zero_le _⟩ ?_
                  rw [fillI_lt _ _ c_86]
                  have hpi := fo_pt_lt F hj hk i
                  refine lv_istore (lv' := [(6, .int (nI (fo_pt G j k i))), (0, .ref h), (3, .int x), (5, .int (nI i))]) hx hb dX2_addOnPath_98 hl (by decide) rfl (fun ls hl => ?_)
                  refine lv_aload_n hx hb dX2_addOnPath_100 rfl (lv_at hl 1 rfl) ?_
                  refine va_get (D := D) (ci := 2) (v := .ref f) (C := RX2) (T := TX2) (N := 4) hx hb hts hin2 hown hK hP 0 rfl rfl 0 (by decide) hf10 (fun _ h9 => h9) rfl dX2_addOnPath_101 ?_
                  refine lv_iload hx hb dX2_addOnPath_104 (lv_at hl 0 rfl) ?_
                  refine lv_aload_n hx hb dX2_addOnPath_106 rfl (lv_at hl 1 rfl) ?_
                  refine va_get (D := D) (ci := 2) (v := .ref f) (C := RX2) (T := TX2) (N := 4) hx hb hts hin2 hown hK hP 0 rfl rfl 0 (by decide) hf10 (fun _ h9 => h9) rfl dX2_addOnPath_107 ?_
                  refine lv_iload hx hb dX2_addOnPath_110 (lv_at hl 0 rfl) ?_
                  refine rd_call ⟨hx, hb, hml, hown, hts⟩ (c_X0_valueOf l D cI cZ f fa fb fc n (fo_cp G) (vAdd va (fo_pt G j k) x i) mk (fo_pt G j k i) hpi hn) (cwV 1 hts gX2_addOnPath_X0_valueOf rfl rfl rfl (by decide +kernel) ⟨Nat.le_of_ble_eq_true rfl, Nat.le_of_ble_eq_true rfl⟩) (hP.sub (ws' := wF f fa fb fc cI cZ n (fo_cp G) (vAdd va (fo_pt G j k) x i) mk) [1, 2, 3, 4] rfl) hK rfl rfl rfl hl rfl (Nat.le_of_ble_eq_true rfl) dX2_addOnPath_112 ⟨Nat.zero_le _, Nat.zero_le _⟩ ?_
                  refine lv_iload_n hx hb dX2_addOnPath_115 rfl (lv_at hl 2 rfl) ?_
                  refine lv_iadd hx hb dX2_addOnPath_116 ?_
                  refine wr_call (V1 := wO h f f1 f2 ph ++ wF f fa fb fc cI cZ n (fo_cp G) (upd (vAdd va (fo_pt G j k) x i) (fo_pt G j k i) (vAdd va (fo_pt G j k) x i (fo_pt G j k i) + x)) mk ++ wP ph hq cI (fillI (fo_pL G j k) (fun t => nI (fo_pt G j k t)) vs) (nI (fo_pL G j k))) ⟨hx, hb, hml, hown, hts⟩ (c_X0_putValue l D cI cZ f fa fb fc n (fo_cp G) (vAdd va (fo_pt G j k) x i) mk (fo_pt G j k i) hpi hn (vAdd va (fo_pt G j k) x i (fo_pt G j k i) + x)) (cwV 2 hts gX2_addOnPath_X0_putValue rfl rfl rfl (by decide +kernel) ⟨Nat.le_of_ble_eq_true rfl, Nat.le_of_ble_eq_true rfl⟩) hP hK hD hS [1, 2, 3, 4] [0, 5, 6] [0, 3, 4, 5, 6, 1, 2] rfl rfl (by decide) rfl rfl rfl rfl rfl hl rfl (Nat.le_of_ble_eq_true rfl) dX2_addOnPath_117 ⟨Nat.zero_le _, Nat.zero_le _⟩ (fun H locs hP hD hS => ?_)
                  have hP : va_P D vwCl (wO h f f1 f2 ph ++ wF f fa fb fc cI cZ n (fo_cp G) (vAdd va (fo_pt G j k) x (i + 1)) mk ++ wP ph hq cI (fillI (fo_pL G j k) (fun t => nI (fo_pt G j k t)) vs) (nI (fo_pL G j k))) H := hP
                  have hD : va_D (adr (wO h f f1 f2 ph ++ wF f fa fb fc cI cZ n (fo_cp G) va mk ++ wP ph hq cI vs (nI L))) (wO h f f1 f2 ph ++ wF f fa fb fc cI cZ n (fo_cp G) (vAdd va (fo_pt G j k) x (i + 1)) mk ++ wP ph hq cI (fillI (fo_pL G j k) (fun t => nI (fo_pt G j k t)) vs) (nI (fo_pL G j k))) := vd_same hD rfl
                  refine lv_iinc (v := nI (i + 1)) (lv' := [(5, .int (nI (i + 1))), (6, .int (nI (fo_pt G j k i))), (0, .ref h), (3, .int x)]) hx hb dX2_addOnPath_120 hl (k := 3) rfl (nI_1 i) (by decide) rfl (fun ls hl => ?_)
                  refine lv_goto (tgt := 77) hx hb dX2_addOnPath_123 (by decide) ?_
                  exact ih77 (i + 1) (by omega) (by omega) _ _ hP hD hS ls (lv_sub hl [2, 3, 0] rfl)
            exact L77 (fo_pL G j k - 0 + 1) 0 (Nat.zero_le _) (Nat.lt_succ_self _) _ _ hP hD hS ls (lv_sub hl [1, 2, 0] rfl)
          · skip
            have c_38 := cn_nle (a := (fo_pL G j k)) (b := i) (by omega) (by omega) c_38
            refine lv_aload_n hx hb dX2_addOnPath_41 rfl (lv_at hl 0 rfl) ?_
            refine va_get (D := D) (ci := 2) (v := .ref f) (C := RX2) (T := TX2) (N := 4) hx hb hts hin2 hown hK hP 0 rfl rfl 0 (by decide) hf10 (fun _ h9 => h9) rfl dX2_addOnPath_42 ?_
            refine lv_aload_n hx hb dX2_addOnPath_45 rfl (lv_at hl 0 rfl) ?_
            refine va_get (D := D) (ci := 2) (v := .ref ph) (C := RX2) (T := TX2) (N := 4) hx hb hts hin2 hown hK hP 0 rfl rfl 3 (by decide) hf25 (fun _ h9 => h9) rfl dX2_addOnPath_46 ?_
            refine lv_iload hx hb dX2_addOnPath_49 (lv_at hl 2 rfl) ?_
            refine rd_call ⟨hx, hb, hml, hown, hts⟩ (c_X1_vertexAt l D cI cZ ph hq (fillI (fo_pL G j k) (fun t => nI (fo_pt G j k t)) vs) (fo_pL G j k) hLL2 i c_38) (cwV 1 hts gX2_addOnPath_X1_vertexAt rfl rfl rfl (by decide +kernel) ⟨Nat.le_of_ble_eq_true rfl, Nat.le_of_ble_eq_true rfl⟩) (hP.sub (ws' := wP ph hq cI (fillI (fo_pL G j k) (fun t => nI (fo_pt G j k t)) vs) (nI (fo_pL G j k))) [5, 6] rfl) hK rfl rfl rfl hl rfl (Nat.le_of_ble_eq_true rfl) dX2_addOnPath_51 ⟨Nat.zero_le _, Nat.zero_le _⟩ ?_
            rw [fillI_lt _ _ c_38]
            have hpi := fo_pt_lt F hj hk i
            refine rd_call ⟨hx, hb, hml, hown, hts⟩ (c_X0_valueOf l D cI cZ f fa fb fc n (fo_cp G) va mk (fo_pt G j k i) hpi hn) (cwV 1 hts gX2_addOnPath_X0_valueOf rfl rfl rfl (by decide +kernel) ⟨Nat.le_of_ble_eq_true rfl, Nat.le_of_ble_eq_true rfl⟩) (hP.sub (ws' := wF f fa fb fc cI cZ n (fo_cp G) va mk) [1, 2, 3, 4] rfl) hK rfl rfl rfl hl rfl (Nat.le_of_ble_eq_true rfl) dX2_addOnPath_54 ⟨Nat.zero_le _, Nat.zero_le _⟩ ?_
            refine lv_iload_n hx hb dX2_addOnPath_57 rfl (lv_at hl 1 rfl) ?_
            refine lv_iadd hx hb dX2_addOnPath_58 ?_
            refine rd_callS ⟨hx, hb, hml, hown, hts⟩ (c_X2_isValue l D cI cZ (va (fo_pt G j k i) + x)) (va_cwS 1 hts gX2_addOnPath_X2_isValue rfl rfl rfl (by decide +kernel) ⟨Nat.le_of_ble_eq_true rfl, Nat.le_of_ble_eq_true rfl⟩) hK rfl hl rfl (Nat.le_of_ble_eq_true rfl) dX2_addOnPath_59 ⟨Nat.zero_le _, Nat.zero_le _⟩ ?_
            refine lv_if_ne (tgt := 68) hx hb dX2_addOnPath_62 (by decide) (fun c_62 => ?_) (fun c_62 => ?_)
            · skip
              have c_62 := bI_1 c_62
              refine lv_iinc (v := nI (i + 1)) (lv' := [(5, .int (nI (i + 1))), (0, .ref h), (3, .int x)]) hx hb dX2_addOnPath_68 hl (k := 2) rfl (nI_1 i) (by decide) rfl (fun ls hl => ?_)
              refine lv_goto (tgt := 29) hx hb dX2_addOnPath_71 (by decide) ?_
              exact ih29 (i + 1) (by omega) (fAll_s ha c_62) (by omega) _ _ hP hD hS ls (lv_sub hl [1, 2, 0] rfl)
            · skip
              have c_62 := bI_0 c_62
              refine lv_ldc (own := RX2) hx hb hown hk100 dX2_addOnPath_65 ?_
              have hfa := fAll_f (f := (fun i => isV (va (fo_pt G j k i) + x))) (i := i) c_62 (fo_pL G j k) c_38
              have hP : va_P D vwCl (wO h f f1 f2 ph ++ wF f fa fb fc cI cZ n (fo_cp G) (gp n G (nI j) (nI k) (fun a b => if oAdd va (fo_pt G a b) x (fo_pL G a b) = true then vAdd va (fo_pt G a b) x (fo_pL G a b) else va) va va) mk ++ wP ph hq cI (pvV n G vs (nI j) (nI k)) (nI (pvL n G L (nI j) (nI k)))) H := by rw [pvV_t hj hk hn hro, pvL_t hj hk hn hro]; rw [gp_t hj hk hn hro]; unfold oAdd; rw [hfa, Bool.and_false, if_neg (by decide)]; exact hP
              exact wr_i hx hb hr hlocks hP hS (by rw [gp_t hj hk hn hro]; unfold rAdd; rw [c_20, hfa]; rfl) dX2_addOnPath_67
      exact L29 (fo_pL G j k - 0 + 1) 0 (Nat.zero_le _) rfl (Nat.lt_succ_self _) _ _ hP hD hS ls (lv_sub hl [2, 5, 0] rfl)
    · skip
      have c_20 := bI_0 c_20
      refine lv_ldc (own := RX2) hx hb hown hk33 dX2_addOnPath_23 ?_
      have hP : va_P D vwCl (wO h f f1 f2 ph ++ wF f fa fb fc cI cZ n (fo_cp G) (gp n G (nI j) (nI k) (fun a b => if oAdd va (fo_pt G a b) x (fo_pL G a b) = true then vAdd va (fo_pt G a b) x (fo_pL G a b) else va) va va) mk ++ wP ph hq cI (pvV n G vs (nI j) (nI k)) (nI (pvL n G L (nI j) (nI k)))) H := by rw [pvV_t hj hk hn hro, pvL_t hj hk hn hro]; rw [gp_t hj hk hn hro]; unfold oAdd; rw [c_20, Bool.false_and, if_neg (by decide)]; exact hP
      exact wr_i hx hb hr hlocks hP hS (by rw [gp_t hj hk hn hro]; unfold rAdd; rw [c_20]; rfl) dX2_addOnPath_25
  · skip
    refine lv_iload hx hb dX2_addOnPath_13 (lv_at hl 0 rfl) ?_
    have hP : va_P D vwCl (wO h f f1 f2 ph ++ wF f fa fb fc cI cZ n (fo_cp G) (gp n G u v (fun a b => if oAdd va (fo_pt G a b) x (fo_pL G a b) = true then vAdd va (fo_pt G a b) x (fo_pL G a b) else va) va va) mk ++ wP ph hq cI (pvV n G vs u v) (nI (pvL n G L u v))) H := by rw [pE_same hn c_10]; exact hP
    exact wr_i hx hb hr hlocks hP hS (pE_no hn c_10 _ _ _ _) dX2_addOnPath_15
set_option maxHeartbeats 4000000 in
set_option maxRecDepth 100000 in
theorem c_X2_setOnPath (l : Launch) (D : va_G) (cI cZ : ClassId) (h : Nat) (f1 : Nat) (f2 : Nat) (ph : Nat) (f : Nat) (fa : Nat) (fb : Nat) (fc : Nat) (n : Nat) (G : Nat → Nat) (va : Nat → Int32) (mk : Nat → Bool) (F : fo_ok n G) (hq : Nat) (vs : Nat → Int32) (L : Nat) (hL : L ≤ 64) (u : Int32) (v : Int32) (x : Int32) : WrM l yX2_setOnPath wsX2_setOnPath 6 140 D cI cZ (wO h f f1 f2 ph ++ wF f fa fb fc cI cZ n (fo_cp G) va mk ++ wP ph hq cI vs (nI L)) (wO h f f1 f2 ph ++ wF f fa fb fc cI cZ n (fo_cp G) (gp n G u v (fun a b => if isV x = true then vSet va (fo_pt G a b) x (fo_pL G a b) else va) va va) mk ++ wP ph hq cI (pvV n G vs u v) (nI (pvL n G L u v))) [.ref h, .int u, .int v, .int x] (some (.int (gp n G u v (fun a b => if isV x = true then nI (fo_pL G a b) else -100000002) (-100000001) (-100000004)))) := by
  refine WrM.of (cc := cX2_setOnPath) (maxL := 6) (ret := (some .int)) (by decide) rfl (Nat.le_of_ble_eq_true rfl) ?_
  intro p e s m below meth c hx hb hr hml hown hts hlocks hP hK hD hS ls hl
  have hown : s.vm.findClass RX2 = some m.cls := hown
  have hl : lv_has ls 6 [(0, .ref h), (1, .int u), (2, .int v), (3, .int x)] := hl
  have hP : va_P D vwCl (wO h f f1 f2 ph ++ wF f fa fb fc cI cZ n (fo_cp G) va mk ++ wP ph hq cI vs (nI L)) s.heap := hP
  have hk33 := hts (.constant RX2 33 (-100000002)) (by decide +kernel)
  have hf25 := hts (.fieldLink RX2 25 "DynamicForest" "path" "LDynamicForest$Path;") (by decide +kernel)
  have hf10 := hts (.fieldLink RX2 10 "DynamicForest" "forest" "LDynamicForest$Forest;") (by decide +kernel)
  have hin2 : ∀ w ∈ u_ws RX2 TX2 4, w ∈ wsX2_setOnPath := by decide +kernel
  have hn : n ≤ 64 := F.2.1
  refine lv_aload_n hx hb dX2_setOnPath_0 rfl (lv_at hl 0 rfl) ?_
  refine lv_iload_n hx hb dX2_setOnPath_1 rfl (lv_at hl 1 rfl) ?_
  refine lv_iload_n hx hb dX2_setOnPath_2 rfl (lv_at hl 2 rfl) ?_
  refine wr_call (V1 := wO h f f1 f2 ph ++ wF f fa fb fc cI cZ n (fo_cp G) va mk ++ wP ph hq cI (pvV n G vs u v) (nI (pvL n G L u v))) ⟨hx, hb, hml, hown, hts⟩ (c_X2_tracePath l D cI cZ h f1 f2 ph f fa fb fc n G va mk F hq vs L hL u v) (cwV 2 hts gX2_setOnPath_X2_tracePath rfl rfl rfl (by decide +kernel) ⟨Nat.le_of_ble_eq_true rfl, Nat.le_of_ble_eq_true rfl⟩) hP hK hD hS [0, 1, 2, 3, 4, 5, 6] [] [0, 1, 2, 3, 4, 5, 6] rfl rfl (by decide) rfl rfl rfl rfl rfl hl rfl (Nat.le_of_ble_eq_true rfl) dX2_setOnPath_3 ⟨Nat.zero_le _, Nat.zero_le _⟩ (fun H locs hP hD hS => ?_)
  refine lv_istore (lv' := [(4, .int (pE n G u v)), (0, .ref h), (1, .int u), (2, .int v), (3, .int x)]) hx hb dX2_setOnPath_6 hl (by decide) rfl (fun ls hl => ?_)
  refine lv_iload hx hb dX2_setOnPath_8 (lv_at hl 0 rfl) ?_
  refine lv_if_eq (tgt := 16) hx hb dX2_setOnPath_10 (by decide) (fun c_10 => ?_) (fun c_10 => ?_)
  · skip
    obtain ⟨j, k, hj, hk, rfl, rfl, hro⟩ := pE_ok hn c_10
    rw [pvV_t hj hk hn hro, pvL_t hj hk hn hro] at hP
    have hD : va_D (adr (wO h f f1 f2 ph ++ wF f fa fb fc cI cZ n (fo_cp G) va mk ++ wP ph hq cI vs (nI L))) (wO h f f1 f2 ph ++ wF f fa fb fc cI cZ n (fo_cp G) va mk ++ wP ph hq cI (fillI (fo_pL G j k) (fun t => nI (fo_pt G j k t)) vs) (nI (fo_pL G j k))) := vd_same hD rfl
    have hLL : fo_pL G j k ≤ n := fo_pL_le F hro hj hk
    have hL1 : 1 ≤ fo_pL G j k := Nat.succ_le_succ (Nat.zero_le _)
    have hLL2 : fo_pL G j k ≤ 64 := Nat.le_trans hLL hn
    refine lv_iload_n hx hb dX2_setOnPath_16 rfl (lv_at hl 4 rfl) ?_
    refine rd_callS ⟨hx, hb, hml, hown, hts⟩ (c_X2_isValue l D cI cZ x) (va_cwS 1 hts gX2_setOnPath_X2_isValue rfl rfl rfl (by decide +kernel) ⟨Nat.le_of_ble_eq_true rfl, Nat.le_of_ble_eq_true rfl⟩) hK rfl hl rfl (Nat.le_of_ble_eq_true rfl) dX2_setOnPath_17 ⟨Nat.zero_le _, Nat.zero_le _⟩ ?_
    refine lv_if_ne (tgt := 26) hx hb dX2_setOnPath_20 (by decide) (fun c_20 => ?_) (fun c_20 => ?_)
    · skip
      have c_20 := bI_1 c_20
      refine lv_iconst (v := nI 0) hx hb dX2_setOnPath_26 (by decide) ?_
      refine lv_istore (lv' := [(5, .int (nI 0)), (4, .int (pE n G (nI j) (nI k))), (0, .ref h), (1, .int (nI j)), (2, .int (nI k)), (3, .int x)]) hx hb dX2_setOnPath_27 hl (by decide) rfl (fun ls hl => ?_)
      have L29 : ∀ (k29_ : Nat) (i : Nat), i ≤ fo_pL G j k → fo_pL G j k - i < k29_ → ∀ (H : Heap) (locs : List Loc), va_P D vwCl (wO h f f1 f2 ph ++ wF f fa fb fc cI cZ n (fo_cp G) (vSet va (fo_pt G j k) x i) mk ++ wP ph hq cI (fillI (fo_pL G j k) (fun t => nI (fo_pt G j k t)) vs) (nI (fo_pL G j k))) H → va_D (adr (wO h f f1 f2 ph ++ wF f fa fb fc cI cZ n (fo_cp G) va mk ++ wP ph hq cI vs (nI L))) (wO h f f1 f2 ph ++ wF f fa fb fc cI cZ n (fo_cp G) (vSet va (fo_pt G j k) x i) mk ++ wP ph hq cI (fillI (fo_pL G j k) (fun t => nI (fo_pt G j k t)) vs) (nI (fo_pL G j k))) → va_S (adr (wO h f f1 f2 ph ++ wF f fa fb fc cI cZ n (fo_cp G) va mk ++ wP ph hq cI vs (nI L))) s.heap H locs → ∀ ls, lv_has ls 6 [(0, .ref h), (3, .int x), (5, .int (nI i))] → Ww0 p l e wsX2_setOnPath 6 140 s m [.ref h, .int (nI j), .int (nI k), .int x] below meth c D (wO h f f1 f2 ph ++ wF f fa fb fc cI cZ n (fo_cp G) va mk ++ wP ph hq cI vs (nI L)) (wO h f f1 f2 ph ++ wF f fa fb fc cI cZ n (fo_cp G) (gp n G (nI j) (nI k) (fun a b => if isV x = true then vSet va (fo_pt G a b) x (fo_pL G a b) else va) va va) mk ++ wP ph hq cI (pvV n G vs (nI j) (nI k)) (nI (pvL n G L (nI j) (nI k)))) (some (.int (gp n G (nI j) (nI k) (fun a b => if isV x = true then nI (fo_pL G a b) else -100000002) (-100000001) (-100000004)))) H locs (F0 m 29 ls []) := by
        intro k29_
        induction k29_ with
        | zero => intro i hi hk29_; exact absurd hk29_ (Nat.not_lt_zero _)
        | succ k29_ ih29 =>
          intro i hi hk29_ H locs hP hD hS ls hl
          refine lv_iload hx hb dX2_setOnPath_29 (lv_at hl 2 rfl) ?_
          refine lv_aload_n hx hb dX2_setOnPath_31 rfl (lv_at hl 0 rfl) ?_
          refine va_get (D := D) (ci := 2) (v := .ref ph) (C := RX2) (T := TX2) (N := 4) hx hb hts hin2 hown hK hP 0 rfl rfl 3 (by decide) hf25 (fun _ h9 => h9) rfl dX2_setOnPath_32 ?_
          refine rd_call ⟨hx, hb, hml, hown, hts⟩ (c_X1_length l D cI cZ ph hq (fillI (fo_pL G j k) (fun t => nI (fo_pt G j k t)) vs) (fo_pL G j k) hLL2) (cwV 0 hts gX2_setOnPath_X1_length rfl rfl rfl (by decide +kernel) ⟨Nat.le_of_ble_eq_true rfl, Nat.le_of_ble_eq_true rfl⟩) (hP.sub (ws' := wP ph hq cI (fillI (fo_pL G j k) (fun t => nI (fo_pt G j k t)) vs) (nI (fo_pL G j k))) [5, 6] rfl) hK rfl rfl rfl hl rfl (Nat.le_of_ble_eq_true rfl) dX2_setOnPath_35 ⟨Nat.zero_le _, Nat.zero_le _⟩ ?_
          refine lv_icmp_ge (tgt := 64) hx hb dX2_setOnPath_38 (by decide) (fun c_38 => ?_) (fun c_38 => ?_)
          · skip
            have c_38 := cn_le (a := (fo_pL G j k)) (b := i) (by omega) (by omega) c_38
            have en : i = fo_pL G j k := by omega
            rw [en] at hP
            have hD : va_D (adr (wO h f f1 f2 ph ++ wF f fa fb fc cI cZ n (fo_cp G) va mk ++ wP ph hq cI vs (nI L))) (wO h f f1 f2 ph ++ wF f fa fb fc cI cZ n (fo_cp G) (vSet va (fo_pt G j k) x (fo_pL G j k)) mk ++ wP ph hq cI (fillI (fo_pL G j k) (fun t => nI (fo_pt G j k t)) vs) (nI (fo_pL G j k))) := vd_same hD rfl
            refine lv_aload_n hx hb dX2_setOnPath_64 rfl (lv_at hl 0 rfl) ?_
            refine va_get (D := D) (ci := 2) (v := .ref ph) (C := RX2) (T := TX2) (N := 4) hx hb hts hin2 hown hK hP 0 rfl rfl 3 (by decide) hf25 (fun _ h9 => h9) rfl dX2_setOnPath_65 ?_
            refine rd_call ⟨hx, hb, hml, hown, hts⟩ (c_X1_length l D cI cZ ph hq (fillI (fo_pL G j k) (fun t => nI (fo_pt G j k t)) vs) (fo_pL G j k) hLL2) (cwV 0 hts gX2_setOnPath_X1_length rfl rfl rfl (by decide +kernel) ⟨Nat.le_of_ble_eq_true rfl, Nat.le_of_ble_eq_true rfl⟩) (hP.sub (ws' := wP ph hq cI (fillI (fo_pL G j k) (fun t => nI (fo_pt G j k t)) vs) (nI (fo_pL G j k))) [5, 6] rfl) hK rfl rfl rfl hl rfl (Nat.le_of_ble_eq_true rfl) dX2_setOnPath_68 ⟨Nat.zero_le _, Nat.zero_le _⟩ ?_
            have hP : va_P D vwCl (wO h f f1 f2 ph ++ wF f fa fb fc cI cZ n (fo_cp G) (gp n G (nI j) (nI k) (fun a b => if isV x = true then vSet va (fo_pt G a b) x (fo_pL G a b) else va) va va) mk ++ wP ph hq cI (pvV n G vs (nI j) (nI k)) (nI (pvL n G L (nI j) (nI k)))) H := by rw [pvV_t hj hk hn hro, pvL_t hj hk hn hro]; rw [gp_t hj hk hn hro, if_pos c_20]; exact hP
            exact wr_i hx hb hr hlocks hP hS (by rw [gp_t hj hk hn hro, if_pos c_20]) dX2_setOnPath_71
          · skip
            have c_38 := cn_nle (a := (fo_pL G j k)) (b := i) (by omega) (by omega) c_38
            refine lv_aload_n hx hb dX2_setOnPath_41 rfl (lv_at hl 0 rfl) ?_
            refine va_get (D := D) (ci := 2) (v := .ref f) (C := RX2) (T := TX2) (N := 4) hx hb hts hin2 hown hK hP 0 rfl rfl 0 (by decide) hf10 (fun _ h9 => h9) rfl dX2_setOnPath_42 ?_
            refine lv_aload_n hx hb dX2_setOnPath_45 rfl (lv_at hl 0 rfl) ?_
            refine va_get (D := D) (ci := 2) (v := .ref ph) (C := RX2) (T := TX2) (N := 4) hx hb hts hin2 hown hK hP 0 rfl rfl 3 (by decide) hf25 (fun _ h9 => h9) rfl dX2_setOnPath_46 ?_
            refine lv_iload hx hb dX2_setOnPath_49 (lv_at hl 2 rfl) ?_
            refine rd_call ⟨hx, hb, hml, hown, hts⟩ (c_X1_vertexAt l D cI cZ ph hq (fillI (fo_pL G j k) (fun t => nI (fo_pt G j k t)) vs) (fo_pL G j k) hLL2 i c_38) (cwV 1 hts gX2_setOnPath_X1_vertexAt rfl rfl rfl (by decide +kernel) ⟨Nat.le_of_ble_eq_true rfl, Nat.le_of_ble_eq_true rfl⟩) (hP.sub (ws' := wP ph hq cI (fillI (fo_pL G j k) (fun t => nI (fo_pt G j k t)) vs) (nI (fo_pL G j k))) [5, 6] rfl) hK rfl rfl rfl hl rfl (Nat.le_of_ble_eq_true rfl) dX2_setOnPath_51 ⟨Nat.zero_le _, Nat.zero_le _⟩ ?_
            rw [fillI_lt _ _ c_38]
            have hpi := fo_pt_lt F hj hk i
            refine lv_iload_n hx hb dX2_setOnPath_54 rfl (lv_at hl 1 rfl) ?_
            refine wr_call (V1 := wO h f f1 f2 ph ++ wF f fa fb fc cI cZ n (fo_cp G) (upd (vSet va (fo_pt G j k) x i) (fo_pt G j k i) x) mk ++ wP ph hq cI (fillI (fo_pL G j k) (fun t => nI (fo_pt G j k t)) vs) (nI (fo_pL G j k))) ⟨hx, hb, hml, hown, hts⟩ (c_X0_putValue l D cI cZ f fa fb fc n (fo_cp G) (vSet va (fo_pt G j k) x i) mk (fo_pt G j k i) hpi hn x) (cwV 2 hts gX2_setOnPath_X0_putValue rfl rfl rfl (by decide +kernel) ⟨Nat.le_of_ble_eq_true rfl, Nat.le_of_ble_eq_true rfl⟩) hP hK hD hS [1, 2, 3, 4] [0, 5, 6] [0, 3, 4, 5, 6, 1, 2] rfl rfl (by decide) rfl rfl rfl rfl rfl hl rfl (Nat.le_of_ble_eq_true rfl) dX2_setOnPath_55 ⟨Nat.zero_le _, Nat.zero_le _⟩ (fun H locs hP hD hS => ?_)
            have hP : va_P D vwCl (wO h f f1 f2 ph ++ wF f fa fb fc cI cZ n (fo_cp G) (vSet va (fo_pt G j k) x (i + 1)) mk ++ wP ph hq cI (fillI (fo_pL G j k) (fun t => nI (fo_pt G j k t)) vs) (nI (fo_pL G j k))) H := hP
            have hD : va_D (adr (wO h f f1 f2 ph ++ wF f fa fb fc cI cZ n (fo_cp G) va mk ++ wP ph hq cI vs (nI L))) (wO h f f1 f2 ph ++ wF f fa fb fc cI cZ n (fo_cp G) (vSet va (fo_pt G j k) x (i + 1)) mk ++ wP ph hq cI (fillI (fo_pL G j k) (fun t => nI (fo_pt G j k t)) vs) (nI (fo_pL G j k))) := vd_same hD rfl
            refine lv_iinc (v := nI (i + 1)) (lv' := [(5, .int (nI (i + 1))), (0, .ref h), (3, .int x)]) hx hb dX2_setOnPath_58 hl (k := 2) rfl (nI_1 i) (by decide) rfl (fun ls hl => ?_)
            refine lv_goto (tgt := 29) hx hb dX2_setOnPath_61 (by decide) ?_
            exact ih29 (i + 1) (by omega) (by omega) _ _ hP hD hS ls (lv_sub hl [1, 2, 0] rfl)
      exact L29 (fo_pL G j k - 0 + 1) 0 (Nat.zero_le _) (Nat.lt_succ_self _) _ _ hP hD hS ls (lv_sub hl [2, 5, 0] rfl)
    · skip
      have c_20 := bI_0 c_20
      refine lv_ldc (own := RX2) hx hb hown hk33 dX2_setOnPath_23 ?_
      have hP : va_P D vwCl (wO h f f1 f2 ph ++ wF f fa fb fc cI cZ n (fo_cp G) (gp n G (nI j) (nI k) (fun a b => if isV x = true then vSet va (fo_pt G a b) x (fo_pL G a b) else va) va va) mk ++ wP ph hq cI (pvV n G vs (nI j) (nI k)) (nI (pvL n G L (nI j) (nI k)))) H := by rw [pvV_t hj hk hn hro, pvL_t hj hk hn hro]; rw [gp_t hj hk hn hro, if_neg (by rw [c_20]; decide)]; exact hP
      exact wr_i hx hb hr hlocks hP hS (by rw [gp_t hj hk hn hro, if_neg (by rw [c_20]; decide)]) dX2_setOnPath_25
  · skip
    refine lv_iload hx hb dX2_setOnPath_13 (lv_at hl 0 rfl) ?_
    have hP : va_P D vwCl (wO h f f1 f2 ph ++ wF f fa fb fc cI cZ n (fo_cp G) (gp n G u v (fun a b => if isV x = true then vSet va (fo_pt G a b) x (fo_pL G a b) else va) va va) mk ++ wP ph hq cI (pvV n G vs u v) (nI (pvL n G L u v))) H := by rw [pE_same hn c_10]; exact hP
    exact wr_i hx hb hr hlocks hP hS (pE_no hn c_10 _ _ _ _) dX2_setOnPath_15
set_option maxHeartbeats 4000000 in
set_option maxRecDepth 100000 in
theorem c_X2_reverseValues (l : Launch) (D : va_G) (cI cZ : ClassId) (h : Nat) (f1 : Nat) (f2 : Nat) (ph : Nat) (f : Nat) (fa : Nat) (fb : Nat) (fc : Nat) (n : Nat) (G : Nat → Nat) (va : Nat → Int32) (mk : Nat → Bool) (F : fo_ok n G) (hq : Nat) (vs : Nat → Int32) (L : Nat) (hL : L ≤ 64) (u : Int32) (v : Int32) : WrM l yX2_reverseValues wsX2_reverseValues 6 140 D cI cZ (wO h f f1 f2 ph ++ wF f fa fb fc cI cZ n (fo_cp G) va mk ++ wP ph hq cI vs (nI L)) (wO h f f1 f2 ph ++ wF f fa fb fc cI cZ n (fo_cp G) (gp n G u v (fun a b => vRev va (fo_pt G a b) (fo_pL G a b) (fo_pL G a b / 2)) va va) mk ++ wP ph hq cI (pvV n G vs u v) (nI (pvL n G L u v))) [.ref h, .int u, .int v] (some (.int (gp n G u v (fun a b => nI (fo_pL G a b)) (-100000001) (-100000004)))) := by
  refine WrM.of (cc := cX2_reverseValues) (maxL := 6) (ret := (some .int)) (by decide) rfl (Nat.le_of_ble_eq_true rfl) ?_
  intro p e s m below meth c hx hb hr hml hown hts hlocks hP hK hD hS ls hl
  have hown : s.vm.findClass RX2 = some m.cls := hown
  have hl : lv_has ls 6 [(0, .ref h), (1, .int u), (2, .int v)] := hl
  have hP : va_P D vwCl (wO h f f1 f2 ph ++ wF f fa fb fc cI cZ n (fo_cp G) va mk ++ wP ph hq cI vs (nI L)) s.heap := hP
  have hf25 := hts (.fieldLink RX2 25 "DynamicForest" "path" "LDynamicForest$Path;") (by decide +kernel)
  have hf10 := hts (.fieldLink RX2 10 "DynamicForest" "forest" "LDynamicForest$Forest;") (by decide +kernel)
  have hin2 : ∀ w ∈ u_ws RX2 TX2 4, w ∈ wsX2_reverseValues := by decide +kernel
  have hn : n ≤ 64 := F.2.1
  refine lv_aload_n hx hb dX2_reverseValues_0 rfl (lv_at hl 0 rfl) ?_
  refine lv_iload_n hx hb dX2_reverseValues_1 rfl (lv_at hl 1 rfl) ?_
  refine lv_iload_n hx hb dX2_reverseValues_2 rfl (lv_at hl 2 rfl) ?_
  refine wr_call (V1 := wO h f f1 f2 ph ++ wF f fa fb fc cI cZ n (fo_cp G) va mk ++ wP ph hq cI (pvV n G vs u v) (nI (pvL n G L u v))) ⟨hx, hb, hml, hown, hts⟩ (c_X2_tracePath l D cI cZ h f1 f2 ph f fa fb fc n G va mk F hq vs L hL u v) (cwV 2 hts gX2_reverseValues_X2_tracePath rfl rfl rfl (by decide +kernel) ⟨Nat.le_of_ble_eq_true rfl, Nat.le_of_ble_eq_true rfl⟩) hP hK hD hS [0, 1, 2, 3, 4, 5, 6] [] [0, 1, 2, 3, 4, 5, 6] rfl rfl (by decide) rfl rfl rfl rfl rfl hl rfl (Nat.le_of_ble_eq_true rfl) dX2_reverseValues_3 ⟨Nat.zero_le _, Nat.zero_le _⟩ (fun H locs hP hD hS => ?_)
  refine lv_istore_n (lv' := [(3, .int (pE n G u v)), (0, .ref h), (1, .int u), (2, .int v)]) hx hb dX2_reverseValues_6 rfl hl (by decide) rfl (fun ls hl => ?_)
  refine lv_iload_n hx hb dX2_reverseValues_7 rfl (lv_at hl 0 rfl) ?_
  refine lv_if_eq (tgt := 13) hx hb dX2_reverseValues_8 (by decide) (fun c_8 => ?_) (fun c_8 => ?_)
  · skip
    obtain ⟨j, k, hj, hk, rfl, rfl, hro⟩ := pE_ok hn c_8
    rw [pvV_t hj hk hn hro, pvL_t hj hk hn hro] at hP
    have hD : va_D (adr (wO h f f1 f2 ph ++ wF f fa fb fc cI cZ n (fo_cp G) va mk ++ wP ph hq cI vs (nI L))) (wO h f f1 f2 ph ++ wF f fa fb fc cI cZ n (fo_cp G) va mk ++ wP ph hq cI (fillI (fo_pL G j k) (fun t => nI (fo_pt G j k t)) vs) (nI (fo_pL G j k))) := vd_same hD rfl
    have hLL : fo_pL G j k ≤ n := fo_pL_le F hro hj hk
    have hL1 : 1 ≤ fo_pL G j k := Nat.succ_le_succ (Nat.zero_le _)
    have hLL2 : fo_pL G j k ≤ 64 := Nat.le_trans hLL hn
    refine lv_iconst (v := nI 0) hx hb dX2_reverseValues_13 (by decide) ?_
    refine lv_istore (lv' := [(4, .int (nI 0)), (3, .int (pE n G (nI j) (nI k))), (0, .ref h), (1, .int (nI j)), (2, .int (nI k))]) hx hb dX2_reverseValues_14 hl (by decide) rfl (fun ls hl => ?_)
    refine lv_aload_n hx hb dX2_reverseValues_16 rfl (lv_at hl 2 rfl) ?_
    refine va_get (D := D) (ci := 2) (v := .ref ph) (C := RX2) (T := TX2) (N := 4) hx hb hts hin2 hown hK hP 0 rfl rfl 3 (by decide) hf25 (fun _ h9 => h9) rfl dX2_reverseValues_17 ?_
    refine rd_call ⟨hx, hb, hml, hown, hts⟩ (c_X1_length l D cI cZ ph hq (fillI (fo_pL G j k) (fun t => nI (fo_pt G j k t)) vs) (fo_pL G j k) hLL2) (cwV 0 hts gX2_reverseValues_X1_length rfl rfl rfl (by decide +kernel) ⟨Nat.le_of_ble_eq_true rfl, Nat.le_of_ble_eq_true rfl⟩) (hP.sub (ws' := wP ph hq cI (fillI (fo_pL G j k) (fun t => nI (fo_pt G j k t)) vs) (nI (fo_pL G j k))) [5, 6] rfl) hK rfl rfl rfl hl rfl (Nat.le_of_ble_eq_true rfl) dX2_reverseValues_20 ⟨Nat.zero_le _, Nat.zero_le _⟩ ?_
    refine lv_iconst (v := 1) hx hb dX2_reverseValues_23 (by decide) ?_
    refine lv_isub hx hb dX2_reverseValues_24 ?_
    rw [show nI (fo_pL G j k) - 1 = nI (fo_pL G j k - 1) from pk_sub (b := 1) hL1]
    refine lv_istore (lv' := [(5, .int (nI (fo_pL G j k - 1))), (4, .int (nI 0)), (3, .int (pE n G (nI j) (nI k))), (0, .ref h), (1, .int (nI j)), (2, .int (nI k))]) hx hb dX2_reverseValues_25 hl (by decide) rfl (fun ls hl => ?_)
    have L27 : ∀ (k27_ : Nat) (i : Nat), 2 * i ≤ fo_pL G j k → fo_pL G j k - i < k27_ → ∀ (H : Heap) (locs : List Loc), va_P D vwCl (wO h f f1 f2 ph ++ wF f fa fb fc cI cZ n (fo_cp G) (vRev va (fo_pt G j k) (fo_pL G j k) i) mk ++ wP ph hq cI (fillI (fo_pL G j k) (fun t => nI (fo_pt G j k t)) vs) (nI (fo_pL G j k))) H → va_D (adr (wO h f f1 f2 ph ++ wF f fa fb fc cI cZ n (fo_cp G) va mk ++ wP ph hq cI vs (nI L))) (wO h f f1 f2 ph ++ wF f fa fb fc cI cZ n (fo_cp G) (vRev va (fo_pt G j k) (fo_pL G j k) i) mk ++ wP ph hq cI (fillI (fo_pL G j k) (fun t => nI (fo_pt G j k t)) vs) (nI (fo_pL G j k))) → va_S (adr (wO h f f1 f2 ph ++ wF f fa fb fc cI cZ n (fo_cp G) va mk ++ wP ph hq cI vs (nI L))) s.heap H locs → ∀ ls, lv_has ls 6 [(0, .ref h), (4, .int (nI i)), (5, .int (nI (fo_pL G j k - 1 - i)))] → Ww0 p l e wsX2_reverseValues 6 140 s m [.ref h, .int (nI j), .int (nI k)] below meth c D (wO h f f1 f2 ph ++ wF f fa fb fc cI cZ n (fo_cp G) va mk ++ wP ph hq cI vs (nI L)) (wO h f f1 f2 ph ++ wF f fa fb fc cI cZ n (fo_cp G) (gp n G (nI j) (nI k) (fun a b => vRev va (fo_pt G a b) (fo_pL G a b) (fo_pL G a b / 2)) va va) mk ++ wP ph hq cI (pvV n G vs (nI j) (nI k)) (nI (pvL n G L (nI j) (nI k)))) (some (.int (gp n G (nI j) (nI k) (fun a b => nI (fo_pL G a b)) (-100000001) (-100000004)))) H locs (F0 m 27 ls []) := by
      intro k27_
      induction k27_ with
      | zero => intro i hi hk27_; exact absurd hk27_ (Nat.not_lt_zero _)
      | succ k27_ ih27 =>
        intro i hi hk27_ H locs hP hD hS ls hl
        refine lv_iload hx hb dX2_reverseValues_27 (lv_at hl 2 rfl) ?_
        refine lv_iload hx hb dX2_reverseValues_29 (lv_at hl 1 rfl) ?_
        refine lv_icmp_le (tgt := 68) hx hb dX2_reverseValues_31 (by decide) (fun c_31 => ?_) (fun c_31 => ?_)
        · skip
          have c_31 := cn_le (a := (fo_pL G j k - 1 - i)) (b := i) (by omega) (by omega) c_31
          have en : i = fo_pL G j k / 2 := by omega
          rw [en] at hP
          have hD : va_D (adr (wO h f f1 f2 ph ++ wF f fa fb fc cI cZ n (fo_cp G) va mk ++ wP ph hq cI vs (nI L))) (wO h f f1 f2 ph ++ wF f fa fb fc cI cZ n (fo_cp G) (vRev va (fo_pt G j k) (fo_pL G j k) (fo_pL G j k / 2)) mk ++ wP ph hq cI (fillI (fo_pL G j k) (fun t => nI (fo_pt G j k t)) vs) (nI (fo_pL G j k))) := vd_same hD rfl
          refine lv_aload_n hx hb dX2_reverseValues_68 rfl (lv_at hl 0 rfl) ?_
          refine va_get (D := D) (ci := 2) (v := .ref ph) (C := RX2) (T := TX2) (N := 4) hx hb hts hin2 hown hK hP 0 rfl rfl 3 (by decide) hf25 (fun _ h9 => h9) rfl dX2_reverseValues_69 ?_
          refine rd_call ⟨hx, hb, hml, hown, hts⟩ (c_X1_length l D cI cZ ph hq (fillI (fo_pL G j k) (fun t => nI (fo_pt G j k t)) vs) (fo_pL G j k) hLL2) (cwV 0 hts gX2_reverseValues_X1_length rfl rfl rfl (by decide +kernel) ⟨Nat.le_of_ble_eq_true rfl, Nat.le_of_ble_eq_true rfl⟩) (hP.sub (ws' := wP ph hq cI (fillI (fo_pL G j k) (fun t => nI (fo_pt G j k t)) vs) (nI (fo_pL G j k))) [5, 6] rfl) hK rfl rfl rfl hl rfl (Nat.le_of_ble_eq_true rfl) dX2_reverseValues_72 ⟨Nat.zero_le _, Nat.zero_le _⟩ ?_
          have hP : va_P D vwCl (wO h f f1 f2 ph ++ wF f fa fb fc cI cZ n (fo_cp G) (gp n G (nI j) (nI k) (fun a b => vRev va (fo_pt G a b) (fo_pL G a b) (fo_pL G a b / 2)) va va) mk ++ wP ph hq cI (pvV n G vs (nI j) (nI k)) (nI (pvL n G L (nI j) (nI k)))) H := by rw [pvV_t hj hk hn hro, pvL_t hj hk hn hro]; rw [gp_t hj hk hn hro]; exact hP
          exact wr_i hx hb hr hlocks hP hS (by rw [gp_t hj hk hn hro]) dX2_reverseValues_75
        · skip
          have c_31 := cn_nle (a := (fo_pL G j k - 1 - i)) (b := i) (by omega) (by omega) c_31
          refine lv_aload_n hx hb dX2_reverseValues_34 rfl (lv_at hl 0 rfl) ?_
          refine va_get (D := D) (ci := 2) (v := .ref f) (C := RX2) (T := TX2) (N := 4) hx hb hts hin2 hown hK hP 0 rfl rfl 0 (by decide) hf10 (fun _ h9 => h9) rfl dX2_reverseValues_35 ?_
          refine lv_aload_n hx hb dX2_reverseValues_38 rfl (lv_at hl 0 rfl) ?_
          refine va_get (D := D) (ci := 2) (v := .ref ph) (C := RX2) (T := TX2) (N := 4) hx hb hts hin2 hown hK hP 0 rfl rfl 3 (by decide) hf25 (fun _ h9 => h9) rfl dX2_reverseValues_39 ?_
          refine lv_iload hx hb dX2_reverseValues_42 (lv_at hl 1 rfl) ?_
          refine rd_call ⟨hx, hb, hml, hown, hts⟩ (c_X1_vertexAt l D cI cZ ph hq (fillI (fo_pL G j k) (fun t => nI (fo_pt G j k t)) vs) (fo_pL G j k) hLL2 i (show i < fo_pL G j k by omega)) (cwV 1 hts gX2_reverseValues_X1_vertexAt rfl rfl rfl (by decide +kernel) ⟨Nat.le_of_ble_eq_true rfl, Nat.le_of_ble_eq_true rfl⟩) (hP.sub (ws' := wP ph hq cI (fillI (fo_pL G j k) (fun t => nI (fo_pt G j k t)) vs) (nI (fo_pL G j k))) [5, 6] rfl) hK rfl rfl rfl hl rfl (Nat.le_of_ble_eq_true rfl) dX2_reverseValues_44 ⟨Nat.zero_le _, Nat.zero_le _⟩ ?_
          rw [fillI_lt _ _ (show i < fo_pL G j k by omega)]
          have hpi := fo_pt_lt F hj hk i
          refine lv_aload_n hx hb dX2_reverseValues_47 rfl (lv_at hl 0 rfl) ?_
          refine va_get (D := D) (ci := 2) (v := .ref ph) (C := RX2) (T := TX2) (N := 4) hx hb hts hin2 hown hK hP 0 rfl rfl 3 (by decide) hf25 (fun _ h9 => h9) rfl dX2_reverseValues_48 ?_
          refine lv_iload hx hb dX2_reverseValues_51 (lv_at hl 2 rfl) ?_
          refine rd_call ⟨hx, hb, hml, hown, hts⟩ (c_X1_vertexAt l D cI cZ ph hq (fillI (fo_pL G j k) (fun t => nI (fo_pt G j k t)) vs) (fo_pL G j k) hLL2 (fo_pL G j k - 1 - i) (show fo_pL G j k - 1 - i < fo_pL G j k by omega)) (cwV 1 hts gX2_reverseValues_X1_vertexAt rfl rfl rfl (by decide +kernel) ⟨Nat.le_of_ble_eq_true rfl, Nat.le_of_ble_eq_true rfl⟩) (hP.sub (ws' := wP ph hq cI (fillI (fo_pL G j k) (fun t => nI (fo_pt G j k t)) vs) (nI (fo_pL G j k))) [5, 6] rfl) hK rfl rfl rfl hl rfl (Nat.le_of_ble_eq_true rfl) dX2_reverseValues_53 ⟨Nat.zero_le _, Nat.zero_le _⟩ ?_
          rw [fillI_lt _ _ (show fo_pL G j k - 1 - i < fo_pL G j k by omega)]
          have hpi2 := fo_pt_lt F hj hk (fo_pL G j k - 1 - i)
          refine wr_call (V1 := wO h f f1 f2 ph ++ wF f fa fb fc cI cZ n (fo_cp G) (upd (upd (vRev va (fo_pt G j k) (fo_pL G j k) i) (fo_pt G j k i) ((vRev va (fo_pt G j k) (fo_pL G j k) i) (fo_pt G j k (fo_pL G j k - 1 - i)))) (fo_pt G j k (fo_pL G j k - 1 - i)) ((vRev va (fo_pt G j k) (fo_pL G j k) i) (fo_pt G j k i))) mk ++ wP ph hq cI (fillI (fo_pL G j k) (fun t => nI (fo_pt G j k t)) vs) (nI (fo_pL G j k))) ⟨hx, hb, hml, hown, hts⟩ (c_X0_swapValues l D cI cZ f fa fb fc n (fo_cp G) (vRev va (fo_pt G j k) (fo_pL G j k) i) mk (fo_pt G j k i) hpi hn (fo_pt G j k (fo_pL G j k - 1 - i)) hpi2) (cwV 2 hts gX2_reverseValues_X0_swapValues rfl rfl rfl (by decide +kernel) ⟨Nat.le_of_ble_eq_true rfl, Nat.le_of_ble_eq_true rfl⟩) hP hK hD hS [1, 2, 3, 4] [0, 5, 6] [0, 3, 4, 5, 6, 1, 2] rfl rfl (by decide) rfl rfl rfl rfl rfl hl rfl (Nat.le_of_ble_eq_true rfl) dX2_reverseValues_56 ⟨Nat.zero_le _, Nat.zero_le _⟩ (fun H locs hP hD hS => ?_)
          have hP : va_P D vwCl (wO h f f1 f2 ph ++ wF f fa fb fc cI cZ n (fo_cp G) (vRev va (fo_pt G j k) (fo_pL G j k) (i + 1)) mk ++ wP ph hq cI (fillI (fo_pL G j k) (fun t => nI (fo_pt G j k t)) vs) (nI (fo_pL G j k))) H := hP
          have hD : va_D (adr (wO h f f1 f2 ph ++ wF f fa fb fc cI cZ n (fo_cp G) va mk ++ wP ph hq cI vs (nI L))) (wO h f f1 f2 ph ++ wF f fa fb fc cI cZ n (fo_cp G) (vRev va (fo_pt G j k) (fo_pL G j k) (i + 1)) mk ++ wP ph hq cI (fillI (fo_pL G j k) (fun t => nI (fo_pt G j k t)) vs) (nI (fo_pL G j k))) := vd_same hD rfl
          refine lv_iinc (v := nI (i + 1)) (lv' := [(4, .int (nI (i + 1))), (0, .ref h), (5, .int (nI (fo_pL G j k - 1 - i)))]) hx hb dX2_reverseValues_59 hl (k := 1) rfl (nI_1 i) (by decide) rfl (fun ls hl => ?_)
          refine lv_iinc (v := nI (fo_pL G j k - 1 - (i + 1))) (lv' := [(5, .int (nI (fo_pL G j k - 1 - (i + 1)))), (4, .int (nI (i + 1))), (0, .ref h)]) hx hb dX2_reverseValues_62 hl (k := 2) rfl (by rw [show fo_pL G j k - 1 - i = (fo_pL G j k - 1 - (i + 1)) + 1 by omega]; exact pk_m1 _) (by decide) rfl (fun ls hl => ?_)
          refine lv_goto (tgt := 27) hx hb dX2_reverseValues_65 (by decide) ?_
          exact ih27 (i + 1) (by omega) (by omega) _ _ hP hD hS ls (lv_sub hl [2, 1, 0] rfl)
    exact L27 (fo_pL G j k - 0 + 1) 0 (by omega) (Nat.lt_succ_self _) _ _ hP hD hS ls (lv_sub hl [3, 1, 0] rfl)
  · skip
    refine lv_iload_n hx hb dX2_reverseValues_11 rfl (lv_at hl 0 rfl) ?_
    have hP : va_P D vwCl (wO h f f1 f2 ph ++ wF f fa fb fc cI cZ n (fo_cp G) (gp n G u v (fun a b => vRev va (fo_pt G a b) (fo_pL G a b) (fo_pL G a b / 2)) va va) mk ++ wP ph hq cI (pvV n G vs u v) (nI (pvL n G L u v))) H := by rw [pE_same hn c_8]; exact hP
    exact wr_i hx hb hr hlocks hP hS (pE_no hn c_8 _ _ _ _) dX2_reverseValues_12
