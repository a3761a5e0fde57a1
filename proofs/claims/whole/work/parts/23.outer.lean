theorem oI_n {x : Option Nat} (h : ¬ oI (-1) x = -1) : oI (-1) x = oI (-100000007) x := by
  cases x with
  | none => exact absurd rfl h
  | some w => rfl
theorem oI_m {x : Option Nat} (h : ∀ w, x = some w → w < 64) (e : oI (-1) x = -1) : (-100000007 : Int32) = oI (-100000007) x := by
  cases x with
  | none => rfl
  | some w => exact absurd e (nI_m1 (by have := h w rfl; omega))
set_option maxHeartbeats 4000000 in
set_option maxRecDepth 100000 in
theorem c_X2_isValue (l : Launch) (D : va_G) (cI cZ : ClassId) (x : Int32) : RdM l yX2_isValue wsX2_isValue 0 0 D cI cZ ([]) [.int x] (bI (isV x)) := by
  refine RdM.of (cc := cX2_isValue) (maxL := 1) (ret := (some .boolean)) (by decide) rfl (Nat.le_of_ble_eq_true rfl) ?_
  intro p e s m below meth c hx hb hr hml hown hts hlocks hP hK ls hl
  have hown : s.vm.findClass RX2 = some m.cls := hown
  have hl : lv_has ls 1 [(0, .int x)] := hl
  have hk136 := hts (.constant RX2 136 (-1000000)) (by decide +kernel)
  have hk137 := hts (.constant RX2 137 (1000000)) (by decide +kernel)
  refine lv_iload_n hx hb dX2_isValue_0 rfl (lv_at hl 0 rfl) ?_
  refine lv_ldc (own := RX2) hx hb hown hk136 dX2_isValue_1 ?_
  refine lv_icmp_lt (tgt := 16) hx hb dX2_isValue_3 (by decide) (fun c_3 => ?_) (fun c_3 => ?_)
  · skip
    refine lv_iconst (v := 0) hx hb dX2_isValue_16 (by decide) ?_
    exact rd_z hx hb hr hlocks (by simp [isV, bI, c_3]) dX2_isValue_17
  · skip
    refine lv_iload_n hx hb dX2_isValue_6 rfl (lv_at hl 0 rfl) ?_
    refine lv_ldc (own := RX2) hx hb hown hk137 dX2_isValue_7 ?_
    refine lv_icmp_gt (tgt := 16) hx hb dX2_isValue_9 (by decide) (fun c_9 => ?_) (fun c_9 => ?_)
    · skip
      refine lv_iconst (v := 0) hx hb dX2_isValue_16 (by decide) ?_
      exact rd_z hx hb hr hlocks (by simp [isV, bI, c_9]) dX2_isValue_17
    · skip
      refine lv_iconst (v := 1) hx hb dX2_isValue_12 (by decide) ?_
      refine lv_goto (tgt := 17) hx hb dX2_isValue_13 (by decide) ?_
      exact rd_z hx hb hr hlocks (by simp [isV, bI, c_3, c_9]) dX2_isValue_17
set_option maxHeartbeats 4000000 in
set_option maxRecDepth 100000 in
theorem c_X2_isSlot (l : Launch) (D : va_G) (cI cZ : ClassId) (x : Int32) : RdM l yX2_isSlot wsX2_isSlot 0 0 D cI cZ ([]) [.int x] (bI (isS x)) := by
  refine RdM.of (cc := cX2_isSlot) (maxL := 1) (ret := (some .boolean)) (by decide) rfl (Nat.le_of_ble_eq_true rfl) ?_
  intro p e s m below meth c hx hb hr hml hown hts hlocks hP hK ls hl
  have hown : s.vm.findClass RX2 = some m.cls := hown
  have hl : lv_has ls 1 [(0, .int x)] := hl
  refine lv_iload_n hx hb dX2_isSlot_0 rfl (lv_at hl 0 rfl) ?_
  refine lv_if_eq (tgt := 9) hx hb dX2_isSlot_1 (by decide) (fun c_1 => ?_) (fun c_1 => ?_)
  · skip
    refine lv_iconst (v := 1) hx hb dX2_isSlot_9 (by decide) ?_
    refine lv_goto (tgt := 14) hx hb dX2_isSlot_10 (by decide) ?_
    exact rd_z hx hb hr hlocks (by simp [isS, bI, c_1]) dX2_isSlot_14
  · skip
    refine lv_iload_n hx hb dX2_isSlot_4 rfl (lv_at hl 0 rfl) ?_
    refine lv_iconst (v := 1) hx hb dX2_isSlot_5 (by decide) ?_
    refine lv_icmp_ne (tgt := 13) hx hb dX2_isSlot_6 (by decide) (fun c_6 => ?_) (fun c_6 => ?_)
    · skip
      refine lv_iconst (v := 0) hx hb dX2_isSlot_13 (by decide) ?_
      exact rd_z hx hb hr hlocks (by simp [isS, bI, c_1, c_6]) dX2_isSlot_14
    · skip
      refine lv_iconst (v := 1) hx hb dX2_isSlot_9 (by decide) ?_
      refine lv_goto (tgt := 14) hx hb dX2_isSlot_10 (by decide) ?_
      exact rd_z hx hb hr hlocks (by simp [isS, bI, c_1, c_6]) dX2_isSlot_14
set_option maxHeartbeats 4000000 in
set_option maxRecDepth 100000 in
theorem c_X2_vertexCount (l : Launch) (D : va_G) (cI cZ : ClassId) (h : Nat) (f1 : Nat) (f2 : Nat) (ph : Nat) (f : Nat) (fa : Nat) (fb : Nat) (fc : Nat) (n : Nat) (G : Nat → Nat) (va : Nat → Int32) (mk : Nat → Bool) (F : fo_ok n G) : RdM l yX2_vertexCount wsX2_vertexCount 1 20 D cI cZ (wO h f f1 f2 ph ++ wF f fa fb fc cI cZ n (fo_cp G) va mk) [.ref h] (nI n) := by
  refine RdM.of (cc := cX2_vertexCount) (maxL := 1) (ret := (some .int)) (by decide) rfl (Nat.le_of_ble_eq_true rfl) ?_
  intro p e s m below meth c hx hb hr hml hown hts hlocks hP hK ls hl
  have hown : s.vm.findClass RX2 = some m.cls := hown
  have hl : lv_has ls 1 [(0, .ref h)] := hl
  have hf10 := hts (.fieldLink RX2 10 "DynamicForest" "forest" "LDynamicForest$Forest;") (by decide +kernel)
  have hin2 : ∀ w ∈ u_ws RX2 TX2 4, w ∈ wsX2_vertexCount := by decide +kernel
  refine lv_aload_n hx hb dX2_vertexCount_0 rfl (lv_at hl 0 rfl) ?_
  refine va_get (D := D) (ci := 2) (v := .ref f) (C := RX2) (T := TX2) (N := 4) hx hb hts hin2 hown hK hP 0 rfl rfl 0 (by decide) hf10 (fun _ h9 => h9) rfl dX2_vertexCount_1 ?_
  refine rd_call ⟨hx, hb, hml, hown, hts⟩ (c_X0_size l D cI cZ f fa fb fc n (fo_cp G) va mk) (cwV 0 hts gX2_vertexCount_X0_size rfl rfl rfl (by decide +kernel) ⟨Nat.le_of_ble_eq_true rfl, Nat.le_of_ble_eq_true rfl⟩) (hP.sub (ws' := wF f fa fb fc cI cZ n (fo_cp G) va mk) [1, 2, 3, 4] rfl) hK rfl rfl rfl hl rfl (Nat.le_of_ble_eq_true rfl) dX2_vertexCount_4 ⟨Nat.zero_le _, Nat.zero_le _⟩ ?_
  exact rd_i hx hb hr hlocks rfl dX2_vertexCount_7
set_option maxHeartbeats 4000000 in
set_option maxRecDepth 100000 in
theorem c_X2_treeCount (l : Launch) (D : va_G) (cI cZ : ClassId) (h : Nat) (f1 : Nat) (f2 : Nat) (ph : Nat) (f : Nat) (fa : Nat) (fb : Nat) (fc : Nat) (n : Nat) (G : Nat → Nat) (va : Nat → Int32) (mk : Nat → Bool) (F : fo_ok n G) : RdM l yX2_treeCount wsX2_treeCount 4 85 D cI cZ (wO h f f1 f2 ph ++ wF f fa fb fc cI cZ n (fo_cp G) va mk) [.ref h] (nI (fo_cnt (fun v => decide (G v = v)) n)) := by
  refine RdM.of (cc := cX2_treeCount) (maxL := 1) (ret := (some .int)) (by decide) rfl (Nat.le_of_ble_eq_true rfl) ?_
  intro p e s m below meth c hx hb hr hml hown hts hlocks hP hK ls hl
  have hown : s.vm.findClass RX2 = some m.cls := hown
  have hl : lv_has ls 1 [(0, .ref h)] := hl
  have hf10 := hts (.fieldLink RX2 10 "DynamicForest" "forest" "LDynamicForest$Forest;") (by decide +kernel)
  have hin2 : ∀ w ∈ u_ws RX2 TX2 4, w ∈ wsX2_treeCount := by decide +kernel
  refine lv_aload_n hx hb dX2_treeCount_0 rfl (lv_at hl 0 rfl) ?_
  refine va_get (D := D) (ci := 2) (v := .ref f) (C := RX2) (T := TX2) (N := 4) hx hb hts hin2 hown hK hP 0 rfl rfl 0 (by decide) hf10 (fun _ h9 => h9) rfl dX2_treeCount_1 ?_
  refine rd_call ⟨hx, hb, hml, hown, hts⟩ (c_X0_countRoots l D cI cZ f fa fb fc n G va mk F) (cwV 0 hts gX2_treeCount_X0_countRoots rfl rfl rfl (by decide +kernel) ⟨Nat.le_of_ble_eq_true rfl, Nat.le_of_ble_eq_true rfl⟩) (hP.sub (ws' := wF f fa fb fc cI cZ n (fo_cp G) va mk) [1, 2, 3, 4] rfl) hK rfl rfl rfl hl rfl (Nat.le_of_ble_eq_true rfl) dX2_treeCount_4 ⟨Nat.zero_le _, Nat.zero_le _⟩ ?_
  exact rd_i hx hb hr hlocks rfl dX2_treeCount_7
set_option maxHeartbeats 4000000 in
set_option maxRecDepth 100000 in
theorem c_X2_root (l : Launch) (D : va_G) (cI cZ : ClassId) (h : Nat) (f1 : Nat) (f2 : Nat) (ph : Nat) (f : Nat) (fa : Nat) (fb : Nat) (fc : Nat) (n : Nat) (G : Nat → Nat) (va : Nat → Int32) (mk : Nat → Bool) (F : fo_ok n G) (v : Int32) : RdM l yX2_root wsX2_root 4 87 D cI cZ (wO h f f1 f2 ph ++ wF f fa fb fc cI cZ n (fo_cp G) va mk) [.ref h, .int v] (ga n v (fun j => nI (fo_r G j)) (-100000001)) := by
  refine RdM.of (cc := cX2_root) (maxL := 2) (ret := (some .int)) (by decide) rfl (Nat.le_of_ble_eq_true rfl) ?_
  intro p e s m below meth c hx hb hr hml hown hts hlocks hP hK ls hl
  have hown : s.vm.findClass RX2 = some m.cls := hown
  have hl : lv_has ls 2 [(0, .ref h), (1, .int v)] := hl
  have hf10 := hts (.fieldLink RX2 10 "DynamicForest" "forest" "LDynamicForest$Forest;") (by decide +kernel)
  have hk42 := hts (.constant RX2 42 (-100000001)) (by decide +kernel)
  have hin2 : ∀ w ∈ u_ws RX2 TX2 4, w ∈ wsX2_root := by decide +kernel
  have hn : n ≤ 64 := F.2.1
  refine lv_aload_n hx hb dX2_root_0 rfl (lv_at hl 0 rfl) ?_
  refine va_get (D := D) (ci := 2) (v := .ref f) (C := RX2) (T := TX2) (N := 4) hx hb hts hin2 hown hK hP 0 rfl rfl 0 (by decide) hf10 (fun _ h9 => h9) rfl dX2_root_1 ?_
  refine lv_iload_n hx hb dX2_root_4 rfl (lv_at hl 1 rfl) ?_
  refine rd_call ⟨hx, hb, hml, hown, hts⟩ (c_X0_has l D cI cZ f fa fb fc n (fo_cp G) va mk v) (cwV 1 hts gX2_root_X0_has rfl rfl rfl (by decide +kernel) ⟨Nat.le_of_ble_eq_true rfl, Nat.le_of_ble_eq_true rfl⟩) (hP.sub (ws' := wF f fa fb fc cI cZ n (fo_cp G) va mk) [1, 2, 3, 4] rfl) hK rfl rfl rfl hl rfl (Nat.le_of_ble_eq_true rfl) dX2_root_5 ⟨Nat.zero_le _, Nat.zero_le _⟩ ?_
  refine lv_if_eq (tgt := 22) hx hb dX2_root_8 (by decide) (fun c_8 => ?_) (fun c_8 => ?_)
  · skip
    have c_8 := bI_0 c_8
    refine lv_ldc (own := RX2) hx hb hown hk42 dX2_root_22 ?_
    exact rd_i hx hb hr hlocks (by rw [ga_f c_8]) dX2_root_24
  · skip
    have c_8 := bI_1 c_8
    obtain ⟨j, hj, rfl⟩ := hasB_of hn c_8
    refine lv_aload_n hx hb dX2_root_11 rfl (lv_at hl 0 rfl) ?_
    refine va_get (D := D) (ci := 2) (v := .ref f) (C := RX2) (T := TX2) (N := 4) hx hb hts hin2 hown hK hP 0 rfl rfl 0 (by decide) hf10 (fun _ h9 => h9) rfl dX2_root_12 ?_
    refine lv_iload_n hx hb dX2_root_15 rfl (lv_at hl 1 rfl) ?_
    refine rd_call ⟨hx, hb, hml, hown, hts⟩ (c_X0_rootOf l D cI cZ f fa fb fc n G va mk F j hj) (cwV 1 hts gX2_root_X0_rootOf rfl rfl rfl (by decide +kernel) ⟨Nat.le_of_ble_eq_true rfl, Nat.le_of_ble_eq_true rfl⟩) (hP.sub (ws' := wF f fa fb fc cI cZ n (fo_cp G) va mk) [1, 2, 3, 4] rfl) hK rfl rfl rfl hl rfl (Nat.le_of_ble_eq_true rfl) dX2_root_16 ⟨Nat.zero_le _, Nat.zero_le _⟩ ?_
    refine lv_goto (tgt := 24) hx hb dX2_root_19 (by decide) ?_
    exact rd_i hx hb hr hlocks (by rw [ga_t hj hn]) dX2_root_24
set_option maxHeartbeats 4000000 in
set_option maxRecDepth 100000 in
theorem c_X2_depth (l : Launch) (D : va_G) (cI cZ : ClassId) (h : Nat) (f1 : Nat) (f2 : Nat) (ph : Nat) (f : Nat) (fa : Nat) (fb : Nat) (fc : Nat) (n : Nat) (G : Nat → Nat) (va : Nat → Int32) (mk : Nat → Bool) (F : fo_ok n G) (v : Int32) : RdM l yX2_depth wsX2_depth 3 65 D cI cZ (wO h f f1 f2 ph ++ wF f fa fb fc cI cZ n (fo_cp G) va mk) [.ref h, .int v] (ga n v (fun j => nI (fo_d G j)) (-100000001)) := by
  refine RdM.of (cc := cX2_depth) (maxL := 2) (ret := (some .int)) (by decide) rfl (Nat.le_of_ble_eq_true rfl) ?_
  intro p e s m below meth c hx hb hr hml hown hts hlocks hP hK ls hl
  have hown : s.vm.findClass RX2 = some m.cls := hown
  have hl : lv_has ls 2 [(0, .ref h), (1, .int v)] := hl
  have hf10 := hts (.fieldLink RX2 10 "DynamicForest" "forest" "LDynamicForest$Forest;") (by decide +kernel)
  have hk42 := hts (.constant RX2 42 (-100000001)) (by decide +kernel)
  have hin2 : ∀ w ∈ u_ws RX2 TX2 4, w ∈ wsX2_depth := by decide +kernel
  have hn : n ≤ 64 := F.2.1
  refine lv_aload_n hx hb dX2_depth_0 rfl (lv_at hl 0 rfl) ?_
  refine va_get (D := D) (ci := 2) (v := .ref f) (C := RX2) (T := TX2) (N := 4) hx hb hts hin2 hown hK hP 0 rfl rfl 0 (by decide) hf10 (fun _ h9 => h9) rfl dX2_depth_1 ?_
  refine lv_iload_n hx hb dX2_depth_4 rfl (lv_at hl 1 rfl) ?_
  refine rd_call ⟨hx, hb, hml, hown, hts⟩ (c_X0_has l D cI cZ f fa fb fc n (fo_cp G) va mk v) (cwV 1 hts gX2_depth_X0_has rfl rfl rfl (by decide +kernel) ⟨Nat.le_of_ble_eq_true rfl, Nat.le_of_ble_eq_true rfl⟩) (hP.sub (ws' := wF f fa fb fc cI cZ n (fo_cp G) va mk) [1, 2, 3, 4] rfl) hK rfl rfl rfl hl rfl (Nat.le_of_ble_eq_true rfl) dX2_depth_5 ⟨Nat.zero_le _, Nat.zero_le _⟩ ?_
  refine lv_if_eq (tgt := 22) hx hb dX2_depth_8 (by decide) (fun c_8 => ?_) (fun c_8 => ?_)
  · skip
    have c_8 := bI_0 c_8
    refine lv_ldc (own := RX2) hx hb hown hk42 dX2_depth_22 ?_
    exact rd_i hx hb hr hlocks (by rw [ga_f c_8]) dX2_depth_24
  · skip
    have c_8 := bI_1 c_8
    obtain ⟨j, hj, rfl⟩ := hasB_of hn c_8
    refine lv_aload_n hx hb dX2_depth_11 rfl (lv_at hl 0 rfl) ?_
    refine va_get (D := D) (ci := 2) (v := .ref f) (C := RX2) (T := TX2) (N := 4) hx hb hts hin2 hown hK hP 0 rfl rfl 0 (by decide) hf10 (fun _ h9 => h9) rfl dX2_depth_12 ?_
    refine lv_iload_n hx hb dX2_depth_15 rfl (lv_at hl 1 rfl) ?_
    refine rd_call ⟨hx, hb, hml, hown, hts⟩ (c_X0_depthOf l D cI cZ f fa fb fc n G va mk F j hj) (cwV 1 hts gX2_depth_X0_depthOf rfl rfl rfl (by decide +kernel) ⟨Nat.le_of_ble_eq_true rfl, Nat.le_of_ble_eq_true rfl⟩) (hP.sub (ws' := wF f fa fb fc cI cZ n (fo_cp G) va mk) [1, 2, 3, 4] rfl) hK rfl rfl rfl hl rfl (Nat.le_of_ble_eq_true rfl) dX2_depth_16 ⟨Nat.zero_le _, Nat.zero_le _⟩ ?_
    refine lv_goto (tgt := 24) hx hb dX2_depth_19 (by decide) ?_
    exact rd_i hx hb hr hlocks (by rw [ga_t hj hn]) dX2_depth_24
set_option maxHeartbeats 4000000 in
set_option maxRecDepth 100000 in
theorem c_X2_subtreeSize (l : Launch) (D : va_G) (cI cZ : ClassId) (h : Nat) (f1 : Nat) (f2 : Nat) (ph : Nat) (f : Nat) (fa : Nat) (fb : Nat) (fc : Nat) (n : Nat) (G : Nat → Nat) (va : Nat → Int32) (mk : Nat → Bool) (F : fo_ok n G) (v : Int32) : RdM l yX2_subtreeSize wsX2_subtreeSize 5 112 D cI cZ (wO h f f1 f2 ph ++ wF f fa fb fc cI cZ n (fo_cp G) va mk) [.ref h, .int v] (ga n v (fun j => nI (fo_cnt (fun w => fo_bel G w j) n)) (-100000001)) := by
  refine RdM.of (cc := cX2_subtreeSize) (maxL := 2) (ret := (some .int)) (by decide) rfl (Nat.le_of_ble_eq_true rfl) ?_
  intro p e s m below meth c hx hb hr hml hown hts hlocks hP hK ls hl
  have hown : s.vm.findClass RX2 = some m.cls := hown
  have hl : lv_has ls 2 [(0, .ref h), (1, .int v)] := hl
  have hf10 := hts (.fieldLink RX2 10 "DynamicForest" "forest" "LDynamicForest$Forest;") (by decide +kernel)
  have hk42 := hts (.constant RX2 42 (-100000001)) (by decide +kernel)
  have hin2 : ∀ w ∈ u_ws RX2 TX2 4, w ∈ wsX2_subtreeSize := by decide +kernel
  have hn : n ≤ 64 := F.2.1
  refine lv_aload_n hx hb dX2_subtreeSize_0 rfl (lv_at hl 0 rfl) ?_
  refine va_get (D := D) (ci := 2) (v := .ref f) (C := RX2) (T := TX2) (N := 4) hx hb hts hin2 hown hK hP 0 rfl rfl 0 (by decide) hf10 (fun _ h9 => h9) rfl dX2_subtreeSize_1 ?_
  refine lv_iload_n hx hb dX2_subtreeSize_4 rfl (lv_at hl 1 rfl) ?_
  refine rd_call ⟨hx, hb, hml, hown, hts⟩ (c_X0_has l D cI cZ f fa fb fc n (fo_cp G) va mk v) (cwV 1 hts gX2_subtreeSize_X0_has rfl rfl rfl (by decide +kernel) ⟨Nat.le_of_ble_eq_true rfl, Nat.le_of_ble_eq_true rfl⟩) (hP.sub (ws' := wF f fa fb fc cI cZ n (fo_cp G) va mk) [1, 2, 3, 4] rfl) hK rfl rfl rfl hl rfl (Nat.le_of_ble_eq_true rfl) dX2_subtreeSize_5 ⟨Nat.zero_le _, Nat.zero_le _⟩ ?_
  refine lv_if_eq (tgt := 22) hx hb dX2_subtreeSize_8 (by decide) (fun c_8 => ?_) (fun c_8 => ?_)
  · skip
    have c_8 := bI_0 c_8
    refine lv_ldc (own := RX2) hx hb hown hk42 dX2_subtreeSize_22 ?_
    exact rd_i hx hb hr hlocks (by rw [ga_f c_8]) dX2_subtreeSize_24
  · skip
    have c_8 := bI_1 c_8
    obtain ⟨j, hj, rfl⟩ := hasB_of hn c_8
    refine lv_aload_n hx hb dX2_subtreeSize_11 rfl (lv_at hl 0 rfl) ?_
    refine va_get (D := D) (ci := 2) (v := .ref f) (C := RX2) (T := TX2) (N := 4) hx hb hts hin2 hown hK hP 0 rfl rfl 0 (by decide) hf10 (fun _ h9 => h9) rfl dX2_subtreeSize_12 ?_
    refine lv_iload_n hx hb dX2_subtreeSize_15 rfl (lv_at hl 1 rfl) ?_
    refine rd_call ⟨hx, hb, hml, hown, hts⟩ (c_X0_countBelow l D cI cZ f fa fb fc n G va mk F j hj) (cwV 1 hts gX2_subtreeSize_X0_countBelow rfl rfl rfl (by decide +kernel) ⟨Nat.le_of_ble_eq_true rfl, Nat.le_of_ble_eq_true rfl⟩) (hP.sub (ws' := wF f fa fb fc cI cZ n (fo_cp G) va mk) [1, 2, 3, 4] rfl) hK rfl rfl rfl hl rfl (Nat.le_of_ble_eq_true rfl) dX2_subtreeSize_16 ⟨Nat.zero_le _, Nat.zero_le _⟩ ?_
    refine lv_goto (tgt := 24) hx hb dX2_subtreeSize_19 (by decide) ?_
    exact rd_i hx hb hr hlocks (by rw [ga_t hj hn]) dX2_subtreeSize_24
set_option maxHeartbeats 4000000 in
set_option maxRecDepth 100000 in
theorem c_X2_value (l : Launch) (D : va_G) (cI cZ : ClassId) (h : Nat) (f1 : Nat) (f2 : Nat) (ph : Nat) (f : Nat) (fa : Nat) (fb : Nat) (fc : Nat) (n : Nat) (G : Nat → Nat) (va : Nat → Int32) (mk : Nat → Bool) (F : fo_ok n G) (v : Int32) : RdM l yX2_value wsX2_value 2 42 D cI cZ (wO h f f1 f2 ph ++ wF f fa fb fc cI cZ n (fo_cp G) va mk) [.ref h, .int v] (ga n v (fun j => va j) (-100000001)) := by
  refine RdM.of (cc := cX2_value) (maxL := 2) (ret := (some .int)) (by decide) rfl (Nat.le_of_ble_eq_true rfl) ?_
  intro p e s m below meth c hx hb hr hml hown hts hlocks hP hK ls hl
  have hown : s.vm.findClass RX2 = some m.cls := hown
  have hl : lv_has ls 2 [(0, .ref h), (1, .int v)] := hl
  have hf10 := hts (.fieldLink RX2 10 "DynamicForest" "forest" "LDynamicForest$Forest;") (by decide +kernel)
  have hk42 := hts (.constant RX2 42 (-100000001)) (by decide +kernel)
  have hin2 : ∀ w ∈ u_ws RX2 TX2 4, w ∈ wsX2_value := by decide +kernel
  have hn : n ≤ 64 := F.2.1
  refine lv_aload_n hx hb dX2_value_0 rfl (lv_at hl 0 rfl) ?_
  refine va_get (D := D) (ci := 2) (v := .ref f) (C := RX2) (T := TX2) (N := 4) hx hb hts hin2 hown hK hP 0 rfl rfl 0 (by decide) hf10 (fun _ h9 => h9) rfl dX2_value_1 ?_
  refine lv_iload_n hx hb dX2_value_4 rfl (lv_at hl 1 rfl) ?_
  refine rd_call ⟨hx, hb, hml, hown, hts⟩ (c_X0_has l D cI cZ f fa fb fc n (fo_cp G) va mk v) (cwV 1 hts gX2_value_X0_has rfl rfl rfl (by decide +kernel) ⟨Nat.le_of_ble_eq_true rfl, Nat.le_of_ble_eq_true rfl⟩) (hP.sub (ws' := wF f fa fb fc cI cZ n (fo_cp G) va mk) [1, 2, 3, 4] rfl) hK rfl rfl rfl hl rfl (Nat.le_of_ble_eq_true rfl) dX2_value_5 ⟨Nat.zero_le _, Nat.zero_le _⟩ ?_
  refine lv_if_eq (tgt := 22) hx hb dX2_value_8 (by decide) (fun c_8 => ?_) (fun c_8 => ?_)
  · skip
    have c_8 := bI_0 c_8
    refine lv_ldc (own := RX2) hx hb hown hk42 dX2_value_22 ?_
    exact rd_i hx hb hr hlocks (by rw [ga_f c_8]) dX2_value_24
  · skip
    have c_8 := bI_1 c_8
    obtain ⟨j, hj, rfl⟩ := hasB_of hn c_8
    refine lv_aload_n hx hb dX2_value_11 rfl (lv_at hl 0 rfl) ?_
    refine va_get (D := D) (ci := 2) (v := .ref f) (C := RX2) (T := TX2) (N := 4) hx hb hts hin2 hown hK hP 0 rfl rfl 0 (by decide) hf10 (fun _ h9 => h9) rfl dX2_value_12 ?_
    refine lv_iload_n hx hb dX2_value_15 rfl (lv_at hl 1 rfl) ?_
    refine rd_call ⟨hx, hb, hml, hown, hts⟩ (c_X0_valueOf l D cI cZ f fa fb fc n (fo_cp G) va mk j hj hn) (cwV 1 hts gX2_value_X0_valueOf rfl rfl rfl (by decide +kernel) ⟨Nat.le_of_ble_eq_true rfl, Nat.le_of_ble_eq_true rfl⟩) (hP.sub (ws' := wF f fa fb fc cI cZ n (fo_cp G) va mk) [1, 2, 3, 4] rfl) hK rfl rfl rfl hl rfl (Nat.le_of_ble_eq_true rfl) dX2_value_16 ⟨Nat.zero_le _, Nat.zero_le _⟩ ?_
    refine lv_goto (tgt := 24) hx hb dX2_value_19 (by decide) ?_
    exact rd_i hx hb hr hlocks (by rw [ga_t hj hn]) dX2_value_24
set_option maxHeartbeats 4000000 in
set_option maxRecDepth 100000 in
theorem c_X2_parent (l : Launch) (D : va_G) (cI cZ : ClassId) (h : Nat) (f1 : Nat) (f2 : Nat) (ph : Nat) (f : Nat) (fa : Nat) (fb : Nat) (fc : Nat) (n : Nat) (G : Nat → Nat) (va : Nat → Int32) (mk : Nat → Bool) (F : fo_ok n G) (v : Int32) : RdM l yX2_parent wsX2_parent 3 63 D cI cZ (wO h f f1 f2 ph ++ wF f fa fb fc cI cZ n (fo_cp G) va mk) [.ref h, .int v] (ga n v (fun j => if G j = j then -100000007 else nI (G j)) (-100000001)) := by
  refine RdM.of (cc := cX2_parent) (maxL := 2) (ret := (some .int)) (by decide) rfl (Nat.le_of_ble_eq_true rfl) ?_
  intro p e s m below meth c hx hb hr hml hown hts hlocks hP hK ls hl
  have hown : s.vm.findClass RX2 = some m.cls := hown
  have hl : lv_has ls 2 [(0, .ref h), (1, .int v)] := hl
  have hf10 := hts (.fieldLink RX2 10 "DynamicForest" "forest" "LDynamicForest$Forest;") (by decide +kernel)
  have hk42 := hts (.constant RX2 42 (-100000001)) (by decide +kernel)
  have hk59 := hts (.constant RX2 59 (-100000007)) (by decide +kernel)
  have hin2 : ∀ w ∈ u_ws RX2 TX2 4, w ∈ wsX2_parent := by decide +kernel
  have hn : n ≤ 64 := F.2.1
  refine lv_aload_n hx hb dX2_parent_0 rfl (lv_at hl 0 rfl) ?_
  refine va_get (D := D) (ci := 2) (v := .ref f) (C := RX2) (T := TX2) (N := 4) hx hb hts hin2 hown hK hP 0 rfl rfl 0 (by decide) hf10 (fun _ h9 => h9) rfl dX2_parent_1 ?_
  refine lv_iload_n hx hb dX2_parent_4 rfl (lv_at hl 1 rfl) ?_
  refine rd_call ⟨hx, hb, hml, hown, hts⟩ (c_X0_has l D cI cZ f fa fb fc n (fo_cp G) va mk v) (cwV 1 hts gX2_parent_X0_has rfl rfl rfl (by decide +kernel) ⟨Nat.le_of_ble_eq_true rfl, Nat.le_of_ble_eq_true rfl⟩) (hP.sub (ws' := wF f fa fb fc cI cZ n (fo_cp G) va mk) [1, 2, 3, 4] rfl) hK rfl rfl rfl hl rfl (Nat.le_of_ble_eq_true rfl) dX2_parent_5 ⟨Nat.zero_le _, Nat.zero_le _⟩ ?_
  refine lv_if_ne (tgt := 14) hx hb dX2_parent_8 (by decide) (fun c_8 => ?_) (fun c_8 => ?_)
  · skip
    have c_8 := bI_1 c_8
    obtain ⟨j, hj, rfl⟩ := hasB_of hn c_8
    refine lv_aload_n hx hb dX2_parent_14 rfl (lv_at hl 0 rfl) ?_
    refine va_get (D := D) (ci := 2) (v := .ref f) (C := RX2) (T := TX2) (N := 4) hx hb hts hin2 hown hK hP 0 rfl rfl 0 (by decide) hf10 (fun _ h9 => h9) rfl dX2_parent_15 ?_
    refine lv_iload_n hx hb dX2_parent_18 rfl (lv_at hl 1 rfl) ?_
    refine rd_call ⟨hx, hb, hml, hown, hts⟩ (c_X0_isRoot l D cI cZ f fa fb fc n (fo_cp G) va mk j hj hn) (cwV 1 hts gX2_parent_X0_isRoot rfl rfl rfl (by decide +kernel) ⟨Nat.le_of_ble_eq_true rfl, Nat.le_of_ble_eq_true rfl⟩) (hP.sub (ws' := wF f fa fb fc cI cZ n (fo_cp G) va mk) [1, 2, 3, 4] rfl) hK rfl rfl rfl hl rfl (Nat.le_of_ble_eq_true rfl) dX2_parent_19 ⟨Nat.zero_le _, Nat.zero_le _⟩ ?_
    refine lv_if_eq (tgt := 30) hx hb dX2_parent_22 (by decide) (fun c_22 => ?_) (fun c_22 => ?_)
    · skip
      have c_22 := bI_0 c_22
      have c_22 : ¬ G j = j := by simpa [fo_cp_1 F hj] using c_22
      refine lv_aload_n hx hb dX2_parent_30 rfl (lv_at hl 0 rfl) ?_
      refine va_get (D := D) (ci := 2) (v := .ref f) (C := RX2) (T := TX2) (N := 4) hx hb hts hin2 hown hK hP 0 rfl rfl 0 (by decide) hf10 (fun _ h9 => h9) rfl dX2_parent_31 ?_
      refine lv_iload_n hx hb dX2_parent_34 rfl (lv_at hl 1 rfl) ?_
      refine rd_call ⟨hx, hb, hml, hown, hts⟩ (c_X0_parentOf l D cI cZ f fa fb fc n (fo_cp G) va mk j hj hn) (cwV 1 hts gX2_parent_X0_parentOf rfl rfl rfl (by decide +kernel) ⟨Nat.le_of_ble_eq_true rfl, Nat.le_of_ble_eq_true rfl⟩) (hP.sub (ws' := wF f fa fb fc cI cZ n (fo_cp G) va mk) [1, 2, 3, 4] rfl) hK rfl rfl rfl hl rfl (Nat.le_of_ble_eq_true rfl) dX2_parent_35 ⟨Nat.zero_le _, Nat.zero_le _⟩ ?_
      exact rd_i hx hb hr hlocks (by rw [ga_t hj hn, if_neg c_22, fo_cp_n c_22]) dX2_parent_38
    · skip
      have c_22 := bI_1 c_22
      have c_22 : G j = j := by simpa [fo_cp_1 F hj] using c_22
      refine lv_ldc (own := RX2) hx hb hown hk59 dX2_parent_25 ?_
      refine lv_goto (tgt := 38) hx hb dX2_parent_27 (by decide) ?_
      exact rd_i hx hb hr hlocks (by rw [ga_t hj hn, if_pos c_22]) dX2_parent_38
  · skip
    have c_8 := bI_0 c_8
    refine lv_ldc (own := RX2) hx hb hown hk42 dX2_parent_11 ?_
    exact rd_i hx hb hr hlocks (by rw [ga_f c_8]) dX2_parent_13
set_option maxHeartbeats 4000000 in
set_option maxRecDepth 100000 in
theorem c_X2_connected (l : Launch) (D : va_G) (cI cZ : ClassId) (h : Nat) (f1 : Nat) (f2 : Nat) (ph : Nat) (f : Nat) (fa : Nat) (fb : Nat) (fc : Nat) (n : Nat) (G : Nat → Nat) (va : Nat → Int32) (mk : Nat → Bool) (F : fo_ok n G) (u : Int32) (v : Int32) : RdM l yX2_connected wsX2_connected 4 87 D cI cZ (wO h f f1 f2 ph ++ wF f fa fb fc cI cZ n (fo_cp G) va mk) [.ref h, .int u, .int v] (gb n u v (fun a b => if fo_r G a = fo_r G b then 1 else 0) (-100000001)) := by
  refine RdM.of (cc := cX2_connected) (maxL := 3) (ret := (some .int)) (by decide) rfl (Nat.le_of_ble_eq_true rfl) ?_
  intro p e s m below meth c hx hb hr hml hown hts hlocks hP hK ls hl
  have hown : s.vm.findClass RX2 = some m.cls := hown
  have hl : lv_has ls 3 [(0, .ref h), (1, .int u), (2, .int v)] := hl
  have hf10 := hts (.fieldLink RX2 10 "DynamicForest" "forest" "LDynamicForest$Forest;") (by decide +kernel)
  have hk42 := hts (.constant RX2 42 (-100000001)) (by decide +kernel)
  have hin2 : ∀ w ∈ u_ws RX2 TX2 4, w ∈ wsX2_connected := by decide +kernel
  have hn : n ≤ 64 := F.2.1
  refine lv_aload_n hx hb dX2_connected_0 rfl (lv_at hl 0 rfl) ?_
  refine va_get (D := D) (ci := 2) (v := .ref f) (C := RX2) (T := TX2) (N := 4) hx hb hts hin2 hown hK hP 0 rfl rfl 0 (by decide) hf10 (fun _ h9 => h9) rfl dX2_connected_1 ?_
  refine lv_iload_n hx hb dX2_connected_4 rfl (lv_at hl 1 rfl) ?_
  refine rd_call ⟨hx, hb, hml, hown, hts⟩ (c_X0_has l D cI cZ f fa fb fc n (fo_cp G) va mk u) (cwV 1 hts gX2_connected_X0_has rfl rfl rfl (by decide +kernel) ⟨Nat.le_of_ble_eq_true rfl, Nat.le_of_ble_eq_true rfl⟩) (hP.sub (ws' := wF f fa fb fc cI cZ n (fo_cp G) va mk) [1, 2, 3, 4] rfl) hK rfl rfl rfl hl rfl (Nat.le_of_ble_eq_true rfl) dX2_connected_5 ⟨Nat.zero_le _, Nat.zero_le _⟩ ?_
  refine lv_if_eq (tgt := 22) hx hb dX2_connected_8 (by decide) (fun c_8 => ?_) (fun c_8 => ?_)
  · skip
    have c_8 := bI_0 c_8
    refine lv_ldc (own := RX2) hx hb hown hk42 dX2_connected_22 ?_
    exact rd_i hx hb hr hlocks (by rw [gb_fl c_8]) dX2_connected_24
  · skip
    have c_8 := bI_1 c_8
    obtain ⟨j, hj, rfl⟩ := hasB_of hn c_8
    refine lv_aload_n hx hb dX2_connected_11 rfl (lv_at hl 0 rfl) ?_
    refine va_get (D := D) (ci := 2) (v := .ref f) (C := RX2) (T := TX2) (N := 4) hx hb hts hin2 hown hK hP 0 rfl rfl 0 (by decide) hf10 (fun _ h9 => h9) rfl dX2_connected_12 ?_
    refine lv_iload_n hx hb dX2_connected_15 rfl (lv_at hl 2 rfl) ?_
    refine rd_call ⟨hx, hb, hml, hown, hts⟩ (c_X0_has l D cI cZ f fa fb fc n (fo_cp G) va mk v) (cwV 1 hts gX2_connected_X0_has rfl rfl rfl (by decide +kernel) ⟨Nat.le_of_ble_eq_true rfl, Nat.le_of_ble_eq_true rfl⟩) (hP.sub (ws' := wF f fa fb fc cI cZ n (fo_cp G) va mk) [1, 2, 3, 4] rfl) hK rfl rfl rfl hl rfl (Nat.le_of_ble_eq_true rfl) dX2_connected_16 ⟨Nat.zero_le _, Nat.zero_le _⟩ ?_
    refine lv_if_ne (tgt := 25) hx hb dX2_connected_19 (by decide) (fun c_19 => ?_) (fun c_19 => ?_)
    · skip
      have c_19 := bI_1 c_19
      obtain ⟨k, hk, rfl⟩ := hasB_of hn c_19
      refine lv_aload_n hx hb dX2_connected_25 rfl (lv_at hl 0 rfl) ?_
      refine va_get (D := D) (ci := 2) (v := .ref f) (C := RX2) (T := TX2) (N := 4) hx hb hts hin2 hown hK hP 0 rfl rfl 0 (by decide) hf10 (fun _ h9 => h9) rfl dX2_connected_26 ?_
      refine lv_iload_n hx hb dX2_connected_29 rfl (lv_at hl 1 rfl) ?_
      refine rd_call ⟨hx, hb, hml, hown, hts⟩ (c_X0_rootOf l D cI cZ f fa fb fc n G va mk F j hj) (cwV 1 hts gX2_connected_X0_rootOf rfl rfl rfl (by decide +kernel) ⟨Nat.le_of_ble_eq_true rfl, Nat.le_of_ble_eq_true rfl⟩) (hP.sub (ws' := wF f fa fb fc cI cZ n (fo_cp G) va mk) [1, 2, 3, 4] rfl) hK rfl rfl rfl hl rfl (Nat.le_of_ble_eq_true rfl) dX2_connected_30 ⟨Nat.zero_le _, Nat.zero_le _⟩ ?_
      refine lv_aload_n hx hb dX2_connected_33 rfl (lv_at hl 0 rfl) ?_
      refine va_get (D := D) (ci := 2) (v := .ref f) (C := RX2) (T := TX2) (N := 4) hx hb hts hin2 hown hK hP 0 rfl rfl 0 (by decide) hf10 (fun _ h9 => h9) rfl dX2_connected_34 ?_
      refine lv_iload_n hx hb dX2_connected_37 rfl (lv_at hl 2 rfl) ?_
      refine rd_call ⟨hx, hb, hml, hown, hts⟩ (c_X0_rootOf l D cI cZ f fa fb fc n G va mk F k hk) (cwV 1 hts gX2_connected_X0_rootOf rfl rfl rfl (by decide +kernel) ⟨Nat.le_of_ble_eq_true rfl, Nat.le_of_ble_eq_true rfl⟩) (hP.sub (ws' := wF f fa fb fc cI cZ n (fo_cp G) va mk) [1, 2, 3, 4] rfl) hK rfl rfl rfl hl rfl (Nat.le_of_ble_eq_true rfl) dX2_connected_38 ⟨Nat.zero_le _, Nat.zero_le _⟩ ?_
      have hlj := fo_r_lt F hj
      have hlk := fo_r_lt F hk
      refine lv_icmp_ne (tgt := 48) hx hb dX2_connected_41 (by decide) (fun c_41 => ?_) (fun c_41 => ?_)
      · skip
        have c_41 := cn_ne (a := (fo_r G j)) (b := (fo_r G k)) (by omega) (by omega) c_41
        refine lv_iconst (v := 0) hx hb dX2_connected_48 (by decide) ?_
        exact rd_i hx hb hr hlocks (by rw [gb_t hj hk hn, if_neg c_41]) dX2_connected_49
      · skip
        have c_41 := cn_eq (a := (fo_r G j)) (b := (fo_r G k)) (by omega) (by omega) c_41
        refine lv_iconst (v := 1) hx hb dX2_connected_44 (by decide) ?_
        refine lv_goto (tgt := 49) hx hb dX2_connected_45 (by decide) ?_
        exact rd_i hx hb hr hlocks (by rw [gb_t hj hk hn, if_pos c_41]) dX2_connected_49
    · skip
      have c_19 := bI_0 c_19
      refine lv_ldc (own := RX2) hx hb hown hk42 dX2_connected_22 ?_
      exact rd_i hx hb hr hlocks (by rw [gb_fr c_19]) dX2_connected_24
set_option maxHeartbeats 4000000 in
set_option maxRecDepth 100000 in
theorem c_X2_pathError (l : Launch) (D : va_G) (cI cZ : ClassId) (h : Nat) (f1 : Nat) (f2 : Nat) (ph : Nat) (f : Nat) (fa : Nat) (fb : Nat) (fc : Nat) (n : Nat) (G : Nat → Nat) (va : Nat → Int32) (mk : Nat → Bool) (F : fo_ok n G) (u : Int32) (v : Int32) : RdM l yX2_pathError wsX2_pathError 4 87 D cI cZ (wO h f f1 f2 ph ++ wF f fa fb fc cI cZ n (fo_cp G) va mk) [.ref h, .int u, .int v] (pE n G u v) := by
  refine RdM.of (cc := cX2_pathError) (maxL := 3) (ret := (some .int)) (by decide) rfl (Nat.le_of_ble_eq_true rfl) ?_
  intro p e s m below meth c hx hb hr hml hown hts hlocks hP hK ls hl
  have hown : s.vm.findClass RX2 = some m.cls := hown
  have hl : lv_has ls 3 [(0, .ref h), (1, .int u), (2, .int v)] := hl
  have hf10 := hts (.fieldLink RX2 10 "DynamicForest" "forest" "LDynamicForest$Forest;") (by decide +kernel)
  have hk42 := hts (.constant RX2 42 (-100000001)) (by decide +kernel)
  have hk138 := hts (.constant RX2 138 (-100000004)) (by decide +kernel)
  have hin2 : ∀ w ∈ u_ws RX2 TX2 4, w ∈ wsX2_pathError := by decide +kernel
  have hn : n ≤ 64 := F.2.1
  refine lv_aload_n hx hb dX2_pathError_0 rfl (lv_at hl 0 rfl) ?_
  refine va_get (D := D) (ci := 2) (v := .ref f) (C := RX2) (T := TX2) (N := 4) hx hb hts hin2 hown hK hP 0 rfl rfl 0 (by decide) hf10 (fun _ h9 => h9) rfl dX2_pathError_1 ?_
  refine lv_iload_n hx hb dX2_pathError_4 rfl (lv_at hl 1 rfl) ?_
  refine rd_call ⟨hx, hb, hml, hown, hts⟩ (c_X0_has l D cI cZ f fa fb fc n (fo_cp G) va mk u) (cwV 1 hts gX2_pathError_X0_has rfl rfl rfl (by decide +kernel) ⟨Nat.le_of_ble_eq_true rfl, Nat.le_of_ble_eq_true rfl⟩) (hP.sub (ws' := wF f fa fb fc cI cZ n (fo_cp G) va mk) [1, 2, 3, 4] rfl) hK rfl rfl rfl hl rfl (Nat.le_of_ble_eq_true rfl) dX2_pathError_5 ⟨Nat.zero_le _, Nat.zero_le _⟩ ?_
  refine lv_if_eq (tgt := 22) hx hb dX2_pathError_8 (by decide) (fun c_8 => ?_) (fun c_8 => ?_)
  · skip
    have c_8 := bI_0 c_8
    refine lv_ldc (own := RX2) hx hb hown hk42 dX2_pathError_22 ?_
    exact rd_i hx hb hr hlocks (by unfold pE; rw [gp_fl c_8]) dX2_pathError_24
  · skip
    have c_8 := bI_1 c_8
    obtain ⟨j, hj, rfl⟩ := hasB_of hn c_8
    refine lv_aload_n hx hb dX2_pathError_11 rfl (lv_at hl 0 rfl) ?_
    refine va_get (D := D) (ci := 2) (v := .ref f) (C := RX2) (T := TX2) (N := 4) hx hb hts hin2 hown hK hP 0 rfl rfl 0 (by decide) hf10 (fun _ h9 => h9) rfl dX2_pathError_12 ?_
    refine lv_iload_n hx hb dX2_pathError_15 rfl (lv_at hl 2 rfl) ?_
    refine rd_call ⟨hx, hb, hml, hown, hts⟩ (c_X0_has l D cI cZ f fa fb fc n (fo_cp G) va mk v) (cwV 1 hts gX2_pathError_X0_has rfl rfl rfl (by decide +kernel) ⟨Nat.le_of_ble_eq_true rfl, Nat.le_of_ble_eq_true rfl⟩) (hP.sub (ws' := wF f fa fb fc cI cZ n (fo_cp G) va mk) [1, 2, 3, 4] rfl) hK rfl rfl rfl hl rfl (Nat.le_of_ble_eq_true rfl) dX2_pathError_16 ⟨Nat.zero_le _, Nat.zero_le _⟩ ?_
    refine lv_if_ne (tgt := 25) hx hb dX2_pathError_19 (by decide) (fun c_19 => ?_) (fun c_19 => ?_)
    · skip
      have c_19 := bI_1 c_19
      obtain ⟨k, hk, rfl⟩ := hasB_of hn c_19
      refine lv_aload_n hx hb dX2_pathError_25 rfl (lv_at hl 0 rfl) ?_
      refine va_get (D := D) (ci := 2) (v := .ref f) (C := RX2) (T := TX2) (N := 4) hx hb hts hin2 hown hK hP 0 rfl rfl 0 (by decide) hf10 (fun _ h9 => h9) rfl dX2_pathError_26 ?_
      refine lv_iload_n hx hb dX2_pathError_29 rfl (lv_at hl 1 rfl) ?_
      refine rd_call ⟨hx, hb, hml, hown, hts⟩ (c_X0_rootOf l D cI cZ f fa fb fc n G va mk F j hj) (cwV 1 hts gX2_pathError_X0_rootOf rfl rfl rfl (by decide +kernel) ⟨Nat.le_of_ble_eq_true rfl, Nat.le_of_ble_eq_true rfl⟩) (hP.sub (ws' := wF f fa fb fc cI cZ n (fo_cp G) va mk) [1, 2, 3, 4] rfl) hK rfl rfl rfl hl rfl (Nat.le_of_ble_eq_true rfl) dX2_pathError_30 ⟨Nat.zero_le _, Nat.zero_le _⟩ ?_
      refine lv_aload_n hx hb dX2_pathError_33 rfl (lv_at hl 0 rfl) ?_
      refine va_get (D := D) (ci := 2) (v := .ref f) (C := RX2) (T := TX2) (N := 4) hx hb hts hin2 hown hK hP 0 rfl rfl 0 (by decide) hf10 (fun _ h9 => h9) rfl dX2_pathError_34 ?_
      refine lv_iload_n hx hb dX2_pathError_37 rfl (lv_at hl 2 rfl) ?_
      refine rd_call ⟨hx, hb, hml, hown, hts⟩ (c_X0_rootOf l D cI cZ f fa fb fc n G va mk F k hk) (cwV 1 hts gX2_pathError_X0_rootOf rfl rfl rfl (by decide +kernel) ⟨Nat.le_of_ble_eq_true rfl, Nat.le_of_ble_eq_true rfl⟩) (hP.sub (ws' := wF f fa fb fc cI cZ n (fo_cp G) va mk) [1, 2, 3, 4] rfl) hK rfl rfl rfl hl rfl (Nat.le_of_ble_eq_true rfl) dX2_pathError_38 ⟨Nat.zero_le _, Nat.zero_le _⟩ ?_
      have hlj := fo_r_lt F hj
      have hlk := fo_r_lt F hk
      refine lv_icmp_ne (tgt := 48) hx hb dX2_pathError_41 (by decide) (fun c_41 => ?_) (fun c_41 => ?_)
      · skip
        have c_41 := cn_ne (a := (fo_r G j)) (b := (fo_r G k)) (by omega) (by omega) c_41
        refine lv_ldc (own := RX2) hx hb hown hk138 dX2_pathError_48 ?_
        exact rd_i hx hb hr hlocks (by unfold pE; rw [gp_n hj hk hn c_41]) dX2_pathError_50
      · skip
        have c_41 := cn_eq (a := (fo_r G j)) (b := (fo_r G k)) (by omega) (by omega) c_41
        refine lv_iconst (v := 0) hx hb dX2_pathError_44 (by decide) ?_
        refine lv_goto (tgt := 50) hx hb dX2_pathError_45 (by decide) ?_
        exact rd_i hx hb hr hlocks (by unfold pE; rw [gp_t hj hk hn c_41]) dX2_pathError_50
    · skip
      have c_19 := bI_0 c_19
      refine lv_ldc (own := RX2) hx hb hown hk42 dX2_pathError_22 ?_
      exact rd_i hx hb hr hlocks (by unfold pE; rw [gp_fr c_19]) dX2_pathError_24
set_option maxHeartbeats 4000000 in
set_option maxRecDepth 100000 in
theorem c_X2_commonAncestor (l : Launch) (D : va_G) (cI cZ : ClassId) (h : Nat) (f1 : Nat) (f2 : Nat) (ph : Nat) (f : Nat) (fa : Nat) (fb : Nat) (fc : Nat) (n : Nat) (G : Nat → Nat) (va : Nat → Int32) (mk : Nat → Bool) (F : fo_ok n G) (u : Int32) (v : Int32) : RdM l yX2_commonAncestor wsX2_commonAncestor 5 109 D cI cZ (wO h f f1 f2 ph ++ wF f fa fb fc cI cZ n (fo_cp G) va mk) [.ref h, .int u, .int v] (gp n G u v (fun a b => nI (fo_m G a b)) (-100000001) (-100000004)) := by
  refine RdM.of (cc := cX2_commonAncestor) (maxL := 4) (ret := (some .int)) (by decide) rfl (Nat.le_of_ble_eq_true rfl) ?_
  intro p e s m below meth c hx hb hr hml hown hts hlocks hP hK ls hl
  have hown : s.vm.findClass RX2 = some m.cls := hown
  have hl : lv_has ls 4 [(0, .ref h), (1, .int u), (2, .int v)] := hl
  have hf10 := hts (.fieldLink RX2 10 "DynamicForest" "forest" "LDynamicForest$Forest;") (by decide +kernel)
  have hin2 : ∀ w ∈ u_ws RX2 TX2 4, w ∈ wsX2_commonAncestor := by decide +kernel
  have hn : n ≤ 64 := F.2.1
  refine lv_aload_n hx hb dX2_commonAncestor_0 rfl (lv_at hl 0 rfl) ?_
  refine lv_iload_n hx hb dX2_commonAncestor_1 rfl (lv_at hl 1 rfl) ?_
  refine lv_iload_n hx hb dX2_commonAncestor_2 rfl (lv_at hl 2 rfl) ?_
  refine rd_call ⟨hx, hb, hml, hown, hts⟩ (c_X2_pathError l D cI cZ h f1 f2 ph f fa fb fc n G va mk F u v) (cwV 2 hts gX2_commonAncestor_X2_pathError rfl rfl rfl (by decide +kernel) ⟨Nat.le_of_ble_eq_true rfl, Nat.le_of_ble_eq_true rfl⟩) hP hK rfl rfl rfl hl rfl (Nat.le_of_ble_eq_true rfl) dX2_commonAncestor_3 ⟨Nat.zero_le _, Nat.zero_le _⟩ ?_
  refine lv_istore_n (lv' := [(3, .int (pE n G u v)), (0, .ref h), (1, .int u), (2, .int v)]) hx hb dX2_commonAncestor_6 rfl hl (by decide) rfl (fun ls hl => ?_)
  refine lv_iload_n hx hb dX2_commonAncestor_7 rfl (lv_at hl 0 rfl) ?_
  refine lv_if_eq (tgt := 15) hx hb dX2_commonAncestor_8 (by decide) (fun c_8 => ?_) (fun c_8 => ?_)
  · skip
    obtain ⟨j, k, hj, hk, rfl, rfl, hro⟩ := pE_ok hn c_8
    refine lv_aload_n hx hb dX2_commonAncestor_15 rfl (lv_at hl 1 rfl) ?_
    refine va_get (D := D) (ci := 2) (v := .ref f) (C := RX2) (T := TX2) (N := 4) hx hb hts hin2 hown hK hP 0 rfl rfl 0 (by decide) hf10 (fun _ h9 => h9) rfl dX2_commonAncestor_16 ?_
    refine lv_iload_n hx hb dX2_commonAncestor_19 rfl (lv_at hl 2 rfl) ?_
    refine lv_iload_n hx hb dX2_commonAncestor_20 rfl (lv_at hl 3 rfl) ?_
    refine rd_call ⟨hx, hb, hml, hown, hts⟩ (c_X0_meetingPoint l D cI cZ f fa fb fc n G va mk F j k hj hk hro) (cwV 2 hts gX2_commonAncestor_X0_meetingPoint rfl rfl rfl (by decide +kernel) ⟨Nat.le_of_ble_eq_true rfl, Nat.le_of_ble_eq_true rfl⟩) (hP.sub (ws' := wF f fa fb fc cI cZ n (fo_cp G) va mk) [1, 2, 3, 4] rfl) hK rfl rfl rfl hl rfl (Nat.le_of_ble_eq_true rfl) dX2_commonAncestor_21 ⟨Nat.zero_le _, Nat.zero_le _⟩ ?_
    exact rd_i hx hb hr hlocks (by rw [gp_t hj hk hn hro]) dX2_commonAncestor_24
  · skip
    refine lv_iload_n hx hb dX2_commonAncestor_11 rfl (lv_at hl 0 rfl) ?_
    refine lv_goto (tgt := 24) hx hb dX2_commonAncestor_12 (by decide) ?_
    exact rd_i hx hb hr hlocks (pE_no hn c_8 _ _ _ _) dX2_commonAncestor_24
set_option maxHeartbeats 4000000 in
set_option maxRecDepth 100000 in
theorem c_X2_distance (l : Launch) (D : va_G) (cI cZ : ClassId) (h : Nat) (f1 : Nat) (f2 : Nat) (ph : Nat) (f : Nat) (fa : Nat) (fb : Nat) (fc : Nat) (n : Nat) (G : Nat → Nat) (va : Nat → Int32) (mk : Nat → Bool) (F : fo_ok n G) (u : Int32) (v : Int32) : RdM l yX2_distance wsX2_distance 5 114 D cI cZ (wO h f f1 f2 ph ++ wF f fa fb fc cI cZ n (fo_cp G) va mk) [.ref h, .int u, .int v] (gp n G u v (fun a b => nI (fo_dist G a b)) (-100000001) (-100000004)) := by
  refine RdM.of (cc := cX2_distance) (maxL := 4) (ret := (some .int)) (by decide) rfl (Nat.le_of_ble_eq_true rfl) ?_
  intro p e s m below meth c hx hb hr hml hown hts hlocks hP hK ls hl
  have hown : s.vm.findClass RX2 = some m.cls := hown
  have hl : lv_has ls 4 [(0, .ref h), (1, .int u), (2, .int v)] := hl
  have hf10 := hts (.fieldLink RX2 10 "DynamicForest" "forest" "LDynamicForest$Forest;") (by decide +kernel)
  have hin2 : ∀ w ∈ u_ws RX2 TX2 4, w ∈ wsX2_distance := by decide +kernel
  have hn : n ≤ 64 := F.2.1
  refine lv_aload_n hx hb dX2_distance_0 rfl (lv_at hl 0 rfl) ?_
  refine lv_iload_n hx hb dX2_distance_1 rfl (lv_at hl 1 rfl) ?_
  refine lv_iload_n hx hb dX2_distance_2 rfl (lv_at hl 2 rfl) ?_
  refine rd_call ⟨hx, hb, hml, hown, hts⟩ (c_X2_pathError l D cI cZ h f1 f2 ph f fa fb fc n G va mk F u v) (cwV 2 hts gX2_distance_X2_pathError rfl rfl rfl (by decide +kernel) ⟨Nat.le_of_ble_eq_true rfl, Nat.le_of_ble_eq_true rfl⟩) hP hK rfl rfl rfl hl rfl (Nat.le_of_ble_eq_true rfl) dX2_distance_3 ⟨Nat.zero_le _, Nat.zero_le _⟩ ?_
  refine lv_istore_n (lv' := [(3, .int (pE n G u v)), (0, .ref h), (1, .int u), (2, .int v)]) hx hb dX2_distance_6 rfl hl (by decide) rfl (fun ls hl => ?_)
  refine lv_iload_n hx hb dX2_distance_7 rfl (lv_at hl 0 rfl) ?_
  refine lv_if_eq (tgt := 15) hx hb dX2_distance_8 (by decide) (fun c_8 => ?_) (fun c_8 => ?_)
  · skip
    obtain ⟨j, k, hj, hk, rfl, rfl, hro⟩ := pE_ok hn c_8
    refine lv_aload_n hx hb dX2_distance_15 rfl (lv_at hl 1 rfl) ?_
    refine va_get (D := D) (ci := 2) (v := .ref f) (C := RX2) (T := TX2) (N := 4) hx hb hts hin2 hown hK hP 0 rfl rfl 0 (by decide) hf10 (fun _ h9 => h9) rfl dX2_distance_16 ?_
    refine lv_iload_n hx hb dX2_distance_19 rfl (lv_at hl 2 rfl) ?_
    refine lv_iload_n hx hb dX2_distance_20 rfl (lv_at hl 3 rfl) ?_
    refine rd_call ⟨hx, hb, hml, hown, hts⟩ (c_X0_edgesBetween l D cI cZ f fa fb fc n G va mk F j k hj hk hro) (cwV 2 hts gX2_distance_X0_edgesBetween rfl rfl rfl (by decide +kernel) ⟨Nat.le_of_ble_eq_true rfl, Nat.le_of_ble_eq_true rfl⟩) (hP.sub (ws' := wF f fa fb fc cI cZ n (fo_cp G) va mk) [1, 2, 3, 4] rfl) hK rfl rfl rfl hl rfl (Nat.le_of_ble_eq_true rfl) dX2_distance_21 ⟨Nat.zero_le _, Nat.zero_le _⟩ ?_
    exact rd_i hx hb hr hlocks (by rw [gp_t hj hk hn hro]) dX2_distance_24
  · skip
    refine lv_iload_n hx hb dX2_distance_11 rfl (lv_at hl 0 rfl) ?_
    refine lv_goto (tgt := 24) hx hb dX2_distance_12 (by decide) ?_
    exact rd_i hx hb hr hlocks (pE_no hn c_8 _ _ _ _) dX2_distance_24
set_option maxHeartbeats 4000000 in
set_option maxRecDepth 100000 in
theorem c_X2_subtreeSum (l : Launch) (D : va_G) (cI cZ : ClassId) (h : Nat) (f1 : Nat) (f2 : Nat) (ph : Nat) (f : Nat) (fa : Nat) (fb : Nat) (fc : Nat) (n : Nat) (G : Nat → Nat) (va : Nat → Int32) (mk : Nat → Bool) (F : fo_ok n G) (v : Int32) : RdM l yX2_subtreeSum wsX2_subtreeSum 4 89 D cI cZ (wO h f f1 f2 ph ++ wF f fa fb fc cI cZ n (fo_cp G) va mk) [.ref h, .int v] (ga n v (fun j => fo_sum (fun w => fo_bel G w j) va n) (-100000001)) := by
  refine RdM.of (cc := cX2_subtreeSum) (maxL := 4) (ret := (some .int)) (by decide) rfl (Nat.le_of_ble_eq_true rfl) ?_
  intro p e s m below meth c hx hb hr hml hown hts hlocks hP hK ls hl
  have hown : s.vm.findClass RX2 = some m.cls := hown
  have hl : lv_has ls 4 [(0, .ref h), (1, .int v)] := hl
  have hf10 := hts (.fieldLink RX2 10 "DynamicForest" "forest" "LDynamicForest$Forest;") (by decide +kernel)
  have hk42 := hts (.constant RX2 42 (-100000001)) (by decide +kernel)
  have hin2 : ∀ w ∈ u_ws RX2 TX2 4, w ∈ wsX2_subtreeSum := by decide +kernel
  have hn : n ≤ 64 := F.2.1
  refine lv_aload_n hx hb dX2_subtreeSum_0 rfl (lv_at hl 0 rfl) ?_
  refine va_get (D := D) (ci := 2) (v := .ref f) (C := RX2) (T := TX2) (N := 4) hx hb hts hin2 hown hK hP 0 rfl rfl 0 (by decide) hf10 (fun _ h9 => h9) rfl dX2_subtreeSum_1 ?_
  refine lv_iload_n hx hb dX2_subtreeSum_4 rfl (lv_at hl 1 rfl) ?_
  refine rd_call ⟨hx, hb, hml, hown, hts⟩ (c_X0_has l D cI cZ f fa fb fc n (fo_cp G) va mk v) (cwV 1 hts gX2_subtreeSum_X0_has rfl rfl rfl (by decide +kernel) ⟨Nat.le_of_ble_eq_true rfl, Nat.le_of_ble_eq_true rfl⟩) (hP.sub (ws' := wF f fa fb fc cI cZ n (fo_cp G) va mk) [1, 2, 3, 4] rfl) hK rfl rfl rfl hl rfl (Nat.le_of_ble_eq_true rfl) dX2_subtreeSum_5 ⟨Nat.zero_le _, Nat.zero_le _⟩ ?_
  refine lv_if_ne (tgt := 14) hx hb dX2_subtreeSum_8 (by decide) (fun c_8 => ?_) (fun c_8 => ?_)
  · skip
    have c_8 := bI_1 c_8
    obtain ⟨j, hj, rfl⟩ := hasB_of hn c_8
    refine lv_iconst (v := 0) hx hb dX2_subtreeSum_14 (by decide) ?_
    refine lv_istore_n (lv' := [(2, .int 0), (0, .ref h), (1, .int (nI j))]) hx hb dX2_subtreeSum_15 rfl hl (by decide) rfl (fun ls hl => ?_)
    refine lv_iconst (v := nI 0) hx hb dX2_subtreeSum_16 (by decide) ?_
    refine lv_istore_n (lv' := [(3, .int (nI 0)), (2, .int 0), (0, .ref h), (1, .int (nI j))]) hx hb dX2_subtreeSum_17 rfl hl (by decide) rfl (fun ls hl => ?_)
    have L18 : ∀ (k18_ : Nat) (i : Nat), i ≤ n → n - i < k18_ → ∀ ls, lv_has ls 4 [(0, .ref h), (1, .int (nI j)), (2, .int (fo_sum (fun w => fo_bel G w j) va i)), (3, .int (nI i))] → Wr0 p l e wsX2_subtreeSum 4 89 s m [.ref h, .int (nI j)] below meth c (ga n (nI j) (fun j => fo_sum (fun w => fo_bel G w j) va n) (-100000001)) (F0 m 18 ls []) := by
      intro k18_
      induction k18_ with
      | zero => intro i hi hk18_; exact absurd hk18_ (Nat.not_lt_zero _)
      | succ k18_ ih18 =>
        intro i hi hk18_ ls hl
        refine lv_iload_n hx hb dX2_subtreeSum_18 rfl (lv_at hl 3 rfl) ?_
        refine lv_aload_n hx hb dX2_subtreeSum_19 rfl (lv_at hl 0 rfl) ?_
        refine va_get (D := D) (ci := 2) (v := .ref f) (C := RX2) (T := TX2) (N := 4) hx hb hts hin2 hown hK hP 0 rfl rfl 0 (by decide) hf10 (fun _ h9 => h9) rfl dX2_subtreeSum_20 ?_
        refine rd_call ⟨hx, hb, hml, hown, hts⟩ (c_X0_size l D cI cZ f fa fb fc n (fo_cp G) va mk) (cwV 0 hts gX2_subtreeSum_X0_size rfl rfl rfl (by decide +kernel) ⟨Nat.le_of_ble_eq_true rfl, Nat.le_of_ble_eq_true rfl⟩) (hP.sub (ws' := wF f fa fb fc cI cZ n (fo_cp G) va mk) [1, 2, 3, 4] rfl) hK rfl rfl rfl hl rfl (Nat.le_of_ble_eq_true rfl) dX2_subtreeSum_23 ⟨Nat.zero_le _, Nat.zero_le _⟩ ?_
        refine lv_icmp_ge (tgt := 58) hx hb dX2_subtreeSum_26 (by decide) (fun c_26 => ?_) (fun c_26 => ?_)
        · skip
          have c_26 := cn_le (a := n) (b := i) (by omega) (by omega) c_26
          refine lv_iload_n hx hb dX2_subtreeSum_58 rfl (lv_at hl 2 rfl) ?_
          exact rd_i hx hb hr hlocks (by rw [ga_t hj hn, show i = n by omega]) dX2_subtreeSum_59
        · skip
          have c_26 := cn_nle (a := n) (b := i) (by omega) (by omega) c_26
          refine lv_aload_n hx hb dX2_subtreeSum_29 rfl (lv_at hl 0 rfl) ?_
          refine va_get (D := D) (ci := 2) (v := .ref f) (C := RX2) (T := TX2) (N := 4) hx hb hts hin2 hown hK hP 0 rfl rfl 0 (by decide) hf10 (fun _ h9 => h9) rfl dX2_subtreeSum_30 ?_
          refine lv_iload_n hx hb dX2_subtreeSum_33 rfl (lv_at hl 3 rfl) ?_
          refine lv_iload_n hx hb dX2_subtreeSum_34 rfl (lv_at hl 1 rfl) ?_
          refine rd_call ⟨hx, hb, hml, hown, hts⟩ (c_X0_isBelow l D cI cZ f fa fb fc n G va mk F i c_26 j hj) (cwV 2 hts gX2_subtreeSum_X0_isBelow rfl rfl rfl (by decide +kernel) ⟨Nat.le_of_ble_eq_true rfl, Nat.le_of_ble_eq_true rfl⟩) (hP.sub (ws' := wF f fa fb fc cI cZ n (fo_cp G) va mk) [1, 2, 3, 4] rfl) hK rfl rfl rfl hl rfl (Nat.le_of_ble_eq_true rfl) dX2_subtreeSum_35 ⟨Nat.zero_le _, Nat.zero_le _⟩ ?_
          refine lv_if_eq (tgt := 52) hx hb dX2_subtreeSum_38 (by decide) (fun c_38 => ?_) (fun c_38 => ?_)
          · skip
            have c_38 := bI_0 c_38
            refine lv_iinc (v := nI (i + 1)) (lv' := [(3, .int (nI (i + 1))), (0, .ref h), (1, .int (nI j)), (2, .int (fo_sum (fun w => fo_bel G w j) va i))]) hx hb dX2_subtreeSum_52 hl (k := 3) rfl (nI_1 i) (by decide) rfl (fun ls hl => ?_)
            refine lv_goto (tgt := 18) hx hb dX2_subtreeSum_55 (by decide) ?_
            exact ih18 (i + 1) (by omega) (by omega) ls (by rw [fo_sum_f (f := fun w => fo_bel G w j) c_38]; exact lv_sub hl [1, 2, 3, 0] rfl)
          · skip
            have c_38 := bI_1 c_38
            refine lv_iload_n hx hb dX2_subtreeSum_41 rfl (lv_at hl 2 rfl) ?_
            refine lv_aload_n hx hb dX2_subtreeSum_42 rfl (lv_at hl 0 rfl) ?_
            refine va_get (D := D) (ci := 2) (v := .ref f) (C := RX2) (T := TX2) (N := 4) hx hb hts hin2 hown hK hP 0 rfl rfl 0 (by decide) hf10 (fun _ h9 => h9) rfl dX2_subtreeSum_43 ?_
            refine lv_iload_n hx hb dX2_subtreeSum_46 rfl (lv_at hl 3 rfl) ?_
            refine rd_call ⟨hx, hb, hml, hown, hts⟩ (c_X0_valueOf l D cI cZ f fa fb fc n (fo_cp G) va mk i c_26 hn) (cwV 1 hts gX2_subtreeSum_X0_valueOf rfl rfl rfl (by decide +kernel) ⟨Nat.le_of_ble_eq_true rfl, Nat.le_of_ble_eq_true rfl⟩) (hP.sub (ws' := wF f fa fb fc cI cZ n (fo_cp G) va mk) [1, 2, 3, 4] rfl) hK rfl rfl rfl hl rfl (Nat.le_of_ble_eq_true rfl) dX2_subtreeSum_47 ⟨Nat.zero_le _, Nat.zero_le _⟩ ?_
            refine lv_iadd hx hb dX2_subtreeSum_50 ?_
            refine lv_istore_n (lv' := [(2, .int ((fo_sum (fun w => fo_bel G w j) va i) + (va i))), (0, .ref h), (1, .int (nI j)), (3, .int (nI i))]) hx hb dX2_subtreeSum_51 rfl hl (by decide) rfl (fun ls hl => ?_)
            refine lv_iinc (v := nI (i + 1)) (lv' := [(3, .int (nI (i + 1))), (2, .int ((fo_sum (fun w => fo_bel G w j) va i) + (va i))), (0, .ref h), (1, .int (nI j))]) hx hb dX2_subtreeSum_52 hl (k := 3) rfl (nI_1 i) (by decide) rfl (fun ls hl => ?_)
            refine lv_goto (tgt := 18) hx hb dX2_subtreeSum_55 (by decide) ?_
            exact ih18 (i + 1) (by omega) (by omega) ls (by rw [fo_sum_t (f := fun w => fo_bel G w j) c_38]; exact lv_sub hl [2, 3, 1, 0] rfl)
    exact L18 (n - 0 + 1) 0 (Nat.zero_le _) (Nat.lt_succ_self _) ls (lv_sub hl [2, 3, 1, 0] rfl)
  · skip
    have c_8 := bI_0 c_8
    refine lv_ldc (own := RX2) hx hb hown hk42 dX2_subtreeSum_11 ?_
    exact rd_i hx hb hr hlocks (by rw [ga_f c_8]) dX2_subtreeSum_13
set_option maxHeartbeats 4000000 in
set_option maxRecDepth 100000 in
theorem c_X2_diameter (l : Launch) (D : va_G) (cI cZ : ClassId) (h : Nat) (f1 : Nat) (f2 : Nat) (ph : Nat) (f : Nat) (fa : Nat) (fb : Nat) (fc : Nat) (n : Nat) (G : Nat → Nat) (va : Nat → Int32) (mk : Nat → Bool) (F : fo_ok n G) (v : Int32) : RdM l yX2_diameter wsX2_diameter 6 140 D cI cZ (wO h f f1 f2 ph ++ wF f fa fb fc cI cZ n (fo_cp G) va mk) [.ref h, .int v] (ga n v (fun j => nI (fo_dist G (fo_fs G j n).1 (fo_fs G (fo_fs G j n).1 n).1)) (-100000001)) := by
  refine RdM.of (cc := cX2_diameter) (maxL := 3) (ret := (some .int)) (by decide) rfl (Nat.le_of_ble_eq_true rfl) ?_
  intro p e s m below meth c hx hb hr hml hown hts hlocks hP hK ls hl
  have hown : s.vm.findClass RX2 = some m.cls := hown
  have hl : lv_has ls 3 [(0, .ref h), (1, .int v)] := hl
  have hf10 := hts (.fieldLink RX2 10 "DynamicForest" "forest" "LDynamicForest$Forest;") (by decide +kernel)
  have hk42 := hts (.constant RX2 42 (-100000001)) (by decide +kernel)
  have hin2 : ∀ w ∈ u_ws RX2 TX2 4, w ∈ wsX2_diameter := by decide +kernel
  have hn : n ≤ 64 := F.2.1
  refine lv_aload_n hx hb dX2_diameter_0 rfl (lv_at hl 0 rfl) ?_
  refine va_get (D := D) (ci := 2) (v := .ref f) (C := RX2) (T := TX2) (N := 4) hx hb hts hin2 hown hK hP 0 rfl rfl 0 (by decide) hf10 (fun _ h9 => h9) rfl dX2_diameter_1 ?_
  refine lv_iload_n hx hb dX2_diameter_4 rfl (lv_at hl 1 rfl) ?_
  refine rd_call ⟨hx, hb, hml, hown, hts⟩ (c_X0_has l D cI cZ f fa fb fc n (fo_cp G) va mk v) (cwV 1 hts gX2_diameter_X0_has rfl rfl rfl (by decide +kernel) ⟨Nat.le_of_ble_eq_true rfl, Nat.le_of_ble_eq_true rfl⟩) (hP.sub (ws' := wF f fa fb fc cI cZ n (fo_cp G) va mk) [1, 2, 3, 4] rfl) hK rfl rfl rfl hl rfl (Nat.le_of_ble_eq_true rfl) dX2_diameter_5 ⟨Nat.zero_le _, Nat.zero_le _⟩ ?_
  refine lv_if_ne (tgt := 14) hx hb dX2_diameter_8 (by decide) (fun c_8 => ?_) (fun c_8 => ?_)
  · skip
    have c_8 := bI_1 c_8
    obtain ⟨j, hj, rfl⟩ := hasB_of hn c_8
    have hs := fo_fs_spec F hj n (Nat.le_refl n)
    have hs2 := fo_fs_spec F hs.1 n (Nat.le_refl n)
    refine lv_aload_n hx hb dX2_diameter_14 rfl (lv_at hl 0 rfl) ?_
    refine va_get (D := D) (ci := 2) (v := .ref f) (C := RX2) (T := TX2) (N := 4) hx hb hts hin2 hown hK hP 0 rfl rfl 0 (by decide) hf10 (fun _ h9 => h9) rfl dX2_diameter_15 ?_
    refine lv_iload_n hx hb dX2_diameter_18 rfl (lv_at hl 1 rfl) ?_
    refine rd_call ⟨hx, hb, hml, hown, hts⟩ (c_X0_farthestFrom l D cI cZ f fa fb fc n G va mk F j hj) (cwV 1 hts gX2_diameter_X0_farthestFrom rfl rfl rfl (by decide +kernel) ⟨Nat.le_of_ble_eq_true rfl, Nat.le_of_ble_eq_true rfl⟩) (hP.sub (ws' := wF f fa fb fc cI cZ n (fo_cp G) va mk) [1, 2, 3, 4] rfl) hK rfl rfl rfl hl rfl (Nat.le_of_ble_eq_true rfl) dX2_diameter_19 ⟨Nat.zero_le _, Nat.zero_le _⟩ ?_
    refine lv_istore_n (lv' := [(2, .int (nI (fo_fs G j n).1)), (0, .ref h), (1, .int (nI j))]) hx hb dX2_diameter_22 rfl hl (by decide) rfl (fun ls hl => ?_)
    refine lv_aload_n hx hb dX2_diameter_23 rfl (lv_at hl 1 rfl) ?_
    refine va_get (D := D) (ci := 2) (v := .ref f) (C := RX2) (T := TX2) (N := 4) hx hb hts hin2 hown hK hP 0 rfl rfl 0 (by decide) hf10 (fun _ h9 => h9) rfl dX2_diameter_24 ?_
    refine lv_iload_n hx hb dX2_diameter_27 rfl (lv_at hl 0 rfl) ?_
    refine lv_aload_n hx hb dX2_diameter_28 rfl (lv_at hl 1 rfl) ?_
    refine va_get (D := D) (ci := 2) (v := .ref f) (C := RX2) (T := TX2) (N := 4) hx hb hts hin2 hown hK hP 0 rfl rfl 0 (by decide) hf10 (fun _ h9 => h9) rfl dX2_diameter_29 ?_
    refine lv_iload_n hx hb dX2_diameter_32 rfl (lv_at hl 0 rfl) ?_
    refine rd_call ⟨hx, hb, hml, hown, hts⟩ (c_X0_farthestFrom l D cI cZ f fa fb fc n G va mk F ((fo_fs G j n).1) (hs.1)) (cwV 1 hts gX2_diameter_X0_farthestFrom rfl rfl rfl (by decide +kernel) ⟨Nat.le_of_ble_eq_true rfl, Nat.le_of_ble_eq_true rfl⟩) (hP.sub (ws' := wF f fa fb fc cI cZ n (fo_cp G) va mk) [1, 2, 3, 4] rfl) hK rfl rfl rfl hl rfl (Nat.le_of_ble_eq_true rfl) dX2_diameter_33 ⟨Nat.zero_le _, Nat.zero_le _⟩ ?_
    refine rd_call ⟨hx, hb, hml, hown, hts⟩ (c_X0_edgesBetween l D cI cZ f fa fb fc n G va mk F ((fo_fs G j n).1) ((fo_fs G (fo_fs G j n).1 n).1) (hs.1) (hs2.1) (hs2.2.1.symm)) (cwV 2 hts gX2_diameter_X0_edgesBetween rfl rfl rfl (by decide +kernel) ⟨Nat.le_of_ble_eq_true rfl, Nat.le_of_ble_eq_true rfl⟩) (hP.sub (ws' := wF f fa fb fc cI cZ n (fo_cp G) va mk) [1, 2, 3, 4] rfl) hK rfl rfl rfl hl rfl (Nat.le_of_ble_eq_true rfl) dX2_diameter_36 ⟨Nat.zero_le _, Nat.zero_le _⟩ ?_
    exact rd_i hx hb hr hlocks (by rw [ga_t hj hn]) dX2_diameter_39
  · skip
    have c_8 := bI_0 c_8
    refine lv_ldc (own := RX2) hx hb hown hk42 dX2_diameter_11 ?_
    exact rd_i hx hb hr hlocks (by rw [ga_f c_8]) dX2_diameter_13
set_option maxHeartbeats 4000000 in
set_option maxRecDepth 100000 in
theorem c_X2_nearestMarked (l : Launch) (D : va_G) (cI cZ : ClassId) (h : Nat) (f1 : Nat) (f2 : Nat) (ph : Nat) (f : Nat) (fa : Nat) (fb : Nat) (fc : Nat) (n : Nat) (G : Nat → Nat) (va : Nat → Int32) (mk : Nat → Bool) (F : fo_ok n G) (v : Int32) : RdM l yX2_nearestMarked wsX2_nearestMarked 6 141 D cI cZ (wO h f f1 f2 ph ++ wF f fa fb fc cI cZ n (fo_cp G) va mk) [.ref h, .int v] (ga n v (fun j => oI (-100000007) (fo_ns G mk j n).1) (-100000001)) := by
  refine RdM.of (cc := cX2_nearestMarked) (maxL := 3) (ret := (some .int)) (by decide) rfl (Nat.le_of_ble_eq_true rfl) ?_
  intro p e s m below meth c hx hb hr hml hown hts hlocks hP hK ls hl
  have hown : s.vm.findClass RX2 = some m.cls := hown
  have hl : lv_has ls 3 [(0, .ref h), (1, .int v)] := hl
  have hf10 := hts (.fieldLink RX2 10 "DynamicForest" "forest" "LDynamicForest$Forest;") (by decide +kernel)
  have hk42 := hts (.constant RX2 42 (-100000001)) (by decide +kernel)
  have hk59 := hts (.constant RX2 59 (-100000007)) (by decide +kernel)
  have hin2 : ∀ w ∈ u_ws RX2 TX2 4, w ∈ wsX2_nearestMarked := by decide +kernel
  have hn : n ≤ 64 := F.2.1
  refine lv_aload_n hx hb dX2_nearestMarked_0 rfl (lv_at hl 0 rfl) ?_
  refine va_get (D := D) (ci := 2) (v := .ref f) (C := RX2) (T := TX2) (N := 4) hx hb hts hin2 hown hK hP 0 rfl rfl 0 (by decide) hf10 (fun _ h9 => h9) rfl dX2_nearestMarked_1 ?_
  refine lv_iload_n hx hb dX2_nearestMarked_4 rfl (lv_at hl 1 rfl) ?_
  refine rd_call ⟨hx, hb, hml, hown, hts⟩ (c_X0_has l D cI cZ f fa fb fc n (fo_cp G) va mk v) (cwV 1 hts gX2_nearestMarked_X0_has rfl rfl rfl (by decide +kernel) ⟨Nat.le_of_ble_eq_true rfl, Nat.le_of_ble_eq_true rfl⟩) (hP.sub (ws' := wF f fa fb fc cI cZ n (fo_cp G) va mk) [1, 2, 3, 4] rfl) hK rfl rfl rfl hl rfl (Nat.le_of_ble_eq_true rfl) dX2_nearestMarked_5 ⟨Nat.zero_le _, Nat.zero_le _⟩ ?_
  refine lv_if_ne (tgt := 14) hx hb dX2_nearestMarked_8 (by decide) (fun c_8 => ?_) (fun c_8 => ?_)
  · skip
    have c_8 := bI_1 c_8
    obtain ⟨j, hj, rfl⟩ := hasB_of hn c_8
    refine lv_aload_n hx hb dX2_nearestMarked_14 rfl (lv_at hl 0 rfl) ?_
    refine va_get (D := D) (ci := 2) (v := .ref f) (C := RX2) (T := TX2) (N := 4) hx hb hts hin2 hown hK hP 0 rfl rfl 0 (by decide) hf10 (fun _ h9 => h9) rfl dX2_nearestMarked_15 ?_
    refine lv_iload_n hx hb dX2_nearestMarked_18 rfl (lv_at hl 1 rfl) ?_
    refine rd_call ⟨hx, hb, hml, hown, hts⟩ (c_X0_nearestMarkOf l D cI cZ f fa fb fc n G va mk F j hj) (cwV 1 hts gX2_nearestMarked_X0_nearestMarkOf rfl rfl rfl (by decide +kernel) ⟨Nat.le_of_ble_eq_true rfl, Nat.le_of_ble_eq_true rfl⟩) (hP.sub (ws' := wF f fa fb fc cI cZ n (fo_cp G) va mk) [1, 2, 3, 4] rfl) hK rfl rfl rfl hl rfl (Nat.le_of_ble_eq_true rfl) dX2_nearestMarked_19 ⟨Nat.zero_le _, Nat.zero_le _⟩ ?_
    refine lv_istore_n (lv' := [(2, .int (oI (-1) (fo_ns G mk j n).1)), (0, .ref h), (1, .int (nI j))]) hx hb dX2_nearestMarked_22 rfl hl (by decide) rfl (fun ls hl => ?_)
    refine lv_iload_n hx hb dX2_nearestMarked_23 rfl (lv_at hl 0 rfl) ?_
    refine lv_iconst (v := -1) hx hb dX2_nearestMarked_24 (by decide) ?_
    refine lv_icmp_ne (tgt := 33) hx hb dX2_nearestMarked_25 (by decide) (fun c_25 => ?_) (fun c_25 => ?_)
    · skip
      refine lv_iload_n hx hb dX2_nearestMarked_33 rfl (lv_at hl 0 rfl) ?_
      exact rd_i hx hb hr hlocks (by rw [ga_t hj hn]; exact oI_n c_25) dX2_nearestMarked_34
    · skip
      refine lv_ldc (own := RX2) hx hb hown hk59 dX2_nearestMarked_28 ?_
      refine lv_goto (tgt := 34) hx hb dX2_nearestMarked_30 (by decide) ?_
      exact rd_i hx hb hr hlocks (by rw [ga_t hj hn]; exact oI_m (fun w hw => Nat.lt_of_lt_of_le ((fo_ns_le G mk j n).2 w hw) hn) c_25) dX2_nearestMarked_34
  · skip
    have c_8 := bI_0 c_8
    refine lv_ldc (own := RX2) hx hb hown hk42 dX2_nearestMarked_11 ?_
    exact rd_i hx hb hr hlocks (by rw [ga_f c_8]) dX2_nearestMarked_13
set_option maxHeartbeats 4000000 in
set_option maxRecDepth 100000 in
theorem c_X2_reset (l : Launch) (D : va_G) (cI cZ : ClassId) (h : Nat) (f1 : Nat) (f2 : Nat) (ph : Nat) (f : Nat) (fa : Nat) (fb : Nat) (fc : Nat) (n : Nat) (G : Nat → Nat) (va : Nat → Int32) (mk : Nat → Bool) (F : fo_ok n G) (x : Int32) : WrM l yX2_reset wsX2_reset 1 22 D cI cZ (wO h f f1 f2 ph ++ wF f fa fb fc cI cZ n (fo_cp G) va mk) (wO h f f1 f2 ph ++ wF f fa fb fc cI cZ (gk x (fun j => j) n) (fo_cp (gk x (fun _ w => w) G)) (gk x (fun _ _ => 0) va) (gk x (fun _ _ => false) mk)) [.ref h, .int x] (some (.int (if isN x = true then nI n else -100000002))) := by
  refine WrM.of (cc := cX2_reset) (maxL := 3) (ret := (some .int)) (by decide) rfl (Nat.le_of_ble_eq_true rfl) ?_
  intro p e s m below meth c hx hb hr hml hown hts hlocks hP hK hD hS ls hl
  have hown : s.vm.findClass RX2 = some m.cls := hown
  have hl : lv_has ls 3 [(0, .ref h), (1, .int x)] := hl
  have hP : va_P D vwCl (wO h f f1 f2 ph ++ wF f fa fb fc cI cZ n (fo_cp G) va mk) s.heap := hP
  have hk33 := hts (.constant RX2 33 (-100000002)) (by decide +kernel)
  have hf10 := hts (.fieldLink RX2 10 "DynamicForest" "forest" "LDynamicForest$Forest;") (by decide +kernel)
  have hin2 : ∀ w ∈ u_ws RX2 TX2 4, w ∈ wsX2_reset := by decide +kernel
  have hn : n ≤ 64 := F.2.1
  refine lv_iload_n hx hb dX2_reset_0 rfl (lv_at hl 1 rfl) ?_
  refine lv_iconst (v := 1) hx hb dX2_reset_1 (by decide) ?_
  refine lv_icmp_lt (tgt := 11) hx hb dX2_reset_2 (by decide) (fun c_2 => ?_) (fun c_2 => ?_)
  · skip
    have hxf : isN x = false := by simp [isN, c_2]
    refine lv_ldc (own := RX2) hx hb hown hk33 dX2_reset_11 ?_
    have hP : va_P D vwCl (wO h f f1 f2 ph ++ wF f fa fb fc cI cZ (gk x (fun j => j) n) (fo_cp (gk x (fun _ w => w) G)) (gk x (fun _ _ => 0) va) (gk x (fun _ _ => false) mk)) s.heap := by rw [gk_f hxf, gk_f hxf, gk_f hxf, gk_f hxf]; exact hP
    exact wr_i hx hb hr hlocks hP hS (by rw [hxf]; rfl) dX2_reset_13
  · skip
    refine lv_iload_n hx hb dX2_reset_5 rfl (lv_at hl 1 rfl) ?_
    refine lv_bipush (v := 64) hx hb dX2_reset_6 (by decide) ?_
    refine lv_icmp_le (tgt := 14) hx hb dX2_reset_8 (by decide) (fun c_8 => ?_) (fun c_8 => ?_)
    · skip
      have hxt : isN x = true := by simp [isN, c_2, Int32.not_lt.mpr c_8]
      obtain ⟨kk, hk1, hk2, rfl⟩ := isN_of hxt
      refine lv_aload_n hx hb dX2_reset_14 rfl (lv_at hl 0 rfl) ?_
      refine va_get (D := D) (ci := 2) (v := .ref f) (C := RX2) (T := TX2) (N := 4) hx hb hts hin2 hown hK hP 0 rfl rfl 0 (by decide) hf10 (fun _ h9 => h9) rfl dX2_reset_15 ?_
      refine rd_call ⟨hx, hb, hml, hown, hts⟩ (c_X0_size l D cI cZ f fa fb fc n (fo_cp G) va mk) (cwV 0 hts gX2_reset_X0_size rfl rfl rfl (by decide +kernel) ⟨Nat.le_of_ble_eq_true rfl, Nat.le_of_ble_eq_true rfl⟩) (hP.sub (ws' := wF f fa fb fc cI cZ n (fo_cp G) va mk) [1, 2, 3, 4] rfl) hK rfl rfl rfl hl rfl (Nat.le_of_ble_eq_true rfl) dX2_reset_18 ⟨Nat.zero_le _, Nat.zero_le _⟩ ?_
      refine lv_istore_n (lv' := [(2, .int (nI n)), (0, .ref h), (1, .int (nI kk))]) hx hb dX2_reset_21 rfl hl (by decide) rfl (fun ls hl => ?_)
      refine lv_aload_n hx hb dX2_reset_22 rfl (lv_at hl 1 rfl) ?_
      refine va_get (D := D) (ci := 2) (v := .ref f) (C := RX2) (T := TX2) (N := 4) hx hb hts hin2 hown hK hP 0 rfl rfl 0 (by decide) hf10 (fun _ h9 => h9) rfl dX2_reset_23 ?_
      refine lv_iload_n hx hb dX2_reset_26 rfl (lv_at hl 2 rfl) ?_
      refine wr_call (V1 := wO h f f1 f2 ph ++ wF f fa fb fc cI cZ kk (fun _ => -1) (fun _ => 0) (fun _ => false)) ⟨hx, hb, hml, hown, hts⟩ (c_X0_startAnew l D cI cZ f fa fb fc n (fo_cp G) va mk kk hk2) (cwV 1 hts gX2_reset_X0_startAnew rfl rfl rfl (by decide +kernel) ⟨Nat.le_of_ble_eq_true rfl, Nat.le_of_ble_eq_true rfl⟩) hP hK hD hS [1, 2, 3, 4] [0] [0, 1, 2, 3, 4] rfl rfl (by decide) rfl rfl rfl rfl rfl hl rfl (Nat.le_of_ble_eq_true rfl) dX2_reset_27 ⟨Nat.zero_le _, Nat.zero_le _⟩ (fun H locs hP hD hS => ?_)
      refine lv_iload_n hx hb dX2_reset_30 rfl (lv_at hl 0 rfl) ?_
      have hP : va_P D vwCl (wO h f f1 f2 ph ++ wF f fa fb fc cI cZ (gk (nI kk) (fun j => j) n) (fo_cp (gk (nI kk) (fun _ w => w) G)) (gk (nI kk) (fun _ _ => 0) va) (gk (nI kk) (fun _ _ => false) mk)) H := by rw [gk_t hk1 hk2, gk_t hk1 hk2, gk_t hk1 hk2, gk_t hk1 hk2, fo_cp_id]; exact hP
      exact wr_i hx hb hr hlocks hP hS (by rw [hxt]; rfl) dX2_reset_31
    · skip
      have hxf : isN x = false := by simp [isN, c_2, Int32.not_le.mp c_8]
      refine lv_ldc (own := RX2) hx hb hown hk33 dX2_reset_11 ?_
      have hP : va_P D vwCl (wO h f f1 f2 ph ++ wF f fa fb fc cI cZ (gk x (fun j => j) n) (fo_cp (gk x (fun _ w => w) G)) (gk x (fun _ _ => 0) va) (gk x (fun _ _ => false) mk)) s.heap := by rw [gk_f hxf, gk_f hxf, gk_f hxf, gk_f hxf]; exact hP
      exact wr_i hx hb hr hlocks hP hS (by rw [hxf]; rfl) dX2_reset_13
set_option maxHeartbeats 4000000 in
set_option maxRecDepth 100000 in
theorem c_X2_link (l : Launch) (D : va_G) (cI cZ : ClassId) (h : Nat) (f1 : Nat) (f2 : Nat) (ph : Nat) (f : Nat) (fa : Nat) (fb : Nat) (fc : Nat) (n : Nat) (G : Nat → Nat) (va : Nat → Int32) (mk : Nat → Bool) (F : fo_ok n G) (v : Int32) (u : Int32) : WrM l yX2_link wsX2_link 5 112 D cI cZ (wO h f f1 f2 ph ++ wF f fa fb fc cI cZ n (fo_cp G) va mk) (wO h f f1 f2 ph ++ wF f fa fb fc cI cZ n (fo_cp (gLink n G v u)) va mk) [.ref h, .int v, .int u] (some (.int (rLink n G v u))) := by
  refine WrM.of (cc := cX2_link) (maxL := 3) (ret := (some .int)) (by decide) rfl (Nat.le_of_ble_eq_true rfl) ?_
  intro p e s m below meth c hx hb hr hml hown hts hlocks hP hK hD hS ls hl
  have hown : s.vm.findClass RX2 = some m.cls := hown
  have hl : lv_has ls 3 [(0, .ref h), (1, .int v), (2, .int u)] := hl
  have hP : va_P D vwCl (wO h f f1 f2 ph ++ wF f fa fb fc cI cZ n (fo_cp G) va mk) s.heap := hP
  have hf10 := hts (.fieldLink RX2 10 "DynamicForest" "forest" "LDynamicForest$Forest;") (by decide +kernel)
  have hk42 := hts (.constant RX2 42 (-100000001)) (by decide +kernel)
  have hk46 := hts (.constant RX2 46 (-100000003)) (by decide +kernel)
  have hk51 := hts (.constant RX2 51 (-100000008)) (by decide +kernel)
  have hin2 : ∀ w ∈ u_ws RX2 TX2 4, w ∈ wsX2_link := by decide +kernel
  have hn : n ≤ 64 := F.2.1
  refine lv_aload_n hx hb dX2_link_0 rfl (lv_at hl 0 rfl) ?_
  refine va_get (D := D) (ci := 2) (v := .ref f) (C := RX2) (T := TX2) (N := 4) hx hb hts hin2 hown hK hP 0 rfl rfl 0 (by decide) hf10 (fun _ h9 => h9) rfl dX2_link_1 ?_
  refine lv_iload_n hx hb dX2_link_4 rfl (lv_at hl 1 rfl) ?_
  refine rd_call ⟨hx, hb, hml, hown, hts⟩ (c_X0_has l D cI cZ f fa fb fc n (fo_cp G) va mk v) (cwV 1 hts gX2_link_X0_has rfl rfl rfl (by decide +kernel) ⟨Nat.le_of_ble_eq_true rfl, Nat.le_of_ble_eq_true rfl⟩) (hP.sub (ws' := wF f fa fb fc cI cZ n (fo_cp G) va mk) [1, 2, 3, 4] rfl) hK rfl rfl rfl hl rfl (Nat.le_of_ble_eq_true rfl) dX2_link_5 ⟨Nat.zero_le _, Nat.zero_le _⟩ ?_
  refine lv_if_eq (tgt := 22) hx hb dX2_link_8 (by decide) (fun c_8 => ?_) (fun c_8 => ?_)
  · skip
    have c_8 := bI_0 c_8
    refine lv_ldc (own := RX2) hx hb hown hk42 dX2_link_22 ?_
    have hP : va_P D vwCl (wO h f f1 f2 ph ++ wF f fa fb fc cI cZ n (fo_cp (gLink n G v u)) va mk) s.heap := by unfold gLink; rw [gb_fl c_8]; exact hP
    exact wr_i hx hb hr hlocks hP hS (by unfold rLink; rw [gb_fl c_8]) dX2_link_24
  · skip
    have c_8 := bI_1 c_8
    obtain ⟨j, hj, rfl⟩ := hasB_of hn c_8
    refine lv_aload_n hx hb dX2_link_11 rfl (lv_at hl 0 rfl) ?_
    refine va_get (D := D) (ci := 2) (v := .ref f) (C := RX2) (T := TX2) (N := 4) hx hb hts hin2 hown hK hP 0 rfl rfl 0 (by decide) hf10 (fun _ h9 => h9) rfl dX2_link_12 ?_
    refine lv_iload_n hx hb dX2_link_15 rfl (lv_at hl 2 rfl) ?_
    refine rd_call ⟨hx, hb, hml, hown, hts⟩ (c_X0_has l D cI cZ f fa fb fc n (fo_cp G) va mk u) (cwV 1 hts gX2_link_X0_has rfl rfl rfl (by decide +kernel) ⟨Nat.le_of_ble_eq_true rfl, Nat.le_of_ble_eq_true rfl⟩) (hP.sub (ws' := wF f fa fb fc cI cZ n (fo_cp G) va mk) [1, 2, 3, 4] rfl) hK rfl rfl rfl hl rfl (Nat.le_of_ble_eq_true rfl) dX2_link_16 ⟨Nat.zero_le _, Nat.zero_le _⟩ ?_
    refine lv_if_ne (tgt := 25) hx hb dX2_link_19 (by decide) (fun c_19 => ?_) (fun c_19 => ?_)
    · skip
      have c_19 := bI_1 c_19
      obtain ⟨k, hk, rfl⟩ := hasB_of hn c_19
      refine lv_aload_n hx hb dX2_link_25 rfl (lv_at hl 0 rfl) ?_
      refine va_get (D := D) (ci := 2) (v := .ref f) (C := RX2) (T := TX2) (N := 4) hx hb hts hin2 hown hK hP 0 rfl rfl 0 (by decide) hf10 (fun _ h9 => h9) rfl dX2_link_26 ?_
      refine lv_iload_n hx hb dX2_link_29 rfl (lv_at hl 1 rfl) ?_
      refine rd_call ⟨hx, hb, hml, hown, hts⟩ (c_X0_isRoot l D cI cZ f fa fb fc n (fo_cp G) va mk j hj hn) (cwV 1 hts gX2_link_X0_isRoot rfl rfl rfl (by decide +kernel) ⟨Nat.le_of_ble_eq_true rfl, Nat.le_of_ble_eq_true rfl⟩) (hP.sub (ws' := wF f fa fb fc cI cZ n (fo_cp G) va mk) [1, 2, 3, 4] rfl) hK rfl rfl rfl hl rfl (Nat.le_of_ble_eq_true rfl) dX2_link_30 ⟨Nat.zero_le _, Nat.zero_le _⟩ ?_
      refine lv_if_ne (tgt := 39) hx hb dX2_link_33 (by decide) (fun c_33 => ?_) (fun c_33 => ?_)
      · skip
        have c_33 := bI_1 c_33
        have c_33 : G j = j := by simpa [fo_cp_1 F hj] using c_33
        refine lv_aload_n hx hb dX2_link_39 rfl (lv_at hl 0 rfl) ?_
        refine va_get (D := D) (ci := 2) (v := .ref f) (C := RX2) (T := TX2) (N := 4) hx hb hts hin2 hown hK hP 0 rfl rfl 0 (by decide) hf10 (fun _ h9 => h9) rfl dX2_link_40 ?_
        refine lv_iload_n hx hb dX2_link_43 rfl (lv_at hl 2 rfl) ?_
        refine rd_call ⟨hx, hb, hml, hown, hts⟩ (c_X0_rootOf l D cI cZ f fa fb fc n G va mk F k hk) (cwV 1 hts gX2_link_X0_rootOf rfl rfl rfl (by decide +kernel) ⟨Nat.le_of_ble_eq_true rfl, Nat.le_of_ble_eq_true rfl⟩) (hP.sub (ws' := wF f fa fb fc cI cZ n (fo_cp G) va mk) [1, 2, 3, 4] rfl) hK rfl rfl rfl hl rfl (Nat.le_of_ble_eq_true rfl) dX2_link_44 ⟨Nat.zero_le _, Nat.zero_le _⟩ ?_
        refine lv_iload_n hx hb dX2_link_47 rfl (lv_at hl 1 rfl) ?_
        have hlk := fo_r_lt F hk
        refine lv_icmp_ne (tgt := 54) hx hb dX2_link_48 (by decide) (fun c_48 => ?_) (fun c_48 => ?_)
        · skip
          have c_48 := cn_ne (a := (fo_r G k)) (b := j) (by omega) (by omega) c_48
          have hjk : k ≠ j := fun q => c_48 (by rw [q]; exact fo_r_of c_33)
          have F2 := fo_link F hj hk c_33 c_48
          refine lv_aload_n hx hb dX2_link_54 rfl (lv_at hl 0 rfl) ?_
          refine va_get (D := D) (ci := 2) (v := .ref f) (C := RX2) (T := TX2) (N := 4) hx hb hts hin2 hown hK hP 0 rfl rfl 0 (by decide) hf10 (fun _ h9 => h9) rfl dX2_link_55 ?_
          refine lv_iload_n hx hb dX2_link_58 rfl (lv_at hl 1 rfl) ?_
          refine lv_iload_n hx hb dX2_link_59 rfl (lv_at hl 2 rfl) ?_
          refine wr_call (V1 := wO h f f1 f2 ph ++ wF f fa fb fc cI cZ n (upd (fo_cp G) j (nI k)) va mk) ⟨hx, hb, hml, hown, hts⟩ (c_X0_putParent l D cI cZ f fa fb fc n (fo_cp G) va mk j hj hn (nI k)) (cwV 2 hts gX2_link_X0_putParent rfl rfl rfl (by decide +kernel) ⟨Nat.le_of_ble_eq_true rfl, Nat.le_of_ble_eq_true rfl⟩) hP hK hD hS [1, 2, 3, 4] [0] [0, 1, 2, 3, 4] rfl rfl (by decide) rfl rfl rfl rfl rfl hl rfl (Nat.le_of_ble_eq_true rfl) dX2_link_60 ⟨Nat.zero_le _, Nat.zero_le _⟩ (fun H locs hP hD hS => ?_)
          rw [fo_cp_set G hjk] at hP
          have hD : va_D (adr (wO h f f1 f2 ph ++ wF f fa fb fc cI cZ n (fo_cp G) va mk)) (wO h f f1 f2 ph ++ wF f fa fb fc cI cZ n (fo_cp (fo_set G j k)) va mk) := vd_same hD rfl
          refine lv_aload_n hx hb dX2_link_63 rfl (lv_at hl 0 rfl) ?_
          refine va_get (D := D) (ci := 2) (v := .ref f) (C := RX2) (T := TX2) (N := 4) hx hb hts hin2 hown hK hP 0 rfl rfl 0 (by decide) hf10 (fun _ h9 => h9) rfl dX2_link_64 ?_
          refine lv_aload_n hx hb dX2_link_67 rfl (lv_at hl 0 rfl) ?_
          refine va_get (D := D) (ci := 2) (v := .ref f) (C := RX2) (T := TX2) (N := 4) hx hb hts hin2 hown hK hP 0 rfl rfl 0 (by decide) hf10 (fun _ h9 => h9) rfl dX2_link_68 ?_
          refine lv_iload_n hx hb dX2_link_71 rfl (lv_at hl 2 rfl) ?_
          refine rd_call ⟨hx, hb, hml, hown, hts⟩ (c_X0_rootOf l D cI cZ f fa fb fc n (fo_set G j k) va mk F2 k hk) (cwV 1 hts gX2_link_X0_rootOf rfl rfl rfl (by decide +kernel) ⟨Nat.le_of_ble_eq_true rfl, Nat.le_of_ble_eq_true rfl⟩) (hP.sub (ws' := wF f fa fb fc cI cZ n (fo_cp (fo_set G j k)) va mk) [1, 2, 3, 4] rfl) hK rfl rfl rfl hl rfl (Nat.le_of_ble_eq_true rfl) dX2_link_72 ⟨Nat.zero_le _, Nat.zero_le _⟩ ?_
          refine rd_call ⟨hx, hb, hml, hown, hts⟩ (c_X0_countBelow l D cI cZ f fa fb fc n (fo_set G j k) va mk F2 (fo_r (fo_set G j k) k) (fo_r_lt F2 hk)) (cwV 1 hts gX2_link_X0_countBelow rfl rfl rfl (by decide +kernel) ⟨Nat.le_of_ble_eq_true rfl, Nat.le_of_ble_eq_true rfl⟩) (hP.sub (ws' := wF f fa fb fc cI cZ n (fo_cp (fo_set G j k)) va mk) [1, 2, 3, 4] rfl) hK rfl rfl rfl hl rfl (Nat.le_of_ble_eq_true rfl) dX2_link_75 ⟨Nat.zero_le _, Nat.zero_le _⟩ ?_
          have hP : va_P D vwCl (wO h f f1 f2 ph ++ wF f fa fb fc cI cZ n (fo_cp (gLink n G (nI j) (nI k))) va mk) H := by unfold gLink; rw [gb_t hj hk hn, if_pos ⟨c_33, c_48⟩]; exact hP
          exact wr_i hx hb hr hlocks hP hS (by unfold rLink; rw [gb_t hj hk hn, if_pos c_33, if_neg c_48]) dX2_link_78
        · skip
          have c_48 := cn_eq (a := (fo_r G k)) (b := j) (by omega) (by omega) c_48
          refine lv_ldc (own := RX2) hx hb hown hk51 dX2_link_51 ?_
          have hP : va_P D vwCl (wO h f f1 f2 ph ++ wF f fa fb fc cI cZ n (fo_cp (gLink n G (nI j) (nI k))) va mk) s.heap := by unfold gLink; rw [gb_t hj hk hn, if_neg (fun q => q.2 c_48)]; exact hP
          exact wr_i hx hb hr hlocks hP hS (by unfold rLink; rw [gb_t hj hk hn, if_pos c_33, if_pos c_48]) dX2_link_53
      · skip
        have c_33 := bI_0 c_33
        have c_33 : ¬ G j = j := by simpa [fo_cp_1 F hj] using c_33
        refine lv_ldc (own := RX2) hx hb hown hk46 dX2_link_36 ?_
        have hP : va_P D vwCl (wO h f f1 f2 ph ++ wF f fa fb fc cI cZ n (fo_cp (gLink n G (nI j) (nI k))) va mk) s.heap := by unfold gLink; rw [gb_t hj hk hn, if_neg (fun q => c_33 q.1)]; exact hP
        exact wr_i hx hb hr hlocks hP hS (by unfold rLink; rw [gb_t hj hk hn, if_neg c_33]) dX2_link_38
    · skip
      have c_19 := bI_0 c_19
      refine lv_ldc (own := RX2) hx hb hown hk42 dX2_link_22 ?_
      have hP : va_P D vwCl (wO h f f1 f2 ph ++ wF f fa fb fc cI cZ n (fo_cp (gLink n G (nI j) u)) va mk) s.heap := by unfold gLink; rw [gb_fr c_19]; exact hP
      exact wr_i hx hb hr hlocks hP hS (by unfold rLink; rw [gb_fr c_19]) dX2_link_24
set_option maxHeartbeats 4000000 in
set_option maxRecDepth 100000 in
theorem c_X2_cut (l : Launch) (D : va_G) (cI cZ : ClassId) (h : Nat) (f1 : Nat) (f2 : Nat) (ph : Nat) (f : Nat) (fa : Nat) (fb : Nat) (fc : Nat) (n : Nat) (G : Nat → Nat) (va : Nat → Int32) (mk : Nat → Bool) (F : fo_ok n G) (v : Int32) : WrM l yX2_cut wsX2_cut 3 63 D cI cZ (wO h f f1 f2 ph ++ wF f fa fb fc cI cZ n (fo_cp G) va mk) (wO h f f1 f2 ph ++ wF f fa fb fc cI cZ n (fo_cp (ga n v (fun j => fo_set G j j) G)) va mk) [.ref h, .int v] (some (.int (ga n v (fun j => if G j = j then -100000007 else nI (G j)) (-100000001)))) := by
  refine WrM.of (cc := cX2_cut) (maxL := 3) (ret := (some .int)) (by decide) rfl (Nat.le_of_ble_eq_true rfl) ?_
  intro p e s m below meth c hx hb hr hml hown hts hlocks hP hK hD hS ls hl
  have hown : s.vm.findClass RX2 = some m.cls := hown
  have hl : lv_has ls 3 [(0, .ref h), (1, .int v)] := hl
  have hP : va_P D vwCl (wO h f f1 f2 ph ++ wF f fa fb fc cI cZ n (fo_cp G) va mk) s.heap := hP
  have hf10 := hts (.fieldLink RX2 10 "DynamicForest" "forest" "LDynamicForest$Forest;") (by decide +kernel)
  have hk42 := hts (.constant RX2 42 (-100000001)) (by decide +kernel)
  have hk59 := hts (.constant RX2 59 (-100000007)) (by decide +kernel)
  have hin2 : ∀ w ∈ u_ws RX2 TX2 4, w ∈ wsX2_cut := by decide +kernel
  have hn : n ≤ 64 := F.2.1
  refine lv_aload_n hx hb dX2_cut_0 rfl (lv_at hl 0 rfl) ?_
  refine va_get (D := D) (ci := 2) (v := .ref f) (C := RX2) (T := TX2) (N := 4) hx hb hts hin2 hown hK hP 0 rfl rfl 0 (by decide) hf10 (fun _ h9 => h9) rfl dX2_cut_1 ?_
  refine lv_iload_n hx hb dX2_cut_4 rfl (lv_at hl 1 rfl) ?_
  refine rd_call ⟨hx, hb, hml, hown, hts⟩ (c_X0_has l D cI cZ f fa fb fc n (fo_cp G) va mk v) (cwV 1 hts gX2_cut_X0_has rfl rfl rfl (by decide +kernel) ⟨Nat.le_of_ble_eq_true rfl, Nat.le_of_ble_eq_true rfl⟩) (hP.sub (ws' := wF f fa fb fc cI cZ n (fo_cp G) va mk) [1, 2, 3, 4] rfl) hK rfl rfl rfl hl rfl (Nat.le_of_ble_eq_true rfl) dX2_cut_5 ⟨Nat.zero_le _, Nat.zero_le _⟩ ?_
  refine lv_if_ne (tgt := 14) hx hb dX2_cut_8 (by decide) (fun c_8 => ?_) (fun c_8 => ?_)
  · skip
    have c_8 := bI_1 c_8
    obtain ⟨j, hj, rfl⟩ := hasB_of hn c_8
    refine lv_aload_n hx hb dX2_cut_14 rfl (lv_at hl 0 rfl) ?_
    refine va_get (D := D) (ci := 2) (v := .ref f) (C := RX2) (T := TX2) (N := 4) hx hb hts hin2 hown hK hP 0 rfl rfl 0 (by decide) hf10 (fun _ h9 => h9) rfl dX2_cut_15 ?_
    refine lv_iload_n hx hb dX2_cut_18 rfl (lv_at hl 1 rfl) ?_
    refine rd_call ⟨hx, hb, hml, hown, hts⟩ (c_X0_isRoot l D cI cZ f fa fb fc n (fo_cp G) va mk j hj hn) (cwV 1 hts gX2_cut_X0_isRoot rfl rfl rfl (by decide +kernel) ⟨Nat.le_of_ble_eq_true rfl, Nat.le_of_ble_eq_true rfl⟩) (hP.sub (ws' := wF f fa fb fc cI cZ n (fo_cp G) va mk) [1, 2, 3, 4] rfl) hK rfl rfl rfl hl rfl (Nat.le_of_ble_eq_true rfl) dX2_cut_19 ⟨Nat.zero_le _, Nat.zero_le _⟩ ?_
    refine lv_if_eq (tgt := 28) hx hb dX2_cut_22 (by decide) (fun c_22 => ?_) (fun c_22 => ?_)
    · skip
      have c_22 := bI_0 c_22
      have c_22 : ¬ G j = j := by simpa [fo_cp_1 F hj] using c_22
      refine lv_aload_n hx hb dX2_cut_28 rfl (lv_at hl 0 rfl) ?_
      refine va_get (D := D) (ci := 2) (v := .ref f) (C := RX2) (T := TX2) (N := 4) hx hb hts hin2 hown hK hP 0 rfl rfl 0 (by decide) hf10 (fun _ h9 => h9) rfl dX2_cut_29 ?_
      refine lv_iload_n hx hb dX2_cut_32 rfl (lv_at hl 1 rfl) ?_
      refine rd_call ⟨hx, hb, hml, hown, hts⟩ (c_X0_parentOf l D cI cZ f fa fb fc n (fo_cp G) va mk j hj hn) (cwV 1 hts gX2_cut_X0_parentOf rfl rfl rfl (by decide +kernel) ⟨Nat.le_of_ble_eq_true rfl, Nat.le_of_ble_eq_true rfl⟩) (hP.sub (ws' := wF f fa fb fc cI cZ n (fo_cp G) va mk) [1, 2, 3, 4] rfl) hK rfl rfl rfl hl rfl (Nat.le_of_ble_eq_true rfl) dX2_cut_33 ⟨Nat.zero_le _, Nat.zero_le _⟩ ?_
      refine lv_istore_n (lv' := [(2, .int ((fo_cp G) j)), (0, .ref h), (1, .int (nI j))]) hx hb dX2_cut_36 rfl hl (by decide) rfl (fun ls hl => ?_)
      refine lv_aload_n hx hb dX2_cut_37 rfl (lv_at hl 1 rfl) ?_
      refine va_get (D := D) (ci := 2) (v := .ref f) (C := RX2) (T := TX2) (N := 4) hx hb hts hin2 hown hK hP 0 rfl rfl 0 (by decide) hf10 (fun _ h9 => h9) rfl dX2_cut_38 ?_
      refine lv_iload_n hx hb dX2_cut_41 rfl (lv_at hl 2 rfl) ?_
      refine lv_iconst (v := -1) hx hb dX2_cut_42 (by decide) ?_
      refine wr_call (V1 := wO h f f1 f2 ph ++ wF f fa fb fc cI cZ n (upd (fo_cp G) j (-1)) va mk) ⟨hx, hb, hml, hown, hts⟩ (c_X0_putParent l D cI cZ f fa fb fc n (fo_cp G) va mk j hj hn (-1)) (cwV 2 hts gX2_cut_X0_putParent rfl rfl rfl (by decide +kernel) ⟨Nat.le_of_ble_eq_true rfl, Nat.le_of_ble_eq_true rfl⟩) hP hK hD hS [1, 2, 3, 4] [0] [0, 1, 2, 3, 4] rfl rfl (by decide) rfl rfl rfl rfl rfl hl rfl (Nat.le_of_ble_eq_true rfl) dX2_cut_43 ⟨Nat.zero_le _, Nat.zero_le _⟩ (fun H locs hP hD hS => ?_)
      rw [fo_cp_cut] at hP
      have hD : va_D (adr (wO h f f1 f2 ph ++ wF f fa fb fc cI cZ n (fo_cp G) va mk)) (wO h f f1 f2 ph ++ wF f fa fb fc cI cZ n (fo_cp (fo_set G j j)) va mk) := vd_same hD rfl
      refine lv_iload_n hx hb dX2_cut_46 rfl (lv_at hl 0 rfl) ?_
      have hP : va_P D vwCl (wO h f f1 f2 ph ++ wF f fa fb fc cI cZ n (fo_cp (ga n (nI j) (fun j => fo_set G j j) G)) va mk) H := by rw [ga_t hj hn]; exact hP
      exact wr_i hx hb hr hlocks hP hS (by rw [ga_t hj hn, if_neg c_22, fo_cp_n c_22]) dX2_cut_47
    · skip
      have c_22 := bI_1 c_22
      have c_22 : G j = j := by simpa [fo_cp_1 F hj] using c_22
      refine lv_ldc (own := RX2) hx hb hown hk59 dX2_cut_25 ?_
      have hP : va_P D vwCl (wO h f f1 f2 ph ++ wF f fa fb fc cI cZ n (fo_cp (ga n (nI j) (fun j => fo_set G j j) G)) va mk) s.heap := by rw [ga_t hj hn, fo_set_id c_22]; exact hP
      exact wr_i hx hb hr hlocks hP hS (by rw [ga_t hj hn, if_pos c_22]) dX2_cut_27
  · skip
    have c_8 := bI_0 c_8
    refine lv_ldc (own := RX2) hx hb hown hk42 dX2_cut_11 ?_
    have hP : va_P D vwCl (wO h f f1 f2 ph ++ wF f fa fb fc cI cZ n (fo_cp (ga n v (fun j => fo_set G j j) G)) va mk) s.heap := by rw [ga_f c_8]; exact hP
    exact wr_i hx hb hr hlocks hP hS (by rw [ga_f c_8]) dX2_cut_13
set_option maxHeartbeats 4000000 in
set_option maxRecDepth 100000 in
theorem c_X2_reroot (l : Launch) (D : va_G) (cI cZ : ClassId) (h : Nat) (f1 : Nat) (f2 : Nat) (ph : Nat) (f : Nat) (fa : Nat) (fb : Nat) (fc : Nat) (n : Nat) (G : Nat → Nat) (va : Nat → Int32) (mk : Nat → Bool) (F : fo_ok n G) (v : Int32) : WrM l yX2_reroot wsX2_reroot 4 91 D cI cZ (wO h f f1 f2 ph ++ wF f fa fb fc cI cZ n (fo_cp G) va mk) (wO h f f1 f2 ph ++ wF f fa fb fc cI cZ n (fo_cp (ga n v (fun j => fo_rr G j) G)) va mk) [.ref h, .int v] (some (.int (ga n v (fun j => nI (fo_r G j)) (-100000001)))) := by
  refine WrM.of (cc := cX2_reroot) (maxL := 3) (ret := (some .int)) (by decide) rfl (Nat.le_of_ble_eq_true rfl) ?_
  intro p e s m below meth c hx hb hr hml hown hts hlocks hP hK hD hS ls hl
  have hown : s.vm.findClass RX2 = some m.cls := hown
  have hl : lv_has ls 3 [(0, .ref h), (1, .int v)] := hl
  have hP : va_P D vwCl (wO h f f1 f2 ph ++ wF f fa fb fc cI cZ n (fo_cp G) va mk) s.heap := hP
  have hf10 := hts (.fieldLink RX2 10 "DynamicForest" "forest" "LDynamicForest$Forest;") (by decide +kernel)
  have hk42 := hts (.constant RX2 42 (-100000001)) (by decide +kernel)
  have hin2 : ∀ w ∈ u_ws RX2 TX2 4, w ∈ wsX2_reroot := by decide +kernel
  have hn : n ≤ 64 := F.2.1
  refine lv_aload_n hx hb dX2_reroot_0 rfl (lv_at hl 0 rfl) ?_
  refine va_get (D := D) (ci := 2) (v := .ref f) (C := RX2) (T := TX2) (N := 4) hx hb hts hin2 hown hK hP 0 rfl rfl 0 (by decide) hf10 (fun _ h9 => h9) rfl dX2_reroot_1 ?_
  refine lv_iload_n hx hb dX2_reroot_4 rfl (lv_at hl 1 rfl) ?_
  refine rd_call ⟨hx, hb, hml, hown, hts⟩ (c_X0_has l D cI cZ f fa fb fc n (fo_cp G) va mk v) (cwV 1 hts gX2_reroot_X0_has rfl rfl rfl (by decide +kernel) ⟨Nat.le_of_ble_eq_true rfl, Nat.le_of_ble_eq_true rfl⟩) (hP.sub (ws' := wF f fa fb fc cI cZ n (fo_cp G) va mk) [1, 2, 3, 4] rfl) hK rfl rfl rfl hl rfl (Nat.le_of_ble_eq_true rfl) dX2_reroot_5 ⟨Nat.zero_le _, Nat.zero_le _⟩ ?_
  refine lv_if_ne (tgt := 14) hx hb dX2_reroot_8 (by decide) (fun c_8 => ?_) (fun c_8 => ?_)
  · skip
    have c_8 := bI_1 c_8
    obtain ⟨j, hj, rfl⟩ := hasB_of hn c_8
    refine lv_aload_n hx hb dX2_reroot_14 rfl (lv_at hl 0 rfl) ?_
    refine va_get (D := D) (ci := 2) (v := .ref f) (C := RX2) (T := TX2) (N := 4) hx hb hts hin2 hown hK hP 0 rfl rfl 0 (by decide) hf10 (fun _ h9 => h9) rfl dX2_reroot_15 ?_
    refine lv_iload_n hx hb dX2_reroot_18 rfl (lv_at hl 1 rfl) ?_
    refine rd_call ⟨hx, hb, hml, hown, hts⟩ (c_X0_rootOf l D cI cZ f fa fb fc n G va mk F j hj) (cwV 1 hts gX2_reroot_X0_rootOf rfl rfl rfl (by decide +kernel) ⟨Nat.le_of_ble_eq_true rfl, Nat.le_of_ble_eq_true rfl⟩) (hP.sub (ws' := wF f fa fb fc cI cZ n (fo_cp G) va mk) [1, 2, 3, 4] rfl) hK rfl rfl rfl hl rfl (Nat.le_of_ble_eq_true rfl) dX2_reroot_19 ⟨Nat.zero_le _, Nat.zero_le _⟩ ?_
    refine lv_istore_n (lv' := [(2, .int (nI (fo_r G j))), (0, .ref h), (1, .int (nI j))]) hx hb dX2_reroot_22 rfl hl (by decide) rfl (fun ls hl => ?_)
    refine lv_aload_n hx hb dX2_reroot_23 rfl (lv_at hl 1 rfl) ?_
    refine va_get (D := D) (ci := 2) (v := .ref f) (C := RX2) (T := TX2) (N := 4) hx hb hts hin2 hown hK hP 0 rfl rfl 0 (by decide) hf10 (fun _ h9 => h9) rfl dX2_reroot_24 ?_
    refine lv_iload_n hx hb dX2_reroot_27 rfl (lv_at hl 2 rfl) ?_
    refine wr_call (V1 := wO h f f1 f2 ph ++ wF f fa fb fc cI cZ n (fo_cp (fo_rr G j)) va mk) ⟨hx, hb, hml, hown, hts⟩ (c_X0_turnTowards l D cI cZ f fa fb fc n G va mk F j hj) (cwV 1 hts gX2_reroot_X0_turnTowards rfl rfl rfl (by decide +kernel) ⟨Nat.le_of_ble_eq_true rfl, Nat.le_of_ble_eq_true rfl⟩) hP hK hD hS [1, 2, 3, 4] [0] [0, 1, 2, 3, 4] rfl rfl (by decide) rfl rfl rfl rfl rfl hl rfl (Nat.le_of_ble_eq_true rfl) dX2_reroot_28 ⟨Nat.zero_le _, Nat.zero_le _⟩ (fun H locs hP hD hS => ?_)
    refine lv_iload_n hx hb dX2_reroot_31 rfl (lv_at hl 0 rfl) ?_
    have hP : va_P D vwCl (wO h f f1 f2 ph ++ wF f fa fb fc cI cZ n (fo_cp (ga n (nI j) (fun j => fo_rr G j) G)) va mk) H := by rw [ga_t hj hn]; exact hP
    exact wr_i hx hb hr hlocks hP hS (by rw [ga_t hj hn]) dX2_reroot_32
  · skip
    have c_8 := bI_0 c_8
    refine lv_ldc (own := RX2) hx hb hown hk42 dX2_reroot_11 ?_
    have hP : va_P D vwCl (wO h f f1 f2 ph ++ wF f fa fb fc cI cZ n (fo_cp (ga n v (fun j => fo_rr G j) G)) va mk) s.heap := by rw [ga_f c_8]; exact hP
    exact wr_i hx hb hr hlocks hP hS (by rw [ga_f c_8]) dX2_reroot_13
set_option maxHeartbeats 4000000 in
set_option maxRecDepth 100000 in
theorem c_X2_setValue (l : Launch) (D : va_G) (cI cZ : ClassId) (h : Nat) (f1 : Nat) (f2 : Nat) (ph : Nat) (f : Nat) (fa : Nat) (fb : Nat) (fc : Nat) (n : Nat) (G : Nat → Nat) (va : Nat → Int32) (mk : Nat → Bool) (F : fo_ok n G) (v : Int32) (x : Int32) : WrM l yX2_setValue wsX2_setValue 2 43 D cI cZ (wO h f f1 f2 ph ++ wF f fa fb fc cI cZ n (fo_cp G) va mk) (wO h f f1 f2 ph ++ wF f fa fb fc cI cZ n (fo_cp G) (ga n v (fun j => if isV x = true then upd va j x else va) va) mk) [.ref h, .int v, .int x] (some (.int (ga n v (fun j => if isV x = true then va j else -100000002) (-100000001)))) := by
  refine WrM.of (cc := cX2_setValue) (maxL := 4) (ret := (some .int)) (by decide) rfl (Nat.le_of_ble_eq_true rfl) ?_
  intro p e s m below meth c hx hb hr hml hown hts hlocks hP hK hD hS ls hl
  have hown : s.vm.findClass RX2 = some m.cls := hown
  have hl : lv_has ls 4 [(0, .ref h), (1, .int v), (2, .int x)] := hl
  have hP : va_P D vwCl (wO h f f1 f2 ph ++ wF f fa fb fc cI cZ n (fo_cp G) va mk) s.heap := hP
  have hf10 := hts (.fieldLink RX2 10 "DynamicForest" "forest" "LDynamicForest$Forest;") (by decide +kernel)
  have hk42 := hts (.constant RX2 42 (-100000001)) (by decide +kernel)
  have hk33 := hts (.constant RX2 33 (-100000002)) (by decide +kernel)
  have hin2 : ∀ w ∈ u_ws RX2 TX2 4, w ∈ wsX2_setValue := by decide +kernel
  have hn : n ≤ 64 := F.2.1
  refine lv_aload_n hx hb dX2_setValue_0 rfl (lv_at hl 0 rfl) ?_
  refine va_get (D := D) (ci := 2) (v := .ref f) (C := RX2) (T := TX2) (N := 4) hx hb hts hin2 hown hK hP 0 rfl rfl 0 (by decide) hf10 (fun _ h9 => h9) rfl dX2_setValue_1 ?_
  refine lv_iload_n hx hb dX2_setValue_4 rfl (lv_at hl 1 rfl) ?_
  refine rd_call ⟨hx, hb, hml, hown, hts⟩ (c_X0_has l D cI cZ f fa fb fc n (fo_cp G) va mk v) (cwV 1 hts gX2_setValue_X0_has rfl rfl rfl (by decide +kernel) ⟨Nat.le_of_ble_eq_true rfl, Nat.le_of_ble_eq_true rfl⟩) (hP.sub (ws' := wF f fa fb fc cI cZ n (fo_cp G) va mk) [1, 2, 3, 4] rfl) hK rfl rfl rfl hl rfl (Nat.le_of_ble_eq_true rfl) dX2_setValue_5 ⟨Nat.zero_le _, Nat.zero_le _⟩ ?_
  refine lv_if_ne (tgt := 14) hx hb dX2_setValue_8 (by decide) (fun c_8 => ?_) (fun c_8 => ?_)
  · skip
    have c_8 := bI_1 c_8
    obtain ⟨j, hj, rfl⟩ := hasB_of hn c_8
    refine lv_iload_n hx hb dX2_setValue_14 rfl (lv_at hl 2 rfl) ?_
    refine rd_callS ⟨hx, hb, hml, hown, hts⟩ (c_X2_isValue l D cI cZ x) (va_cwS 1 hts gX2_setValue_X2_isValue rfl rfl rfl (by decide +kernel) ⟨Nat.le_of_ble_eq_true rfl, Nat.le_of_ble_eq_true rfl⟩) hK rfl hl rfl (Nat.le_of_ble_eq_true rfl) dX2_setValue_15 ⟨Nat.zero_le _, Nat.zero_le _⟩ ?_
    refine lv_if_ne (tgt := 24) hx hb dX2_setValue_18 (by decide) (fun c_18 => ?_) (fun c_18 => ?_)
    · skip
      have c_18 := bI_1 c_18
      refine lv_aload_n hx hb dX2_setValue_24 rfl (lv_at hl 0 rfl) ?_
      refine va_get (D := D) (ci := 2) (v := .ref f) (C := RX2) (T := TX2) (N := 4) hx hb hts hin2 hown hK hP 0 rfl rfl 0 (by decide) hf10 (fun _ h9 => h9) rfl dX2_setValue_25 ?_
      refine lv_iload_n hx hb dX2_setValue_28 rfl (lv_at hl 1 rfl) ?_
      refine rd_call ⟨hx, hb, hml, hown, hts⟩ (c_X0_valueOf l D cI cZ f fa fb fc n (fo_cp G) va mk j hj hn) (cwV 1 hts gX2_setValue_X0_valueOf rfl rfl rfl (by decide +kernel) ⟨Nat.le_of_ble_eq_true rfl, Nat.le_of_ble_eq_true rfl⟩) (hP.sub (ws' := wF f fa fb fc cI cZ n (fo_cp G) va mk) [1, 2, 3, 4] rfl) hK rfl rfl rfl hl rfl (Nat.le_of_ble_eq_true rfl) dX2_setValue_29 ⟨Nat.zero_le _, Nat.zero_le _⟩ ?_
      refine lv_istore_n (lv' := [(3, .int (va j)), (0, .ref h), (1, .int (nI j)), (2, .int x)]) hx hb dX2_setValue_32 rfl hl (by decide) rfl (fun ls hl => ?_)
      refine lv_aload_n hx hb dX2_setValue_33 rfl (lv_at hl 1 rfl) ?_
      refine va_get (D := D) (ci := 2) (v := .ref f) (C := RX2) (T := TX2) (N := 4) hx hb hts hin2 hown hK hP 0 rfl rfl 0 (by decide) hf10 (fun _ h9 => h9) rfl dX2_setValue_34 ?_
      refine lv_iload_n hx hb dX2_setValue_37 rfl (lv_at hl 2 rfl) ?_
      refine lv_iload_n hx hb dX2_setValue_38 rfl (lv_at hl 3 rfl) ?_
      refine wr_call (V1 := wO h f f1 f2 ph ++ wF f fa fb fc cI cZ n (fo_cp G) (upd va j x) mk) ⟨hx, hb, hml, hown, hts⟩ (c_X0_putValue l D cI cZ f fa fb fc n (fo_cp G) va mk j hj hn x) (cwV 2 hts gX2_setValue_X0_putValue rfl rfl rfl (by decide +kernel) ⟨Nat.le_of_ble_eq_true rfl, Nat.le_of_ble_eq_true rfl⟩) hP hK hD hS [1, 2, 3, 4] [0] [0, 1, 2, 3, 4] rfl rfl (by decide) rfl rfl rfl rfl rfl hl rfl (Nat.le_of_ble_eq_true rfl) dX2_setValue_39 ⟨Nat.zero_le _, Nat.zero_le _⟩ (fun H locs hP hD hS => ?_)
      refine lv_iload_n hx hb dX2_setValue_42 rfl (lv_at hl 0 rfl) ?_
      have hP : va_P D vwCl (wO h f f1 f2 ph ++ wF f fa fb fc cI cZ n (fo_cp G) (ga n (nI j) (fun j => if isV x = true then upd va j x else va) va) mk) H := by rw [ga_t hj hn, if_pos c_18]; exact hP
      exact wr_i hx hb hr hlocks hP hS (by rw [ga_t hj hn, if_pos c_18]) dX2_setValue_43
    · skip
      have c_18 := bI_0 c_18
      refine lv_ldc (own := RX2) hx hb hown hk33 dX2_setValue_21 ?_
      have hP : va_P D vwCl (wO h f f1 f2 ph ++ wF f fa fb fc cI cZ n (fo_cp G) (ga n (nI j) (fun j => if isV x = true then upd va j x else va) va) mk) s.heap := by rw [ga_t hj hn, if_neg (by rw [c_18]; decide)]; exact hP
      exact wr_i hx hb hr hlocks hP hS (by rw [ga_t hj hn, if_neg (by rw [c_18]; decide)]) dX2_setValue_23
  · skip
    have c_8 := bI_0 c_8
    refine lv_ldc (own := RX2) hx hb hown hk42 dX2_setValue_11 ?_
    have hP : va_P D vwCl (wO h f f1 f2 ph ++ wF f fa fb fc cI cZ n (fo_cp G) (ga n v (fun j => if isV x = true then upd va j x else va) va) mk) s.heap := by rw [ga_f c_8]; exact hP
    exact wr_i hx hb hr hlocks hP hS (by rw [ga_f c_8]) dX2_setValue_13
set_option maxHeartbeats 4000000 in
set_option maxRecDepth 100000 in
theorem c_X2_setMark (l : Launch) (D : va_G) (cI cZ : ClassId) (h : Nat) (f1 : Nat) (f2 : Nat) (ph : Nat) (f : Nat) (fa : Nat) (fb : Nat) (fc : Nat) (n : Nat) (G : Nat → Nat) (va : Nat → Int32) (mk : Nat → Bool) (F : fo_ok n G) (v : Int32) (on : Bool) : WrM l yX2_setMark wsX2_setMark 2 43 D cI cZ (wO h f f1 f2 ph ++ wF f fa fb fc cI cZ n (fo_cp G) va mk) (wO h f f1 f2 ph ++ wF f fa fb fc cI cZ n (fo_cp G) va (ga n v (fun j => bset mk j on) mk)) [.ref h, .int v, .int (bI on)] (some (.int (ga n v (fun j => bI (mk j)) (-100000001)))) := by
  refine WrM.of (cc := cX2_setMark) (maxL := 4) (ret := (some .int)) (by decide) rfl (Nat.le_of_ble_eq_true rfl) ?_
  intro p e s m below meth c hx hb hr hml hown hts hlocks hP hK hD hS ls hl
  have hown : s.vm.findClass RX2 = some m.cls := hown
  have hl : lv_has ls 4 [(0, .ref h), (1, .int v), (2, .int (bI on))] := hl
  have hP : va_P D vwCl (wO h f f1 f2 ph ++ wF f fa fb fc cI cZ n (fo_cp G) va mk) s.heap := hP
  have hf10 := hts (.fieldLink RX2 10 "DynamicForest" "forest" "LDynamicForest$Forest;") (by decide +kernel)
  have hk42 := hts (.constant RX2 42 (-100000001)) (by decide +kernel)
  have hin2 : ∀ w ∈ u_ws RX2 TX2 4, w ∈ wsX2_setMark := by decide +kernel
  have hn : n ≤ 64 := F.2.1
  refine lv_aload_n hx hb dX2_setMark_0 rfl (lv_at hl 0 rfl) ?_
  refine va_get (D := D) (ci := 2) (v := .ref f) (C := RX2) (T := TX2) (N := 4) hx hb hts hin2 hown hK hP 0 rfl rfl 0 (by decide) hf10 (fun _ h9 => h9) rfl dX2_setMark_1 ?_
  refine lv_iload_n hx hb dX2_setMark_4 rfl (lv_at hl 1 rfl) ?_
  refine rd_call ⟨hx, hb, hml, hown, hts⟩ (c_X0_has l D cI cZ f fa fb fc n (fo_cp G) va mk v) (cwV 1 hts gX2_setMark_X0_has rfl rfl rfl (by decide +kernel) ⟨Nat.le_of_ble_eq_true rfl, Nat.le_of_ble_eq_true rfl⟩) (hP.sub (ws' := wF f fa fb fc cI cZ n (fo_cp G) va mk) [1, 2, 3, 4] rfl) hK rfl rfl rfl hl rfl (Nat.le_of_ble_eq_true rfl) dX2_setMark_5 ⟨Nat.zero_le _, Nat.zero_le _⟩ ?_
  refine lv_if_ne (tgt := 14) hx hb dX2_setMark_8 (by decide) (fun c_8 => ?_) (fun c_8 => ?_)
  · skip
    have c_8 := bI_1 c_8
    obtain ⟨j, hj, rfl⟩ := hasB_of hn c_8
    refine lv_aload_n hx hb dX2_setMark_14 rfl (lv_at hl 0 rfl) ?_
    refine va_get (D := D) (ci := 2) (v := .ref f) (C := RX2) (T := TX2) (N := 4) hx hb hts hin2 hown hK hP 0 rfl rfl 0 (by decide) hf10 (fun _ h9 => h9) rfl dX2_setMark_15 ?_
    refine lv_iload_n hx hb dX2_setMark_18 rfl (lv_at hl 1 rfl) ?_
    refine rd_call ⟨hx, hb, hml, hown, hts⟩ (c_X0_isMarked l D cI cZ f fa fb fc n (fo_cp G) va mk j hj hn) (cwV 1 hts gX2_setMark_X0_isMarked rfl rfl rfl (by decide +kernel) ⟨Nat.le_of_ble_eq_true rfl, Nat.le_of_ble_eq_true rfl⟩) (hP.sub (ws' := wF f fa fb fc cI cZ n (fo_cp G) va mk) [1, 2, 3, 4] rfl) hK rfl rfl rfl hl rfl (Nat.le_of_ble_eq_true rfl) dX2_setMark_19 ⟨Nat.zero_le _, Nat.zero_le _⟩ ?_
    refine lv_if_eq (tgt := 29) hx hb dX2_setMark_22 (by decide) (fun c_22 => ?_) (fun c_22 => ?_)
    · skip
      have c_22 := bI_0 c_22
      refine lv_iconst (v := 0) hx hb dX2_setMark_29 (by decide) ?_
      refine lv_istore_n (lv' := [(3, .int 0), (0, .ref h), (1, .int (nI j)), (2, .int (bI on))]) hx hb dX2_setMark_30 rfl hl (by decide) rfl (fun ls hl => ?_)
      refine lv_aload_n hx hb dX2_setMark_31 rfl (lv_at hl 1 rfl) ?_
      refine va_get (D := D) (ci := 2) (v := .ref f) (C := RX2) (T := TX2) (N := 4) hx hb hts hin2 hown hK hP 0 rfl rfl 0 (by decide) hf10 (fun _ h9 => h9) rfl dX2_setMark_32 ?_
      refine lv_iload_n hx hb dX2_setMark_35 rfl (lv_at hl 2 rfl) ?_
      refine lv_iload_n hx hb dX2_setMark_36 rfl (lv_at hl 3 rfl) ?_
      refine wr_call (V1 := wO h f f1 f2 ph ++ wF f fa fb fc cI cZ n (fo_cp G) va (bset mk j on)) ⟨hx, hb, hml, hown, hts⟩ (c_X0_putMark l D cI cZ f fa fb fc n (fo_cp G) va mk j hj hn on) (cwV 2 hts gX2_setMark_X0_putMark rfl rfl rfl (by decide +kernel) ⟨Nat.le_of_ble_eq_true rfl, Nat.le_of_ble_eq_true rfl⟩) hP hK hD hS [1, 2, 3, 4] [0] [0, 1, 2, 3, 4] rfl rfl (by decide) rfl rfl rfl rfl rfl hl rfl (Nat.le_of_ble_eq_true rfl) dX2_setMark_37 ⟨Nat.zero_le _, Nat.zero_le _⟩ (fun H locs hP hD hS => ?_)
      refine lv_iload_n hx hb dX2_setMark_40 rfl (lv_at hl 0 rfl) ?_
      have hP : va_P D vwCl (wO h f f1 f2 ph ++ wF f fa fb fc cI cZ n (fo_cp G) va (ga n (nI j) (fun j => bset mk j on) mk)) H := by rw [ga_t hj hn]; exact hP
      exact wr_i hx hb hr hlocks hP hS (by rw [ga_t hj hn, c_22]; rfl) dX2_setMark_41
    · skip
      have c_22 := bI_1 c_22
      refine lv_iconst (v := 1) hx hb dX2_setMark_25 (by decide) ?_
      refine lv_goto (tgt := 30) hx hb dX2_setMark_26 (by decide) ?_
      refine lv_istore_n (lv' := [(3, .int 1), (0, .ref h), (1, .int (nI j)), (2, .int (bI on))]) hx hb dX2_setMark_30 rfl hl (by decide) rfl (fun ls hl => ?_)
      refine lv_aload_n hx hb dX2_setMark_31 rfl (lv_at hl 1 rfl) ?_
      refine va_get (D := D) (ci := 2) (v := .ref f) (C := RX2) (T := TX2) (N := 4) hx hb hts hin2 hown hK hP 0 rfl rfl 0 (by decide) hf10 (fun _ h9 => h9) rfl dX2_setMark_32 ?_
      refine lv_iload_n hx hb dX2_setMark_35 rfl (lv_at hl 2 rfl) ?_
      refine lv_iload_n hx hb dX2_setMark_36 rfl (lv_at hl 3 rfl) ?_
      refine wr_call (V1 := wO h f f1 f2 ph ++ wF f fa fb fc cI cZ n (fo_cp G) va (bset mk j on)) ⟨hx, hb, hml, hown, hts⟩ (c_X0_putMark l D cI cZ f fa fb fc n (fo_cp G) va mk j hj hn on) (cwV 2 hts gX2_setMark_X0_putMark rfl rfl rfl (by decide +kernel) ⟨Nat.le_of_ble_eq_true rfl, Nat.le_of_ble_eq_true rfl⟩) hP hK hD hS [1, 2, 3, 4] [0] [0, 1, 2, 3, 4] rfl rfl (by decide) rfl rfl rfl rfl rfl hl rfl (Nat.le_of_ble_eq_true rfl) dX2_setMark_37 ⟨Nat.zero_le _, Nat.zero_le _⟩ (fun H locs hP hD hS => ?_)
      refine lv_iload_n hx hb dX2_setMark_40 rfl (lv_at hl 0 rfl) ?_
      have hP : va_P D vwCl (wO h f f1 f2 ph ++ wF f fa fb fc cI cZ n (fo_cp G) va (ga n (nI j) (fun j => bset mk j on) mk)) H := by rw [ga_t hj hn]; exact hP
      exact wr_i hx hb hr hlocks hP hS (by rw [ga_t hj hn, c_22]; rfl) dX2_setMark_41
  · skip
    have c_8 := bI_0 c_8
    refine lv_ldc (own := RX2) hx hb hown hk42 dX2_setMark_11 ?_
    have hP : va_P D vwCl (wO h f f1 f2 ph ++ wF f fa fb fc cI cZ n (fo_cp G) va (ga n v (fun j => bset mk j on) mk)) s.heap := by rw [ga_f c_8]; exact hP
    exact wr_i hx hb hr hlocks hP hS (by rw [ga_f c_8]) dX2_setMark_13
set_option maxHeartbeats 4000000 in
set_option maxRecDepth 100000 in
theorem c_X2_addInSubtree (l : Launch) (D : va_G) (cI cZ : ClassId) (h : Nat) (f1 : Nat) (f2 : Nat) (ph : Nat) (f : Nat) (fa : Nat) (fb : Nat) (fc : Nat) (n : Nat) (G : Nat → Nat) (va : Nat → Int32) (mk : Nat → Bool) (F : fo_ok n G) (v : Int32) (x : Int32) : WrM l yX2_addInSubtree wsX2_addInSubtree 5 112 D cI cZ (wO h f f1 f2 ph ++ wF f fa fb fc cI cZ n (fo_cp G) va mk) (wO h f f1 f2 ph ++ wF f fa fb fc cI cZ n (fo_cp G) (ga n v (fun j => if oSub n G va x j = true then vSub va (fun w => fo_bel G w j) x n else va) va) mk) [.ref h, .int v, .int x] (some (.int (ga n v (fun j => rSub n G va x j) (-100000001)))) := by
  refine WrM.of (cc := cX2_addInSubtree) (maxL := 4) (ret := (some .int)) (by decide) rfl (Nat.le_of_ble_eq_true rfl) ?_
  intro p e s m below meth c hx hb hr hml hown hts hlocks hP hK hD hS ls hl
  have hown : s.vm.findClass RX2 = some m.cls := hown
  have hl : lv_has ls 4 [(0, .ref h), (1, .int v), (2, .int x)] := hl
  have hP : va_P D vwCl (wO h f f1 f2 ph ++ wF f fa fb fc cI cZ n (fo_cp G) va mk) s.heap := hP
  have hf10 := hts (.fieldLink RX2 10 "DynamicForest" "forest" "LDynamicForest$Forest;") (by decide +kernel)
  have hk42 := hts (.constant RX2 42 (-100000001)) (by decide +kernel)
  have hk33 := hts (.constant RX2 33 (-100000002)) (by decide +kernel)
  have hk100 := hts (.constant RX2 100 (-100000005)) (by decide +kernel)
  have hin2 : ∀ w ∈ u_ws RX2 TX2 4, w ∈ wsX2_addInSubtree := by decide +kernel
  have hn : n ≤ 64 := F.2.1
  refine lv_aload_n hx hb dX2_addInSubtree_0 rfl (lv_at hl 0 rfl) ?_
  refine va_get (D := D) (ci := 2) (v := .ref f) (C := RX2) (T := TX2) (N := 4) hx hb hts hin2 hown hK hP 0 rfl rfl 0 (by decide) hf10 (fun _ h9 => h9) rfl dX2_addInSubtree_1 ?_
  refine lv_iload_n hx hb dX2_addInSubtree_4 rfl (lv_at hl 1 rfl) ?_
  refine rd_call ⟨hx, hb, hml, hown, hts⟩ (c_X0_has l D cI cZ f fa fb fc n (fo_cp G) va mk v) (cwV 1 hts gX2_addInSubtree_X0_has rfl rfl rfl (by decide +kernel) ⟨Nat.le_of_ble_eq_true rfl, Nat.le_of_ble_eq_true rfl⟩) (hP.sub (ws' := wF f fa fb fc cI cZ n (fo_cp G) va mk) [1, 2, 3, 4] rfl) hK rfl rfl rfl hl rfl (Nat.le_of_ble_eq_true rfl) dX2_addInSubtree_5 ⟨Nat.zero_le _, Nat.zero_le _⟩ ?_
  refine lv_if_ne (tgt := 14) hx hb dX2_addInSubtree_8 (by decide) (fun c_8 => ?_) (fun c_8 => ?_)
  · skip
    have c_8 := bI_1 c_8
    obtain ⟨j, hj, rfl⟩ := hasB_of hn c_8
    refine lv_iload_n hx hb dX2_addInSubtree_14 rfl (lv_at hl 2 rfl) ?_
    refine rd_callS ⟨hx, hb, hml, hown, hts⟩ (c_X2_isValue l D cI cZ x) (va_cwS 1 hts gX2_addInSubtree_X2_isValue rfl rfl rfl (by decide +kernel) ⟨Nat.le_of_ble_eq_true rfl, Nat.le_of_ble_eq_true rfl⟩) hK rfl hl rfl (Nat.le_of_ble_eq_true rfl) dX2_addInSubtree_15 ⟨Nat.zero_le _, Nat.zero_le _⟩ ?_
    refine lv_if_ne (tgt := 24) hx hb dX2_addInSubtree_18 (by decide) (fun c_18 => ?_) (fun c_18 => ?_)
    · skip
      have c_18 := bI_1 c_18
      refine lv_iconst (v := nI 0) hx hb dX2_addInSubtree_24 (by decide) ?_
      refine lv_istore_n (lv' := [(3, .int (nI 0)), (0, .ref h), (1, .int (nI j)), (2, .int x)]) hx hb dX2_addInSubtree_25 rfl hl (by decide) rfl (fun ls hl => ?_)
      have L26 : ∀ (k26_ : Nat) (i : Nat), i ≤ n → fAll (fun w => !fo_bel G w j || isV (va w + x)) i = true → n - i < k26_ → ∀ (H : Heap) (locs : List Loc), va_P D vwCl (wO h f f1 f2 ph ++ wF f fa fb fc cI cZ n (fo_cp G) va mk) H → va_D (adr (wO h f f1 f2 ph ++ wF f fa fb fc cI cZ n (fo_cp G) va mk)) (wO h f f1 f2 ph ++ wF f fa fb fc cI cZ n (fo_cp G) va mk) → va_S (adr (wO h f f1 f2 ph ++ wF f fa fb fc cI cZ n (fo_cp G) va mk)) s.heap H locs → ∀ ls, lv_has ls 4 [(0, .ref h), (1, .int (nI j)), (2, .int x), (3, .int (nI i))] → Ww0 p l e wsX2_addInSubtree 5 112 s m [.ref h, .int (nI j), .int x] below meth c D (wO h f f1 f2 ph ++ wF f fa fb fc cI cZ n (fo_cp G) va mk) (wO h f f1 f2 ph ++ wF f fa fb fc cI cZ n (fo_cp G) (ga n (nI j) (fun j => if oSub n G va x j = true then vSub va (fun w => fo_bel G w j) x n else va) va) mk) (some (.int (ga n (nI j) (fun j => rSub n G va x j) (-100000001)))) H locs (F0 m 26 ls []) := by
        intro k26_
        induction k26_ with
        | zero => intro i hi ha hk26_; exact absurd hk26_ (Nat.not_lt_zero _)
        | succ k26_ ih26 =>
          intro i hi ha hk26_ H locs hP hD hS ls hl
          refine lv_iload_n hx hb dX2_addInSubtree_26 rfl (lv_at hl 3 rfl) ?_
          refine lv_aload_n hx hb dX2_addInSubtree_27 rfl (lv_at hl 0 rfl) ?_
          refine va_get (D := D) (ci := 2) (v := .ref f) (C := RX2) (T := TX2) (N := 4) hx hb hts hin2 hown hK hP 0 rfl rfl 0 (by decide) hf10 (fun _ h9 => h9) rfl dX2_addInSubtree_28 ?_
          refine rd_call ⟨hx, hb, hml, hown, hts⟩ (c_X0_size l D cI cZ f fa fb fc n (fo_cp G) va mk) (cwV 0 hts gX2_addInSubtree_X0_size rfl rfl rfl (by decide +kernel) ⟨Nat.le_of_ble_eq_true rfl, Nat.le_of_ble_eq_true rfl⟩) (hP.sub (ws' := wF f fa fb fc cI cZ n (fo_cp G) va mk) [1, 2, 3, 4] rfl) hK rfl rfl rfl hl rfl (Nat.le_of_ble_eq_true rfl) dX2_addInSubtree_31 ⟨Nat.zero_le _, Nat.zero_le _⟩ ?_
          refine lv_icmp_ge (tgt := 74) hx hb dX2_addInSubtree_34 (by decide) (fun c_34 => ?_) (fun c_34 => ?_)
          · skip
            have c_34 := cn_le (a := n) (b := i) (by omega) (by omega) c_34
            have hall : fAll (fun w => !fo_bel G w j || isV (va w + x)) n = true := by rw [show n = i by omega]; exact ha
            refine lv_iconst (v := nI 0) hx hb dX2_addInSubtree_74 (by decide) ?_
            refine lv_istore_n (lv' := [(3, .int (nI 0)), (0, .ref h), (1, .int (nI j)), (2, .int x)]) hx hb dX2_addInSubtree_75 rfl hl (by decide) rfl (fun ls hl => ?_)
            have L76 : ∀ (k76_ : Nat) (i : Nat), i ≤ n → n - i < k76_ → ∀ (H : Heap) (locs : List Loc), va_P D vwCl (wO h f f1 f2 ph ++ wF f fa fb fc cI cZ n (fo_cp G) (vSub va (fun w => fo_bel G w j) x i) mk) H → va_D (adr (wO h f f1 f2 ph ++ wF f fa fb fc cI cZ n (fo_cp G) va mk)) (wO h f f1 f2 ph ++ wF f fa fb fc cI cZ n (fo_cp G) (vSub va (fun w => fo_bel G w j) x i) mk) → va_S (adr (wO h f f1 f2 ph ++ wF f fa fb fc cI cZ n (fo_cp G) va mk)) s.heap H locs → ∀ ls, lv_has ls 4 [(0, .ref h), (1, .int (nI j)), (2, .int x), (3, .int (nI i))] → Ww0 p l e wsX2_addInSubtree 5 112 s m [.ref h, .int (nI j), .int x] below meth c D (wO h f f1 f2 ph ++ wF f fa fb fc cI cZ n (fo_cp G) va mk) (wO h f f1 f2 ph ++ wF f fa fb fc cI cZ n (fo_cp G) (ga n (nI j) (fun j => if oSub n G va x j = true then vSub va (fun w => fo_bel G w j) x n else va) va) mk) (some (.int (ga n (nI j) (fun j => rSub n G va x j) (-100000001)))) H locs (F0 m 76 ls []) := by
              intro k76_
              induction k76_ with
              | zero => intro i hi2 hk76_; exact absurd hk76_ (Nat.not_lt_zero _)
              | succ k76_ ih76 =>
                intro i hi2 hk76_ H locs hP hD hS ls hl
                refine lv_iload_n hx hb dX2_addInSubtree_76 rfl (lv_at hl 3 rfl) ?_
                refine lv_aload_n hx hb dX2_addInSubtree_77 rfl (lv_at hl 0 rfl) ?_
                refine va_get (D := D) (ci := 2) (v := .ref f) (C := RX2) (T := TX2) (N := 4) hx hb hts hin2 hown hK hP 0 rfl rfl 0 (by decide) hf10 (fun _ h9 => h9) rfl dX2_addInSubtree_78 ?_
                refine rd_call ⟨hx, hb, hml, hown, hts⟩ (c_X0_size l D cI cZ f fa fb fc n (fo_cp G) (vSub va (fun w => fo_bel G w j) x i) mk) (cwV 0 hts gX2_addInSubtree_X0_size rfl rfl rfl (by decide +kernel) ⟨Nat.le_of_ble_eq_true rfl, Nat.le_of_ble_eq_true rfl⟩) (hP.sub (ws' := wF f fa fb fc cI cZ n (fo_cp G) (vSub va (fun w => fo_bel G w j) x i) mk) [1, 2, 3, 4] rfl) hK rfl rfl rfl hl rfl (Nat.le_of_ble_eq_true rfl) dX2_addInSubtree_81 ⟨Nat.zero_le _, Nat.zero_le _⟩ ?_
                refine lv_icmp_ge (tgt := 123) hx hb dX2_addInSubtree_84 (by decide) (fun c_84 => ?_) (fun c_84 => ?_)
                · skip
                  have c_84 := cn_le (a := n) (b := i) (by omega) (by omega) c_84
                  have en : i = n := by omega
                  rw [en] at hP
                  have hD : va_D (adr (wO h f f1 f2 ph ++ wF f fa fb fc cI cZ n (fo_cp G) va mk)) (wO h f f1 f2 ph ++ wF f fa fb fc cI cZ n (fo_cp G) (vSub va (fun w => fo_bel G w j) x n) mk) := vd_same hD rfl
                  refine lv_aload_n hx hb dX2_addInSubtree_123 rfl (lv_at hl 0 rfl) ?_
                  refine va_get (D := D) (ci := 2) (v := .ref f) (C := RX2) (T := TX2) (N := 4) hx hb hts hin2 hown hK hP 0 rfl rfl 0 (by decide) hf10 (fun _ h9 => h9) rfl dX2_addInSubtree_124 ?_
                  refine lv_iload_n hx hb dX2_addInSubtree_127 rfl (lv_at hl 1 rfl) ?_
                  refine rd_call ⟨hx, hb, hml, hown, hts⟩ (c_X0_countBelow l D cI cZ f fa fb fc n G (vSub va (fun w => fo_bel G w j) x n) mk F j hj) (cwV 1 hts gX2_addInSubtree_X0_countBelow rfl rfl rfl (by decide +kernel) ⟨Nat.le_of_ble_eq_true rfl, Nat.le_of_ble_eq_true rfl⟩) (hP.sub (ws' := wF f fa fb fc cI cZ n (fo_cp G) (vSub va (fun w => fo_bel G w j) x n) mk) [1, 2, 3, 4] rfl) hK rfl rfl rfl hl rfl (Nat.le_of_ble_eq_true rfl) dX2_addInSubtree_128 ⟨Nat.zero_le _, Nat.zero_le _⟩ ?_
                  have hP : va_P D vwCl (wO h f f1 f2 ph ++ wF f fa fb fc cI cZ n (fo_cp G) (ga n (nI j) (fun j => if oSub n G va x j = true then vSub va (fun w => fo_bel G w j) x n else va) va) mk) H := by rw [ga_t hj hn, if_pos (by unfold oSub; rw [c_18, hall]; rfl)]; exact hP
                  exact wr_i hx hb hr hlocks hP hS (by rw [ga_t hj hn]; unfold rSub; rw [c_18, hall]; rfl) dX2_addInSubtree_131
                · skip
                  have c_84 := cn_nle (a := n) (b := i) (by omega) (by omega) c_84
                  refine lv_aload_n hx hb dX2_addInSubtree_87 rfl (lv_at hl 0 rfl) ?_
                  refine va_get (D := D) (ci := 2) (v := .ref f) (C := RX2) (T := TX2) (N := 4) hx hb hts hin2 hown hK hP 0 rfl rfl 0 (by decide) hf10 (fun _ h9 => h9) rfl dX2_addInSubtree_88 ?_
                  refine lv_iload_n hx hb dX2_addInSubtree_91 rfl (lv_at hl 3 rfl) ?_
                  refine lv_iload_n hx hb dX2_addInSubtree_92 rfl (lv_at hl 1 rfl) ?_
                  refine rd_call ⟨hx, hb, hml, hown, hts⟩ (c_X0_isBelow l D cI cZ f fa fb fc n G (vSub va (fun w => fo_bel G w j) x i) mk F i c_84 j hj) (cwV 2 hts gX2_addInSubtree_X0_isBelow rfl rfl rfl (by decide +kernel) ⟨Nat.le_of_ble_eq_true rfl, Nat.le_of_ble_eq_true rfl⟩) (hP.sub (ws' := wF f fa fb fc cI cZ n (fo_cp G) (vSub va (fun w => fo_bel G w j) x i) mk) [1, 2, 3, 4] rfl) hK rfl rfl rfl hl rfl (Nat.le_of_ble_eq_true rfl) dX2_addInSubtree_93 ⟨Nat.zero_le _, Nat.zero_le _⟩ ?_
                  refine lv_if_eq (tgt := 117) hx hb dX2_addInSubtree_96 (by decide) (fun c_96 => ?_) (fun c_96 => ?_)
                  · skip
                    have c_96 := bI_0 c_96
                    rw [← vSub_n (va := va) (f := (fun w => fo_bel G w j)) (d := x) c_96] at hP
                    have hD : va_D (adr (wO h f f1 f2 ph ++ wF f fa fb fc cI cZ n (fo_cp G) va mk)) (wO h f f1 f2 ph ++ wF f fa fb fc cI cZ n (fo_cp G) (vSub va (fun w => fo_bel G w j) x (i + 1)) mk) := vd_same hD rfl
                    refine lv_iinc (v := nI (i + 1)) (lv' := [(3, .int (nI (i + 1))), (0, .ref h), (1, .int (nI j)), (2, .int x)]) hx hb dX2_addInSubtree_117 hl (k := 3) rfl (nI_1 i) (by decide) rfl (fun ls hl => ?_)
                    refine lv_goto (tgt := 76) hx hb dX2_addInSubtree_120 (by decide) ?_
                    exact ih76 (i + 1) (by omega) (by omega) _ _ hP hD hS ls (lv_sub hl [1, 2, 3, 0] rfl)
                  · skip
                    have c_96 := bI_1 c_96
                    refine lv_aload_n hx hb dX2_addInSubtree_99 rfl (lv_at hl 0 rfl) ?_
                    refine va_get (D := D) (ci := 2) (v := .ref f) (C := RX2) (T := TX2) (N := 4) hx hb hts hin2 hown hK hP 0 rfl rfl 0 (by decide) hf10 (fun _ h9 => h9) rfl dX2_addInSubtree_100 ?_
                    refine lv_iload_n hx hb dX2_addInSubtree_103 rfl (lv_at hl 3 rfl) ?_
                    refine lv_aload_n hx hb dX2_addInSubtree_104 rfl (lv_at hl 0 rfl) ?_
                    refine va_get (D := D) (ci := 2) (v := .ref f) (C := RX2) (T := TX2) (N := 4) hx hb hts hin2 hown hK hP 0 rfl rfl 0 (by decide) hf10 (fun _ h9 => h9) rfl dX2_addInSubtree_105 ?_
                    refine lv_iload_n hx hb dX2_addInSubtree_108 rfl (lv_at hl 3 rfl) ?_
                    refine rd_call ⟨hx, hb, hml, hown, hts⟩ (c_X0_valueOf l D cI cZ f fa fb fc n (fo_cp G) (vSub va (fun w => fo_bel G w j) x i) mk i c_84 hn) (cwV 1 hts gX2_addInSubtree_X0_valueOf rfl rfl rfl (by decide +kernel) ⟨Nat.le_of_ble_eq_true rfl, Nat.le_of_ble_eq_true rfl⟩) (hP.sub (ws' := wF f fa fb fc cI cZ n (fo_cp G) (vSub va (fun w => fo_bel G w j) x i) mk) [1, 2, 3, 4] rfl) hK rfl rfl rfl hl rfl (Nat.le_of_ble_eq_true rfl) dX2_addInSubtree_109 ⟨Nat.zero_le _, Nat.zero_le _⟩ ?_
                    refine lv_iload_n hx hb dX2_addInSubtree_112 rfl (lv_at hl 2 rfl) ?_
                    refine lv_iadd hx hb dX2_addInSubtree_113 ?_
                    refine wr_call (V1 := wO h f f1 f2 ph ++ wF f fa fb fc cI cZ n (fo_cp G) (upd (vSub va (fun w => fo_bel G w j) x i) i (vSub va (fun w => fo_bel G w j) x i i + x)) mk) ⟨hx, hb, hml, hown, hts⟩ (c_X0_putValue l D cI cZ f fa fb fc n (fo_cp G) (vSub va (fun w => fo_bel G w j) x i) mk i c_84 hn (vSub va (fun w => fo_bel G w j) x i i + x)) (cwV 2 hts gX2_addInSubtree_X0_putValue rfl rfl rfl (by decide +kernel) ⟨Nat.le_of_ble_eq_true rfl, Nat.le_of_ble_eq_true rfl⟩) hP hK hD hS [1, 2, 3, 4] [0] [0, 1, 2, 3, 4] rfl rfl (by decide) rfl rfl rfl rfl rfl hl rfl (Nat.le_of_ble_eq_true rfl) dX2_addInSubtree_114 ⟨Nat.zero_le _, Nat.zero_le _⟩ (fun H locs hP hD hS => ?_)
                    rw [← vSub_y (f := (fun w => fo_bel G w j)) (d := x) c_96] at hP
                    have hD : va_D (adr (wO h f f1 f2 ph ++ wF f fa fb fc cI cZ n (fo_cp G) va mk)) (wO h f f1 f2 ph ++ wF f fa fb fc cI cZ n (fo_cp G) (vSub va (fun w => fo_bel G w j) x (i + 1)) mk) := vd_same hD rfl
                    refine lv_iinc (v := nI (i + 1)) (lv' := [(3, .int (nI (i + 1))), (0, .ref h), (1, .int (nI j)), (2, .int x)]) hx hb dX2_addInSubtree_117 hl (k := 3) rfl (nI_1 i) (by decide) rfl (fun ls hl => ?_)
                    refine lv_goto (tgt := 76) hx hb dX2_addInSubtree_120 (by decide) ?_
                    exact ih76 (i + 1) (by omega) (by omega) _ _ hP hD hS ls (lv_sub hl [1, 2, 3, 0] rfl)
            exact L76 (n - 0 + 1) 0 (Nat.zero_le _) (Nat.lt_succ_self _) _ _ hP hD hS ls (lv_sub hl [1, 2, 3, 0] rfl)
          · skip
            have c_34 := cn_nle (a := n) (b := i) (by omega) (by omega) c_34
            refine lv_aload_n hx hb dX2_addInSubtree_37 rfl (lv_at hl 0 rfl) ?_
            refine va_get (D := D) (ci := 2) (v := .ref f) (C := RX2) (T := TX2) (N := 4) hx hb hts hin2 hown hK hP 0 rfl rfl 0 (by decide) hf10 (fun _ h9 => h9) rfl dX2_addInSubtree_38 ?_
            refine lv_iload_n hx hb dX2_addInSubtree_41 rfl (lv_at hl 3 rfl) ?_
            refine lv_iload_n hx hb dX2_addInSubtree_42 rfl (lv_at hl 1 rfl) ?_
            refine rd_call ⟨hx, hb, hml, hown, hts⟩ (c_X0_isBelow l D cI cZ f fa fb fc n G va mk F i c_34 j hj) (cwV 2 hts gX2_addInSubtree_X0_isBelow rfl rfl rfl (by decide +kernel) ⟨Nat.le_of_ble_eq_true rfl, Nat.le_of_ble_eq_true rfl⟩) (hP.sub (ws' := wF f fa fb fc cI cZ n (fo_cp G) va mk) [1, 2, 3, 4] rfl) hK rfl rfl rfl hl rfl (Nat.le_of_ble_eq_true rfl) dX2_addInSubtree_43 ⟨Nat.zero_le _, Nat.zero_le _⟩ ?_
            refine lv_if_eq (tgt := 68) hx hb dX2_addInSubtree_46 (by decide) (fun c_46 => ?_) (fun c_46 => ?_)
            · skip
              have c_46 := bI_0 c_46
              refine lv_iinc (v := nI (i + 1)) (lv' := [(3, .int (nI (i + 1))), (0, .ref h), (1, .int (nI j)), (2, .int x)]) hx hb dX2_addInSubtree_68 hl (k := 3) rfl (nI_1 i) (by decide) rfl (fun ls hl => ?_)
              refine lv_goto (tgt := 26) hx hb dX2_addInSubtree_71 (by decide) ?_
              exact ih26 (i + 1) (by omega) (fAll_s ha (by simp [c_46])) (by omega) _ _ hP hD hS ls (lv_sub hl [1, 2, 3, 0] rfl)
            · skip
              have c_46 := bI_1 c_46
              refine lv_aload_n hx hb dX2_addInSubtree_49 rfl (lv_at hl 0 rfl) ?_
              refine va_get (D := D) (ci := 2) (v := .ref f) (C := RX2) (T := TX2) (N := 4) hx hb hts hin2 hown hK hP 0 rfl rfl 0 (by decide) hf10 (fun _ h9 => h9) rfl dX2_addInSubtree_50 ?_
              refine lv_iload_n hx hb dX2_addInSubtree_53 rfl (lv_at hl 3 rfl) ?_
              refine rd_call ⟨hx, hb, hml, hown, hts⟩ (c_X0_valueOf l D cI cZ f fa fb fc n (fo_cp G) va mk i c_34 hn) (cwV 1 hts gX2_addInSubtree_X0_valueOf rfl rfl rfl (by decide +kernel) ⟨Nat.le_of_ble_eq_true rfl, Nat.le_of_ble_eq_true rfl⟩) (hP.sub (ws' := wF f fa fb fc cI cZ n (fo_cp G) va mk) [1, 2, 3, 4] rfl) hK rfl rfl rfl hl rfl (Nat.le_of_ble_eq_true rfl) dX2_addInSubtree_54 ⟨Nat.zero_le _, Nat.zero_le _⟩ ?_
              refine lv_iload_n hx hb dX2_addInSubtree_57 rfl (lv_at hl 2 rfl) ?_
              refine lv_iadd hx hb dX2_addInSubtree_58 ?_
              refine rd_callS ⟨hx, hb, hml, hown, hts⟩ (c_X2_isValue l D cI cZ (va i + x)) (va_cwS 1 hts gX2_addInSubtree_X2_isValue rfl rfl rfl (by decide +kernel) ⟨Nat.le_of_ble_eq_true rfl, Nat.le_of_ble_eq_true rfl⟩) hK rfl hl rfl (Nat.le_of_ble_eq_true rfl) dX2_addInSubtree_59 ⟨Nat.zero_le _, Nat.zero_le _⟩ ?_
              refine lv_if_ne (tgt := 68) hx hb dX2_addInSubtree_62 (by decide) (fun c_62 => ?_) (fun c_62 => ?_)
              · skip
                have c_62 := bI_1 c_62
                refine lv_iinc (v := nI (i + 1)) (lv' := [(3, .int (nI (i + 1))), (0, .ref h), (1, .int (nI j)), (2, .int x)]) hx hb dX2_addInSubtree_68 hl (k := 3) rfl (nI_1 i) (by decide) rfl (fun ls hl => ?_)
                refine lv_goto (tgt := 26) hx hb dX2_addInSubtree_71 (by decide) ?_
                exact ih26 (i + 1) (by omega) (fAll_s ha (by simp [c_62])) (by omega) _ _ hP hD hS ls (lv_sub hl [1, 2, 3, 0] rfl)
              · skip
                have c_62 := bI_0 c_62
                refine lv_ldc (own := RX2) hx hb hown hk100 dX2_addInSubtree_65 ?_
                have hfa := fAll_f (f := (fun w => !fo_bel G w j || isV (va w + x))) (i := i) (by simp [c_46, c_62]) n c_34
                have hP : va_P D vwCl (wO h f f1 f2 ph ++ wF f fa fb fc cI cZ n (fo_cp G) (ga n (nI j) (fun j => if oSub n G va x j = true then vSub va (fun w => fo_bel G w j) x n else va) va) mk) H := by rw [ga_t hj hn]; unfold oSub; rw [hfa, Bool.and_false, if_neg (by decide)]; exact hP
                exact wr_i hx hb hr hlocks hP hS (by rw [ga_t hj hn]; unfold rSub; rw [c_18, hfa]; rfl) dX2_addInSubtree_67
      exact L26 (n - 0 + 1) 0 (Nat.zero_le _) rfl (Nat.lt_succ_self _) _ _ hP hD hS ls (lv_sub hl [1, 2, 3, 0] rfl)
    · skip
      have c_18 := bI_0 c_18
      refine lv_ldc (own := RX2) hx hb hown hk33 dX2_addInSubtree_21 ?_
      have hP : va_P D vwCl (wO h f f1 f2 ph ++ wF f fa fb fc cI cZ n (fo_cp G) (ga n (nI j) (fun j => if oSub n G va x j = true then vSub va (fun w => fo_bel G w j) x n else va) va) mk) s.heap := by rw [ga_t hj hn]; unfold oSub; rw [c_18, Bool.false_and, if_neg (by decide)]; exact hP
      exact wr_i hx hb hr hlocks hP hS (by rw [ga_t hj hn]; unfold rSub; rw [c_18]; rfl) dX2_addInSubtree_23
  · skip
    have c_8 := bI_0 c_8
    refine lv_ldc (own := RX2) hx hb hown hk42 dX2_addInSubtree_11 ?_
    have hP : va_P D vwCl (wO h f f1 f2 ph ++ wF f fa fb fc cI cZ n (fo_cp G) (ga n v (fun j => if oSub n G va x j = true then vSub va (fun w => fo_bel G w j) x n else va) va) mk) s.heap := by rw [ga_f c_8]; exact hP
    exact wr_i hx hb hr hlocks hP hS (by rw [ga_f c_8]) dX2_addInSubtree_13
