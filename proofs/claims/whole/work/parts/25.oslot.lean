set_option maxHeartbeats 4000000 in
set_option maxRecDepth 100000 in
theorem c_X2_slotAt (l : Launch) (D : va_G) (cI cZ : ClassId) (h : Nat) (f : Nat) (f1 : Nat) (f2 : Nat) (ph : Nat) (x : Int32) : RdA l yX2_slotAt wsX2_slotAt 0 0 D cI cZ (wO h f f1 f2 ph) [.ref h, .int x] (if x = 0 then f1 else f2) := by
  refine RdA.of (cc := cX2_slotAt) (maxL := 2) (ret := (some (.object "DynamicForest$Forest"))) (by decide) rfl (Nat.le_of_ble_eq_true rfl) ?_
  intro p e s m below meth c hx hb hr hml hown hts hlocks hP hK ls hl
  have hown : s.vm.findClass RX2 = some m.cls := hown
  have hl : lv_has ls 2 [(0, .ref h), (1, .int x)] := hl
  have hf16 := hts (.fieldLink RX2 16 "DynamicForest" "firstSlot" "LDynamicForest$Forest;") (by decide +kernel)
  have hf19 := hts (.fieldLink RX2 19 "DynamicForest" "secondSlot" "LDynamicForest$Forest;") (by decide +kernel)
  have hin2 : ∀ w ∈ u_ws RX2 TX2 4, w ∈ wsX2_slotAt := by decide +kernel
  refine lv_iload_n hx hb dX2_slotAt_0 rfl (lv_at hl 1 rfl) ?_
  refine lv_if_ne (tgt := 11) hx hb dX2_slotAt_1 (by decide) (fun c_1 => ?_) (fun c_1 => ?_)
  · skip
    refine lv_aload_n hx hb dX2_slotAt_11 rfl (lv_at hl 0 rfl) ?_
    refine va_get (D := D) (ci := 2) (v := .ref f2) (C := RX2) (T := TX2) (N := 4) hx hb hts hin2 hown hK hP 0 rfl rfl 2 (by decide) hf19 (fun _ h9 => h9) rfl dX2_slotAt_12 ?_
    exact rd_a hx hb hr hlocks (by rw [if_neg c_1]) dX2_slotAt_15
  · skip
    refine lv_aload_n hx hb dX2_slotAt_4 rfl (lv_at hl 0 rfl) ?_
    refine va_get (D := D) (ci := 2) (v := .ref f1) (C := RX2) (T := TX2) (N := 4) hx hb hts hin2 hown hK hP 0 rfl rfl 1 (by decide) hf16 (fun _ h9 => h9) rfl dX2_slotAt_5 ?_
    refine lv_goto (tgt := 15) hx hb dX2_slotAt_8 (by decide) ?_
    exact rd_a hx hb hr hlocks (by rw [if_pos c_1]) dX2_slotAt_15
set_option maxHeartbeats 4000000 in
set_option maxRecDepth 100000 in
theorem c_X2_save_0 (l : Launch) (D : va_G) (cI cZ : ClassId) (h : Nat) (f1 : Nat) (f2 : Nat) (ph : Nat) (f : Nat) (fa : Nat) (fb : Nat) (fc : Nat) (n : Nat) (G : Nat → Nat) (va : Nat → Int32) (mk : Nat → Bool) (F : fo_ok n G) (fa1 : Nat) (fb1 : Nat) (fc1 : Nat) (n1 : Nat) (pa1 : Nat → Int32) (va1 : Nat → Int32) (mk1 : Nat → Bool) (fa2 : Nat) (fb2 : Nat) (fc2 : Nat) (n2 : Nat) (pa2 : Nat → Int32) (va2 : Nat → Int32) (mk2 : Nat → Bool) : WrM l yX2_save wsX2_save 1 22 D cI cZ (wO h f f1 f2 ph ++ wF f fa fb fc cI cZ n (fo_cp G) va mk ++ wF f1 fa1 fb1 fc1 cI cZ n1 pa1 va1 mk1 ++ wF f2 fa2 fb2 fc2 cI cZ n2 pa2 va2 mk2) (wO h f f1 f2 ph ++ wF f fa fb fc cI cZ n (fo_cp G) va mk ++ wF f1 fa1 fb1 fc1 cI cZ n (fo_cp G) va mk ++ wF f2 fa2 fb2 fc2 cI cZ n2 pa2 va2 mk2) [.ref h, .int 0] (some (.int (nI n))) := by
  refine WrM.of (cc := cX2_save) (maxL := 2) (ret := (some .int)) (by decide) rfl (Nat.le_of_ble_eq_true rfl) ?_
  intro p e s m below meth c hx hb hr hml hown hts hlocks hP hK hD hS ls hl
  have hown : s.vm.findClass RX2 = some m.cls := hown
  have hl : lv_has ls 2 [(0, .ref h), (1, .int 0)] := hl
  have hP : va_P D vwCl (wO h f f1 f2 ph ++ wF f fa fb fc cI cZ n (fo_cp G) va mk ++ wF f1 fa1 fb1 fc1 cI cZ n1 pa1 va1 mk1 ++ wF f2 fa2 fb2 fc2 cI cZ n2 pa2 va2 mk2) s.heap := hP
  have hk33 := hts (.constant RX2 33 (-100000002)) (by decide +kernel)
  have hf10 := hts (.fieldLink RX2 10 "DynamicForest" "forest" "LDynamicForest$Forest;") (by decide +kernel)
  have hin2 : ∀ w ∈ u_ws RX2 TX2 4, w ∈ wsX2_save := by decide +kernel
  have hn : n ≤ 64 := F.2.1
  refine lv_iload_n hx hb dX2_save_0 rfl (lv_at hl 1 rfl) ?_
  refine rd_callS ⟨hx, hb, hml, hown, hts⟩ (c_X2_isSlot l D cI cZ 0) (va_cwS 1 hts gX2_save_X2_isSlot rfl rfl rfl (by decide +kernel) ⟨Nat.le_of_ble_eq_true rfl, Nat.le_of_ble_eq_true rfl⟩) hK rfl hl rfl (Nat.le_of_ble_eq_true rfl) dX2_save_1 ⟨Nat.zero_le _, Nat.zero_le _⟩ ?_
  refine lv_if_ne (tgt := 10) hx hb dX2_save_4 (by decide) (fun c_4 => ?_) (fun c_4 => ?_)
  · skip
    have c_4 := bI_1 c_4
    refine lv_aload_n hx hb dX2_save_10 rfl (lv_at hl 0 rfl) ?_
    refine lv_iload_n hx hb dX2_save_11 rfl (lv_at hl 1 rfl) ?_
    refine rd_calla ⟨hx, hb, hml, hown, hts⟩ (c_X2_slotAt l D cI cZ h f f1 f2 ph 0) (cwV 1 hts gX2_save_X2_slotAt rfl rfl rfl (by decide +kernel) ⟨Nat.le_of_ble_eq_true rfl, Nat.le_of_ble_eq_true rfl⟩) (hP.sub (ws' := wO h f f1 f2 ph) [0] rfl) hK rfl rfl rfl hl rfl (Nat.le_of_ble_eq_true rfl) dX2_save_12 ⟨Nat.zero_le _, Nat.zero_le _⟩ ?_
    rw [if_pos rfl]
    refine lv_aload_n hx hb dX2_save_15 rfl (lv_at hl 0 rfl) ?_
    refine va_get (D := D) (ci := 2) (v := .ref f) (C := RX2) (T := TX2) (N := 4) hx hb hts hin2 hown hK hP 0 rfl rfl 0 (by decide) hf10 (fun _ h9 => h9) rfl dX2_save_16 ?_
    refine wr_call (V1 := wO h f f1 f2 ph ++ wF f fa fb fc cI cZ n (fo_cp G) va mk ++ wF f1 fa1 fb1 fc1 cI cZ n (fo_cp G) va mk ++ wF f2 fa2 fb2 fc2 cI cZ n2 pa2 va2 mk2) ⟨hx, hb, hml, hown, hts⟩ (c_X0_copyFrom l D cI cZ f1 fa1 fb1 fc1 n1 pa1 va1 mk1 f fa fb fc n (fo_cp G) va mk) (cwV 1 hts gX2_save_X0_copyFrom rfl rfl rfl (by decide +kernel) ⟨Nat.le_of_ble_eq_true rfl, Nat.le_of_ble_eq_true rfl⟩) hP hK hD hS [5, 6, 7, 8, 1, 2, 3, 4] [0, 9, 10, 11, 12] [0, 9, 10, 11, 12, 5, 6, 7, 8, 1, 2, 3, 4] rfl rfl (by decide) rfl rfl rfl rfl rfl hl rfl (Nat.le_of_ble_eq_true rfl) dX2_save_19 ⟨Nat.zero_le _, Nat.zero_le _⟩ (fun H locs hP hD hS => ?_)
    refine lv_aload_n hx hb dX2_save_22 rfl (lv_at hl 0 rfl) ?_
    refine va_get (D := D) (ci := 2) (v := .ref f) (C := RX2) (T := TX2) (N := 4) hx hb hts hin2 hown hK hP 0 rfl rfl 0 (by decide) hf10 (fun _ h9 => h9) rfl dX2_save_23 ?_
    refine rd_call ⟨hx, hb, hml, hown, hts⟩ (c_X0_size l D cI cZ f fa fb fc n (fo_cp G) va mk) (cwV 0 hts gX2_save_X0_size rfl rfl rfl (by decide +kernel) ⟨Nat.le_of_ble_eq_true rfl, Nat.le_of_ble_eq_true rfl⟩) (hP.sub (ws' := wF f fa fb fc cI cZ n (fo_cp G) va mk) [1, 2, 3, 4] rfl) hK rfl rfl rfl hl rfl (Nat.le_of_ble_eq_true rfl) dX2_save_26 ⟨Nat.zero_le _, Nat.zero_le _⟩ ?_
    exact wr_i hx hb hr hlocks hP hS rfl dX2_save_29
  · skip
    have c_4 := bI_0 c_4
    exact absurd c_4 (by decide)
set_option maxHeartbeats 4000000 in
set_option maxRecDepth 100000 in
theorem c_X2_restore_0u (l : Launch) (D : va_G) (cI cZ : ClassId) (h : Nat) (f1 : Nat) (f2 : Nat) (ph : Nat) (f : Nat) (fa : Nat) (fb : Nat) (fc : Nat) (n : Nat) (G : Nat → Nat) (va : Nat → Int32) (mk : Nat → Bool) (F : fo_ok n G) (fa1 : Nat) (fb1 : Nat) (fc1 : Nat) (n1 : Nat) (pa1 : Nat → Int32) (va1 : Nat → Int32) (mk1 : Nat → Bool) (fa2 : Nat) (fb2 : Nat) (fc2 : Nat) (n2 : Nat) (pa2 : Nat → Int32) (va2 : Nat → Int32) (mk2 : Nat → Bool) (hz : n1 = 0) : RdM l yX2_restore wsX2_restore 1 22 D cI cZ (wO h f f1 f2 ph ++ wF f fa fb fc cI cZ n (fo_cp G) va mk ++ wF f1 fa1 fb1 fc1 cI cZ n1 pa1 va1 mk1 ++ wF f2 fa2 fb2 fc2 cI cZ n2 pa2 va2 mk2) [.ref h, .int 0] (-100000006) := by
  refine RdM.of (cc := cX2_restore) (maxL := 3) (ret := (some .int)) (by decide) rfl (Nat.le_of_ble_eq_true rfl) ?_
  intro p e s m below meth c hx hb hr hml hown hts hlocks hP hK ls hl
  have hown : s.vm.findClass RX2 = some m.cls := hown
  have hl : lv_has ls 3 [(0, .ref h), (1, .int 0)] := hl
  have hk33 := hts (.constant RX2 33 (-100000002)) (by decide +kernel)
  have hk135 := hts (.constant RX2 135 (-100000006)) (by decide +kernel)
  have hf10 := hts (.fieldLink RX2 10 "DynamicForest" "forest" "LDynamicForest$Forest;") (by decide +kernel)
  have hin2 : ∀ w ∈ u_ws RX2 TX2 4, w ∈ wsX2_restore := by decide +kernel
  have hn : n ≤ 64 := F.2.1
  refine lv_iload_n hx hb dX2_restore_0 rfl (lv_at hl 1 rfl) ?_
  refine rd_callS ⟨hx, hb, hml, hown, hts⟩ (c_X2_isSlot l D cI cZ 0) (va_cwS 1 hts gX2_restore_X2_isSlot rfl rfl rfl (by decide +kernel) ⟨Nat.le_of_ble_eq_true rfl, Nat.le_of_ble_eq_true rfl⟩) hK rfl hl rfl (Nat.le_of_ble_eq_true rfl) dX2_restore_1 ⟨Nat.zero_le _, Nat.zero_le _⟩ ?_
  refine lv_if_ne (tgt := 10) hx hb dX2_restore_4 (by decide) (fun c_4 => ?_) (fun c_4 => ?_)
  · skip
    have c_4 := bI_1 c_4
    refine lv_aload_n hx hb dX2_restore_10 rfl (lv_at hl 0 rfl) ?_
    refine lv_iload_n hx hb dX2_restore_11 rfl (lv_at hl 1 rfl) ?_
    refine rd_calla ⟨hx, hb, hml, hown, hts⟩ (c_X2_slotAt l D cI cZ h f f1 f2 ph 0) (cwV 1 hts gX2_restore_X2_slotAt rfl rfl rfl (by decide +kernel) ⟨Nat.le_of_ble_eq_true rfl, Nat.le_of_ble_eq_true rfl⟩) (hP.sub (ws' := wO h f f1 f2 ph) [0] rfl) hK rfl rfl rfl hl rfl (Nat.le_of_ble_eq_true rfl) dX2_restore_12 ⟨Nat.zero_le _, Nat.zero_le _⟩ ?_
    rw [if_pos rfl]
    refine lv_astore_n (lv' := [(2, .ref f1), (0, .ref h), (1, .int 0)]) hx hb dX2_restore_15 rfl hl (by decide) rfl (fun ls hl => ?_)
    refine lv_aload_n hx hb dX2_restore_16 rfl (lv_at hl 0 rfl) ?_
    refine rd_call ⟨hx, hb, hml, hown, hts⟩ (c_X0_size l D cI cZ f1 fa1 fb1 fc1 n1 pa1 va1 mk1) (cwV 0 hts gX2_restore_X0_size rfl rfl rfl (by decide +kernel) ⟨Nat.le_of_ble_eq_true rfl, Nat.le_of_ble_eq_true rfl⟩) (hP.sub (ws' := wF f1 fa1 fb1 fc1 cI cZ n1 pa1 va1 mk1) [5, 6, 7, 8] rfl) hK rfl rfl rfl hl rfl (Nat.le_of_ble_eq_true rfl) dX2_restore_17 ⟨Nat.zero_le _, Nat.zero_le _⟩ ?_
    refine lv_if_ne (tgt := 26) hx hb dX2_restore_20 (by decide) (fun c_20 => ?_) (fun c_20 => ?_)
    · skip
      exact absurd (by rw [hz]; rfl) c_20
    · skip
      refine lv_ldc (own := RX2) hx hb hown hk135 dX2_restore_23 ?_
      exact rd_i hx hb hr hlocks rfl dX2_restore_25
  · skip
    have c_4 := bI_0 c_4
    exact absurd c_4 (by decide)
set_option maxHeartbeats 4000000 in
set_option maxRecDepth 100000 in
theorem c_X2_restore_0s (l : Launch) (D : va_G) (cI cZ : ClassId) (h : Nat) (f1 : Nat) (f2 : Nat) (ph : Nat) (f : Nat) (fa : Nat) (fb : Nat) (fc : Nat) (n : Nat) (G : Nat → Nat) (va : Nat → Int32) (mk : Nat → Bool) (F : fo_ok n G) (fa1 : Nat) (fb1 : Nat) (fc1 : Nat) (n1 : Nat) (pa1 : Nat → Int32) (va1 : Nat → Int32) (mk1 : Nat → Bool) (fa2 : Nat) (fb2 : Nat) (fc2 : Nat) (n2 : Nat) (pa2 : Nat → Int32) (va2 : Nat → Int32) (mk2 : Nat → Bool) (hz1 : 1 ≤ n1) (hz : n1 ≤ 64) : WrM l yX2_restore wsX2_restore 1 22 D cI cZ (wO h f f1 f2 ph ++ wF f fa fb fc cI cZ n (fo_cp G) va mk ++ wF f1 fa1 fb1 fc1 cI cZ n1 pa1 va1 mk1 ++ wF f2 fa2 fb2 fc2 cI cZ n2 pa2 va2 mk2) (wO h f f1 f2 ph ++ wF f fa fb fc cI cZ n1 pa1 va1 mk1 ++ wF f1 fa1 fb1 fc1 cI cZ n1 pa1 va1 mk1 ++ wF f2 fa2 fb2 fc2 cI cZ n2 pa2 va2 mk2) [.ref h, .int 0] (some (.int (nI n1))) := by
  refine WrM.of (cc := cX2_restore) (maxL := 3) (ret := (some .int)) (by decide) rfl (Nat.le_of_ble_eq_true rfl) ?_
  intro p e s m below meth c hx hb hr hml hown hts hlocks hP hK hD hS ls hl
  have hown : s.vm.findClass RX2 = some m.cls := hown
  have hl : lv_has ls 3 [(0, .ref h), (1, .int 0)] := hl
  have hP : va_P D vwCl (wO h f f1 f2 ph ++ wF f fa fb fc cI cZ n (fo_cp G) va mk ++ wF f1 fa1 fb1 fc1 cI cZ n1 pa1 va1 mk1 ++ wF f2 fa2 fb2 fc2 cI cZ n2 pa2 va2 mk2) s.heap := hP
  have hk33 := hts (.constant RX2 33 (-100000002)) (by decide +kernel)
  have hk135 := hts (.constant RX2 135 (-100000006)) (by decide +kernel)
  have hf10 := hts (.fieldLink RX2 10 "DynamicForest" "forest" "LDynamicForest$Forest;") (by decide +kernel)
  have hin2 : ∀ w ∈ u_ws RX2 TX2 4, w ∈ wsX2_restore := by decide +kernel
  have hn : n ≤ 64 := F.2.1
  refine lv_iload_n hx hb dX2_restore_0 rfl (lv_at hl 1 rfl) ?_
  refine rd_callS ⟨hx, hb, hml, hown, hts⟩ (c_X2_isSlot l D cI cZ 0) (va_cwS 1 hts gX2_restore_X2_isSlot rfl rfl rfl (by decide +kernel) ⟨Nat.le_of_ble_eq_true rfl, Nat.le_of_ble_eq_true rfl⟩) hK rfl hl rfl (Nat.le_of_ble_eq_true rfl) dX2_restore_1 ⟨Nat.zero_le _, Nat.zero_le _⟩ ?_
  refine lv_if_ne (tgt := 10) hx hb dX2_restore_4 (by decide) (fun c_4 => ?_) (fun c_4 => ?_)
  · skip
    have c_4 := bI_1 c_4
    refine lv_aload_n hx hb dX2_restore_10 rfl (lv_at hl 0 rfl) ?_
    refine lv_iload_n hx hb dX2_restore_11 rfl (lv_at hl 1 rfl) ?_
    refine rd_calla ⟨hx, hb, hml, hown, hts⟩ (c_X2_slotAt l D cI cZ h f f1 f2 ph 0) (cwV 1 hts gX2_restore_X2_slotAt rfl rfl rfl (by decide +kernel) ⟨Nat.le_of_ble_eq_true rfl, Nat.le_of_ble_eq_true rfl⟩) (hP.sub (ws' := wO h f f1 f2 ph) [0] rfl) hK rfl rfl rfl hl rfl (Nat.le_of_ble_eq_true rfl) dX2_restore_12 ⟨Nat.zero_le _, Nat.zero_le _⟩ ?_
    rw [if_pos rfl]
    refine lv_astore_n (lv' := [(2, .ref f1), (0, .ref h), (1, .int 0)]) hx hb dX2_restore_15 rfl hl (by decide) rfl (fun ls hl => ?_)
    refine lv_aload_n hx hb dX2_restore_16 rfl (lv_at hl 0 rfl) ?_
    refine rd_call ⟨hx, hb, hml, hown, hts⟩ (c_X0_size l D cI cZ f1 fa1 fb1 fc1 n1 pa1 va1 mk1) (cwV 0 hts gX2_restore_X0_size rfl rfl rfl (by decide +kernel) ⟨Nat.le_of_ble_eq_true rfl, Nat.le_of_ble_eq_true rfl⟩) (hP.sub (ws' := wF f1 fa1 fb1 fc1 cI cZ n1 pa1 va1 mk1) [5, 6, 7, 8] rfl) hK rfl rfl rfl hl rfl (Nat.le_of_ble_eq_true rfl) dX2_restore_17 ⟨Nat.zero_le _, Nat.zero_le _⟩ ?_
    refine lv_if_ne (tgt := 26) hx hb dX2_restore_20 (by decide) (fun c_20 => ?_) (fun c_20 => ?_)
    · skip
      refine lv_aload_n hx hb dX2_restore_26 rfl (lv_at hl 1 rfl) ?_
      refine va_get (D := D) (ci := 2) (v := .ref f) (C := RX2) (T := TX2) (N := 4) hx hb hts hin2 hown hK hP 0 rfl rfl 0 (by decide) hf10 (fun _ h9 => h9) rfl dX2_restore_27 ?_
      refine lv_aload_n hx hb dX2_restore_30 rfl (lv_at hl 0 rfl) ?_
      refine wr_call (V1 := wO h f f1 f2 ph ++ wF f fa fb fc cI cZ n1 pa1 va1 mk1 ++ wF f1 fa1 fb1 fc1 cI cZ n1 pa1 va1 mk1 ++ wF f2 fa2 fb2 fc2 cI cZ n2 pa2 va2 mk2) ⟨hx, hb, hml, hown, hts⟩ (c_X0_copyFrom l D cI cZ f fa fb fc n (fo_cp G) va mk f1 fa1 fb1 fc1 n1 pa1 va1 mk1) (cwV 1 hts gX2_restore_X0_copyFrom rfl rfl rfl (by decide +kernel) ⟨Nat.le_of_ble_eq_true rfl, Nat.le_of_ble_eq_true rfl⟩) hP hK hD hS [1, 2, 3, 4, 5, 6, 7, 8] [0, 9, 10, 11, 12] [0, 5, 6, 7, 8, 9, 10, 11, 12, 1, 2, 3, 4] rfl rfl (by decide) rfl rfl rfl rfl rfl hl rfl (Nat.le_of_ble_eq_true rfl) dX2_restore_31 ⟨Nat.zero_le _, Nat.zero_le _⟩ (fun H locs hP hD hS => ?_)
      refine lv_aload_n hx hb dX2_restore_34 rfl (lv_at hl 1 rfl) ?_
      refine va_get (D := D) (ci := 2) (v := .ref f) (C := RX2) (T := TX2) (N := 4) hx hb hts hin2 hown hK hP 0 rfl rfl 0 (by decide) hf10 (fun _ h9 => h9) rfl dX2_restore_35 ?_
      refine rd_call ⟨hx, hb, hml, hown, hts⟩ (c_X0_size l D cI cZ f fa fb fc n1 pa1 va1 mk1) (cwV 0 hts gX2_restore_X0_size rfl rfl rfl (by decide +kernel) ⟨Nat.le_of_ble_eq_true rfl, Nat.le_of_ble_eq_true rfl⟩) (hP.sub (ws' := wF f fa fb fc cI cZ n1 pa1 va1 mk1) [1, 2, 3, 4] rfl) hK rfl rfl rfl hl rfl (Nat.le_of_ble_eq_true rfl) dX2_restore_38 ⟨Nat.zero_le _, Nat.zero_le _⟩ ?_
      exact wr_i hx hb hr hlocks hP hS rfl dX2_restore_41
    · skip
      exact absurd (cn_eq (a := n1) (b := 0) (by omega) (by decide) c_20) (by omega)
  · skip
    have c_4 := bI_0 c_4
    exact absurd c_4 (by decide)
set_option maxHeartbeats 4000000 in
set_option maxRecDepth 100000 in
theorem c_X2_save_1 (l : Launch) (D : va_G) (cI cZ : ClassId) (h : Nat) (f1 : Nat) (f2 : Nat) (ph : Nat) (f : Nat) (fa : Nat) (fb : Nat) (fc : Nat) (n : Nat) (G : Nat → Nat) (va : Nat → Int32) (mk : Nat → Bool) (F : fo_ok n G) (fa1 : Nat) (fb1 : Nat) (fc1 : Nat) (n1 : Nat) (pa1 : Nat → Int32) (va1 : Nat → Int32) (mk1 : Nat → Bool) (fa2 : Nat) (fb2 : Nat) (fc2 : Nat) (n2 : Nat) (pa2 : Nat → Int32) (va2 : Nat → Int32) (mk2 : Nat → Bool) : WrM l yX2_save wsX2_save 1 22 D cI cZ (wO h f f1 f2 ph ++ wF f fa fb fc cI cZ n (fo_cp G) va mk ++ wF f1 fa1 fb1 fc1 cI cZ n1 pa1 va1 mk1 ++ wF f2 fa2 fb2 fc2 cI cZ n2 pa2 va2 mk2) (wO h f f1 f2 ph ++ wF f fa fb fc cI cZ n (fo_cp G) va mk ++ wF f1 fa1 fb1 fc1 cI cZ n1 pa1 va1 mk1 ++ wF f2 fa2 fb2 fc2 cI cZ n (fo_cp G) va mk) [.ref h, .int 1] (some (.int (nI n))) := by
  refine WrM.of (cc := cX2_save) (maxL := 2) (ret := (some .int)) (by decide) rfl (Nat.le_of_ble_eq_true rfl) ?_
  intro p e s m below meth c hx hb hr hml hown hts hlocks hP hK hD hS ls hl
  have hown : s.vm.findClass RX2 = some m.cls := hown
  have hl : lv_has ls 2 [(0, .ref h), (1, .int 1)] := hl
  have hP : va_P D vwCl (wO h f f1 f2 ph ++ wF f fa fb fc cI cZ n (fo_cp G) va mk ++ wF f1 fa1 fb1 fc1 cI cZ n1 pa1 va1 mk1 ++ wF f2 fa2 fb2 fc2 cI cZ n2 pa2 va2 mk2) s.heap := hP
  have hk33 := hts (.constant RX2 33 (-100000002)) (by decide +kernel)
  have hf10 := hts (.fieldLink RX2 10 "DynamicForest" "forest" "LDynamicForest$Forest;") (by decide +kernel)
  have hin2 : ∀ w ∈ u_ws RX2 TX2 4, w ∈ wsX2_save := by decide +kernel
  have hn : n ≤ 64 := F.2.1
  refine lv_iload_n hx hb dX2_save_0 rfl (lv_at hl 1 rfl) ?_
  refine rd_callS ⟨hx, hb, hml, hown, hts⟩ (c_X2_isSlot l D cI cZ 1) (va_cwS 1 hts gX2_save_X2_isSlot rfl rfl rfl (by decide +kernel) ⟨Nat.le_of_ble_eq_true rfl, Nat.le_of_ble_eq_true rfl⟩) hK rfl hl rfl (Nat.le_of_ble_eq_true rfl) dX2_save_1 ⟨Nat.zero_le _, Nat.zero_le _⟩ ?_
  refine lv_if_ne (tgt := 10) hx hb dX2_save_4 (by decide) (fun c_4 => ?_) (fun c_4 => ?_)
  · skip
    have c_4 := bI_1 c_4
    refine lv_aload_n hx hb dX2_save_10 rfl (lv_at hl 0 rfl) ?_
    refine lv_iload_n hx hb dX2_save_11 rfl (lv_at hl 1 rfl) ?_
    refine rd_calla ⟨hx, hb, hml, hown, hts⟩ (c_X2_slotAt l D cI cZ h f f1 f2 ph 1) (cwV 1 hts gX2_save_X2_slotAt rfl rfl rfl (by decide +kernel) ⟨Nat.le_of_ble_eq_true rfl, Nat.le_of_ble_eq_true rfl⟩) (hP.sub (ws' := wO h f f1 f2 ph) [0] rfl) hK rfl rfl rfl hl rfl (Nat.le_of_ble_eq_true rfl) dX2_save_12 ⟨Nat.zero_le _, Nat.zero_le _⟩ ?_
    rw [if_neg (by decide)]
    refine lv_aload_n hx hb dX2_save_15 rfl (lv_at hl 0 rfl) ?_
    refine va_get (D := D) (ci := 2) (v := .ref f) (C := RX2) (T := TX2) (N := 4) hx hb hts hin2 hown hK hP 0 rfl rfl 0 (by decide) hf10 (fun _ h9 => h9) rfl dX2_save_16 ?_
    refine wr_call (V1 := wO h f f1 f2 ph ++ wF f fa fb fc cI cZ n (fo_cp G) va mk ++ wF f1 fa1 fb1 fc1 cI cZ n1 pa1 va1 mk1 ++ wF f2 fa2 fb2 fc2 cI cZ n (fo_cp G) va mk) ⟨hx, hb, hml, hown, hts⟩ (c_X0_copyFrom l D cI cZ f2 fa2 fb2 fc2 n2 pa2 va2 mk2 f fa fb fc n (fo_cp G) va mk) (cwV 1 hts gX2_save_X0_copyFrom rfl rfl rfl (by decide +kernel) ⟨Nat.le_of_ble_eq_true rfl, Nat.le_of_ble_eq_true rfl⟩) hP hK hD hS [9, 10, 11, 12, 1, 2, 3, 4] [0, 5, 6, 7, 8] [0, 9, 10, 11, 12, 1, 2, 3, 4, 5, 6, 7, 8] rfl rfl (by decide) rfl rfl rfl rfl rfl hl rfl (Nat.le_of_ble_eq_true rfl) dX2_save_19 ⟨Nat.zero_le _, Nat.zero_le _⟩ (fun H locs hP hD hS => ?_)
    refine lv_aload_n hx hb dX2_save_22 rfl (lv_at hl 0 rfl) ?_
    refine va_get (D := D) (ci := 2) (v := .ref f) (C := RX2) (T := TX2) (N := 4) hx hb hts hin2 hown hK hP 0 rfl rfl 0 (by decide) hf10 (fun _ h9 => h9) rfl dX2_save_23 ?_
    refine rd_call ⟨hx, hb, hml, hown, hts⟩ (c_X0_size l D cI cZ f fa fb fc n (fo_cp G) va mk) (cwV 0 hts gX2_save_X0_size rfl rfl rfl (by decide +kernel) ⟨Nat.le_of_ble_eq_true rfl, Nat.le_of_ble_eq_true rfl⟩) (hP.sub (ws' := wF f fa fb fc cI cZ n (fo_cp G) va mk) [1, 2, 3, 4] rfl) hK rfl rfl rfl hl rfl (Nat.le_of_ble_eq_true rfl) dX2_save_26 ⟨Nat.zero_le _, Nat.zero_le _⟩ ?_
    exact wr_i hx hb hr hlocks hP hS rfl dX2_save_29
  · skip
    have c_4 := bI_0 c_4
    exact absurd c_4 (by decide)
set_option maxHeartbeats 4000000 in
set_option maxRecDepth 100000 in
theorem c_X2_restore_1u (l : Launch) (D : va_G) (cI cZ : ClassId) (h : Nat) (f1 : Nat) (f2 : Nat) (ph : Nat) (f : Nat) (fa : Nat) (fb : Nat) (fc : Nat) (n : Nat) (G : Nat → Nat) (va : Nat → Int32) (mk : Nat → Bool) (F : fo_ok n G) (fa1 : Nat) (fb1 : Nat) (fc1 : Nat) (n1 : Nat) (pa1 : Nat → Int32) (va1 : Nat → Int32) (mk1 : Nat → Bool) (fa2 : Nat) (fb2 : Nat) (fc2 : Nat) (n2 : Nat) (pa2 : Nat → Int32) (va2 : Nat → Int32) (mk2 : Nat → Bool) (hz : n2 = 0) : RdM l yX2_restore wsX2_restore 1 22 D cI cZ (wO h f f1 f2 ph ++ wF f fa fb fc cI cZ n (fo_cp G) va mk ++ wF f1 fa1 fb1 fc1 cI cZ n1 pa1 va1 mk1 ++ wF f2 fa2 fb2 fc2 cI cZ n2 pa2 va2 mk2) [.ref h, .int 1] (-100000006) := by
  refine RdM.of (cc := cX2_restore) (maxL := 3) (ret := (some .int)) (by decide) rfl (Nat.le_of_ble_eq_true rfl) ?_
  intro p e s m below meth c hx hb hr hml hown hts hlocks hP hK ls hl
  have hown : s.vm.findClass RX2 = some m.cls := hown
  have hl : lv_has ls 3 [(0, .ref h), (1, .int 1)] := hl
  have hk33 := hts (.constant RX2 33 (-100000002)) (by decide +kernel)
  have hk135 := hts (.constant RX2 135 (-100000006)) (by decide +kernel)
  have hf10 := hts (.fieldLink RX2 10 "DynamicForest" "forest" "LDynamicForest$Forest;") (by decide +kernel)
  have hin2 : ∀ w ∈ u_ws RX2 TX2 4, w ∈ wsX2_restore := by decide +kernel
  have hn : n ≤ 64 := F.2.1
  refine lv_iload_n hx hb dX2_restore_0 rfl (lv_at hl 1 rfl) ?_
  refine rd_callS ⟨hx, hb, hml, hown, hts⟩ (c_X2_isSlot l D cI cZ 1) (va_cwS 1 hts gX2_restore_X2_isSlot rfl rfl rfl (by decide +kernel) ⟨Nat.le_of_ble_eq_true rfl, Nat.le_of_ble_eq_true rfl⟩) hK rfl hl rfl (Nat.le_of_ble_eq_true rfl) dX2_restore_1 ⟨Nat.zero_le _, Nat.zero_le _⟩ ?_
  refine lv_if_ne (tgt := 10) hx hb dX2_restore_4 (by decide) (fun c_4 => ?_) (fun c_4 => ?_)
  · skip
    have c_4 := bI_1 c_4
    refine lv_aload_n hx hb dX2_restore_10 rfl (lv_at hl 0 rfl) ?_
    refine lv_iload_n hx hb dX2_restore_11 rfl (lv_at hl 1 rfl) ?_
    refine rd_calla ⟨hx, hb, hml, hown, hts⟩ (c_X2_slotAt l D cI cZ h f f1 f2 ph 1) (cwV 1 hts gX2_restore_X2_slotAt rfl rfl rfl (by decide +kernel) ⟨Nat.le_of_ble_eq_true rfl, Nat.le_of_ble_eq_true rfl⟩) (hP.sub (ws' := wO h f f1 f2 ph) [0] rfl) hK rfl rfl rfl hl rfl (Nat.le_of_ble_eq_true rfl) dX2_restore_12 ⟨Nat.zero_le _, Nat.zero_le _⟩ ?_
    rw [if_neg (by decide)]
    refine lv_astore_n (lv' := [(2, .ref f2), (0, .ref h), (1, .int 1)]) hx hb dX2_restore_15 rfl hl (by decide) rfl (fun ls hl => ?_)
    refine lv_aload_n hx hb dX2_restore_16 rfl (lv_at hl 0 rfl) ?_
    refine rd_call ⟨hx, hb, hml, hown, hts⟩ (c_X0_size l D cI cZ f2 fa2 fb2 fc2 n2 pa2 va2 mk2) (cwV 0 hts gX2_restore_X0_size rfl rfl rfl (by decide +kernel) ⟨Nat.le_of_ble_eq_true rfl, Nat.le_of_ble_eq_true rfl⟩) (hP.sub (ws' := wF f2 fa2 fb2 fc2 cI cZ n2 pa2 va2 mk2) [9, 10, 11, 12] rfl) hK rfl rfl rfl hl rfl (Nat.le_of_ble_eq_true rfl) dX2_restore_17 ⟨Nat.zero_le _, Nat.zero_le _⟩ ?_
    refine lv_if_ne (tgt := 26) hx hb dX2_restore_20 (by decide) (fun c_20 => ?_) (fun c_20 => ?_)
    · skip
      exact absurd (by rw [hz]; rfl) c_20
    · skip
      refine lv_ldc (own := RX2) hx hb hown hk135 dX2_restore_23 ?_
      exact rd_i hx hb hr hlocks rfl dX2_restore_25
  · skip
    have c_4 := bI_0 c_4
    exact absurd c_4 (by decide)
set_option maxHeartbeats 4000000 in
set_option maxRecDepth 100000 in
theorem c_X2_restore_1s (l : Launch) (D : va_G) (cI cZ : ClassId) (h : Nat) (f1 : Nat) (f2 : Nat) (ph : Nat) (f : Nat) (fa : Nat) (fb : Nat) (fc : Nat) (n : Nat) (G : Nat → Nat) (va : Nat → Int32) (mk : Nat → Bool) (F : fo_ok n G) (fa1 : Nat) (fb1 : Nat) (fc1 : Nat) (n1 : Nat) (pa1 : Nat → Int32) (va1 : Nat → Int32) (mk1 : Nat → Bool) (fa2 : Nat) (fb2 : Nat) (fc2 : Nat) (n2 : Nat) (pa2 : Nat → Int32) (va2 : Nat → Int32) (mk2 : Nat → Bool) (hz1 : 1 ≤ n2) (hz : n2 ≤ 64) : WrM l yX2_restore wsX2_restore 1 22 D cI cZ (wO h f f1 f2 ph ++ wF f fa fb fc cI cZ n (fo_cp G) va mk ++ wF f1 fa1 fb1 fc1 cI cZ n1 pa1 va1 mk1 ++ wF f2 fa2 fb2 fc2 cI cZ n2 pa2 va2 mk2) (wO h f f1 f2 ph ++ wF f fa fb fc cI cZ n2 pa2 va2 mk2 ++ wF f1 fa1 fb1 fc1 cI cZ n1 pa1 va1 mk1 ++ wF f2 fa2 fb2 fc2 cI cZ n2 pa2 va2 mk2) [.ref h, .int 1] (some (.int (nI n2))) := by
  refine WrM.of (cc := cX2_restore) (maxL := 3) (ret := (some .int)) (by decide) rfl (Nat.le_of_ble_eq_true rfl) ?_
  intro p e s m below meth c hx hb hr hml hown hts hlocks hP hK hD hS ls hl
  have hown : s.vm.findClass RX2 = some m.cls := hown
  have hl : lv_has ls 3 [(0, .ref h), (1, .int 1)] := hl
  have hP : va_P D vwCl (wO h f f1 f2 ph ++ wF f fa fb fc cI cZ n (fo_cp G) va mk ++ wF f1 fa1 fb1 fc1 cI cZ n1 pa1 va1 mk1 ++ wF f2 fa2 fb2 fc2 cI cZ n2 pa2 va2 mk2) s.heap := hP
  have hk33 := hts (.constant RX2 33 (-100000002)) (by decide +kernel)
  have hk135 := hts (.constant RX2 135 (-100000006)) (by decide +kernel)
  have hf10 := hts (.fieldLink RX2 10 "DynamicForest" "forest" "LDynamicForest$Forest;") (by decide +kernel)
  have hin2 : ∀ w ∈ u_ws RX2 TX2 4, w ∈ wsX2_restore := by decide +kernel
  have hn : n ≤ 64 := F.2.1
  refine lv_iload_n hx hb dX2_restore_0 rfl (lv_at hl 1 rfl) ?_
  refine rd_callS ⟨hx, hb, hml, hown, hts⟩ (c_X2_isSlot l D cI cZ 1) (va_cwS 1 hts gX2_restore_X2_isSlot rfl rfl rfl (by decide +kernel) ⟨Nat.le_of_ble_eq_true rfl, Nat.le_of_ble_eq_true rfl⟩) hK rfl hl rfl (Nat.le_of_ble_eq_true rfl) dX2_restore_1 ⟨Nat.zero_le _, Nat.zero_le _⟩ ?_
  refine lv_if_ne (tgt := 10) hx hb dX2_restore_4 (by decide) (fun c_4 => ?_) (fun c_4 => ?_)
  · skip
    have c_4 := bI_1 c_4
    refine lv_aload_n hx hb dX2_restore_10 rfl (lv_at hl 0 rfl) ?_
    refine lv_iload_n hx hb dX2_restore_11 rfl (lv_at hl 1 rfl) ?_
    refine rd_calla ⟨hx, hb, hml, hown, hts⟩ (c_X2_slotAt l D cI cZ h f f1 f2 ph 1) (cwV 1 hts gX2_restore_X2_slotAt rfl rfl rfl (by decide +kernel) ⟨Nat.le_of_ble_eq_true rfl, Nat.le_of_ble_eq_true rfl⟩) (hP.sub (ws' := wO h f f1 f2 ph) [0] rfl) hK rfl rfl rfl hl rfl (Nat.le_of_ble_eq_true rfl) dX2_restore_12 ⟨Nat.zero_le _, Nat.zero_le _⟩ ?_
    rw [if_neg (by decide)]
    refine lv_astore_n (lv' := [(2, .ref f2), (0, .ref h), (1, .int 1)]) hx hb dX2_restore_15 rfl hl (by decide) rfl (fun ls hl => ?_)
    refine lv_aload_n hx hb dX2_restore_16 rfl (lv_at hl 0 rfl) ?_
    refine rd_call ⟨hx, hb, hml, hown, hts⟩ (c_X0_size l D cI cZ f2 fa2 fb2 fc2 n2 pa2 va2 mk2) (cwV 0 hts gX2_restore_X0_size rfl rfl rfl (by decide +kernel) ⟨Nat.le_of_ble_eq_true rfl, Nat.le_of_ble_eq_true rfl⟩) (hP.sub (ws' := wF f2 fa2 fb2 fc2 cI cZ n2 pa2 va2 mk2) [9, 10, 11, 12] rfl) hK rfl rfl rfl hl rfl (Nat.le_of_ble_eq_true rfl) dX2_restore_17 ⟨Nat.zero_le _, Nat.zero_le _⟩ ?_
    refine lv_if_ne (tgt := 26) hx hb dX2_restore_20 (by decide) (fun c_20 => ?_) (fun c_20 => ?_)
    · skip
      refine lv_aload_n hx hb dX2_restore_26 rfl (lv_at hl 1 rfl) ?_
      refine va_get (D := D) (ci := 2) (v := .ref f) (C := RX2) (T := TX2) (N := 4) hx hb hts hin2 hown hK hP 0 rfl rfl 0 (by decide) hf10 (fun _ h9 => h9) rfl dX2_restore_27 ?_
      refine lv_aload_n hx hb dX2_restore_30 rfl (lv_at hl 0 rfl) ?_
      refine wr_call (V1 := wO h f f1 f2 ph ++ wF f fa fb fc cI cZ n2 pa2 va2 mk2 ++ wF f1 fa1 fb1 fc1 cI cZ n1 pa1 va1 mk1 ++ wF f2 fa2 fb2 fc2 cI cZ n2 pa2 va2 mk2) ⟨hx, hb, hml, hown, hts⟩ (c_X0_copyFrom l D cI cZ f fa fb fc n (fo_cp G) va mk f2 fa2 fb2 fc2 n2 pa2 va2 mk2) (cwV 1 hts gX2_restore_X0_copyFrom rfl rfl rfl (by decide +kernel) ⟨Nat.le_of_ble_eq_true rfl, Nat.le_of_ble_eq_true rfl⟩) hP hK hD hS [1, 2, 3, 4, 9, 10, 11, 12] [0, 5, 6, 7, 8] [0, 5, 6, 7, 8, 1, 2, 3, 4, 9, 10, 11, 12] rfl rfl (by decide) rfl rfl rfl rfl rfl hl rfl (Nat.le_of_ble_eq_true rfl) dX2_restore_31 ⟨Nat.zero_le _, Nat.zero_le _⟩ (fun H locs hP hD hS => ?_)
      refine lv_aload_n hx hb dX2_restore_34 rfl (lv_at hl 1 rfl) ?_
      refine va_get (D := D) (ci := 2) (v := .ref f) (C := RX2) (T := TX2) (N := 4) hx hb hts hin2 hown hK hP 0 rfl rfl 0 (by decide) hf10 (fun _ h9 => h9) rfl dX2_restore_35 ?_
      refine rd_call ⟨hx, hb, hml, hown, hts⟩ (c_X0_size l D cI cZ f fa fb fc n2 pa2 va2 mk2) (cwV 0 hts gX2_restore_X0_size rfl rfl rfl (by decide +kernel) ⟨Nat.le_of_ble_eq_true rfl, Nat.le_of_ble_eq_true rfl⟩) (hP.sub (ws' := wF f fa fb fc cI cZ n2 pa2 va2 mk2) [1, 2, 3, 4] rfl) hK rfl rfl rfl hl rfl (Nat.le_of_ble_eq_true rfl) dX2_restore_38 ⟨Nat.zero_le _, Nat.zero_le _⟩ ?_
      exact wr_i hx hb hr hlocks hP hS rfl dX2_restore_41
    · skip
      exact absurd (cn_eq (a := n2) (b := 0) (by omega) (by decide) c_20) (by omega)
  · skip
    have c_4 := bI_0 c_4
    exact absurd c_4 (by decide)
set_option maxHeartbeats 4000000 in
set_option maxRecDepth 100000 in
theorem c_X2_save_b (l : Launch) (D : va_G) (cI cZ : ClassId) (h : Nat) (f1 : Nat) (f2 : Nat) (ph : Nat) (f : Nat) (fa : Nat) (fb : Nat) (fc : Nat) (n : Nat) (G : Nat → Nat) (va : Nat → Int32) (mk : Nat → Bool) (F : fo_ok n G) (fa1 : Nat) (fb1 : Nat) (fc1 : Nat) (n1 : Nat) (pa1 : Nat → Int32) (va1 : Nat → Int32) (mk1 : Nat → Bool) (fa2 : Nat) (fb2 : Nat) (fc2 : Nat) (n2 : Nat) (pa2 : Nat → Int32) (va2 : Nat → Int32) (mk2 : Nat → Bool) (x : Int32) (hx0 : isS x = false) : RdM l yX2_save wsX2_save 1 22 D cI cZ (wO h f f1 f2 ph ++ wF f fa fb fc cI cZ n (fo_cp G) va mk ++ wF f1 fa1 fb1 fc1 cI cZ n1 pa1 va1 mk1 ++ wF f2 fa2 fb2 fc2 cI cZ n2 pa2 va2 mk2) [.ref h, .int x] (-100000002) := by
  refine RdM.of (cc := cX2_save) (maxL := 2) (ret := (some .int)) (by decide) rfl (Nat.le_of_ble_eq_true rfl) ?_
  intro p e s m below meth c hx hb hr hml hown hts hlocks hP hK ls hl
  have hown : s.vm.findClass RX2 = some m.cls := hown
  have hl : lv_has ls 2 [(0, .ref h), (1, .int x)] := hl
  have hk33 := hts (.constant RX2 33 (-100000002)) (by decide +kernel)
  have hf10 := hts (.fieldLink RX2 10 "DynamicForest" "forest" "LDynamicForest$Forest;") (by decide +kernel)
  have hin2 : ∀ w ∈ u_ws RX2 TX2 4, w ∈ wsX2_save := by decide +kernel
  have hn : n ≤ 64 := F.2.1
  refine lv_iload_n hx hb dX2_save_0 rfl (lv_at hl 1 rfl) ?_
  refine rd_callS ⟨hx, hb, hml, hown, hts⟩ (c_X2_isSlot l D cI cZ x) (va_cwS 1 hts gX2_save_X2_isSlot rfl rfl rfl (by decide +kernel) ⟨Nat.le_of_ble_eq_true rfl, Nat.le_of_ble_eq_true rfl⟩) hK rfl hl rfl (Nat.le_of_ble_eq_true rfl) dX2_save_1 ⟨Nat.zero_le _, Nat.zero_le _⟩ ?_
  refine lv_if_ne (tgt := 10) hx hb dX2_save_4 (by decide) (fun c_4 => ?_) (fun c_4 => ?_)
  · skip
    have c_4 := bI_1 c_4
    exact absurd c_4 (by rw [hx0]; decide)
  · skip
    have c_4 := bI_0 c_4
    refine lv_ldc (own := RX2) hx hb hown hk33 dX2_save_7 ?_
    exact rd_i hx hb hr hlocks rfl dX2_save_9
set_option maxHeartbeats 4000000 in
set_option maxRecDepth 100000 in
theorem c_X2_restore_b (l : Launch) (D : va_G) (cI cZ : ClassId) (h : Nat) (f1 : Nat) (f2 : Nat) (ph : Nat) (f : Nat) (fa : Nat) (fb : Nat) (fc : Nat) (n : Nat) (G : Nat → Nat) (va : Nat → Int32) (mk : Nat → Bool) (F : fo_ok n G) (fa1 : Nat) (fb1 : Nat) (fc1 : Nat) (n1 : Nat) (pa1 : Nat → Int32) (va1 : Nat → Int32) (mk1 : Nat → Bool) (fa2 : Nat) (fb2 : Nat) (fc2 : Nat) (n2 : Nat) (pa2 : Nat → Int32) (va2 : Nat → Int32) (mk2 : Nat → Bool) (x : Int32) (hx0 : isS x = false) : RdM l yX2_restore wsX2_restore 1 22 D cI cZ (wO h f f1 f2 ph ++ wF f fa fb fc cI cZ n (fo_cp G) va mk ++ wF f1 fa1 fb1 fc1 cI cZ n1 pa1 va1 mk1 ++ wF f2 fa2 fb2 fc2 cI cZ n2 pa2 va2 mk2) [.ref h, .int x] (-100000002) := by
  refine RdM.of (cc := cX2_restore) (maxL := 3) (ret := (some .int)) (by decide) rfl (Nat.le_of_ble_eq_true rfl) ?_
  intro p e s m below meth c hx hb hr hml hown hts hlocks hP hK ls hl
  have hown : s.vm.findClass RX2 = some m.cls := hown
  have hl : lv_has ls 3 [(0, .ref h), (1, .int x)] := hl
  have hk33 := hts (.constant RX2 33 (-100000002)) (by decide +kernel)
  have hk135 := hts (.constant RX2 135 (-100000006)) (by decide +kernel)
  have hf10 := hts (.fieldLink RX2 10 "DynamicForest" "forest" "LDynamicForest$Forest;") (by decide +kernel)
  have hin2 : ∀ w ∈ u_ws RX2 TX2 4, w ∈ wsX2_restore := by decide +kernel
  have hn : n ≤ 64 := F.2.1
  refine lv_iload_n hx hb dX2_restore_0 rfl (lv_at hl 1 rfl) ?_
  refine rd_callS ⟨hx, hb, hml, hown, hts⟩ (c_X2_isSlot l D cI cZ x) (va_cwS 1 hts gX2_restore_X2_isSlot rfl rfl rfl (by decide +kernel) ⟨Nat.le_of_ble_eq_true rfl, Nat.le_of_ble_eq_true rfl⟩) hK rfl hl rfl (Nat.le_of_ble_eq_true rfl) dX2_restore_1 ⟨Nat.zero_le _, Nat.zero_le _⟩ ?_
  refine lv_if_ne (tgt := 10) hx hb dX2_restore_4 (by decide) (fun c_4 => ?_) (fun c_4 => ?_)
  · skip
    have c_4 := bI_1 c_4
    exact absurd c_4 (by rw [hx0]; decide)
  · skip
    have c_4 := bI_0 c_4
    refine lv_ldc (own := RX2) hx hb hown hk33 dX2_restore_7 ?_
    exact rd_i hx hb hr hlocks rfl dX2_restore_9
