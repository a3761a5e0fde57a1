set_option maxHeartbeats 4000000 in
set_option maxRecDepth 100000 in
theorem c_X0_size (l : Launch) (D : va_G) (cI cZ : ClassId) (f : Nat) (fa : Nat) (fb : Nat) (fc : Nat) (n : Nat) (pa : Nat → Int32) (va : Nat → Int32) (mk : Nat → Bool) : RdM l yX0_size wsX0_size 0 0 D cI cZ (wF f fa fb fc cI cZ n pa va mk) [.ref f] (nI n) := by
  refine RdM.of (cc := cX0_size) (maxL := 1) (ret := (some .int)) (by decide) rfl (Nat.le_of_ble_eq_true rfl) ?_
  intro p e s m below meth c hx hb hr hml hown hts hlocks hP hK ls hl
  have hown : s.vm.findClass RX0 = some m.cls := hown
  have hl : lv_has ls 1 [(0, .ref f)] := hl
  have hf9 := hts (.fieldLink RX0 9 "DynamicForest$Forest" "size" "I") (by decide +kernel)
  have hin0 : ∀ w ∈ u_ws RX0 TX0 4, w ∈ wsX0_size := by decide +kernel
  refine lv_aload_n hx hb dX0_size_0 rfl (lv_at hl 0 rfl) ?_
  refine va_get (D := D) (ci := 0) (v := .int (nI n)) (C := RX0) (T := TX0) (N := 4) hx hb hts hin0 hown hK hP 0 rfl rfl 0 (by decide) hf9 (fun _ h9 => h9) rfl dX0_size_1 ?_
  exact rd_i hx hb hr hlocks rfl dX0_size_4
set_option maxHeartbeats 4000000 in
set_option maxRecDepth 100000 in
theorem c_X0_has (l : Launch) (D : va_G) (cI cZ : ClassId) (f : Nat) (fa : Nat) (fb : Nat) (fc : Nat) (n : Nat) (pa : Nat → Int32) (va : Nat → Int32) (mk : Nat → Bool) (v : Int32) : RdM l yX0_has wsX0_has 0 0 D cI cZ (wF f fa fb fc cI cZ n pa va mk) [.ref f, .int v] (bI (hasB n v)) := by
  refine RdM.of (cc := cX0_has) (maxL := 2) (ret := (some .boolean)) (by decide) rfl (Nat.le_of_ble_eq_true rfl) ?_
  intro p e s m below meth c hx hb hr hml hown hts hlocks hP hK ls hl
  have hown : s.vm.findClass RX0 = some m.cls := hown
  have hl : lv_has ls 2 [(0, .ref f), (1, .int v)] := hl
  have hf9 := hts (.fieldLink RX0 9 "DynamicForest$Forest" "size" "I") (by decide +kernel)
  have hin0 : ∀ w ∈ u_ws RX0 TX0 4, w ∈ wsX0_has := by decide +kernel
  refine lv_iload_n hx hb dX0_has_0 rfl (lv_at hl 1 rfl) ?_
  refine lv_if_lt (tgt := 22) hx hb dX0_has_1 (by decide) (fun c_1 => ?_) (fun c_1 => ?_)
  · skip
    refine lv_iconst (v := 0) hx hb dX0_has_22 (by decide) ?_
    exact rd_z hx hb hr hlocks (by simp [hasB, bI, c_1]) dX0_has_23
  · skip
    refine lv_iload_n hx hb dX0_has_4 rfl (lv_at hl 1 rfl) ?_
    refine lv_aload_n hx hb dX0_has_5 rfl (lv_at hl 0 rfl) ?_
    refine va_get (D := D) (ci := 0) (v := .int (nI n)) (C := RX0) (T := TX0) (N := 4) hx hb hts hin0 hown hK hP 0 rfl rfl 0 (by decide) hf9 (fun _ h9 => h9) rfl dX0_has_6 ?_
    refine lv_icmp_ge (tgt := 22) hx hb dX0_has_9 (by decide) (fun c_2 => ?_) (fun c_2 => ?_)
    · skip
      refine lv_iconst (v := 0) hx hb dX0_has_22 (by decide) ?_
      exact rd_z hx hb hr hlocks (by simp [hasB, bI, c_2]) dX0_has_23
    · skip
      refine lv_iload_n hx hb dX0_has_12 rfl (lv_at hl 1 rfl) ?_
      refine lv_bipush (v := 64) hx hb dX0_has_13 (by decide) ?_
      refine lv_icmp_ge (tgt := 22) hx hb dX0_has_15 (by decide) (fun c_3 => ?_) (fun c_3 => ?_)
      · skip
        refine lv_iconst (v := 0) hx hb dX0_has_22 (by decide) ?_
        exact rd_z hx hb hr hlocks (by simp [hasB, bI, c_3]) dX0_has_23
      · skip
        refine lv_iconst (v := 1) hx hb dX0_has_18 (by decide) ?_
        refine lv_goto (tgt := 23) hx hb dX0_has_19 (by decide) ?_
        exact rd_z hx hb hr hlocks (by simp [hasB, bI, c_1, c_2, c_3]) dX0_has_23
set_option maxHeartbeats 4000000 in
set_option maxRecDepth 100000 in
theorem c_X0_parentOf (l : Launch) (D : va_G) (cI cZ : ClassId) (f : Nat) (fa : Nat) (fb : Nat) (fc : Nat) (n : Nat) (pa : Nat → Int32) (va : Nat → Int32) (mk : Nat → Bool) (j : Nat) (hj : j < n) (hn : n ≤ 64) : RdM l yX0_parentOf wsX0_parentOf 1 21 D cI cZ (wF f fa fb fc cI cZ n pa va mk) [.ref f, .int (nI j)] (pa j) := by
  refine RdM.of (cc := cX0_parentOf) (maxL := 2) (ret := (some .int)) (by decide) rfl (Nat.le_of_ble_eq_true rfl) ?_
  intro p e s m below meth c hx hb hr hml hown hts hlocks hP hK ls hl
  have hown : s.vm.findClass RX0 = some m.cls := hown
  have hl : lv_has ls 2 [(0, .ref f), (1, .int (nI j))] := hl
  have hf15 := hts (.fieldLink RX0 15 "DynamicForest$Forest" "parents" "[I") (by decide +kernel)
  have hin0 : ∀ w ∈ u_ws RX0 TX0 4, w ∈ wsX0_parentOf := by decide +kernel
  refine lv_aload_n hx hb dX0_parentOf_0 rfl (lv_at hl 0 rfl) ?_
  refine lv_iload_n hx hb dX0_parentOf_1 rfl (lv_at hl 1 rfl) ?_
  refine rd_call ⟨hx, hb, hml, hown, hts⟩ (c_X0_has l D cI cZ f fa fb fc n pa va mk (nI j)) (cwV 1 hts gX0_parentOf_X0_has rfl rfl rfl (by decide +kernel) ⟨Nat.le_of_ble_eq_true rfl, Nat.le_of_ble_eq_true rfl⟩) hP hK rfl rfl rfl hl rfl (Nat.le_of_ble_eq_true rfl) dX0_parentOf_2 ⟨Nat.zero_le _, Nat.zero_le _⟩ ?_
  refine lv_if_eq (tgt := 17) hx hb dX0_parentOf_5 (by decide) (fun c_1 => ?_) (fun c_1 => ?_)
  · skip
    have c_1 := bI_0 c_1
    exact hasB_x hj hn c_1
  · skip
    have c_1 := bI_1 c_1
    refine lv_aload_n hx hb dX0_parentOf_8 rfl (lv_at hl 0 rfl) ?_
    refine va_get (D := D) (ci := 0) (v := .ref fa) (C := RX0) (T := TX0) (N := 4) hx hb hts hin0 hown hK hP 0 rfl rfl 1 (by decide) hf15 (fun _ h9 => h9) rfl dX0_parentOf_9 ?_
    refine lv_iload_n hx hb dX0_parentOf_12 rfl (lv_at hl 1 rfl) ?_
    refine ar_i (tys := []) hx hb hK hP 1 rfl (k := j) (by omega) (by decide) dX0_parentOf_13 ?_
    refine lv_goto (tgt := 18) hx hb dX0_parentOf_14 (by decide) ?_
    exact rd_i hx hb hr hlocks rfl dX0_parentOf_18
set_option maxHeartbeats 4000000 in
set_option maxRecDepth 100000 in
theorem c_X0_putParent (l : Launch) (D : va_G) (cI cZ : ClassId) (f : Nat) (fa : Nat) (fb : Nat) (fc : Nat) (n : Nat) (pa : Nat → Int32) (va : Nat → Int32) (mk : Nat → Bool) (j : Nat) (hj : j < n) (hn : n ≤ 64) (x : Int32) : WrM l yX0_putParent wsX0_putParent 1 21 D cI cZ (wF f fa fb fc cI cZ n pa va mk) (wF f fa fb fc cI cZ n (upd pa j x) va mk) [.ref f, .int (nI j), .int x] none := by
  refine WrM.of (cc := cX0_putParent) (maxL := 3) (ret := none) (by decide) rfl (Nat.le_of_ble_eq_true rfl) ?_
  intro p e s m below meth c hx hb hr hml hown hts hlocks hP hK hD hS ls hl
  have hown : s.vm.findClass RX0 = some m.cls := hown
  have hl : lv_has ls 3 [(0, .ref f), (1, .int (nI j)), (2, .int x)] := hl
  have hP : va_P D vwCl (wF f fa fb fc cI cZ n pa va mk) s.heap := hP
  have hf15 := hts (.fieldLink RX0 15 "DynamicForest$Forest" "parents" "[I") (by decide +kernel)
  have hin0 : ∀ w ∈ u_ws RX0 TX0 4, w ∈ wsX0_putParent := by decide +kernel
  refine lv_aload_n hx hb dX0_putParent_0 rfl (lv_at hl 0 rfl) ?_
  refine lv_iload_n hx hb dX0_putParent_1 rfl (lv_at hl 1 rfl) ?_
  refine rd_call ⟨hx, hb, hml, hown, hts⟩ (c_X0_has l D cI cZ f fa fb fc n pa va mk (nI j)) (cwV 1 hts gX0_putParent_X0_has rfl rfl rfl (by decide +kernel) ⟨Nat.le_of_ble_eq_true rfl, Nat.le_of_ble_eq_true rfl⟩) hP hK rfl rfl rfl hl rfl (Nat.le_of_ble_eq_true rfl) dX0_putParent_2 ⟨Nat.zero_le _, Nat.zero_le _⟩ ?_
  refine lv_if_eq (tgt := 15) hx hb dX0_putParent_5 (by decide) (fun c_1 => ?_) (fun c_1 => ?_)
  · skip
    have c_1 := bI_0 c_1
    exact hasB_x hj hn c_1
  · skip
    have c_1 := bI_1 c_1
    refine lv_aload_n hx hb dX0_putParent_8 rfl (lv_at hl 0 rfl) ?_
    refine va_get (D := D) (ci := 0) (v := .ref fa) (C := RX0) (T := TX0) (N := 4) hx hb hts hin0 hown hK hP 0 rfl rfl 1 (by decide) hf15 (fun _ h9 => h9) rfl dX0_putParent_9 ?_
    refine lv_iload_n hx hb dX0_putParent_12 rfl (lv_at hl 1 rfl) ?_
    refine lv_iload_n hx hb dX0_putParent_13 rfl (lv_at hl 2 rfl) ?_
    refine ar_is hx hb hK hP hD hS 1 rfl (k := j) (by omega) (by decide) dX0_putParent_14 (fun H locs hP hD hS => ?_)
    have hP : va_P D vwCl (wF f fa fb fc cI cZ n (upd pa j x) va mk) H := hP
    have hD : va_D (adr (wF f fa fb fc cI cZ n pa va mk)) (wF f fa fb fc cI cZ n (upd pa j x) va mk) := vd_same hD rfl
    exact wr_v hx hb hr hlocks hP hS dX0_putParent_15
set_option maxHeartbeats 4000000 in
set_option maxRecDepth 100000 in
theorem c_X0_isRoot (l : Launch) (D : va_G) (cI cZ : ClassId) (f : Nat) (fa : Nat) (fb : Nat) (fc : Nat) (n : Nat) (pa : Nat → Int32) (va : Nat → Int32) (mk : Nat → Bool) (j : Nat) (hj : j < n) (hn : n ≤ 64) : RdM l yX0_isRoot wsX0_isRoot 2 42 D cI cZ (wF f fa fb fc cI cZ n pa va mk) [.ref f, .int (nI j)] (bI (decide (pa j = -1))) := by
  refine RdM.of (cc := cX0_isRoot) (maxL := 2) (ret := (some .boolean)) (by decide) rfl (Nat.le_of_ble_eq_true rfl) ?_
  intro p e s m below meth c hx hb hr hml hown hts hlocks hP hK ls hl
  have hown : s.vm.findClass RX0 = some m.cls := hown
  have hl : lv_has ls 2 [(0, .ref f), (1, .int (nI j))] := hl
  refine lv_aload_n hx hb dX0_isRoot_0 rfl (lv_at hl 0 rfl) ?_
  refine lv_iload_n hx hb dX0_isRoot_1 rfl (lv_at hl 1 rfl) ?_
  refine rd_call ⟨hx, hb, hml, hown, hts⟩ (c_X0_parentOf l D cI cZ f fa fb fc n pa va mk j hj hn) (cwV 1 hts gX0_isRoot_X0_parentOf rfl rfl rfl (by decide +kernel) ⟨Nat.le_of_ble_eq_true rfl, Nat.le_of_ble_eq_true rfl⟩) hP hK rfl rfl rfl hl rfl (Nat.le_of_ble_eq_true rfl) dX0_isRoot_2 ⟨Nat.zero_le _, Nat.zero_le _⟩ ?_
  refine lv_iconst (v := -1) hx hb dX0_isRoot_5 (by decide) ?_
  refine lv_icmp_ne (tgt := 13) hx hb dX0_isRoot_6 (by decide) (fun c_1 => ?_) (fun c_1 => ?_)
  · skip
    refine lv_iconst (v := 0) hx hb dX0_isRoot_13 (by decide) ?_
    exact rd_z hx hb hr hlocks (by simp [bI, c_1]) dX0_isRoot_14
  · skip
    refine lv_iconst (v := 1) hx hb dX0_isRoot_9 (by decide) ?_
    refine lv_goto (tgt := 14) hx hb dX0_isRoot_10 (by decide) ?_
    exact rd_z hx hb hr hlocks (by simp [bI, c_1]) dX0_isRoot_14
set_option maxHeartbeats 4000000 in
set_option maxRecDepth 100000 in
theorem c_X0_valueOf (l : Launch) (D : va_G) (cI cZ : ClassId) (f : Nat) (fa : Nat) (fb : Nat) (fc : Nat) (n : Nat) (pa : Nat → Int32) (va : Nat → Int32) (mk : Nat → Bool) (j : Nat) (hj : j < n) (hn : n ≤ 64) : RdM l yX0_valueOf wsX0_valueOf 1 21 D cI cZ (wF f fa fb fc cI cZ n pa va mk) [.ref f, .int (nI j)] (va j) := by
  refine RdM.of (cc := cX0_valueOf) (maxL := 2) (ret := (some .int)) (by decide) rfl (Nat.le_of_ble_eq_true rfl) ?_
  intro p e s m below meth c hx hb hr hml hown hts hlocks hP hK ls hl
  have hown : s.vm.findClass RX0 = some m.cls := hown
  have hl : lv_has ls 2 [(0, .ref f), (1, .int (nI j))] := hl
  have hf19 := hts (.fieldLink RX0 19 "DynamicForest$Forest" "values" "[I") (by decide +kernel)
  have hin0 : ∀ w ∈ u_ws RX0 TX0 4, w ∈ wsX0_valueOf := by decide +kernel
  refine lv_aload_n hx hb dX0_valueOf_0 rfl (lv_at hl 0 rfl) ?_
  refine lv_iload_n hx hb dX0_valueOf_1 rfl (lv_at hl 1 rfl) ?_
  refine rd_call ⟨hx, hb, hml, hown, hts⟩ (c_X0_has l D cI cZ f fa fb fc n pa va mk (nI j)) (cwV 1 hts gX0_valueOf_X0_has rfl rfl rfl (by decide +kernel) ⟨Nat.le_of_ble_eq_true rfl, Nat.le_of_ble_eq_true rfl⟩) hP hK rfl rfl rfl hl rfl (Nat.le_of_ble_eq_true rfl) dX0_valueOf_2 ⟨Nat.zero_le _, Nat.zero_le _⟩ ?_
  refine lv_if_eq (tgt := 17) hx hb dX0_valueOf_5 (by decide) (fun c_1 => ?_) (fun c_1 => ?_)
  · skip
    have c_1 := bI_0 c_1
    exact hasB_x hj hn c_1
  · skip
    have c_1 := bI_1 c_1
    refine lv_aload_n hx hb dX0_valueOf_8 rfl (lv_at hl 0 rfl) ?_
    refine va_get (D := D) (ci := 0) (v := .ref fb) (C := RX0) (T := TX0) (N := 4) hx hb hts hin0 hown hK hP 0 rfl rfl 2 (by decide) hf19 (fun _ h9 => h9) rfl dX0_valueOf_9 ?_
    refine lv_iload_n hx hb dX0_valueOf_12 rfl (lv_at hl 1 rfl) ?_
    refine ar_i (tys := []) hx hb hK hP 2 rfl (k := j) (by omega) (by decide) dX0_valueOf_13 ?_
    refine lv_goto (tgt := 18) hx hb dX0_valueOf_14 (by decide) ?_
    exact rd_i hx hb hr hlocks rfl dX0_valueOf_18
set_option maxHeartbeats 4000000 in
set_option maxRecDepth 100000 in
theorem c_X0_putValue (l : Launch) (D : va_G) (cI cZ : ClassId) (f : Nat) (fa : Nat) (fb : Nat) (fc : Nat) (n : Nat) (pa : Nat → Int32) (va : Nat → Int32) (mk : Nat → Bool) (j : Nat) (hj : j < n) (hn : n ≤ 64) (x : Int32) : WrM l yX0_putValue wsX0_putValue 1 21 D cI cZ (wF f fa fb fc cI cZ n pa va mk) (wF f fa fb fc cI cZ n pa (upd va j x) mk) [.ref f, .int (nI j), .int x] none := by
  refine WrM.of (cc := cX0_putValue) (maxL := 3) (ret := none) (by decide) rfl (Nat.le_of_ble_eq_true rfl) ?_
  intro p e s m below meth c hx hb hr hml hown hts hlocks hP hK hD hS ls hl
  have hown : s.vm.findClass RX0 = some m.cls := hown
  have hl : lv_has ls 3 [(0, .ref f), (1, .int (nI j)), (2, .int x)] := hl
  have hP : va_P D vwCl (wF f fa fb fc cI cZ n pa va mk) s.heap := hP
  have hf19 := hts (.fieldLink RX0 19 "DynamicForest$Forest" "values" "[I") (by decide +kernel)
  have hin0 : ∀ w ∈ u_ws RX0 TX0 4, w ∈ wsX0_putValue := by decide +kernel
  refine lv_aload_n hx hb dX0_putValue_0 rfl (lv_at hl 0 rfl) ?_
  refine lv_iload_n hx hb dX0_putValue_1 rfl (lv_at hl 1 rfl) ?_
  refine rd_call ⟨hx, hb, hml, hown, hts⟩ (c_X0_has l D cI cZ f fa fb fc n pa va mk (nI j)) (cwV 1 hts gX0_putValue_X0_has rfl rfl rfl (by decide +kernel) ⟨Nat.le_of_ble_eq_true rfl, Nat.le_of_ble_eq_true rfl⟩) hP hK rfl rfl rfl hl rfl (Nat.le_of_ble_eq_true rfl) dX0_putValue_2 ⟨Nat.zero_le _, Nat.zero_le _⟩ ?_
  refine lv_if_eq (tgt := 15) hx hb dX0_putValue_5 (by decide) (fun c_1 => ?_) (fun c_1 => ?_)
  · skip
    have c_1 := bI_0 c_1
    exact hasB_x hj hn c_1
  · skip
    have c_1 := bI_1 c_1
    refine lv_aload_n hx hb dX0_putValue_8 rfl (lv_at hl 0 rfl) ?_
    refine va_get (D := D) (ci := 0) (v := .ref fb) (C := RX0) (T := TX0) (N := 4) hx hb hts hin0 hown hK hP 0 rfl rfl 2 (by decide) hf19 (fun _ h9 => h9) rfl dX0_putValue_9 ?_
    refine lv_iload_n hx hb dX0_putValue_12 rfl (lv_at hl 1 rfl) ?_
    refine lv_iload_n hx hb dX0_putValue_13 rfl (lv_at hl 2 rfl) ?_
    refine ar_is hx hb hK hP hD hS 2 rfl (k := j) (by omega) (by decide) dX0_putValue_14 (fun H locs hP hD hS => ?_)
    have hP : va_P D vwCl (wF f fa fb fc cI cZ n pa (upd va j x) mk) H := hP
    have hD : va_D (adr (wF f fa fb fc cI cZ n pa va mk)) (wF f fa fb fc cI cZ n pa (upd va j x) mk) := vd_same hD rfl
    exact wr_v hx hb hr hlocks hP hS dX0_putValue_15
set_option maxHeartbeats 4000000 in
set_option maxRecDepth 100000 in
theorem c_X0_swapValues (l : Launch) (D : va_G) (cI cZ : ClassId) (f : Nat) (fa : Nat) (fb : Nat) (fc : Nat) (n : Nat) (pa : Nat → Int32) (va : Nat → Int32) (mk : Nat → Bool) (j : Nat) (hj : j < n) (hn : n ≤ 64) (k : Nat) (hk : k < n) : WrM l yX0_swapValues wsX0_swapValues 2 43 D cI cZ (wF f fa fb fc cI cZ n pa va mk) (wF f fa fb fc cI cZ n pa (upd (upd va j (va k)) k (va j)) mk) [.ref f, .int (nI j), .int (nI k)] none := by
  refine WrM.of (cc := cX0_swapValues) (maxL := 4) (ret := none) (by decide) rfl (Nat.le_of_ble_eq_true rfl) ?_
  intro p e s m below meth c hx hb hr hml hown hts hlocks hP hK hD hS ls hl
  have hown : s.vm.findClass RX0 = some m.cls := hown
  have hl : lv_has ls 4 [(0, .ref f), (1, .int (nI j)), (2, .int (nI k))] := hl
  have hP : va_P D vwCl (wF f fa fb fc cI cZ n pa va mk) s.heap := hP
  refine lv_aload_n hx hb dX0_swapValues_0 rfl (lv_at hl 0 rfl) ?_
  refine lv_iload_n hx hb dX0_swapValues_1 rfl (lv_at hl 1 rfl) ?_
  refine rd_call ⟨hx, hb, hml, hown, hts⟩ (c_X0_valueOf l D cI cZ f fa fb fc n pa va mk j hj hn) (cwV 1 hts gX0_swapValues_X0_valueOf rfl rfl rfl (by decide +kernel) ⟨Nat.le_of_ble_eq_true rfl, Nat.le_of_ble_eq_true rfl⟩) hP hK rfl rfl rfl hl rfl (Nat.le_of_ble_eq_true rfl) dX0_swapValues_2 ⟨Nat.zero_le _, Nat.zero_le _⟩ ?_
  refine lv_istore_n (lv' := [(3, .int (va j)), (0, .ref f), (1, .int (nI j)), (2, .int (nI k))]) hx hb dX0_swapValues_5 rfl hl (by decide) rfl (fun ls hl => ?_)
  refine lv_aload_n hx hb dX0_swapValues_6 rfl (lv_at hl 1 rfl) ?_
  refine lv_iload_n hx hb dX0_swapValues_7 rfl (lv_at hl 2 rfl) ?_
  refine lv_aload_n hx hb dX0_swapValues_8 rfl (lv_at hl 1 rfl) ?_
  refine lv_iload_n hx hb dX0_swapValues_9 rfl (lv_at hl 3 rfl) ?_
  refine rd_call ⟨hx, hb, hml, hown, hts⟩ (c_X0_valueOf l D cI cZ f fa fb fc n pa va mk k hk hn) (cwV 1 hts gX0_swapValues_X0_valueOf rfl rfl rfl (by decide +kernel) ⟨Nat.le_of_ble_eq_true rfl, Nat.le_of_ble_eq_true rfl⟩) hP hK rfl rfl rfl hl rfl (Nat.le_of_ble_eq_true rfl) dX0_swapValues_10 ⟨Nat.zero_le _, Nat.zero_le _⟩ ?_
  refine wr_call (V1 := wF f fa fb fc cI cZ n pa (upd va j (va k)) mk) ⟨hx, hb, hml, hown, hts⟩ (c_X0_putValue l D cI cZ f fa fb fc n pa va mk j hj hn (va k)) (cwV 2 hts gX0_swapValues_X0_putValue rfl rfl rfl (by decide +kernel) ⟨Nat.le_of_ble_eq_true rfl, Nat.le_of_ble_eq_true rfl⟩) hP hK hD hS [0, 1, 2, 3] [] [0, 1, 2, 3] rfl rfl (by decide) rfl rfl rfl rfl rfl hl rfl (Nat.le_of_ble_eq_true rfl) dX0_swapValues_13 ⟨Nat.zero_le _, Nat.zero_le _⟩ (fun H locs hP hD hS => ?_)
  refine lv_aload_n hx hb dX0_swapValues_16 rfl (lv_at hl 1 rfl) ?_
  refine lv_iload_n hx hb dX0_swapValues_17 rfl (lv_at hl 3 rfl) ?_
  refine lv_iload_n hx hb dX0_swapValues_18 rfl (lv_at hl 0 rfl) ?_
  refine wr_call (V1 := wF f fa fb fc cI cZ n pa (upd (upd va j (va k)) k (va j)) mk) ⟨hx, hb, hml, hown, hts⟩ (c_X0_putValue l D cI cZ f fa fb fc n pa (upd va j (va k)) mk k hk hn (va j)) (cwV 2 hts gX0_swapValues_X0_putValue rfl rfl rfl (by decide +kernel) ⟨Nat.le_of_ble_eq_true rfl, Nat.le_of_ble_eq_true rfl⟩) hP hK hD hS [0, 1, 2, 3] [] [0, 1, 2, 3] rfl rfl (by decide) rfl rfl rfl rfl rfl hl rfl (Nat.le_of_ble_eq_true rfl) dX0_swapValues_19 ⟨Nat.zero_le _, Nat.zero_le _⟩ (fun H locs hP hD hS => ?_)
  exact wr_v hx hb hr hlocks hP hS dX0_swapValues_22
set_option maxHeartbeats 4000000 in
set_option maxRecDepth 100000 in
theorem c_X0_isMarked (l : Launch) (D : va_G) (cI cZ : ClassId) (f : Nat) (fa : Nat) (fb : Nat) (fc : Nat) (n : Nat) (pa : Nat → Int32) (va : Nat → Int32) (mk : Nat → Bool) (j : Nat) (hj : j < n) (hn : n ≤ 64) : RdM l yX0_isMarked wsX0_isMarked 1 21 D cI cZ (wF f fa fb fc cI cZ n pa va mk) [.ref f, .int (nI j)] (bI (mk j)) := by
  refine RdM.of (cc := cX0_isMarked) (maxL := 2) (ret := (some .boolean)) (by decide) rfl (Nat.le_of_ble_eq_true rfl) ?_
  intro p e s m below meth c hx hb hr hml hown hts hlocks hP hK ls hl
  have hown : s.vm.findClass RX0 = some m.cls := hown
  have hl : lv_has ls 2 [(0, .ref f), (1, .int (nI j))] := hl
  have hf22 := hts (.fieldLink RX0 22 "DynamicForest$Forest" "marks" "[Z") (by decide +kernel)
  have hin0 : ∀ w ∈ u_ws RX0 TX0 4, w ∈ wsX0_isMarked := by decide +kernel
  refine lv_aload_n hx hb dX0_isMarked_0 rfl (lv_at hl 0 rfl) ?_
  refine lv_iload_n hx hb dX0_isMarked_1 rfl (lv_at hl 1 rfl) ?_
  refine rd_call ⟨hx, hb, hml, hown, hts⟩ (c_X0_has l D cI cZ f fa fb fc n pa va mk (nI j)) (cwV 1 hts gX0_isMarked_X0_has rfl rfl rfl (by decide +kernel) ⟨Nat.le_of_ble_eq_true rfl, Nat.le_of_ble_eq_true rfl⟩) hP hK rfl rfl rfl hl rfl (Nat.le_of_ble_eq_true rfl) dX0_isMarked_2 ⟨Nat.zero_le _, Nat.zero_le _⟩ ?_
  refine lv_if_eq (tgt := 21) hx hb dX0_isMarked_5 (by decide) (fun c_1 => ?_) (fun c_1 => ?_)
  · skip
    have c_1 := bI_0 c_1
    exact hasB_x hj hn c_1
  · skip
    have c_1 := bI_1 c_1
    refine lv_aload_n hx hb dX0_isMarked_8 rfl (lv_at hl 0 rfl) ?_
    refine va_get (D := D) (ci := 0) (v := .ref fc) (C := RX0) (T := TX0) (N := 4) hx hb hts hin0 hown hK hP 0 rfl rfl 3 (by decide) hf22 (fun _ h9 => h9) rfl dX0_isMarked_9 ?_
    refine lv_iload_n hx hb dX0_isMarked_12 rfl (lv_at hl 1 rfl) ?_
    refine ar_z hx hb hK hP 3 rfl (k := j) (by omega) (by decide) dX0_isMarked_13 ?_
    refine lv_if_eq (tgt := 21) hx hb dX0_isMarked_14 (by decide) (fun c_2 => ?_) (fun c_2 => ?_)
    · skip
      have c_2 := bI_0 c_2
      refine lv_iconst (v := 0) hx hb dX0_isMarked_21 (by decide) ?_
      exact rd_z hx hb hr hlocks (by rw [c_2]; rfl) dX0_isMarked_22
    · skip
      have c_2 := bI_1 c_2
      refine lv_iconst (v := 1) hx hb dX0_isMarked_17 (by decide) ?_
      refine lv_goto (tgt := 22) hx hb dX0_isMarked_18 (by decide) ?_
      exact rd_z hx hb hr hlocks (by rw [c_2]; rfl) dX0_isMarked_22
set_option maxHeartbeats 4000000 in
set_option maxRecDepth 100000 in
theorem c_X0_putMark (l : Launch) (D : va_G) (cI cZ : ClassId) (f : Nat) (fa : Nat) (fb : Nat) (fc : Nat) (n : Nat) (pa : Nat → Int32) (va : Nat → Int32) (mk : Nat → Bool) (j : Nat) (hj : j < n) (hn : n ≤ 64) (on : Bool) : WrM l yX0_putMark wsX0_putMark 1 21 D cI cZ (wF f fa fb fc cI cZ n pa va mk) (wF f fa fb fc cI cZ n pa va (bset mk j on)) [.ref f, .int (nI j), .int (bI on)] none := by
  refine WrM.of (cc := cX0_putMark) (maxL := 3) (ret := none) (by decide) rfl (Nat.le_of_ble_eq_true rfl) ?_
  intro p e s m below meth c hx hb hr hml hown hts hlocks hP hK hD hS ls hl
  have hown : s.vm.findClass RX0 = some m.cls := hown
  have hl : lv_has ls 3 [(0, .ref f), (1, .int (nI j)), (2, .int (bI on))] := hl
  have hP : va_P D vwCl (wF f fa fb fc cI cZ n pa va mk) s.heap := hP
  have hf22 := hts (.fieldLink RX0 22 "DynamicForest$Forest" "marks" "[Z") (by decide +kernel)
  have hin0 : ∀ w ∈ u_ws RX0 TX0 4, w ∈ wsX0_putMark := by decide +kernel
  refine lv_aload_n hx hb dX0_putMark_0 rfl (lv_at hl 0 rfl) ?_
  refine lv_iload_n hx hb dX0_putMark_1 rfl (lv_at hl 1 rfl) ?_
  refine rd_call ⟨hx, hb, hml, hown, hts⟩ (c_X0_has l D cI cZ f fa fb fc n pa va mk (nI j)) (cwV 1 hts gX0_putMark_X0_has rfl rfl rfl (by decide +kernel) ⟨Nat.le_of_ble_eq_true rfl, Nat.le_of_ble_eq_true rfl⟩) hP hK rfl rfl rfl hl rfl (Nat.le_of_ble_eq_true rfl) dX0_putMark_2 ⟨Nat.zero_le _, Nat.zero_le _⟩ ?_
  refine lv_if_eq (tgt := 15) hx hb dX0_putMark_5 (by decide) (fun c_1 => ?_) (fun c_1 => ?_)
  · skip
    have c_1 := bI_0 c_1
    exact hasB_x hj hn c_1
  · skip
    have c_1 := bI_1 c_1
    refine lv_aload_n hx hb dX0_putMark_8 rfl (lv_at hl 0 rfl) ?_
    refine va_get (D := D) (ci := 0) (v := .ref fc) (C := RX0) (T := TX0) (N := 4) hx hb hts hin0 hown hK hP 0 rfl rfl 3 (by decide) hf22 (fun _ h9 => h9) rfl dX0_putMark_9 ?_
    refine lv_iload_n hx hb dX0_putMark_12 rfl (lv_at hl 1 rfl) ?_
    refine lv_iload_n hx hb dX0_putMark_13 rfl (lv_at hl 2 rfl) ?_
    refine ar_zs hx hb hK hP hD hS 3 rfl (k := j) (by omega) (by decide) (bI_vnar on) dX0_putMark_14 (fun H locs hP hD hS => ?_)
    have hP : va_P D vwCl (wFr f fa fb fc cI cZ n pa va (upd (fun z_ => bI (mk z_)) j (bI on))) H := hP
    rw [bset_eq] at hP
    have hD : va_D (adr (wF f fa fb fc cI cZ n pa va mk)) (wF f fa fb fc cI cZ n pa va (bset mk j on)) := vd_same hD rfl
    exact wr_v hx hb hr hlocks hP hS dX0_putMark_15
set_option maxHeartbeats 4000000 in
set_option maxRecDepth 100000 in
theorem c_X0_startAnew (l : Launch) (D : va_G) (cI cZ : ClassId) (f : Nat) (fa : Nat) (fb : Nat) (fc : Nat) (n : Nat) (pa : Nat → Int32) (va : Nat → Int32) (mk : Nat → Bool) (k : Nat) (hk : k ≤ 64) : WrM l yX0_startAnew wsX0_startAnew 0 0 D cI cZ (wF f fa fb fc cI cZ n pa va mk) (wF f fa fb fc cI cZ k (fun _ => -1) (fun _ => 0) (fun _ => false)) [.ref f, .int (nI k)] none := by
  refine WrM.of (cc := cX0_startAnew) (maxL := 3) (ret := none) (by decide) rfl (Nat.le_of_ble_eq_true rfl) ?_
  intro p e s m below meth c hx hb hr hml hown hts hlocks hP hK hD hS ls hl
  have hown : s.vm.findClass RX0 = some m.cls := hown
  have hl : lv_has ls 3 [(0, .ref f), (1, .int (nI k))] := hl
  have hP : va_P D vwCl (wF f fa fb fc cI cZ n pa va mk) s.heap := hP
  have hf9 := hts (.fieldLink RX0 9 "DynamicForest$Forest" "size" "I") (by decide +kernel)
  have hf15 := hts (.fieldLink RX0 15 "DynamicForest$Forest" "parents" "[I") (by decide +kernel)
  have hf19 := hts (.fieldLink RX0 19 "DynamicForest$Forest" "values" "[I") (by decide +kernel)
  have hf22 := hts (.fieldLink RX0 22 "DynamicForest$Forest" "marks" "[Z") (by decide +kernel)
  have hin0 : ∀ w ∈ u_ws RX0 TX0 4, w ∈ wsX0_startAnew := by decide +kernel
  refine lv_aload_n hx hb dX0_startAnew_0 rfl (lv_at hl 0 rfl) ?_
  refine lv_iload_n hx hb dX0_startAnew_1 rfl (lv_at hl 1 rfl) ?_
  refine va_put (D := D) (ci := 0) (v := .int (nI k)) (ty := .int) (C := RX0) (T := TX0) (N := 4) hx hb hts hin0 tyX0 tyX0_ok nmX0 hown hK hP hD hS 0 rfl rfl 0 (by decide) hf9 (fun _ h9 => h9) rfl (by decide +kernel) rfl rfl (Nat.le_of_ble_eq_true rfl) dX0_startAnew_2 (fun H locs hP hD hS => ?_)
  have hP : va_P D vwCl (wF f fa fb fc cI cZ k pa va mk) H := hP
  have hD : va_D (adr (wF f fa fb fc cI cZ n pa va mk)) (wF f fa fb fc cI cZ k pa va mk) := vd_same hD rfl
  refine lv_iconst (v := nI 0) hx hb dX0_startAnew_5 (by decide) ?_
  refine lv_istore_n (lv' := [(2, .int (nI 0)), (0, .ref f), (1, .int (nI k))]) hx hb dX0_startAnew_6 rfl hl (by decide) rfl (fun ls hl => ?_)
  have L7 : ∀ (k7_ : Nat) (i : Nat), i ≤ 64 → 64 - i < k7_ → ∀ (H : Heap) (locs : List Loc), va_P D vwCl (wF f fa fb fc cI cZ k (fillI i (fun _ => -1) pa) (fillI i (fun _ => 0) va) (fillB i (fun _ => false) mk)) H → va_D (adr (wF f fa fb fc cI cZ n pa va mk)) (wF f fa fb fc cI cZ k (fillI i (fun _ => -1) pa) (fillI i (fun _ => 0) va) (fillB i (fun _ => false) mk)) → va_S (adr (wF f fa fb fc cI cZ n pa va mk)) s.heap H locs → ∀ ls, lv_has ls 3 [(0, .ref f), (1, .int (nI k)), (2, .int (nI i))] → Ww0 p l e wsX0_startAnew 0 0 s m [.ref f, .int (nI k)] below meth c D (wF f fa fb fc cI cZ n pa va mk) (wF f fa fb fc cI cZ k (fun _ => -1) (fun _ => 0) (fun _ => false)) none H locs (F0 m 7 ls []) := by
    intro k7_
    induction k7_ with
    | zero => intro i hi hk7_; exact absurd hk7_ (Nat.not_lt_zero _)
    | succ k7_ ih7 =>
      intro i hi hk7_ H locs hP hD hS ls hl
      refine lv_iload_n hx hb dX0_startAnew_7 rfl (lv_at hl 2 rfl) ?_
      refine lv_bipush (v := 64) hx hb dX0_startAnew_8 (by decide) ?_
      refine lv_icmp_ge (tgt := 40) hx hb dX0_startAnew_10 (by decide) (fun c_1 => ?_) (fun c_1 => ?_)
      · skip
        have c_1 := cn_le (a := 64) (b := i) (by omega) (by omega) c_1
        have e64 : i = 64 := by omega
        subst e64
        have hP := ar_sw (g := fun _ => -1) hP 1 rfl (fun j h => fillI_lt _ _ h)
        have hP := ar_sw (g := fun _ => 0) hP 2 rfl (fun j h => fillI_lt _ _ h)
        have hP := ar_sw (g := fun i => bI false) hP 3 rfl (fun j h => by show bI _ = bI false; rw [fillB_lt _ _ h])
        exact wr_v hx hb hr hlocks hP hS dX0_startAnew_40
      · skip
        have c_1 := cn_nle (a := 64) (b := i) (by omega) (by omega) c_1
        refine lv_aload_n hx hb dX0_startAnew_13 rfl (lv_at hl 0 rfl) ?_
        refine va_get (D := D) (ci := 0) (v := .ref fa) (C := RX0) (T := TX0) (N := 4) hx hb hts hin0 hown hK hP 0 rfl rfl 1 (by decide) hf15 (fun _ h9 => h9) rfl dX0_startAnew_14 ?_
        refine lv_iload_n hx hb dX0_startAnew_17 rfl (lv_at hl 2 rfl) ?_
        refine lv_iconst (v := -1) hx hb dX0_startAnew_18 (by decide) ?_
        refine ar_is hx hb hK hP hD hS 1 rfl (k := i) (by omega) (by decide) dX0_startAnew_19 (fun H locs hP hD hS => ?_)
        have hP : va_P D vwCl (wF f fa fb fc cI cZ k (upd (fillI i (fun _ => -1) pa) i (-1)) (fillI i (fun _ => 0) va) (fillB i (fun _ => false) mk)) H := hP
        rw [fillI_c] at hP
        have hD : va_D (adr (wF f fa fb fc cI cZ n pa va mk)) (wF f fa fb fc cI cZ k (fillI (i + 1) (fun _ => -1) pa) (fillI i (fun _ => 0) va) (fillB i (fun _ => false) mk)) := vd_same hD rfl
        refine lv_aload_n hx hb dX0_startAnew_20 rfl (lv_at hl 0 rfl) ?_
        refine va_get (D := D) (ci := 0) (v := .ref fb) (C := RX0) (T := TX0) (N := 4) hx hb hts hin0 hown hK hP 0 rfl rfl 2 (by decide) hf19 (fun _ h9 => h9) rfl dX0_startAnew_21 ?_
        refine lv_iload_n hx hb dX0_startAnew_24 rfl (lv_at hl 2 rfl) ?_
        refine lv_iconst (v := 0) hx hb dX0_startAnew_25 (by decide) ?_
        refine ar_is hx hb hK hP hD hS 2 rfl (k := i) (by omega) (by decide) dX0_startAnew_26 (fun H locs hP hD hS => ?_)
        have hP : va_P D vwCl (wF f fa fb fc cI cZ k (fillI (i + 1) (fun _ => -1) pa) (upd (fillI i (fun _ => 0) va) i 0) (fillB i (fun _ => false) mk)) H := hP
        rw [fillI_c] at hP
        have hD : va_D (adr (wF f fa fb fc cI cZ n pa va mk)) (wF f fa fb fc cI cZ k (fillI (i + 1) (fun _ => -1) pa) (fillI (i + 1) (fun _ => 0) va) (fillB i (fun _ => false) mk)) := vd_same hD rfl
        refine lv_aload_n hx hb dX0_startAnew_27 rfl (lv_at hl 0 rfl) ?_
        refine va_get (D := D) (ci := 0) (v := .ref fc) (C := RX0) (T := TX0) (N := 4) hx hb hts hin0 hown hK hP 0 rfl rfl 3 (by decide) hf22 (fun _ h9 => h9) rfl dX0_startAnew_28 ?_
        refine lv_iload_n hx hb dX0_startAnew_31 rfl (lv_at hl 2 rfl) ?_
        refine lv_iconst (v := 0) hx hb dX0_startAnew_32 (by decide) ?_
        refine ar_zs hx hb hK hP hD hS 3 rfl (k := i) (by omega) (by decide) rfl dX0_startAnew_33 (fun H locs hP hD hS => ?_)
        have hP : va_P D vwCl (wFr f fa fb fc cI cZ k (fillI (i + 1) (fun _ => -1) pa) (fillI (i + 1) (fun _ => 0) va) (upd (fun z_ => bI ((fillB i (fun _ => false) mk) z_)) i 0)) H := hP
        rw [fillB_c] at hP
        have hD : va_D (adr (wF f fa fb fc cI cZ n pa va mk)) (wF f fa fb fc cI cZ k (fillI (i + 1) (fun _ => -1) pa) (fillI (i + 1) (fun _ => 0) va) (fillB (i + 1) (fun _ => false) mk)) := vd_same hD rfl
        refine lv_iinc (v := nI (i + 1)) (lv' := [(2, .int (nI (i + 1))), (0, .ref f), (1, .int (nI k))]) hx hb dX0_startAnew_34 hl (k := 2) rfl (nI_1 i) (by decide) rfl (fun ls hl => ?_)
        refine lv_goto (tgt := 7) hx hb dX0_startAnew_37 (by decide) ?_
        exact ih7 (i + 1) (by omega) (by omega) _ _ hP hD hS ls (lv_sub hl [1, 2, 0] rfl)
  have hP : va_P D vwCl (wF f fa fb fc cI cZ k (fillI 0 (fun _ => -1) pa) (fillI 0 (fun _ => 0) va) (fillB 0 (fun _ => false) mk)) H := by rw [fillI_0, fillI_0, fillB_0]; exact hP
  have hD : va_D (adr (wF f fa fb fc cI cZ n pa va mk)) (wF f fa fb fc cI cZ k (fillI 0 (fun _ => -1) pa) (fillI 0 (fun _ => 0) va) (fillB 0 (fun _ => false) mk)) := vd_same hD rfl
  exact L7 (64 - 0 + 1) 0 (Nat.zero_le _) (Nat.lt_succ_self _) _ _ hP hD hS ls (lv_sub hl [1, 2, 0] rfl)
set_option maxHeartbeats 4000000 in
set_option maxRecDepth 100000 in
theorem c_X0_copyFrom (l : Launch) (D : va_G) (cI cZ : ClassId) (f : Nat) (fa : Nat) (fb : Nat) (fc : Nat) (n : Nat) (pa : Nat → Int32) (va : Nat → Int32) (mk : Nat → Bool) (g : Nat) (ga : Nat) (gb : Nat) (gc : Nat) (n2 : Nat) (pa2 : Nat → Int32) (va2 : Nat → Int32) (mk2 : Nat → Bool) : WrM l yX0_copyFrom wsX0_copyFrom 0 0 D cI cZ (wF f fa fb fc cI cZ n pa va mk ++ wF g ga gb gc cI cZ n2 pa2 va2 mk2) (wF f fa fb fc cI cZ n2 pa2 va2 mk2 ++ wF g ga gb gc cI cZ n2 pa2 va2 mk2) [.ref f, .ref g] none := by
  refine WrM.of (cc := cX0_copyFrom) (maxL := 3) (ret := none) (by decide) rfl (Nat.le_of_ble_eq_true rfl) ?_
  intro p e s m below meth c hx hb hr hml hown hts hlocks hP hK hD hS ls hl
  have hown : s.vm.findClass RX0 = some m.cls := hown
  have hl : lv_has ls 3 [(0, .ref f), (1, .ref g)] := hl
  have hP : va_P D vwCl (wF f fa fb fc cI cZ n pa va mk ++ wF g ga gb gc cI cZ n2 pa2 va2 mk2) s.heap := hP
  have hf9 := hts (.fieldLink RX0 9 "DynamicForest$Forest" "size" "I") (by decide +kernel)
  have hf15 := hts (.fieldLink RX0 15 "DynamicForest$Forest" "parents" "[I") (by decide +kernel)
  have hf19 := hts (.fieldLink RX0 19 "DynamicForest$Forest" "values" "[I") (by decide +kernel)
  have hf22 := hts (.fieldLink RX0 22 "DynamicForest$Forest" "marks" "[Z") (by decide +kernel)
  have hin0 : ∀ w ∈ u_ws RX0 TX0 4, w ∈ wsX0_copyFrom := by decide +kernel
  refine lv_aload_n hx hb dX0_copyFrom_0 rfl (lv_at hl 0 rfl) ?_
  refine lv_aload_n hx hb dX0_copyFrom_1 rfl (lv_at hl 1 rfl) ?_
  refine va_get (D := D) (ci := 0) (v := .int (nI n2)) (C := RX0) (T := TX0) (N := 4) hx hb hts hin0 hown hK hP 4 rfl rfl 0 (by decide) hf9 (fun _ h9 => h9) rfl dX0_copyFrom_2 ?_
  refine va_put (D := D) (ci := 0) (v := .int (nI n2)) (ty := .int) (C := RX0) (T := TX0) (N := 4) hx hb hts hin0 tyX0 tyX0_ok nmX0 hown hK hP hD hS 0 rfl rfl 0 (by decide) hf9 (fun _ h9 => h9) rfl (by decide +kernel) rfl rfl (Nat.le_of_ble_eq_true rfl) dX0_copyFrom_5 (fun H locs hP hD hS => ?_)
  have hP : va_P D vwCl (wF f fa fb fc cI cZ n2 pa va mk ++ wF g ga gb gc cI cZ n2 pa2 va2 mk2) H := hP
  have hD : va_D (adr (wF f fa fb fc cI cZ n pa va mk ++ wF g ga gb gc cI cZ n2 pa2 va2 mk2)) (wF f fa fb fc cI cZ n2 pa va mk ++ wF g ga gb gc cI cZ n2 pa2 va2 mk2) := vd_same hD rfl
  refine lv_iconst (v := nI 0) hx hb dX0_copyFrom_8 (by decide) ?_
  refine lv_istore_n (lv' := [(2, .int (nI 0)), (0, .ref f), (1, .ref g)]) hx hb dX0_copyFrom_9 rfl hl (by decide) rfl (fun ls hl => ?_)
  have L10 : ∀ (k10_ : Nat) (i : Nat), i ≤ 64 → 64 - i < k10_ → ∀ (H : Heap) (locs : List Loc), va_P D vwCl (wF f fa fb fc cI cZ n2 (fillI i pa2 pa) (fillI i va2 va) (fillB i mk2 mk) ++ wF g ga gb gc cI cZ n2 pa2 va2 mk2) H → va_D (adr (wF f fa fb fc cI cZ n pa va mk ++ wF g ga gb gc cI cZ n2 pa2 va2 mk2)) (wF f fa fb fc cI cZ n2 (fillI i pa2 pa) (fillI i va2 va) (fillB i mk2 mk) ++ wF g ga gb gc cI cZ n2 pa2 va2 mk2) → va_S (adr (wF f fa fb fc cI cZ n pa va mk ++ wF g ga gb gc cI cZ n2 pa2 va2 mk2)) s.heap H locs → ∀ ls, lv_has ls 3 [(0, .ref f), (1, .ref g), (2, .int (nI i))] → Ww0 p l e wsX0_copyFrom 0 0 s m [.ref f, .ref g] below meth c D (wF f fa fb fc cI cZ n pa va mk ++ wF g ga gb gc cI cZ n2 pa2 va2 mk2) (wF f fa fb fc cI cZ n2 pa2 va2 mk2 ++ wF g ga gb gc cI cZ n2 pa2 va2 mk2) none H locs (F0 m 10 ls []) := by
    intro k10_
    induction k10_ with
    | zero => intro i hi hk10_; exact absurd hk10_ (Nat.not_lt_zero _)
    | succ k10_ ih10 =>
      intro i hi hk10_ H locs hP hD hS ls hl
      refine lv_iload_n hx hb dX0_copyFrom_10 rfl (lv_at hl 2 rfl) ?_
      refine lv_bipush (v := 64) hx hb dX0_copyFrom_11 (by decide) ?_
      refine lv_icmp_ge (tgt := 58) hx hb dX0_copyFrom_13 (by decide) (fun c_1 => ?_) (fun c_1 => ?_)
      · skip
        have c_1 := cn_le (a := 64) (b := i) (by omega) (by omega) c_1
        have e64 : i = 64 := by omega
        subst e64
        have hP := ar_sw (g := pa2) hP 1 rfl (fun j h => fillI_lt _ _ h)
        have hP := ar_sw (g := va2) hP 2 rfl (fun j h => fillI_lt _ _ h)
        have hP := ar_sw (g := fun i => bI (mk2 i)) hP 3 rfl (fun j h => by show bI _ = bI _; rw [fillB_lt _ _ h])
        exact wr_v hx hb hr hlocks hP hS dX0_copyFrom_58
      · skip
        have c_1 := cn_nle (a := 64) (b := i) (by omega) (by omega) c_1
        refine lv_aload_n hx hb dX0_copyFrom_16 rfl (lv_at hl 0 rfl) ?_
        refine va_get (D := D) (ci := 0) (v := .ref fa) (C := RX0) (T := TX0) (N := 4) hx hb hts hin0 hown hK hP 0 rfl rfl 1 (by decide) hf15 (fun _ h9 => h9) rfl dX0_copyFrom_17 ?_
        refine lv_iload_n hx hb dX0_copyFrom_20 rfl (lv_at hl 2 rfl) ?_
        refine lv_aload_n hx hb dX0_copyFrom_21 rfl (lv_at hl 1 rfl) ?_
        refine va_get (D := D) (ci := 0) (v := .ref ga) (C := RX0) (T := TX0) (N := 4) hx hb hts hin0 hown hK hP 4 rfl rfl 1 (by decide) hf15 (fun _ h9 => h9) rfl dX0_copyFrom_22 ?_
        refine lv_iload_n hx hb dX0_copyFrom_25 rfl (lv_at hl 2 rfl) ?_
        refine ar_i (tys := []) hx hb hK hP 5 rfl (k := i) (by omega) (by decide) dX0_copyFrom_26 ?_
        refine ar_is hx hb hK hP hD hS 1 rfl (k := i) (by omega) (by decide) dX0_copyFrom_27 (fun H locs hP hD hS => ?_)
        have hP : va_P D vwCl (wF f fa fb fc cI cZ n2 (upd (fillI i pa2 pa) i (pa2 i)) (fillI i va2 va) (fillB i mk2 mk) ++ wF g ga gb gc cI cZ n2 pa2 va2 mk2) H := hP
        rw [fillI_s] at hP
        have hD : va_D (adr (wF f fa fb fc cI cZ n pa va mk ++ wF g ga gb gc cI cZ n2 pa2 va2 mk2)) (wF f fa fb fc cI cZ n2 (fillI (i + 1) pa2 pa) (fillI i va2 va) (fillB i mk2 mk) ++ wF g ga gb gc cI cZ n2 pa2 va2 mk2) := vd_same hD rfl
        refine lv_aload_n hx hb dX0_copyFrom_28 rfl (lv_at hl 0 rfl) ?_
        refine va_get (D := D) (ci := 0) (v := .ref fb) (C := RX0) (T := TX0) (N := 4) hx hb hts hin0 hown hK hP 0 rfl rfl 2 (by decide) hf19 (fun _ h9 => h9) rfl dX0_copyFrom_29 ?_
        refine lv_iload_n hx hb dX0_copyFrom_32 rfl (lv_at hl 2 rfl) ?_
        refine lv_aload_n hx hb dX0_copyFrom_33 rfl (lv_at hl 1 rfl) ?_
        refine va_get (D := D) (ci := 0) (v := .ref gb) (C := RX0) (T := TX0) (N := 4) hx hb hts hin0 hown hK hP 4 rfl rfl 2 (by decide) hf19 (fun _ h9 => h9) rfl dX0_copyFrom_34 ?_
        refine lv_iload_n hx hb dX0_copyFrom_37 rfl (lv_at hl 2 rfl) ?_
        refine ar_i (tys := []) hx hb hK hP 6 rfl (k := i) (by omega) (by decide) dX0_copyFrom_38 ?_
        refine ar_is hx hb hK hP hD hS 2 rfl (k := i) (by omega) (by decide) dX0_copyFrom_39 (fun H locs hP hD hS => ?_)
        have hP : va_P D vwCl (wF f fa fb fc cI cZ n2 (fillI (i + 1) pa2 pa) (upd (fillI i va2 va) i (va2 i)) (fillB i mk2 mk) ++ wF g ga gb gc cI cZ n2 pa2 va2 mk2) H := hP
        rw [fillI_s] at hP
        have hD : va_D (adr (wF f fa fb fc cI cZ n pa va mk ++ wF g ga gb gc cI cZ n2 pa2 va2 mk2)) (wF f fa fb fc cI cZ n2 (fillI (i + 1) pa2 pa) (fillI (i + 1) va2 va) (fillB i mk2 mk) ++ wF g ga gb gc cI cZ n2 pa2 va2 mk2) := vd_same hD rfl
        refine lv_aload_n hx hb dX0_copyFrom_40 rfl (lv_at hl 0 rfl) ?_
        refine va_get (D := D) (ci := 0) (v := .ref fc) (C := RX0) (T := TX0) (N := 4) hx hb hts hin0 hown hK hP 0 rfl rfl 3 (by decide) hf22 (fun _ h9 => h9) rfl dX0_copyFrom_41 ?_
        refine lv_iload_n hx hb dX0_copyFrom_44 rfl (lv_at hl 2 rfl) ?_
        refine lv_aload_n hx hb dX0_copyFrom_45 rfl (lv_at hl 1 rfl) ?_
        refine va_get (D := D) (ci := 0) (v := .ref gc) (C := RX0) (T := TX0) (N := 4) hx hb hts hin0 hown hK hP 4 rfl rfl 3 (by decide) hf22 (fun _ h9 => h9) rfl dX0_copyFrom_46 ?_
        refine lv_iload_n hx hb dX0_copyFrom_49 rfl (lv_at hl 2 rfl) ?_
        refine ar_z hx hb hK hP 7 rfl (k := i) (by omega) (by decide) dX0_copyFrom_50 ?_
        refine ar_zs hx hb hK hP hD hS 3 rfl (k := i) (by omega) (by decide) (bI_vnar _) dX0_copyFrom_51 (fun H locs hP hD hS => ?_)
        have hP : va_P D vwCl (wFr f fa fb fc cI cZ n2 (fillI (i + 1) pa2 pa) (fillI (i + 1) va2 va) (upd (fun z_ => bI ((fillB i mk2 mk) z_)) i (bI (mk2 i))) ++ wF g ga gb gc cI cZ n2 pa2 va2 mk2) H := hP
        rw [fillB_s] at hP
        have hD : va_D (adr (wF f fa fb fc cI cZ n pa va mk ++ wF g ga gb gc cI cZ n2 pa2 va2 mk2)) (wF f fa fb fc cI cZ n2 (fillI (i + 1) pa2 pa) (fillI (i + 1) va2 va) (fillB (i + 1) mk2 mk) ++ wF g ga gb gc cI cZ n2 pa2 va2 mk2) := vd_same hD rfl
        refine lv_iinc (v := nI (i + 1)) (lv' := [(2, .int (nI (i + 1))), (0, .ref f), (1, .ref g)]) hx hb dX0_copyFrom_52 hl (k := 2) rfl (nI_1 i) (by decide) rfl (fun ls hl => ?_)
        refine lv_goto (tgt := 10) hx hb dX0_copyFrom_55 (by decide) ?_
        exact ih10 (i + 1) (by omega) (by omega) _ _ hP hD hS ls (lv_sub hl [1, 2, 0] rfl)
  have hP : va_P D vwCl (wF f fa fb fc cI cZ n2 (fillI 0 pa2 pa) (fillI 0 va2 va) (fillB 0 mk2 mk) ++ wF g ga gb gc cI cZ n2 pa2 va2 mk2) H := by rw [fillI_0, fillI_0, fillB_0]; exact hP
  have hD : va_D (adr (wF f fa fb fc cI cZ n pa va mk ++ wF g ga gb gc cI cZ n2 pa2 va2 mk2)) (wF f fa fb fc cI cZ n2 (fillI 0 pa2 pa) (fillI 0 va2 va) (fillB 0 mk2 mk) ++ wF g ga gb gc cI cZ n2 pa2 va2 mk2) := vd_same hD rfl
  exact L10 (64 - 0 + 1) 0 (Nat.zero_le _) (Nat.lt_succ_self _) _ _ hP hD hS ls (lv_sub hl [1, 2, 0] rfl)
