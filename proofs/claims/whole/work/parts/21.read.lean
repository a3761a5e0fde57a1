set_option maxHeartbeats 4000000 in
set_option maxRecDepth 100000 in
theorem c_X0_countRoots (l : Launch) (D : va_G) (cI cZ : ClassId) (f : Nat) (fa : Nat) (fb : Nat) (fc : Nat) (n : Nat) (G : Nat → Nat) (va : Nat → Int32) (mk : Nat → Bool) (F : fo_ok n G) : RdM l yX0_countRoots wsX0_countRoots 3 63 D cI cZ (wF f fa fb fc cI cZ n (fo_cp G) va mk) [.ref f] (nI (fo_cnt (fun v => decide (G v = v)) n)) := by
  refine RdM.of (cc := cX0_countRoots) (maxL := 3) (ret := (some .int)) (by decide) rfl (Nat.le_of_ble_eq_true rfl) ?_
  intro p e s m below meth c hx hb hr hml hown hts hlocks hP hK ls hl
  have hown : s.vm.findClass RX0 = some m.cls := hown
  have hl : lv_has ls 3 [(0, .ref f)] := hl
  have hf9 := hts (.fieldLink RX0 9 "DynamicForest$Forest" "size" "I") (by decide +kernel)
  have hin0 : ∀ w ∈ u_ws RX0 TX0 4, w ∈ wsX0_countRoots := by decide +kernel
  have hn : n ≤ 64 := F.2.1
  refine lv_iconst (v := nI 0) hx hb dX0_countRoots_0 (by decide) ?_
  refine lv_istore_n (lv' := [(1, .int (nI 0)), (0, .ref f)]) hx hb dX0_countRoots_1 rfl hl (by decide) rfl (fun ls hl => ?_)
  refine lv_iconst (v := nI 0) hx hb dX0_countRoots_2 (by decide) ?_
  refine lv_istore_n (lv' := [(2, .int (nI 0)), (1, .int (nI 0)), (0, .ref f)]) hx hb dX0_countRoots_3 rfl hl (by decide) rfl (fun ls hl => ?_)
  have L4 : ∀ (k4_ : Nat) (i : Nat), i ≤ n → n - i < k4_ → ∀ ls, lv_has ls 3 [(0, .ref f), (1, .int (nI (fo_cnt (fun v => decide (G v = v)) i))), (2, .int (nI i))] → Wr0 p l e wsX0_countRoots 3 63 s m [.ref f] below meth c (nI (fo_cnt (fun v => decide (G v = v)) n)) (F0 m 4 ls []) := by
    intro k4_
    induction k4_ with
    | zero => intro i hi hk4_; exact absurd hk4_ (Nat.not_lt_zero _)
    | succ k4_ ih4 =>
      intro i hi hk4_ ls hl
      refine lv_iload_n hx hb dX0_countRoots_4 rfl (lv_at hl 2 rfl) ?_
      refine lv_aload_n hx hb dX0_countRoots_5 rfl (lv_at hl 0 rfl) ?_
      refine va_get (D := D) (ci := 0) (v := .int (nI n)) (C := RX0) (T := TX0) (N := 4) hx hb hts hin0 hown hK hP 0 rfl rfl 0 (by decide) hf9 (fun _ h9 => h9) rfl dX0_countRoots_6 ?_
      refine lv_icmp_ge (tgt := 29) hx hb dX0_countRoots_9 (by decide) (fun c_1 => ?_) (fun c_1 => ?_)
      · skip
        have c_1 := cn_le (a := n) (b := i) (by omega) (by omega) c_1
        refine lv_iload_n hx hb dX0_countRoots_29 rfl (lv_at hl 1 rfl) ?_
        exact rd_i hx hb hr hlocks (by rw [show i = n by omega]) dX0_countRoots_30
      · skip
        have c_1 := cn_nle (a := n) (b := i) (by omega) (by omega) c_1
        refine lv_aload_n hx hb dX0_countRoots_12 rfl (lv_at hl 0 rfl) ?_
        refine lv_iload_n hx hb dX0_countRoots_13 rfl (lv_at hl 2 rfl) ?_
        refine rd_call ⟨hx, hb, hml, hown, hts⟩ (c_X0_isRoot l D cI cZ f fa fb fc n (fo_cp G) va mk i c_1 hn) (cwV 1 hts gX0_countRoots_X0_isRoot rfl rfl rfl (by decide +kernel) ⟨Nat.le_of_ble_eq_true rfl, Nat.le_of_ble_eq_true rfl⟩) hP hK rfl rfl rfl hl rfl (Nat.le_of_ble_eq_true rfl) dX0_countRoots_14 ⟨Nat.zero_le _, Nat.zero_le _⟩ ?_
        refine lv_if_eq (tgt := 23) hx hb dX0_countRoots_17 (by decide) (fun c_2 => ?_) (fun c_2 => ?_)
        · skip
          have c_2 := bI_0 c_2
          have c_2 : ¬ G i = i := by simpa [fo_cp_1 F c_1] using c_2
          refine lv_iinc (v := nI (i + 1)) (lv' := [(2, .int (nI (i + 1))), (0, .ref f), (1, .int (nI (fo_cnt (fun v => decide (G v = v)) i)))]) hx hb dX0_countRoots_23 hl (k := 2) rfl (nI_1 i) (by decide) rfl (fun ls hl => ?_)
          refine lv_goto (tgt := 4) hx hb dX0_countRoots_26 (by decide) ?_
          rw [← fo_cnt_f (f := (fun v => decide (G v = v))) (k := i) (by simp [c_2])] at hl
          exact ih4 (i + 1) (by omega) (by omega) ls (lv_sub hl [1, 2, 0] rfl)
        · skip
          have c_2 := bI_1 c_2
          have c_2 : G i = i := by simpa [fo_cp_1 F c_1] using c_2
          refine lv_iinc (v := nI ((fo_cnt (fun v => decide (G v = v)) i) + 1)) (lv' := [(1, .int (nI ((fo_cnt (fun v => decide (G v = v)) i) + 1))), (0, .ref f), (2, .int (nI i))]) hx hb dX0_countRoots_20 hl (k := 1) rfl (nI_1 (fo_cnt (fun v => decide (G v = v)) i)) (by decide) rfl (fun ls hl => ?_)
          refine lv_iinc (v := nI (i + 1)) (lv' := [(2, .int (nI (i + 1))), (1, .int (nI ((fo_cnt (fun v => decide (G v = v)) i) + 1))), (0, .ref f)]) hx hb dX0_countRoots_23 hl (k := 2) rfl (nI_1 i) (by decide) rfl (fun ls hl => ?_)
          refine lv_goto (tgt := 4) hx hb dX0_countRoots_26 (by decide) ?_
          rw [← fo_cnt_t (f := (fun v => decide (G v = v))) (k := i) (by simp [c_2])] at hl
          exact ih4 (i + 1) (by omega) (by omega) ls (lv_sub hl [2, 1, 0] rfl)
  exact L4 (n - 0 + 1) 0 (Nat.zero_le _) (Nat.lt_succ_self _) ls (lv_sub hl [2, 1, 0] rfl)
set_option maxHeartbeats 4000000 in
set_option maxRecDepth 100000 in
theorem c_X0_depthOf (l : Launch) (D : va_G) (cI cZ : ClassId) (f : Nat) (fa : Nat) (fb : Nat) (fc : Nat) (n : Nat) (G : Nat → Nat) (va : Nat → Int32) (mk : Nat → Bool) (F : fo_ok n G) (j : Nat) (hj : j < n) : RdM l yX0_depthOf wsX0_depthOf 2 42 D cI cZ (wF f fa fb fc cI cZ n (fo_cp G) va mk) [.ref f, .int (nI j)] (nI (fo_d G j)) := by
  refine RdM.of (cc := cX0_depthOf) (maxL := 4) (ret := (some .int)) (by decide) rfl (Nat.le_of_ble_eq_true rfl) ?_
  intro p e s m below meth c hx hb hr hml hown hts hlocks hP hK ls hl
  have hown : s.vm.findClass RX0 = some m.cls := hown
  have hl : lv_has ls 4 [(0, .ref f), (1, .int (nI j))] := hl
  have hn : n ≤ 64 := F.2.1
  refine lv_iconst (v := nI 0) hx hb dX0_depthOf_0 (by decide) ?_
  refine lv_istore_n (lv' := [(2, .int (nI 0)), (0, .ref f), (1, .int (nI j))]) hx hb dX0_depthOf_1 rfl hl (by decide) rfl (fun ls hl => ?_)
  refine lv_aload_n hx hb dX0_depthOf_2 rfl (lv_at hl 1 rfl) ?_
  refine lv_iload_n hx hb dX0_depthOf_3 rfl (lv_at hl 2 rfl) ?_
  refine rd_call ⟨hx, hb, hml, hown, hts⟩ (c_X0_parentOf l D cI cZ f fa fb fc n (fo_cp G) va mk (j) (hj) hn) (cwV 1 hts gX0_depthOf_X0_parentOf rfl rfl rfl (by decide +kernel) ⟨Nat.le_of_ble_eq_true rfl, Nat.le_of_ble_eq_true rfl⟩) hP hK rfl rfl rfl hl rfl (Nat.le_of_ble_eq_true rfl) dX0_depthOf_4 ⟨Nat.zero_le _, Nat.zero_le _⟩ ?_
  refine lv_istore_n (lv' := [(3, .int ((fo_cp G) (j))), (2, .int (nI 0)), (0, .ref f), (1, .int (nI j))]) hx hb dX0_depthOf_7 rfl hl (by decide) rfl (fun ls hl => ?_)
  have L8 : ∀ (k8_ : Nat) (i : Nat), i ≤ fo_d G j → 64 - i < k8_ → ∀ ls, lv_has ls 4 [(0, .ref f), (1, .int (nI j)), (2, .int (nI i)), (3, .int (fo_cp G (fo_up G i j)))] → Wr0 p l e wsX0_depthOf 2 42 s m [.ref f, .int (nI j)] below meth c (nI (fo_d G j)) (F0 m 8 ls []) := by
    intro k8_
    induction k8_ with
    | zero => intro i hi hk8_; exact absurd hk8_ (Nat.not_lt_zero _)
    | succ k8_ ih8 =>
      intro i hi hk8_ ls hl
      have hd63 := fo_d_le F j
      refine lv_iload_n hx hb dX0_depthOf_8 rfl (lv_at hl 2 rfl) ?_
      refine lv_bipush (v := 64) hx hb dX0_depthOf_9 (by decide) ?_
      refine lv_icmp_ge (tgt := 31) hx hb dX0_depthOf_11 (by decide) (fun c_1 => ?_) (fun c_1 => ?_)
      · skip
        have c_1 := cn_le (a := 64) (b := i) (by omega) (by omega) c_1
        exact absurd hd63 (by omega)
      · skip
        have c_1 := cn_nle (a := 64) (b := i) (by omega) (by omega) c_1
        refine lv_iload_n hx hb dX0_depthOf_14 rfl (lv_at hl 3 rfl) ?_
        refine lv_iconst (v := -1) hx hb dX0_depthOf_15 (by decide) ?_
        refine lv_icmp_eq (tgt := 31) hx hb dX0_depthOf_16 (by decide) (fun c_2 => ?_) (fun c_2 => ?_)
        · skip
          have c_2 := (fo_cp_1 F (fo_lt F hj i)).mp c_2
          refine lv_iload_n hx hb dX0_depthOf_31 rfl (lv_at hl 2 rfl) ?_
          exact rd_i hx hb hr hlocks (by rw [← fo_d_is F hi c_2]) dX0_depthOf_32
        · skip
          have c_2 : ¬ G (fo_up G i j) = fo_up G i j := fun q => c_2 ((fo_cp_1 F (fo_lt F hj i)).mpr q)
          rw [fo_cp_n c_2, ← fo_up_s G i j] at hl
          refine lv_aload_n hx hb dX0_depthOf_19 rfl (lv_at hl 0 rfl) ?_
          refine lv_iload_n hx hb dX0_depthOf_20 rfl (lv_at hl 3 rfl) ?_
          refine rd_call ⟨hx, hb, hml, hown, hts⟩ (c_X0_parentOf l D cI cZ f fa fb fc n (fo_cp G) va mk (fo_up G (i + 1) j) (fo_lt F hj _) hn) (cwV 1 hts gX0_depthOf_X0_parentOf rfl rfl rfl (by decide +kernel) ⟨Nat.le_of_ble_eq_true rfl, Nat.le_of_ble_eq_true rfl⟩) hP hK rfl rfl rfl hl rfl (Nat.le_of_ble_eq_true rfl) dX0_depthOf_21 ⟨Nat.zero_le _, Nat.zero_le _⟩ ?_
          refine lv_istore_n (lv' := [(3, .int ((fo_cp G) (fo_up G (i + 1) j))), (0, .ref f), (1, .int (nI j)), (2, .int (nI i))]) hx hb dX0_depthOf_24 rfl hl (by decide) rfl (fun ls hl => ?_)
          refine lv_iinc (v := nI (i + 1)) (lv' := [(2, .int (nI (i + 1))), (3, .int ((fo_cp G) (fo_up G (i + 1) j))), (0, .ref f), (1, .int (nI j))]) hx hb dX0_depthOf_25 hl (k := 3) rfl (nI_1 i) (by decide) rfl (fun ls hl => ?_)
          refine lv_goto (tgt := 8) hx hb dX0_depthOf_28 (by decide) ?_
          exact ih8 (i + 1) (fo_d_gt F hi c_2) (by omega) ls (lv_sub hl [2, 3, 0, 1] rfl)
  exact L8 (64 - 0 + 1) 0 (Nat.zero_le _) (Nat.lt_succ_self _) ls (lv_sub hl [2, 3, 1, 0] rfl)
set_option maxHeartbeats 4000000 in
set_option maxRecDepth 100000 in
theorem c_X0_climb (l : Launch) (D : va_G) (cI cZ : ClassId) (f : Nat) (fa : Nat) (fb : Nat) (fc : Nat) (n : Nat) (G : Nat → Nat) (va : Nat → Int32) (mk : Nat → Bool) (F : fo_ok n G) (j : Nat) (hj : j < n) (x : Int32) (k : Nat) (hk : k ≤ fo_d G j) (hxk : x = nI k ∨ (x < 0 ∧ k = 0)) : RdM l yX0_climb wsX0_climb 2 42 D cI cZ (wF f fa fb fc cI cZ n (fo_cp G) va mk) [.ref f, .int (nI j), .int x] (nI (fo_up G k j)) := by
  refine RdM.of (cc := cX0_climb) (maxL := 5) (ret := (some .int)) (by decide) rfl (Nat.le_of_ble_eq_true rfl) ?_
  intro p e s m below meth c hx hb hr hml hown hts hlocks hP hK ls hl
  have hown : s.vm.findClass RX0 = some m.cls := hown
  have hl : lv_has ls 5 [(0, .ref f), (1, .int (nI j)), (2, .int x)] := hl
  have hn : n ≤ 64 := F.2.1
  have hd63 := fo_d_le F j
  refine lv_iload_n hx hb dX0_climb_0 rfl (lv_at hl 1 rfl) ?_
  refine lv_istore_n (lv' := [(3, .int (nI j)), (0, .ref f), (1, .int (nI j)), (2, .int x)]) hx hb dX0_climb_1 rfl hl (by decide) rfl (fun ls hl => ?_)
  refine lv_iconst (v := nI 0) hx hb dX0_climb_2 (by decide) ?_
  refine lv_istore (lv' := [(4, .int (nI 0)), (3, .int (nI j)), (0, .ref f), (1, .int (nI j)), (2, .int x)]) hx hb dX0_climb_3 hl (by decide) rfl (fun ls hl => ?_)
  have L5 : ∀ (k5_ : Nat) (i : Nat), i ≤ k → 64 - i < k5_ → ∀ ls, lv_has ls 5 [(0, .ref f), (1, .int (nI j)), (2, .int x), (3, .int (nI (fo_up G i j))), (4, .int (nI i))] → Wr0 p l e wsX0_climb 2 42 s m [.ref f, .int (nI j), .int x] below meth c (nI (fo_up G k j)) (F0 m 5 ls []) := by
    intro k5_
    induction k5_ with
    | zero => intro i hi hk5_; exact absurd hk5_ (Nat.not_lt_zero _)
    | succ k5_ ih5 =>
      intro i hi hk5_ ls hl
      refine lv_iload hx hb dX0_climb_5 (lv_at hl 4 rfl) ?_
      refine lv_iload_n hx hb dX0_climb_7 rfl (lv_at hl 2 rfl) ?_
      refine lv_icmp_ge (tgt := 30) hx hb dX0_climb_8 (by decide) (fun c_1 => ?_) (fun c_1 => ?_)
      · skip
        have c_1 := climb_ge hxk c_1 hi (by omega)
        refine lv_iload_n hx hb dX0_climb_30 rfl (lv_at hl 3 rfl) ?_
        exact rd_i hx hb hr hlocks (by rw [c_1]) dX0_climb_31
      · skip
        have c_1 := climb_lt hxk c_1 hi (by omega)
        refine lv_iload hx hb dX0_climb_11 (lv_at hl 4 rfl) ?_
        refine lv_bipush (v := 64) hx hb dX0_climb_13 (by decide) ?_
        refine lv_icmp_ge (tgt := 30) hx hb dX0_climb_15 (by decide) (fun c_2 => ?_) (fun c_2 => ?_)
        · skip
          have c_2 := cn_le (a := 64) (b := i) (by omega) (by omega) c_2
          exact absurd hd63 (by omega)
        · skip
          have c_2 := cn_nle (a := 64) (b := i) (by omega) (by omega) c_2
          refine lv_aload_n hx hb dX0_climb_18 rfl (lv_at hl 0 rfl) ?_
          refine lv_iload_n hx hb dX0_climb_19 rfl (lv_at hl 3 rfl) ?_
          refine rd_call ⟨hx, hb, hml, hown, hts⟩ (c_X0_parentOf l D cI cZ f fa fb fc n (fo_cp G) va mk (fo_up G i j) (fo_lt F hj _) hn) (cwV 1 hts gX0_climb_X0_parentOf rfl rfl rfl (by decide +kernel) ⟨Nat.le_of_ble_eq_true rfl, Nat.le_of_ble_eq_true rfl⟩) hP hK rfl rfl rfl hl rfl (Nat.le_of_ble_eq_true rfl) dX0_climb_20 ⟨Nat.zero_le _, Nat.zero_le _⟩ ?_
          rw [fo_cp_n (fo_nr F (by omega)), ← fo_up_s G i j]
          refine lv_istore_n (lv' := [(3, .int (nI (fo_up G (i + 1) j))), (0, .ref f), (1, .int (nI j)), (2, .int x), (4, .int (nI i))]) hx hb dX0_climb_23 rfl hl (by decide) rfl (fun ls hl => ?_)
          refine lv_iinc (v := nI (i + 1)) (lv' := [(4, .int (nI (i + 1))), (3, .int (nI (fo_up G (i + 1) j))), (0, .ref f), (1, .int (nI j)), (2, .int x)]) hx hb dX0_climb_24 hl (k := 4) rfl (nI_1 i) (by decide) rfl (fun ls hl => ?_)
          refine lv_goto (tgt := 5) hx hb dX0_climb_27 (by decide) ?_
          exact ih5 (i + 1) c_1 (by omega) ls (lv_sub hl [2, 3, 4, 1, 0] rfl)
  exact L5 (64 - 0 + 1) 0 (Nat.zero_le _) (Nat.lt_succ_self _) ls (lv_sub hl [2, 3, 4, 1, 0] rfl)
set_option maxHeartbeats 4000000 in
set_option maxRecDepth 100000 in
theorem c_X0_rootOf (l : Launch) (D : va_G) (cI cZ : ClassId) (f : Nat) (fa : Nat) (fb : Nat) (fc : Nat) (n : Nat) (G : Nat → Nat) (va : Nat → Int32) (mk : Nat → Bool) (F : fo_ok n G) (j : Nat) (hj : j < n) : RdM l yX0_rootOf wsX0_rootOf 3 66 D cI cZ (wF f fa fb fc cI cZ n (fo_cp G) va mk) [.ref f, .int (nI j)] (nI (fo_r G j)) := by
  refine RdM.of (cc := cX0_rootOf) (maxL := 2) (ret := (some .int)) (by decide) rfl (Nat.le_of_ble_eq_true rfl) ?_
  intro p e s m below meth c hx hb hr hml hown hts hlocks hP hK ls hl
  have hown : s.vm.findClass RX0 = some m.cls := hown
  have hl : lv_has ls 2 [(0, .ref f), (1, .int (nI j))] := hl
  refine lv_aload_n hx hb dX0_rootOf_0 rfl (lv_at hl 0 rfl) ?_
  refine lv_iload_n hx hb dX0_rootOf_1 rfl (lv_at hl 1 rfl) ?_
  refine lv_aload_n hx hb dX0_rootOf_2 rfl (lv_at hl 0 rfl) ?_
  refine lv_iload_n hx hb dX0_rootOf_3 rfl (lv_at hl 1 rfl) ?_
  refine rd_call ⟨hx, hb, hml, hown, hts⟩ (c_X0_depthOf l D cI cZ f fa fb fc n G va mk F (j) (hj)) (cwV 1 hts gX0_rootOf_X0_depthOf rfl rfl rfl (by decide +kernel) ⟨Nat.le_of_ble_eq_true rfl, Nat.le_of_ble_eq_true rfl⟩) hP hK rfl rfl rfl hl rfl (Nat.le_of_ble_eq_true rfl) dX0_rootOf_4 ⟨Nat.zero_le _, Nat.zero_le _⟩ ?_
  refine rd_call ⟨hx, hb, hml, hown, hts⟩ (c_X0_climb l D cI cZ f fa fb fc n G va mk F j hj (nI (fo_d G j)) (fo_d G j) (Nat.le_refl _) (Or.inl rfl)) (cwV 2 hts gX0_rootOf_X0_climb rfl rfl rfl (by decide +kernel) ⟨Nat.le_of_ble_eq_true rfl, Nat.le_of_ble_eq_true rfl⟩) hP hK rfl rfl rfl hl rfl (Nat.le_of_ble_eq_true rfl) dX0_rootOf_7 ⟨Nat.zero_le _, Nat.zero_le _⟩ ?_
  exact rd_i hx hb hr hlocks rfl dX0_rootOf_10
set_option maxHeartbeats 4000000 in
set_option maxRecDepth 100000 in
theorem c_X0_isBelow (l : Launch) (D : va_G) (cI cZ : ClassId) (f : Nat) (fa : Nat) (fb : Nat) (fc : Nat) (n : Nat) (G : Nat → Nat) (va : Nat → Int32) (mk : Nat → Bool) (F : fo_ok n G) (j : Nat) (hj : j < n) (t : Nat) (ht : t < n) : RdM l yX0_isBelow wsX0_isBelow 3 66 D cI cZ (wF f fa fb fc cI cZ n (fo_cp G) va mk) [.ref f, .int (nI j), .int (nI t)] (bI (fo_bel G j t)) := by
  refine RdM.of (cc := cX0_isBelow) (maxL := 4) (ret := (some .boolean)) (by decide) rfl (Nat.le_of_ble_eq_true rfl) ?_
  intro p e s m below meth c hx hb hr hml hown hts hlocks hP hK ls hl
  have hown : s.vm.findClass RX0 = some m.cls := hown
  have hl : lv_has ls 4 [(0, .ref f), (1, .int (nI j)), (2, .int (nI t))] := hl
  have hn : n ≤ 64 := F.2.1
  have hd1 := fo_d_le F j
  have hd2 := fo_d_le F t
  refine lv_aload_n hx hb dX0_isBelow_0 rfl (lv_at hl 0 rfl) ?_
  refine lv_iload_n hx hb dX0_isBelow_1 rfl (lv_at hl 1 rfl) ?_
  refine rd_call ⟨hx, hb, hml, hown, hts⟩ (c_X0_depthOf l D cI cZ f fa fb fc n G va mk F (j) (hj)) (cwV 1 hts gX0_isBelow_X0_depthOf rfl rfl rfl (by decide +kernel) ⟨Nat.le_of_ble_eq_true rfl, Nat.le_of_ble_eq_true rfl⟩) hP hK rfl rfl rfl hl rfl (Nat.le_of_ble_eq_true rfl) dX0_isBelow_2 ⟨Nat.zero_le _, Nat.zero_le _⟩ ?_
  refine lv_aload_n hx hb dX0_isBelow_5 rfl (lv_at hl 0 rfl) ?_
  refine lv_iload_n hx hb dX0_isBelow_6 rfl (lv_at hl 2 rfl) ?_
  refine rd_call ⟨hx, hb, hml, hown, hts⟩ (c_X0_depthOf l D cI cZ f fa fb fc n G va mk F (t) (ht)) (cwV 1 hts gX0_isBelow_X0_depthOf rfl rfl rfl (by decide +kernel) ⟨Nat.le_of_ble_eq_true rfl, Nat.le_of_ble_eq_true rfl⟩) hP hK rfl rfl rfl hl rfl (Nat.le_of_ble_eq_true rfl) dX0_isBelow_7 ⟨Nat.zero_le _, Nat.zero_le _⟩ ?_
  refine lv_isub hx hb dX0_isBelow_10 ?_
  refine lv_istore_n (lv' := [(3, .int ((nI (fo_d G (j))) - (nI (fo_d G (t))))), (0, .ref f), (1, .int (nI j)), (2, .int (nI t))]) hx hb dX0_isBelow_11 rfl hl (by decide) rfl (fun ls hl => ?_)
  refine lv_iload_n hx hb dX0_isBelow_12 rfl (lv_at hl 0 rfl) ?_
  refine lv_if_lt (tgt := 30) hx hb dX0_isBelow_13 (by decide) (fun c_1 => ?_) (fun c_1 => ?_)
  · skip
    have c_1 := sub_neg (by omega) (by omega) c_1
    refine lv_iconst (v := 0) hx hb dX0_isBelow_30 (by decide) ?_
    exact rd_z hx hb hr hlocks (by unfold fo_bel; simp [bI, show ¬ fo_d G t ≤ fo_d G j by omega]) dX0_isBelow_31
  · skip
    have c_1 := sub_nneg (by omega) (by omega) c_1
    refine lv_aload_n hx hb dX0_isBelow_16 rfl (lv_at hl 1 rfl) ?_
    refine lv_iload_n hx hb dX0_isBelow_17 rfl (lv_at hl 2 rfl) ?_
    refine lv_iload_n hx hb dX0_isBelow_18 rfl (lv_at hl 0 rfl) ?_
    refine rd_call ⟨hx, hb, hml, hown, hts⟩ (c_X0_climb l D cI cZ f fa fb fc n G va mk F j hj (nI (fo_d G j) - nI (fo_d G t)) (fo_d G j - fo_d G t) (Nat.sub_le _ _) (Or.inl (pk_sub c_1))) (cwV 2 hts gX0_isBelow_X0_climb rfl rfl rfl (by decide +kernel) ⟨Nat.le_of_ble_eq_true rfl, Nat.le_of_ble_eq_true rfl⟩) hP hK rfl rfl rfl hl rfl (Nat.le_of_ble_eq_true rfl) dX0_isBelow_19 ⟨Nat.zero_le _, Nat.zero_le _⟩ ?_
    refine lv_iload_n hx hb dX0_isBelow_22 rfl (lv_at hl 3 rfl) ?_
    have hul := fo_lt F hj (fo_d G j - fo_d G t)
    refine lv_icmp_ne (tgt := 30) hx hb dX0_isBelow_23 (by decide) (fun c_2 => ?_) (fun c_2 => ?_)
    · skip
      have c_2 := cn_ne (a := (fo_up G (fo_d G j - fo_d G t) j)) (b := t) (by omega) (by omega) c_2
      refine lv_iconst (v := 0) hx hb dX0_isBelow_30 (by decide) ?_
      exact rd_z hx hb hr hlocks (by unfold fo_bel; simp [bI, c_2]) dX0_isBelow_31
    · skip
      have c_2 := cn_eq (a := (fo_up G (fo_d G j - fo_d G t) j)) (b := t) (by omega) (by omega) c_2
      refine lv_iconst (v := 1) hx hb dX0_isBelow_26 (by decide) ?_
      refine lv_goto (tgt := 31) hx hb dX0_isBelow_27 (by decide) ?_
      exact rd_z hx hb hr hlocks (by unfold fo_bel; simp [bI, c_1, c_2]) dX0_isBelow_31
set_option maxHeartbeats 4000000 in
set_option maxRecDepth 100000 in
theorem c_X0_countBelow (l : Launch) (D : va_G) (cI cZ : ClassId) (f : Nat) (fa : Nat) (fb : Nat) (fc : Nat) (n : Nat) (G : Nat → Nat) (va : Nat → Int32) (mk : Nat → Bool) (F : fo_ok n G) (t : Nat) (ht : t < n) : RdM l yX0_countBelow wsX0_countBelow 4 89 D cI cZ (wF f fa fb fc cI cZ n (fo_cp G) va mk) [.ref f, .int (nI t)] (nI (fo_cnt (fun v => fo_bel G v t) n)) := by
  refine RdM.of (cc := cX0_countBelow) (maxL := 4) (ret := (some .int)) (by decide) rfl (Nat.le_of_ble_eq_true rfl) ?_
  intro p e s m below meth c hx hb hr hml hown hts hlocks hP hK ls hl
  have hown : s.vm.findClass RX0 = some m.cls := hown
  have hl : lv_has ls 4 [(0, .ref f), (1, .int (nI t))] := hl
  have hf9 := hts (.fieldLink RX0 9 "DynamicForest$Forest" "size" "I") (by decide +kernel)
  have hin0 : ∀ w ∈ u_ws RX0 TX0 4, w ∈ wsX0_countBelow := by decide +kernel
  have hn : n ≤ 64 := F.2.1
  refine lv_iconst (v := nI 0) hx hb dX0_countBelow_0 (by decide) ?_
  refine lv_istore_n (lv' := [(2, .int (nI 0)), (0, .ref f), (1, .int (nI t))]) hx hb dX0_countBelow_1 rfl hl (by decide) rfl (fun ls hl => ?_)
  refine lv_iconst (v := nI 0) hx hb dX0_countBelow_2 (by decide) ?_
  refine lv_istore_n (lv' := [(3, .int (nI 0)), (2, .int (nI 0)), (0, .ref f), (1, .int (nI t))]) hx hb dX0_countBelow_3 rfl hl (by decide) rfl (fun ls hl => ?_)
  have L4 : ∀ (k4_ : Nat) (i : Nat), i ≤ n → n - i < k4_ → ∀ ls, lv_has ls 4 [(0, .ref f), (1, .int (nI t)), (2, .int (nI (fo_cnt (fun v => fo_bel G v t) i))), (3, .int (nI i))] → Wr0 p l e wsX0_countBelow 4 89 s m [.ref f, .int (nI t)] below meth c (nI (fo_cnt (fun v => fo_bel G v t) n)) (F0 m 4 ls []) := by
    intro k4_
    induction k4_ with
    | zero => intro i hi hk4_; exact absurd hk4_ (Nat.not_lt_zero _)
    | succ k4_ ih4 =>
      intro i hi hk4_ ls hl
      refine lv_iload_n hx hb dX0_countBelow_4 rfl (lv_at hl 3 rfl) ?_
      refine lv_aload_n hx hb dX0_countBelow_5 rfl (lv_at hl 0 rfl) ?_
      refine va_get (D := D) (ci := 0) (v := .int (nI n)) (C := RX0) (T := TX0) (N := 4) hx hb hts hin0 hown hK hP 0 rfl rfl 0 (by decide) hf9 (fun _ h9 => h9) rfl dX0_countBelow_6 ?_
      refine lv_icmp_ge (tgt := 30) hx hb dX0_countBelow_9 (by decide) (fun c_1 => ?_) (fun c_1 => ?_)
      · skip
        have c_1 := cn_le (a := n) (b := i) (by omega) (by omega) c_1
        refine lv_iload_n hx hb dX0_countBelow_30 rfl (lv_at hl 2 rfl) ?_
        exact rd_i hx hb hr hlocks (by rw [show i = n by omega]) dX0_countBelow_31
      · skip
        have c_1 := cn_nle (a := n) (b := i) (by omega) (by omega) c_1
        refine lv_aload_n hx hb dX0_countBelow_12 rfl (lv_at hl 0 rfl) ?_
        refine lv_iload_n hx hb dX0_countBelow_13 rfl (lv_at hl 3 rfl) ?_
        refine lv_iload_n hx hb dX0_countBelow_14 rfl (lv_at hl 1 rfl) ?_
        refine rd_call ⟨hx, hb, hml, hown, hts⟩ (c_X0_isBelow l D cI cZ f fa fb fc n G va mk F i c_1 t ht) (cwV 2 hts gX0_countBelow_X0_isBelow rfl rfl rfl (by decide +kernel) ⟨Nat.le_of_ble_eq_true rfl, Nat.le_of_ble_eq_true rfl⟩) hP hK rfl rfl rfl hl rfl (Nat.le_of_ble_eq_true rfl) dX0_countBelow_15 ⟨Nat.zero_le _, Nat.zero_le _⟩ ?_
        refine lv_if_eq (tgt := 24) hx hb dX0_countBelow_18 (by decide) (fun c_2 => ?_) (fun c_2 => ?_)
        · skip
          have c_2 := bI_0 c_2
          refine lv_iinc (v := nI (i + 1)) (lv' := [(3, .int (nI (i + 1))), (0, .ref f), (1, .int (nI t)), (2, .int (nI (fo_cnt (fun v => fo_bel G v t) i)))]) hx hb dX0_countBelow_24 hl (k := 3) rfl (nI_1 i) (by decide) rfl (fun ls hl => ?_)
          refine lv_goto (tgt := 4) hx hb dX0_countBelow_27 (by decide) ?_
          rw [← fo_cnt_f (f := (fun v => fo_bel G v t)) (k := i) c_2] at hl
          exact ih4 (i + 1) (by omega) (by omega) ls (lv_sub hl [1, 2, 3, 0] rfl)
        · skip
          have c_2 := bI_1 c_2
          refine lv_iinc (v := nI ((fo_cnt (fun v => fo_bel G v t) i) + 1)) (lv' := [(2, .int (nI ((fo_cnt (fun v => fo_bel G v t) i) + 1))), (0, .ref f), (1, .int (nI t)), (3, .int (nI i))]) hx hb dX0_countBelow_21 hl (k := 2) rfl (nI_1 (fo_cnt (fun v => fo_bel G v t) i)) (by decide) rfl (fun ls hl => ?_)
          refine lv_iinc (v := nI (i + 1)) (lv' := [(3, .int (nI (i + 1))), (2, .int (nI ((fo_cnt (fun v => fo_bel G v t) i) + 1))), (0, .ref f), (1, .int (nI t))]) hx hb dX0_countBelow_24 hl (k := 3) rfl (nI_1 i) (by decide) rfl (fun ls hl => ?_)
          refine lv_goto (tgt := 4) hx hb dX0_countBelow_27 (by decide) ?_
          rw [← fo_cnt_t (f := (fun v => fo_bel G v t)) (k := i) c_2] at hl
          exact ih4 (i + 1) (by omega) (by omega) ls (lv_sub hl [2, 3, 1, 0] rfl)
  exact L4 (n - 0 + 1) 0 (Nat.zero_le _) (Nat.lt_succ_self _) ls (lv_sub hl [2, 3, 1, 0] rfl)
set_option maxHeartbeats 4000000 in
set_option maxRecDepth 100000 in
theorem c_X0_meetingPoint (l : Launch) (D : va_G) (cI cZ : ClassId) (f : Nat) (fa : Nat) (fb : Nat) (fc : Nat) (n : Nat) (G : Nat → Nat) (va : Nat → Int32) (mk : Nat → Bool) (F : fo_ok n G) (u : Nat) (v : Nat) (hu : u < n) (hv : v < n) (hro : fo_r G u = fo_r G v) : RdM l yX0_meetingPoint wsX0_meetingPoint 3 66 D cI cZ (wF f fa fb fc cI cZ n (fo_cp G) va mk) [.ref f, .int (nI u), .int (nI v)] (nI (fo_m G u v)) := by
  refine RdM.of (cc := cX0_meetingPoint) (maxL := 7) (ret := (some .int)) (by decide) rfl (Nat.le_of_ble_eq_true rfl) ?_
  intro p e s m below meth c hx hb hr hml hown hts hlocks hP hK ls hl
  have hown : s.vm.findClass RX0 = some m.cls := hown
  have hl : lv_has ls 7 [(0, .ref f), (1, .int (nI u)), (2, .int (nI v))] := hl
  have hn : n ≤ 64 := F.2.1
  have hd1 := fo_d_le F u
  have hd2 := fo_d_le F v
  have hdA := fo_d_up F u (fo_d G u - fo_d G v) (Nat.sub_le _ _)
  have hdB := fo_d_up F v (fo_d G v - fo_d G u) (Nat.sub_le _ _)
  have hrA := fo_r_up F u (fo_d G u - fo_d G v)
  have hrB := fo_r_up F v (fo_d G v - fo_d G u)
  have hlA := fo_lt F hu (fo_d G u - fo_d G v)
  have hlB := fo_lt F hv (fo_d G v - fo_d G u)
  refine lv_aload_n hx hb dX0_meetingPoint_0 rfl (lv_at hl 0 rfl) ?_
  refine lv_iload_n hx hb dX0_meetingPoint_1 rfl (lv_at hl 1 rfl) ?_
  refine rd_call ⟨hx, hb, hml, hown, hts⟩ (c_X0_depthOf l D cI cZ f fa fb fc n G va mk F (u) (hu)) (cwV 1 hts gX0_meetingPoint_X0_depthOf rfl rfl rfl (by decide +kernel) ⟨Nat.le_of_ble_eq_true rfl, Nat.le_of_ble_eq_true rfl⟩) hP hK rfl rfl rfl hl rfl (Nat.le_of_ble_eq_true rfl) dX0_meetingPoint_2 ⟨Nat.zero_le _, Nat.zero_le _⟩ ?_
  refine lv_aload_n hx hb dX0_meetingPoint_5 rfl (lv_at hl 0 rfl) ?_
  refine lv_iload_n hx hb dX0_meetingPoint_6 rfl (lv_at hl 2 rfl) ?_
  refine rd_call ⟨hx, hb, hml, hown, hts⟩ (c_X0_depthOf l D cI cZ f fa fb fc n G va mk F (v) (hv)) (cwV 1 hts gX0_meetingPoint_X0_depthOf rfl rfl rfl (by decide +kernel) ⟨Nat.le_of_ble_eq_true rfl, Nat.le_of_ble_eq_true rfl⟩) hP hK rfl rfl rfl hl rfl (Nat.le_of_ble_eq_true rfl) dX0_meetingPoint_7 ⟨Nat.zero_le _, Nat.zero_le _⟩ ?_
  refine lv_isub hx hb dX0_meetingPoint_10 ?_
  refine lv_istore_n (lv' := [(3, .int ((nI (fo_d G (u))) - (nI (fo_d G (v))))), (0, .ref f), (1, .int (nI u)), (2, .int (nI v))]) hx hb dX0_meetingPoint_11 rfl hl (by decide) rfl (fun ls hl => ?_)
  refine lv_aload_n hx hb dX0_meetingPoint_12 rfl (lv_at hl 1 rfl) ?_
  refine lv_iload_n hx hb dX0_meetingPoint_13 rfl (lv_at hl 2 rfl) ?_
  refine lv_iload_n hx hb dX0_meetingPoint_14 rfl (lv_at hl 0 rfl) ?_
  refine rd_call ⟨hx, hb, hml, hown, hts⟩ (c_X0_climb l D cI cZ f fa fb fc n G va mk F u hu (nI (fo_d G u) - nI (fo_d G v)) (fo_d G u - fo_d G v) (Nat.sub_le _ _) (sub_cl (by omega) (by omega))) (cwV 2 hts gX0_meetingPoint_X0_climb rfl rfl rfl (by decide +kernel) ⟨Nat.le_of_ble_eq_true rfl, Nat.le_of_ble_eq_true rfl⟩) hP hK rfl rfl rfl hl rfl (Nat.le_of_ble_eq_true rfl) dX0_meetingPoint_15 ⟨Nat.zero_le _, Nat.zero_le _⟩ ?_
  refine lv_istore (lv' := [(4, .int (nI (fo_up G (fo_d G u - fo_d G v) u))), (3, .int ((nI (fo_d G (u))) - (nI (fo_d G (v))))), (0, .ref f), (1, .int (nI u)), (2, .int (nI v))]) hx hb dX0_meetingPoint_18 hl (by decide) rfl (fun ls hl => ?_)
  refine lv_aload_n hx hb dX0_meetingPoint_20 rfl (lv_at hl 2 rfl) ?_
  refine lv_iload_n hx hb dX0_meetingPoint_21 rfl (lv_at hl 4 rfl) ?_
  refine lv_iload_n hx hb dX0_meetingPoint_22 rfl (lv_at hl 1 rfl) ?_
  refine lv_ineg hx hb dX0_meetingPoint_23 ?_
  refine rd_call ⟨hx, hb, hml, hown, hts⟩ (c_X0_climb l D cI cZ f fa fb fc n G va mk F v hv (-(nI (fo_d G u) - nI (fo_d G v))) (fo_d G v - fo_d G u) (Nat.sub_le _ _) (neg_cl (by omega) (by omega))) (cwV 2 hts gX0_meetingPoint_X0_climb rfl rfl rfl (by decide +kernel) ⟨Nat.le_of_ble_eq_true rfl, Nat.le_of_ble_eq_true rfl⟩) hP hK rfl rfl rfl hl rfl (Nat.le_of_ble_eq_true rfl) dX0_meetingPoint_24 ⟨Nat.zero_le _, Nat.zero_le _⟩ ?_
  refine lv_istore (lv' := [(5, .int (nI (fo_up G (fo_d G v - fo_d G u) v))), (4, .int (nI (fo_up G (fo_d G u - fo_d G v) u))), (3, .int ((nI (fo_d G (u))) - (nI (fo_d G (v))))), (0, .ref f), (1, .int (nI u)), (2, .int (nI v))]) hx hb dX0_meetingPoint_27 hl (by decide) rfl (fun ls hl => ?_)
  refine lv_iconst (v := nI 0) hx hb dX0_meetingPoint_29 (by decide) ?_
  refine lv_istore (lv' := [(6, .int (nI 0)), (5, .int (nI (fo_up G (fo_d G v - fo_d G u) v))), (4, .int (nI (fo_up G (fo_d G u - fo_d G v) u))), (3, .int ((nI (fo_d G (u))) - (nI (fo_d G (v))))), (0, .ref f), (1, .int (nI u)), (2, .int (nI v))]) hx hb dX0_meetingPoint_30 hl (by decide) rfl (fun ls hl => ?_)
  have L32 : ∀ (k32_ : Nat) (i : Nat), i ≤ fo_d G (fo_up G (fo_d G u - fo_d G v) u) → fo_mF G (64 - i) (fo_up G i (fo_up G (fo_d G u - fo_d G v) u)) (fo_up G i (fo_up G (fo_d G v - fo_d G u) v)) = fo_m G u v → 64 - i < k32_ → ∀ ls, lv_has ls 7 [(0, .ref f), (1, .int (nI u)), (2, .int (nI v)), (3, .int (nI (fo_d G u) - nI (fo_d G v))), (4, .int (nI (fo_up G i (fo_up G (fo_d G u - fo_d G v) u)))), (5, .int (nI (fo_up G i (fo_up G (fo_d G v - fo_d G u) v)))), (6, .int (nI i))] → Wr0 p l e wsX0_meetingPoint 3 66 s m [.ref f, .int (nI u), .int (nI v)] below meth c (nI (fo_m G u v)) (F0 m 32 ls []) := by
    intro k32_
    induction k32_ with
    | zero => intro i hi hm hk32_; exact absurd hk32_ (Nat.not_lt_zero _)
    | succ k32_ ih32 =>
      intro i hi hm hk32_ ls hl
      have hda := fo_d_up F (fo_up G (fo_d G u - fo_d G v) u) i hi
      have hdb := fo_d_up F (fo_up G (fo_d G v - fo_d G u) v) i (by omega)
      have hra := fo_r_up F (fo_up G (fo_d G u - fo_d G v) u) i
      have hrb := fo_r_up F (fo_up G (fo_d G v - fo_d G u) v) i
      have hla := fo_lt F hlA i
      have hlb := fo_lt F hlB i
      refine lv_iload hx hb dX0_meetingPoint_32 (lv_at hl 6 rfl) ?_
      refine lv_bipush (v := 64) hx hb dX0_meetingPoint_34 (by decide) ?_
      refine lv_icmp_ge (tgt := 68) hx hb dX0_meetingPoint_36 (by decide) (fun c_1 => ?_) (fun c_1 => ?_)
      · skip
        have c_1 := cn_le (a := 64) (b := i) (by omega) (by omega) c_1
        exact absurd hd1 (by omega)
      · skip
        have c_1 := cn_nle (a := 64) (b := i) (by omega) (by omega) c_1
        refine lv_iload hx hb dX0_meetingPoint_39 (lv_at hl 4 rfl) ?_
        refine lv_iload hx hb dX0_meetingPoint_41 (lv_at hl 5 rfl) ?_
        refine lv_icmp_eq (tgt := 68) hx hb dX0_meetingPoint_43 (by decide) (fun c_2 => ?_) (fun c_2 => ?_)
        · skip
          have c_2 := cn_eq (a := (fo_up G i (fo_up G (fo_d G u - fo_d G v) u))) (b := (fo_up G i (fo_up G (fo_d G v - fo_d G u) v))) (by omega) (by omega) c_2
          refine lv_iload hx hb dX0_meetingPoint_68 (lv_at hl 4 rfl) ?_
          exact rd_i hx hb hr hlocks (by rw [← hm, fo_mF_eq c_2]) dX0_meetingPoint_70
        · skip
          have c_2 := cn_ne (a := (fo_up G i (fo_up G (fo_d G u - fo_d G v) u))) (b := (fo_up G i (fo_up G (fo_d G v - fo_d G u) v))) (by omega) (by omega) c_2
          have hnr := fo_nrm F (a := fo_up G i (fo_up G (fo_d G u - fo_d G v) u)) (b := fo_up G i (fo_up G (fo_d G v - fo_d G u) v)) (by omega) (by rw [hra, hrb, hrA, hrB]; exact hro) c_2
          refine lv_aload_n hx hb dX0_meetingPoint_46 rfl (lv_at hl 0 rfl) ?_
          refine lv_iload hx hb dX0_meetingPoint_47 (lv_at hl 4 rfl) ?_
          refine rd_call ⟨hx, hb, hml, hown, hts⟩ (c_X0_parentOf l D cI cZ f fa fb fc n (fo_cp G) va mk (fo_up G i (fo_up G (fo_d G u - fo_d G v) u)) (fo_lt F hlA _) hn) (cwV 1 hts gX0_meetingPoint_X0_parentOf rfl rfl rfl (by decide +kernel) ⟨Nat.le_of_ble_eq_true rfl, Nat.le_of_ble_eq_true rfl⟩) hP hK rfl rfl rfl hl rfl (Nat.le_of_ble_eq_true rfl) dX0_meetingPoint_49 ⟨Nat.zero_le _, Nat.zero_le _⟩ ?_
          rw [fo_cp_n hnr.1, ← fo_up_s G i (fo_up G (fo_d G u - fo_d G v) u)]
          refine lv_istore (lv' := [(4, .int (nI (fo_up G (i + 1) (fo_up G (fo_d G u - fo_d G v) u)))), (0, .ref f), (1, .int (nI u)), (2, .int (nI v)), (3, .int (nI (fo_d G u) - nI (fo_d G v))), (5, .int (nI (fo_up G i (fo_up G (fo_d G v - fo_d G u) v)))), (6, .int (nI i))]) hx hb dX0_meetingPoint_52 hl (by decide) rfl (fun ls hl => ?_)
          refine lv_aload_n hx hb dX0_meetingPoint_54 rfl (lv_at hl 1 rfl) ?_
          refine lv_iload hx hb dX0_meetingPoint_55 (lv_at hl 5 rfl) ?_
          refine rd_call ⟨hx, hb, hml, hown, hts⟩ (c_X0_parentOf l D cI cZ f fa fb fc n (fo_cp G) va mk (fo_up G i (fo_up G (fo_d G v - fo_d G u) v)) (fo_lt F hlB _) hn) (cwV 1 hts gX0_meetingPoint_X0_parentOf rfl rfl rfl (by decide +kernel) ⟨Nat.le_of_ble_eq_true rfl, Nat.le_of_ble_eq_true rfl⟩) hP hK rfl rfl rfl hl rfl (Nat.le_of_ble_eq_true rfl) dX0_meetingPoint_57 ⟨Nat.zero_le _, Nat.zero_le _⟩ ?_
          rw [fo_cp_n hnr.2, ← fo_up_s G i (fo_up G (fo_d G v - fo_d G u) v)]
          refine lv_istore (lv' := [(5, .int (nI (fo_up G (i + 1) (fo_up G (fo_d G v - fo_d G u) v)))), (4, .int (nI (fo_up G (i + 1) (fo_up G (fo_d G u - fo_d G v) u)))), (0, .ref f), (1, .int (nI u)), (2, .int (nI v)), (3, .int (nI (fo_d G u) - nI (fo_d G v))), (6, .int (nI i))]) hx hb dX0_meetingPoint_60 hl (by decide) rfl (fun ls hl => ?_)
          refine lv_iinc (v := nI (i + 1)) (lv' := [(6, .int (nI (i + 1))), (5, .int (nI (fo_up G (i + 1) (fo_up G (fo_d G v - fo_d G u) v)))), (4, .int (nI (fo_up G (i + 1) (fo_up G (fo_d G u - fo_d G v) u)))), (0, .ref f), (1, .int (nI u)), (2, .int (nI v)), (3, .int (nI (fo_d G u) - nI (fo_d G v)))]) hx hb dX0_meetingPoint_62 hl (k := 6) rfl (nI_1 i) (by decide) rfl (fun ls hl => ?_)
          refine lv_goto (tgt := 32) hx hb dX0_meetingPoint_65 (by decide) ?_
          exact ih32 (i + 1) (by have := fo_d_gt F hi hnr.1; omega) (by rw [← hm, fo_mF_st (by omega) c_2, fo_up_s, fo_up_s]) (by omega) ls (lv_sub hl [3, 4, 5, 6, 2, 1, 0] rfl)
  exact L32 (64 - 0 + 1) 0 (Nat.zero_le _) rfl (Nat.lt_succ_self _) ls (lv_sub hl [4, 5, 6, 3, 2, 1, 0] rfl)
set_option maxHeartbeats 4000000 in
set_option maxRecDepth 100000 in
theorem c_X0_edgesBetween (l : Launch) (D : va_G) (cI cZ : ClassId) (f : Nat) (fa : Nat) (fb : Nat) (fc : Nat) (n : Nat) (G : Nat → Nat) (va : Nat → Int32) (mk : Nat → Bool) (F : fo_ok n G) (u : Nat) (v : Nat) (hu : u < n) (hv : v < n) (hro : fo_r G u = fo_r G v) : RdM l yX0_edgesBetween wsX0_edgesBetween 4 92 D cI cZ (wF f fa fb fc cI cZ n (fo_cp G) va mk) [.ref f, .int (nI u), .int (nI v)] (nI (fo_dist G u v)) := by
  refine RdM.of (cc := cX0_edgesBetween) (maxL := 3) (ret := (some .int)) (by decide) rfl (Nat.le_of_ble_eq_true rfl) ?_
  intro p e s m below meth c hx hb hr hml hown hts hlocks hP hK ls hl
  have hown : s.vm.findClass RX0 = some m.cls := hown
  have hl : lv_has ls 3 [(0, .ref f), (1, .int (nI u)), (2, .int (nI v))] := hl
  refine lv_aload_n hx hb dX0_edgesBetween_0 rfl (lv_at hl 0 rfl) ?_
  refine lv_iload_n hx hb dX0_edgesBetween_1 rfl (lv_at hl 1 rfl) ?_
  refine rd_call ⟨hx, hb, hml, hown, hts⟩ (c_X0_depthOf l D cI cZ f fa fb fc n G va mk F (u) (hu)) (cwV 1 hts gX0_edgesBetween_X0_depthOf rfl rfl rfl (by decide +kernel) ⟨Nat.le_of_ble_eq_true rfl, Nat.le_of_ble_eq_true rfl⟩) hP hK rfl rfl rfl hl rfl (Nat.le_of_ble_eq_true rfl) dX0_edgesBetween_2 ⟨Nat.zero_le _, Nat.zero_le _⟩ ?_
  refine lv_aload_n hx hb dX0_edgesBetween_5 rfl (lv_at hl 0 rfl) ?_
  refine lv_iload_n hx hb dX0_edgesBetween_6 rfl (lv_at hl 2 rfl) ?_
  refine rd_call ⟨hx, hb, hml, hown, hts⟩ (c_X0_depthOf l D cI cZ f fa fb fc n G va mk F (v) (hv)) (cwV 1 hts gX0_edgesBetween_X0_depthOf rfl rfl rfl (by decide +kernel) ⟨Nat.le_of_ble_eq_true rfl, Nat.le_of_ble_eq_true rfl⟩) hP hK rfl rfl rfl hl rfl (Nat.le_of_ble_eq_true rfl) dX0_edgesBetween_7 ⟨Nat.zero_le _, Nat.zero_le _⟩ ?_
  refine lv_iadd hx hb dX0_edgesBetween_10 ?_
  refine lv_iconst (v := 2) hx hb dX0_edgesBetween_11 (by decide) ?_
  refine lv_aload_n hx hb dX0_edgesBetween_12 rfl (lv_at hl 0 rfl) ?_
  refine lv_aload_n hx hb dX0_edgesBetween_13 rfl (lv_at hl 0 rfl) ?_
  refine lv_iload_n hx hb dX0_edgesBetween_14 rfl (lv_at hl 1 rfl) ?_
  refine lv_iload_n hx hb dX0_edgesBetween_15 rfl (lv_at hl 2 rfl) ?_
  refine rd_call ⟨hx, hb, hml, hown, hts⟩ (c_X0_meetingPoint l D cI cZ f fa fb fc n G va mk F u v hu hv hro) (cwV 2 hts gX0_edgesBetween_X0_meetingPoint rfl rfl rfl (by decide +kernel) ⟨Nat.le_of_ble_eq_true rfl, Nat.le_of_ble_eq_true rfl⟩) hP hK rfl rfl rfl hl rfl (Nat.le_of_ble_eq_true rfl) dX0_edgesBetween_16 ⟨Nat.zero_le _, Nat.zero_le _⟩ ?_
  refine rd_call ⟨hx, hb, hml, hown, hts⟩ (c_X0_depthOf l D cI cZ f fa fb fc n G va mk F (fo_m G u v) (fo_m_lt F hro hu)) (cwV 1 hts gX0_edgesBetween_X0_depthOf rfl rfl rfl (by decide +kernel) ⟨Nat.le_of_ble_eq_true rfl, Nat.le_of_ble_eq_true rfl⟩) hP hK rfl rfl rfl hl rfl (Nat.le_of_ble_eq_true rfl) dX0_edgesBetween_19 ⟨Nat.zero_le _, Nat.zero_le _⟩ ?_
  refine lv_imul hx hb dX0_edgesBetween_22 ?_
  refine lv_isub hx hb dX0_edgesBetween_23 ?_
  exact rd_i hx hb hr hlocks (fo_dist_v F hro) dX0_edgesBetween_24
