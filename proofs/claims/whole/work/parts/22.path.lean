set_option maxHeartbeats 4000000 in
set_option maxRecDepth 100000 in
theorem c_X0_farthestFrom (l : Launch) (D : va_G) (cI cZ : ClassId) (f : Nat) (fa : Nat) (fb : Nat) (fc : Nat) (n : Nat) (G : Nat → Nat) (va : Nat → Int32) (mk : Nat → Bool) (F : fo_ok n G) (v : Nat) (hv : v < n) : RdM l yX0_farthestFrom wsX0_farthestFrom 5 114 D cI cZ (wF f fa fb fc cI cZ n (fo_cp G) va mk) [.ref f, .int (nI v)] (nI (fo_fs G v n).1) := by
  refine RdM.of (cc := cX0_farthestFrom) (maxL := 7) (ret := (some .int)) (by decide) rfl (Nat.le_of_ble_eq_true rfl) ?_
  intro p e s m below meth c hx hb hr hml hown hts hlocks hP hK ls hl
  have hown : s.vm.findClass RX0 = some m.cls := hown
  have hl : lv_has ls 7 [(0, .ref f), (1, .int (nI v))] := hl
  have hf9 := hts (.fieldLink RX0 9 "DynamicForest$Forest" "size" "I") (by decide +kernel)
  have hin0 : ∀ w ∈ u_ws RX0 TX0 4, w ∈ wsX0_farthestFrom := by decide +kernel
  have hn : n ≤ 64 := F.2.1
  have hlv := fo_r_lt F hv
  refine lv_aload_n hx hb dX0_farthestFrom_0 rfl (lv_at hl 0 rfl) ?_
  refine lv_iload_n hx hb dX0_farthestFrom_1 rfl (lv_at hl 1 rfl) ?_
  refine rd_call ⟨hx, hb, hml, hown, hts⟩ (c_X0_rootOf l D cI cZ f fa fb fc n G va mk F (v) (hv)) (cwV 1 hts gX0_farthestFrom_X0_rootOf rfl rfl rfl (by decide +kernel) ⟨Nat.le_of_ble_eq_true rfl, Nat.le_of_ble_eq_true rfl⟩) hP hK rfl rfl rfl hl rfl (Nat.le_of_ble_eq_true rfl) dX0_farthestFrom_2 ⟨Nat.zero_le _, Nat.zero_le _⟩ ?_
  refine lv_istore_n (lv' := [(2, .int (nI (fo_r G (v)))), (0, .ref f), (1, .int (nI v))]) hx hb dX0_farthestFrom_5 rfl hl (by decide) rfl (fun ls hl => ?_)
  refine lv_iload_n hx hb dX0_farthestFrom_6 rfl (lv_at hl 2 rfl) ?_
  refine lv_istore_n (lv' := [(3, .int (nI v)), (2, .int (nI (fo_r G (v)))), (0, .ref f), (1, .int (nI v))]) hx hb dX0_farthestFrom_7 rfl hl (by decide) rfl (fun ls hl => ?_)
  refine lv_iconst (v := nI 0) hx hb dX0_farthestFrom_8 (by decide) ?_
  refine lv_istore (lv' := [(4, .int (nI 0)), (3, .int (nI v)), (2, .int (nI (fo_r G (v)))), (0, .ref f), (1, .int (nI v))]) hx hb dX0_farthestFrom_9 hl (by decide) rfl (fun ls hl => ?_)
  refine lv_iconst (v := nI 0) hx hb dX0_farthestFrom_11 (by decide) ?_
  refine lv_istore (lv' := [(5, .int (nI 0)), (4, .int (nI 0)), (3, .int (nI v)), (2, .int (nI (fo_r G (v)))), (0, .ref f), (1, .int (nI v))]) hx hb dX0_farthestFrom_12 hl (by decide) rfl (fun ls hl => ?_)
  have L14 : ∀ (k14_ : Nat) (i : Nat), i ≤ n → n - i < k14_ → ∀ ls, lv_has ls 7 [(0, .ref f), (1, .int (nI v)), (2, .int (nI (fo_r G v))), (3, .int (nI (fo_fs G v i).1)), (4, .int (nI (fo_fs G v i).2)), (5, .int (nI i))] → Wr0 p l e wsX0_farthestFrom 5 114 s m [.ref f, .int (nI v)] below meth c (nI (fo_fs G v n).1) (F0 m 14 ls []) := by
    intro k14_
    induction k14_ with
    | zero => intro i hi hk14_; exact absurd hk14_ (Nat.not_lt_zero _)
    | succ k14_ ih14 =>
      intro i hi hk14_ ls hl
      have hms := fo_fs_le F hv hi
      have hds := fo_dist_le F v i
      refine lv_iload hx hb dX0_farthestFrom_14 (lv_at hl 5 rfl) ?_
      refine lv_aload_n hx hb dX0_farthestFrom_16 rfl (lv_at hl 0 rfl) ?_
      refine va_get (D := D) (ci := 0) (v := .int (nI n)) (C := RX0) (T := TX0) (N := 4) hx hb hts hin0 hown hK hP 0 rfl rfl 0 (by decide) hf9 (fun _ h9 => h9) rfl dX0_farthestFrom_17 ?_
      refine lv_icmp_ge (tgt := 66) hx hb dX0_farthestFrom_20 (by decide) (fun c_20 => ?_) (fun c_20 => ?_)
      · skip
        have c_20 := cn_le (a := n) (b := i) (by omega) (by omega) c_20
        refine lv_iload_n hx hb dX0_farthestFrom_66 rfl (lv_at hl 3 rfl) ?_
        exact rd_i hx hb hr hlocks (by rw [show i = n by omega]) dX0_farthestFrom_67
      · skip
        have c_20 := cn_nle (a := n) (b := i) (by omega) (by omega) c_20
        refine lv_aload_n hx hb dX0_farthestFrom_23 rfl (lv_at hl 0 rfl) ?_
        refine lv_iload hx hb dX0_farthestFrom_24 (lv_at hl 5 rfl) ?_
        refine rd_call ⟨hx, hb, hml, hown, hts⟩ (c_X0_rootOf l D cI cZ f fa fb fc n G va mk F (i) (c_20)) (cwV 1 hts gX0_farthestFrom_X0_rootOf rfl rfl rfl (by decide +kernel) ⟨Nat.le_of_ble_eq_true rfl, Nat.le_of_ble_eq_true rfl⟩) hP hK rfl rfl rfl hl rfl (Nat.le_of_ble_eq_true rfl) dX0_farthestFrom_26 ⟨Nat.zero_le _, Nat.zero_le _⟩ ?_
        refine lv_iload_n hx hb dX0_farthestFrom_29 rfl (lv_at hl 2 rfl) ?_
        have hli := fo_r_lt F c_20
        refine lv_icmp_ne (tgt := 43) hx hb dX0_farthestFrom_30 (by decide) (fun c_30 => ?_) (fun c_30 => ?_)
        · skip
          have c_30 := cn_ne (a := (fo_r G (i))) (b := (fo_r G v)) (by omega) (by omega) c_30
          refine lv_iconst (v := nI 0) hx hb dX0_farthestFrom_43 (by decide) ?_
          refine lv_istore (lv' := [(6, .int (nI 0)), (0, .ref f), (1, .int (nI v)), (2, .int (nI (fo_r G v))), (3, .int (nI (fo_fs G v i).1)), (4, .int (nI (fo_fs G v i).2)), (5, .int (nI i))]) hx hb dX0_farthestFrom_44 hl (by decide) rfl (fun ls hl => ?_)
          refine lv_iload hx hb dX0_farthestFrom_46 (lv_at hl 0 rfl) ?_
          refine lv_iload hx hb dX0_farthestFrom_48 (lv_at hl 5 rfl) ?_
          refine lv_icmp_le (tgt := 60) hx hb dX0_farthestFrom_50 (by decide) (fun c_50 => ?_) (fun c_50 => ?_)
          · skip
            have c_50 := cn_le (a := 0) (b := (fo_fs G v i).2) (by omega) (by omega) c_50
            refine lv_iinc (v := nI (i + 1)) (lv' := [(5, .int (nI (i + 1))), (6, .int (nI 0)), (0, .ref f), (1, .int (nI v)), (2, .int (nI (fo_r G v))), (3, .int (nI (fo_fs G v i).1)), (4, .int (nI (fo_fs G v i).2))]) hx hb dX0_farthestFrom_60 hl (k := 6) rfl (nI_1 i) (by decide) rfl (fun ls hl => ?_)
            refine lv_goto (tgt := 14) hx hb dX0_farthestFrom_63 (by decide) ?_
            exact ih14 (i + 1) (by omega) (by omega) ls (by rw [fo_fs_n (fun q => c_30 q.1)]; exact lv_sub hl [2, 3, 4, 5, 6, 0] rfl)
          · skip
            have c_50 := cn_nle (a := 0) (b := (fo_fs G v i).2) (by omega) (by omega) c_50
            exact absurd c_50 (Nat.not_lt_zero _)
        · skip
          have c_30 := cn_eq (a := (fo_r G (i))) (b := (fo_r G v)) (by omega) (by omega) c_30
          refine lv_aload_n hx hb dX0_farthestFrom_33 rfl (lv_at hl 0 rfl) ?_
          refine lv_iload_n hx hb dX0_farthestFrom_34 rfl (lv_at hl 1 rfl) ?_
          refine lv_iload hx hb dX0_farthestFrom_35 (lv_at hl 5 rfl) ?_
          refine rd_call ⟨hx, hb, hml, hown, hts⟩ (c_X0_edgesBetween l D cI cZ f fa fb fc n G va mk F v i hv c_20 (c_30.symm)) (cwV 2 hts gX0_farthestFrom_X0_edgesBetween rfl rfl rfl (by decide +kernel) ⟨Nat.le_of_ble_eq_true rfl, Nat.le_of_ble_eq_true rfl⟩) hP hK rfl rfl rfl hl rfl (Nat.le_of_ble_eq_true rfl) dX0_farthestFrom_37 ⟨Nat.zero_le _, Nat.zero_le _⟩ ?_
          refine lv_goto (tgt := 44) hx hb dX0_farthestFrom_40 (by decide) ?_
          refine lv_istore (lv' := [(6, .int (nI (fo_dist G v i))), (0, .ref f), (1, .int (nI v)), (2, .int (nI (fo_r G v))), (3, .int (nI (fo_fs G v i).1)), (4, .int (nI (fo_fs G v i).2)), (5, .int (nI i))]) hx hb dX0_farthestFrom_44 hl (by decide) rfl (fun ls hl => ?_)
          refine lv_iload hx hb dX0_farthestFrom_46 (lv_at hl 0 rfl) ?_
          refine lv_iload hx hb dX0_farthestFrom_48 (lv_at hl 5 rfl) ?_
          refine lv_icmp_le (tgt := 60) hx hb dX0_farthestFrom_50 (by decide) (fun c_50 => ?_) (fun c_50 => ?_)
          · skip
            have c_50 := cn_le (a := (fo_dist G v i)) (b := (fo_fs G v i).2) (by omega) (by omega) c_50
            refine lv_iinc (v := nI (i + 1)) (lv' := [(5, .int (nI (i + 1))), (6, .int (nI (fo_dist G v i))), (0, .ref f), (1, .int (nI v)), (2, .int (nI (fo_r G v))), (3, .int (nI (fo_fs G v i).1)), (4, .int (nI (fo_fs G v i).2))]) hx hb dX0_farthestFrom_60 hl (k := 6) rfl (nI_1 i) (by decide) rfl (fun ls hl => ?_)
            refine lv_goto (tgt := 14) hx hb dX0_farthestFrom_63 (by decide) ?_
            exact ih14 (i + 1) (by omega) (by omega) ls (by rw [fo_fs_n (fun q => by have := q.2; omega)]; exact lv_sub hl [2, 3, 4, 5, 6, 0] rfl)
          · skip
            have c_50 := cn_nle (a := (fo_dist G v i)) (b := (fo_fs G v i).2) (by omega) (by omega) c_50
            refine lv_iload hx hb dX0_farthestFrom_53 (lv_at hl 6 rfl) ?_
            refine lv_istore_n (lv' := [(3, .int (nI i)), (6, .int (nI (fo_dist G v i))), (0, .ref f), (1, .int (nI v)), (2, .int (nI (fo_r G v))), (4, .int (nI (fo_fs G v i).2)), (5, .int (nI i))]) hx hb dX0_farthestFrom_55 rfl hl (by decide) rfl (fun ls hl => ?_)
            refine lv_iload hx hb dX0_farthestFrom_56 (lv_at hl 1 rfl) ?_
            refine lv_istore (lv' := [(4, .int (nI (fo_dist G v i))), (3, .int (nI i)), (6, .int (nI (fo_dist G v i))), (0, .ref f), (1, .int (nI v)), (2, .int (nI (fo_r G v))), (5, .int (nI i))]) hx hb dX0_farthestFrom_58 hl (by decide) rfl (fun ls hl => ?_)
            refine lv_iinc (v := nI (i + 1)) (lv' := [(5, .int (nI (i + 1))), (4, .int (nI (fo_dist G v i))), (3, .int (nI i)), (6, .int (nI (fo_dist G v i))), (0, .ref f), (1, .int (nI v)), (2, .int (nI (fo_r G v)))]) hx hb dX0_farthestFrom_60 hl (k := 6) rfl (nI_1 i) (by decide) rfl (fun ls hl => ?_)
            refine lv_goto (tgt := 14) hx hb dX0_farthestFrom_63 (by decide) ?_
            exact ih14 (i + 1) (by omega) (by omega) ls (by rw [fo_fs_y c_30 (by omega)]; exact lv_sub hl [4, 5, 6, 2, 1, 0] rfl)
  exact L14 (n - 0 + 1) 0 (Nat.zero_le _) (Nat.lt_succ_self _) ls (lv_sub hl [4, 5, 3, 2, 1, 0] rfl)
set_option maxHeartbeats 4000000 in
set_option maxRecDepth 100000 in
theorem c_X0_nearestMarkOf (l : Launch) (D : va_G) (cI cZ : ClassId) (f : Nat) (fa : Nat) (fb : Nat) (fc : Nat) (n : Nat) (G : Nat → Nat) (va : Nat → Int32) (mk : Nat → Bool) (F : fo_ok n G) (v : Nat) (hv : v < n) : RdM l yX0_nearestMarkOf wsX0_nearestMarkOf 5 114 D cI cZ (wF f fa fb fc cI cZ n (fo_cp G) va mk) [.ref f, .int (nI v)] (oI (-1) (fo_ns G mk v n).1) := by
  refine RdM.of (cc := cX0_nearestMarkOf) (maxL := 8) (ret := (some .int)) (by decide) rfl (Nat.le_of_ble_eq_true rfl) ?_
  intro p e s m below meth c hx hb hr hml hown hts hlocks hP hK ls hl
  have hown : s.vm.findClass RX0 = some m.cls := hown
  have hl : lv_has ls 8 [(0, .ref f), (1, .int (nI v))] := hl
  have hf9 := hts (.fieldLink RX0 9 "DynamicForest$Forest" "size" "I") (by decide +kernel)
  have hin0 : ∀ w ∈ u_ws RX0 TX0 4, w ∈ wsX0_nearestMarkOf := by decide +kernel
  have hn : n ≤ 64 := F.2.1
  have hlv := fo_r_lt F hv
  refine lv_aload_n hx hb dX0_nearestMarkOf_0 rfl (lv_at hl 0 rfl) ?_
  refine lv_iload_n hx hb dX0_nearestMarkOf_1 rfl (lv_at hl 1 rfl) ?_
  refine rd_call ⟨hx, hb, hml, hown, hts⟩ (c_X0_rootOf l D cI cZ f fa fb fc n G va mk F (v) (hv)) (cwV 1 hts gX0_nearestMarkOf_X0_rootOf rfl rfl rfl (by decide +kernel) ⟨Nat.le_of_ble_eq_true rfl, Nat.le_of_ble_eq_true rfl⟩) hP hK rfl rfl rfl hl rfl (Nat.le_of_ble_eq_true rfl) dX0_nearestMarkOf_2 ⟨Nat.zero_le _, Nat.zero_le _⟩ ?_
  refine lv_istore_n (lv' := [(2, .int (nI (fo_r G (v)))), (0, .ref f), (1, .int (nI v))]) hx hb dX0_nearestMarkOf_5 rfl hl (by decide) rfl (fun ls hl => ?_)
  refine lv_iconst (v := -1) hx hb dX0_nearestMarkOf_6 (by decide) ?_
  refine lv_istore_n (lv' := [(3, .int (-1)), (2, .int (nI (fo_r G (v)))), (0, .ref f), (1, .int (nI v))]) hx hb dX0_nearestMarkOf_7 rfl hl (by decide) rfl (fun ls hl => ?_)
  refine lv_bipush (v := 64) hx hb dX0_nearestMarkOf_8 (by decide) ?_
  refine lv_istore (lv' := [(4, .int 64), (3, .int (-1)), (2, .int (nI (fo_r G (v)))), (0, .ref f), (1, .int (nI v))]) hx hb dX0_nearestMarkOf_10 hl (by decide) rfl (fun ls hl => ?_)
  refine lv_iconst (v := nI 0) hx hb dX0_nearestMarkOf_12 (by decide) ?_
  refine lv_istore (lv' := [(5, .int (nI 0)), (4, .int 64), (3, .int (-1)), (2, .int (nI (fo_r G (v)))), (0, .ref f), (1, .int (nI v))]) hx hb dX0_nearestMarkOf_13 hl (by decide) rfl (fun ls hl => ?_)
  have L15 : ∀ (k15_ : Nat) (i : Nat), i ≤ n → n - i < k15_ → ∀ ls, lv_has ls 8 [(0, .ref f), (1, .int (nI v)), (2, .int (nI (fo_r G v))), (3, .int (oI (-1) (fo_ns G mk v i).1)), (4, .int (nI (fo_ns G mk v i).2)), (5, .int (nI i))] → Wr0 p l e wsX0_nearestMarkOf 5 114 s m [.ref f, .int (nI v)] below meth c (oI (-1) (fo_ns G mk v n).1) (F0 m 15 ls []) := by
    intro k15_
    induction k15_ with
    | zero => intro i hi hk15_; exact absurd hk15_ (Nat.not_lt_zero _)
    | succ k15_ ih15 =>
      intro i hi hk15_ ls hl
      have hms := (fo_ns_le G mk v i).1
      have hds := fo_dist_le F v i
      refine lv_iload hx hb dX0_nearestMarkOf_15 (lv_at hl 5 rfl) ?_
      refine lv_aload_n hx hb dX0_nearestMarkOf_17 rfl (lv_at hl 0 rfl) ?_
      refine va_get (D := D) (ci := 0) (v := .int (nI n)) (C := RX0) (T := TX0) (N := 4) hx hb hts hin0 hown hK hP 0 rfl rfl 0 (by decide) hf9 (fun _ h9 => h9) rfl dX0_nearestMarkOf_18 ?_
      refine lv_icmp_ge (tgt := 89) hx hb dX0_nearestMarkOf_21 (by decide) (fun c_21 => ?_) (fun c_21 => ?_)
      · skip
        have c_21 := cn_le (a := n) (b := i) (by omega) (by omega) c_21
        refine lv_iload_n hx hb dX0_nearestMarkOf_89 rfl (lv_at hl 3 rfl) ?_
        exact rd_i hx hb hr hlocks (by rw [show i = n by omega]) dX0_nearestMarkOf_90
      · skip
        have c_21 := cn_nle (a := n) (b := i) (by omega) (by omega) c_21
        refine lv_aload_n hx hb dX0_nearestMarkOf_24 rfl (lv_at hl 0 rfl) ?_
        refine lv_iload hx hb dX0_nearestMarkOf_25 (lv_at hl 5 rfl) ?_
        refine rd_call ⟨hx, hb, hml, hown, hts⟩ (c_X0_isMarked l D cI cZ f fa fb fc n (fo_cp G) va mk i c_21 hn) (cwV 1 hts gX0_nearestMarkOf_X0_isMarked rfl rfl rfl (by decide +kernel) ⟨Nat.le_of_ble_eq_true rfl, Nat.le_of_ble_eq_true rfl⟩) hP hK rfl rfl rfl hl rfl (Nat.le_of_ble_eq_true rfl) dX0_nearestMarkOf_27 ⟨Nat.zero_le _, Nat.zero_le _⟩ ?_
        refine lv_if_eq (tgt := 47) hx hb dX0_nearestMarkOf_30 (by decide) (fun c_30 => ?_) (fun c_30 => ?_)
        · skip
          have c_30 := bI_0 c_30
          refine lv_iconst (v := 0) hx hb dX0_nearestMarkOf_47 (by decide) ?_
          refine lv_istore (lv' := [(6, .int 0), (0, .ref f), (1, .int (nI v)), (2, .int (nI (fo_r G v))), (3, .int (oI (-1) (fo_ns G mk v i).1)), (4, .int (nI (fo_ns G mk v i).2)), (5, .int (nI i))]) hx hb dX0_nearestMarkOf_48 hl (by decide) rfl (fun ls hl => ?_)
          refine lv_iload hx hb dX0_nearestMarkOf_50 (lv_at hl 0 rfl) ?_
          refine lv_if_eq (tgt := 65) hx hb dX0_nearestMarkOf_52 (by decide) (fun c_52 => ?_) (fun c_52 => ?_)
          · skip
            refine lv_bipush (v := 64) hx hb dX0_nearestMarkOf_65 (by decide) ?_
            refine lv_istore (lv' := [(7, .int 64), (6, .int 0), (0, .ref f), (1, .int (nI v)), (2, .int (nI (fo_r G v))), (3, .int (oI (-1) (fo_ns G mk v i).1)), (4, .int (nI (fo_ns G mk v i).2)), (5, .int (nI i))]) hx hb dX0_nearestMarkOf_67 hl (by decide) rfl (fun ls hl => ?_)
            refine lv_iload hx hb dX0_nearestMarkOf_69 (lv_at hl 0 rfl) ?_
            refine lv_iload hx hb dX0_nearestMarkOf_71 (lv_at hl 6 rfl) ?_
            refine lv_icmp_ge (tgt := 83) hx hb dX0_nearestMarkOf_73 (by decide) (fun c_73 => ?_) (fun c_73 => ?_)
            · skip
              have c_73 := cn_le (a := (fo_ns G mk v i).2) (b := 64) (by omega) (by omega) c_73
              refine lv_iinc (v := nI (i + 1)) (lv' := [(5, .int (nI (i + 1))), (7, .int 64), (6, .int 0), (0, .ref f), (1, .int (nI v)), (2, .int (nI (fo_r G v))), (3, .int (oI (-1) (fo_ns G mk v i).1)), (4, .int (nI (fo_ns G mk v i).2))]) hx hb dX0_nearestMarkOf_83 hl (k := 7) rfl (nI_1 i) (by decide) rfl (fun ls hl => ?_)
              refine lv_goto (tgt := 15) hx hb dX0_nearestMarkOf_86 (by decide) ?_
              exact ih15 (i + 1) (by omega) (by omega) ls (by rw [fo_ns_n (fun q => by rw [c_30] at q; exact absurd q.1 (by decide))]; exact lv_sub hl [3, 4, 5, 6, 7, 0] rfl)
            · skip
              have c_73 := cn_nle (a := (fo_ns G mk v i).2) (b := 64) (by omega) (by omega) c_73
              exact absurd hms (by omega)
          · skip
            exact absurd rfl c_52
        · skip
          have c_30 := bI_1 c_30
          refine lv_aload_n hx hb dX0_nearestMarkOf_33 rfl (lv_at hl 0 rfl) ?_
          refine lv_iload hx hb dX0_nearestMarkOf_34 (lv_at hl 5 rfl) ?_
          refine rd_call ⟨hx, hb, hml, hown, hts⟩ (c_X0_rootOf l D cI cZ f fa fb fc n G va mk F (i) (c_21)) (cwV 1 hts gX0_nearestMarkOf_X0_rootOf rfl rfl rfl (by decide +kernel) ⟨Nat.le_of_ble_eq_true rfl, Nat.le_of_ble_eq_true rfl⟩) hP hK rfl rfl rfl hl rfl (Nat.le_of_ble_eq_true rfl) dX0_nearestMarkOf_36 ⟨Nat.zero_le _, Nat.zero_le _⟩ ?_
          refine lv_iload_n hx hb dX0_nearestMarkOf_39 rfl (lv_at hl 2 rfl) ?_
          have hli := fo_r_lt F c_21
          refine lv_icmp_ne (tgt := 47) hx hb dX0_nearestMarkOf_40 (by decide) (fun c_40 => ?_) (fun c_40 => ?_)
          · skip
            have c_40 := cn_ne (a := (fo_r G (i))) (b := (fo_r G v)) (by omega) (by omega) c_40
            refine lv_iconst (v := 0) hx hb dX0_nearestMarkOf_47 (by decide) ?_
            refine lv_istore (lv' := [(6, .int 0), (0, .ref f), (1, .int (nI v)), (2, .int (nI (fo_r G v))), (3, .int (oI (-1) (fo_ns G mk v i).1)), (4, .int (nI (fo_ns G mk v i).2)), (5, .int (nI i))]) hx hb dX0_nearestMarkOf_48 hl (by decide) rfl (fun ls hl => ?_)
            refine lv_iload hx hb dX0_nearestMarkOf_50 (lv_at hl 0 rfl) ?_
            refine lv_if_eq (tgt := 65) hx hb dX0_nearestMarkOf_52 (by decide) (fun c_52 => ?_) (fun c_52 => ?_)
            · skip
              refine lv_bipush (v := 64) hx hb dX0_nearestMarkOf_65 (by decide) ?_
              refine lv_istore (lv' := [(7, .int 64), (6, .int 0), (0, .ref f), (1, .int (nI v)), (2, .int (nI (fo_r G v))), (3, .int (oI (-1) (fo_ns G mk v i).1)), (4, .int (nI (fo_ns G mk v i).2)), (5, .int (nI i))]) hx hb dX0_nearestMarkOf_67 hl (by decide) rfl (fun ls hl => ?_)
              refine lv_iload hx hb dX0_nearestMarkOf_69 (lv_at hl 0 rfl) ?_
              refine lv_iload hx hb dX0_nearestMarkOf_71 (lv_at hl 6 rfl) ?_
              refine lv_icmp_ge (tgt := 83) hx hb dX0_nearestMarkOf_73 (by decide) (fun c_73 => ?_) (fun c_73 => ?_)
              · skip
                have c_73 := cn_le (a := (fo_ns G mk v i).2) (b := 64) (by omega) (by omega) c_73
                refine lv_iinc (v := nI (i + 1)) (lv' := [(5, .int (nI (i + 1))), (7, .int 64), (6, .int 0), (0, .ref f), (1, .int (nI v)), (2, .int (nI (fo_r G v))), (3, .int (oI (-1) (fo_ns G mk v i).1)), (4, .int (nI (fo_ns G mk v i).2))]) hx hb dX0_nearestMarkOf_83 hl (k := 7) rfl (nI_1 i) (by decide) rfl (fun ls hl => ?_)
                refine lv_goto (tgt := 15) hx hb dX0_nearestMarkOf_86 (by decide) ?_
                exact ih15 (i + 1) (by omega) (by omega) ls (by rw [fo_ns_n (fun q => c_40 q.2.1)]; exact lv_sub hl [3, 4, 5, 6, 7, 0] rfl)
              · skip
                have c_73 := cn_nle (a := (fo_ns G mk v i).2) (b := 64) (by omega) (by omega) c_73
                exact absurd hms (by omega)
            · skip
              exact absurd rfl c_52
          · skip
            have c_40 := cn_eq (a := (fo_r G (i))) (b := (fo_r G v)) (by omega) (by omega) c_40
            refine lv_iconst (v := 1) hx hb dX0_nearestMarkOf_43 (by decide) ?_
            refine lv_goto (tgt := 48) hx hb dX0_nearestMarkOf_44 (by decide) ?_
            refine lv_istore (lv' := [(6, .int 1), (0, .ref f), (1, .int (nI v)), (2, .int (nI (fo_r G v))), (3, .int (oI (-1) (fo_ns G mk v i).1)), (4, .int (nI (fo_ns G mk v i).2)), (5, .int (nI i))]) hx hb dX0_nearestMarkOf_48 hl (by decide) rfl (fun ls hl => ?_)
            refine lv_iload hx hb dX0_nearestMarkOf_50 (lv_at hl 0 rfl) ?_
            refine lv_if_eq (tgt := 65) hx hb dX0_nearestMarkOf_52 (by decide) (fun c_52 => ?_) (fun c_52 => ?_)
            · skip
              exact absurd c_52 (by decide)
            · skip
              refine lv_aload_n hx hb dX0_nearestMarkOf_55 rfl (lv_at hl 1 rfl) ?_
              refine lv_iload_n hx hb dX0_nearestMarkOf_56 rfl (lv_at hl 2 rfl) ?_
              refine lv_iload hx hb dX0_nearestMarkOf_57 (lv_at hl 6 rfl) ?_
              refine rd_call ⟨hx, hb, hml, hown, hts⟩ (c_X0_edgesBetween l D cI cZ f fa fb fc n G va mk F v i hv c_21 (c_40.symm)) (cwV 2 hts gX0_nearestMarkOf_X0_edgesBetween rfl rfl rfl (by decide +kernel) ⟨Nat.le_of_ble_eq_true rfl, Nat.le_of_ble_eq_true rfl⟩) hP hK rfl rfl rfl hl rfl (Nat.le_of_ble_eq_true rfl) dX0_nearestMarkOf_59 ⟨Nat.zero_le _, Nat.zero_le _⟩ ?_
              refine lv_goto (tgt := 67) hx hb dX0_nearestMarkOf_62 (by decide) ?_
              refine lv_istore (lv' := [(7, .int (nI (fo_dist G v i))), (6, .int 1), (0, .ref f), (1, .int (nI v)), (2, .int (nI (fo_r G v))), (3, .int (oI (-1) (fo_ns G mk v i).1)), (4, .int (nI (fo_ns G mk v i).2)), (5, .int (nI i))]) hx hb dX0_nearestMarkOf_67 hl (by decide) rfl (fun ls hl => ?_)
              refine lv_iload hx hb dX0_nearestMarkOf_69 (lv_at hl 0 rfl) ?_
              refine lv_iload hx hb dX0_nearestMarkOf_71 (lv_at hl 6 rfl) ?_
              refine lv_icmp_ge (tgt := 83) hx hb dX0_nearestMarkOf_73 (by decide) (fun c_73 => ?_) (fun c_73 => ?_)
              · skip
                have c_73 := cn_le (a := (fo_ns G mk v i).2) (b := (fo_dist G v i)) (by omega) (by omega) c_73
                refine lv_iinc (v := nI (i + 1)) (lv' := [(5, .int (nI (i + 1))), (7, .int (nI (fo_dist G v i))), (6, .int 1), (0, .ref f), (1, .int (nI v)), (2, .int (nI (fo_r G v))), (3, .int (oI (-1) (fo_ns G mk v i).1)), (4, .int (nI (fo_ns G mk v i).2))]) hx hb dX0_nearestMarkOf_83 hl (k := 7) rfl (nI_1 i) (by decide) rfl (fun ls hl => ?_)
                refine lv_goto (tgt := 15) hx hb dX0_nearestMarkOf_86 (by decide) ?_
                exact ih15 (i + 1) (by omega) (by omega) ls (by rw [fo_ns_n (fun q => by have := q.2.2; omega)]; exact lv_sub hl [3, 4, 5, 6, 7, 0] rfl)
              · skip
                have c_73 := cn_nle (a := (fo_ns G mk v i).2) (b := (fo_dist G v i)) (by omega) (by omega) c_73
                refine lv_iload hx hb dX0_nearestMarkOf_76 (lv_at hl 7 rfl) ?_
                refine lv_istore_n (lv' := [(3, .int (nI i)), (7, .int (nI (fo_dist G v i))), (6, .int 1), (0, .ref f), (1, .int (nI v)), (2, .int (nI (fo_r G v))), (4, .int (nI (fo_ns G mk v i).2)), (5, .int (nI i))]) hx hb dX0_nearestMarkOf_78 rfl hl (by decide) rfl (fun ls hl => ?_)
                refine lv_iload hx hb dX0_nearestMarkOf_79 (lv_at hl 1 rfl) ?_
                refine lv_istore (lv' := [(4, .int (nI (fo_dist G v i))), (3, .int (nI i)), (7, .int (nI (fo_dist G v i))), (6, .int 1), (0, .ref f), (1, .int (nI v)), (2, .int (nI (fo_r G v))), (5, .int (nI i))]) hx hb dX0_nearestMarkOf_81 hl (by decide) rfl (fun ls hl => ?_)
                refine lv_iinc (v := nI (i + 1)) (lv' := [(5, .int (nI (i + 1))), (4, .int (nI (fo_dist G v i))), (3, .int (nI i)), (7, .int (nI (fo_dist G v i))), (6, .int 1), (0, .ref f), (1, .int (nI v)), (2, .int (nI (fo_r G v)))]) hx hb dX0_nearestMarkOf_83 hl (k := 7) rfl (nI_1 i) (by decide) rfl (fun ls hl => ?_)
                refine lv_goto (tgt := 15) hx hb dX0_nearestMarkOf_86 (by decide) ?_
                exact ih15 (i + 1) (by omega) (by omega) ls (by rw [fo_ns_y c_30 c_40 (by omega)]; exact lv_sub hl [5, 6, 7, 2, 1, 0] rfl)
  exact L15 (n - 0 + 1) 0 (Nat.zero_le _) (Nat.lt_succ_self _) ls (lv_sub hl [4, 5, 3, 2, 1, 0] rfl)
set_option maxHeartbeats 4000000 in
set_option maxRecDepth 100000 in
theorem c_X0_turnTowards (l : Launch) (D : va_G) (cI cZ : ClassId) (f : Nat) (fa : Nat) (fb : Nat) (fc : Nat) (n : Nat) (G : Nat → Nat) (va : Nat → Int32) (mk : Nat → Bool) (F : fo_ok n G) (v : Nat) (hv : v < n) : WrM l yX0_turnTowards wsX0_turnTowards 3 65 D cI cZ (wF f fa fb fc cI cZ n (fo_cp G) va mk) (wF f fa fb fc cI cZ n (fo_cp (fo_rr G v)) va mk) [.ref f, .int (nI v)] none := by
  refine WrM.of (cc := cX0_turnTowards) (maxL := 7) (ret := none) (by decide) rfl (Nat.le_of_ble_eq_true rfl) ?_
  intro p e s m below meth c hx hb hr hml hown hts hlocks hP hK hD hS ls hl
  have hown : s.vm.findClass RX0 = some m.cls := hown
  have hl : lv_has ls 7 [(0, .ref f), (1, .int (nI v))] := hl
  have hP : va_P D vwCl (wF f fa fb fc cI cZ n (fo_cp G) va mk) s.heap := hP
  have hn : n ≤ 64 := F.2.1
  have hd63 := fo_d_le F v
  refine lv_aload_n hx hb dX0_turnTowards_0 rfl (lv_at hl 0 rfl) ?_
  refine lv_iload_n hx hb dX0_turnTowards_1 rfl (lv_at hl 1 rfl) ?_
  refine rd_call ⟨hx, hb, hml, hown, hts⟩ (c_X0_depthOf l D cI cZ f fa fb fc n G va mk F (v) (hv)) (cwV 1 hts gX0_turnTowards_X0_depthOf rfl rfl rfl (by decide +kernel) ⟨Nat.le_of_ble_eq_true rfl, Nat.le_of_ble_eq_true rfl⟩) hP hK rfl rfl rfl hl rfl (Nat.le_of_ble_eq_true rfl) dX0_turnTowards_2 ⟨Nat.zero_le _, Nat.zero_le _⟩ ?_
  refine lv_istore_n (lv' := [(2, .int (nI (fo_d G (v)))), (0, .ref f), (1, .int (nI v))]) hx hb dX0_turnTowards_5 rfl hl (by decide) rfl (fun ls hl => ?_)
  refine lv_iconst (v := -1) hx hb dX0_turnTowards_6 (by decide) ?_
  refine lv_istore_n (lv' := [(3, .int (-1)), (2, .int (nI (fo_d G (v)))), (0, .ref f), (1, .int (nI v))]) hx hb dX0_turnTowards_7 rfl hl (by decide) rfl (fun ls hl => ?_)
  refine lv_iload_n hx hb dX0_turnTowards_8 rfl (lv_at hl 3 rfl) ?_
  refine lv_istore (lv' := [(4, .int (nI v)), (3, .int (-1)), (2, .int (nI (fo_d G (v)))), (0, .ref f), (1, .int (nI v))]) hx hb dX0_turnTowards_9 hl (by decide) rfl (fun ls hl => ?_)
  refine lv_iconst (v := nI 0) hx hb dX0_turnTowards_11 (by decide) ?_
  refine lv_istore (lv' := [(5, .int (nI 0)), (4, .int (nI v)), (3, .int (-1)), (2, .int (nI (fo_d G (v)))), (0, .ref f), (1, .int (nI v))]) hx hb dX0_turnTowards_12 hl (by decide) rfl (fun ls hl => ?_)
  have L14 : ∀ (k14_ : Nat) (i : Nat), i ≤ fo_d G v + 1 → fo_d G v + 1 - i < k14_ → ∀ (H : Heap) (locs : List Loc), va_P D vwCl (wF f fa fb fc cI cZ n (fo_cp (fo_rs G v i)) va mk) H → va_D (adr (wF f fa fb fc cI cZ n (fo_cp G) va mk)) (wF f fa fb fc cI cZ n (fo_cp (fo_rs G v i)) va mk) → va_S (adr (wF f fa fb fc cI cZ n (fo_cp G) va mk)) s.heap H locs → ∀ ls, lv_has ls 7 [(0, .ref f), (1, .int (nI v)), (2, .int (nI (fo_d G v))), (3, .int (twb G v i)), (4, .int (twa G v i)), (5, .int (nI i))] → Ww0 p l e wsX0_turnTowards 3 65 s m [.ref f, .int (nI v)] below meth c D (wF f fa fb fc cI cZ n (fo_cp G) va mk) (wF f fa fb fc cI cZ n (fo_cp (fo_rr G v)) va mk) none H locs (F0 m 14 ls []) := by
    intro k14_
    induction k14_ with
    | zero => intro i hi hk14_; exact absurd hk14_ (Nat.not_lt_zero _)
    | succ k14_ ih14 =>
      intro i hi hk14_ H locs hP hD hS ls hl
      refine lv_iload hx hb dX0_turnTowards_14 (lv_at hl 5 rfl) ?_
      refine lv_iload_n hx hb dX0_turnTowards_16 rfl (lv_at hl 2 rfl) ?_
      refine lv_icmp_gt (tgt := 48) hx hb dX0_turnTowards_17 (by decide) (fun c_17 => ?_) (fun c_17 => ?_)
      · skip
        have c_17 := cn_lt (a := (fo_d G v)) (b := i) (by omega) (by omega) c_17
        have e48 : fo_rr G v = fo_rs G v i := by unfold fo_rr; rw [show fo_d G v + 1 = i by omega]
        rw [← e48] at hP
        exact wr_v hx hb hr hlocks hP hS dX0_turnTowards_48
      · skip
        have c_17 := cn_nlt (a := (fo_d G v)) (b := i) (by omega) (by omega) c_17
        rw [twa_le c_17] at hl
        refine lv_aload_n hx hb dX0_turnTowards_20 rfl (lv_at hl 0 rfl) ?_
        refine lv_iload hx hb dX0_turnTowards_21 (lv_at hl 4 rfl) ?_
        refine rd_call ⟨hx, hb, hml, hown, hts⟩ (c_X0_parentOf l D cI cZ f fa fb fc n (fo_cp (fo_rs G v i)) va mk (fo_up G i v) (fo_lt F hv i) hn) (cwV 1 hts gX0_turnTowards_X0_parentOf rfl rfl rfl (by decide +kernel) ⟨Nat.le_of_ble_eq_true rfl, Nat.le_of_ble_eq_true rfl⟩) hP hK rfl rfl rfl hl rfl (Nat.le_of_ble_eq_true rfl) dX0_turnTowards_23 ⟨Nat.zero_le _, Nat.zero_le _⟩ ?_
        rw [turn_at F c_17]
        refine lv_istore (lv' := [(6, .int (twa G v (i + 1))), (0, .ref f), (1, .int (nI v)), (2, .int (nI (fo_d G v))), (3, .int (twb G v i)), (4, .int (nI (fo_up G i v))), (5, .int (nI i))]) hx hb dX0_turnTowards_26 hl (by decide) rfl (fun ls hl => ?_)
        refine lv_aload_n hx hb dX0_turnTowards_28 rfl (lv_at hl 1 rfl) ?_
        refine lv_iload hx hb dX0_turnTowards_29 (lv_at hl 5 rfl) ?_
        refine lv_iload_n hx hb dX0_turnTowards_31 rfl (lv_at hl 4 rfl) ?_
        refine wr_call (V1 := wF f fa fb fc cI cZ n (upd (fo_cp (fo_rs G v i)) (fo_up G i v) (twb G v i)) va mk) ⟨hx, hb, hml, hown, hts⟩ (c_X0_putParent l D cI cZ f fa fb fc n (fo_cp (fo_rs G v i)) va mk (fo_up G i v) (fo_lt F hv i) hn (twb G v i)) (cwV 2 hts gX0_turnTowards_X0_putParent rfl rfl rfl (by decide +kernel) ⟨Nat.le_of_ble_eq_true rfl, Nat.le_of_ble_eq_true rfl⟩) hP hK hD hS [0, 1, 2, 3] [] [0, 1, 2, 3] rfl rfl (by decide) rfl rfl rfl rfl rfl hl rfl (Nat.le_of_ble_eq_true rfl) dX0_turnTowards_32 ⟨Nat.zero_le _, Nat.zero_le _⟩ (fun H locs hP hD hS => ?_)
        rw [turn_set F c_17] at hP
        have hD : va_D (adr (wF f fa fb fc cI cZ n (fo_cp G) va mk)) (wF f fa fb fc cI cZ n (fo_cp (fo_rs G v (i + 1))) va mk) := vd_same hD rfl
        refine lv_iload hx hb dX0_turnTowards_35 (lv_at hl 5 rfl) ?_
        refine lv_istore_n (lv' := [(3, .int (nI (fo_up G i v))), (6, .int (twa G v (i + 1))), (0, .ref f), (1, .int (nI v)), (2, .int (nI (fo_d G v))), (4, .int (nI (fo_up G i v))), (5, .int (nI i))]) hx hb dX0_turnTowards_37 rfl hl (by decide) rfl (fun ls hl => ?_)
        refine lv_iload hx hb dX0_turnTowards_38 (lv_at hl 1 rfl) ?_
        refine lv_istore (lv' := [(4, .int (twa G v (i + 1))), (3, .int (nI (fo_up G i v))), (6, .int (twa G v (i + 1))), (0, .ref f), (1, .int (nI v)), (2, .int (nI (fo_d G v))), (5, .int (nI i))]) hx hb dX0_turnTowards_40 hl (by decide) rfl (fun ls hl => ?_)
        refine lv_iinc (v := nI (i + 1)) (lv' := [(5, .int (nI (i + 1))), (4, .int (twa G v (i + 1))), (3, .int (nI (fo_up G i v))), (6, .int (twa G v (i + 1))), (0, .ref f), (1, .int (nI v)), (2, .int (nI (fo_d G v)))]) hx hb dX0_turnTowards_42 hl (k := 6) rfl (nI_1 i) (by decide) rfl (fun ls hl => ?_)
        refine lv_goto (tgt := 14) hx hb dX0_turnTowards_45 (by decide) ?_
        exact ih14 (i + 1) (by omega) (by omega) _ _ hP hD hS ls (lv_sub hl [4, 5, 6, 2, 1, 0] rfl)
  exact L14 (fo_d G v + 1 - 0 + 1) 0 (Nat.zero_le _) (Nat.lt_succ_self _) _ _ hP hD hS ls (by rw [show twa G v 0 = nI v from twa_le (Nat.zero_le _)]; exact lv_sub hl [4, 5, 3, 2, 1, 0] rfl)
set_option maxHeartbeats 4000000 in
set_option maxRecDepth 100000 in
theorem c_X1_length (l : Launch) (D : va_G) (cI cZ : ClassId) (h : Nat) (hq : Nat) (vs : Nat → Int32) (L : Nat) (hL : L ≤ 64) : RdM l yX1_length wsX1_length 0 0 D cI cZ (wP h hq cI vs (nI L)) [.ref h] (nI L) := by
  refine RdM.of (cc := cX1_length) (maxL := 1) (ret := (some .int)) (by decide) rfl (Nat.le_of_ble_eq_true rfl) ?_
  intro p e s m below meth c hx hb hr hml hown hts hlocks hP hK ls hl
  have hown : s.vm.findClass RX1 = some m.cls := hown
  have hl : lv_has ls 1 [(0, .ref h)] := hl
  have hf15 := hts (.fieldLink RX1 15 "DynamicForest$Path" "length" "I") (by decide +kernel)
  have hin1 : ∀ w ∈ u_ws RX1 TX1 2, w ∈ wsX1_length := by decide +kernel
  refine lv_aload_n hx hb dX1_length_0 rfl (lv_at hl 0 rfl) ?_
  refine va_get (D := D) (ci := 1) (v := .int (nI L)) (C := RX1) (T := TX1) (N := 2) hx hb hts hin1 hown hK hP 0 rfl rfl 1 (by decide) hf15 (fun _ h9 => h9) rfl dX1_length_1 ?_
  exact rd_i hx hb hr hlocks rfl dX1_length_4
set_option maxHeartbeats 4000000 in
set_option maxRecDepth 100000 in
theorem c_X1_hasIndex (l : Launch) (D : va_G) (cI cZ : ClassId) (h : Nat) (hq : Nat) (vs : Nat → Int32) (L : Nat) (hL : L ≤ 64) (v : Int32) : RdM l yX1_hasIndex wsX1_hasIndex 0 0 D cI cZ (wP h hq cI vs (nI L)) [.ref h, .int v] (bI (hasB L v)) := by
  refine RdM.of (cc := cX1_hasIndex) (maxL := 2) (ret := (some .boolean)) (by decide) rfl (Nat.le_of_ble_eq_true rfl) ?_
  intro p e s m below meth c hx hb hr hml hown hts hlocks hP hK ls hl
  have hown : s.vm.findClass RX1 = some m.cls := hown
  have hl : lv_has ls 2 [(0, .ref h), (1, .int v)] := hl
  have hf15 := hts (.fieldLink RX1 15 "DynamicForest$Path" "length" "I") (by decide +kernel)
  have hin1 : ∀ w ∈ u_ws RX1 TX1 2, w ∈ wsX1_hasIndex := by decide +kernel
  refine lv_iload_n hx hb dX1_hasIndex_0 rfl (lv_at hl 1 rfl) ?_
  refine lv_if_lt (tgt := 22) hx hb dX1_hasIndex_1 (by decide) (fun c_1 => ?_) (fun c_1 => ?_)
  · skip
    refine lv_iconst (v := 0) hx hb dX1_hasIndex_22 (by decide) ?_
    exact rd_z hx hb hr hlocks (by simp [hasB, bI, c_1]) dX1_hasIndex_23
  · skip
    refine lv_iload_n hx hb dX1_hasIndex_4 rfl (lv_at hl 1 rfl) ?_
    refine lv_aload_n hx hb dX1_hasIndex_5 rfl (lv_at hl 0 rfl) ?_
    refine va_get (D := D) (ci := 1) (v := .int (nI L)) (C := RX1) (T := TX1) (N := 2) hx hb hts hin1 hown hK hP 0 rfl rfl 1 (by decide) hf15 (fun _ h9 => h9) rfl dX1_hasIndex_6 ?_
    refine lv_icmp_ge (tgt := 22) hx hb dX1_hasIndex_9 (by decide) (fun c_9 => ?_) (fun c_9 => ?_)
    · skip
      refine lv_iconst (v := 0) hx hb dX1_hasIndex_22 (by decide) ?_
      exact rd_z hx hb hr hlocks (by simp [hasB, bI, c_9]) dX1_hasIndex_23
    · skip
      refine lv_iload_n hx hb dX1_hasIndex_12 rfl (lv_at hl 1 rfl) ?_
      refine lv_bipush (v := 64) hx hb dX1_hasIndex_13 (by decide) ?_
      refine lv_icmp_ge (tgt := 22) hx hb dX1_hasIndex_15 (by decide) (fun c_15 => ?_) (fun c_15 => ?_)
      · skip
        refine lv_iconst (v := 0) hx hb dX1_hasIndex_22 (by decide) ?_
        exact rd_z hx hb hr hlocks (by simp [hasB, bI, c_15]) dX1_hasIndex_23
      · skip
        refine lv_iconst (v := 1) hx hb dX1_hasIndex_18 (by decide) ?_
        refine lv_goto (tgt := 23) hx hb dX1_hasIndex_19 (by decide) ?_
        exact rd_z hx hb hr hlocks (by simp [hasB, bI, c_1, c_9, c_15]) dX1_hasIndex_23
set_option maxHeartbeats 4000000 in
set_option maxRecDepth 100000 in
theorem c_X1_vertexAt (l : Launch) (D : va_G) (cI cZ : ClassId) (h : Nat) (hq : Nat) (vs : Nat → Int32) (L : Nat) (hL : L ≤ 64) (j : Nat) (hj : j < L) : RdM l yX1_vertexAt wsX1_vertexAt 1 21 D cI cZ (wP h hq cI vs (nI L)) [.ref h, .int (nI j)] (vs j) := by
  refine RdM.of (cc := cX1_vertexAt) (maxL := 2) (ret := (some .int)) (by decide) rfl (Nat.le_of_ble_eq_true rfl) ?_
  intro p e s m below meth c hx hb hr hml hown hts hlocks hP hK ls hl
  have hown : s.vm.findClass RX1 = some m.cls := hown
  have hl : lv_has ls 2 [(0, .ref h), (1, .int (nI j))] := hl
  have hf9 := hts (.fieldLink RX1 9 "DynamicForest$Path" "vertices" "[I") (by decide +kernel)
  have hin1 : ∀ w ∈ u_ws RX1 TX1 2, w ∈ wsX1_vertexAt := by decide +kernel
  refine lv_aload_n hx hb dX1_vertexAt_0 rfl (lv_at hl 0 rfl) ?_
  refine lv_iload_n hx hb dX1_vertexAt_1 rfl (lv_at hl 1 rfl) ?_
  refine rd_call ⟨hx, hb, hml, hown, hts⟩ (c_X1_hasIndex l D cI cZ h hq vs L hL (nI j)) (cwV 1 hts gX1_vertexAt_X1_hasIndex rfl rfl rfl (by decide +kernel) ⟨Nat.le_of_ble_eq_true rfl, Nat.le_of_ble_eq_true rfl⟩) hP hK rfl rfl rfl hl rfl (Nat.le_of_ble_eq_true rfl) dX1_vertexAt_2 ⟨Nat.zero_le _, Nat.zero_le _⟩ ?_
  refine lv_if_eq (tgt := 17) hx hb dX1_vertexAt_5 (by decide) (fun c_5 => ?_) (fun c_5 => ?_)
  · skip
    have c_5 := bI_0 c_5
    exact hasB_x hj hL c_5
  · skip
    have c_5 := bI_1 c_5
    refine lv_aload_n hx hb dX1_vertexAt_8 rfl (lv_at hl 0 rfl) ?_
    refine va_get (D := D) (ci := 1) (v := .ref hq) (C := RX1) (T := TX1) (N := 2) hx hb hts hin1 hown hK hP 0 rfl rfl 0 (by decide) hf9 (fun _ h9 => h9) rfl dX1_vertexAt_9 ?_
    refine lv_iload_n hx hb dX1_vertexAt_12 rfl (lv_at hl 1 rfl) ?_
    refine ar_i (tys := []) hx hb hK hP 1 rfl (k := j) (by omega) (by decide) dX1_vertexAt_13 ?_
    refine lv_goto (tgt := 18) hx hb dX1_vertexAt_14 (by decide) ?_
    exact rd_i hx hb hr hlocks rfl dX1_vertexAt_18
set_option maxHeartbeats 4000000 in
set_option maxRecDepth 100000 in
theorem c_X1_append (l : Launch) (D : va_G) (cI cZ : ClassId) (h : Nat) (hq : Nat) (vs : Nat → Int32) (L : Nat) (hL : L ≤ 64) (x : Int32) (hL2 : L < 64) : WrM l yX1_append wsX1_append 0 0 D cI cZ (wP h hq cI vs (nI L)) (wP h hq cI (upd vs L x) (nI (L + 1))) [.ref h, .int x] none := by
  refine WrM.of (cc := cX1_append) (maxL := 2) (ret := none) (by decide) rfl (Nat.le_of_ble_eq_true rfl) ?_
  intro p e s m below meth c hx hb hr hml hown hts hlocks hP hK hD hS ls hl
  have hown : s.vm.findClass RX1 = some m.cls := hown
  have hl : lv_has ls 2 [(0, .ref h), (1, .int x)] := hl
  have hP : va_P D vwCl (wP h hq cI vs (nI L)) s.heap := hP
  have hf15 := hts (.fieldLink RX1 15 "DynamicForest$Path" "length" "I") (by decide +kernel)
  have hf9 := hts (.fieldLink RX1 9 "DynamicForest$Path" "vertices" "[I") (by decide +kernel)
  have hin1 : ∀ w ∈ u_ws RX1 TX1 2, w ∈ wsX1_append := by decide +kernel
  refine lv_aload_n hx hb dX1_append_0 rfl (lv_at hl 0 rfl) ?_
  refine va_get (D := D) (ci := 1) (v := .int (nI L)) (C := RX1) (T := TX1) (N := 2) hx hb hts hin1 hown hK hP 0 rfl rfl 1 (by decide) hf15 (fun _ h9 => h9) rfl dX1_append_1 ?_
  refine lv_if_lt (tgt := 36) hx hb dX1_append_4 (by decide) (fun c_4 => ?_) (fun c_4 => ?_)
  · skip
    exact absurd c_4 (nI_pos (by omega))
  · skip
    refine lv_aload_n hx hb dX1_append_7 rfl (lv_at hl 0 rfl) ?_
    refine va_get (D := D) (ci := 1) (v := .int (nI L)) (C := RX1) (T := TX1) (N := 2) hx hb hts hin1 hown hK hP 0 rfl rfl 1 (by decide) hf15 (fun _ h9 => h9) rfl dX1_append_8 ?_
    refine lv_bipush (v := 64) hx hb dX1_append_11 (by decide) ?_
    refine lv_icmp_ge (tgt := 36) hx hb dX1_append_13 (by decide) (fun c_13 => ?_) (fun c_13 => ?_)
    · skip
      have c_13 := cn_le (a := 64) (b := L) (by omega) (by omega) c_13
      exact absurd hL2 (by omega)
    · skip
      have c_13 := cn_nle (a := 64) (b := L) (by omega) (by omega) c_13
      refine lv_aload_n hx hb dX1_append_16 rfl (lv_at hl 0 rfl) ?_
      refine va_get (D := D) (ci := 1) (v := .ref hq) (C := RX1) (T := TX1) (N := 2) hx hb hts hin1 hown hK hP 0 rfl rfl 0 (by decide) hf9 (fun _ h9 => h9) rfl dX1_append_17 ?_
      refine lv_aload_n hx hb dX1_append_20 rfl (lv_at hl 0 rfl) ?_
      refine va_get (D := D) (ci := 1) (v := .int (nI L)) (C := RX1) (T := TX1) (N := 2) hx hb hts hin1 hown hK hP 0 rfl rfl 1 (by decide) hf15 (fun _ h9 => h9) rfl dX1_append_21 ?_
      refine lv_iload_n hx hb dX1_append_24 rfl (lv_at hl 1 rfl) ?_
      refine ar_is hx hb hK hP hD hS 1 rfl (k := L) (by omega) (by decide) dX1_append_25 (fun H locs hP hD hS => ?_)
      have hP : va_P D vwCl (wP h hq cI (upd vs L x) (nI L)) H := hP
      have hD : va_D (adr (wP h hq cI vs (nI L))) (wP h hq cI (upd vs L x) (nI L)) := vd_same hD rfl
      refine lv_aload_n hx hb dX1_append_26 rfl (lv_at hl 0 rfl) ?_
      refine lv_dup hx hb dX1_append_27 rfl ?_
      refine va_get (D := D) (ci := 1) (v := .int (nI L)) (C := RX1) (T := TX1) (N := 2) hx hb hts hin1 hown hK hP 0 rfl rfl 1 (by decide) hf15 (fun _ h9 => h9) rfl dX1_append_28 ?_
      refine lv_iconst (v := 1) hx hb dX1_append_31 (by decide) ?_
      refine lv_iadd hx hb dX1_append_32 ?_
      rw [nI_1]
      refine va_put (D := D) (ci := 1) (v := .int (nI (L + 1))) (ty := .int) (C := RX1) (T := TX1) (N := 2) hx hb hts hin1 tyX1 tyX1_ok nmX1 hown hK hP hD hS 0 rfl rfl 1 (by decide) hf15 (fun _ h9 => h9) rfl (by decide +kernel) rfl rfl (Nat.le_of_ble_eq_true rfl) dX1_append_33 (fun H locs hP hD hS => ?_)
      have hP : va_P D vwCl (wP h hq cI (upd vs L x) (nI (L + 1))) H := hP
      have hD : va_D (adr (wP h hq cI vs (nI L))) (wP h hq cI (upd vs L x) (nI (L + 1))) := vd_same hD rfl
      exact wr_v hx hb hr hlocks hP hS dX1_append_36
set_option maxHeartbeats 4000000 in
set_option maxRecDepth 100000 in
theorem c_X1_swap (l : Launch) (D : va_G) (cI cZ : ClassId) (h : Nat) (hq : Nat) (vs : Nat → Int32) (L : Nat) (hL : L ≤ 64) (i : Nat) (j : Nat) (hi : i < L) (hj : j < L) : WrM l yX1_swap wsX1_swap 1 21 D cI cZ (wP h hq cI vs (nI L)) (wP h hq cI (upd (upd vs i (vs j)) j (vs i)) (nI L)) [.ref h, .int (nI i), .int (nI j)] none := by
  refine WrM.of (cc := cX1_swap) (maxL := 4) (ret := none) (by decide) rfl (Nat.le_of_ble_eq_true rfl) ?_
  intro p e s m below meth c hx hb hr hml hown hts hlocks hP hK hD hS ls hl
  have hown : s.vm.findClass RX1 = some m.cls := hown
  have hl : lv_has ls 4 [(0, .ref h), (1, .int (nI i)), (2, .int (nI j))] := hl
  have hP : va_P D vwCl (wP h hq cI vs (nI L)) s.heap := hP
  have hf9 := hts (.fieldLink RX1 9 "DynamicForest$Path" "vertices" "[I") (by decide +kernel)
  have hin1 : ∀ w ∈ u_ws RX1 TX1 2, w ∈ wsX1_swap := by decide +kernel
  refine lv_aload_n hx hb dX1_swap_0 rfl (lv_at hl 0 rfl) ?_
  refine lv_iload_n hx hb dX1_swap_1 rfl (lv_at hl 1 rfl) ?_
  refine rd_call ⟨hx, hb, hml, hown, hts⟩ (c_X1_hasIndex l D cI cZ h hq vs L hL (nI i)) (cwV 1 hts gX1_swap_X1_hasIndex rfl rfl rfl (by decide +kernel) ⟨Nat.le_of_ble_eq_true rfl, Nat.le_of_ble_eq_true rfl⟩) hP hK rfl rfl rfl hl rfl (Nat.le_of_ble_eq_true rfl) dX1_swap_2 ⟨Nat.zero_le _, Nat.zero_le _⟩ ?_
  refine lv_if_eq (tgt := 42) hx hb dX1_swap_5 (by decide) (fun c_5 => ?_) (fun c_5 => ?_)
  · skip
    have c_5 := bI_0 c_5
    exact hasB_x hi hL c_5
  · skip
    have c_5 := bI_1 c_5
    refine lv_aload_n hx hb dX1_swap_8 rfl (lv_at hl 0 rfl) ?_
    refine lv_iload_n hx hb dX1_swap_9 rfl (lv_at hl 2 rfl) ?_
    refine rd_call ⟨hx, hb, hml, hown, hts⟩ (c_X1_hasIndex l D cI cZ h hq vs L hL (nI j)) (cwV 1 hts gX1_swap_X1_hasIndex rfl rfl rfl (by decide +kernel) ⟨Nat.le_of_ble_eq_true rfl, Nat.le_of_ble_eq_true rfl⟩) hP hK rfl rfl rfl hl rfl (Nat.le_of_ble_eq_true rfl) dX1_swap_10 ⟨Nat.zero_le _, Nat.zero_le _⟩ ?_
    refine lv_if_eq (tgt := 42) hx hb dX1_swap_13 (by decide) (fun c_13 => ?_) (fun c_13 => ?_)
    · skip
      have c_13 := bI_0 c_13
      exact hasB_x hj hL c_13
    · skip
      have c_13 := bI_1 c_13
      refine lv_aload_n hx hb dX1_swap_16 rfl (lv_at hl 0 rfl) ?_
      refine va_get (D := D) (ci := 1) (v := .ref hq) (C := RX1) (T := TX1) (N := 2) hx hb hts hin1 hown hK hP 0 rfl rfl 0 (by decide) hf9 (fun _ h9 => h9) rfl dX1_swap_17 ?_
      refine lv_iload_n hx hb dX1_swap_20 rfl (lv_at hl 1 rfl) ?_
      refine ar_i (tys := []) hx hb hK hP 1 rfl (k := i) (by omega) (by decide) dX1_swap_21 ?_
      refine lv_istore_n (lv' := [(3, .int (vs i)), (0, .ref h), (1, .int (nI i)), (2, .int (nI j))]) hx hb dX1_swap_22 rfl hl (by decide) rfl (fun ls hl => ?_)
      refine lv_aload_n hx hb dX1_swap_23 rfl (lv_at hl 1 rfl) ?_
      refine va_get (D := D) (ci := 1) (v := .ref hq) (C := RX1) (T := TX1) (N := 2) hx hb hts hin1 hown hK hP 0 rfl rfl 0 (by decide) hf9 (fun _ h9 => h9) rfl dX1_swap_24 ?_
      refine lv_iload_n hx hb dX1_swap_27 rfl (lv_at hl 2 rfl) ?_
      refine lv_aload_n hx hb dX1_swap_28 rfl (lv_at hl 1 rfl) ?_
      refine va_get (D := D) (ci := 1) (v := .ref hq) (C := RX1) (T := TX1) (N := 2) hx hb hts hin1 hown hK hP 0 rfl rfl 0 (by decide) hf9 (fun _ h9 => h9) rfl dX1_swap_29 ?_
      refine lv_iload_n hx hb dX1_swap_32 rfl (lv_at hl 3 rfl) ?_
      refine ar_i (tys := []) hx hb hK hP 1 rfl (k := j) (by omega) (by decide) dX1_swap_33 ?_
      refine ar_is hx hb hK hP hD hS 1 rfl (k := i) (by omega) (by decide) dX1_swap_34 (fun H locs hP hD hS => ?_)
      have hP : va_P D vwCl (wP h hq cI (upd vs i (vs j)) (nI L)) H := hP
      have hD : va_D (adr (wP h hq cI vs (nI L))) (wP h hq cI (upd vs i (vs j)) (nI L)) := vd_same hD rfl
      refine lv_aload_n hx hb dX1_swap_35 rfl (lv_at hl 1 rfl) ?_
      refine va_get (D := D) (ci := 1) (v := .ref hq) (C := RX1) (T := TX1) (N := 2) hx hb hts hin1 hown hK hP 0 rfl rfl 0 (by decide) hf9 (fun _ h9 => h9) rfl dX1_swap_36 ?_
      refine lv_iload_n hx hb dX1_swap_39 rfl (lv_at hl 3 rfl) ?_
      refine lv_iload_n hx hb dX1_swap_40 rfl (lv_at hl 0 rfl) ?_
      refine ar_is hx hb hK hP hD hS 1 rfl (k := j) (by omega) (by decide) dX1_swap_41 (fun H locs hP hD hS => ?_)
      have hP : va_P D vwCl (wP h hq cI (upd (upd vs i (vs j)) j (vs i)) (nI L)) H := hP
      have hD : va_D (adr (wP h hq cI vs (nI L))) (wP h hq cI (upd (upd vs i (vs j)) j (vs i)) (nI L)) := vd_same hD rfl
      exact wr_v hx hb hr hlocks hP hS dX1_swap_42
set_option maxHeartbeats 4000000 in
set_option maxRecDepth 100000 in
theorem c_X1_reverseFrom (l : Launch) (D : va_G) (cI cZ : ClassId) (h : Nat) (hq : Nat) (vs : Nat → Int32) (L : Nat) (hL : L ≤ 64) (S : Nat) (hS0 : S ≤ L) (hL1 : 1 ≤ L) : WrM l yX1_reverseFrom wsX1_reverseFrom 2 44 D cI cZ (wP h hq cI vs (nI L)) (wP h hq cI (rvF vs S L) (nI L)) [.ref h, .int (nI S)] none := by
  refine WrM.of (cc := cX1_reverseFrom) (maxL := 4) (ret := none) (by decide) rfl (Nat.le_of_ble_eq_true rfl) ?_
  intro p e s m below meth c hx hb hr hml hown hts hlocks hP hK hD hS ls hl
  have hown : s.vm.findClass RX1 = some m.cls := hown
  have hl : lv_has ls 4 [(0, .ref h), (1, .int (nI S))] := hl
  have hP : va_P D vwCl (wP h hq cI vs (nI L)) s.heap := hP
  have hf15 := hts (.fieldLink RX1 15 "DynamicForest$Path" "length" "I") (by decide +kernel)
  have hin1 : ∀ w ∈ u_ws RX1 TX1 2, w ∈ wsX1_reverseFrom := by decide +kernel
  refine lv_iload_n hx hb dX1_reverseFrom_0 rfl (lv_at hl 1 rfl) ?_
  refine lv_istore_n (lv' := [(2, .int (nI S)), (0, .ref h), (1, .int (nI S))]) hx hb dX1_reverseFrom_1 rfl hl (by decide) rfl (fun ls hl => ?_)
  refine lv_aload_n hx hb dX1_reverseFrom_2 rfl (lv_at hl 1 rfl) ?_
  refine va_get (D := D) (ci := 1) (v := .int (nI L)) (C := RX1) (T := TX1) (N := 2) hx hb hts hin1 hown hK hP 0 rfl rfl 1 (by decide) hf15 (fun _ h9 => h9) rfl dX1_reverseFrom_3 ?_
  refine lv_iconst (v := 1) hx hb dX1_reverseFrom_6 (by decide) ?_
  refine lv_isub hx hb dX1_reverseFrom_7 ?_
  rw [show nI L - 1 = nI (L - 1) from pk_sub (b := 1) hL1]
  refine lv_istore_n (lv' := [(3, .int (nI (L - 1))), (2, .int (nI S)), (0, .ref h), (1, .int (nI S))]) hx hb dX1_reverseFrom_8 rfl hl (by decide) rfl (fun ls hl => ?_)
  have L9 : ∀ (k9_ : Nat) (k : Nat), S + 2 * k ≤ L → L - k < k9_ → ∀ (H : Heap) (locs : List Loc), va_P D vwCl (wP h hq cI (rvK vs S L k) (nI L)) H → va_D (adr (wP h hq cI vs (nI L))) (wP h hq cI (rvK vs S L k) (nI L)) → va_S (adr (wP h hq cI vs (nI L))) s.heap H locs → ∀ ls, lv_has ls 4 [(0, .ref h), (1, .int (nI S)), (2, .int (nI (S + k))), (3, .int (nI (L - 1 - k)))] → Ww0 p l e wsX1_reverseFrom 2 44 s m [.ref h, .int (nI S)] below meth c D (wP h hq cI vs (nI L)) (wP h hq cI (rvF vs S L) (nI L)) none H locs (F0 m 9 ls []) := by
    intro k9_
    induction k9_ with
    | zero => intro k hk hk9_; exact absurd hk9_ (Nat.not_lt_zero _)
    | succ k9_ ih9 =>
      intro k hk hk9_ H locs hP hD hS ls hl
      refine lv_iload_n hx hb dX1_reverseFrom_9 rfl (lv_at hl 3 rfl) ?_
      refine lv_iload_n hx hb dX1_reverseFrom_10 rfl (lv_at hl 2 rfl) ?_
      refine lv_icmp_le (tgt := 29) hx hb dX1_reverseFrom_11 (by decide) (fun c_11 => ?_) (fun c_11 => ?_)
      · skip
        have c_11 := cn_le (a := (L - 1 - k)) (b := (S + k)) (by omega) (by omega) c_11
        rw [rvK_end hk c_11] at hP
        exact wr_v hx hb hr hlocks hP hS dX1_reverseFrom_29
      · skip
        have c_11 := cn_nle (a := (L - 1 - k)) (b := (S + k)) (by omega) (by omega) c_11
        refine lv_aload_n hx hb dX1_reverseFrom_14 rfl (lv_at hl 0 rfl) ?_
        refine lv_iload_n hx hb dX1_reverseFrom_15 rfl (lv_at hl 2 rfl) ?_
        refine lv_iload_n hx hb dX1_reverseFrom_16 rfl (lv_at hl 3 rfl) ?_
        refine wr_call (V1 := wP h hq cI (upd (upd (rvK vs S L k) (S + k) ((rvK vs S L k) (L - 1 - k))) (L - 1 - k) ((rvK vs S L k) (S + k))) (nI L)) ⟨hx, hb, hml, hown, hts⟩ (c_X1_swap l D cI cZ h hq (rvK vs S L k) L hL (S + k) (L - 1 - k) (by omega) (by omega)) (cwV 2 hts gX1_reverseFrom_X1_swap rfl rfl rfl (by decide +kernel) ⟨Nat.le_of_ble_eq_true rfl, Nat.le_of_ble_eq_true rfl⟩) hP hK hD hS [0, 1] [] [0, 1] rfl rfl (by decide) rfl rfl rfl rfl rfl hl rfl (Nat.le_of_ble_eq_true rfl) dX1_reverseFrom_17 ⟨Nat.zero_le _, Nat.zero_le _⟩ (fun H locs hP hD hS => ?_)
        rw [rvK_s c_11] at hP
        have hD : va_D (adr (wP h hq cI vs (nI L))) (wP h hq cI (rvK vs S L (k + 1)) (nI L)) := vd_same hD rfl
        refine lv_iinc (v := nI ((S + k) + 1)) (lv' := [(2, .int (nI ((S + k) + 1))), (0, .ref h), (1, .int (nI S)), (3, .int (nI (L - 1 - k)))]) hx hb dX1_reverseFrom_20 hl (k := 2) rfl (nI_1 (S + k)) (by decide) rfl (fun ls hl => ?_)
        refine lv_iinc (v := nI (L - 1 - (k + 1))) (lv' := [(3, .int (nI (L - 1 - (k + 1)))), (2, .int (nI ((S + k) + 1))), (0, .ref h), (1, .int (nI S))]) hx hb dX1_reverseFrom_23 hl (k := 3) rfl (by rw [show L - 1 - k = (L - 1 - (k + 1)) + 1 by omega]; exact pk_m1 _) (by decide) rfl (fun ls hl => ?_)
        refine lv_goto (tgt := 9) hx hb dX1_reverseFrom_26 (by decide) ?_
        exact ih9 (k + 1) (by omega) (by omega) _ _ hP hD hS ls (lv_sub hl [2, 3, 1, 0] rfl)
  have hP : va_P D vwCl (wP h hq cI (rvK vs S L 0) (nI L)) s.heap := by rw [rvK_0]; exact hP
  have hD : va_D (adr (wP h hq cI vs (nI L))) (wP h hq cI (rvK vs S L 0) (nI L)) := vd_same hD rfl
  exact L9 (L - 0 + 1) 0 (by omega) (Nat.lt_succ_self _) _ _ hP hD hS ls (lv_sub hl [2, 3, 1, 0] rfl)
set_option maxHeartbeats 4000000 in
set_option maxRecDepth 100000 in
theorem c_X1_appendClimb (l : Launch) (D : va_G) (cI cZ : ClassId) (h : Nat) (hq : Nat) (vs : Nat → Int32) (L : Nat) (hL : L ≤ 64) (f : Nat) (fa : Nat) (fb : Nat) (fc : Nat) (n : Nat) (G : Nat → Nat) (va : Nat → Int32) (mk : Nat → Bool) (F : fo_ok n G) (b0 : Nat) (k : Nat) (hb0 : b0 < n) (hk : k ≤ fo_d G b0) (hLk : L + k ≤ 64) (t0 : Nat) (ht0 : t0 = fo_up G k b0) : WrM l yX1_appendClimb wsX1_appendClimb 2 42 D cI cZ (wP h hq cI vs (nI L) ++ wF f fa fb fc cI cZ n (fo_cp G) va mk) (wP h hq cI (apF G b0 vs L k) (nI (L + k)) ++ wF f fa fb fc cI cZ n (fo_cp G) va mk) [.ref h, .ref f, .int (nI b0), .int (nI t0)] none := by
  refine WrM.of (cc := cX1_appendClimb) (maxL := 6) (ret := none) (by decide) rfl (Nat.le_of_ble_eq_true rfl) ?_
  intro p e s m below meth c hx hb hr hml hown hts hlocks hP hK hD hS ls hl
  have hown : s.vm.findClass RX1 = some m.cls := hown
  have hl : lv_has ls 6 [(0, .ref h), (1, .ref f), (2, .int (nI b0)), (3, .int (nI t0))] := hl
  have hP : va_P D vwCl (wP h hq cI vs (nI L) ++ wF f fa fb fc cI cZ n (fo_cp G) va mk) s.heap := hP
  have hn : n ≤ 64 := F.2.1
  have hd63 := fo_d_le F b0
  have hlt : t0 < n := by rw [ht0]; exact fo_lt F hb0 k
  refine lv_iload_n hx hb dX1_appendClimb_0 rfl (lv_at hl 2 rfl) ?_
  refine lv_istore (lv' := [(4, .int (nI b0)), (0, .ref h), (1, .ref f), (2, .int (nI b0)), (3, .int (nI t0))]) hx hb dX1_appendClimb_1 hl (by decide) rfl (fun ls hl => ?_)
  refine lv_iconst (v := nI 0) hx hb dX1_appendClimb_3 (by decide) ?_
  refine lv_istore (lv' := [(5, .int (nI 0)), (4, .int (nI b0)), (0, .ref h), (1, .ref f), (2, .int (nI b0)), (3, .int (nI t0))]) hx hb dX1_appendClimb_4 hl (by decide) rfl (fun ls hl => ?_)
  have L6 : ∀ (k6_ : Nat) (i : Nat), i ≤ k → 64 - i < k6_ → ∀ (H : Heap) (locs : List Loc), va_P D vwCl (wP h hq cI (apF G b0 vs L i) (nI (L + i)) ++ wF f fa fb fc cI cZ n (fo_cp G) va mk) H → va_D (adr (wP h hq cI vs (nI L) ++ wF f fa fb fc cI cZ n (fo_cp G) va mk)) (wP h hq cI (apF G b0 vs L i) (nI (L + i)) ++ wF f fa fb fc cI cZ n (fo_cp G) va mk) → va_S (adr (wP h hq cI vs (nI L) ++ wF f fa fb fc cI cZ n (fo_cp G) va mk)) s.heap H locs → ∀ ls, lv_has ls 6 [(0, .ref h), (1, .ref f), (2, .int (nI b0)), (3, .int (nI t0)), (4, .int (nI (fo_up G i b0))), (5, .int (nI i))] → Ww0 p l e wsX1_appendClimb 2 42 s m [.ref h, .ref f, .int (nI b0), .int (nI t0)] below meth c D (wP h hq cI vs (nI L) ++ wF f fa fb fc cI cZ n (fo_cp G) va mk) (wP h hq cI (apF G b0 vs L k) (nI (L + k)) ++ wF f fa fb fc cI cZ n (fo_cp G) va mk) none H locs (F0 m 6 ls []) := by
    intro k6_
    induction k6_ with
    | zero => intro i hi hk6_; exact absurd hk6_ (Nat.not_lt_zero _)
    | succ k6_ ih6 =>
      intro i hi hk6_ H locs hP hD hS ls hl
      have hli := fo_lt F hb0 i
      refine lv_iload hx hb dX1_appendClimb_6 (lv_at hl 5 rfl) ?_
      refine lv_bipush (v := 64) hx hb dX1_appendClimb_8 (by decide) ?_
      refine lv_icmp_ge (tgt := 39) hx hb dX1_appendClimb_10 (by decide) (fun c_10 => ?_) (fun c_10 => ?_)
      · skip
        have c_10 := cn_le (a := 64) (b := i) (by omega) (by omega) c_10
        exact absurd hd63 (by omega)
      · skip
        have c_10 := cn_nle (a := 64) (b := i) (by omega) (by omega) c_10
        refine lv_iload hx hb dX1_appendClimb_13 (lv_at hl 4 rfl) ?_
        refine lv_iload_n hx hb dX1_appendClimb_15 rfl (lv_at hl 3 rfl) ?_
        refine lv_icmp_eq (tgt := 39) hx hb dX1_appendClimb_16 (by decide) (fun c_16 => ?_) (fun c_16 => ?_)
        · skip
          have c_16 := cn_eq (a := (fo_up G i b0)) (b := t0) (by omega) (by omega) c_16
          have e16 : i = k := Classical.byContradiction fun q => fo_up_ne F (by omega) hk q (c_16.trans ht0)
          rw [e16] at hP
          exact wr_v hx hb hr hlocks hP hS dX1_appendClimb_39
        · skip
          have c_16 := cn_ne (a := (fo_up G i b0)) (b := t0) (by omega) (by omega) c_16
          have hik : i < k := Nat.lt_of_le_of_ne hi (fun q => c_16 (by rw [q, ht0]))
          refine lv_aload_n hx hb dX1_appendClimb_19 rfl (lv_at hl 0 rfl) ?_
          refine lv_iload hx hb dX1_appendClimb_20 (lv_at hl 4 rfl) ?_
          refine wr_call (V1 := wP h hq cI (upd (apF G b0 vs L i) (L + i) (nI (fo_up G i b0))) (nI ((L + i) + 1)) ++ wF f fa fb fc cI cZ n (fo_cp G) va mk) ⟨hx, hb, hml, hown, hts⟩ (c_X1_append l D cI cZ h hq (apF G b0 vs L i) (L + i) (by omega) (nI (fo_up G i b0)) (by omega)) (cwV 1 hts gX1_appendClimb_X1_append rfl rfl rfl (by decide +kernel) ⟨Nat.le_of_ble_eq_true rfl, Nat.le_of_ble_eq_true rfl⟩) hP hK hD hS [0, 1] [2, 3, 4, 5] [4, 5, 0, 1, 2, 3] rfl rfl (by decide) rfl rfl rfl rfl rfl hl rfl (Nat.le_of_ble_eq_true rfl) dX1_appendClimb_22 ⟨Nat.zero_le _, Nat.zero_le _⟩ (fun H locs hP hD hS => ?_)
          rw [apF_s] at hP
          have hD : va_D (adr (wP h hq cI vs (nI L) ++ wF f fa fb fc cI cZ n (fo_cp G) va mk)) (wP h hq cI (apF G b0 vs L (i + 1)) (nI (L + (i + 1))) ++ wF f fa fb fc cI cZ n (fo_cp G) va mk) := vd_same hD rfl
          refine lv_aload_n hx hb dX1_appendClimb_25 rfl (lv_at hl 1 rfl) ?_
          refine lv_iload hx hb dX1_appendClimb_26 (lv_at hl 4 rfl) ?_
          refine rd_call ⟨hx, hb, hml, hown, hts⟩ (c_X0_parentOf l D cI cZ f fa fb fc n (fo_cp G) va mk (fo_up G i b0) hli hn) (cwV 1 hts gX1_appendClimb_X0_parentOf rfl rfl rfl (by decide +kernel) ⟨Nat.le_of_ble_eq_true rfl, Nat.le_of_ble_eq_true rfl⟩) (hP.sub (ws' := wF f fa fb fc cI cZ n (fo_cp G) va mk) [2, 3, 4, 5] rfl) hK rfl rfl rfl hl rfl (Nat.le_of_ble_eq_true rfl) dX1_appendClimb_28 ⟨Nat.zero_le _, Nat.zero_le _⟩ ?_
          rw [fo_cp_n (fo_nr F (by omega)), ← fo_up_s G i b0]
          refine lv_istore (lv' := [(4, .int (nI (fo_up G (i + 1) b0))), (0, .ref h), (1, .ref f), (2, .int (nI b0)), (3, .int (nI t0)), (5, .int (nI i))]) hx hb dX1_appendClimb_31 hl (by decide) rfl (fun ls hl => ?_)
          refine lv_iinc (v := nI (i + 1)) (lv' := [(5, .int (nI (i + 1))), (4, .int (nI (fo_up G (i + 1) b0))), (0, .ref h), (1, .ref f), (2, .int (nI b0)), (3, .int (nI t0))]) hx hb dX1_appendClimb_33 hl (k := 5) rfl (nI_1 i) (by decide) rfl (fun ls hl => ?_)
          refine lv_goto (tgt := 6) hx hb dX1_appendClimb_36 (by decide) ?_
          exact ih6 (i + 1) (by omega) (by omega) _ _ hP hD hS ls (lv_sub hl [2, 3, 4, 5, 1, 0] rfl)
  have hP : va_P D vwCl (wP h hq cI (apF G b0 vs L 0) (nI (L + 0)) ++ wF f fa fb fc cI cZ n (fo_cp G) va mk) s.heap := by rw [apF_0]; exact hP
  have hD : va_D (adr (wP h hq cI vs (nI L) ++ wF f fa fb fc cI cZ n (fo_cp G) va mk)) (wP h hq cI (apF G b0 vs L 0) (nI (L + 0)) ++ wF f fa fb fc cI cZ n (fo_cp G) va mk) := vd_same hD rfl
  exact L6 (64 - 0 + 1) 0 (Nat.zero_le _) (Nat.lt_succ_self _) _ _ hP hD hS ls (lv_sub hl [2, 3, 4, 5, 1, 0] rfl)
set_option maxHeartbeats 4000000 in
set_option maxRecDepth 100000 in
theorem c_X1_trace (l : Launch) (D : va_G) (cI cZ : ClassId) (h : Nat) (hq : Nat) (vs : Nat → Int32) (L : Nat) (hL : L ≤ 64) (f : Nat) (fa : Nat) (fb : Nat) (fc : Nat) (n : Nat) (G : Nat → Nat) (va : Nat → Int32) (mk : Nat → Bool) (F : fo_ok n G) (u : Nat) (v : Nat) (hu : u < n) (hv : v < n) (hro : fo_r G u = fo_r G v) : WrM l yX1_trace wsX1_trace 4 92 D cI cZ (wP h hq cI vs (nI L) ++ wF f fa fb fc cI cZ n (fo_cp G) va mk) (wP h hq cI (fillI (fo_pL G u v) (fun t => nI (fo_pt G u v t)) vs) (nI (fo_pL G u v)) ++ wF f fa fb fc cI cZ n (fo_cp G) va mk) [.ref h, .ref f, .int (nI u), .int (nI v)] none := by
  refine WrM.of (cc := cX1_trace) (maxL := 6) (ret := none) (by decide) rfl (Nat.le_of_ble_eq_true rfl) ?_
  intro p e s m below meth c hx hb hr hml hown hts hlocks hP hK hD hS ls hl
  have hown : s.vm.findClass RX1 = some m.cls := hown
  have hl : lv_has ls 6 [(0, .ref h), (1, .ref f), (2, .int (nI u)), (3, .int (nI v))] := hl
  have hP : va_P D vwCl (wP h hq cI vs (nI L) ++ wF f fa fb fc cI cZ n (fo_cp G) va mk) s.heap := hP
  have hf15 := hts (.fieldLink RX1 15 "DynamicForest$Path" "length" "I") (by decide +kernel)
  have hin1 : ∀ w ∈ u_ws RX1 TX1 2, w ∈ wsX1_trace := by decide +kernel
  have hn : n ≤ 64 := F.2.1
  have hLL := fo_pL_le F hro hu hv
  have hL0 : fo_pL G u v = fo_pi G u v + (fo_d G v - fo_d G (fo_m G u v)) + 1 := rfl
  have hmlt := fo_m_lt F hro hu
  obtain ⟨m1, m2, m3, m4, m5⟩ := fo_m_spec F hro
  have m3 : fo_up G (fo_pi G u v) u = fo_m G u v := m3
  have hpi : fo_pi G u v ≤ fo_d G u := Nat.sub_le _ _
  refine lv_aload_n hx hb dX1_trace_0 rfl (lv_at hl 1 rfl) ?_
  refine lv_iload_n hx hb dX1_trace_1 rfl (lv_at hl 2 rfl) ?_
  refine lv_iload_n hx hb dX1_trace_2 rfl (lv_at hl 3 rfl) ?_
  refine rd_call ⟨hx, hb, hml, hown, hts⟩ (c_X0_meetingPoint l D cI cZ f fa fb fc n G va mk F u v hu hv hro) (cwV 2 hts gX1_trace_X0_meetingPoint rfl rfl rfl (by decide +kernel) ⟨Nat.le_of_ble_eq_true rfl, Nat.le_of_ble_eq_true rfl⟩) (hP.sub (ws' := wF f fa fb fc cI cZ n (fo_cp G) va mk) [2, 3, 4, 5] rfl) hK rfl rfl rfl hl rfl (Nat.le_of_ble_eq_true rfl) dX1_trace_3 ⟨Nat.zero_le _, Nat.zero_le _⟩ ?_
  refine lv_istore (lv' := [(4, .int (nI (fo_m G u v))), (0, .ref h), (1, .ref f), (2, .int (nI u)), (3, .int (nI v))]) hx hb dX1_trace_6 hl (by decide) rfl (fun ls hl => ?_)
  refine lv_aload_n hx hb dX1_trace_8 rfl (lv_at hl 1 rfl) ?_
  refine lv_iconst (v := nI 0) hx hb dX1_trace_9 (by decide) ?_
  refine va_put (D := D) (ci := 1) (v := .int (nI 0)) (ty := .int) (C := RX1) (T := TX1) (N := 2) hx hb hts hin1 tyX1 tyX1_ok nmX1 hown hK hP hD hS 0 rfl rfl 1 (by decide) hf15 (fun _ h9 => h9) rfl (by decide +kernel) rfl rfl (Nat.le_of_ble_eq_true rfl) dX1_trace_10 (fun H locs hP hD hS => ?_)
  have hP : va_P D vwCl (wP h hq cI vs (nI 0) ++ wF f fa fb fc cI cZ n (fo_cp G) va mk) H := hP
  have hD : va_D (adr (wP h hq cI vs (nI L) ++ wF f fa fb fc cI cZ n (fo_cp G) va mk)) (wP h hq cI vs (nI 0) ++ wF f fa fb fc cI cZ n (fo_cp G) va mk) := vd_same hD rfl
  refine lv_aload_n hx hb dX1_trace_13 rfl (lv_at hl 1 rfl) ?_
  refine lv_aload_n hx hb dX1_trace_14 rfl (lv_at hl 2 rfl) ?_
  refine lv_iload_n hx hb dX1_trace_15 rfl (lv_at hl 3 rfl) ?_
  refine lv_iload hx hb dX1_trace_16 (lv_at hl 0 rfl) ?_
  refine wr_call (V1 := wP h hq cI (apF G u vs 0 (fo_pi G u v)) (nI (0 + (fo_pi G u v))) ++ wF f fa fb fc cI cZ n (fo_cp G) va mk) ⟨hx, hb, hml, hown, hts⟩ (c_X1_appendClimb l D cI cZ h hq vs 0 (Nat.zero_le _) f fa fb fc n G va mk F u (fo_pi G u v) hu hpi (by omega) (fo_m G u v) (m3.symm)) (cwV 3 hts gX1_trace_X1_appendClimb rfl rfl rfl (by decide +kernel) ⟨Nat.le_of_ble_eq_true rfl, Nat.le_of_ble_eq_true rfl⟩) hP hK hD hS [0, 1, 2, 3, 4, 5] [] [0, 1, 2, 3, 4, 5] rfl rfl (by decide) rfl rfl rfl rfl rfl hl rfl (Nat.le_of_ble_eq_true rfl) dX1_trace_18 ⟨Nat.zero_le _, Nat.zero_le _⟩ (fun H locs hP hD hS => ?_)
  refine lv_aload_n hx hb dX1_trace_21 rfl (lv_at hl 1 rfl) ?_
  refine lv_iload hx hb dX1_trace_22 (lv_at hl 0 rfl) ?_
  refine wr_call (V1 := wP h hq cI (upd (apF G u vs 0 (fo_pi G u v)) (0 + fo_pi G u v) (nI (fo_m G u v))) (nI ((0 + fo_pi G u v) + 1)) ++ wF f fa fb fc cI cZ n (fo_cp G) va mk) ⟨hx, hb, hml, hown, hts⟩ (c_X1_append l D cI cZ h hq (apF G u vs 0 (fo_pi G u v)) (0 + fo_pi G u v) (by omega) (nI (fo_m G u v)) (by omega)) (cwV 1 hts gX1_trace_X1_append rfl rfl rfl (by decide +kernel) ⟨Nat.le_of_ble_eq_true rfl, Nat.le_of_ble_eq_true rfl⟩) hP hK hD hS [0, 1] [2, 3, 4, 5] [4, 5, 0, 1, 2, 3] rfl rfl (by decide) rfl rfl rfl rfl rfl hl rfl (Nat.le_of_ble_eq_true rfl) dX1_trace_24 ⟨Nat.zero_le _, Nat.zero_le _⟩ (fun H locs hP hD hS => ?_)
  refine lv_aload_n hx hb dX1_trace_27 rfl (lv_at hl 1 rfl) ?_
  refine va_get (D := D) (ci := 1) (v := .int (nI ((0 + fo_pi G u v) + 1))) (C := RX1) (T := TX1) (N := 2) hx hb hts hin1 hown hK hP 0 rfl rfl 1 (by decide) hf15 (fun _ h9 => h9) rfl dX1_trace_28 ?_
  refine lv_istore (lv' := [(5, .int (nI ((0 + fo_pi G u v) + 1))), (4, .int (nI (fo_m G u v))), (0, .ref h), (1, .ref f), (2, .int (nI u)), (3, .int (nI v))]) hx hb dX1_trace_31 hl (by decide) rfl (fun ls hl => ?_)
  refine lv_aload_n hx hb dX1_trace_33 rfl (lv_at hl 2 rfl) ?_
  refine lv_aload_n hx hb dX1_trace_34 rfl (lv_at hl 3 rfl) ?_
  refine lv_iload_n hx hb dX1_trace_35 rfl (lv_at hl 5 rfl) ?_
  refine lv_iload hx hb dX1_trace_36 (lv_at hl 1 rfl) ?_
  refine wr_call (V1 := wP h hq cI (apF G v (upd (apF G u vs 0 (fo_pi G u v)) (0 + fo_pi G u v) (nI (fo_m G u v))) (0 + fo_pi G u v + 1) (fo_d G v - fo_d G (fo_m G u v))) (nI ((0 + fo_pi G u v + 1) + (fo_d G v - fo_d G (fo_m G u v)))) ++ wF f fa fb fc cI cZ n (fo_cp G) va mk) ⟨hx, hb, hml, hown, hts⟩ (c_X1_appendClimb l D cI cZ h hq (upd (apF G u vs 0 (fo_pi G u v)) (0 + fo_pi G u v) (nI (fo_m G u v))) (0 + fo_pi G u v + 1) (by omega) f fa fb fc n G va mk F v (fo_d G v - fo_d G (fo_m G u v)) hv (Nat.sub_le _ _) (by omega) (fo_m G u v) (m4.symm)) (cwV 3 hts gX1_trace_X1_appendClimb rfl rfl rfl (by decide +kernel) ⟨Nat.le_of_ble_eq_true rfl, Nat.le_of_ble_eq_true rfl⟩) hP hK hD hS [0, 1, 2, 3, 4, 5] [] [0, 1, 2, 3, 4, 5] rfl rfl (by decide) rfl rfl rfl rfl rfl hl rfl (Nat.le_of_ble_eq_true rfl) dX1_trace_38 ⟨Nat.zero_le _, Nat.zero_le _⟩ (fun H locs hP hD hS => ?_)
  refine lv_aload_n hx hb dX1_trace_41 rfl (lv_at hl 2 rfl) ?_
  refine lv_iload hx hb dX1_trace_42 (lv_at hl 0 rfl) ?_
  refine wr_call (V1 := wP h hq cI (rvF (apF G v (upd (apF G u vs 0 (fo_pi G u v)) (0 + fo_pi G u v) (nI (fo_m G u v))) (0 + fo_pi G u v + 1) (fo_d G v - fo_d G (fo_m G u v))) (0 + fo_pi G u v + 1) (0 + fo_pi G u v + 1 + (fo_d G v - fo_d G (fo_m G u v)))) (nI (0 + fo_pi G u v + 1 + (fo_d G v - fo_d G (fo_m G u v)))) ++ wF f fa fb fc cI cZ n (fo_cp G) va mk) ⟨hx, hb, hml, hown, hts⟩ (c_X1_reverseFrom l D cI cZ h hq (apF G v (upd (apF G u vs 0 (fo_pi G u v)) (0 + fo_pi G u v) (nI (fo_m G u v))) (0 + fo_pi G u v + 1) (fo_d G v - fo_d G (fo_m G u v))) (0 + fo_pi G u v + 1 + (fo_d G v - fo_d G (fo_m G u v))) (by omega) (0 + fo_pi G u v + 1) (by omega) (by omega)) (cwV 1 hts gX1_trace_X1_reverseFrom rfl rfl rfl (by decide +kernel) ⟨Nat.le_of_ble_eq_true rfl, Nat.le_of_ble_eq_true rfl⟩) hP hK hD hS [0, 1] [2, 3, 4, 5] [4, 5, 0, 1, 2, 3] rfl rfl (by decide) rfl rfl rfl rfl rfl hl rfl (Nat.le_of_ble_eq_true rfl) dX1_trace_44 ⟨Nat.zero_le _, Nat.zero_le _⟩ (fun H locs hP hD hS => ?_)
  rw [trace_eq F hro, show 0 + fo_pi G u v + 1 + (fo_d G v - fo_d G (fo_m G u v)) = fo_pL G u v by omega] at hP
  exact wr_v hx hb hr hlocks hP hS dX1_trace_47
