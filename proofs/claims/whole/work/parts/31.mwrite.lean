theorem cnt_root {n : Nat} {G : Nat → Nat} (F : fo_ok n G) {r0 : Nat} (h : G r0 = r0) : fo_cnt (fun w => decide (fo_r G w = r0)) n = fo_cnt (fun w => fo_bel G w r0) n := fo_cnt_eq (fun _ _ => (fo_bel_root F h).symm)
set_option maxHeartbeats 4000000 in
set_option maxRecDepth 100000 in
theorem c_X3_aboveR (l : Launch) (D : va_G) (cI cZ : ClassId) (h : Nat) (st : Nat) (sl : Nat) (sv : Nat) (pt : Nat) (fsl : Nat → Int32) (fsv : Nat → Int32) (fpt : Nat → Int32) (many : Int32) (n : Nat) (G : Nat → Nat) (va : Nat → Int32) (mk : Nat → Bool) (hn : n ≤ 64) (j : Nat) (hj : j < n) : RdM l yX3_above wsX3_above 0 0 D cI cZ (wM h st sl sv pt cI cZ (mst n G va mk) fsl fsv fpt many) [.ref h, .int (nI j)] (nI (G j)) := by
  refine RdM.of (cc := cX3_above) (maxL := 2) (ret := (some .int)) (by decide) rfl (Nat.le_of_ble_eq_true rfl) ?_
  intro p e s m below meth c hx hb hr hml hown hts hlocks hP hK ls hl
  have hown : s.vm.findClass RX3 = some m.cls := hown
  have hl : lv_has ls 2 [(0, .ref h), (1, .int (nI j))] := hl
  have hf7 := hts (.fieldLink RX3 7 "DynamicForestModel" "state" "[I") (by decide +kernel)
  have hin3 : ∀ w ∈ u_ws RX3 TX3 5, w ∈ wsX3_above := by decide +kernel
  refine lv_aload_n hx hb dX3_above_0 rfl (lv_at hl 0 rfl) ?_
  refine va_get (D := D) (ci := 3) (v := .ref st) (C := RX3) (T := TX3) (N := 5) hx hb hts hin3 hown hK hP 0 rfl rfl 0 (by decide) hf7 (fun _ h9 => h9) rfl dX3_above_1 ?_
  refine lv_iconst (v := 1) hx hb dX3_above_4 (by decide) ?_
  refine lv_iload_n hx hb dX3_above_5 rfl (lv_at hl 1 rfl) ?_
  refine lv_iadd hx hb dX3_above_6 ?_
  rw [show (1 + (nI j) : Int32) = nI (1 + j) from nI_add 1 j]
  refine ar_i (tys := []) hx hb hK hP 1 rfl (k := (1 + j)) (by omega) (by decide) dX3_above_7 ?_
  rw [mst_p n G va mk (by omega)]
  exact rd_i hx hb hr hlocks rfl dX3_above_8
set_option maxHeartbeats 4000000 in
set_option maxRecDepth 100000 in
theorem c_X3_reset (l : Launch) (D : va_G) (cI cZ : ClassId) (h : Nat) (st : Nat) (sl : Nat) (sv : Nat) (pt : Nat) (fsl : Nat → Int32) (fsv : Nat → Int32) (fpt : Nat → Int32) (many : Int32) (n : Nat) (G : Nat → Nat) (va : Nat → Int32) (mk : Nat → Bool) (F : fo_ok n G) (x : Int32) : WrM l yX3_reset wsX3_reset 1 22 D cI cZ (wM h st sl sv pt cI cZ (mst n G va mk) fsl fsv fpt many) (wM h st sl sv pt cI cZ (mst (gk x (fun j => j) n) (gk x (fun _ w => w) G) (gk x (fun _ _ => 0) va) (gk x (fun _ _ => false) mk)) fsl fsv fpt many) [.ref h, .int x] (some (.int (if isN x = true then nI n else -100000002))) := by
  refine WrM.of (cc := cX3_reset) (maxL := 3) (ret := (some .int)) (by decide) rfl (Nat.le_of_ble_eq_true rfl) ?_
  intro p e s m below meth c hx hb hr hml hown hts hlocks hP hK hD hS ls hl
  have hown : s.vm.findClass RX3 = some m.cls := hown
  have hl : lv_has ls 3 [(0, .ref h), (1, .int x)] := hl
  have hP : va_P D vwCl (wM h st sl sv pt cI cZ (mst n G va mk) fsl fsv fpt many) s.heap := hP
  have hk43 := hts (.constant RX3 43 (-100000002)) (by decide +kernel)
  have hn : n ≤ 64 := F.2.1
  refine lv_iload_n hx hb dX3_reset_0 rfl (lv_at hl 1 rfl) ?_
  refine lv_iconst (v := 1) hx hb dX3_reset_1 (by decide) ?_
  refine lv_bipush (v := 64) hx hb dX3_reset_2 (by decide) ?_
  refine rd_callS ⟨hx, hb, hml, hown, hts⟩ (c_X3_in l D cI cZ x 1 64) (va_cwS 3 hts gX3_reset_X3_in rfl rfl rfl (by decide +kernel) ⟨Nat.le_of_ble_eq_true rfl, Nat.le_of_ble_eq_true rfl⟩) hK rfl hl rfl (Nat.le_of_ble_eq_true rfl) dX3_reset_4 ⟨Nat.zero_le _, Nat.zero_le _⟩ ?_
  refine lv_if_ne (tgt := 13) hx hb dX3_reset_7 (by decide) (fun c_7 => ?_) (fun c_7 => ?_)
  · skip
    have c_7 := bI_1 c_7
    have hxt : isN x = true := c_7
    obtain ⟨kk, hk1, hk2, rfl⟩ := isN_of hxt
    refine lv_aload_n hx hb dX3_reset_13 rfl (lv_at hl 0 rfl) ?_
    refine rd_call ⟨hx, hb, hml, hown, hts⟩ (c_X3_many l D cI cZ h st sl sv pt fsl fsv fpt many n G va mk F) (cwV 0 hts gX3_reset_X3_many rfl rfl rfl (by decide +kernel) ⟨Nat.le_of_ble_eq_true rfl, Nat.le_of_ble_eq_true rfl⟩) hP hK rfl rfl rfl hl rfl (Nat.le_of_ble_eq_true rfl) dX3_reset_14 ⟨Nat.zero_le _, Nat.zero_le _⟩ ?_
    refine lv_istore_n (lv' := [(2, .int (nI n)), (0, .ref h), (1, .int (nI kk))]) hx hb dX3_reset_17 rfl hl (by decide) rfl (fun ls hl => ?_)
    refine lv_aload_n hx hb dX3_reset_18 rfl (lv_at hl 1 rfl) ?_
    refine lv_iload_n hx hb dX3_reset_19 rfl (lv_at hl 2 rfl) ?_
    refine wr_call (V1 := wM h st sl sv pt cI cZ (mst kk (fun w => w) (fun _ => 0) (fun _ => false)) fsl fsv fpt many) ⟨hx, hb, hml, hown, hts⟩ (c_X3_begin l D cI cZ h st sl sv pt fsl fsv fpt many (mst n G va mk) kk hk2) (cwV 1 hts gX3_reset_X3_begin rfl rfl rfl (by decide +kernel) ⟨Nat.le_of_ble_eq_true rfl, Nat.le_of_ble_eq_true rfl⟩) hP hK hD hS [0, 1, 2, 3, 4] [] [0, 1, 2, 3, 4] rfl rfl (by decide) rfl rfl rfl rfl rfl hl rfl (Nat.le_of_ble_eq_true rfl) dX3_reset_20 ⟨Nat.zero_le _, Nat.zero_le _⟩ (fun H locs hP hD hS => ?_)
    refine lv_iload_n hx hb dX3_reset_23 rfl (lv_at hl 0 rfl) ?_
    have hP : va_P D vwCl (wM h st sl sv pt cI cZ (mst (gk (nI kk) (fun j => j) n) (gk (nI kk) (fun _ w => w) G) (gk (nI kk) (fun _ _ => 0) va) (gk (nI kk) (fun _ _ => false) mk)) fsl fsv fpt many) H := by rw [gk_t hk1 hk2, gk_t hk1 hk2, gk_t hk1 hk2, gk_t hk1 hk2]; exact hP
    exact wr_i hx hb hr hlocks hP hS (by rw [hxt]; rfl) dX3_reset_24
  · skip
    have c_7 := bI_0 c_7
    have hxf : isN x = false := c_7
    refine lv_ldc (own := RX3) hx hb hown hk43 dX3_reset_10 ?_
    have hP : va_P D vwCl (wM h st sl sv pt cI cZ (mst (gk x (fun j => j) n) (gk x (fun _ w => w) G) (gk x (fun _ _ => 0) va) (gk x (fun _ _ => false) mk)) fsl fsv fpt many) s.heap := by rw [gk_f hxf, gk_f hxf, gk_f hxf, gk_f hxf]; exact hP
    exact wr_i hx hb hr hlocks hP hS (by rw [hxf]; rfl) dX3_reset_12
set_option maxHeartbeats 4000000 in
set_option maxRecDepth 100000 in
theorem c_X3_link (l : Launch) (D : va_G) (cI cZ : ClassId) (h : Nat) (st : Nat) (sl : Nat) (sv : Nat) (pt : Nat) (fsl : Nat → Int32) (fsv : Nat → Int32) (fpt : Nat → Int32) (many : Int32) (n : Nat) (G : Nat → Nat) (va : Nat → Int32) (mk : Nat → Bool) (F : fo_ok n G) (v : Int32) (u : Int32) : WrM l yX3_link wsX3_link 3 64 D cI cZ (wM h st sl sv pt cI cZ (mst n G va mk) fsl fsv fpt many) (wM h st sl sv pt cI cZ (mst n (gLink n G v u) va mk) fsl fsv fpt many) [.ref h, .int v, .int u] (some (.int (rLink n G v u))) := by
  refine WrM.of (cc := cX3_link) (maxL := 6) (ret := (some .int)) (by decide) rfl (Nat.le_of_ble_eq_true rfl) ?_
  intro p e s m below meth c hx hb hr hml hown hts hlocks hP hK hD hS ls hl
  have hown : s.vm.findClass RX3 = some m.cls := hown
  have hl : lv_has ls 6 [(0, .ref h), (1, .int v), (2, .int u)] := hl
  have hP : va_P D vwCl (wM h st sl sv pt cI cZ (mst n G va mk) fsl fsv fpt many) s.heap := hP
  have hk47 := hts (.constant RX3 47 (-100000001)) (by decide +kernel)
  have hk48 := hts (.constant RX3 48 (-100000003)) (by decide +kernel)
  have hk52 := hts (.constant RX3 52 (-100000008)) (by decide +kernel)
  have hf7 := hts (.fieldLink RX3 7 "DynamicForestModel" "state" "[I") (by decide +kernel)
  have hin3 : ∀ w ∈ u_ws RX3 TX3 5, w ∈ wsX3_link := by decide +kernel
  have hn : n ≤ 64 := F.2.1
  refine lv_aload_n hx hb dX3_link_0 rfl (lv_at hl 0 rfl) ?_
  refine lv_iload_n hx hb dX3_link_1 rfl (lv_at hl 1 rfl) ?_
  refine rd_call ⟨hx, hb, hml, hown, hts⟩ (c_X3_isVertex l D cI cZ h st sl sv pt fsl fsv fpt many n G va mk F v) (cwV 1 hts gX3_link_X3_isVertex rfl rfl rfl (by decide +kernel) ⟨Nat.le_of_ble_eq_true rfl, Nat.le_of_ble_eq_true rfl⟩) hP hK rfl rfl rfl hl rfl (Nat.le_of_ble_eq_true rfl) dX3_link_2 ⟨Nat.zero_le _, Nat.zero_le _⟩ ?_
  refine lv_if_eq (tgt := 16) hx hb dX3_link_5 (by decide) (fun c_5 => ?_) (fun c_5 => ?_)
  · skip
    have c_5 := bI_0 c_5
    refine lv_ldc (own := RX3) hx hb hown hk47 dX3_link_16 ?_
    have hP : va_P D vwCl (wM h st sl sv pt cI cZ (mst n (gLink n G v u) va mk) fsl fsv fpt many) s.heap := by unfold gLink; rw [gb_fl c_5]; exact hP
    exact wr_i hx hb hr hlocks hP hS (by unfold rLink; rw [gb_fl c_5]) dX3_link_18
  · skip
    have c_5 := bI_1 c_5
    obtain ⟨j, hj, rfl⟩ := hasB_of hn c_5
    refine lv_aload_n hx hb dX3_link_8 rfl (lv_at hl 0 rfl) ?_
    refine lv_iload_n hx hb dX3_link_9 rfl (lv_at hl 2 rfl) ?_
    refine rd_call ⟨hx, hb, hml, hown, hts⟩ (c_X3_isVertex l D cI cZ h st sl sv pt fsl fsv fpt many n G va mk F u) (cwV 1 hts gX3_link_X3_isVertex rfl rfl rfl (by decide +kernel) ⟨Nat.le_of_ble_eq_true rfl, Nat.le_of_ble_eq_true rfl⟩) hP hK rfl rfl rfl hl rfl (Nat.le_of_ble_eq_true rfl) dX3_link_10 ⟨Nat.zero_le _, Nat.zero_le _⟩ ?_
    refine lv_if_ne (tgt := 19) hx hb dX3_link_13 (by decide) (fun c_13 => ?_) (fun c_13 => ?_)
    · skip
      have c_13 := bI_1 c_13
      obtain ⟨k, hk, rfl⟩ := hasB_of hn c_13
      refine lv_aload_n hx hb dX3_link_19 rfl (lv_at hl 0 rfl) ?_
      refine lv_iload_n hx hb dX3_link_20 rfl (lv_at hl 1 rfl) ?_
      refine rd_call ⟨hx, hb, hml, hown, hts⟩ (c_X3_isRoot l D cI cZ h st sl sv pt fsl fsv fpt many n G va mk F j hj) (cwV 1 hts gX3_link_X3_isRoot rfl rfl rfl (by decide +kernel) ⟨Nat.le_of_ble_eq_true rfl, Nat.le_of_ble_eq_true rfl⟩) hP hK rfl rfl rfl hl rfl (Nat.le_of_ble_eq_true rfl) dX3_link_21 ⟨Nat.zero_le _, Nat.zero_le _⟩ ?_
      refine lv_if_ne (tgt := 30) hx hb dX3_link_24 (by decide) (fun c_24 => ?_) (fun c_24 => ?_)
      · skip
        have c_24 := bI_1 c_24
        have c_24 : G j = j := of_decide_eq_true c_24
        refine lv_aload_n hx hb dX3_link_30 rfl (lv_at hl 0 rfl) ?_
        refine lv_iload_n hx hb dX3_link_31 rfl (lv_at hl 2 rfl) ?_
        refine rd_call ⟨hx, hb, hml, hown, hts⟩ (c_X3_rootOf l D cI cZ h st sl sv pt fsl fsv fpt many n G va mk F k hk) (cwV 1 hts gX3_link_X3_rootOf rfl rfl rfl (by decide +kernel) ⟨Nat.le_of_ble_eq_true rfl, Nat.le_of_ble_eq_true rfl⟩) hP hK rfl rfl rfl hl rfl (Nat.le_of_ble_eq_true rfl) dX3_link_32 ⟨Nat.zero_le _, Nat.zero_le _⟩ ?_
        refine lv_iload_n hx hb dX3_link_35 rfl (lv_at hl 1 rfl) ?_
        have hlk := fo_r_lt F hk
        refine lv_icmp_ne (tgt := 42) hx hb dX3_link_36 (by decide) (fun c_36 => ?_) (fun c_36 => ?_)
        · skip
          have c_36 := cn_ne (a := (fo_r G k)) (b := j) (by omega) (by omega) c_36
          have F2 := fo_link F hj hk c_24 c_36
          refine lv_aload_n hx hb dX3_link_42 rfl (lv_at hl 0 rfl) ?_
          refine va_get (D := D) (ci := 3) (v := .ref st) (C := RX3) (T := TX3) (N := 5) hx hb hts hin3 hown hK hP 0 rfl rfl 0 (by decide) hf7 (fun _ h9 => h9) rfl dX3_link_43 ?_
          refine lv_iconst (v := 1) hx hb dX3_link_46 (by decide) ?_
          refine lv_iload_n hx hb dX3_link_47 rfl (lv_at hl 1 rfl) ?_
          refine lv_iadd hx hb dX3_link_48 ?_
          rw [show (1 + (nI j) : Int32) = nI (1 + j) from nI_add 1 j]
          refine lv_iload_n hx hb dX3_link_49 rfl (lv_at hl 2 rfl) ?_
          refine ar_is hx hb hK hP hD hS 1 rfl (k := (1 + j)) (by omega) (by decide) dX3_link_50 (fun H locs hP hD hS => ?_)
          have hP : va_P D vwCl (wM h st sl sv pt cI cZ (upd (mst n G va mk) (1 + j) (nI k)) fsl fsv fpt many) H := hP
          rw [mst_sp n G va mk (by omega)] at hP
          have hD : va_D (adr (wM h st sl sv pt cI cZ (mst n G va mk) fsl fsv fpt many)) (wM h st sl sv pt cI cZ (mst n (fo_set G j k) va mk) fsl fsv fpt many) := vd_same hD rfl
          refine lv_aload_n hx hb dX3_link_51 rfl (lv_at hl 0 rfl) ?_
          refine lv_iload_n hx hb dX3_link_52 rfl (lv_at hl 2 rfl) ?_
          refine rd_call ⟨hx, hb, hml, hown, hts⟩ (c_X3_rootOf l D cI cZ h st sl sv pt fsl fsv fpt many n (fo_set G j k) va mk F2 k hk) (cwV 1 hts gX3_link_X3_rootOf rfl rfl rfl (by decide +kernel) ⟨Nat.le_of_ble_eq_true rfl, Nat.le_of_ble_eq_true rfl⟩) hP hK rfl rfl rfl hl rfl (Nat.le_of_ble_eq_true rfl) dX3_link_53 ⟨Nat.zero_le _, Nat.zero_le _⟩ ?_
          refine lv_istore_n (lv' := [(3, .int (nI (fo_r (fo_set G j k) k))), (0, .ref h), (1, .int (nI j)), (2, .int (nI k))]) hx hb dX3_link_56 rfl hl (by decide) rfl (fun ls hl => ?_)
          refine lv_iconst (v := nI 0) hx hb dX3_link_57 (by decide) ?_
          refine lv_istore (lv' := [(4, .int (nI 0)), (3, .int (nI (fo_r (fo_set G j k) k))), (0, .ref h), (1, .int (nI j)), (2, .int (nI k))]) hx hb dX3_link_58 hl (by decide) rfl (fun ls hl => ?_)
          refine lv_iconst (v := nI 0) hx hb dX3_link_60 (by decide) ?_
          refine lv_istore (lv' := [(5, .int (nI 0)), (4, .int (nI 0)), (3, .int (nI (fo_r (fo_set G j k) k))), (0, .ref h), (1, .int (nI j)), (2, .int (nI k))]) hx hb dX3_link_61 hl (by decide) rfl (fun ls hl => ?_)
          have L63 : ∀ (k63_ : Nat) (i : Nat), i ≤ n → n - i < k63_ → ∀ (H : Heap) (locs : List Loc), va_P D vwCl (wM h st sl sv pt cI cZ (mst n (fo_set G j k) va mk) fsl fsv fpt many) H → va_D (adr (wM h st sl sv pt cI cZ (mst n G va mk) fsl fsv fpt many)) (wM h st sl sv pt cI cZ (mst n (fo_set G j k) va mk) fsl fsv fpt many) → va_S (adr (wM h st sl sv pt cI cZ (mst n G va mk) fsl fsv fpt many)) s.heap H locs → ∀ ls, lv_has ls 6 [(0, .ref h), (3, .int (nI (fo_r (fo_set G j k) k))), (4, .int (nI (fo_cnt (fun w => decide (fo_r (fo_set G j k) w = fo_r (fo_set G j k) k)) i))), (5, .int (nI i))] → Ww0 p l e wsX3_link 3 64 s m [.ref h, .int (nI j), .int (nI k)] below meth c D (wM h st sl sv pt cI cZ (mst n G va mk) fsl fsv fpt many) (wM h st sl sv pt cI cZ (mst n (gLink n G (nI j) (nI k)) va mk) fsl fsv fpt many) (some (.int (rLink n G (nI j) (nI k)))) H locs (F0 m 63 ls []) := by
            intro k63_
            induction k63_ with
            | zero => intro i hi hk63_; exact absurd hk63_ (Nat.not_lt_zero _)
            | succ k63_ ih63 =>
              intro i hi hk63_ H locs hP hD hS ls hl
              refine lv_iload hx hb dX3_link_63 (lv_at hl 3 rfl) ?_
              refine lv_aload_n hx hb dX3_link_65 rfl (lv_at hl 0 rfl) ?_
              refine rd_call ⟨hx, hb, hml, hown, hts⟩ (c_X3_many l D cI cZ h st sl sv pt fsl fsv fpt many n (fo_set G j k) va mk F2) (cwV 0 hts gX3_link_X3_many rfl rfl rfl (by decide +kernel) ⟨Nat.le_of_ble_eq_true rfl, Nat.le_of_ble_eq_true rfl⟩) hP hK rfl rfl rfl hl rfl (Nat.le_of_ble_eq_true rfl) dX3_link_66 ⟨Nat.zero_le _, Nat.zero_le _⟩ ?_
              refine lv_icmp_ge (tgt := 98) hx hb dX3_link_69 (by decide) (fun c_69 => ?_) (fun c_69 => ?_)
              · skip
                have c_69 := cn_le (a := n) (b := i) (by omega) (by omega) c_69
                refine lv_iload hx hb dX3_link_98 (lv_at hl 2 rfl) ?_
                have hP : va_P D vwCl (wM h st sl sv pt cI cZ (mst n (gLink n G (nI j) (nI k)) va mk) fsl fsv fpt many) H := by unfold gLink; rw [gb_t hj hk hn, if_pos ⟨c_24, c_36⟩]; exact hP
                exact wr_i hx hb hr hlocks hP hS (by unfold rLink; rw [gb_t hj hk hn, if_pos c_24, if_neg c_36, show i = n by omega, cnt_root F2 (fo_r_root F2 k)]) dX3_link_100
              · skip
                have c_69 := cn_nle (a := n) (b := i) (by omega) (by omega) c_69
                refine lv_iload hx hb dX3_link_72 (lv_at hl 2 rfl) ?_
                refine lv_aload_n hx hb dX3_link_74 rfl (lv_at hl 0 rfl) ?_
                refine lv_iload hx hb dX3_link_75 (lv_at hl 3 rfl) ?_
                refine rd_call ⟨hx, hb, hml, hown, hts⟩ (c_X3_rootOf l D cI cZ h st sl sv pt fsl fsv fpt many n (fo_set G j k) va mk F2 i c_69) (cwV 1 hts gX3_link_X3_rootOf rfl rfl rfl (by decide +kernel) ⟨Nat.le_of_ble_eq_true rfl, Nat.le_of_ble_eq_true rfl⟩) hP hK rfl rfl rfl hl rfl (Nat.le_of_ble_eq_true rfl) dX3_link_77 ⟨Nat.zero_le _, Nat.zero_le _⟩ ?_
                refine lv_iload_n hx hb dX3_link_80 rfl (lv_at hl 1 rfl) ?_
                have hl1 := fo_r_lt F2 c_69
                have hl2 := fo_r_lt F2 hk
                refine lv_icmp_ne (tgt := 88) hx hb dX3_link_81 (by decide) (fun c_81 => ?_) (fun c_81 => ?_)
                · skip
                  have c_81 := cn_ne (a := (fo_r (fo_set G j k) i)) (b := (fo_r (fo_set G j k) k)) (by omega) (by omega) c_81
                  refine lv_iconst (v := 0) hx hb dX3_link_88 (by decide) ?_
                  refine lv_iadd hx hb dX3_link_89 ?_
                  rw [show ((nI (fo_cnt (fun w => decide (fo_r (fo_set G j k) w = fo_r (fo_set G j k) k)) i)) + 0 : Int32) = nI ((fo_cnt (fun w => decide (fo_r (fo_set G j k) w = fo_r (fo_set G j k) k)) i) + 0) from nI_add (fo_cnt (fun w => decide (fo_r (fo_set G j k) w = fo_r (fo_set G j k) k)) i) 0]
                  refine lv_istore (lv' := [(4, .int (nI ((fo_cnt (fun w => decide (fo_r (fo_set G j k) w = fo_r (fo_set G j k) k)) i) + 0))), (0, .ref h), (3, .int (nI (fo_r (fo_set G j k) k))), (5, .int (nI i))]) hx hb dX3_link_90 hl (by decide) rfl (fun ls hl => ?_)
                  refine lv_iinc (v := nI (i + 1)) (lv' := [(5, .int (nI (i + 1))), (4, .int (nI ((fo_cnt (fun w => decide (fo_r (fo_set G j k) w = fo_r (fo_set G j k) k)) i) + 0))), (0, .ref h), (3, .int (nI (fo_r (fo_set G j k) k)))]) hx hb dX3_link_92 hl (k := 3) rfl (nI_1 i) (by decide) rfl (fun ls hl => ?_)
                  refine lv_goto (tgt := 63) hx hb dX3_link_95 (by decide) ?_
                  exact ih63 (i + 1) (by omega) (by omega) _ _ hP hD hS ls (by rw [fo_cnt_f (f := (fun w => decide (fo_r (fo_set G j k) w = fo_r (fo_set G j k) k))) (k := i) (decide_eq_false c_81)]; exact lv_sub hl [2, 3, 1, 0] rfl)
                · skip
                  have c_81 := cn_eq (a := (fo_r (fo_set G j k) i)) (b := (fo_r (fo_set G j k) k)) (by omega) (by omega) c_81
                  refine lv_iconst (v := 1) hx hb dX3_link_84 (by decide) ?_
                  refine lv_goto (tgt := 89) hx hb dX3_link_85 (by decide) ?_
                  refine lv_iadd hx hb dX3_link_89 ?_
                  rw [show ((nI (fo_cnt (fun w => decide (fo_r (fo_set G j k) w = fo_r (fo_set G j k) k)) i)) + 1 : Int32) = nI ((fo_cnt (fun w => decide (fo_r (fo_set G j k) w = fo_r (fo_set G j k) k)) i) + 1) from nI_add (fo_cnt (fun w => decide (fo_r (fo_set G j k) w = fo_r (fo_set G j k) k)) i) 1]
                  refine lv_istore (lv' := [(4, .int (nI ((fo_cnt (fun w => decide (fo_r (fo_set G j k) w = fo_r (fo_set G j k) k)) i) + 1))), (0, .ref h), (3, .int (nI (fo_r (fo_set G j k) k))), (5, .int (nI i))]) hx hb dX3_link_90 hl (by decide) rfl (fun ls hl => ?_)
                  refine lv_iinc (v := nI (i + 1)) (lv' := [(5, .int (nI (i + 1))), (4, .int (nI ((fo_cnt (fun w => decide (fo_r (fo_set G j k) w = fo_r (fo_set G j k) k)) i) + 1))), (0, .ref h), (3, .int (nI (fo_r (fo_set G j k) k)))]) hx hb dX3_link_92 hl (k := 3) rfl (nI_1 i) (by decide) rfl (fun ls hl => ?_)
                  refine lv_goto (tgt := 63) hx hb dX3_link_95 (by decide) ?_
                  exact ih63 (i + 1) (by omega) (by omega) _ _ hP hD hS ls (by rw [fo_cnt_t (f := (fun w => decide (fo_r (fo_set G j k) w = fo_r (fo_set G j k) k))) (k := i) (decide_eq_true c_81)]; exact lv_sub hl [2, 3, 1, 0] rfl)
          exact L63 (n - 0 + 1) 0 (Nat.zero_le _) (Nat.lt_succ_self _) _ _ hP hD hS ls (lv_sub hl [3, 2, 1, 0] rfl)
        · skip
          have c_36 := cn_eq (a := (fo_r G k)) (b := j) (by omega) (by omega) c_36
          refine lv_ldc (own := RX3) hx hb hown hk52 dX3_link_39 ?_
          have hP : va_P D vwCl (wM h st sl sv pt cI cZ (mst n (gLink n G (nI j) (nI k)) va mk) fsl fsv fpt many) s.heap := by unfold gLink; rw [gb_t hj hk hn, if_neg (fun q => q.2 c_36)]; exact hP
          exact wr_i hx hb hr hlocks hP hS (by unfold rLink; rw [gb_t hj hk hn, if_pos c_24, if_pos c_36]) dX3_link_41
      · skip
        have c_24 := bI_0 c_24
        have c_24 : ¬ G j = j := of_decide_eq_false c_24
        refine lv_ldc (own := RX3) hx hb hown hk48 dX3_link_27 ?_
        have hP : va_P D vwCl (wM h st sl sv pt cI cZ (mst n (gLink n G (nI j) (nI k)) va mk) fsl fsv fpt many) s.heap := by unfold gLink; rw [gb_t hj hk hn, if_neg (fun q => c_24 q.1)]; exact hP
        exact wr_i hx hb hr hlocks hP hS (by unfold rLink; rw [gb_t hj hk hn, if_neg c_24]) dX3_link_29
    · skip
      have c_13 := bI_0 c_13
      refine lv_ldc (own := RX3) hx hb hown hk47 dX3_link_16 ?_
      have hP : va_P D vwCl (wM h st sl sv pt cI cZ (mst n (gLink n G (nI j) u) va mk) fsl fsv fpt many) s.heap := by unfold gLink; rw [gb_fr c_13]; exact hP
      exact wr_i hx hb hr hlocks hP hS (by unfold rLink; rw [gb_fr c_13]) dX3_link_18
set_option maxHeartbeats 4000000 in
set_option maxRecDepth 100000 in
theorem c_X3_cut (l : Launch) (D : va_G) (cI cZ : ClassId) (h : Nat) (st : Nat) (sl : Nat) (sv : Nat) (pt : Nat) (fsl : Nat → Int32) (fsv : Nat → Int32) (fpt : Nat → Int32) (many : Int32) (n : Nat) (G : Nat → Nat) (va : Nat → Int32) (mk : Nat → Bool) (F : fo_ok n G) (v : Int32) : WrM l yX3_cut wsX3_cut 2 43 D cI cZ (wM h st sl sv pt cI cZ (mst n G va mk) fsl fsv fpt many) (wM h st sl sv pt cI cZ (mst n (ga n v (fun j => fo_set G j j) G) va mk) fsl fsv fpt many) [.ref h, .int v] (some (.int (ga n v (fun j => if G j = j then -100000007 else nI (G j)) (-100000001)))) := by
  refine WrM.of (cc := cX3_cut) (maxL := 3) (ret := (some .int)) (by decide) rfl (Nat.le_of_ble_eq_true rfl) ?_
  intro p e s m below meth c hx hb hr hml hown hts hlocks hP hK hD hS ls hl
  have hown : s.vm.findClass RX3 = some m.cls := hown
  have hl : lv_has ls 3 [(0, .ref h), (1, .int v)] := hl
  have hP : va_P D vwCl (wM h st sl sv pt cI cZ (mst n G va mk) fsl fsv fpt many) s.heap := hP
  have hk47 := hts (.constant RX3 47 (-100000001)) (by decide +kernel)
  have hk53 := hts (.constant RX3 53 (-100000007)) (by decide +kernel)
  have hf7 := hts (.fieldLink RX3 7 "DynamicForestModel" "state" "[I") (by decide +kernel)
  have hin3 : ∀ w ∈ u_ws RX3 TX3 5, w ∈ wsX3_cut := by decide +kernel
  have hn : n ≤ 64 := F.2.1
  refine lv_aload_n hx hb dX3_cut_0 rfl (lv_at hl 0 rfl) ?_
  refine lv_iload_n hx hb dX3_cut_1 rfl (lv_at hl 1 rfl) ?_
  refine rd_call ⟨hx, hb, hml, hown, hts⟩ (c_X3_isVertex l D cI cZ h st sl sv pt fsl fsv fpt many n G va mk F v) (cwV 1 hts gX3_cut_X3_isVertex rfl rfl rfl (by decide +kernel) ⟨Nat.le_of_ble_eq_true rfl, Nat.le_of_ble_eq_true rfl⟩) hP hK rfl rfl rfl hl rfl (Nat.le_of_ble_eq_true rfl) dX3_cut_2 ⟨Nat.zero_le _, Nat.zero_le _⟩ ?_
  refine lv_if_ne (tgt := 11) hx hb dX3_cut_5 (by decide) (fun c_5 => ?_) (fun c_5 => ?_)
  · skip
    have c_5 := bI_1 c_5
    obtain ⟨j, hj, rfl⟩ := hasB_of hn c_5
    refine lv_aload_n hx hb dX3_cut_11 rfl (lv_at hl 0 rfl) ?_
    refine lv_iload_n hx hb dX3_cut_12 rfl (lv_at hl 1 rfl) ?_
    refine rd_call ⟨hx, hb, hml, hown, hts⟩ (c_X3_isRoot l D cI cZ h st sl sv pt fsl fsv fpt many n G va mk F j hj) (cwV 1 hts gX3_cut_X3_isRoot rfl rfl rfl (by decide +kernel) ⟨Nat.le_of_ble_eq_true rfl, Nat.le_of_ble_eq_true rfl⟩) hP hK rfl rfl rfl hl rfl (Nat.le_of_ble_eq_true rfl) dX3_cut_13 ⟨Nat.zero_le _, Nat.zero_le _⟩ ?_
    refine lv_if_eq (tgt := 22) hx hb dX3_cut_16 (by decide) (fun c_16 => ?_) (fun c_16 => ?_)
    · skip
      have c_16 := bI_0 c_16
      have c_16 : ¬ G j = j := of_decide_eq_false c_16
      refine lv_aload_n hx hb dX3_cut_22 rfl (lv_at hl 0 rfl) ?_
      refine lv_iload_n hx hb dX3_cut_23 rfl (lv_at hl 1 rfl) ?_
      refine rd_call ⟨hx, hb, hml, hown, hts⟩ (c_X3_above l D cI cZ h st sl sv pt fsl fsv fpt many n G va mk F j hj) (cwV 1 hts gX3_cut_X3_above rfl rfl rfl (by decide +kernel) ⟨Nat.le_of_ble_eq_true rfl, Nat.le_of_ble_eq_true rfl⟩) hP hK rfl rfl rfl hl rfl (Nat.le_of_ble_eq_true rfl) dX3_cut_24 ⟨Nat.zero_le _, Nat.zero_le _⟩ ?_
      refine lv_istore_n (lv' := [(2, .int (nI (G j))), (0, .ref h), (1, .int (nI j))]) hx hb dX3_cut_27 rfl hl (by decide) rfl (fun ls hl => ?_)
      refine lv_aload_n hx hb dX3_cut_28 rfl (lv_at hl 1 rfl) ?_
      refine va_get (D := D) (ci := 3) (v := .ref st) (C := RX3) (T := TX3) (N := 5) hx hb hts hin3 hown hK hP 0 rfl rfl 0 (by decide) hf7 (fun _ h9 => h9) rfl dX3_cut_29 ?_
      refine lv_iconst (v := 1) hx hb dX3_cut_32 (by decide) ?_
      refine lv_iload_n hx hb dX3_cut_33 rfl (lv_at hl 2 rfl) ?_
      refine lv_iadd hx hb dX3_cut_34 ?_
      rw [show (1 + (nI j) : Int32) = nI (1 + j) from nI_add 1 j]
      refine lv_iload_n hx hb dX3_cut_35 rfl (lv_at hl 2 rfl) ?_
      refine ar_is hx hb hK hP hD hS 1 rfl (k := (1 + j)) (by omega) (by decide) dX3_cut_36 (fun H locs hP hD hS => ?_)
      have hP : va_P D vwCl (wM h st sl sv pt cI cZ (upd (mst n G va mk) (1 + j) (nI j)) fsl fsv fpt many) H := hP
      rw [mst_sp n G va mk (by omega)] at hP
      have hD : va_D (adr (wM h st sl sv pt cI cZ (mst n G va mk) fsl fsv fpt many)) (wM h st sl sv pt cI cZ (mst n (fo_set G j j) va mk) fsl fsv fpt many) := vd_same hD rfl
      refine lv_iload_n hx hb dX3_cut_37 rfl (lv_at hl 0 rfl) ?_
      have hP : va_P D vwCl (wM h st sl sv pt cI cZ (mst n (ga n (nI j) (fun j => fo_set G j j) G) va mk) fsl fsv fpt many) H := by rw [ga_t hj hn]; exact hP
      exact wr_i hx hb hr hlocks hP hS (by rw [ga_t hj hn, if_neg c_16]) dX3_cut_38
    · skip
      have c_16 := bI_1 c_16
      have c_16 : G j = j := of_decide_eq_true c_16
      refine lv_ldc (own := RX3) hx hb hown hk53 dX3_cut_19 ?_
      have hP : va_P D vwCl (wM h st sl sv pt cI cZ (mst n (ga n (nI j) (fun j => fo_set G j j) G) va mk) fsl fsv fpt many) s.heap := by rw [ga_t hj hn, fo_set_id c_16]; exact hP
      exact wr_i hx hb hr hlocks hP hS (by rw [ga_t hj hn, if_pos c_16]) dX3_cut_21
  · skip
    have c_5 := bI_0 c_5
    refine lv_ldc (own := RX3) hx hb hown hk47 dX3_cut_8 ?_
    have hP : va_P D vwCl (wM h st sl sv pt cI cZ (mst n (ga n v (fun j => fo_set G j j) G) va mk) fsl fsv fpt many) s.heap := by rw [ga_f c_5]; exact hP
    exact wr_i hx hb hr hlocks hP hS (by rw [ga_f c_5]) dX3_cut_10
set_option maxHeartbeats 4000000 in
set_option maxRecDepth 100000 in
theorem c_X3_reroot (l : Launch) (D : va_G) (cI cZ : ClassId) (h : Nat) (st : Nat) (sl : Nat) (sv : Nat) (pt : Nat) (fsl : Nat → Int32) (fsv : Nat → Int32) (fpt : Nat → Int32) (many : Int32) (n : Nat) (G : Nat → Nat) (va : Nat → Int32) (mk : Nat → Bool) (F : fo_ok n G) (v : Int32) : WrM l yX3_reroot wsX3_reroot 3 64 D cI cZ (wM h st sl sv pt cI cZ (mst n G va mk) fsl fsv fpt many) (wM h st sl sv pt cI cZ (mst n (ga n v (fun j => fo_rr G j) G) va mk) fsl fsv fpt many) [.ref h, .int v] (some (.int (ga n v (fun j => nI (fo_r G j)) (-100000001)))) := by
  refine WrM.of (cc := cX3_reroot) (maxL := 6) (ret := (some .int)) (by decide) rfl (Nat.le_of_ble_eq_true rfl) ?_
  intro p e s m below meth c hx hb hr hml hown hts hlocks hP hK hD hS ls hl
  have hown : s.vm.findClass RX3 = some m.cls := hown
  have hl : lv_has ls 6 [(0, .ref h), (1, .int v)] := hl
  have hP : va_P D vwCl (wM h st sl sv pt cI cZ (mst n G va mk) fsl fsv fpt many) s.heap := hP
  have hk47 := hts (.constant RX3 47 (-100000001)) (by decide +kernel)
  have hf7 := hts (.fieldLink RX3 7 "DynamicForestModel" "state" "[I") (by decide +kernel)
  have hin3 : ∀ w ∈ u_ws RX3 TX3 5, w ∈ wsX3_reroot := by decide +kernel
  have hn : n ≤ 64 := F.2.1
  refine lv_aload_n hx hb dX3_reroot_0 rfl (lv_at hl 0 rfl) ?_
  refine lv_iload_n hx hb dX3_reroot_1 rfl (lv_at hl 1 rfl) ?_
  refine rd_call ⟨hx, hb, hml, hown, hts⟩ (c_X3_isVertex l D cI cZ h st sl sv pt fsl fsv fpt many n G va mk F v) (cwV 1 hts gX3_reroot_X3_isVertex rfl rfl rfl (by decide +kernel) ⟨Nat.le_of_ble_eq_true rfl, Nat.le_of_ble_eq_true rfl⟩) hP hK rfl rfl rfl hl rfl (Nat.le_of_ble_eq_true rfl) dX3_reroot_2 ⟨Nat.zero_le _, Nat.zero_le _⟩ ?_
  refine lv_if_ne (tgt := 11) hx hb dX3_reroot_5 (by decide) (fun c_5 => ?_) (fun c_5 => ?_)
  · skip
    have c_5 := bI_1 c_5
    obtain ⟨j, hj, rfl⟩ := hasB_of hn c_5
    refine lv_aload_n hx hb dX3_reroot_11 rfl (lv_at hl 0 rfl) ?_
    refine lv_iload_n hx hb dX3_reroot_12 rfl (lv_at hl 1 rfl) ?_
    refine rd_call ⟨hx, hb, hml, hown, hts⟩ (c_X3_rootOf l D cI cZ h st sl sv pt fsl fsv fpt many n G va mk F j hj) (cwV 1 hts gX3_reroot_X3_rootOf rfl rfl rfl (by decide +kernel) ⟨Nat.le_of_ble_eq_true rfl, Nat.le_of_ble_eq_true rfl⟩) hP hK rfl rfl rfl hl rfl (Nat.le_of_ble_eq_true rfl) dX3_reroot_13 ⟨Nat.zero_le _, Nat.zero_le _⟩ ?_
    refine lv_istore_n (lv' := [(2, .int (nI (fo_r G j))), (0, .ref h), (1, .int (nI j))]) hx hb dX3_reroot_16 rfl hl (by decide) rfl (fun ls hl => ?_)
    refine lv_iload_n hx hb dX3_reroot_17 rfl (lv_at hl 2 rfl) ?_
    refine lv_istore_n (lv' := [(3, .int (nI j)), (2, .int (nI (fo_r G j))), (0, .ref h), (1, .int (nI j))]) hx hb dX3_reroot_18 rfl hl (by decide) rfl (fun ls hl => ?_)
    refine lv_aload_n hx hb dX3_reroot_19 rfl (lv_at hl 2 rfl) ?_
    refine lv_iload_n hx hb dX3_reroot_20 rfl (lv_at hl 0 rfl) ?_
    refine rd_call ⟨hx, hb, hml, hown, hts⟩ (c_X3_above l D cI cZ h st sl sv pt fsl fsv fpt many n G va mk F j hj) (cwV 1 hts gX3_reroot_X3_above rfl rfl rfl (by decide +kernel) ⟨Nat.le_of_ble_eq_true rfl, Nat.le_of_ble_eq_true rfl⟩) hP hK rfl rfl rfl hl rfl (Nat.le_of_ble_eq_true rfl) dX3_reroot_21 ⟨Nat.zero_le _, Nat.zero_le _⟩ ?_
    refine lv_istore (lv' := [(4, .int (nI (fo_up G (0 + 1) j))), (3, .int (nI j)), (2, .int (nI (fo_r G j))), (0, .ref h), (1, .int (nI j))]) hx hb dX3_reroot_24 hl (by decide) rfl (fun ls hl => ?_)
    refine lv_aload_n hx hb dX3_reroot_26 rfl (lv_at hl 3 rfl) ?_
    refine va_get (D := D) (ci := 3) (v := .ref st) (C := RX3) (T := TX3) (N := 5) hx hb hts hin3 hown hK hP 0 rfl rfl 0 (by decide) hf7 (fun _ h9 => h9) rfl dX3_reroot_27 ?_
    refine lv_iconst (v := 1) hx hb dX3_reroot_30 (by decide) ?_
    refine lv_iload_n hx hb dX3_reroot_31 rfl (lv_at hl 1 rfl) ?_
    refine lv_iadd hx hb dX3_reroot_32 ?_
    rw [show (1 + (nI j) : Int32) = nI (1 + j) from nI_add 1 j]
    refine lv_iload_n hx hb dX3_reroot_33 rfl (lv_at hl 1 rfl) ?_
    refine ar_is hx hb hK hP hD hS 1 rfl (k := (1 + j)) (by omega) (by decide) dX3_reroot_34 (fun H locs hP hD hS => ?_)
    have hP : va_P D vwCl (wM h st sl sv pt cI cZ (upd (mst n G va mk) (1 + j) (nI j)) fsl fsv fpt many) H := hP
    rw [mst_sp n G va mk (by omega)] at hP
    have hD : va_D (adr (wM h st sl sv pt cI cZ (mst n G va mk) fsl fsv fpt many)) (wM h st sl sv pt cI cZ (mst n (fo_rs G j (0 + 1)) va mk) fsl fsv fpt many) := vd_same hD rfl
    have L35 : ∀ (k35_ : Nat) (i : Nat), i ≤ fo_d G j → fo_d G j - i < k35_ → ∀ (H : Heap) (locs : List Loc), va_P D vwCl (wM h st sl sv pt cI cZ (mst n (fo_rs G j (i + 1)) va mk) fsl fsv fpt many) H → va_D (adr (wM h st sl sv pt cI cZ (mst n G va mk) fsl fsv fpt many)) (wM h st sl sv pt cI cZ (mst n (fo_rs G j (i + 1)) va mk) fsl fsv fpt many) → va_S (adr (wM h st sl sv pt cI cZ (mst n G va mk) fsl fsv fpt many)) s.heap H locs → ∀ ls, lv_has ls 6 [(0, .ref h), (2, .int (nI (fo_r G j))), (3, .int (nI (fo_up G i j))), (4, .int (nI (fo_up G (i + 1) j)))] → Ww0 p l e wsX3_reroot 3 64 s m [.ref h, .int (nI j)] below meth c D (wM h st sl sv pt cI cZ (mst n G va mk) fsl fsv fpt many) (wM h st sl sv pt cI cZ (mst n (ga n (nI j) (fun j => fo_rr G j) G) va mk) fsl fsv fpt many) (some (.int (ga n (nI j) (fun j => nI (fo_r G j)) (-100000001)))) H locs (F0 m 35 ls []) := by
      intro k35_
      induction k35_ with
      | zero => intro i hi hk35_; exact absurd hk35_ (Nat.not_lt_zero _)
      | succ k35_ ih35 =>
        intro i hi hk35_ H locs hP hD hS ls hl
        have hl1 := fo_lt F hj i
        have hl2 := fo_lt F hj (i + 1)
        refine lv_iload hx hb dX3_reroot_35 (lv_at hl 3 rfl) ?_
        refine lv_iload_n hx hb dX3_reroot_37 rfl (lv_at hl 2 rfl) ?_
        refine lv_icmp_eq (tgt := 69) hx hb dX3_reroot_38 (by decide) (fun c_38 => ?_) (fun c_38 => ?_)
        · skip
          have c_38 := cn_eq (a := (fo_up G (i + 1) j)) (b := (fo_up G i j)) (by omega) (by omega) c_38
          have e38 : i = fo_d G j := fo_d_is F hi (by rw [← fo_up_s G i j]; exact c_38)
          refine lv_iload_n hx hb dX3_reroot_69 rfl (lv_at hl 1 rfl) ?_
          have err : fo_rr G j = fo_rs G j (i + 1) := by unfold fo_rr; rw [e38]
          have hP : va_P D vwCl (wM h st sl sv pt cI cZ (mst n (ga n (nI j) (fun j => fo_rr G j) G) va mk) fsl fsv fpt many) H := by rw [ga_t hj hn, err]; exact hP
          exact wr_i hx hb hr hlocks hP hS (by rw [ga_t hj hn]) dX3_reroot_70
        · skip
          have c_38 := cn_ne (a := (fo_up G (i + 1) j)) (b := (fo_up G i j)) (by omega) (by omega) c_38
          have hi1 : i + 1 ≤ fo_d G j := fo_d_gt F hi (fun q => c_38 (by rw [fo_up_s G i j]; exact q))
          refine lv_aload_n hx hb dX3_reroot_41 rfl (lv_at hl 0 rfl) ?_
          refine lv_iload hx hb dX3_reroot_42 (lv_at hl 3 rfl) ?_
          refine rd_call ⟨hx, hb, hml, hown, hts⟩ (c_X3_aboveR l D cI cZ h st sl sv pt fsl fsv fpt many n (fo_rs G j (i + 1)) va mk hn (fo_up G (i + 1) j) (fo_lt F hj _)) (cwV 1 hts gX3_reroot_X3_above rfl rfl rfl (by decide +kernel) ⟨Nat.le_of_ble_eq_true rfl, Nat.le_of_ble_eq_true rfl⟩) hP hK rfl rfl rfl hl rfl (Nat.le_of_ble_eq_true rfl) dX3_reroot_44 ⟨Nat.zero_le _, Nat.zero_le _⟩ ?_
          rw [fo_rs_at F j hi1, ← fo_up_s G (i + 1) j]
          refine lv_istore (lv' := [(5, .int (nI (fo_up G (i + 1 + 1) j))), (0, .ref h), (2, .int (nI (fo_r G j))), (3, .int (nI (fo_up G i j))), (4, .int (nI (fo_up G (i + 1) j)))]) hx hb dX3_reroot_47 hl (by decide) rfl (fun ls hl => ?_)
          refine lv_aload_n hx hb dX3_reroot_49 rfl (lv_at hl 1 rfl) ?_
          refine va_get (D := D) (ci := 3) (v := .ref st) (C := RX3) (T := TX3) (N := 5) hx hb hts hin3 hown hK hP 0 rfl rfl 0 (by decide) hf7 (fun _ h9 => h9) rfl dX3_reroot_50 ?_
          refine lv_iconst (v := 1) hx hb dX3_reroot_53 (by decide) ?_
          refine lv_iload hx hb dX3_reroot_54 (lv_at hl 4 rfl) ?_
          refine lv_iadd hx hb dX3_reroot_56 ?_
          rw [show (1 + (nI (fo_up G (i + 1) j)) : Int32) = nI (1 + (fo_up G (i + 1) j)) from nI_add 1 (fo_up G (i + 1) j)]
          refine lv_iload_n hx hb dX3_reroot_57 rfl (lv_at hl 3 rfl) ?_
          refine ar_is hx hb hK hP hD hS 1 rfl (k := (1 + (fo_up G (i + 1) j))) (by omega) (by decide) dX3_reroot_58 (fun H locs hP hD hS => ?_)
          have hP : va_P D vwCl (wM h st sl sv pt cI cZ (upd (mst n (fo_rs G j (i + 1)) va mk) (1 + (fo_up G (i + 1) j)) (nI (fo_up G i j))) fsl fsv fpt many) H := hP
          rw [mst_sp n (fo_rs G j (i + 1)) va mk (by omega)] at hP
          have hD : va_D (adr (wM h st sl sv pt cI cZ (mst n G va mk) fsl fsv fpt many)) (wM h st sl sv pt cI cZ (mst n (fo_rs G j (i + 1 + 1)) va mk) fsl fsv fpt many) := vd_same hD rfl
          refine lv_iload hx hb dX3_reroot_59 (lv_at hl 4 rfl) ?_
          refine lv_istore_n (lv' := [(3, .int (nI (fo_up G (i + 1) j))), (5, .int (nI (fo_up G (i + 1 + 1) j))), (0, .ref h), (2, .int (nI (fo_r G j))), (4, .int (nI (fo_up G (i + 1) j)))]) hx hb dX3_reroot_61 rfl hl (by decide) rfl (fun ls hl => ?_)
          refine lv_iload hx hb dX3_reroot_62 (lv_at hl 1 rfl) ?_
          refine lv_istore (lv' := [(4, .int (nI (fo_up G (i + 1 + 1) j))), (3, .int (nI (fo_up G (i + 1) j))), (5, .int (nI (fo_up G (i + 1 + 1) j))), (0, .ref h), (2, .int (nI (fo_r G j)))]) hx hb dX3_reroot_64 hl (by decide) rfl (fun ls hl => ?_)
          refine lv_goto (tgt := 35) hx hb dX3_reroot_66 (by decide) ?_
          exact ih35 (i + 1) hi1 (by omega) _ _ hP hD hS ls (lv_sub hl [3, 4, 1, 0] rfl)
    exact L35 (fo_d G j - 0 + 1) 0 (Nat.zero_le _) (Nat.lt_succ_self _) _ _ hP hD hS ls (lv_sub hl [3, 2, 1, 0] rfl)
  · skip
    have c_5 := bI_0 c_5
    refine lv_ldc (own := RX3) hx hb hown hk47 dX3_reroot_8 ?_
    have hP : va_P D vwCl (wM h st sl sv pt cI cZ (mst n (ga n v (fun j => fo_rr G j) G) va mk) fsl fsv fpt many) s.heap := by rw [ga_f c_5]; exact hP
    exact wr_i hx hb hr hlocks hP hS (by rw [ga_f c_5]) dX3_reroot_10
set_option maxHeartbeats 4000000 in
set_option maxRecDepth 100000 in
theorem c_X3_setValue (l : Launch) (D : va_G) (cI cZ : ClassId) (h : Nat) (st : Nat) (sl : Nat) (sv : Nat) (pt : Nat) (fsl : Nat → Int32) (fsv : Nat → Int32) (fpt : Nat → Int32) (many : Int32) (n : Nat) (G : Nat → Nat) (va : Nat → Int32) (mk : Nat → Bool) (F : fo_ok n G) (v : Int32) (x : Int32) : WrM l yX3_setValue wsX3_setValue 2 43 D cI cZ (wM h st sl sv pt cI cZ (mst n G va mk) fsl fsv fpt many) (wM h st sl sv pt cI cZ (mst n G (ga n v (fun j => if isV x = true then upd va j x else va) va) mk) fsl fsv fpt many) [.ref h, .int v, .int x] (some (.int (ga n v (fun j => if isV x = true then va j else -100000002) (-100000001)))) := by
  refine WrM.of (cc := cX3_setValue) (maxL := 4) (ret := (some .int)) (by decide) rfl (Nat.le_of_ble_eq_true rfl) ?_
  intro p e s m below meth c hx hb hr hml hown hts hlocks hP hK hD hS ls hl
  have hown : s.vm.findClass RX3 = some m.cls := hown
  have hl : lv_has ls 4 [(0, .ref h), (1, .int v), (2, .int x)] := hl
  have hP : va_P D vwCl (wM h st sl sv pt cI cZ (mst n G va mk) fsl fsv fpt many) s.heap := hP
  have hk47 := hts (.constant RX3 47 (-100000001)) (by decide +kernel)
  have hk43 := hts (.constant RX3 43 (-100000002)) (by decide +kernel)
  have hf7 := hts (.fieldLink RX3 7 "DynamicForestModel" "state" "[I") (by decide +kernel)
  have hin3 : ∀ w ∈ u_ws RX3 TX3 5, w ∈ wsX3_setValue := by decide +kernel
  have hn : n ≤ 64 := F.2.1
  refine lv_aload_n hx hb dX3_setValue_0 rfl (lv_at hl 0 rfl) ?_
  refine lv_iload_n hx hb dX3_setValue_1 rfl (lv_at hl 1 rfl) ?_
  refine rd_call ⟨hx, hb, hml, hown, hts⟩ (c_X3_isVertex l D cI cZ h st sl sv pt fsl fsv fpt many n G va mk F v) (cwV 1 hts gX3_setValue_X3_isVertex rfl rfl rfl (by decide +kernel) ⟨Nat.le_of_ble_eq_true rfl, Nat.le_of_ble_eq_true rfl⟩) hP hK rfl rfl rfl hl rfl (Nat.le_of_ble_eq_true rfl) dX3_setValue_2 ⟨Nat.zero_le _, Nat.zero_le _⟩ ?_
  refine lv_if_ne (tgt := 11) hx hb dX3_setValue_5 (by decide) (fun c_5 => ?_) (fun c_5 => ?_)
  · skip
    have c_5 := bI_1 c_5
    obtain ⟨j, hj, rfl⟩ := hasB_of hn c_5
    refine lv_iload_n hx hb dX3_setValue_11 rfl (lv_at hl 2 rfl) ?_
    refine rd_callS ⟨hx, hb, hml, hown, hts⟩ (c_X3_isValue l D cI cZ x) (va_cwS 1 hts gX3_setValue_X3_isValue rfl rfl rfl (by decide +kernel) ⟨Nat.le_of_ble_eq_true rfl, Nat.le_of_ble_eq_true rfl⟩) hK rfl hl rfl (Nat.le_of_ble_eq_true rfl) dX3_setValue_12 ⟨Nat.zero_le _, Nat.zero_le _⟩ ?_
    refine lv_if_ne (tgt := 21) hx hb dX3_setValue_15 (by decide) (fun c_15 => ?_) (fun c_15 => ?_)
    · skip
      have c_15 := bI_1 c_15
      refine lv_aload_n hx hb dX3_setValue_21 rfl (lv_at hl 0 rfl) ?_
      refine lv_iload_n hx hb dX3_setValue_22 rfl (lv_at hl 1 rfl) ?_
      refine rd_call ⟨hx, hb, hml, hown, hts⟩ (c_X3_valueOf l D cI cZ h st sl sv pt fsl fsv fpt many n G va mk F j hj) (cwV 1 hts gX3_setValue_X3_valueOf rfl rfl rfl (by decide +kernel) ⟨Nat.le_of_ble_eq_true rfl, Nat.le_of_ble_eq_true rfl⟩) hP hK rfl rfl rfl hl rfl (Nat.le_of_ble_eq_true rfl) dX3_setValue_23 ⟨Nat.zero_le _, Nat.zero_le _⟩ ?_
      refine lv_istore_n (lv' := [(3, .int (va j)), (0, .ref h), (1, .int (nI j)), (2, .int x)]) hx hb dX3_setValue_26 rfl hl (by decide) rfl (fun ls hl => ?_)
      refine lv_aload_n hx hb dX3_setValue_27 rfl (lv_at hl 1 rfl) ?_
      refine va_get (D := D) (ci := 3) (v := .ref st) (C := RX3) (T := TX3) (N := 5) hx hb hts hin3 hown hK hP 0 rfl rfl 0 (by decide) hf7 (fun _ h9 => h9) rfl dX3_setValue_28 ?_
      refine lv_bipush (v := 65) hx hb dX3_setValue_31 (by decide) ?_
      refine lv_iload_n hx hb dX3_setValue_33 rfl (lv_at hl 2 rfl) ?_
      refine lv_iadd hx hb dX3_setValue_34 ?_
      rw [show (65 + (nI j) : Int32) = nI (65 + j) from nI_add 65 j]
      refine lv_iload_n hx hb dX3_setValue_35 rfl (lv_at hl 3 rfl) ?_
      refine ar_is hx hb hK hP hD hS 1 rfl (k := (65 + j)) (by omega) (by decide) dX3_setValue_36 (fun H locs hP hD hS => ?_)
      have hP : va_P D vwCl (wM h st sl sv pt cI cZ (upd (mst n G va mk) (65 + j) x) fsl fsv fpt many) H := hP
      rw [mst_sv n G va mk (by omega)] at hP
      have hD : va_D (adr (wM h st sl sv pt cI cZ (mst n G va mk) fsl fsv fpt many)) (wM h st sl sv pt cI cZ (mst n G (upd va j x) mk) fsl fsv fpt many) := vd_same hD rfl
      refine lv_iload_n hx hb dX3_setValue_37 rfl (lv_at hl 0 rfl) ?_
      have hP : va_P D vwCl (wM h st sl sv pt cI cZ (mst n G (ga n (nI j) (fun j => if isV x = true then upd va j x else va) va) mk) fsl fsv fpt many) H := by rw [ga_t hj hn, if_pos c_15]; exact hP
      exact wr_i hx hb hr hlocks hP hS (by rw [ga_t hj hn, if_pos c_15]) dX3_setValue_38
    · skip
      have c_15 := bI_0 c_15
      refine lv_ldc (own := RX3) hx hb hown hk43 dX3_setValue_18 ?_
      have hP : va_P D vwCl (wM h st sl sv pt cI cZ (mst n G (ga n (nI j) (fun j => if isV x = true then upd va j x else va) va) mk) fsl fsv fpt many) s.heap := by rw [ga_t hj hn, if_neg (by rw [c_15]; decide)]; exact hP
      exact wr_i hx hb hr hlocks hP hS (by rw [ga_t hj hn, if_neg (by rw [c_15]; decide)]) dX3_setValue_20
  · skip
    have c_5 := bI_0 c_5
    refine lv_ldc (own := RX3) hx hb hown hk47 dX3_setValue_8 ?_
    have hP : va_P D vwCl (wM h st sl sv pt cI cZ (mst n G (ga n v (fun j => if isV x = true then upd va j x else va) va) mk) fsl fsv fpt many) s.heap := by rw [ga_f c_5]; exact hP
    exact wr_i hx hb hr hlocks hP hS (by rw [ga_f c_5]) dX3_setValue_10
set_option maxHeartbeats 4000000 in
set_option maxRecDepth 100000 in
theorem c_X3_setMark (l : Launch) (D : va_G) (cI cZ : ClassId) (h : Nat) (st : Nat) (sl : Nat) (sv : Nat) (pt : Nat) (fsl : Nat → Int32) (fsv : Nat → Int32) (fpt : Nat → Int32) (many : Int32) (n : Nat) (G : Nat → Nat) (va : Nat → Int32) (mk : Nat → Bool) (F : fo_ok n G) (v : Int32) (on : Bool) : WrM l yX3_setMark wsX3_setMark 2 43 D cI cZ (wM h st sl sv pt cI cZ (mst n G va mk) fsl fsv fpt many) (wM h st sl sv pt cI cZ (mst n G va (ga n v (fun j => bset mk j on) mk)) fsl fsv fpt many) [.ref h, .int v, .int (bI on)] (some (.int (ga n v (fun j => bI (mk j)) (-100000001)))) := by
  refine WrM.of (cc := cX3_setMark) (maxL := 4) (ret := (some .int)) (by decide) rfl (Nat.le_of_ble_eq_true rfl) ?_
  intro p e s m below meth c hx hb hr hml hown hts hlocks hP hK hD hS ls hl
  have hown : s.vm.findClass RX3 = some m.cls := hown
  have hl : lv_has ls 4 [(0, .ref h), (1, .int v), (2, .int (bI on))] := hl
  have hP : va_P D vwCl (wM h st sl sv pt cI cZ (mst n G va mk) fsl fsv fpt many) s.heap := hP
  have hk47 := hts (.constant RX3 47 (-100000001)) (by decide +kernel)
  have hf7 := hts (.fieldLink RX3 7 "DynamicForestModel" "state" "[I") (by decide +kernel)
  have hin3 : ∀ w ∈ u_ws RX3 TX3 5, w ∈ wsX3_setMark := by decide +kernel
  have hn : n ≤ 64 := F.2.1
  refine lv_aload_n hx hb dX3_setMark_0 rfl (lv_at hl 0 rfl) ?_
  refine lv_iload_n hx hb dX3_setMark_1 rfl (lv_at hl 1 rfl) ?_
  refine rd_call ⟨hx, hb, hml, hown, hts⟩ (c_X3_isVertex l D cI cZ h st sl sv pt fsl fsv fpt many n G va mk F v) (cwV 1 hts gX3_setMark_X3_isVertex rfl rfl rfl (by decide +kernel) ⟨Nat.le_of_ble_eq_true rfl, Nat.le_of_ble_eq_true rfl⟩) hP hK rfl rfl rfl hl rfl (Nat.le_of_ble_eq_true rfl) dX3_setMark_2 ⟨Nat.zero_le _, Nat.zero_le _⟩ ?_
  refine lv_if_ne (tgt := 11) hx hb dX3_setMark_5 (by decide) (fun c_5 => ?_) (fun c_5 => ?_)
  · skip
    have c_5 := bI_1 c_5
    obtain ⟨j, hj, rfl⟩ := hasB_of hn c_5
    refine lv_aload_n hx hb dX3_setMark_11 rfl (lv_at hl 0 rfl) ?_
    refine va_get (D := D) (ci := 3) (v := .ref st) (C := RX3) (T := TX3) (N := 5) hx hb hts hin3 hown hK hP 0 rfl rfl 0 (by decide) hf7 (fun _ h9 => h9) rfl dX3_setMark_12 ?_
    refine lv_sipush (v := 129) hx hb dX3_setMark_15 (by decide) ?_
    refine lv_iload_n hx hb dX3_setMark_18 rfl (lv_at hl 1 rfl) ?_
    refine lv_iadd hx hb dX3_setMark_19 ?_
    rw [show (129 + (nI j) : Int32) = nI (129 + j) from nI_add 129 j]
    refine ar_i (tys := []) hx hb hK hP 1 rfl (k := (129 + j)) (by omega) (by decide) dX3_setMark_20 ?_
    rw [mst_m n G va mk j]
    refine lv_istore_n (lv' := [(3, .int (bI (mk j))), (0, .ref h), (1, .int (nI j)), (2, .int (bI on))]) hx hb dX3_setMark_21 rfl hl (by decide) rfl (fun ls hl => ?_)
    refine lv_aload_n hx hb dX3_setMark_22 rfl (lv_at hl 1 rfl) ?_
    refine va_get (D := D) (ci := 3) (v := .ref st) (C := RX3) (T := TX3) (N := 5) hx hb hts hin3 hown hK hP 0 rfl rfl 0 (by decide) hf7 (fun _ h9 => h9) rfl dX3_setMark_23 ?_
    refine lv_sipush (v := 129) hx hb dX3_setMark_26 (by decide) ?_
    refine lv_iload_n hx hb dX3_setMark_29 rfl (lv_at hl 2 rfl) ?_
    refine lv_iadd hx hb dX3_setMark_30 ?_
    rw [show (129 + (nI j) : Int32) = nI (129 + j) from nI_add 129 j]
    refine lv_iload_n hx hb dX3_setMark_31 rfl (lv_at hl 3 rfl) ?_
    refine lv_if_eq (tgt := 39) hx hb dX3_setMark_32 (by decide) (fun c_32 => ?_) (fun c_32 => ?_)
    · skip
      have c_32 := bI_0 c_32
      refine lv_iconst (v := 0) hx hb dX3_setMark_39 (by decide) ?_
      refine ar_is hx hb hK hP hD hS 1 rfl (k := (129 + j)) (by omega) (by decide) dX3_setMark_40 (fun H locs hP hD hS => ?_)
      have hP : va_P D vwCl (wM h st sl sv pt cI cZ (upd (mst n G va mk) (129 + j) 0) fsl fsv fpt many) H := hP
      have hP : va_P D vwCl (wM h st sl sv pt cI cZ (upd (mst n G va mk) (129 + j) (bI on)) fsl fsv fpt many) H := by rw [c_32]; exact hP
      rw [mst_sm] at hP
      have hD : va_D (adr (wM h st sl sv pt cI cZ (mst n G va mk) fsl fsv fpt many)) (wM h st sl sv pt cI cZ (mst n G va (bset mk j on)) fsl fsv fpt many) := vd_same hD rfl
      refine lv_iload_n hx hb dX3_setMark_41 rfl (lv_at hl 0 rfl) ?_
      have hP : va_P D vwCl (wM h st sl sv pt cI cZ (mst n G va (ga n (nI j) (fun j => bset mk j on) mk)) fsl fsv fpt many) H := by rw [ga_t hj hn]; exact hP
      exact wr_i hx hb hr hlocks hP hS (by rw [ga_t hj hn]) dX3_setMark_42
    · skip
      have c_32 := bI_1 c_32
      refine lv_iconst (v := 1) hx hb dX3_setMark_35 (by decide) ?_
      refine lv_goto (tgt := 40) hx hb dX3_setMark_36 (by decide) ?_
      refine ar_is hx hb hK hP hD hS 1 rfl (k := (129 + j)) (by omega) (by decide) dX3_setMark_40 (fun H locs hP hD hS => ?_)
      have hP : va_P D vwCl (wM h st sl sv pt cI cZ (upd (mst n G va mk) (129 + j) 1) fsl fsv fpt many) H := hP
      have hP : va_P D vwCl (wM h st sl sv pt cI cZ (upd (mst n G va mk) (129 + j) (bI on)) fsl fsv fpt many) H := by rw [c_32]; exact hP
      rw [mst_sm] at hP
      have hD : va_D (adr (wM h st sl sv pt cI cZ (mst n G va mk) fsl fsv fpt many)) (wM h st sl sv pt cI cZ (mst n G va (bset mk j on)) fsl fsv fpt many) := vd_same hD rfl
      refine lv_iload_n hx hb dX3_setMark_41 rfl (lv_at hl 0 rfl) ?_
      have hP : va_P D vwCl (wM h st sl sv pt cI cZ (mst n G va (ga n (nI j) (fun j => bset mk j on) mk)) fsl fsv fpt many) H := by rw [ga_t hj hn]; exact hP
      exact wr_i hx hb hr hlocks hP hS (by rw [ga_t hj hn]) dX3_setMark_42
  · skip
    have c_5 := bI_0 c_5
    refine lv_ldc (own := RX3) hx hb hown hk47 dX3_setMark_8 ?_
    have hP : va_P D vwCl (wM h st sl sv pt cI cZ (mst n G va (ga n v (fun j => bset mk j on) mk)) fsl fsv fpt many) s.heap := by rw [ga_f c_5]; exact hP
    exact wr_i hx hb hr hlocks hP hS (by rw [ga_f c_5]) dX3_setMark_10
set_option maxHeartbeats 4000000 in
set_option maxRecDepth 100000 in
theorem c_X3_addInSubtree (l : Launch) (D : va_G) (cI cZ : ClassId) (h : Nat) (st : Nat) (sl : Nat) (sv : Nat) (pt : Nat) (fsl : Nat → Int32) (fsv : Nat → Int32) (fpt : Nat → Int32) (many : Int32) (n : Nat) (G : Nat → Nat) (va : Nat → Int32) (mk : Nat → Bool) (F : fo_ok n G) (v : Int32) (x : Int32) : WrM l yX3_addInSubtree wsX3_addInSubtree 3 65 D cI cZ (wM h st sl sv pt cI cZ (mst n G va mk) fsl fsv fpt many) (wM h st sl sv pt cI cZ (mst n G (ga n v (fun j => if oSub n G va x j = true then vSub va (fun w => fo_bel G w j) x n else va) va) mk) fsl fsv fpt many) [.ref h, .int v, .int x] (some (.int (ga n v (fun j => rSub n G va x j) (-100000001)))) := by
  refine WrM.of (cc := cX3_addInSubtree) (maxL := 5) (ret := (some .int)) (by decide) rfl (Nat.le_of_ble_eq_true rfl) ?_
  intro p e s m below meth c hx hb hr hml hown hts hlocks hP hK hD hS ls hl
  have hown : s.vm.findClass RX3 = some m.cls := hown
  have hl : lv_has ls 5 [(0, .ref h), (1, .int v), (2, .int x)] := hl
  have hP : va_P D vwCl (wM h st sl sv pt cI cZ (mst n G va mk) fsl fsv fpt many) s.heap := hP
  have hk47 := hts (.constant RX3 47 (-100000001)) (by decide +kernel)
  have hk43 := hts (.constant RX3 43 (-100000002)) (by decide +kernel)
  have hk87 := hts (.constant RX3 87 (-100000005)) (by decide +kernel)
  have hf7 := hts (.fieldLink RX3 7 "DynamicForestModel" "state" "[I") (by decide +kernel)
  have hin3 : ∀ w ∈ u_ws RX3 TX3 5, w ∈ wsX3_addInSubtree := by decide +kernel
  have hn : n ≤ 64 := F.2.1
  refine lv_aload_n hx hb dX3_addInSubtree_0 rfl (lv_at hl 0 rfl) ?_
  refine lv_iload_n hx hb dX3_addInSubtree_1 rfl (lv_at hl 1 rfl) ?_
  refine rd_call ⟨hx, hb, hml, hown, hts⟩ (c_X3_isVertex l D cI cZ h st sl sv pt fsl fsv fpt many n G va mk F v) (cwV 1 hts gX3_addInSubtree_X3_isVertex rfl rfl rfl (by decide +kernel) ⟨Nat.le_of_ble_eq_true rfl, Nat.le_of_ble_eq_true rfl⟩) hP hK rfl rfl rfl hl rfl (Nat.le_of_ble_eq_true rfl) dX3_addInSubtree_2 ⟨Nat.zero_le _, Nat.zero_le _⟩ ?_
  refine lv_if_ne (tgt := 11) hx hb dX3_addInSubtree_5 (by decide) (fun c_5 => ?_) (fun c_5 => ?_)
  · skip
    have c_5 := bI_1 c_5
    obtain ⟨j, hj, rfl⟩ := hasB_of hn c_5
    refine lv_iload_n hx hb dX3_addInSubtree_11 rfl (lv_at hl 2 rfl) ?_
    refine rd_callS ⟨hx, hb, hml, hown, hts⟩ (c_X3_isValue l D cI cZ x) (va_cwS 1 hts gX3_addInSubtree_X3_isValue rfl rfl rfl (by decide +kernel) ⟨Nat.le_of_ble_eq_true rfl, Nat.le_of_ble_eq_true rfl⟩) hK rfl hl rfl (Nat.le_of_ble_eq_true rfl) dX3_addInSubtree_12 ⟨Nat.zero_le _, Nat.zero_le _⟩ ?_
    refine lv_if_ne (tgt := 21) hx hb dX3_addInSubtree_15 (by decide) (fun c_15 => ?_) (fun c_15 => ?_)
    · skip
      have c_15 := bI_1 c_15
      refine lv_iconst (v := nI 0) hx hb dX3_addInSubtree_21 (by decide) ?_
      refine lv_istore_n (lv' := [(3, .int (nI 0)), (0, .ref h), (1, .int (nI j)), (2, .int x)]) hx hb dX3_addInSubtree_22 rfl hl (by decide) rfl (fun ls hl => ?_)
      have L23 : ∀ (k23_ : Nat) (i : Nat), i ≤ n → fAll (fun w => !fo_bel G w j || isV (va w + x)) i = true → n - i < k23_ → ∀ (H : Heap) (locs : List Loc), va_P D vwCl (wM h st sl sv pt cI cZ (mst n G va mk) fsl fsv fpt many) H → va_D (adr (wM h st sl sv pt cI cZ (mst n G va mk) fsl fsv fpt many)) (wM h st sl sv pt cI cZ (mst n G va mk) fsl fsv fpt many) → va_S (adr (wM h st sl sv pt cI cZ (mst n G va mk) fsl fsv fpt many)) s.heap H locs → ∀ ls, lv_has ls 5 [(0, .ref h), (1, .int (nI j)), (2, .int x), (3, .int (nI i))] → Ww0 p l e wsX3_addInSubtree 3 65 s m [.ref h, .int (nI j), .int x] below meth c D (wM h st sl sv pt cI cZ (mst n G va mk) fsl fsv fpt many) (wM h st sl sv pt cI cZ (mst n G (ga n (nI j) (fun j => if oSub n G va x j = true then vSub va (fun w => fo_bel G w j) x n else va) va) mk) fsl fsv fpt many) (some (.int (ga n (nI j) (fun j => rSub n G va x j) (-100000001)))) H locs (F0 m 23 ls []) := by
        intro k23_
        induction k23_ with
        | zero => intro i hi ha hk23_; exact absurd hk23_ (Nat.not_lt_zero _)
        | succ k23_ ih23 =>
          intro i hi ha hk23_ H locs hP hD hS ls hl
          refine lv_iload_n hx hb dX3_addInSubtree_23 rfl (lv_at hl 3 rfl) ?_
          refine lv_aload_n hx hb dX3_addInSubtree_24 rfl (lv_at hl 0 rfl) ?_
          refine rd_call ⟨hx, hb, hml, hown, hts⟩ (c_X3_many l D cI cZ h st sl sv pt fsl fsv fpt many n G va mk F) (cwV 0 hts gX3_addInSubtree_X3_many rfl rfl rfl (by decide +kernel) ⟨Nat.le_of_ble_eq_true rfl, Nat.le_of_ble_eq_true rfl⟩) hP hK rfl rfl rfl hl rfl (Nat.le_of_ble_eq_true rfl) dX3_addInSubtree_25 ⟨Nat.zero_le _, Nat.zero_le _⟩ ?_
          refine lv_icmp_ge (tgt := 62) hx hb dX3_addInSubtree_28 (by decide) (fun c_28 => ?_) (fun c_28 => ?_)
          · skip
            have c_28 := cn_le (a := n) (b := i) (by omega) (by omega) c_28
            have hall : fAll (fun w => !fo_bel G w j || isV (va w + x)) n = true := by rw [show n = i by omega]; exact ha
            refine lv_iconst (v := nI 0) hx hb dX3_addInSubtree_62 (by decide) ?_
            refine lv_istore_n (lv' := [(3, .int (nI 0)), (0, .ref h), (1, .int (nI j)), (2, .int x)]) hx hb dX3_addInSubtree_63 rfl hl (by decide) rfl (fun ls hl => ?_)
            refine lv_iconst (v := nI 0) hx hb dX3_addInSubtree_64 (by decide) ?_
            refine lv_istore (lv' := [(4, .int (nI 0)), (3, .int (nI 0)), (0, .ref h), (1, .int (nI j)), (2, .int x)]) hx hb dX3_addInSubtree_65 hl (by decide) rfl (fun ls hl => ?_)
            have L67 : ∀ (k67_ : Nat) (i : Nat), i ≤ n → n - i < k67_ → ∀ (H : Heap) (locs : List Loc), va_P D vwCl (wM h st sl sv pt cI cZ (mst n G (vSub va (fun w => fo_bel G w j) x i) mk) fsl fsv fpt many) H → va_D (adr (wM h st sl sv pt cI cZ (mst n G va mk) fsl fsv fpt many)) (wM h st sl sv pt cI cZ (mst n G (vSub va (fun w => fo_bel G w j) x i) mk) fsl fsv fpt many) → va_S (adr (wM h st sl sv pt cI cZ (mst n G va mk) fsl fsv fpt many)) s.heap H locs → ∀ ls, lv_has ls 5 [(0, .ref h), (1, .int (nI j)), (2, .int x), (3, .int (nI (fo_cnt (fun w => fo_bel G w j) i))), (4, .int (nI i))] → Ww0 p l e wsX3_addInSubtree 3 65 s m [.ref h, .int (nI j), .int x] below meth c D (wM h st sl sv pt cI cZ (mst n G va mk) fsl fsv fpt many) (wM h st sl sv pt cI cZ (mst n G (ga n (nI j) (fun j => if oSub n G va x j = true then vSub va (fun w => fo_bel G w j) x n else va) va) mk) fsl fsv fpt many) (some (.int (ga n (nI j) (fun j => rSub n G va x j) (-100000001)))) H locs (F0 m 67 ls []) := by
              intro k67_
              induction k67_ with
              | zero => intro i hi2 hk67_; exact absurd hk67_ (Nat.not_lt_zero _)
              | succ k67_ ih67 =>
                intro i hi2 hk67_ H locs hP hD hS ls hl
                refine lv_iload hx hb dX3_addInSubtree_67 (lv_at hl 4 rfl) ?_
                refine lv_aload_n hx hb dX3_addInSubtree_69 rfl (lv_at hl 0 rfl) ?_
                refine rd_call ⟨hx, hb, hml, hown, hts⟩ (c_X3_many l D cI cZ h st sl sv pt fsl fsv fpt many n G (vSub va (fun w => fo_bel G w j) x i) mk F) (cwV 0 hts gX3_addInSubtree_X3_many rfl rfl rfl (by decide +kernel) ⟨Nat.le_of_ble_eq_true rfl, Nat.le_of_ble_eq_true rfl⟩) hP hK rfl rfl rfl hl rfl (Nat.le_of_ble_eq_true rfl) dX3_addInSubtree_70 ⟨Nat.zero_le _, Nat.zero_le _⟩ ?_
                refine lv_icmp_ge (tgt := 109) hx hb dX3_addInSubtree_73 (by decide) (fun c_73 => ?_) (fun c_73 => ?_)
                · skip
                  have c_73 := cn_le (a := n) (b := i) (by omega) (by omega) c_73
                  have en : i = n := by omega
                  rw [en] at hP
                  refine lv_iload_n hx hb dX3_addInSubtree_109 rfl (lv_at hl 3 rfl) ?_
                  have hP : va_P D vwCl (wM h st sl sv pt cI cZ (mst n G (ga n (nI j) (fun j => if oSub n G va x j = true then vSub va (fun w => fo_bel G w j) x n else va) va) mk) fsl fsv fpt many) H := by rw [ga_t hj hn, if_pos (by unfold oSub; rw [c_15, hall]; rfl)]; exact hP
                  exact wr_i hx hb hr hlocks hP hS (by rw [ga_t hj hn]; unfold rSub; rw [c_15, hall, en]; rfl) dX3_addInSubtree_110
                · skip
                  have c_73 := cn_nle (a := n) (b := i) (by omega) (by omega) c_73
                  refine lv_aload_n hx hb dX3_addInSubtree_76 rfl (lv_at hl 0 rfl) ?_
                  refine lv_iload hx hb dX3_addInSubtree_77 (lv_at hl 4 rfl) ?_
                  refine lv_iload_n hx hb dX3_addInSubtree_79 rfl (lv_at hl 1 rfl) ?_
                  refine rd_call ⟨hx, hb, hml, hown, hts⟩ (c_X3_isUnder l D cI cZ h st sl sv pt fsl fsv fpt many n G (vSub va (fun w => fo_bel G w j) x i) mk F i j c_73 hj) (cwV 2 hts gX3_addInSubtree_X3_isUnder rfl rfl rfl (by decide +kernel) ⟨Nat.le_of_ble_eq_true rfl, Nat.le_of_ble_eq_true rfl⟩) hP hK rfl rfl rfl hl rfl (Nat.le_of_ble_eq_true rfl) dX3_addInSubtree_80 ⟨Nat.zero_le _, Nat.zero_le _⟩ ?_
                  refine lv_if_eq (tgt := 103) hx hb dX3_addInSubtree_83 (by decide) (fun c_83 => ?_) (fun c_83 => ?_)
                  · skip
                    have c_83 := bI_0 c_83
                    rw [← vSub_n (va := va) (f := (fun w => fo_bel G w j)) (d := x) c_83] at hP
                    have hD : va_D (adr (wM h st sl sv pt cI cZ (mst n G va mk) fsl fsv fpt many)) (wM h st sl sv pt cI cZ (mst n G (vSub va (fun w => fo_bel G w j) x (i + 1)) mk) fsl fsv fpt many) := vd_same hD rfl
                    refine lv_iinc (v := nI (i + 1)) (lv' := [(4, .int (nI (i + 1))), (0, .ref h), (1, .int (nI j)), (2, .int x), (3, .int (nI (fo_cnt (fun w => fo_bel G w j) i)))]) hx hb dX3_addInSubtree_103 hl (k := 4) rfl (nI_1 i) (by decide) rfl (fun ls hl => ?_)
                    refine lv_goto (tgt := 67) hx hb dX3_addInSubtree_106 (by decide) ?_
                    exact ih67 (i + 1) (by omega) (by omega) _ _ hP hD hS ls (by rw [fo_cnt_f (f := (fun w => fo_bel G w j)) (k := i) c_83]; exact lv_sub hl [1, 2, 3, 4, 0] rfl)
                  · skip
                    have c_83 := bI_1 c_83
                    refine lv_aload_n hx hb dX3_addInSubtree_86 rfl (lv_at hl 0 rfl) ?_
                    refine va_get (D := D) (ci := 3) (v := .ref st) (C := RX3) (T := TX3) (N := 5) hx hb hts hin3 hown hK hP 0 rfl rfl 0 (by decide) hf7 (fun _ h9 => h9) rfl dX3_addInSubtree_87 ?_
                    refine lv_bipush (v := 65) hx hb dX3_addInSubtree_90 (by decide) ?_
                    refine lv_iload hx hb dX3_addInSubtree_92 (lv_at hl 4 rfl) ?_
                    refine lv_iadd hx hb dX3_addInSubtree_94 ?_
                    rw [show (65 + (nI i) : Int32) = nI (65 + i) from nI_add 65 i]
                    refine lv_dup2_11 hx hb dX3_addInSubtree_95 rfl rfl ?_
                    refine ar_i (tys := []) hx hb hK hP 1 rfl (k := (65 + i)) (by omega) (by decide) dX3_addInSubtree_96 ?_
                    rw [mst_v n G _ mk (by omega)]
                    refine lv_iload_n hx hb dX3_addInSubtree_97 rfl (lv_at hl 2 rfl) ?_
                    refine lv_iadd hx hb dX3_addInSubtree_98 ?_
                    refine ar_is hx hb hK hP hD hS 1 rfl (k := (65 + i)) (by omega) (by decide) dX3_addInSubtree_99 (fun H locs hP hD hS => ?_)
                    have hP : va_P D vwCl (wM h st sl sv pt cI cZ (upd (mst n G (vSub va (fun w => fo_bel G w j) x i) mk) (65 + i) ((vSub va (fun w => fo_bel G w j) x i i) + x)) fsl fsv fpt many) H := hP
                    rw [mst_sv n G _ mk (by omega), ← vSub_y (f := (fun w => fo_bel G w j)) (d := x) c_83] at hP
                    have hD : va_D (adr (wM h st sl sv pt cI cZ (mst n G va mk) fsl fsv fpt many)) (wM h st sl sv pt cI cZ (mst n G (vSub va (fun w => fo_bel G w j) x (i + 1)) mk) fsl fsv fpt many) := vd_same hD rfl
                    refine lv_iinc (v := nI ((fo_cnt (fun w => fo_bel G w j) i) + 1)) (lv' := [(3, .int (nI ((fo_cnt (fun w => fo_bel G w j) i) + 1))), (0, .ref h), (1, .int (nI j)), (2, .int x), (4, .int (nI i))]) hx hb dX3_addInSubtree_100 hl (k := 3) rfl (nI_1 (fo_cnt (fun w => fo_bel G w j) i)) (by decide) rfl (fun ls hl => ?_)
                    refine lv_iinc (v := nI (i + 1)) (lv' := [(4, .int (nI (i + 1))), (3, .int (nI ((fo_cnt (fun w => fo_bel G w j) i) + 1))), (0, .ref h), (1, .int (nI j)), (2, .int x)]) hx hb dX3_addInSubtree_103 hl (k := 4) rfl (nI_1 i) (by decide) rfl (fun ls hl => ?_)
                    refine lv_goto (tgt := 67) hx hb dX3_addInSubtree_106 (by decide) ?_
                    exact ih67 (i + 1) (by omega) (by omega) _ _ hP hD hS ls (by rw [fo_cnt_t (f := (fun w => fo_bel G w j)) (k := i) c_83]; exact lv_sub hl [2, 3, 4, 1, 0] rfl)
            exact L67 (n - 0 + 1) 0 (Nat.zero_le _) (Nat.lt_succ_self _) _ _ hP hD hS ls (lv_sub hl [2, 3, 4, 1, 0] rfl)
          · skip
            have c_28 := cn_nle (a := n) (b := i) (by omega) (by omega) c_28
            refine lv_aload_n hx hb dX3_addInSubtree_31 rfl (lv_at hl 0 rfl) ?_
            refine lv_iload_n hx hb dX3_addInSubtree_32 rfl (lv_at hl 3 rfl) ?_
            refine lv_iload_n hx hb dX3_addInSubtree_33 rfl (lv_at hl 1 rfl) ?_
            refine rd_call ⟨hx, hb, hml, hown, hts⟩ (c_X3_isUnder l D cI cZ h st sl sv pt fsl fsv fpt many n G va mk F i j c_28 hj) (cwV 2 hts gX3_addInSubtree_X3_isUnder rfl rfl rfl (by decide +kernel) ⟨Nat.le_of_ble_eq_true rfl, Nat.le_of_ble_eq_true rfl⟩) hP hK rfl rfl rfl hl rfl (Nat.le_of_ble_eq_true rfl) dX3_addInSubtree_34 ⟨Nat.zero_le _, Nat.zero_le _⟩ ?_
            refine lv_if_eq (tgt := 56) hx hb dX3_addInSubtree_37 (by decide) (fun c_37 => ?_) (fun c_37 => ?_)
            · skip
              have c_37 := bI_0 c_37
              refine lv_iinc (v := nI (i + 1)) (lv' := [(3, .int (nI (i + 1))), (0, .ref h), (1, .int (nI j)), (2, .int x)]) hx hb dX3_addInSubtree_56 hl (k := 3) rfl (nI_1 i) (by decide) rfl (fun ls hl => ?_)
              refine lv_goto (tgt := 23) hx hb dX3_addInSubtree_59 (by decide) ?_
              exact ih23 (i + 1) (by omega) (fAll_s ha (by simp [c_37])) (by omega) _ _ hP hD hS ls (lv_sub hl [1, 2, 3, 0] rfl)
            · skip
              have c_37 := bI_1 c_37
              refine lv_aload_n hx hb dX3_addInSubtree_40 rfl (lv_at hl 0 rfl) ?_
              refine lv_iload_n hx hb dX3_addInSubtree_41 rfl (lv_at hl 3 rfl) ?_
              refine rd_call ⟨hx, hb, hml, hown, hts⟩ (c_X3_valueOf l D cI cZ h st sl sv pt fsl fsv fpt many n G va mk F i c_28) (cwV 1 hts gX3_addInSubtree_X3_valueOf rfl rfl rfl (by decide +kernel) ⟨Nat.le_of_ble_eq_true rfl, Nat.le_of_ble_eq_true rfl⟩) hP hK rfl rfl rfl hl rfl (Nat.le_of_ble_eq_true rfl) dX3_addInSubtree_42 ⟨Nat.zero_le _, Nat.zero_le _⟩ ?_
              refine lv_iload_n hx hb dX3_addInSubtree_45 rfl (lv_at hl 2 rfl) ?_
              refine lv_iadd hx hb dX3_addInSubtree_46 ?_
              refine rd_callS ⟨hx, hb, hml, hown, hts⟩ (c_X3_isValue l D cI cZ (va i + x)) (va_cwS 1 hts gX3_addInSubtree_X3_isValue rfl rfl rfl (by decide +kernel) ⟨Nat.le_of_ble_eq_true rfl, Nat.le_of_ble_eq_true rfl⟩) hK rfl hl rfl (Nat.le_of_ble_eq_true rfl) dX3_addInSubtree_47 ⟨Nat.zero_le _, Nat.zero_le _⟩ ?_
              refine lv_if_ne (tgt := 56) hx hb dX3_addInSubtree_50 (by decide) (fun c_50 => ?_) (fun c_50 => ?_)
              · skip
                have c_50 := bI_1 c_50
                refine lv_iinc (v := nI (i + 1)) (lv' := [(3, .int (nI (i + 1))), (0, .ref h), (1, .int (nI j)), (2, .int x)]) hx hb dX3_addInSubtree_56 hl (k := 3) rfl (nI_1 i) (by decide) rfl (fun ls hl => ?_)
                refine lv_goto (tgt := 23) hx hb dX3_addInSubtree_59 (by decide) ?_
                exact ih23 (i + 1) (by omega) (fAll_s ha (by simp [c_50])) (by omega) _ _ hP hD hS ls (lv_sub hl [1, 2, 3, 0] rfl)
              · skip
                have c_50 := bI_0 c_50
                refine lv_ldc (own := RX3) hx hb hown hk87 dX3_addInSubtree_53 ?_
                have hfa := fAll_f (f := (fun w => !fo_bel G w j || isV (va w + x))) (i := i) (by simp [c_37, c_50]) n c_28
                have hP : va_P D vwCl (wM h st sl sv pt cI cZ (mst n G (ga n (nI j) (fun j => if oSub n G va x j = true then vSub va (fun w => fo_bel G w j) x n else va) va) mk) fsl fsv fpt many) H := by rw [ga_t hj hn]; unfold oSub; rw [hfa, Bool.and_false, if_neg (by decide)]; exact hP
                exact wr_i hx hb hr hlocks hP hS (by rw [ga_t hj hn]; unfold rSub; rw [c_15, hfa]; rfl) dX3_addInSubtree_55
      exact L23 (n - 0 + 1) 0 (Nat.zero_le _) rfl (Nat.lt_succ_self _) _ _ hP hD hS ls (lv_sub hl [1, 2, 3, 0] rfl)
    · skip
      have c_15 := bI_0 c_15
      refine lv_ldc (own := RX3) hx hb hown hk43 dX3_addInSubtree_18 ?_
      have hP : va_P D vwCl (wM h st sl sv pt cI cZ (mst n G (ga n (nI j) (fun j => if oSub n G va x j = true then vSub va (fun w => fo_bel G w j) x n else va) va) mk) fsl fsv fpt many) s.heap := by rw [ga_t hj hn]; unfold oSub; rw [c_15, Bool.false_and, if_neg (by decide)]; exact hP
      exact wr_i hx hb hr hlocks hP hS (by rw [ga_t hj hn]; unfold rSub; rw [c_15]; rfl) dX3_addInSubtree_20
  · skip
    have c_5 := bI_0 c_5
    refine lv_ldc (own := RX3) hx hb hown hk47 dX3_addInSubtree_8 ?_
    have hP : va_P D vwCl (wM h st sl sv pt cI cZ (mst n G (ga n v (fun j => if oSub n G va x j = true then vSub va (fun w => fo_bel G w j) x n else va) va) mk) fsl fsv fpt many) s.heap := by rw [ga_f c_5]; exact hP
    exact wr_i hx hb hr hlocks hP hS (by rw [ga_f c_5]) dX3_addInSubtree_10
set_option maxHeartbeats 4000000 in
set_option maxRecDepth 100000 in
theorem c_X3_layPath (l : Launch) (D : va_G) (cI cZ : ClassId) (h : Nat) (st : Nat) (sl : Nat) (sv : Nat) (pt : Nat) (fsl : Nat → Int32) (fsv : Nat → Int32) (fpt : Nat → Int32) (many : Int32) (n : Nat) (G : Nat → Nat) (va : Nat → Int32) (mk : Nat → Bool) (F : fo_ok n G) (u : Nat) (v : Nat) (hu : u < n) (hv : v < n) (hro : fo_r G u = fo_r G v) : WrM l yX3_layPath wsX3_layPath 4 89 D cI cZ (wM h st sl sv pt cI cZ (mst n G va mk) fsl fsv fpt many) (wM h st sl sv pt cI cZ (mst n G va mk) fsl fsv (fillI (fo_pL G u v) (fun t => nI (fo_pt G u v t)) fpt) (nI (fo_pL G u v))) [.ref h, .int (nI u), .int (nI v)] none := by
  refine WrM.of (cc := cX3_layPath) (maxL := 6) (ret := none) (by decide) rfl (Nat.le_of_ble_eq_true rfl) ?_
  intro p e s m below meth c hx hb hr hml hown hts hlocks hP hK hD hS ls hl
  have hown : s.vm.findClass RX3 = some m.cls := hown
  have hl : lv_has ls 6 [(0, .ref h), (1, .int (nI u)), (2, .int (nI v))] := hl
  have hP : va_P D vwCl (wM h st sl sv pt cI cZ (mst n G va mk) fsl fsv fpt many) s.heap := hP
  have hf62 := hts (.fieldLink RX3 62 "DynamicForestModel" "pathMany" "I") (by decide +kernel)
  have hf20 := hts (.fieldLink RX3 20 "DynamicForestModel" "path" "[I") (by decide +kernel)
  have hin3 : ∀ w ∈ u_ws RX3 TX3 5, w ∈ wsX3_layPath := by decide +kernel
  have hn : n ≤ 64 := F.2.1
  have hLL := fo_pL_le F hro hu hv
  have hL0 : fo_pL G u v = fo_pi G u v + (fo_d G v - fo_d G (fo_m G u v)) + 1 := rfl
  have hmlt := fo_m_lt F hro hu
  obtain ⟨m1, m2, m3, m4, m5⟩ := fo_m_spec F hro
  have m3 : fo_up G (fo_pi G u v) u = fo_m G u v := m3
  have hpi : fo_pi G u v ≤ fo_d G u := Nat.sub_le _ _
  refine lv_aload_n hx hb dX3_layPath_0 rfl (lv_at hl 0 rfl) ?_
  refine lv_iload_n hx hb dX3_layPath_1 rfl (lv_at hl 1 rfl) ?_
  refine lv_iload_n hx hb dX3_layPath_2 rfl (lv_at hl 2 rfl) ?_
  refine rd_call ⟨hx, hb, hml, hown, hts⟩ (c_X3_meetingOf l D cI cZ h st sl sv pt fsl fsv fpt many n G va mk F u v hu hv hro) (cwV 2 hts gX3_layPath_X3_meetingOf rfl rfl rfl (by decide +kernel) ⟨Nat.le_of_ble_eq_true rfl, Nat.le_of_ble_eq_true rfl⟩) hP hK rfl rfl rfl hl rfl (Nat.le_of_ble_eq_true rfl) dX3_layPath_3 ⟨Nat.zero_le _, Nat.zero_le _⟩ ?_
  refine lv_istore_n (lv' := [(3, .int (nI (fo_m G u v))), (0, .ref h), (1, .int (nI u)), (2, .int (nI v))]) hx hb dX3_layPath_6 rfl hl (by decide) rfl (fun ls hl => ?_)
  refine lv_aload_n hx hb dX3_layPath_7 rfl (lv_at hl 1 rfl) ?_
  refine lv_iconst (v := nI 0) hx hb dX3_layPath_8 (by decide) ?_
  refine va_put (D := D) (ci := 3) (v := .int (nI 0)) (ty := .int) (C := RX3) (T := TX3) (N := 5) hx hb hts hin3 tyX3 tyX3_ok nmX3 hown hK hP hD hS 0 rfl rfl 4 (by decide) hf62 (fun _ h9 => h9) rfl (by decide +kernel) rfl rfl (Nat.le_of_ble_eq_true rfl) dX3_layPath_9 (fun H locs hP hD hS => ?_)
  have hP : va_P D vwCl (wM h st sl sv pt cI cZ (mst n G va mk) fsl fsv fpt (nI 0)) H := hP
  have hD : va_D (adr (wM h st sl sv pt cI cZ (mst n G va mk) fsl fsv fpt many)) (wM h st sl sv pt cI cZ (mst n G va mk) fsl fsv fpt (nI 0)) := vd_same hD rfl
  refine lv_iload_n hx hb dX3_layPath_12 rfl (lv_at hl 2 rfl) ?_
  refine lv_istore (lv' := [(4, .int (nI u)), (3, .int (nI (fo_m G u v))), (0, .ref h), (1, .int (nI u)), (2, .int (nI v))]) hx hb dX3_layPath_13 hl (by decide) rfl (fun ls hl => ?_)
  have L15 : ∀ (k15_ : Nat) (i : Nat), i ≤ fo_pi G u v → fo_pi G u v - i < k15_ → ∀ (H : Heap) (locs : List Loc), va_P D vwCl (wM h st sl sv pt cI cZ (mst n G va mk) fsl fsv (apF G u fpt 0 i) (nI i)) H → va_D (adr (wM h st sl sv pt cI cZ (mst n G va mk) fsl fsv fpt many)) (wM h st sl sv pt cI cZ (mst n G va mk) fsl fsv (apF G u fpt 0 i) (nI i)) → va_S (adr (wM h st sl sv pt cI cZ (mst n G va mk) fsl fsv fpt many)) s.heap H locs → ∀ ls, lv_has ls 6 [(0, .ref h), (1, .int (nI u)), (2, .int (nI v)), (3, .int (nI (fo_m G u v))), (4, .int (nI (fo_up G i u)))] → Ww0 p l e wsX3_layPath 4 89 s m [.ref h, .int (nI u), .int (nI v)] below meth c D (wM h st sl sv pt cI cZ (mst n G va mk) fsl fsv fpt many) (wM h st sl sv pt cI cZ (mst n G va mk) fsl fsv (fillI (fo_pL G u v) (fun t => nI (fo_pt G u v t)) fpt) (nI (fo_pL G u v))) none H locs (F0 m 15 ls []) := by
    intro k15_
    induction k15_ with
    | zero => intro i hi hk15_; exact absurd hk15_ (Nat.not_lt_zero _)
    | succ k15_ ih15 =>
      intro i hi hk15_ H locs hP hD hS ls hl
      have hlu := fo_lt F hu i
      refine lv_iload hx hb dX3_layPath_15 (lv_at hl 4 rfl) ?_
      refine lv_iload_n hx hb dX3_layPath_17 rfl (lv_at hl 3 rfl) ?_
      refine lv_icmp_eq (tgt := 53) hx hb dX3_layPath_18 (by decide) (fun c_18 => ?_) (fun c_18 => ?_)
      · skip
        have c_18 := cn_eq (a := (fo_up G i u)) (b := (fo_m G u v)) (by omega) (by omega) c_18
        have e18 : i = fo_pi G u v := Classical.byContradiction fun q => fo_up_ne F (by omega) hpi q (by rw [m3]; exact c_18)
        rw [e18] at hP
        have hD : va_D (adr (wM h st sl sv pt cI cZ (mst n G va mk) fsl fsv fpt many)) (wM h st sl sv pt cI cZ (mst n G va mk) fsl fsv (apF G u fpt 0 (fo_pi G u v)) (nI (fo_pi G u v))) := vd_same hD rfl
        refine lv_aload_n hx hb dX3_layPath_53 rfl (lv_at hl 0 rfl) ?_
        refine va_get (D := D) (ci := 3) (v := .ref pt) (C := RX3) (T := TX3) (N := 5) hx hb hts hin3 hown hK hP 0 rfl rfl 3 (by decide) hf20 (fun _ h9 => h9) rfl dX3_layPath_54 ?_
        refine lv_aload_n hx hb dX3_layPath_57 rfl (lv_at hl 0 rfl) ?_
        refine va_get (D := D) (ci := 3) (v := .int (nI (fo_pi G u v))) (C := RX3) (T := TX3) (N := 5) hx hb hts hin3 hown hK hP 0 rfl rfl 4 (by decide) hf62 (fun _ h9 => h9) rfl dX3_layPath_58 ?_
        refine lv_iload_n hx hb dX3_layPath_61 rfl (lv_at hl 3 rfl) ?_
        refine ar_is hx hb hK hP hD hS 4 rfl (k := (fo_pi G u v)) (by omega) (by decide) dX3_layPath_62 (fun H locs hP hD hS => ?_)
        have hP : va_P D vwCl (wM h st sl sv pt cI cZ (mst n G va mk) fsl fsv (upd (apF G u fpt 0 (fo_pi G u v)) (fo_pi G u v) (nI (fo_m G u v))) (nI (fo_pi G u v))) H := hP
        have hD : va_D (adr (wM h st sl sv pt cI cZ (mst n G va mk) fsl fsv fpt many)) (wM h st sl sv pt cI cZ (mst n G va mk) fsl fsv (upd (apF G u fpt 0 (fo_pi G u v)) (fo_pi G u v) (nI (fo_m G u v))) (nI (fo_pi G u v))) := vd_same hD rfl
        refine lv_aload_n hx hb dX3_layPath_63 rfl (lv_at hl 0 rfl) ?_
        refine lv_dup hx hb dX3_layPath_64 rfl ?_
        refine va_get (D := D) (ci := 3) (v := .int (nI (fo_pi G u v))) (C := RX3) (T := TX3) (N := 5) hx hb hts hin3 hown hK hP 0 rfl rfl 4 (by decide) hf62 (fun _ h9 => h9) rfl dX3_layPath_65 ?_
        refine lv_iconst (v := 1) hx hb dX3_layPath_68 (by decide) ?_
        refine lv_aload_n hx hb dX3_layPath_69 rfl (lv_at hl 0 rfl) ?_
        refine lv_iload_n hx hb dX3_layPath_70 rfl (lv_at hl 2 rfl) ?_
        refine rd_call ⟨hx, hb, hml, hown, hts⟩ (c_X3_depthOf l D cI cZ h st sl sv pt fsl fsv (upd (apF G u fpt 0 (fo_pi G u v)) (fo_pi G u v) (nI (fo_m G u v))) (nI (fo_pi G u v)) n G va mk F v hv) (cwV 1 hts gX3_layPath_X3_depthOf rfl rfl rfl (by decide +kernel) ⟨Nat.le_of_ble_eq_true rfl, Nat.le_of_ble_eq_true rfl⟩) hP hK rfl rfl rfl hl rfl (Nat.le_of_ble_eq_true rfl) dX3_layPath_71 ⟨Nat.zero_le _, Nat.zero_le _⟩ ?_
        refine lv_iadd hx hb dX3_layPath_74 ?_
        rw [show (1 + (nI (fo_d G v)) : Int32) = nI (1 + (fo_d G v)) from nI_add 1 (fo_d G v)]
        refine lv_aload_n hx hb dX3_layPath_75 rfl (lv_at hl 0 rfl) ?_
        refine lv_iload_n hx hb dX3_layPath_76 rfl (lv_at hl 3 rfl) ?_
        refine rd_call ⟨hx, hb, hml, hown, hts⟩ (c_X3_depthOf l D cI cZ h st sl sv pt fsl fsv (upd (apF G u fpt 0 (fo_pi G u v)) (fo_pi G u v) (nI (fo_m G u v))) (nI (fo_pi G u v)) n G va mk F (fo_m G u v) hmlt) (cwV 1 hts gX3_layPath_X3_depthOf rfl rfl rfl (by decide +kernel) ⟨Nat.le_of_ble_eq_true rfl, Nat.le_of_ble_eq_true rfl⟩) hP hK rfl rfl rfl hl rfl (Nat.le_of_ble_eq_true rfl) dX3_layPath_77 ⟨Nat.zero_le _, Nat.zero_le _⟩ ?_
        refine lv_isub hx hb dX3_layPath_80 ?_
        rw [show nI (1 + fo_d G v) - nI (fo_d G (fo_m G u v)) = nI (1 + fo_d G v - fo_d G (fo_m G u v)) from pk_sub (by omega)]
        refine lv_iadd hx hb dX3_layPath_81 ?_
        rw [show ((nI (fo_pi G u v)) + (nI (1 + fo_d G v - fo_d G (fo_m G u v))) : Int32) = nI ((fo_pi G u v) + (1 + fo_d G v - fo_d G (fo_m G u v))) from nI_add (fo_pi G u v) (1 + fo_d G v - fo_d G (fo_m G u v))]
        rw [show fo_pi G u v + (1 + fo_d G v - fo_d G (fo_m G u v)) = fo_pL G u v by omega]
        refine va_put (D := D) (ci := 3) (v := .int (nI (fo_pL G u v))) (ty := .int) (C := RX3) (T := TX3) (N := 5) hx hb hts hin3 tyX3 tyX3_ok nmX3 hown hK hP hD hS 0 rfl rfl 4 (by decide) hf62 (fun _ h9 => h9) rfl (by decide +kernel) rfl rfl (Nat.le_of_ble_eq_true rfl) dX3_layPath_82 (fun H locs hP hD hS => ?_)
        have hP : va_P D vwCl (wM h st sl sv pt cI cZ (mst n G va mk) fsl fsv (upd (apF G u fpt 0 (fo_pi G u v)) (fo_pi G u v) (nI (fo_m G u v))) (nI (fo_pL G u v))) H := hP
        have hD : va_D (adr (wM h st sl sv pt cI cZ (mst n G va mk) fsl fsv fpt many)) (wM h st sl sv pt cI cZ (mst n G va mk) fsl fsv (upd (apF G u fpt 0 (fo_pi G u v)) (fo_pi G u v) (nI (fo_m G u v))) (nI (fo_pL G u v))) := vd_same hD rfl
        refine lv_aload_n hx hb dX3_layPath_85 rfl (lv_at hl 0 rfl) ?_
        refine va_get (D := D) (ci := 3) (v := .int (nI (fo_pL G u v))) (C := RX3) (T := TX3) (N := 5) hx hb hts hin3 hown hK hP 0 rfl rfl 4 (by decide) hf62 (fun _ h9 => h9) rfl dX3_layPath_86 ?_
        refine lv_iconst (v := 1) hx hb dX3_layPath_89 (by decide) ?_
        refine lv_isub hx hb dX3_layPath_90 ?_
        rw [show nI (fo_pL G u v) - 1 = nI (fo_pL G u v - 1) from pk_sub (b := 1) (by omega)]
        refine lv_istore (lv' := [(4, .int (nI (fo_pL G u v - 1))), (0, .ref h), (1, .int (nI u)), (2, .int (nI v)), (3, .int (nI (fo_m G u v)))]) hx hb dX3_layPath_91 hl (by decide) rfl (fun ls hl => ?_)
        refine lv_iload_n hx hb dX3_layPath_93 rfl (lv_at hl 3 rfl) ?_
        refine lv_istore (lv' := [(5, .int (nI v)), (4, .int (nI (fo_pL G u v - 1))), (0, .ref h), (1, .int (nI u)), (2, .int (nI v)), (3, .int (nI (fo_m G u v)))]) hx hb dX3_layPath_94 hl (by decide) rfl (fun ls hl => ?_)
        have L96 : ∀ (k96_ : Nat) (i : Nat), i ≤ (fo_d G v - fo_d G (fo_m G u v)) → fo_pL G u v - i < k96_ → ∀ (H : Heap) (locs : List Loc), va_P D vwCl (wM h st sl sv pt cI cZ (mst n G va mk) fsl fsv (dnF G v (fo_pL G u v) i (upd (apF G u fpt 0 (fo_pi G u v)) (fo_pi G u v) (nI (fo_m G u v)))) (nI (fo_pL G u v))) H → va_D (adr (wM h st sl sv pt cI cZ (mst n G va mk) fsl fsv fpt many)) (wM h st sl sv pt cI cZ (mst n G va mk) fsl fsv (dnF G v (fo_pL G u v) i (upd (apF G u fpt 0 (fo_pi G u v)) (fo_pi G u v) (nI (fo_m G u v)))) (nI (fo_pL G u v))) → va_S (adr (wM h st sl sv pt cI cZ (mst n G va mk) fsl fsv fpt many)) s.heap H locs → ∀ ls, lv_has ls 6 [(0, .ref h), (3, .int (nI (fo_m G u v))), (4, .int (nI (fo_pL G u v - 1 - i))), (5, .int (nI (fo_up G i v)))] → Ww0 p l e wsX3_layPath 4 89 s m [.ref h, .int (nI u), .int (nI v)] below meth c D (wM h st sl sv pt cI cZ (mst n G va mk) fsl fsv fpt many) (wM h st sl sv pt cI cZ (mst n G va mk) fsl fsv (fillI (fo_pL G u v) (fun t => nI (fo_pt G u v t)) fpt) (nI (fo_pL G u v))) none H locs (F0 m 96 ls []) := by
          intro k96_
          induction k96_ with
          | zero => intro i hi2 hk96_; exact absurd hk96_ (Nat.not_lt_zero _)
          | succ k96_ ih96 =>
            intro i hi2 hk96_ H locs hP hD hS ls hl
            have hlv := fo_lt F hv i
            refine lv_iload hx hb dX3_layPath_96 (lv_at hl 3 rfl) ?_
            refine lv_iload_n hx hb dX3_layPath_98 rfl (lv_at hl 1 rfl) ?_
            refine lv_icmp_eq (tgt := 125) hx hb dX3_layPath_99 (by decide) (fun c_99 => ?_) (fun c_99 => ?_)
            · skip
              have c_99 := cn_eq (a := (fo_up G i v)) (b := (fo_m G u v)) (by omega) (by omega) c_99
              have e99 : i = (fo_d G v - fo_d G (fo_m G u v)) := Classical.byContradiction fun q => fo_up_ne F (by omega) (Nat.sub_le _ _) q (by rw [m4]; exact c_99)
              rw [e99, lay_eq F hro] at hP
              exact wr_v hx hb hr hlocks hP hS dX3_layPath_125
            · skip
              have c_99 := cn_ne (a := (fo_up G i v)) (b := (fo_m G u v)) (by omega) (by omega) c_99
              have hiv : i < (fo_d G v - fo_d G (fo_m G u v)) := Nat.lt_of_le_of_ne hi2 (fun q => c_99 (by rw [q]; exact m4))
              refine lv_aload_n hx hb dX3_layPath_102 rfl (lv_at hl 0 rfl) ?_
              refine va_get (D := D) (ci := 3) (v := .ref pt) (C := RX3) (T := TX3) (N := 5) hx hb hts hin3 hown hK hP 0 rfl rfl 3 (by decide) hf20 (fun _ h9 => h9) rfl dX3_layPath_103 ?_
              refine lv_iload hx hb dX3_layPath_106 (lv_at hl 2 rfl) ?_
              refine lv_iload hx hb dX3_layPath_108 (lv_at hl 3 rfl) ?_
              refine ar_is hx hb hK hP hD hS 4 rfl (k := (fo_pL G u v - 1 - i)) (by omega) (by decide) dX3_layPath_110 (fun H locs hP hD hS => ?_)
              have hP : va_P D vwCl (wM h st sl sv pt cI cZ (mst n G va mk) fsl fsv (upd (dnF G v (fo_pL G u v) i (upd (apF G u fpt 0 (fo_pi G u v)) (fo_pi G u v) (nI (fo_m G u v)))) (fo_pL G u v - 1 - i) (nI (fo_up G i v))) (nI (fo_pL G u v))) H := hP
              rw [dnF_s (by omega)] at hP
              have hD : va_D (adr (wM h st sl sv pt cI cZ (mst n G va mk) fsl fsv fpt many)) (wM h st sl sv pt cI cZ (mst n G va mk) fsl fsv (dnF G v (fo_pL G u v) (i + 1) (upd (apF G u fpt 0 (fo_pi G u v)) (fo_pi G u v) (nI (fo_m G u v)))) (nI (fo_pL G u v))) := vd_same hD rfl
              refine lv_iinc (v := nI (fo_pL G u v - 1 - (i + 1))) (lv' := [(4, .int (nI (fo_pL G u v - 1 - (i + 1)))), (0, .ref h), (3, .int (nI (fo_m G u v))), (5, .int (nI (fo_up G i v)))]) hx hb dX3_layPath_111 hl (k := 2) rfl (by rw [show fo_pL G u v - 1 - i = (fo_pL G u v - 1 - (i + 1)) + 1 by omega]; exact pk_m1 _) (by decide) rfl (fun ls hl => ?_)
              refine lv_aload_n hx hb dX3_layPath_114 rfl (lv_at hl 1 rfl) ?_
              refine lv_iload hx hb dX3_layPath_115 (lv_at hl 3 rfl) ?_
              refine rd_call ⟨hx, hb, hml, hown, hts⟩ (c_X3_above l D cI cZ h st sl sv pt fsl fsv (dnF G v (fo_pL G u v) (i + 1) (upd (apF G u fpt 0 (fo_pi G u v)) (fo_pi G u v) (nI (fo_m G u v)))) (nI (fo_pL G u v)) n G va mk F (fo_up G i v) hlv) (cwV 1 hts gX3_layPath_X3_above rfl rfl rfl (by decide +kernel) ⟨Nat.le_of_ble_eq_true rfl, Nat.le_of_ble_eq_true rfl⟩) hP hK rfl rfl rfl hl rfl (Nat.le_of_ble_eq_true rfl) dX3_layPath_117 ⟨Nat.zero_le _, Nat.zero_le _⟩ ?_
              rw [← fo_up_s G i v]
              refine lv_istore (lv' := [(5, .int (nI (fo_up G (i + 1) v))), (4, .int (nI (fo_pL G u v - 1 - (i + 1)))), (0, .ref h), (3, .int (nI (fo_m G u v)))]) hx hb dX3_layPath_120 hl (by decide) rfl (fun ls hl => ?_)
              refine lv_goto (tgt := 96) hx hb dX3_layPath_122 (by decide) ?_
              exact ih96 (i + 1) (by omega) (by omega) _ _ hP hD hS ls (lv_sub hl [2, 3, 1, 0] rfl)
        have hP : va_P D vwCl (wM h st sl sv pt cI cZ (mst n G va mk) fsl fsv (dnF G v (fo_pL G u v) 0 (upd (apF G u fpt 0 (fo_pi G u v)) (fo_pi G u v) (nI (fo_m G u v)))) (nI (fo_pL G u v))) H := by rw [dnF_0]; exact hP
        have hD : va_D (adr (wM h st sl sv pt cI cZ (mst n G va mk) fsl fsv fpt many)) (wM h st sl sv pt cI cZ (mst n G va mk) fsl fsv (dnF G v (fo_pL G u v) 0 (upd (apF G u fpt 0 (fo_pi G u v)) (fo_pi G u v) (nI (fo_m G u v)))) (nI (fo_pL G u v))) := vd_same hD rfl
        exact L96 (fo_pL G u v - 0 + 1) 0 (Nat.zero_le _) (Nat.lt_succ_self _) _ _ hP hD hS ls (lv_sub hl [2, 5, 1, 0] rfl)
      · skip
        have c_18 := cn_ne (a := (fo_up G i u)) (b := (fo_m G u v)) (by omega) (by omega) c_18
        have hiu : i < fo_pi G u v := Nat.lt_of_le_of_ne hi (fun q => c_18 (by rw [q]; exact m3))
        refine lv_aload_n hx hb dX3_layPath_21 rfl (lv_at hl 0 rfl) ?_
        refine va_get (D := D) (ci := 3) (v := .ref pt) (C := RX3) (T := TX3) (N := 5) hx hb hts hin3 hown hK hP 0 rfl rfl 3 (by decide) hf20 (fun _ h9 => h9) rfl dX3_layPath_22 ?_
        refine lv_aload_n hx hb dX3_layPath_25 rfl (lv_at hl 0 rfl) ?_
        refine va_get (D := D) (ci := 3) (v := .int (nI i)) (C := RX3) (T := TX3) (N := 5) hx hb hts hin3 hown hK hP 0 rfl rfl 4 (by decide) hf62 (fun _ h9 => h9) rfl dX3_layPath_26 ?_
        refine lv_iload hx hb dX3_layPath_29 (lv_at hl 4 rfl) ?_
        refine ar_is hx hb hK hP hD hS 4 rfl (k := i) (by omega) (by decide) dX3_layPath_31 (fun H locs hP hD hS => ?_)
        have hP : va_P D vwCl (wM h st sl sv pt cI cZ (mst n G va mk) fsl fsv (upd (apF G u fpt 0 i) i (nI (fo_up G i u))) (nI i)) H := hP
        have hP : va_P D vwCl (wM h st sl sv pt cI cZ (mst n G va mk) fsl fsv (apF G u fpt 0 (i + 1)) (nI i)) H := by rw [← apF_s, Nat.zero_add]; exact hP
        have hD : va_D (adr (wM h st sl sv pt cI cZ (mst n G va mk) fsl fsv fpt many)) (wM h st sl sv pt cI cZ (mst n G va mk) fsl fsv (apF G u fpt 0 (i + 1)) (nI i)) := vd_same hD rfl
        refine lv_aload_n hx hb dX3_layPath_32 rfl (lv_at hl 0 rfl) ?_
        refine lv_dup hx hb dX3_layPath_33 rfl ?_
        refine va_get (D := D) (ci := 3) (v := .int (nI i)) (C := RX3) (T := TX3) (N := 5) hx hb hts hin3 hown hK hP 0 rfl rfl 4 (by decide) hf62 (fun _ h9 => h9) rfl dX3_layPath_34 ?_
        refine lv_iconst (v := 1) hx hb dX3_layPath_37 (by decide) ?_
        refine lv_iadd hx hb dX3_layPath_38 ?_
        rw [show ((nI i) + 1 : Int32) = nI (i + 1) from nI_add i 1]
        refine va_put (D := D) (ci := 3) (v := .int (nI (i + 1))) (ty := .int) (C := RX3) (T := TX3) (N := 5) hx hb hts hin3 tyX3 tyX3_ok nmX3 hown hK hP hD hS 0 rfl rfl 4 (by decide) hf62 (fun _ h9 => h9) rfl (by decide +kernel) rfl rfl (Nat.le_of_ble_eq_true rfl) dX3_layPath_39 (fun H locs hP hD hS => ?_)
        have hP : va_P D vwCl (wM h st sl sv pt cI cZ (mst n G va mk) fsl fsv (apF G u fpt 0 (i + 1)) (nI (i + 1))) H := hP
        have hD : va_D (adr (wM h st sl sv pt cI cZ (mst n G va mk) fsl fsv fpt many)) (wM h st sl sv pt cI cZ (mst n G va mk) fsl fsv (apF G u fpt 0 (i + 1)) (nI (i + 1))) := vd_same hD rfl
        refine lv_aload_n hx hb dX3_layPath_42 rfl (lv_at hl 0 rfl) ?_
        refine lv_iload hx hb dX3_layPath_43 (lv_at hl 4 rfl) ?_
        refine rd_call ⟨hx, hb, hml, hown, hts⟩ (c_X3_above l D cI cZ h st sl sv pt fsl fsv (apF G u fpt 0 (i + 1)) (nI (i + 1)) n G va mk F (fo_up G i u) hlu) (cwV 1 hts gX3_layPath_X3_above rfl rfl rfl (by decide +kernel) ⟨Nat.le_of_ble_eq_true rfl, Nat.le_of_ble_eq_true rfl⟩) hP hK rfl rfl rfl hl rfl (Nat.le_of_ble_eq_true rfl) dX3_layPath_45 ⟨Nat.zero_le _, Nat.zero_le _⟩ ?_
        rw [← fo_up_s G i u]
        refine lv_istore (lv' := [(4, .int (nI (fo_up G (i + 1) u))), (0, .ref h), (1, .int (nI u)), (2, .int (nI v)), (3, .int (nI (fo_m G u v)))]) hx hb dX3_layPath_48 hl (by decide) rfl (fun ls hl => ?_)
        refine lv_goto (tgt := 15) hx hb dX3_layPath_50 (by decide) ?_
        exact ih15 (i + 1) (by omega) (by omega) _ _ hP hD hS ls (lv_sub hl [1, 2, 3, 4, 0] rfl)
  have hP : va_P D vwCl (wM h st sl sv pt cI cZ (mst n G va mk) fsl fsv (apF G u fpt 0 0) (nI 0)) H := by rw [apF_0]; exact hP
  have hD : va_D (adr (wM h st sl sv pt cI cZ (mst n G va mk) fsl fsv fpt many)) (wM h st sl sv pt cI cZ (mst n G va mk) fsl fsv (apF G u fpt 0 0) (nI 0)) := vd_same hD rfl
  exact L15 (fo_pi G u v - 0 + 1) 0 (Nat.zero_le _) (Nat.lt_succ_self _) _ _ hP hD hS ls (lv_sub hl [2, 3, 4, 1, 0] rfl)
