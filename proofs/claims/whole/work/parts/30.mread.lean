theorem fo_m_same {n : Nat} {G : Nat → Nat} (_F : fo_ok n G) (a : Nat) : fo_m G a a = a := by
  unfold fo_m
  rw [Nat.sub_self]
  exact fo_mF_eq rfl
theorem fo_m_na {n : Nat} {G : Nat → Nat} (F : fo_ok n G) {a b : Nat} (hr : fo_r G a = fo_r G b) (e : a ≠ b) (h : fo_d G b ≤ fo_d G a) : ¬ G a = a := fun q => by
  have h1 := fo_d_0 q
  have h2 : G b = b := (fo_d_z F).mp (by omega)
  rw [fo_r_of q, fo_r_of h2] at hr
  exact e hr
theorem fo_m_nb {n : Nat} {G : Nat → Nat} (_F : fo_ok n G) {a b : Nat} (h : fo_d G a < fo_d G b) : ¬ G b = b := fun q => by
  have h1 := fo_d_0 q
  omega
theorem fo_m_r {n : Nat} {G : Nat → Nat} (F : fo_ok n G) {a b : Nat} (_ : fo_r G a = fo_r G b) (h : fo_d G a < fo_d G b) : fo_m G a (G b) = fo_m G a b := by
  have hs := fo_d_s F (fo_m_nb F h)
  unfold fo_m
  rw [show fo_d G a - fo_d G (G b) = 0 by omega, show fo_d G a - fo_d G b = 0 by omega, show fo_d G b - fo_d G a = (fo_d G (G b) - fo_d G a) + 1 by omega]
  rfl
theorem fo_m_l {n : Nat} {G : Nat → Nat} (F : fo_ok n G) {a b : Nat} (hr : fo_r G a = fo_r G b) (e : a ≠ b) (h : fo_d G b ≤ fo_d G a) : fo_m G (G a) b = fo_m G a b := by
  have hn := fo_m_na F hr e h
  have hs := fo_d_s F hn
  have hl := fo_d_le F a
  by_cases q : fo_d G b = fo_d G a
  · have hnb := (fo_nrm F (a := a) (b := b) q.symm hr e).2
    have hsb := fo_d_s F hnb
    unfold fo_m
    rw [show fo_d G (G a) - fo_d G b = 0 by omega, show fo_d G b - fo_d G (G a) = 1 by omega, show fo_d G a - fo_d G b = 0 by omega, show fo_d G b - fo_d G a = 0 by omega]
    show fo_mF G 64 (G a) (G b) = fo_mF G 64 a b
    rw [show fo_mF G 64 a b = fo_mF G (64 - 0) a b from rfl, fo_mF_st (by omega) e]
    exact fo_mF_fuel F (by omega) (by rw [fo_r_p F, fo_r_p F]; exact hr) (by omega) (by omega)
  · unfold fo_m
    rw [show fo_d G b - fo_d G (G a) = 0 by omega, show fo_d G b - fo_d G a = 0 by omega, show fo_d G a - fo_d G b = (fo_d G (G a) - fo_d G b) + 1 by omega]
    rfl
theorem dOut_in {G : Nat → Nat} {r0 i w : Nat} (h : w = i) (h0 : w = 0 ∨ fo_r G i = r0) : dOut G r0 (i + 1) = dIn G r0 i w (dOut G r0 i) := by
  subst h
  by_cases e : fo_r G w = r0
  · exact dOut_y e
  · rw [dOut_n e]
    rcases h0 with h | h
    · rw [h]; rfl
    · exact absurd h e
set_option maxHeartbeats 4000000 in
set_option maxRecDepth 100000 in
theorem c_X3_in (l : Launch) (D : va_G) (cI cZ : ClassId) (x : Int32) (lo : Int32) (hi : Int32) : RdM l yX3_in wsX3_in 0 0 D cI cZ ([]) [.int x, .int lo, .int hi] (bI (inB x lo hi)) := by
  refine RdM.of (cc := cX3_in) (maxL := 3) (ret := (some .boolean)) (by decide) rfl (Nat.le_of_ble_eq_true rfl) ?_
  intro p e s m below meth c hx hb hr hml hown hts hlocks hP hK ls hl
  have hown : s.vm.findClass RX3 = some m.cls := hown
  have hl : lv_has ls 3 [(0, .int x), (1, .int lo), (2, .int hi)] := hl
  refine lv_iload_n hx hb dX3_in_0 rfl (lv_at hl 0 rfl) ?_
  refine lv_iload_n hx hb dX3_in_1 rfl (lv_at hl 1 rfl) ?_
  refine lv_icmp_lt (tgt := 14) hx hb dX3_in_2 (by decide) (fun c_2 => ?_) (fun c_2 => ?_)
  · skip
    refine lv_iconst (v := 0) hx hb dX3_in_14 (by decide) ?_
    exact rd_z hx hb hr hlocks (by simp [inB, bI, c_2]) dX3_in_15
  · skip
    refine lv_iload_n hx hb dX3_in_5 rfl (lv_at hl 0 rfl) ?_
    refine lv_iload_n hx hb dX3_in_6 rfl (lv_at hl 2 rfl) ?_
    refine lv_icmp_gt (tgt := 14) hx hb dX3_in_7 (by decide) (fun c_7 => ?_) (fun c_7 => ?_)
    · skip
      refine lv_iconst (v := 0) hx hb dX3_in_14 (by decide) ?_
      exact rd_z hx hb hr hlocks (by simp [inB, bI, c_7]) dX3_in_15
    · skip
      refine lv_iconst (v := 1) hx hb dX3_in_10 (by decide) ?_
      refine lv_goto (tgt := 15) hx hb dX3_in_11 (by decide) ?_
      exact rd_z hx hb hr hlocks (by simp [inB, bI, c_2, c_7]) dX3_in_15
set_option maxHeartbeats 4000000 in
set_option maxRecDepth 100000 in
theorem c_X3_isValue (l : Launch) (D : va_G) (cI cZ : ClassId) (x : Int32) : RdM l yX3_isValue wsX3_isValue 1 22 D cI cZ ([]) [.int x] (bI (isV x)) := by
  refine RdM.of (cc := cX3_isValue) (maxL := 1) (ret := (some .boolean)) (by decide) rfl (Nat.le_of_ble_eq_true rfl) ?_
  intro p e s m below meth c hx hb hr hml hown hts hlocks hP hK ls hl
  have hown : s.vm.findClass RX3 = some m.cls := hown
  have hl : lv_has ls 1 [(0, .int x)] := hl
  have hk82 := hts (.constant RX3 82 (-1000000)) (by decide +kernel)
  have hk83 := hts (.constant RX3 83 (1000000)) (by decide +kernel)
  refine lv_iload_n hx hb dX3_isValue_0 rfl (lv_at hl 0 rfl) ?_
  refine lv_ldc (own := RX3) hx hb hown hk82 dX3_isValue_1 ?_
  refine lv_ldc (own := RX3) hx hb hown hk83 dX3_isValue_3 ?_
  refine rd_callS ⟨hx, hb, hml, hown, hts⟩ (c_X3_in l D cI cZ x (-1000000) 1000000) (va_cwS 3 hts gX3_isValue_X3_in rfl rfl rfl (by decide +kernel) ⟨Nat.le_of_ble_eq_true rfl, Nat.le_of_ble_eq_true rfl⟩) hK rfl hl rfl (Nat.le_of_ble_eq_true rfl) dX3_isValue_5 ⟨Nat.zero_le _, Nat.zero_le _⟩ ?_
  exact rd_z hx hb hr hlocks rfl dX3_isValue_8
set_option maxHeartbeats 4000000 in
set_option maxRecDepth 100000 in
theorem c_X3_many (l : Launch) (D : va_G) (cI cZ : ClassId) (h : Nat) (st : Nat) (sl : Nat) (sv : Nat) (pt : Nat) (fsl : Nat → Int32) (fsv : Nat → Int32) (fpt : Nat → Int32) (many : Int32) (n : Nat) (G : Nat → Nat) (va : Nat → Int32) (mk : Nat → Bool) (F : fo_ok n G) : RdM l yX3_many wsX3_many 0 0 D cI cZ (wM h st sl sv pt cI cZ (mst n G va mk) fsl fsv fpt many) [.ref h] (nI n) := by
  refine RdM.of (cc := cX3_many) (maxL := 1) (ret := (some .int)) (by decide) rfl (Nat.le_of_ble_eq_true rfl) ?_
  intro p e s m below meth c hx hb hr hml hown hts hlocks hP hK ls hl
  have hown : s.vm.findClass RX3 = some m.cls := hown
  have hl : lv_has ls 1 [(0, .ref h)] := hl
  have hf7 := hts (.fieldLink RX3 7 "DynamicForestModel" "state" "[I") (by decide +kernel)
  have hin3 : ∀ w ∈ u_ws RX3 TX3 5, w ∈ wsX3_many := by decide +kernel
  refine lv_aload_n hx hb dX3_many_0 rfl (lv_at hl 0 rfl) ?_
  refine va_get (D := D) (ci := 3) (v := .ref st) (C := RX3) (T := TX3) (N := 5) hx hb hts hin3 hown hK hP 0 rfl rfl 0 (by decide) hf7 (fun _ h9 => h9) rfl dX3_many_1 ?_
  refine lv_iconst (v := nI 0) hx hb dX3_many_4 (by decide) ?_
  refine ar_i (tys := []) hx hb hK hP 1 rfl (k := 0) (by decide) (by decide) dX3_many_5 ?_
  exact rd_i hx hb hr hlocks rfl dX3_many_6
set_option maxHeartbeats 4000000 in
set_option maxRecDepth 100000 in
theorem c_X3_isVertex (l : Launch) (D : va_G) (cI cZ : ClassId) (h : Nat) (st : Nat) (sl : Nat) (sv : Nat) (pt : Nat) (fsl : Nat → Int32) (fsv : Nat → Int32) (fpt : Nat → Int32) (many : Int32) (n : Nat) (G : Nat → Nat) (va : Nat → Int32) (mk : Nat → Bool) (F : fo_ok n G) (v : Int32) : RdM l yX3_isVertex wsX3_isVertex 1 22 D cI cZ (wM h st sl sv pt cI cZ (mst n G va mk) fsl fsv fpt many) [.ref h, .int v] (bI (hasB n v)) := by
  refine RdM.of (cc := cX3_isVertex) (maxL := 2) (ret := (some .boolean)) (by decide) rfl (Nat.le_of_ble_eq_true rfl) ?_
  intro p e s m below meth c hx hb hr hml hown hts hlocks hP hK ls hl
  have hown : s.vm.findClass RX3 = some m.cls := hown
  have hl : lv_has ls 2 [(0, .ref h), (1, .int v)] := hl
  refine lv_iload_n hx hb dX3_isVertex_0 rfl (lv_at hl 1 rfl) ?_
  refine lv_iconst (v := 0) hx hb dX3_isVertex_1 (by decide) ?_
  refine lv_aload_n hx hb dX3_isVertex_2 rfl (lv_at hl 0 rfl) ?_
  refine rd_call ⟨hx, hb, hml, hown, hts⟩ (c_X3_many l D cI cZ h st sl sv pt fsl fsv fpt many n G va mk F) (cwV 0 hts gX3_isVertex_X3_many rfl rfl rfl (by decide +kernel) ⟨Nat.le_of_ble_eq_true rfl, Nat.le_of_ble_eq_true rfl⟩) hP hK rfl rfl rfl hl rfl (Nat.le_of_ble_eq_true rfl) dX3_isVertex_3 ⟨Nat.zero_le _, Nat.zero_le _⟩ ?_
  refine lv_iconst (v := 1) hx hb dX3_isVertex_6 (by decide) ?_
  refine lv_isub hx hb dX3_isVertex_7 ?_
  refine rd_callS ⟨hx, hb, hml, hown, hts⟩ (c_X3_in l D cI cZ v 0 (nI n - 1)) (va_cwS 3 hts gX3_isVertex_X3_in rfl rfl rfl (by decide +kernel) ⟨Nat.le_of_ble_eq_true rfl, Nat.le_of_ble_eq_true rfl⟩) hK rfl hl rfl (Nat.le_of_ble_eq_true rfl) dX3_isVertex_8 ⟨Nat.zero_le _, Nat.zero_le _⟩ ?_
  exact rd_z hx hb hr hlocks (by rw [inB_has F.1 F.2.1]) dX3_isVertex_11
set_option maxHeartbeats 4000000 in
set_option maxRecDepth 100000 in
theorem c_X3_above (l : Launch) (D : va_G) (cI cZ : ClassId) (h : Nat) (st : Nat) (sl : Nat) (sv : Nat) (pt : Nat) (fsl : Nat → Int32) (fsv : Nat → Int32) (fpt : Nat → Int32) (many : Int32) (n : Nat) (G : Nat → Nat) (va : Nat → Int32) (mk : Nat → Bool) (F : fo_ok n G) (j : Nat) (hj : j < n) : RdM l yX3_above wsX3_above 0 0 D cI cZ (wM h st sl sv pt cI cZ (mst n G va mk) fsl fsv fpt many) [.ref h, .int (nI j)] (nI (G j)) := by
  refine RdM.of (cc := cX3_above) (maxL := 2) (ret := (some .int)) (by decide) rfl (Nat.le_of_ble_eq_true rfl) ?_
  intro p e s m below meth c hx hb hr hml hown hts hlocks hP hK ls hl
  have hown : s.vm.findClass RX3 = some m.cls := hown
  have hl : lv_has ls 2 [(0, .ref h), (1, .int (nI j))] := hl
  have hf7 := hts (.fieldLink RX3 7 "DynamicForestModel" "state" "[I") (by decide +kernel)
  have hin3 : ∀ w ∈ u_ws RX3 TX3 5, w ∈ wsX3_above := by decide +kernel
  have hn : n ≤ 64 := F.2.1
  refine lv_aload_n hx hb dX3_above_0 rfl (lv_at hl 0 rfl) ?_
  refine va_get (D := D) (ci := 3) (v := .ref st) (C := RX3) (T := TX3) (N := 5) hx hb hts hin3 hown hK hP 0 rfl rfl 0 (by decide) hf7 (fun _ h9 => h9) rfl dX3_above_1 ?_
  refine lv_iconst (v := 1) hx hb dX3_above_4 (by decide) ?_
  refine lv_iload_n hx hb dX3_above_5 rfl (lv_at hl 1 rfl) ?_
  refine lv_iadd hx hb dX3_above_6 ?_
  rw [show (1 + (nI j) : Int32) = nI (1 + j) from nI_add 1 j]
  refine ar_i (tys := []) hx hb hK hP 1 rfl (k := (1 + j)) (by omega) (by decide) dX3_above_7 ?_
  rw [mst_p n G va mk (by omega)]
  exact rd_i hx hb hr hlocks rfl dX3_above_8
set_option maxHeartbeats 4000000 in
set_option maxRecDepth 100000 in
theorem c_X3_isRoot (l : Launch) (D : va_G) (cI cZ : ClassId) (h : Nat) (st : Nat) (sl : Nat) (sv : Nat) (pt : Nat) (fsl : Nat → Int32) (fsv : Nat → Int32) (fpt : Nat → Int32) (many : Int32) (n : Nat) (G : Nat → Nat) (va : Nat → Int32) (mk : Nat → Bool) (F : fo_ok n G) (j : Nat) (hj : j < n) : RdM l yX3_isRoot wsX3_isRoot 1 21 D cI cZ (wM h st sl sv pt cI cZ (mst n G va mk) fsl fsv fpt many) [.ref h, .int (nI j)] (bI (decide (G j = j))) := by
  refine RdM.of (cc := cX3_isRoot) (maxL := 2) (ret := (some .boolean)) (by decide) rfl (Nat.le_of_ble_eq_true rfl) ?_
  intro p e s m below meth c hx hb hr hml hown hts hlocks hP hK ls hl
  have hown : s.vm.findClass RX3 = some m.cls := hown
  have hl : lv_has ls 2 [(0, .ref h), (1, .int (nI j))] := hl
  have hn : n ≤ 64 := F.2.1
  refine lv_aload_n hx hb dX3_isRoot_0 rfl (lv_at hl 0 rfl) ?_
  refine lv_iload_n hx hb dX3_isRoot_1 rfl (lv_at hl 1 rfl) ?_
  refine rd_call ⟨hx, hb, hml, hown, hts⟩ (c_X3_above l D cI cZ h st sl sv pt fsl fsv fpt many n G va mk F j hj) (cwV 1 hts gX3_isRoot_X3_above rfl rfl rfl (by decide +kernel) ⟨Nat.le_of_ble_eq_true rfl, Nat.le_of_ble_eq_true rfl⟩) hP hK rfl rfl rfl hl rfl (Nat.le_of_ble_eq_true rfl) dX3_isRoot_2 ⟨Nat.zero_le _, Nat.zero_le _⟩ ?_
  refine lv_iload_n hx hb dX3_isRoot_5 rfl (lv_at hl 1 rfl) ?_
  have hgj := F.2.2.1 j hj
  refine lv_icmp_ne (tgt := 13) hx hb dX3_isRoot_6 (by decide) (fun c_6 => ?_) (fun c_6 => ?_)
  · skip
    have c_6 := cn_ne (a := (G j)) (b := j) (by omega) (by omega) c_6
    refine lv_iconst (v := 0) hx hb dX3_isRoot_13 (by decide) ?_
    exact rd_z hx hb hr hlocks (by simp [bI, c_6]) dX3_isRoot_14
  · skip
    have c_6 := cn_eq (a := (G j)) (b := j) (by omega) (by omega) c_6
    refine lv_iconst (v := 1) hx hb dX3_isRoot_9 (by decide) ?_
    refine lv_goto (tgt := 14) hx hb dX3_isRoot_10 (by decide) ?_
    exact rd_z hx hb hr hlocks (by simp [bI, c_6]) dX3_isRoot_14
set_option maxHeartbeats 4000000 in
set_option maxRecDepth 100000 in
theorem c_X3_valueOf (l : Launch) (D : va_G) (cI cZ : ClassId) (h : Nat) (st : Nat) (sl : Nat) (sv : Nat) (pt : Nat) (fsl : Nat → Int32) (fsv : Nat → Int32) (fpt : Nat → Int32) (many : Int32) (n : Nat) (G : Nat → Nat) (va : Nat → Int32) (mk : Nat → Bool) (F : fo_ok n G) (j : Nat) (hj : j < n) : RdM l yX3_valueOf wsX3_valueOf 0 0 D cI cZ (wM h st sl sv pt cI cZ (mst n G va mk) fsl fsv fpt many) [.ref h, .int (nI j)] (va j) := by
  refine RdM.of (cc := cX3_valueOf) (maxL := 2) (ret := (some .int)) (by decide) rfl (Nat.le_of_ble_eq_true rfl) ?_
  intro p e s m below meth c hx hb hr hml hown hts hlocks hP hK ls hl
  have hown : s.vm.findClass RX3 = some m.cls := hown
  have hl : lv_has ls 2 [(0, .ref h), (1, .int (nI j))] := hl
  have hf7 := hts (.fieldLink RX3 7 "DynamicForestModel" "state" "[I") (by decide +kernel)
  have hin3 : ∀ w ∈ u_ws RX3 TX3 5, w ∈ wsX3_valueOf := by decide +kernel
  have hn : n ≤ 64 := F.2.1
  refine lv_aload_n hx hb dX3_valueOf_0 rfl (lv_at hl 0 rfl) ?_
  refine va_get (D := D) (ci := 3) (v := .ref st) (C := RX3) (T := TX3) (N := 5) hx hb hts hin3 hown hK hP 0 rfl rfl 0 (by decide) hf7 (fun _ h9 => h9) rfl dX3_valueOf_1 ?_
  refine lv_bipush (v := 65) hx hb dX3_valueOf_4 (by decide) ?_
  refine lv_iload_n hx hb dX3_valueOf_6 rfl (lv_at hl 1 rfl) ?_
  refine lv_iadd hx hb dX3_valueOf_7 ?_
  rw [show (65 + (nI j) : Int32) = nI (65 + j) from nI_add 65 j]
  refine ar_i (tys := []) hx hb hK hP 1 rfl (k := (65 + j)) (by omega) (by decide) dX3_valueOf_8 ?_
  rw [mst_v n G va mk (by omega)]
  exact rd_i hx hb hr hlocks rfl dX3_valueOf_9
set_option maxHeartbeats 4000000 in
set_option maxRecDepth 100000 in
theorem c_X3_rootOf (l : Launch) (D : va_G) (cI cZ : ClassId) (h : Nat) (st : Nat) (sl : Nat) (sv : Nat) (pt : Nat) (fsl : Nat → Int32) (fsv : Nat → Int32) (fpt : Nat → Int32) (many : Int32) (n : Nat) (G : Nat → Nat) (va : Nat → Int32) (mk : Nat → Bool) (F : fo_ok n G) (j : Nat) (hj : j < n) : RdM l yX3_rootOf wsX3_rootOf 2 42 D cI cZ (wM h st sl sv pt cI cZ (mst n G va mk) fsl fsv fpt many) [.ref h, .int (nI j)] (nI (fo_r G j)) := by
  refine RdM.of (cc := cX3_rootOf) (maxL := 3) (ret := (some .int)) (by decide) rfl (Nat.le_of_ble_eq_true rfl) ?_
  intro p e s m below meth c hx hb hr hml hown hts hlocks hP hK ls hl
  have hown : s.vm.findClass RX3 = some m.cls := hown
  have hl : lv_has ls 3 [(0, .ref h), (1, .int (nI j))] := hl
  have hn : n ≤ 64 := F.2.1
  refine lv_iload_n hx hb dX3_rootOf_0 rfl (lv_at hl 1 rfl) ?_
  refine lv_istore_n (lv' := [(2, .int (nI j)), (0, .ref h), (1, .int (nI j))]) hx hb dX3_rootOf_1 rfl hl (by decide) rfl (fun ls hl => ?_)
  have L2 : ∀ (k2_ : Nat) (i : Nat), i ≤ fo_d G j → fo_d G j - i < k2_ → ∀ ls, lv_has ls 3 [(0, .ref h), (2, .int (nI (fo_up G i j)))] → Wr0 p l e wsX3_rootOf 2 42 s m [.ref h, .int (nI j)] below meth c (nI (fo_r G j)) (F0 m 2 ls []) := by
    intro k2_
    induction k2_ with
    | zero => intro i hi hk2_; exact absurd hk2_ (Nat.not_lt_zero _)
    | succ k2_ ih2 =>
      intro i hi hk2_ ls hl
      refine lv_aload_n hx hb dX3_rootOf_2 rfl (lv_at hl 0 rfl) ?_
      refine lv_iload_n hx hb dX3_rootOf_3 rfl (lv_at hl 1 rfl) ?_
      refine rd_call ⟨hx, hb, hml, hown, hts⟩ (c_X3_isRoot l D cI cZ h st sl sv pt fsl fsv fpt many n G va mk F (fo_up G i j) (fo_lt F hj i)) (cwV 1 hts gX3_rootOf_X3_isRoot rfl rfl rfl (by decide +kernel) ⟨Nat.le_of_ble_eq_true rfl, Nat.le_of_ble_eq_true rfl⟩) hP hK rfl rfl rfl hl rfl (Nat.le_of_ble_eq_true rfl) dX3_rootOf_4 ⟨Nat.zero_le _, Nat.zero_le _⟩ ?_
      refine lv_if_ne (tgt := 19) hx hb dX3_rootOf_7 (by decide) (fun c_7 => ?_) (fun c_7 => ?_)
      · skip
        have c_7 := bI_1 c_7
        have c_7 := fo_d_is F hi (of_decide_eq_true c_7)
        refine lv_iload_n hx hb dX3_rootOf_19 rfl (lv_at hl 1 rfl) ?_
        exact rd_i hx hb hr hlocks (by rw [c_7]; rfl) dX3_rootOf_20
      · skip
        have c_7 := bI_0 c_7
        have c_7 := fo_d_gt F hi (of_decide_eq_false c_7)
        refine lv_aload_n hx hb dX3_rootOf_10 rfl (lv_at hl 0 rfl) ?_
        refine lv_iload_n hx hb dX3_rootOf_11 rfl (lv_at hl 1 rfl) ?_
        refine rd_call ⟨hx, hb, hml, hown, hts⟩ (c_X3_above l D cI cZ h st sl sv pt fsl fsv fpt many n G va mk F (fo_up G i j) (fo_lt F hj i)) (cwV 1 hts gX3_rootOf_X3_above rfl rfl rfl (by decide +kernel) ⟨Nat.le_of_ble_eq_true rfl, Nat.le_of_ble_eq_true rfl⟩) hP hK rfl rfl rfl hl rfl (Nat.le_of_ble_eq_true rfl) dX3_rootOf_12 ⟨Nat.zero_le _, Nat.zero_le _⟩ ?_
        rw [← fo_up_s G i j]
        refine lv_istore_n (lv' := [(2, .int (nI (fo_up G (i + 1) j))), (0, .ref h)]) hx hb dX3_rootOf_15 rfl hl (by decide) rfl (fun ls hl => ?_)
        refine lv_goto (tgt := 2) hx hb dX3_rootOf_16 (by decide) ?_
        exact ih2 (i + 1) (by omega) (by omega) ls (lv_sub hl [1, 0] rfl)
  exact L2 (fo_d G j - 0 + 1) 0 (Nat.zero_le _) (Nat.lt_succ_self _) ls (lv_sub hl [1, 0] rfl)
set_option maxHeartbeats 4000000 in
set_option maxRecDepth 100000 in
theorem c_X3_depthOf (l : Launch) (D : va_G) (cI cZ : ClassId) (h : Nat) (st : Nat) (sl : Nat) (sv : Nat) (pt : Nat) (fsl : Nat → Int32) (fsv : Nat → Int32) (fpt : Nat → Int32) (many : Int32) (n : Nat) (G : Nat → Nat) (va : Nat → Int32) (mk : Nat → Bool) (F : fo_ok n G) (j : Nat) (hj : j < n) : RdM l yX3_depthOf wsX3_depthOf 2 42 D cI cZ (wM h st sl sv pt cI cZ (mst n G va mk) fsl fsv fpt many) [.ref h, .int (nI j)] (nI (fo_d G j)) := by
  refine RdM.of (cc := cX3_depthOf) (maxL := 4) (ret := (some .int)) (by decide) rfl (Nat.le_of_ble_eq_true rfl) ?_
  intro p e s m below meth c hx hb hr hml hown hts hlocks hP hK ls hl
  have hown : s.vm.findClass RX3 = some m.cls := hown
  have hl : lv_has ls 4 [(0, .ref h), (1, .int (nI j))] := hl
  have hn : n ≤ 64 := F.2.1
  refine lv_iconst (v := nI 0) hx hb dX3_depthOf_0 (by decide) ?_
  refine lv_istore_n (lv' := [(2, .int (nI 0)), (0, .ref h), (1, .int (nI j))]) hx hb dX3_depthOf_1 rfl hl (by decide) rfl (fun ls hl => ?_)
  refine lv_iload_n hx hb dX3_depthOf_2 rfl (lv_at hl 2 rfl) ?_
  refine lv_istore_n (lv' := [(3, .int (nI j)), (2, .int (nI 0)), (0, .ref h), (1, .int (nI j))]) hx hb dX3_depthOf_3 rfl hl (by decide) rfl (fun ls hl => ?_)
  have L4 : ∀ (k4_ : Nat) (i : Nat), i ≤ fo_d G j → fo_d G j - i < k4_ → ∀ ls, lv_has ls 4 [(0, .ref h), (2, .int (nI i)), (3, .int (nI (fo_up G i j)))] → Wr0 p l e wsX3_depthOf 2 42 s m [.ref h, .int (nI j)] below meth c (nI (fo_d G j)) (F0 m 4 ls []) := by
    intro k4_
    induction k4_ with
    | zero => intro i hi hk4_; exact absurd hk4_ (Nat.not_lt_zero _)
    | succ k4_ ih4 =>
      intro i hi hk4_ ls hl
      refine lv_aload_n hx hb dX3_depthOf_4 rfl (lv_at hl 0 rfl) ?_
      refine lv_iload_n hx hb dX3_depthOf_5 rfl (lv_at hl 2 rfl) ?_
      refine rd_call ⟨hx, hb, hml, hown, hts⟩ (c_X3_isRoot l D cI cZ h st sl sv pt fsl fsv fpt many n G va mk F (fo_up G i j) (fo_lt F hj i)) (cwV 1 hts gX3_depthOf_X3_isRoot rfl rfl rfl (by decide +kernel) ⟨Nat.le_of_ble_eq_true rfl, Nat.le_of_ble_eq_true rfl⟩) hP hK rfl rfl rfl hl rfl (Nat.le_of_ble_eq_true rfl) dX3_depthOf_6 ⟨Nat.zero_le _, Nat.zero_le _⟩ ?_
      refine lv_if_ne (tgt := 24) hx hb dX3_depthOf_9 (by decide) (fun c_9 => ?_) (fun c_9 => ?_)
      · skip
        have c_9 := bI_1 c_9
        have c_9 := fo_d_is F hi (of_decide_eq_true c_9)
        refine lv_iload_n hx hb dX3_depthOf_24 rfl (lv_at hl 1 rfl) ?_
        exact rd_i hx hb hr hlocks (by rw [← c_9]) dX3_depthOf_25
      · skip
        have c_9 := bI_0 c_9
        have c_9 := fo_d_gt F hi (of_decide_eq_false c_9)
        refine lv_iinc (v := nI (i + 1)) (lv' := [(2, .int (nI (i + 1))), (0, .ref h), (3, .int (nI (fo_up G i j)))]) hx hb dX3_depthOf_12 hl (k := 1) rfl (nI_1 i) (by decide) rfl (fun ls hl => ?_)
        refine lv_aload_n hx hb dX3_depthOf_15 rfl (lv_at hl 1 rfl) ?_
        refine lv_iload_n hx hb dX3_depthOf_16 rfl (lv_at hl 2 rfl) ?_
        refine rd_call ⟨hx, hb, hml, hown, hts⟩ (c_X3_above l D cI cZ h st sl sv pt fsl fsv fpt many n G va mk F (fo_up G i j) (fo_lt F hj i)) (cwV 1 hts gX3_depthOf_X3_above rfl rfl rfl (by decide +kernel) ⟨Nat.le_of_ble_eq_true rfl, Nat.le_of_ble_eq_true rfl⟩) hP hK rfl rfl rfl hl rfl (Nat.le_of_ble_eq_true rfl) dX3_depthOf_17 ⟨Nat.zero_le _, Nat.zero_le _⟩ ?_
        rw [← fo_up_s G i j]
        refine lv_istore_n (lv' := [(3, .int (nI (fo_up G (i + 1) j))), (2, .int (nI (i + 1))), (0, .ref h)]) hx hb dX3_depthOf_20 rfl hl (by decide) rfl (fun ls hl => ?_)
        refine lv_goto (tgt := 4) hx hb dX3_depthOf_21 (by decide) ?_
        exact ih4 (i + 1) (by omega) (by omega) ls (lv_sub hl [2, 1, 0] rfl)
  exact L4 (fo_d G j - 0 + 1) 0 (Nat.zero_le _) (Nat.lt_succ_self _) ls (lv_sub hl [2, 1, 0] rfl)
set_option maxHeartbeats 4000000 in
set_option maxRecDepth 100000 in
theorem c_X3_begin (l : Launch) (D : va_G) (cI cZ : ClassId) (h : Nat) (st : Nat) (sl : Nat) (sv : Nat) (pt : Nat) (fsl : Nat → Int32) (fsv : Nat → Int32) (fpt : Nat → Int32) (many : Int32) (f0 : Nat → Int32) (k : Nat) (hk : k ≤ 64) : WrM l yX3_begin wsX3_begin 0 0 D cI cZ (wM h st sl sv pt cI cZ f0 fsl fsv fpt many) (wM h st sl sv pt cI cZ (mst k (fun w => w) (fun _ => 0) (fun _ => false)) fsl fsv fpt many) [.ref h, .int (nI k)] none := by
  refine WrM.of (cc := cX3_begin) (maxL := 3) (ret := none) (by decide) rfl (Nat.le_of_ble_eq_true rfl) ?_
  intro p e s m below meth c hx hb hr hml hown hts hlocks hP hK hD hS ls hl
  have hown : s.vm.findClass RX3 = some m.cls := hown
  have hl : lv_has ls 3 [(0, .ref h), (1, .int (nI k))] := hl
  have hP : va_P D vwCl (wM h st sl sv pt cI cZ f0 fsl fsv fpt many) s.heap := hP
  have hf7 := hts (.fieldLink RX3 7 "DynamicForestModel" "state" "[I") (by decide +kernel)
  have hin3 : ∀ w ∈ u_ws RX3 TX3 5, w ∈ wsX3_begin := by decide +kernel
  refine lv_aload_n hx hb dX3_begin_0 rfl (lv_at hl 0 rfl) ?_
  refine va_get (D := D) (ci := 3) (v := .ref st) (C := RX3) (T := TX3) (N := 5) hx hb hts hin3 hown hK hP 0 rfl rfl 0 (by decide) hf7 (fun _ h9 => h9) rfl dX3_begin_1 ?_
  refine lv_iconst (v := nI 0) hx hb dX3_begin_4 (by decide) ?_
  refine lv_iload_n hx hb dX3_begin_5 rfl (lv_at hl 1 rfl) ?_
  refine ar_is hx hb hK hP hD hS 1 rfl (k := 0) (by decide) (by decide) dX3_begin_6 (fun H locs hP hD hS => ?_)
  have hP : va_P D vwCl (wM h st sl sv pt cI cZ (upd f0 0 (nI k)) fsl fsv fpt many) H := hP
  rw [bgn_0] at hP
  have hD : va_D (adr (wM h st sl sv pt cI cZ f0 fsl fsv fpt many)) (wM h st sl sv pt cI cZ (bgn k 0 f0) fsl fsv fpt many) := vd_same hD rfl
  refine lv_iconst (v := nI 0) hx hb dX3_begin_7 (by decide) ?_
  refine lv_istore_n (lv' := [(2, .int (nI 0)), (0, .ref h), (1, .int (nI k))]) hx hb dX3_begin_8 rfl hl (by decide) rfl (fun ls hl => ?_)
  have L9 : ∀ (k9_ : Nat) (i : Nat), i ≤ 64 → 64 - i < k9_ → ∀ (H : Heap) (locs : List Loc), va_P D vwCl (wM h st sl sv pt cI cZ (bgn k i f0) fsl fsv fpt many) H → va_D (adr (wM h st sl sv pt cI cZ f0 fsl fsv fpt many)) (wM h st sl sv pt cI cZ (bgn k i f0) fsl fsv fpt many) → va_S (adr (wM h st sl sv pt cI cZ f0 fsl fsv fpt many)) s.heap H locs → ∀ ls, lv_has ls 3 [(0, .ref h), (2, .int (nI i))] → Ww0 p l e wsX3_begin 0 0 s m [.ref h, .int (nI k)] below meth c D (wM h st sl sv pt cI cZ f0 fsl fsv fpt many) (wM h st sl sv pt cI cZ (mst k (fun w => w) (fun _ => 0) (fun _ => false)) fsl fsv fpt many) none H locs (F0 m 9 ls []) := by
    intro k9_
    induction k9_ with
    | zero => intro i hi hk9_; exact absurd hk9_ (Nat.not_lt_zero _)
    | succ k9_ ih9 =>
      intro i hi hk9_ H locs hP hD hS ls hl
      refine lv_iload_n hx hb dX3_begin_9 rfl (lv_at hl 1 rfl) ?_
      refine lv_bipush (v := 64) hx hb dX3_begin_10 (by decide) ?_
      refine lv_icmp_ge (tgt := 51) hx hb dX3_begin_12 (by decide) (fun c_12 => ?_) (fun c_12 => ?_)
      · skip
        have c_12 := cn_le (a := 64) (b := i) (by omega) (by omega) c_12
        have e64 : i = 64 := by omega
        subst e64
        have hP := ar_sw (g := mst k (fun w => w) (fun _ => 0) (fun _ => false)) hP 1 rfl (fun j h => bgn_e h)
        exact wr_v hx hb hr hlocks hP hS dX3_begin_51
      · skip
        have c_12 := cn_nle (a := 64) (b := i) (by omega) (by omega) c_12
        refine lv_aload_n hx hb dX3_begin_15 rfl (lv_at hl 0 rfl) ?_
        refine va_get (D := D) (ci := 3) (v := .ref st) (C := RX3) (T := TX3) (N := 5) hx hb hts hin3 hown hK hP 0 rfl rfl 0 (by decide) hf7 (fun _ h9 => h9) rfl dX3_begin_16 ?_
        refine lv_iconst (v := 1) hx hb dX3_begin_19 (by decide) ?_
        refine lv_iload_n hx hb dX3_begin_20 rfl (lv_at hl 1 rfl) ?_
        refine lv_iadd hx hb dX3_begin_21 ?_
        rw [show (1 + (nI i) : Int32) = nI (1 + i) from nI_add 1 i]
        refine lv_iload_n hx hb dX3_begin_22 rfl (lv_at hl 1 rfl) ?_
        refine ar_is hx hb hK hP hD hS 1 rfl (k := (1 + i)) (by omega) (by decide) dX3_begin_23 (fun H locs hP hD hS => ?_)
        have hP : va_P D vwCl (wM h st sl sv pt cI cZ (upd (bgn k i f0) (1 + i) (nI i)) fsl fsv fpt many) H := hP
        have hD : va_D (adr (wM h st sl sv pt cI cZ f0 fsl fsv fpt many)) (wM h st sl sv pt cI cZ (upd (bgn k i f0) (1 + i) (nI i)) fsl fsv fpt many) := vd_same hD rfl
        refine lv_aload_n hx hb dX3_begin_24 rfl (lv_at hl 0 rfl) ?_
        refine va_get (D := D) (ci := 3) (v := .ref st) (C := RX3) (T := TX3) (N := 5) hx hb hts hin3 hown hK hP 0 rfl rfl 0 (by decide) hf7 (fun _ h9 => h9) rfl dX3_begin_25 ?_
        refine lv_bipush (v := 65) hx hb dX3_begin_28 (by decide) ?_
        refine lv_iload_n hx hb dX3_begin_30 rfl (lv_at hl 1 rfl) ?_
        refine lv_iadd hx hb dX3_begin_31 ?_
        rw [show (65 + (nI i) : Int32) = nI (65 + i) from nI_add 65 i]
        refine lv_iconst (v := 0) hx hb dX3_begin_32 (by decide) ?_
        refine ar_is hx hb hK hP hD hS 1 rfl (k := (65 + i)) (by omega) (by decide) dX3_begin_33 (fun H locs hP hD hS => ?_)
        have hP : va_P D vwCl (wM h st sl sv pt cI cZ (upd (upd (bgn k i f0) (1 + i) (nI i)) (65 + i) 0) fsl fsv fpt many) H := hP
        have hD : va_D (adr (wM h st sl sv pt cI cZ f0 fsl fsv fpt many)) (wM h st sl sv pt cI cZ (upd (upd (bgn k i f0) (1 + i) (nI i)) (65 + i) 0) fsl fsv fpt many) := vd_same hD rfl
        refine lv_aload_n hx hb dX3_begin_34 rfl (lv_at hl 0 rfl) ?_
        refine va_get (D := D) (ci := 3) (v := .ref st) (C := RX3) (T := TX3) (N := 5) hx hb hts hin3 hown hK hP 0 rfl rfl 0 (by decide) hf7 (fun _ h9 => h9) rfl dX3_begin_35 ?_
        refine lv_sipush (v := 129) hx hb dX3_begin_38 (by decide) ?_
        refine lv_iload_n hx hb dX3_begin_41 rfl (lv_at hl 1 rfl) ?_
        refine lv_iadd hx hb dX3_begin_42 ?_
        rw [show (129 + (nI i) : Int32) = nI (129 + i) from nI_add 129 i]
        refine lv_iconst (v := 0) hx hb dX3_begin_43 (by decide) ?_
        refine ar_is hx hb hK hP hD hS 1 rfl (k := (129 + i)) (by omega) (by decide) dX3_begin_44 (fun H locs hP hD hS => ?_)
        have hP : va_P D vwCl (wM h st sl sv pt cI cZ (upd (upd (upd (bgn k i f0) (1 + i) (nI i)) (65 + i) 0) (129 + i) 0) fsl fsv fpt many) H := hP
        rw [bgn_s (by omega)] at hP
        have hD : va_D (adr (wM h st sl sv pt cI cZ f0 fsl fsv fpt many)) (wM h st sl sv pt cI cZ (bgn k (i + 1) f0) fsl fsv fpt many) := vd_same hD rfl
        refine lv_iinc (v := nI (i + 1)) (lv' := [(2, .int (nI (i + 1))), (0, .ref h)]) hx hb dX3_begin_45 hl (k := 1) rfl (nI_1 i) (by decide) rfl (fun ls hl => ?_)
        refine lv_goto (tgt := 9) hx hb dX3_begin_48 (by decide) ?_
        exact ih9 (i + 1) (by omega) (by omega) _ _ hP hD hS ls (lv_sub hl [1, 0] rfl)
  exact L9 (64 - 0 + 1) 0 (Nat.zero_le _) (Nat.lt_succ_self _) _ _ hP hD hS ls (lv_sub hl [1, 0] rfl)
set_option maxHeartbeats 4000000 in
set_option maxRecDepth 100000 in
theorem c_X3_vertexCount (l : Launch) (D : va_G) (cI cZ : ClassId) (h : Nat) (st : Nat) (sl : Nat) (sv : Nat) (pt : Nat) (fsl : Nat → Int32) (fsv : Nat → Int32) (fpt : Nat → Int32) (many : Int32) (n : Nat) (G : Nat → Nat) (va : Nat → Int32) (mk : Nat → Bool) (F : fo_ok n G) : RdM l yX3_vertexCount wsX3_vertexCount 1 20 D cI cZ (wM h st sl sv pt cI cZ (mst n G va mk) fsl fsv fpt many) [.ref h] (nI n) := by
  refine RdM.of (cc := cX3_vertexCount) (maxL := 1) (ret := (some .int)) (by decide) rfl (Nat.le_of_ble_eq_true rfl) ?_
  intro p e s m below meth c hx hb hr hml hown hts hlocks hP hK ls hl
  have hown : s.vm.findClass RX3 = some m.cls := hown
  have hl : lv_has ls 1 [(0, .ref h)] := hl
  refine lv_aload_n hx hb dX3_vertexCount_0 rfl (lv_at hl 0 rfl) ?_
  refine rd_call ⟨hx, hb, hml, hown, hts⟩ (c_X3_many l D cI cZ h st sl sv pt fsl fsv fpt many n G va mk F) (cwV 0 hts gX3_vertexCount_X3_many rfl rfl rfl (by decide +kernel) ⟨Nat.le_of_ble_eq_true rfl, Nat.le_of_ble_eq_true rfl⟩) hP hK rfl rfl rfl hl rfl (Nat.le_of_ble_eq_true rfl) dX3_vertexCount_1 ⟨Nat.zero_le _, Nat.zero_le _⟩ ?_
  exact rd_i hx hb hr hlocks rfl dX3_vertexCount_4
set_option maxHeartbeats 4000000 in
set_option maxRecDepth 100000 in
theorem c_X3_treeCount (l : Launch) (D : va_G) (cI cZ : ClassId) (h : Nat) (st : Nat) (sl : Nat) (sv : Nat) (pt : Nat) (fsl : Nat → Int32) (fsv : Nat → Int32) (fpt : Nat → Int32) (many : Int32) (n : Nat) (G : Nat → Nat) (va : Nat → Int32) (mk : Nat → Bool) (F : fo_ok n G) : RdM l yX3_treeCount wsX3_treeCount 2 42 D cI cZ (wM h st sl sv pt cI cZ (mst n G va mk) fsl fsv fpt many) [.ref h] (nI (fo_cnt (fun v => decide (G v = v)) n)) := by
  refine RdM.of (cc := cX3_treeCount) (maxL := 3) (ret := (some .int)) (by decide) rfl (Nat.le_of_ble_eq_true rfl) ?_
  intro p e s m below meth c hx hb hr hml hown hts hlocks hP hK ls hl
  have hown : s.vm.findClass RX3 = some m.cls := hown
  have hl : lv_has ls 3 [(0, .ref h)] := hl
  have hn : n ≤ 64 := F.2.1
  refine lv_iconst (v := nI 0) hx hb dX3_treeCount_0 (by decide) ?_
  refine lv_istore_n (lv' := [(1, .int (nI 0)), (0, .ref h)]) hx hb dX3_treeCount_1 rfl hl (by decide) rfl (fun ls hl => ?_)
  refine lv_iconst (v := nI 0) hx hb dX3_treeCount_2 (by decide) ?_
  refine lv_istore_n (lv' := [(2, .int (nI 0)), (1, .int (nI 0)), (0, .ref h)]) hx hb dX3_treeCount_3 rfl hl (by decide) rfl (fun ls hl => ?_)
  have L4 : ∀ (k4_ : Nat) (i : Nat), i ≤ n → n - i < k4_ → ∀ ls, lv_has ls 3 [(0, .ref h), (1, .int (nI (fo_cnt (fun v => decide (G v = v)) i))), (2, .int (nI i))] → Wr0 p l e wsX3_treeCount 2 42 s m [.ref h] below meth c (nI (fo_cnt (fun v => decide (G v = v)) n)) (F0 m 4 ls []) := by
    intro k4_
    induction k4_ with
    | zero => intro i hi hk4_; exact absurd hk4_ (Nat.not_lt_zero _)
    | succ k4_ ih4 =>
      intro i hi hk4_ ls hl
      refine lv_iload_n hx hb dX3_treeCount_4 rfl (lv_at hl 2 rfl) ?_
      refine lv_aload_n hx hb dX3_treeCount_5 rfl (lv_at hl 0 rfl) ?_
      refine rd_call ⟨hx, hb, hml, hown, hts⟩ (c_X3_many l D cI cZ h st sl sv pt fsl fsv fpt many n G va mk F) (cwV 0 hts gX3_treeCount_X3_many rfl rfl rfl (by decide +kernel) ⟨Nat.le_of_ble_eq_true rfl, Nat.le_of_ble_eq_true rfl⟩) hP hK rfl rfl rfl hl rfl (Nat.le_of_ble_eq_true rfl) dX3_treeCount_6 ⟨Nat.zero_le _, Nat.zero_le _⟩ ?_
      refine lv_icmp_ge (tgt := 34) hx hb dX3_treeCount_9 (by decide) (fun c_9 => ?_) (fun c_9 => ?_)
      · skip
        have c_9 := cn_le (a := n) (b := i) (by omega) (by omega) c_9
        refine lv_iload_n hx hb dX3_treeCount_34 rfl (lv_at hl 1 rfl) ?_
        exact rd_i hx hb hr hlocks (by rw [show i = n by omega]) dX3_treeCount_35
      · skip
        have c_9 := cn_nle (a := n) (b := i) (by omega) (by omega) c_9
        refine lv_iload_n hx hb dX3_treeCount_12 rfl (lv_at hl 1 rfl) ?_
        refine lv_aload_n hx hb dX3_treeCount_13 rfl (lv_at hl 0 rfl) ?_
        refine lv_iload_n hx hb dX3_treeCount_14 rfl (lv_at hl 2 rfl) ?_
        refine rd_call ⟨hx, hb, hml, hown, hts⟩ (c_X3_isRoot l D cI cZ h st sl sv pt fsl fsv fpt many n G va mk F i c_9) (cwV 1 hts gX3_treeCount_X3_isRoot rfl rfl rfl (by decide +kernel) ⟨Nat.le_of_ble_eq_true rfl, Nat.le_of_ble_eq_true rfl⟩) hP hK rfl rfl rfl hl rfl (Nat.le_of_ble_eq_true rfl) dX3_treeCount_15 ⟨Nat.zero_le _, Nat.zero_le _⟩ ?_
        refine lv_if_eq (tgt := 25) hx hb dX3_treeCount_18 (by decide) (fun c_18 => ?_) (fun c_18 => ?_)
        · skip
          have c_18 := bI_0 c_18
          refine lv_iconst (v := 0) hx hb dX3_treeCount_25 (by decide) ?_
          refine lv_iadd hx hb dX3_treeCount_26 ?_
          rw [show ((nI (fo_cnt (fun v => decide (G v = v)) i)) + 0 : Int32) = nI ((fo_cnt (fun v => decide (G v = v)) i) + 0) from nI_add (fo_cnt (fun v => decide (G v = v)) i) 0]
          refine lv_istore_n (lv' := [(1, .int (nI ((fo_cnt (fun v => decide (G v = v)) i) + 0))), (0, .ref h), (2, .int (nI i))]) hx hb dX3_treeCount_27 rfl hl (by decide) rfl (fun ls hl => ?_)
          refine lv_iinc (v := nI (i + 1)) (lv' := [(2, .int (nI (i + 1))), (1, .int (nI ((fo_cnt (fun v => decide (G v = v)) i) + 0))), (0, .ref h)]) hx hb dX3_treeCount_28 hl (k := 2) rfl (nI_1 i) (by decide) rfl (fun ls hl => ?_)
          refine lv_goto (tgt := 4) hx hb dX3_treeCount_31 (by decide) ?_
          exact ih4 (i + 1) (by omega) (by omega) ls (by rw [fo_cnt_f (f := (fun v => decide (G v = v))) (k := i) c_18]; exact lv_sub hl [2, 1, 0] rfl)
        · skip
          have c_18 := bI_1 c_18
          refine lv_iconst (v := 1) hx hb dX3_treeCount_21 (by decide) ?_
          refine lv_goto (tgt := 26) hx hb dX3_treeCount_22 (by decide) ?_
          refine lv_iadd hx hb dX3_treeCount_26 ?_
          rw [show ((nI (fo_cnt (fun v => decide (G v = v)) i)) + 1 : Int32) = nI ((fo_cnt (fun v => decide (G v = v)) i) + 1) from nI_add (fo_cnt (fun v => decide (G v = v)) i) 1]
          refine lv_istore_n (lv' := [(1, .int (nI ((fo_cnt (fun v => decide (G v = v)) i) + 1))), (0, .ref h), (2, .int (nI i))]) hx hb dX3_treeCount_27 rfl hl (by decide) rfl (fun ls hl => ?_)
          refine lv_iinc (v := nI (i + 1)) (lv' := [(2, .int (nI (i + 1))), (1, .int (nI ((fo_cnt (fun v => decide (G v = v)) i) + 1))), (0, .ref h)]) hx hb dX3_treeCount_28 hl (k := 2) rfl (nI_1 i) (by decide) rfl (fun ls hl => ?_)
          refine lv_goto (tgt := 4) hx hb dX3_treeCount_31 (by decide) ?_
          exact ih4 (i + 1) (by omega) (by omega) ls (by rw [fo_cnt_t (f := (fun v => decide (G v = v))) (k := i) c_18]; exact lv_sub hl [2, 1, 0] rfl)
  exact L4 (n - 0 + 1) 0 (Nat.zero_le _) (Nat.lt_succ_self _) ls (lv_sub hl [2, 1, 0] rfl)
set_option maxHeartbeats 4000000 in
set_option maxRecDepth 100000 in
theorem c_X3_root (l : Launch) (D : va_G) (cI cZ : ClassId) (h : Nat) (st : Nat) (sl : Nat) (sv : Nat) (pt : Nat) (fsl : Nat → Int32) (fsv : Nat → Int32) (fpt : Nat → Int32) (many : Int32) (n : Nat) (G : Nat → Nat) (va : Nat → Int32) (mk : Nat → Bool) (F : fo_ok n G) (v : Int32) : RdM l yX3_root wsX3_root 3 64 D cI cZ (wM h st sl sv pt cI cZ (mst n G va mk) fsl fsv fpt many) [.ref h, .int v] (ga n v (fun j => nI (fo_r G j)) (-100000001)) := by
  refine RdM.of (cc := cX3_root) (maxL := 2) (ret := (some .int)) (by decide) rfl (Nat.le_of_ble_eq_true rfl) ?_
  intro p e s m below meth c hx hb hr hml hown hts hlocks hP hK ls hl
  have hown : s.vm.findClass RX3 = some m.cls := hown
  have hl : lv_has ls 2 [(0, .ref h), (1, .int v)] := hl
  have hk47 := hts (.constant RX3 47 (-100000001)) (by decide +kernel)
  have hn : n ≤ 64 := F.2.1
  refine lv_aload_n hx hb dX3_root_0 rfl (lv_at hl 0 rfl) ?_
  refine lv_iload_n hx hb dX3_root_1 rfl (lv_at hl 1 rfl) ?_
  refine rd_call ⟨hx, hb, hml, hown, hts⟩ (c_X3_isVertex l D cI cZ h st sl sv pt fsl fsv fpt many n G va mk F v) (cwV 1 hts gX3_root_X3_isVertex rfl rfl rfl (by decide +kernel) ⟨Nat.le_of_ble_eq_true rfl, Nat.le_of_ble_eq_true rfl⟩) hP hK rfl rfl rfl hl rfl (Nat.le_of_ble_eq_true rfl) dX3_root_2 ⟨Nat.zero_le _, Nat.zero_le _⟩ ?_
  refine lv_if_eq (tgt := 16) hx hb dX3_root_5 (by decide) (fun c_5 => ?_) (fun c_5 => ?_)
  · skip
    have c_5 := bI_0 c_5
    refine lv_ldc (own := RX3) hx hb hown hk47 dX3_root_16 ?_
    exact rd_i hx hb hr hlocks (by rw [ga_f c_5]) dX3_root_18
  · skip
    have c_5 := bI_1 c_5
    obtain ⟨j, hj, rfl⟩ := hasB_of hn c_5
    refine lv_aload_n hx hb dX3_root_8 rfl (lv_at hl 0 rfl) ?_
    refine lv_iload_n hx hb dX3_root_9 rfl (lv_at hl 1 rfl) ?_
    refine rd_call ⟨hx, hb, hml, hown, hts⟩ (c_X3_rootOf l D cI cZ h st sl sv pt fsl fsv fpt many n G va mk F j hj) (cwV 1 hts gX3_root_X3_rootOf rfl rfl rfl (by decide +kernel) ⟨Nat.le_of_ble_eq_true rfl, Nat.le_of_ble_eq_true rfl⟩) hP hK rfl rfl rfl hl rfl (Nat.le_of_ble_eq_true rfl) dX3_root_10 ⟨Nat.zero_le _, Nat.zero_le _⟩ ?_
    refine lv_goto (tgt := 18) hx hb dX3_root_13 (by decide) ?_
    exact rd_i hx hb hr hlocks (by rw [ga_t hj hn]) dX3_root_18
set_option maxHeartbeats 4000000 in
set_option maxRecDepth 100000 in
theorem c_X3_depth (l : Launch) (D : va_G) (cI cZ : ClassId) (h : Nat) (st : Nat) (sl : Nat) (sv : Nat) (pt : Nat) (fsl : Nat → Int32) (fsv : Nat → Int32) (fpt : Nat → Int32) (many : Int32) (n : Nat) (G : Nat → Nat) (va : Nat → Int32) (mk : Nat → Bool) (F : fo_ok n G) (v : Int32) : RdM l yX3_depth wsX3_depth 3 65 D cI cZ (wM h st sl sv pt cI cZ (mst n G va mk) fsl fsv fpt many) [.ref h, .int v] (ga n v (fun j => nI (fo_d G j)) (-100000001)) := by
  refine RdM.of (cc := cX3_depth) (maxL := 2) (ret := (some .int)) (by decide) rfl (Nat.le_of_ble_eq_true rfl) ?_
  intro p e s m below meth c hx hb hr hml hown hts hlocks hP hK ls hl
  have hown : s.vm.findClass RX3 = some m.cls := hown
  have hl : lv_has ls 2 [(0, .ref h), (1, .int v)] := hl
  have hk47 := hts (.constant RX3 47 (-100000001)) (by decide +kernel)
  have hn : n ≤ 64 := F.2.1
  refine lv_aload_n hx hb dX3_depth_0 rfl (lv_at hl 0 rfl) ?_
  refine lv_iload_n hx hb dX3_depth_1 rfl (lv_at hl 1 rfl) ?_
  refine rd_call ⟨hx, hb, hml, hown, hts⟩ (c_X3_isVertex l D cI cZ h st sl sv pt fsl fsv fpt many n G va mk F v) (cwV 1 hts gX3_depth_X3_isVertex rfl rfl rfl (by decide +kernel) ⟨Nat.le_of_ble_eq_true rfl, Nat.le_of_ble_eq_true rfl⟩) hP hK rfl rfl rfl hl rfl (Nat.le_of_ble_eq_true rfl) dX3_depth_2 ⟨Nat.zero_le _, Nat.zero_le _⟩ ?_
  refine lv_if_eq (tgt := 16) hx hb dX3_depth_5 (by decide) (fun c_5 => ?_) (fun c_5 => ?_)
  · skip
    have c_5 := bI_0 c_5
    refine lv_ldc (own := RX3) hx hb hown hk47 dX3_depth_16 ?_
    exact rd_i hx hb hr hlocks (by rw [ga_f c_5]) dX3_depth_18
  · skip
    have c_5 := bI_1 c_5
    obtain ⟨j, hj, rfl⟩ := hasB_of hn c_5
    refine lv_aload_n hx hb dX3_depth_8 rfl (lv_at hl 0 rfl) ?_
    refine lv_iload_n hx hb dX3_depth_9 rfl (lv_at hl 1 rfl) ?_
    refine rd_call ⟨hx, hb, hml, hown, hts⟩ (c_X3_depthOf l D cI cZ h st sl sv pt fsl fsv fpt many n G va mk F j hj) (cwV 1 hts gX3_depth_X3_depthOf rfl rfl rfl (by decide +kernel) ⟨Nat.le_of_ble_eq_true rfl, Nat.le_of_ble_eq_true rfl⟩) hP hK rfl rfl rfl hl rfl (Nat.le_of_ble_eq_true rfl) dX3_depth_10 ⟨Nat.zero_le _, Nat.zero_le _⟩ ?_
    refine lv_goto (tgt := 18) hx hb dX3_depth_13 (by decide) ?_
    exact rd_i hx hb hr hlocks (by rw [ga_t hj hn]) dX3_depth_18
set_option maxHeartbeats 4000000 in
set_option maxRecDepth 100000 in
theorem c_X3_value (l : Launch) (D : va_G) (cI cZ : ClassId) (h : Nat) (st : Nat) (sl : Nat) (sv : Nat) (pt : Nat) (fsl : Nat → Int32) (fsv : Nat → Int32) (fpt : Nat → Int32) (many : Int32) (n : Nat) (G : Nat → Nat) (va : Nat → Int32) (mk : Nat → Bool) (F : fo_ok n G) (v : Int32) : RdM l yX3_value wsX3_value 2 43 D cI cZ (wM h st sl sv pt cI cZ (mst n G va mk) fsl fsv fpt many) [.ref h, .int v] (ga n v (fun j => va j) (-100000001)) := by
  refine RdM.of (cc := cX3_value) (maxL := 2) (ret := (some .int)) (by decide) rfl (Nat.le_of_ble_eq_true rfl) ?_
  intro p e s m below meth c hx hb hr hml hown hts hlocks hP hK ls hl
  have hown : s.vm.findClass RX3 = some m.cls := hown
  have hl : lv_has ls 2 [(0, .ref h), (1, .int v)] := hl
  have hk47 := hts (.constant RX3 47 (-100000001)) (by decide +kernel)
  have hn : n ≤ 64 := F.2.1
  refine lv_aload_n hx hb dX3_value_0 rfl (lv_at hl 0 rfl) ?_
  refine lv_iload_n hx hb dX3_value_1 rfl (lv_at hl 1 rfl) ?_
  refine rd_call ⟨hx, hb, hml, hown, hts⟩ (c_X3_isVertex l D cI cZ h st sl sv pt fsl fsv fpt many n G va mk F v) (cwV 1 hts gX3_value_X3_isVertex rfl rfl rfl (by decide +kernel) ⟨Nat.le_of_ble_eq_true rfl, Nat.le_of_ble_eq_true rfl⟩) hP hK rfl rfl rfl hl rfl (Nat.le_of_ble_eq_true rfl) dX3_value_2 ⟨Nat.zero_le _, Nat.zero_le _⟩ ?_
  refine lv_if_eq (tgt := 16) hx hb dX3_value_5 (by decide) (fun c_5 => ?_) (fun c_5 => ?_)
  · skip
    have c_5 := bI_0 c_5
    refine lv_ldc (own := RX3) hx hb hown hk47 dX3_value_16 ?_
    exact rd_i hx hb hr hlocks (by rw [ga_f c_5]) dX3_value_18
  · skip
    have c_5 := bI_1 c_5
    obtain ⟨j, hj, rfl⟩ := hasB_of hn c_5
    refine lv_aload_n hx hb dX3_value_8 rfl (lv_at hl 0 rfl) ?_
    refine lv_iload_n hx hb dX3_value_9 rfl (lv_at hl 1 rfl) ?_
    refine rd_call ⟨hx, hb, hml, hown, hts⟩ (c_X3_valueOf l D cI cZ h st sl sv pt fsl fsv fpt many n G va mk F j hj) (cwV 1 hts gX3_value_X3_valueOf rfl rfl rfl (by decide +kernel) ⟨Nat.le_of_ble_eq_true rfl, Nat.le_of_ble_eq_true rfl⟩) hP hK rfl rfl rfl hl rfl (Nat.le_of_ble_eq_true rfl) dX3_value_10 ⟨Nat.zero_le _, Nat.zero_le _⟩ ?_
    refine lv_goto (tgt := 18) hx hb dX3_value_13 (by decide) ?_
    exact rd_i hx hb hr hlocks (by rw [ga_t hj hn]) dX3_value_18
set_option maxHeartbeats 4000000 in
set_option maxRecDepth 100000 in
theorem c_X3_parent (l : Launch) (D : va_G) (cI cZ : ClassId) (h : Nat) (st : Nat) (sl : Nat) (sv : Nat) (pt : Nat) (fsl : Nat → Int32) (fsv : Nat → Int32) (fpt : Nat → Int32) (many : Int32) (n : Nat) (G : Nat → Nat) (va : Nat → Int32) (mk : Nat → Bool) (F : fo_ok n G) (v : Int32) : RdM l yX3_parent wsX3_parent 2 43 D cI cZ (wM h st sl sv pt cI cZ (mst n G va mk) fsl fsv fpt many) [.ref h, .int v] (ga n v (fun j => if G j = j then -100000007 else nI (G j)) (-100000001)) := by
  refine RdM.of (cc := cX3_parent) (maxL := 2) (ret := (some .int)) (by decide) rfl (Nat.le_of_ble_eq_true rfl) ?_
  intro p e s m below meth c hx hb hr hml hown hts hlocks hP hK ls hl
  have hown : s.vm.findClass RX3 = some m.cls := hown
  have hl : lv_has ls 2 [(0, .ref h), (1, .int v)] := hl
  have hk47 := hts (.constant RX3 47 (-100000001)) (by decide +kernel)
  have hk53 := hts (.constant RX3 53 (-100000007)) (by decide +kernel)
  have hn : n ≤ 64 := F.2.1
  refine lv_aload_n hx hb dX3_parent_0 rfl (lv_at hl 0 rfl) ?_
  refine lv_iload_n hx hb dX3_parent_1 rfl (lv_at hl 1 rfl) ?_
  refine rd_call ⟨hx, hb, hml, hown, hts⟩ (c_X3_isVertex l D cI cZ h st sl sv pt fsl fsv fpt many n G va mk F v) (cwV 1 hts gX3_parent_X3_isVertex rfl rfl rfl (by decide +kernel) ⟨Nat.le_of_ble_eq_true rfl, Nat.le_of_ble_eq_true rfl⟩) hP hK rfl rfl rfl hl rfl (Nat.le_of_ble_eq_true rfl) dX3_parent_2 ⟨Nat.zero_le _, Nat.zero_le _⟩ ?_
  refine lv_if_ne (tgt := 11) hx hb dX3_parent_5 (by decide) (fun c_5 => ?_) (fun c_5 => ?_)
  · skip
    have c_5 := bI_1 c_5
    obtain ⟨j, hj, rfl⟩ := hasB_of hn c_5
    refine lv_aload_n hx hb dX3_parent_11 rfl (lv_at hl 0 rfl) ?_
    refine lv_iload_n hx hb dX3_parent_12 rfl (lv_at hl 1 rfl) ?_
    refine rd_call ⟨hx, hb, hml, hown, hts⟩ (c_X3_isRoot l D cI cZ h st sl sv pt fsl fsv fpt many n G va mk F j hj) (cwV 1 hts gX3_parent_X3_isRoot rfl rfl rfl (by decide +kernel) ⟨Nat.le_of_ble_eq_true rfl, Nat.le_of_ble_eq_true rfl⟩) hP hK rfl rfl rfl hl rfl (Nat.le_of_ble_eq_true rfl) dX3_parent_13 ⟨Nat.zero_le _, Nat.zero_le _⟩ ?_
    refine lv_if_eq (tgt := 24) hx hb dX3_parent_16 (by decide) (fun c_16 => ?_) (fun c_16 => ?_)
    · skip
      have c_16 := bI_0 c_16
      have c_16 : ¬ G j = j := of_decide_eq_false c_16
      refine lv_aload_n hx hb dX3_parent_24 rfl (lv_at hl 0 rfl) ?_
      refine lv_iload_n hx hb dX3_parent_25 rfl (lv_at hl 1 rfl) ?_
      refine rd_call ⟨hx, hb, hml, hown, hts⟩ (c_X3_above l D cI cZ h st sl sv pt fsl fsv fpt many n G va mk F j hj) (cwV 1 hts gX3_parent_X3_above rfl rfl rfl (by decide +kernel) ⟨Nat.le_of_ble_eq_true rfl, Nat.le_of_ble_eq_true rfl⟩) hP hK rfl rfl rfl hl rfl (Nat.le_of_ble_eq_true rfl) dX3_parent_26 ⟨Nat.zero_le _, Nat.zero_le _⟩ ?_
      exact rd_i hx hb hr hlocks (by rw [ga_t hj hn, if_neg c_16]) dX3_parent_29
    · skip
      have c_16 := bI_1 c_16
      have c_16 : G j = j := of_decide_eq_true c_16
      refine lv_ldc (own := RX3) hx hb hown hk53 dX3_parent_19 ?_
      refine lv_goto (tgt := 29) hx hb dX3_parent_21 (by decide) ?_
      exact rd_i hx hb hr hlocks (by rw [ga_t hj hn, if_pos c_16]) dX3_parent_29
  · skip
    have c_5 := bI_0 c_5
    refine lv_ldc (own := RX3) hx hb hown hk47 dX3_parent_8 ?_
    exact rd_i hx hb hr hlocks (by rw [ga_f c_5]) dX3_parent_10
set_option maxHeartbeats 4000000 in
set_option maxRecDepth 100000 in
theorem c_X3_connected (l : Launch) (D : va_G) (cI cZ : ClassId) (h : Nat) (st : Nat) (sl : Nat) (sv : Nat) (pt : Nat) (fsl : Nat → Int32) (fsv : Nat → Int32) (fpt : Nat → Int32) (many : Int32) (n : Nat) (G : Nat → Nat) (va : Nat → Int32) (mk : Nat → Bool) (F : fo_ok n G) (u : Int32) (v : Int32) : RdM l yX3_connected wsX3_connected 3 64 D cI cZ (wM h st sl sv pt cI cZ (mst n G va mk) fsl fsv fpt many) [.ref h, .int u, .int v] (gb n u v (fun a b => if fo_r G a = fo_r G b then 1 else 0) (-100000001)) := by
  refine RdM.of (cc := cX3_connected) (maxL := 3) (ret := (some .int)) (by decide) rfl (Nat.le_of_ble_eq_true rfl) ?_
  intro p e s m below meth c hx hb hr hml hown hts hlocks hP hK ls hl
  have hown : s.vm.findClass RX3 = some m.cls := hown
  have hl : lv_has ls 3 [(0, .ref h), (1, .int u), (2, .int v)] := hl
  have hk47 := hts (.constant RX3 47 (-100000001)) (by decide +kernel)
  have hn : n ≤ 64 := F.2.1
  refine lv_aload_n hx hb dX3_connected_0 rfl (lv_at hl 0 rfl) ?_
  refine lv_iload_n hx hb dX3_connected_1 rfl (lv_at hl 1 rfl) ?_
  refine rd_call ⟨hx, hb, hml, hown, hts⟩ (c_X3_isVertex l D cI cZ h st sl sv pt fsl fsv fpt many n G va mk F u) (cwV 1 hts gX3_connected_X3_isVertex rfl rfl rfl (by decide +kernel) ⟨Nat.le_of_ble_eq_true rfl, Nat.le_of_ble_eq_true rfl⟩) hP hK rfl rfl rfl hl rfl (Nat.le_of_ble_eq_true rfl) dX3_connected_2 ⟨Nat.zero_le _, Nat.zero_le _⟩ ?_
  refine lv_if_eq (tgt := 16) hx hb dX3_connected_5 (by decide) (fun c_5 => ?_) (fun c_5 => ?_)
  · skip
    have c_5 := bI_0 c_5
    refine lv_ldc (own := RX3) hx hb hown hk47 dX3_connected_16 ?_
    exact rd_i hx hb hr hlocks (by rw [gb_fl c_5]) dX3_connected_18
  · skip
    have c_5 := bI_1 c_5
    obtain ⟨j, hj, rfl⟩ := hasB_of hn c_5
    refine lv_aload_n hx hb dX3_connected_8 rfl (lv_at hl 0 rfl) ?_
    refine lv_iload_n hx hb dX3_connected_9 rfl (lv_at hl 2 rfl) ?_
    refine rd_call ⟨hx, hb, hml, hown, hts⟩ (c_X3_isVertex l D cI cZ h st sl sv pt fsl fsv fpt many n G va mk F v) (cwV 1 hts gX3_connected_X3_isVertex rfl rfl rfl (by decide +kernel) ⟨Nat.le_of_ble_eq_true rfl, Nat.le_of_ble_eq_true rfl⟩) hP hK rfl rfl rfl hl rfl (Nat.le_of_ble_eq_true rfl) dX3_connected_10 ⟨Nat.zero_le _, Nat.zero_le _⟩ ?_
    refine lv_if_ne (tgt := 19) hx hb dX3_connected_13 (by decide) (fun c_13 => ?_) (fun c_13 => ?_)
    · skip
      have c_13 := bI_1 c_13
      obtain ⟨k, hk, rfl⟩ := hasB_of hn c_13
      refine lv_aload_n hx hb dX3_connected_19 rfl (lv_at hl 0 rfl) ?_
      refine lv_iload_n hx hb dX3_connected_20 rfl (lv_at hl 1 rfl) ?_
      refine rd_call ⟨hx, hb, hml, hown, hts⟩ (c_X3_rootOf l D cI cZ h st sl sv pt fsl fsv fpt many n G va mk F j hj) (cwV 1 hts gX3_connected_X3_rootOf rfl rfl rfl (by decide +kernel) ⟨Nat.le_of_ble_eq_true rfl, Nat.le_of_ble_eq_true rfl⟩) hP hK rfl rfl rfl hl rfl (Nat.le_of_ble_eq_true rfl) dX3_connected_21 ⟨Nat.zero_le _, Nat.zero_le _⟩ ?_
      refine lv_aload_n hx hb dX3_connected_24 rfl (lv_at hl 0 rfl) ?_
      refine lv_iload_n hx hb dX3_connected_25 rfl (lv_at hl 2 rfl) ?_
      refine rd_call ⟨hx, hb, hml, hown, hts⟩ (c_X3_rootOf l D cI cZ h st sl sv pt fsl fsv fpt many n G va mk F k hk) (cwV 1 hts gX3_connected_X3_rootOf rfl rfl rfl (by decide +kernel) ⟨Nat.le_of_ble_eq_true rfl, Nat.le_of_ble_eq_true rfl⟩) hP hK rfl rfl rfl hl rfl (Nat.le_of_ble_eq_true rfl) dX3_connected_26 ⟨Nat.zero_le _, Nat.zero_le _⟩ ?_
      have hlj := fo_r_lt F hj
      have hlk := fo_r_lt F hk
      refine lv_icmp_ne (tgt := 36) hx hb dX3_connected_29 (by decide) (fun c_29 => ?_) (fun c_29 => ?_)
      · skip
        have c_29 := cn_ne (a := (fo_r G j)) (b := (fo_r G k)) (by omega) (by omega) c_29
        refine lv_iconst (v := 0) hx hb dX3_connected_36 (by decide) ?_
        exact rd_i hx hb hr hlocks (by rw [gb_t hj hk hn, if_neg c_29]) dX3_connected_37
      · skip
        have c_29 := cn_eq (a := (fo_r G j)) (b := (fo_r G k)) (by omega) (by omega) c_29
        refine lv_iconst (v := 1) hx hb dX3_connected_32 (by decide) ?_
        refine lv_goto (tgt := 37) hx hb dX3_connected_33 (by decide) ?_
        exact rd_i hx hb hr hlocks (by rw [gb_t hj hk hn, if_pos c_29]) dX3_connected_37
    · skip
      have c_13 := bI_0 c_13
      refine lv_ldc (own := RX3) hx hb hown hk47 dX3_connected_16 ?_
      exact rd_i hx hb hr hlocks (by rw [gb_fr c_13]) dX3_connected_18
set_option maxHeartbeats 4000000 in
set_option maxRecDepth 100000 in
theorem c_X3_wrongPair (l : Launch) (D : va_G) (cI cZ : ClassId) (h : Nat) (st : Nat) (sl : Nat) (sv : Nat) (pt : Nat) (fsl : Nat → Int32) (fsv : Nat → Int32) (fpt : Nat → Int32) (many : Int32) (n : Nat) (G : Nat → Nat) (va : Nat → Int32) (mk : Nat → Bool) (F : fo_ok n G) (u : Int32) (v : Int32) : RdM l yX3_wrongPair wsX3_wrongPair 3 64 D cI cZ (wM h st sl sv pt cI cZ (mst n G va mk) fsl fsv fpt many) [.ref h, .int u, .int v] (pE n G u v) := by
  refine RdM.of (cc := cX3_wrongPair) (maxL := 3) (ret := (some .int)) (by decide) rfl (Nat.le_of_ble_eq_true rfl) ?_
  intro p e s m below meth c hx hb hr hml hown hts hlocks hP hK ls hl
  have hown : s.vm.findClass RX3 = some m.cls := hown
  have hl : lv_has ls 3 [(0, .ref h), (1, .int u), (2, .int v)] := hl
  have hk47 := hts (.constant RX3 47 (-100000001)) (by decide +kernel)
  have hk57 := hts (.constant RX3 57 (-100000004)) (by decide +kernel)
  have hn : n ≤ 64 := F.2.1
  refine lv_aload_n hx hb dX3_wrongPair_0 rfl (lv_at hl 0 rfl) ?_
  refine lv_iload_n hx hb dX3_wrongPair_1 rfl (lv_at hl 1 rfl) ?_
  refine rd_call ⟨hx, hb, hml, hown, hts⟩ (c_X3_isVertex l D cI cZ h st sl sv pt fsl fsv fpt many n G va mk F u) (cwV 1 hts gX3_wrongPair_X3_isVertex rfl rfl rfl (by decide +kernel) ⟨Nat.le_of_ble_eq_true rfl, Nat.le_of_ble_eq_true rfl⟩) hP hK rfl rfl rfl hl rfl (Nat.le_of_ble_eq_true rfl) dX3_wrongPair_2 ⟨Nat.zero_le _, Nat.zero_le _⟩ ?_
  refine lv_if_eq (tgt := 16) hx hb dX3_wrongPair_5 (by decide) (fun c_5 => ?_) (fun c_5 => ?_)
  · skip
    have c_5 := bI_0 c_5
    refine lv_ldc (own := RX3) hx hb hown hk47 dX3_wrongPair_16 ?_
    exact rd_i hx hb hr hlocks (by unfold pE; rw [gp_fl c_5]) dX3_wrongPair_18
  · skip
    have c_5 := bI_1 c_5
    obtain ⟨j, hj, rfl⟩ := hasB_of hn c_5
    refine lv_aload_n hx hb dX3_wrongPair_8 rfl (lv_at hl 0 rfl) ?_
    refine lv_iload_n hx hb dX3_wrongPair_9 rfl (lv_at hl 2 rfl) ?_
    refine rd_call ⟨hx, hb, hml, hown, hts⟩ (c_X3_isVertex l D cI cZ h st sl sv pt fsl fsv fpt many n G va mk F v) (cwV 1 hts gX3_wrongPair_X3_isVertex rfl rfl rfl (by decide +kernel) ⟨Nat.le_of_ble_eq_true rfl, Nat.le_of_ble_eq_true rfl⟩) hP hK rfl rfl rfl hl rfl (Nat.le_of_ble_eq_true rfl) dX3_wrongPair_10 ⟨Nat.zero_le _, Nat.zero_le _⟩ ?_
    refine lv_if_ne (tgt := 19) hx hb dX3_wrongPair_13 (by decide) (fun c_13 => ?_) (fun c_13 => ?_)
    · skip
      have c_13 := bI_1 c_13
      obtain ⟨k, hk, rfl⟩ := hasB_of hn c_13
      refine lv_aload_n hx hb dX3_wrongPair_19 rfl (lv_at hl 0 rfl) ?_
      refine lv_iload_n hx hb dX3_wrongPair_20 rfl (lv_at hl 1 rfl) ?_
      refine rd_call ⟨hx, hb, hml, hown, hts⟩ (c_X3_rootOf l D cI cZ h st sl sv pt fsl fsv fpt many n G va mk F j hj) (cwV 1 hts gX3_wrongPair_X3_rootOf rfl rfl rfl (by decide +kernel) ⟨Nat.le_of_ble_eq_true rfl, Nat.le_of_ble_eq_true rfl⟩) hP hK rfl rfl rfl hl rfl (Nat.le_of_ble_eq_true rfl) dX3_wrongPair_21 ⟨Nat.zero_le _, Nat.zero_le _⟩ ?_
      refine lv_aload_n hx hb dX3_wrongPair_24 rfl (lv_at hl 0 rfl) ?_
      refine lv_iload_n hx hb dX3_wrongPair_25 rfl (lv_at hl 2 rfl) ?_
      refine rd_call ⟨hx, hb, hml, hown, hts⟩ (c_X3_rootOf l D cI cZ h st sl sv pt fsl fsv fpt many n G va mk F k hk) (cwV 1 hts gX3_wrongPair_X3_rootOf rfl rfl rfl (by decide +kernel) ⟨Nat.le_of_ble_eq_true rfl, Nat.le_of_ble_eq_true rfl⟩) hP hK rfl rfl rfl hl rfl (Nat.le_of_ble_eq_true rfl) dX3_wrongPair_26 ⟨Nat.zero_le _, Nat.zero_le _⟩ ?_
      have hlj := fo_r_lt F hj
      have hlk := fo_r_lt F hk
      refine lv_icmp_ne (tgt := 36) hx hb dX3_wrongPair_29 (by decide) (fun c_29 => ?_) (fun c_29 => ?_)
      · skip
        have c_29 := cn_ne (a := (fo_r G j)) (b := (fo_r G k)) (by omega) (by omega) c_29
        refine lv_ldc (own := RX3) hx hb hown hk57 dX3_wrongPair_36 ?_
        exact rd_i hx hb hr hlocks (by unfold pE; rw [gp_n hj hk hn c_29]) dX3_wrongPair_38
      · skip
        have c_29 := cn_eq (a := (fo_r G j)) (b := (fo_r G k)) (by omega) (by omega) c_29
        refine lv_iconst (v := 0) hx hb dX3_wrongPair_32 (by decide) ?_
        refine lv_goto (tgt := 38) hx hb dX3_wrongPair_33 (by decide) ?_
        exact rd_i hx hb hr hlocks (by unfold pE; rw [gp_t hj hk hn c_29]) dX3_wrongPair_38
    · skip
      have c_13 := bI_0 c_13
      refine lv_ldc (own := RX3) hx hb hown hk47 dX3_wrongPair_16 ?_
      exact rd_i hx hb hr hlocks (by unfold pE; rw [gp_fr c_13]) dX3_wrongPair_18
set_option maxHeartbeats 4000000 in
set_option maxRecDepth 100000 in
theorem c_X3_meetingOf (l : Launch) (D : va_G) (cI cZ : ClassId) (h : Nat) (st : Nat) (sl : Nat) (sv : Nat) (pt : Nat) (fsl : Nat → Int32) (fsv : Nat → Int32) (fpt : Nat → Int32) (many : Int32) (n : Nat) (G : Nat → Nat) (va : Nat → Int32) (mk : Nat → Bool) (F : fo_ok n G) (u : Nat) (v : Nat) (hu : u < n) (hv : v < n) (hro : fo_r G u = fo_r G v) : RdM l yX3_meetingOf wsX3_meetingOf 3 65 D cI cZ (wM h st sl sv pt cI cZ (mst n G va mk) fsl fsv fpt many) [.ref h, .int (nI u), .int (nI v)] (nI (fo_m G u v)) := by
  refine RdM.of (cc := cX3_meetingOf) (maxL := 5) (ret := (some .int)) (by decide) rfl (Nat.le_of_ble_eq_true rfl) ?_
  intro p e s m below meth c hx hb hr hml hown hts hlocks hP hK ls hl
  have hown : s.vm.findClass RX3 = some m.cls := hown
  have hl : lv_has ls 5 [(0, .ref h), (1, .int (nI u)), (2, .int (nI v))] := hl
  have hn : n ≤ 64 := F.2.1
  refine lv_iload_n hx hb dX3_meetingOf_0 rfl (lv_at hl 1 rfl) ?_
  refine lv_istore_n (lv' := [(3, .int (nI u)), (0, .ref h), (1, .int (nI u)), (2, .int (nI v))]) hx hb dX3_meetingOf_1 rfl hl (by decide) rfl (fun ls hl => ?_)
  refine lv_iload_n hx hb dX3_meetingOf_2 rfl (lv_at hl 3 rfl) ?_
  refine lv_istore (lv' := [(4, .int (nI v)), (3, .int (nI u)), (0, .ref h), (1, .int (nI u)), (2, .int (nI v))]) hx hb dX3_meetingOf_3 hl (by decide) rfl (fun ls hl => ?_)
  have L5 : ∀ (k5_ : Nat) (a : Nat) (b : Nat), a < n → b < n → fo_r G a = fo_r G b → fo_m G a b = fo_m G u v → fo_d G a + fo_d G b < k5_ → ∀ ls, lv_has ls 5 [(0, .ref h), (3, .int (nI a)), (4, .int (nI b))] → Wr0 p l e wsX3_meetingOf 3 65 s m [.ref h, .int (nI u), .int (nI v)] below meth c (nI (fo_m G u v)) (F0 m 5 ls []) := by
    intro k5_
    induction k5_ with
    | zero => intro a b ha hb2 hab hm hk5_; exact absurd hk5_ (Nat.not_lt_zero _)
    | succ k5_ ih5 =>
      intro a b ha hb2 hab hm hk5_ ls hl
      have hda := fo_d_le F a
      have hdb := fo_d_le F b
      refine lv_iload_n hx hb dX3_meetingOf_5 rfl (lv_at hl 1 rfl) ?_
      refine lv_iload hx hb dX3_meetingOf_6 (lv_at hl 2 rfl) ?_
      refine lv_icmp_eq (tgt := 45) hx hb dX3_meetingOf_8 (by decide) (fun c_8 => ?_) (fun c_8 => ?_)
      · skip
        have c_8 := cn_eq (a := a) (b := b) (by omega) (by omega) c_8
        refine lv_iload_n hx hb dX3_meetingOf_45 rfl (lv_at hl 1 rfl) ?_
        exact rd_i hx hb hr hlocks (by rw [← hm, c_8, fo_m_same F]) dX3_meetingOf_46
      · skip
        have c_8 := cn_ne (a := a) (b := b) (by omega) (by omega) c_8
        refine lv_aload_n hx hb dX3_meetingOf_11 rfl (lv_at hl 0 rfl) ?_
        refine lv_iload_n hx hb dX3_meetingOf_12 rfl (lv_at hl 1 rfl) ?_
        refine rd_call ⟨hx, hb, hml, hown, hts⟩ (c_X3_depthOf l D cI cZ h st sl sv pt fsl fsv fpt many n G va mk F a ha) (cwV 1 hts gX3_meetingOf_X3_depthOf rfl rfl rfl (by decide +kernel) ⟨Nat.le_of_ble_eq_true rfl, Nat.le_of_ble_eq_true rfl⟩) hP hK rfl rfl rfl hl rfl (Nat.le_of_ble_eq_true rfl) dX3_meetingOf_13 ⟨Nat.zero_le _, Nat.zero_le _⟩ ?_
        refine lv_aload_n hx hb dX3_meetingOf_16 rfl (lv_at hl 0 rfl) ?_
        refine lv_iload hx hb dX3_meetingOf_17 (lv_at hl 2 rfl) ?_
        refine rd_call ⟨hx, hb, hml, hown, hts⟩ (c_X3_depthOf l D cI cZ h st sl sv pt fsl fsv fpt many n G va mk F b hb2) (cwV 1 hts gX3_meetingOf_X3_depthOf rfl rfl rfl (by decide +kernel) ⟨Nat.le_of_ble_eq_true rfl, Nat.le_of_ble_eq_true rfl⟩) hP hK rfl rfl rfl hl rfl (Nat.le_of_ble_eq_true rfl) dX3_meetingOf_19 ⟨Nat.zero_le _, Nat.zero_le _⟩ ?_
        refine lv_icmp_lt (tgt := 34) hx hb dX3_meetingOf_22 (by decide) (fun c_22 => ?_) (fun c_22 => ?_)
        · skip
          have c_22 := cn_lt (a := (fo_d G a)) (b := (fo_d G b)) (by omega) (by omega) c_22
          refine lv_aload_n hx hb dX3_meetingOf_34 rfl (lv_at hl 0 rfl) ?_
          refine lv_iload hx hb dX3_meetingOf_35 (lv_at hl 2 rfl) ?_
          refine rd_call ⟨hx, hb, hml, hown, hts⟩ (c_X3_above l D cI cZ h st sl sv pt fsl fsv fpt many n G va mk F b hb2) (cwV 1 hts gX3_meetingOf_X3_above rfl rfl rfl (by decide +kernel) ⟨Nat.le_of_ble_eq_true rfl, Nat.le_of_ble_eq_true rfl⟩) hP hK rfl rfl rfl hl rfl (Nat.le_of_ble_eq_true rfl) dX3_meetingOf_37 ⟨Nat.zero_le _, Nat.zero_le _⟩ ?_
          refine lv_istore (lv' := [(4, .int (nI (G b))), (0, .ref h), (3, .int (nI a))]) hx hb dX3_meetingOf_40 hl (by decide) rfl (fun ls hl => ?_)
          refine lv_goto (tgt := 5) hx hb dX3_meetingOf_42 (by decide) ?_
          have hsb := fo_d_s F (fo_m_nb F c_22)
          exact ih5 a (G b) ha (F.2.2.1 b hb2) (by rw [fo_r_p F]; exact hab) (by rw [← hm]; exact fo_m_r F hab c_22) (by omega) ls (lv_sub hl [1, 2, 0] rfl)
        · skip
          have c_22 := cn_nlt (a := (fo_d G a)) (b := (fo_d G b)) (by omega) (by omega) c_22
          refine lv_aload_n hx hb dX3_meetingOf_25 rfl (lv_at hl 0 rfl) ?_
          refine lv_iload_n hx hb dX3_meetingOf_26 rfl (lv_at hl 1 rfl) ?_
          refine rd_call ⟨hx, hb, hml, hown, hts⟩ (c_X3_above l D cI cZ h st sl sv pt fsl fsv fpt many n G va mk F a ha) (cwV 1 hts gX3_meetingOf_X3_above rfl rfl rfl (by decide +kernel) ⟨Nat.le_of_ble_eq_true rfl, Nat.le_of_ble_eq_true rfl⟩) hP hK rfl rfl rfl hl rfl (Nat.le_of_ble_eq_true rfl) dX3_meetingOf_27 ⟨Nat.zero_le _, Nat.zero_le _⟩ ?_
          refine lv_istore_n (lv' := [(3, .int (nI (G a))), (0, .ref h), (4, .int (nI b))]) hx hb dX3_meetingOf_30 rfl hl (by decide) rfl (fun ls hl => ?_)
          refine lv_goto (tgt := 5) hx hb dX3_meetingOf_31 (by decide) ?_
          have hsa := fo_d_s F (fo_m_na F hab c_8 c_22)
          exact ih5 (G a) b (F.2.2.1 a ha) hb2 (by rw [fo_r_p F]; exact hab) (by rw [← hm]; exact fo_m_l F hab c_8 c_22) (by omega) ls (lv_sub hl [1, 0, 2] rfl)
  exact L5 (fo_d G u + fo_d G v + 1) u v hu hv hro rfl (Nat.lt_succ_self _) ls (lv_sub hl [2, 1, 0] rfl)
set_option maxHeartbeats 4000000 in
set_option maxRecDepth 100000 in
theorem c_X3_distanceOf (l : Launch) (D : va_G) (cI cZ : ClassId) (h : Nat) (st : Nat) (sl : Nat) (sv : Nat) (pt : Nat) (fsl : Nat → Int32) (fsv : Nat → Int32) (fpt : Nat → Int32) (many : Int32) (n : Nat) (G : Nat → Nat) (va : Nat → Int32) (mk : Nat → Bool) (F : fo_ok n G) (u : Nat) (v : Nat) (hu : u < n) (hv : v < n) (hro : fo_r G u = fo_r G v) : RdM l yX3_distanceOf wsX3_distanceOf 4 89 D cI cZ (wM h st sl sv pt cI cZ (mst n G va mk) fsl fsv fpt many) [.ref h, .int (nI u), .int (nI v)] (nI (fo_dist G u v)) := by
  refine RdM.of (cc := cX3_distanceOf) (maxL := 3) (ret := (some .int)) (by decide) rfl (Nat.le_of_ble_eq_true rfl) ?_
  intro p e s m below meth c hx hb hr hml hown hts hlocks hP hK ls hl
  have hown : s.vm.findClass RX3 = some m.cls := hown
  have hl : lv_has ls 3 [(0, .ref h), (1, .int (nI u)), (2, .int (nI v))] := hl
  refine lv_aload_n hx hb dX3_distanceOf_0 rfl (lv_at hl 0 rfl) ?_
  refine lv_iload_n hx hb dX3_distanceOf_1 rfl (lv_at hl 1 rfl) ?_
  refine rd_call ⟨hx, hb, hml, hown, hts⟩ (c_X3_depthOf l D cI cZ h st sl sv pt fsl fsv fpt many n G va mk F u hu) (cwV 1 hts gX3_distanceOf_X3_depthOf rfl rfl rfl (by decide +kernel) ⟨Nat.le_of_ble_eq_true rfl, Nat.le_of_ble_eq_true rfl⟩) hP hK rfl rfl rfl hl rfl (Nat.le_of_ble_eq_true rfl) dX3_distanceOf_2 ⟨Nat.zero_le _, Nat.zero_le _⟩ ?_
  refine lv_aload_n hx hb dX3_distanceOf_5 rfl (lv_at hl 0 rfl) ?_
  refine lv_iload_n hx hb dX3_distanceOf_6 rfl (lv_at hl 2 rfl) ?_
  refine rd_call ⟨hx, hb, hml, hown, hts⟩ (c_X3_depthOf l D cI cZ h st sl sv pt fsl fsv fpt many n G va mk F v hv) (cwV 1 hts gX3_distanceOf_X3_depthOf rfl rfl rfl (by decide +kernel) ⟨Nat.le_of_ble_eq_true rfl, Nat.le_of_ble_eq_true rfl⟩) hP hK rfl rfl rfl hl rfl (Nat.le_of_ble_eq_true rfl) dX3_distanceOf_7 ⟨Nat.zero_le _, Nat.zero_le _⟩ ?_
  refine lv_iadd hx hb dX3_distanceOf_10 ?_
  refine lv_iconst (v := 2) hx hb dX3_distanceOf_11 (by decide) ?_
  refine lv_aload_n hx hb dX3_distanceOf_12 rfl (lv_at hl 0 rfl) ?_
  refine lv_aload_n hx hb dX3_distanceOf_13 rfl (lv_at hl 0 rfl) ?_
  refine lv_iload_n hx hb dX3_distanceOf_14 rfl (lv_at hl 1 rfl) ?_
  refine lv_iload_n hx hb dX3_distanceOf_15 rfl (lv_at hl 2 rfl) ?_
  refine rd_call ⟨hx, hb, hml, hown, hts⟩ (c_X3_meetingOf l D cI cZ h st sl sv pt fsl fsv fpt many n G va mk F u v hu hv hro) (cwV 2 hts gX3_distanceOf_X3_meetingOf rfl rfl rfl (by decide +kernel) ⟨Nat.le_of_ble_eq_true rfl, Nat.le_of_ble_eq_true rfl⟩) hP hK rfl rfl rfl hl rfl (Nat.le_of_ble_eq_true rfl) dX3_distanceOf_16 ⟨Nat.zero_le _, Nat.zero_le _⟩ ?_
  refine rd_call ⟨hx, hb, hml, hown, hts⟩ (c_X3_depthOf l D cI cZ h st sl sv pt fsl fsv fpt many n G va mk F (fo_m G u v) (fo_m_lt F hro hu)) (cwV 1 hts gX3_distanceOf_X3_depthOf rfl rfl rfl (by decide +kernel) ⟨Nat.le_of_ble_eq_true rfl, Nat.le_of_ble_eq_true rfl⟩) hP hK rfl rfl rfl hl rfl (Nat.le_of_ble_eq_true rfl) dX3_distanceOf_19 ⟨Nat.zero_le _, Nat.zero_le _⟩ ?_
  refine lv_imul hx hb dX3_distanceOf_22 ?_
  refine lv_isub hx hb dX3_distanceOf_23 ?_
  exact rd_i hx hb hr hlocks (fo_dist_v F hro) dX3_distanceOf_24
set_option maxHeartbeats 4000000 in
set_option maxRecDepth 100000 in
theorem c_X3_commonAncestor (l : Launch) (D : va_G) (cI cZ : ClassId) (h : Nat) (st : Nat) (sl : Nat) (sv : Nat) (pt : Nat) (fsl : Nat → Int32) (fsv : Nat → Int32) (fpt : Nat → Int32) (many : Int32) (n : Nat) (G : Nat → Nat) (va : Nat → Int32) (mk : Nat → Bool) (F : fo_ok n G) (u : Int32) (v : Int32) : RdM l yX3_commonAncestor wsX3_commonAncestor 4 89 D cI cZ (wM h st sl sv pt cI cZ (mst n G va mk) fsl fsv fpt many) [.ref h, .int u, .int v] (gp n G u v (fun a b => nI (fo_m G a b)) (-100000001) (-100000004)) := by
  refine RdM.of (cc := cX3_commonAncestor) (maxL := 4) (ret := (some .int)) (by decide) rfl (Nat.le_of_ble_eq_true rfl) ?_
  intro p e s m below meth c hx hb hr hml hown hts hlocks hP hK ls hl
  have hown : s.vm.findClass RX3 = some m.cls := hown
  have hl : lv_has ls 4 [(0, .ref h), (1, .int u), (2, .int v)] := hl
  have hn : n ≤ 64 := F.2.1
  refine lv_aload_n hx hb dX3_commonAncestor_0 rfl (lv_at hl 0 rfl) ?_
  refine lv_iload_n hx hb dX3_commonAncestor_1 rfl (lv_at hl 1 rfl) ?_
  refine lv_iload_n hx hb dX3_commonAncestor_2 rfl (lv_at hl 2 rfl) ?_
  refine rd_call ⟨hx, hb, hml, hown, hts⟩ (c_X3_wrongPair l D cI cZ h st sl sv pt fsl fsv fpt many n G va mk F u v) (cwV 2 hts gX3_commonAncestor_X3_wrongPair rfl rfl rfl (by decide +kernel) ⟨Nat.le_of_ble_eq_true rfl, Nat.le_of_ble_eq_true rfl⟩) hP hK rfl rfl rfl hl rfl (Nat.le_of_ble_eq_true rfl) dX3_commonAncestor_3 ⟨Nat.zero_le _, Nat.zero_le _⟩ ?_
  refine lv_istore_n (lv' := [(3, .int (pE n G u v)), (0, .ref h), (1, .int u), (2, .int v)]) hx hb dX3_commonAncestor_6 rfl hl (by decide) rfl (fun ls hl => ?_)
  refine lv_iload_n hx hb dX3_commonAncestor_7 rfl (lv_at hl 0 rfl) ?_
  refine lv_if_eq (tgt := 15) hx hb dX3_commonAncestor_8 (by decide) (fun c_8 => ?_) (fun c_8 => ?_)
  · skip
    obtain ⟨j, k, hj, hk, rfl, rfl, hro⟩ := pE_ok hn c_8
    refine lv_aload_n hx hb dX3_commonAncestor_15 rfl (lv_at hl 1 rfl) ?_
    refine lv_iload_n hx hb dX3_commonAncestor_16 rfl (lv_at hl 2 rfl) ?_
    refine lv_iload_n hx hb dX3_commonAncestor_17 rfl (lv_at hl 3 rfl) ?_
    refine rd_call ⟨hx, hb, hml, hown, hts⟩ (c_X3_meetingOf l D cI cZ h st sl sv pt fsl fsv fpt many n G va mk F j k hj hk hro) (cwV 2 hts gX3_commonAncestor_X3_meetingOf rfl rfl rfl (by decide +kernel) ⟨Nat.le_of_ble_eq_true rfl, Nat.le_of_ble_eq_true rfl⟩) hP hK rfl rfl rfl hl rfl (Nat.le_of_ble_eq_true rfl) dX3_commonAncestor_18 ⟨Nat.zero_le _, Nat.zero_le _⟩ ?_
    exact rd_i hx hb hr hlocks (by rw [gp_t hj hk hn hro]) dX3_commonAncestor_21
  · skip
    refine lv_iload_n hx hb dX3_commonAncestor_11 rfl (lv_at hl 0 rfl) ?_
    refine lv_goto (tgt := 21) hx hb dX3_commonAncestor_12 (by decide) ?_
    exact rd_i hx hb hr hlocks (pE_no hn c_8 _ _ _ _) dX3_commonAncestor_21
set_option maxHeartbeats 4000000 in
set_option maxRecDepth 100000 in
theorem c_X3_distance (l : Launch) (D : va_G) (cI cZ : ClassId) (h : Nat) (st : Nat) (sl : Nat) (sv : Nat) (pt : Nat) (fsl : Nat → Int32) (fsv : Nat → Int32) (fpt : Nat → Int32) (many : Int32) (n : Nat) (G : Nat → Nat) (va : Nat → Int32) (mk : Nat → Bool) (F : fo_ok n G) (u : Int32) (v : Int32) : RdM l yX3_distance wsX3_distance 5 111 D cI cZ (wM h st sl sv pt cI cZ (mst n G va mk) fsl fsv fpt many) [.ref h, .int u, .int v] (gp n G u v (fun a b => nI (fo_dist G a b)) (-100000001) (-100000004)) := by
  refine RdM.of (cc := cX3_distance) (maxL := 4) (ret := (some .int)) (by decide) rfl (Nat.le_of_ble_eq_true rfl) ?_
  intro p e s m below meth c hx hb hr hml hown hts hlocks hP hK ls hl
  have hown : s.vm.findClass RX3 = some m.cls := hown
  have hl : lv_has ls 4 [(0, .ref h), (1, .int u), (2, .int v)] := hl
  have hn : n ≤ 64 := F.2.1
  refine lv_aload_n hx hb dX3_distance_0 rfl (lv_at hl 0 rfl) ?_
  refine lv_iload_n hx hb dX3_distance_1 rfl (lv_at hl 1 rfl) ?_
  refine lv_iload_n hx hb dX3_distance_2 rfl (lv_at hl 2 rfl) ?_
  refine rd_call ⟨hx, hb, hml, hown, hts⟩ (c_X3_wrongPair l D cI cZ h st sl sv pt fsl fsv fpt many n G va mk F u v) (cwV 2 hts gX3_distance_X3_wrongPair rfl rfl rfl (by decide +kernel) ⟨Nat.le_of_ble_eq_true rfl, Nat.le_of_ble_eq_true rfl⟩) hP hK rfl rfl rfl hl rfl (Nat.le_of_ble_eq_true rfl) dX3_distance_3 ⟨Nat.zero_le _, Nat.zero_le _⟩ ?_
  refine lv_istore_n (lv' := [(3, .int (pE n G u v)), (0, .ref h), (1, .int u), (2, .int v)]) hx hb dX3_distance_6 rfl hl (by decide) rfl (fun ls hl => ?_)
  refine lv_iload_n hx hb dX3_distance_7 rfl (lv_at hl 0 rfl) ?_
  refine lv_if_eq (tgt := 15) hx hb dX3_distance_8 (by decide) (fun c_8 => ?_) (fun c_8 => ?_)
  · skip
    obtain ⟨j, k, hj, hk, rfl, rfl, hro⟩ := pE_ok hn c_8
    refine lv_aload_n hx hb dX3_distance_15 rfl (lv_at hl 1 rfl) ?_
    refine lv_iload_n hx hb dX3_distance_16 rfl (lv_at hl 2 rfl) ?_
    refine lv_iload_n hx hb dX3_distance_17 rfl (lv_at hl 3 rfl) ?_
    refine rd_call ⟨hx, hb, hml, hown, hts⟩ (c_X3_distanceOf l D cI cZ h st sl sv pt fsl fsv fpt many n G va mk F j k hj hk hro) (cwV 2 hts gX3_distance_X3_distanceOf rfl rfl rfl (by decide +kernel) ⟨Nat.le_of_ble_eq_true rfl, Nat.le_of_ble_eq_true rfl⟩) hP hK rfl rfl rfl hl rfl (Nat.le_of_ble_eq_true rfl) dX3_distance_18 ⟨Nat.zero_le _, Nat.zero_le _⟩ ?_
    exact rd_i hx hb hr hlocks (by rw [gp_t hj hk hn hro]) dX3_distance_21
  · skip
    refine lv_iload_n hx hb dX3_distance_11 rfl (lv_at hl 0 rfl) ?_
    refine lv_goto (tgt := 21) hx hb dX3_distance_12 (by decide) ?_
    exact rd_i hx hb hr hlocks (pE_no hn c_8 _ _ _ _) dX3_distance_21
set_option maxHeartbeats 4000000 in
set_option maxRecDepth 100000 in
theorem c_X3_isUnder (l : Launch) (D : va_G) (cI cZ : ClassId) (h : Nat) (st : Nat) (sl : Nat) (sv : Nat) (pt : Nat) (fsl : Nat → Int32) (fsv : Nat → Int32) (fpt : Nat → Int32) (many : Int32) (n : Nat) (G : Nat → Nat) (va : Nat → Int32) (mk : Nat → Bool) (F : fo_ok n G) (j : Nat) (t : Nat) (hj : j < n) (ht : t < n) : RdM l yX3_isUnder wsX3_isUnder 2 42 D cI cZ (wM h st sl sv pt cI cZ (mst n G va mk) fsl fsv fpt many) [.ref h, .int (nI j), .int (nI t)] (bI (fo_bel G j t)) := by
  refine RdM.of (cc := cX3_isUnder) (maxL := 4) (ret := (some .boolean)) (by decide) rfl (Nat.le_of_ble_eq_true rfl) ?_
  intro p e s m below meth c hx hb hr hml hown hts hlocks hP hK ls hl
  have hown : s.vm.findClass RX3 = some m.cls := hown
  have hl : lv_has ls 4 [(0, .ref h), (1, .int (nI j)), (2, .int (nI t))] := hl
  have hn : n ≤ 64 := F.2.1
  refine lv_iload_n hx hb dX3_isUnder_0 rfl (lv_at hl 1 rfl) ?_
  refine lv_istore_n (lv' := [(3, .int (nI j)), (0, .ref h), (1, .int (nI j)), (2, .int (nI t))]) hx hb dX3_isUnder_1 rfl hl (by decide) rfl (fun ls hl => ?_)
  have L2 : ∀ (k2_ : Nat) (i : Nat), i ≤ fo_d G j → fo_bel G (fo_up G i j) t = fo_bel G j t → fo_d G j - i < k2_ → ∀ ls, lv_has ls 4 [(0, .ref h), (2, .int (nI t)), (3, .int (nI (fo_up G i j)))] → Wr0 p l e wsX3_isUnder 2 42 s m [.ref h, .int (nI j), .int (nI t)] below meth c (bI (fo_bel G j t)) (F0 m 2 ls []) := by
    intro k2_
    induction k2_ with
    | zero => intro i hi hbe hk2_; exact absurd hk2_ (Nat.not_lt_zero _)
    | succ k2_ ih2 =>
      intro i hi hbe hk2_ ls hl
      have hlu := fo_lt F hj i
      refine lv_iload_n hx hb dX3_isUnder_2 rfl (lv_at hl 2 rfl) ?_
      refine lv_iload_n hx hb dX3_isUnder_3 rfl (lv_at hl 1 rfl) ?_
      refine lv_icmp_eq (tgt := 24) hx hb dX3_isUnder_4 (by decide) (fun c_4 => ?_) (fun c_4 => ?_)
      · skip
        have c_4 := cn_eq (a := (fo_up G i j)) (b := t) (by omega) (by omega) c_4
        refine lv_iload_n hx hb dX3_isUnder_24 rfl (lv_at hl 2 rfl) ?_
        refine lv_iload_n hx hb dX3_isUnder_25 rfl (lv_at hl 1 rfl) ?_
        refine lv_icmp_ne (tgt := 33) hx hb dX3_isUnder_26 (by decide) (fun c_26 => ?_) (fun c_26 => ?_)
        · skip
          have c_26 := cn_ne (a := (fo_up G i j)) (b := t) (by omega) (by omega) c_26
          exact absurd c_4 c_26
        · skip
          have c_26 := cn_eq (a := (fo_up G i j)) (b := t) (by omega) (by omega) c_26
          refine lv_iconst (v := 1) hx hb dX3_isUnder_29 (by decide) ?_
          refine lv_goto (tgt := 34) hx hb dX3_isUnder_30 (by decide) ?_
          exact rd_z hx hb hr hlocks (by rw [← hbe, c_4, fo_bel_self]; rfl) dX3_isUnder_34
      · skip
        have c_4 := cn_ne (a := (fo_up G i j)) (b := t) (by omega) (by omega) c_4
        refine lv_aload_n hx hb dX3_isUnder_7 rfl (lv_at hl 0 rfl) ?_
        refine lv_iload_n hx hb dX3_isUnder_8 rfl (lv_at hl 2 rfl) ?_
        refine rd_call ⟨hx, hb, hml, hown, hts⟩ (c_X3_isRoot l D cI cZ h st sl sv pt fsl fsv fpt many n G va mk F (fo_up G i j) hlu) (cwV 1 hts gX3_isUnder_X3_isRoot rfl rfl rfl (by decide +kernel) ⟨Nat.le_of_ble_eq_true rfl, Nat.le_of_ble_eq_true rfl⟩) hP hK rfl rfl rfl hl rfl (Nat.le_of_ble_eq_true rfl) dX3_isUnder_9 ⟨Nat.zero_le _, Nat.zero_le _⟩ ?_
        refine lv_if_ne (tgt := 24) hx hb dX3_isUnder_12 (by decide) (fun c_12 => ?_) (fun c_12 => ?_)
        · skip
          have c_12 := bI_1 c_12
          have c_12 := of_decide_eq_true c_12
          refine lv_iload_n hx hb dX3_isUnder_24 rfl (lv_at hl 2 rfl) ?_
          refine lv_iload_n hx hb dX3_isUnder_25 rfl (lv_at hl 1 rfl) ?_
          refine lv_icmp_ne (tgt := 33) hx hb dX3_isUnder_26 (by decide) (fun c_26 => ?_) (fun c_26 => ?_)
          · skip
            have c_26 := cn_ne (a := (fo_up G i j)) (b := t) (by omega) (by omega) c_26
            refine lv_iconst (v := 0) hx hb dX3_isUnder_33 (by decide) ?_
            exact rd_z hx hb hr hlocks (by rw [← hbe, fo_bel_0 F c_4 c_12]; rfl) dX3_isUnder_34
          · skip
            have c_26 := cn_eq (a := (fo_up G i j)) (b := t) (by omega) (by omega) c_26
            exact absurd c_26 c_4
        · skip
          have c_12 := bI_0 c_12
          have c_12 := of_decide_eq_false c_12
          refine lv_aload_n hx hb dX3_isUnder_15 rfl (lv_at hl 0 rfl) ?_
          refine lv_iload_n hx hb dX3_isUnder_16 rfl (lv_at hl 2 rfl) ?_
          refine rd_call ⟨hx, hb, hml, hown, hts⟩ (c_X3_above l D cI cZ h st sl sv pt fsl fsv fpt many n G va mk F (fo_up G i j) hlu) (cwV 1 hts gX3_isUnder_X3_above rfl rfl rfl (by decide +kernel) ⟨Nat.le_of_ble_eq_true rfl, Nat.le_of_ble_eq_true rfl⟩) hP hK rfl rfl rfl hl rfl (Nat.le_of_ble_eq_true rfl) dX3_isUnder_17 ⟨Nat.zero_le _, Nat.zero_le _⟩ ?_
          rw [← fo_up_s G i j]
          refine lv_istore_n (lv' := [(3, .int (nI (fo_up G (i + 1) j))), (0, .ref h), (2, .int (nI t))]) hx hb dX3_isUnder_20 rfl hl (by decide) rfl (fun ls hl => ?_)
          refine lv_goto (tgt := 2) hx hb dX3_isUnder_21 (by decide) ?_
          have hgt := fo_d_gt F hi c_12
          exact ih2 (i + 1) (fo_d_gt F hi c_12) (by rw [← hbe, fo_bel_step F c_4 c_12, fo_up_s]) (by omega) ls (lv_sub hl [1, 2, 0] rfl)
  exact L2 (fo_d G j - 0 + 1) 0 (Nat.zero_le _) rfl (Nat.lt_succ_self _) ls (lv_sub hl [1, 3, 0] rfl)
set_option maxHeartbeats 4000000 in
set_option maxRecDepth 100000 in
theorem c_X3_subtreeSize (l : Launch) (D : va_G) (cI cZ : ClassId) (h : Nat) (st : Nat) (sl : Nat) (sv : Nat) (pt : Nat) (fsl : Nat → Int32) (fsv : Nat → Int32) (fpt : Nat → Int32) (many : Int32) (n : Nat) (G : Nat → Nat) (va : Nat → Int32) (mk : Nat → Bool) (F : fo_ok n G) (v : Int32) : RdM l yX3_subtreeSize wsX3_subtreeSize 3 65 D cI cZ (wM h st sl sv pt cI cZ (mst n G va mk) fsl fsv fpt many) [.ref h, .int v] (ga n v (fun j => nI (fo_cnt (fun w => fo_bel G w j) n)) (-100000001)) := by
  refine RdM.of (cc := cX3_subtreeSize) (maxL := 4) (ret := (some .int)) (by decide) rfl (Nat.le_of_ble_eq_true rfl) ?_
  intro p e s m below meth c hx hb hr hml hown hts hlocks hP hK ls hl
  have hown : s.vm.findClass RX3 = some m.cls := hown
  have hl : lv_has ls 4 [(0, .ref h), (1, .int v)] := hl
  have hk47 := hts (.constant RX3 47 (-100000001)) (by decide +kernel)
  have hn : n ≤ 64 := F.2.1
  refine lv_aload_n hx hb dX3_subtreeSize_0 rfl (lv_at hl 0 rfl) ?_
  refine lv_iload_n hx hb dX3_subtreeSize_1 rfl (lv_at hl 1 rfl) ?_
  refine rd_call ⟨hx, hb, hml, hown, hts⟩ (c_X3_isVertex l D cI cZ h st sl sv pt fsl fsv fpt many n G va mk F v) (cwV 1 hts gX3_subtreeSize_X3_isVertex rfl rfl rfl (by decide +kernel) ⟨Nat.le_of_ble_eq_true rfl, Nat.le_of_ble_eq_true rfl⟩) hP hK rfl rfl rfl hl rfl (Nat.le_of_ble_eq_true rfl) dX3_subtreeSize_2 ⟨Nat.zero_le _, Nat.zero_le _⟩ ?_
  refine lv_if_ne (tgt := 11) hx hb dX3_subtreeSize_5 (by decide) (fun c_5 => ?_) (fun c_5 => ?_)
  · skip
    have c_5 := bI_1 c_5
    obtain ⟨j, hj, rfl⟩ := hasB_of hn c_5
    refine lv_iconst (v := nI 0) hx hb dX3_subtreeSize_11 (by decide) ?_
    refine lv_istore_n (lv' := [(2, .int (nI 0)), (0, .ref h), (1, .int (nI j))]) hx hb dX3_subtreeSize_12 rfl hl (by decide) rfl (fun ls hl => ?_)
    refine lv_iconst (v := nI 0) hx hb dX3_subtreeSize_13 (by decide) ?_
    refine lv_istore_n (lv' := [(3, .int (nI 0)), (2, .int (nI 0)), (0, .ref h), (1, .int (nI j))]) hx hb dX3_subtreeSize_14 rfl hl (by decide) rfl (fun ls hl => ?_)
    have L15 : ∀ (k15_ : Nat) (i : Nat), i ≤ n → n - i < k15_ → ∀ ls, lv_has ls 4 [(0, .ref h), (1, .int (nI j)), (2, .int (nI (fo_cnt (fun w => fo_bel G w j) i))), (3, .int (nI i))] → Wr0 p l e wsX3_subtreeSize 3 65 s m [.ref h, .int (nI j)] below meth c (ga n (nI j) (fun j => nI (fo_cnt (fun w => fo_bel G w j) n)) (-100000001)) (F0 m 15 ls []) := by
      intro k15_
      induction k15_ with
      | zero => intro i hi hk15_; exact absurd hk15_ (Nat.not_lt_zero _)
      | succ k15_ ih15 =>
        intro i hi hk15_ ls hl
        refine lv_iload_n hx hb dX3_subtreeSize_15 rfl (lv_at hl 3 rfl) ?_
        refine lv_aload_n hx hb dX3_subtreeSize_16 rfl (lv_at hl 0 rfl) ?_
        refine rd_call ⟨hx, hb, hml, hown, hts⟩ (c_X3_many l D cI cZ h st sl sv pt fsl fsv fpt many n G va mk F) (cwV 0 hts gX3_subtreeSize_X3_many rfl rfl rfl (by decide +kernel) ⟨Nat.le_of_ble_eq_true rfl, Nat.le_of_ble_eq_true rfl⟩) hP hK rfl rfl rfl hl rfl (Nat.le_of_ble_eq_true rfl) dX3_subtreeSize_17 ⟨Nat.zero_le _, Nat.zero_le _⟩ ?_
        refine lv_icmp_ge (tgt := 46) hx hb dX3_subtreeSize_20 (by decide) (fun c_20 => ?_) (fun c_20 => ?_)
        · skip
          have c_20 := cn_le (a := n) (b := i) (by omega) (by omega) c_20
          refine lv_iload_n hx hb dX3_subtreeSize_46 rfl (lv_at hl 2 rfl) ?_
          exact rd_i hx hb hr hlocks (by rw [ga_t hj hn, show i = n by omega]) dX3_subtreeSize_47
        · skip
          have c_20 := cn_nle (a := n) (b := i) (by omega) (by omega) c_20
          refine lv_iload_n hx hb dX3_subtreeSize_23 rfl (lv_at hl 2 rfl) ?_
          refine lv_aload_n hx hb dX3_subtreeSize_24 rfl (lv_at hl 0 rfl) ?_
          refine lv_iload_n hx hb dX3_subtreeSize_25 rfl (lv_at hl 3 rfl) ?_
          refine lv_iload_n hx hb dX3_subtreeSize_26 rfl (lv_at hl 1 rfl) ?_
          refine rd_call ⟨hx, hb, hml, hown, hts⟩ (c_X3_isUnder l D cI cZ h st sl sv pt fsl fsv fpt many n G va mk F i j c_20 hj) (cwV 2 hts gX3_subtreeSize_X3_isUnder rfl rfl rfl (by decide +kernel) ⟨Nat.le_of_ble_eq_true rfl, Nat.le_of_ble_eq_true rfl⟩) hP hK rfl rfl rfl hl rfl (Nat.le_of_ble_eq_true rfl) dX3_subtreeSize_27 ⟨Nat.zero_le _, Nat.zero_le _⟩ ?_
          refine lv_if_eq (tgt := 37) hx hb dX3_subtreeSize_30 (by decide) (fun c_30 => ?_) (fun c_30 => ?_)
          · skip
            have c_30 := bI_0 c_30
            refine lv_iconst (v := 0) hx hb dX3_subtreeSize_37 (by decide) ?_
            refine lv_iadd hx hb dX3_subtreeSize_38 ?_
            rw [show ((nI (fo_cnt (fun w => fo_bel G w j) i)) + 0 : Int32) = nI ((fo_cnt (fun w => fo_bel G w j) i) + 0) from nI_add (fo_cnt (fun w => fo_bel G w j) i) 0]
            refine lv_istore_n (lv' := [(2, .int (nI ((fo_cnt (fun w => fo_bel G w j) i) + 0))), (0, .ref h), (1, .int (nI j)), (3, .int (nI i))]) hx hb dX3_subtreeSize_39 rfl hl (by decide) rfl (fun ls hl => ?_)
            refine lv_iinc (v := nI (i + 1)) (lv' := [(3, .int (nI (i + 1))), (2, .int (nI ((fo_cnt (fun w => fo_bel G w j) i) + 0))), (0, .ref h), (1, .int (nI j))]) hx hb dX3_subtreeSize_40 hl (k := 3) rfl (nI_1 i) (by decide) rfl (fun ls hl => ?_)
            refine lv_goto (tgt := 15) hx hb dX3_subtreeSize_43 (by decide) ?_
            exact ih15 (i + 1) (by omega) (by omega) ls (by rw [fo_cnt_f (f := (fun w => fo_bel G w j)) (k := i) c_30]; exact lv_sub hl [2, 3, 1, 0] rfl)
          · skip
            have c_30 := bI_1 c_30
            refine lv_iconst (v := 1) hx hb dX3_subtreeSize_33 (by decide) ?_
            refine lv_goto (tgt := 38) hx hb dX3_subtreeSize_34 (by decide) ?_
            refine lv_iadd hx hb dX3_subtreeSize_38 ?_
            rw [show ((nI (fo_cnt (fun w => fo_bel G w j) i)) + 1 : Int32) = nI ((fo_cnt (fun w => fo_bel G w j) i) + 1) from nI_add (fo_cnt (fun w => fo_bel G w j) i) 1]
            refine lv_istore_n (lv' := [(2, .int (nI ((fo_cnt (fun w => fo_bel G w j) i) + 1))), (0, .ref h), (1, .int (nI j)), (3, .int (nI i))]) hx hb dX3_subtreeSize_39 rfl hl (by decide) rfl (fun ls hl => ?_)
            refine lv_iinc (v := nI (i + 1)) (lv' := [(3, .int (nI (i + 1))), (2, .int (nI ((fo_cnt (fun w => fo_bel G w j) i) + 1))), (0, .ref h), (1, .int (nI j))]) hx hb dX3_subtreeSize_40 hl (k := 3) rfl (nI_1 i) (by decide) rfl (fun ls hl => ?_)
            refine lv_goto (tgt := 15) hx hb dX3_subtreeSize_43 (by decide) ?_
            exact ih15 (i + 1) (by omega) (by omega) ls (by rw [fo_cnt_t (f := (fun w => fo_bel G w j)) (k := i) c_30]; exact lv_sub hl [2, 3, 1, 0] rfl)
    exact L15 (n - 0 + 1) 0 (Nat.zero_le _) (Nat.lt_succ_self _) ls (lv_sub hl [2, 3, 1, 0] rfl)
  · skip
    have c_5 := bI_0 c_5
    refine lv_ldc (own := RX3) hx hb hown hk47 dX3_subtreeSize_8 ?_
    exact rd_i hx hb hr hlocks (by rw [ga_f c_5]) dX3_subtreeSize_10
set_option maxHeartbeats 4000000 in
set_option maxRecDepth 100000 in
theorem c_X3_subtreeSum (l : Launch) (D : va_G) (cI cZ : ClassId) (h : Nat) (st : Nat) (sl : Nat) (sv : Nat) (pt : Nat) (fsl : Nat → Int32) (fsv : Nat → Int32) (fpt : Nat → Int32) (many : Int32) (n : Nat) (G : Nat → Nat) (va : Nat → Int32) (mk : Nat → Bool) (F : fo_ok n G) (v : Int32) : RdM l yX3_subtreeSum wsX3_subtreeSum 3 65 D cI cZ (wM h st sl sv pt cI cZ (mst n G va mk) fsl fsv fpt many) [.ref h, .int v] (ga n v (fun j => fo_sum (fun w => fo_bel G w j) va n) (-100000001)) := by
  refine RdM.of (cc := cX3_subtreeSum) (maxL := 4) (ret := (some .int)) (by decide) rfl (Nat.le_of_ble_eq_true rfl) ?_
  intro p e s m below meth c hx hb hr hml hown hts hlocks hP hK ls hl
  have hown : s.vm.findClass RX3 = some m.cls := hown
  have hl : lv_has ls 4 [(0, .ref h), (1, .int v)] := hl
  have hk47 := hts (.constant RX3 47 (-100000001)) (by decide +kernel)
  have hn : n ≤ 64 := F.2.1
  refine lv_aload_n hx hb dX3_subtreeSum_0 rfl (lv_at hl 0 rfl) ?_
  refine lv_iload_n hx hb dX3_subtreeSum_1 rfl (lv_at hl 1 rfl) ?_
  refine rd_call ⟨hx, hb, hml, hown, hts⟩ (c_X3_isVertex l D cI cZ h st sl sv pt fsl fsv fpt many n G va mk F v) (cwV 1 hts gX3_subtreeSum_X3_isVertex rfl rfl rfl (by decide +kernel) ⟨Nat.le_of_ble_eq_true rfl, Nat.le_of_ble_eq_true rfl⟩) hP hK rfl rfl rfl hl rfl (Nat.le_of_ble_eq_true rfl) dX3_subtreeSum_2 ⟨Nat.zero_le _, Nat.zero_le _⟩ ?_
  refine lv_if_ne (tgt := 11) hx hb dX3_subtreeSum_5 (by decide) (fun c_5 => ?_) (fun c_5 => ?_)
  · skip
    have c_5 := bI_1 c_5
    obtain ⟨j, hj, rfl⟩ := hasB_of hn c_5
    refine lv_iconst (v := 0) hx hb dX3_subtreeSum_11 (by decide) ?_
    refine lv_istore_n (lv' := [(2, .int 0), (0, .ref h), (1, .int (nI j))]) hx hb dX3_subtreeSum_12 rfl hl (by decide) rfl (fun ls hl => ?_)
    refine lv_iconst (v := nI 0) hx hb dX3_subtreeSum_13 (by decide) ?_
    refine lv_istore_n (lv' := [(3, .int (nI 0)), (2, .int 0), (0, .ref h), (1, .int (nI j))]) hx hb dX3_subtreeSum_14 rfl hl (by decide) rfl (fun ls hl => ?_)
    have L15 : ∀ (k15_ : Nat) (i : Nat), i ≤ n → n - i < k15_ → ∀ ls, lv_has ls 4 [(0, .ref h), (1, .int (nI j)), (2, .int (fo_sum (fun w => fo_bel G w j) va i)), (3, .int (nI i))] → Wr0 p l e wsX3_subtreeSum 3 65 s m [.ref h, .int (nI j)] below meth c (ga n (nI j) (fun j => fo_sum (fun w => fo_bel G w j) va n) (-100000001)) (F0 m 15 ls []) := by
      intro k15_
      induction k15_ with
      | zero => intro i hi hk15_; exact absurd hk15_ (Nat.not_lt_zero _)
      | succ k15_ ih15 =>
        intro i hi hk15_ ls hl
        refine lv_iload_n hx hb dX3_subtreeSum_15 rfl (lv_at hl 3 rfl) ?_
        refine lv_aload_n hx hb dX3_subtreeSum_16 rfl (lv_at hl 0 rfl) ?_
        refine rd_call ⟨hx, hb, hml, hown, hts⟩ (c_X3_many l D cI cZ h st sl sv pt fsl fsv fpt many n G va mk F) (cwV 0 hts gX3_subtreeSum_X3_many rfl rfl rfl (by decide +kernel) ⟨Nat.le_of_ble_eq_true rfl, Nat.le_of_ble_eq_true rfl⟩) hP hK rfl rfl rfl hl rfl (Nat.le_of_ble_eq_true rfl) dX3_subtreeSum_17 ⟨Nat.zero_le _, Nat.zero_le _⟩ ?_
        refine lv_icmp_ge (tgt := 50) hx hb dX3_subtreeSum_20 (by decide) (fun c_20 => ?_) (fun c_20 => ?_)
        · skip
          have c_20 := cn_le (a := n) (b := i) (by omega) (by omega) c_20
          refine lv_iload_n hx hb dX3_subtreeSum_50 rfl (lv_at hl 2 rfl) ?_
          exact rd_i hx hb hr hlocks (by rw [ga_t hj hn, show i = n by omega]) dX3_subtreeSum_51
        · skip
          have c_20 := cn_nle (a := n) (b := i) (by omega) (by omega) c_20
          refine lv_iload_n hx hb dX3_subtreeSum_23 rfl (lv_at hl 2 rfl) ?_
          refine lv_aload_n hx hb dX3_subtreeSum_24 rfl (lv_at hl 0 rfl) ?_
          refine lv_iload_n hx hb dX3_subtreeSum_25 rfl (lv_at hl 3 rfl) ?_
          refine lv_iload_n hx hb dX3_subtreeSum_26 rfl (lv_at hl 1 rfl) ?_
          refine rd_call ⟨hx, hb, hml, hown, hts⟩ (c_X3_isUnder l D cI cZ h st sl sv pt fsl fsv fpt many n G va mk F i j c_20 hj) (cwV 2 hts gX3_subtreeSum_X3_isUnder rfl rfl rfl (by decide +kernel) ⟨Nat.le_of_ble_eq_true rfl, Nat.le_of_ble_eq_true rfl⟩) hP hK rfl rfl rfl hl rfl (Nat.le_of_ble_eq_true rfl) dX3_subtreeSum_27 ⟨Nat.zero_le _, Nat.zero_le _⟩ ?_
          refine lv_if_eq (tgt := 41) hx hb dX3_subtreeSum_30 (by decide) (fun c_30 => ?_) (fun c_30 => ?_)
          · skip
            have c_30 := bI_0 c_30
            refine lv_iconst (v := 0) hx hb dX3_subtreeSum_41 (by decide) ?_
            refine lv_iadd hx hb dX3_subtreeSum_42 ?_
            rw [Int32.add_zero]
            refine lv_istore_n (lv' := [(2, .int (fo_sum (fun w => fo_bel G w j) va i)), (0, .ref h), (1, .int (nI j)), (3, .int (nI i))]) hx hb dX3_subtreeSum_43 rfl hl (by decide) rfl (fun ls hl => ?_)
            refine lv_iinc (v := nI (i + 1)) (lv' := [(3, .int (nI (i + 1))), (2, .int (fo_sum (fun w => fo_bel G w j) va i)), (0, .ref h), (1, .int (nI j))]) hx hb dX3_subtreeSum_44 hl (k := 3) rfl (nI_1 i) (by decide) rfl (fun ls hl => ?_)
            refine lv_goto (tgt := 15) hx hb dX3_subtreeSum_47 (by decide) ?_
            exact ih15 (i + 1) (by omega) (by omega) ls (by rw [fo_sum_f (f := (fun w => fo_bel G w j)) c_30]; exact lv_sub hl [2, 3, 1, 0] rfl)
          · skip
            have c_30 := bI_1 c_30
            refine lv_aload_n hx hb dX3_subtreeSum_33 rfl (lv_at hl 0 rfl) ?_
            refine lv_iload_n hx hb dX3_subtreeSum_34 rfl (lv_at hl 3 rfl) ?_
            refine rd_call ⟨hx, hb, hml, hown, hts⟩ (c_X3_valueOf l D cI cZ h st sl sv pt fsl fsv fpt many n G va mk F i c_20) (cwV 1 hts gX3_subtreeSum_X3_valueOf rfl rfl rfl (by decide +kernel) ⟨Nat.le_of_ble_eq_true rfl, Nat.le_of_ble_eq_true rfl⟩) hP hK rfl rfl rfl hl rfl (Nat.le_of_ble_eq_true rfl) dX3_subtreeSum_35 ⟨Nat.zero_le _, Nat.zero_le _⟩ ?_
            refine lv_goto (tgt := 42) hx hb dX3_subtreeSum_38 (by decide) ?_
            refine lv_iadd hx hb dX3_subtreeSum_42 ?_
            refine lv_istore_n (lv' := [(2, .int ((fo_sum (fun w => fo_bel G w j) va i) + (va i))), (0, .ref h), (1, .int (nI j)), (3, .int (nI i))]) hx hb dX3_subtreeSum_43 rfl hl (by decide) rfl (fun ls hl => ?_)
            refine lv_iinc (v := nI (i + 1)) (lv' := [(3, .int (nI (i + 1))), (2, .int ((fo_sum (fun w => fo_bel G w j) va i) + (va i))), (0, .ref h), (1, .int (nI j))]) hx hb dX3_subtreeSum_44 hl (k := 3) rfl (nI_1 i) (by decide) rfl (fun ls hl => ?_)
            refine lv_goto (tgt := 15) hx hb dX3_subtreeSum_47 (by decide) ?_
            exact ih15 (i + 1) (by omega) (by omega) ls (by rw [fo_sum_t (f := (fun w => fo_bel G w j)) c_30]; exact lv_sub hl [2, 3, 1, 0] rfl)
    exact L15 (n - 0 + 1) 0 (Nat.zero_le _) (Nat.lt_succ_self _) ls (lv_sub hl [2, 3, 1, 0] rfl)
  · skip
    have c_5 := bI_0 c_5
    refine lv_ldc (own := RX3) hx hb hown hk47 dX3_subtreeSum_8 ?_
    exact rd_i hx hb hr hlocks (by rw [ga_f c_5]) dX3_subtreeSum_10
set_option maxHeartbeats 4000000 in
set_option maxRecDepth 100000 in
theorem c_X3_diameter (l : Launch) (D : va_G) (cI cZ : ClassId) (h : Nat) (st : Nat) (sl : Nat) (sv : Nat) (pt : Nat) (fsl : Nat → Int32) (fsv : Nat → Int32) (fpt : Nat → Int32) (many : Int32) (n : Nat) (G : Nat → Nat) (va : Nat → Int32) (mk : Nat → Bool) (F : fo_ok n G) (v : Int32) : RdM l yX3_diameter wsX3_diameter 5 111 D cI cZ (wM h st sl sv pt cI cZ (mst n G va mk) fsl fsv fpt many) [.ref h, .int v] (ga n v (fun j => nI (fo_dist G (fo_fs G j n).1 (fo_fs G (fo_fs G j n).1 n).1)) (-100000001)) := by
  refine RdM.of (cc := cX3_diameter) (maxL := 7) (ret := (some .int)) (by decide) rfl (Nat.le_of_ble_eq_true rfl) ?_
  intro p e s m below meth c hx hb hr hml hown hts hlocks hP hK ls hl
  have hown : s.vm.findClass RX3 = some m.cls := hown
  have hl : lv_has ls 7 [(0, .ref h), (1, .int v)] := hl
  have hk47 := hts (.constant RX3 47 (-100000001)) (by decide +kernel)
  have hn : n ≤ 64 := F.2.1
  refine lv_aload_n hx hb dX3_diameter_0 rfl (lv_at hl 0 rfl) ?_
  refine lv_iload_n hx hb dX3_diameter_1 rfl (lv_at hl 1 rfl) ?_
  refine rd_call ⟨hx, hb, hml, hown, hts⟩ (c_X3_isVertex l D cI cZ h st sl sv pt fsl fsv fpt many n G va mk F v) (cwV 1 hts gX3_diameter_X3_isVertex rfl rfl rfl (by decide +kernel) ⟨Nat.le_of_ble_eq_true rfl, Nat.le_of_ble_eq_true rfl⟩) hP hK rfl rfl rfl hl rfl (Nat.le_of_ble_eq_true rfl) dX3_diameter_2 ⟨Nat.zero_le _, Nat.zero_le _⟩ ?_
  refine lv_if_ne (tgt := 11) hx hb dX3_diameter_5 (by decide) (fun c_5 => ?_) (fun c_5 => ?_)
  · skip
    have c_5 := bI_1 c_5
    obtain ⟨j, hj, rfl⟩ := hasB_of hn c_5
    refine lv_aload_n hx hb dX3_diameter_11 rfl (lv_at hl 0 rfl) ?_
    refine lv_iload_n hx hb dX3_diameter_12 rfl (lv_at hl 1 rfl) ?_
    refine rd_call ⟨hx, hb, hml, hown, hts⟩ (c_X3_rootOf l D cI cZ h st sl sv pt fsl fsv fpt many n G va mk F j hj) (cwV 1 hts gX3_diameter_X3_rootOf rfl rfl rfl (by decide +kernel) ⟨Nat.le_of_ble_eq_true rfl, Nat.le_of_ble_eq_true rfl⟩) hP hK rfl rfl rfl hl rfl (Nat.le_of_ble_eq_true rfl) dX3_diameter_13 ⟨Nat.zero_le _, Nat.zero_le _⟩ ?_
    refine lv_istore_n (lv' := [(2, .int (nI (fo_r G j))), (0, .ref h), (1, .int (nI j))]) hx hb dX3_diameter_16 rfl hl (by decide) rfl (fun ls hl => ?_)
    refine lv_iconst (v := nI 0) hx hb dX3_diameter_17 (by decide) ?_
    refine lv_istore_n (lv' := [(3, .int (nI 0)), (2, .int (nI (fo_r G j))), (0, .ref h), (1, .int (nI j))]) hx hb dX3_diameter_18 rfl hl (by decide) rfl (fun ls hl => ?_)
    refine lv_iconst (v := nI 0) hx hb dX3_diameter_19 (by decide) ?_
    refine lv_istore (lv' := [(4, .int (nI 0)), (3, .int (nI 0)), (2, .int (nI (fo_r G j))), (0, .ref h), (1, .int (nI j))]) hx hb dX3_diameter_20 hl (by decide) rfl (fun ls hl => ?_)
    have L22 : ∀ (k22_ : Nat) (i : Nat), i ≤ n → n - i < k22_ → ∀ ls, lv_has ls 7 [(0, .ref h), (2, .int (nI (fo_r G j))), (3, .int (nI (dOut G (fo_r G j) i))), (4, .int (nI i))] → Wr0 p l e wsX3_diameter 5 111 s m [.ref h, .int (nI j)] below meth c (ga n (nI j) (fun j => nI (fo_dist G (fo_fs G j n).1 (fo_fs G (fo_fs G j n).1 n).1)) (-100000001)) (F0 m 22 ls []) := by
      intro k22_
      induction k22_ with
      | zero => intro i hi hk22_; exact absurd hk22_ (Nat.not_lt_zero _)
      | succ k22_ ih22 =>
        intro i hi hk22_ ls hl
        have hdo := dOut_le F (fo_r G j) i
        refine lv_iload hx hb dX3_diameter_22 (lv_at hl 3 rfl) ?_
        refine lv_aload_n hx hb dX3_diameter_24 rfl (lv_at hl 0 rfl) ?_
        refine rd_call ⟨hx, hb, hml, hown, hts⟩ (c_X3_many l D cI cZ h st sl sv pt fsl fsv fpt many n G va mk F) (cwV 0 hts gX3_diameter_X3_many rfl rfl rfl (by decide +kernel) ⟨Nat.le_of_ble_eq_true rfl, Nat.le_of_ble_eq_true rfl⟩) hP hK rfl rfl rfl hl rfl (Nat.le_of_ble_eq_true rfl) dX3_diameter_25 ⟨Nat.zero_le _, Nat.zero_le _⟩ ?_
        refine lv_icmp_ge (tgt := 100) hx hb dX3_diameter_28 (by decide) (fun c_28 => ?_) (fun c_28 => ?_)
        · skip
          have c_28 := cn_le (a := n) (b := i) (by omega) (by omega) c_28
          refine lv_iload_n hx hb dX3_diameter_100 rfl (lv_at hl 2 rfl) ?_
          exact rd_i hx hb hr hlocks (by rw [ga_t hj hn, ← diam_eq F hj, show i = n by omega]) dX3_diameter_101
        · skip
          have c_28 := cn_nle (a := n) (b := i) (by omega) (by omega) c_28
          refine lv_iconst (v := nI 0) hx hb dX3_diameter_31 (by decide) ?_
          refine lv_istore (lv' := [(5, .int (nI 0)), (0, .ref h), (2, .int (nI (fo_r G j))), (3, .int (nI (dOut G (fo_r G j) i))), (4, .int (nI i))]) hx hb dX3_diameter_32 hl (by decide) rfl (fun ls hl => ?_)
          have L34 : ∀ (k34_ : Nat) (w : Nat), w ≤ i → w = 0 ∨ fo_r G i = fo_r G j → i - w < k34_ → ∀ ls, lv_has ls 7 [(0, .ref h), (2, .int (nI (fo_r G j))), (3, .int (nI (dIn G (fo_r G j) i w (dOut G (fo_r G j) i)))), (4, .int (nI i)), (5, .int (nI w))] → Wr0 p l e wsX3_diameter 5 111 s m [.ref h, .int (nI j)] below meth c (ga n (nI j) (fun j => nI (fo_dist G (fo_fs G j n).1 (fo_fs G (fo_fs G j n).1 n).1)) (-100000001)) (F0 m 34 ls []) := by
            intro k34_
            induction k34_ with
            | zero => intro w hw hw0 hk34_; exact absurd hk34_ (Nat.not_lt_zero _)
            | succ k34_ ih34 =>
              intro w hw hw0 hk34_ ls hl
              have hdi := dIn_le F (fo_r G j) i hdo w
              have hds := fo_dist_le F i w
              refine lv_iload hx hb dX3_diameter_34 (lv_at hl 4 rfl) ?_
              refine lv_iload hx hb dX3_diameter_36 (lv_at hl 3 rfl) ?_
              refine lv_icmp_ge (tgt := 94) hx hb dX3_diameter_38 (by decide) (fun c_38 => ?_) (fun c_38 => ?_)
              · skip
                have c_38 := cn_le (a := i) (b := w) (by omega) (by omega) c_38
                refine lv_iinc (v := nI (i + 1)) (lv' := [(4, .int (nI (i + 1))), (0, .ref h), (2, .int (nI (fo_r G j))), (3, .int (nI (dIn G (fo_r G j) i w (dOut G (fo_r G j) i)))), (5, .int (nI w))]) hx hb dX3_diameter_94 hl (k := 3) rfl (nI_1 i) (by decide) rfl (fun ls hl => ?_)
                refine lv_goto (tgt := 22) hx hb dX3_diameter_97 (by decide) ?_
                exact ih22 (i + 1) (by omega) (by omega) ls (by rw [dOut_in (show w = i by omega) hw0]; exact lv_sub hl [1, 2, 3, 0] rfl)
              · skip
                have c_38 := cn_nle (a := i) (b := w) (by omega) (by omega) c_38
                have hwn : w < n := by omega
                refine lv_aload_n hx hb dX3_diameter_41 rfl (lv_at hl 0 rfl) ?_
                refine lv_iload hx hb dX3_diameter_42 (lv_at hl 3 rfl) ?_
                refine rd_call ⟨hx, hb, hml, hown, hts⟩ (c_X3_rootOf l D cI cZ h st sl sv pt fsl fsv fpt many n G va mk F i c_28) (cwV 1 hts gX3_diameter_X3_rootOf rfl rfl rfl (by decide +kernel) ⟨Nat.le_of_ble_eq_true rfl, Nat.le_of_ble_eq_true rfl⟩) hP hK rfl rfl rfl hl rfl (Nat.le_of_ble_eq_true rfl) dX3_diameter_44 ⟨Nat.zero_le _, Nat.zero_le _⟩ ?_
                refine lv_iload_n hx hb dX3_diameter_47 rfl (lv_at hl 1 rfl) ?_
                have hli := fo_r_lt F c_28
                have hlj := fo_r_lt F hj
                refine lv_icmp_ne (tgt := 94) hx hb dX3_diameter_48 (by decide) (fun c_48 => ?_) (fun c_48 => ?_)
                · skip
                  have c_48 := cn_ne (a := (fo_r G i)) (b := (fo_r G j)) (by omega) (by omega) c_48
                  refine lv_iinc (v := nI (i + 1)) (lv' := [(4, .int (nI (i + 1))), (0, .ref h), (2, .int (nI (fo_r G j))), (3, .int (nI (dIn G (fo_r G j) i w (dOut G (fo_r G j) i)))), (5, .int (nI w))]) hx hb dX3_diameter_94 hl (k := 3) rfl (nI_1 i) (by decide) rfl (fun ls hl => ?_)
                  refine lv_goto (tgt := 22) hx hb dX3_diameter_97 (by decide) ?_
                  exact ih22 (i + 1) (by omega) (by omega) ls (by rw [dOut_n c_48]; have hw00 : w = 0 := hw0.resolve_right c_48; rw [hw00] at hl; exact lv_sub hl [1, 2, 3, 0] rfl)
                · skip
                  have c_48 := cn_eq (a := (fo_r G i)) (b := (fo_r G j)) (by omega) (by omega) c_48
                  refine lv_aload_n hx hb dX3_diameter_51 rfl (lv_at hl 0 rfl) ?_
                  refine lv_iload hx hb dX3_diameter_52 (lv_at hl 4 rfl) ?_
                  refine rd_call ⟨hx, hb, hml, hown, hts⟩ (c_X3_rootOf l D cI cZ h st sl sv pt fsl fsv fpt many n G va mk F w hwn) (cwV 1 hts gX3_diameter_X3_rootOf rfl rfl rfl (by decide +kernel) ⟨Nat.le_of_ble_eq_true rfl, Nat.le_of_ble_eq_true rfl⟩) hP hK rfl rfl rfl hl rfl (Nat.le_of_ble_eq_true rfl) dX3_diameter_54 ⟨Nat.zero_le _, Nat.zero_le _⟩ ?_
                  refine lv_iload_n hx hb dX3_diameter_57 rfl (lv_at hl 1 rfl) ?_
                  have hlw := fo_r_lt F hwn
                  refine lv_icmp_ne (tgt := 72) hx hb dX3_diameter_58 (by decide) (fun c_58 => ?_) (fun c_58 => ?_)
                  · skip
                    have c_58 := cn_ne (a := (fo_r G w)) (b := (fo_r G j)) (by omega) (by omega) c_58
                    refine lv_iconst (v := nI 0) hx hb dX3_diameter_72 (by decide) ?_
                    refine lv_istore (lv' := [(6, .int (nI 0)), (0, .ref h), (2, .int (nI (fo_r G j))), (3, .int (nI (dIn G (fo_r G j) i w (dOut G (fo_r G j) i)))), (4, .int (nI i)), (5, .int (nI w))]) hx hb dX3_diameter_73 hl (by decide) rfl (fun ls hl => ?_)
                    refine lv_iload hx hb dX3_diameter_75 (lv_at hl 0 rfl) ?_
                    refine lv_iload_n hx hb dX3_diameter_77 rfl (lv_at hl 3 rfl) ?_
                    refine lv_icmp_le (tgt := 86) hx hb dX3_diameter_78 (by decide) (fun c_78 => ?_) (fun c_78 => ?_)
                    · skip
                      have c_78 := cn_le (a := 0) (b := (dIn G (fo_r G j) i w (dOut G (fo_r G j) i))) (by omega) (by omega) c_78
                      refine lv_iload_n hx hb dX3_diameter_86 rfl (lv_at hl 3 rfl) ?_
                      refine lv_istore_n (lv' := [(3, .int (nI (dIn G (fo_r G j) i w (dOut G (fo_r G j) i)))), (6, .int (nI 0)), (0, .ref h), (2, .int (nI (fo_r G j))), (4, .int (nI i)), (5, .int (nI w))]) hx hb dX3_diameter_87 rfl hl (by decide) rfl (fun ls hl => ?_)
                      refine lv_iinc (v := nI (w + 1)) (lv' := [(5, .int (nI (w + 1))), (3, .int (nI (dIn G (fo_r G j) i w (dOut G (fo_r G j) i)))), (6, .int (nI 0)), (0, .ref h), (2, .int (nI (fo_r G j))), (4, .int (nI i))]) hx hb dX3_diameter_88 hl (k := 5) rfl (nI_1 w) (by decide) rfl (fun ls hl => ?_)
                      refine lv_goto (tgt := 34) hx hb dX3_diameter_91 (by decide) ?_
                      exact ih34 (w + 1) (by omega) (Or.inr c_48) (by omega) ls (by rw [dIn_n (fun q => c_58 q.1)]; exact lv_sub hl [3, 4, 1, 5, 0] rfl)
                    · skip
                      have c_78 := cn_nle (a := 0) (b := (dIn G (fo_r G j) i w (dOut G (fo_r G j) i))) (by omega) (by omega) c_78
                      exact absurd c_78 (Nat.not_lt_zero _)
                  · skip
                    have c_58 := cn_eq (a := (fo_r G w)) (b := (fo_r G j)) (by omega) (by omega) c_58
                    refine lv_aload_n hx hb dX3_diameter_61 rfl (lv_at hl 0 rfl) ?_
                    refine lv_iload hx hb dX3_diameter_62 (lv_at hl 3 rfl) ?_
                    refine lv_iload hx hb dX3_diameter_64 (lv_at hl 4 rfl) ?_
                    refine rd_call ⟨hx, hb, hml, hown, hts⟩ (c_X3_distanceOf l D cI cZ h st sl sv pt fsl fsv fpt many n G va mk F i w c_28 hwn (c_48.trans c_58.symm)) (cwV 2 hts gX3_diameter_X3_distanceOf rfl rfl rfl (by decide +kernel) ⟨Nat.le_of_ble_eq_true rfl, Nat.le_of_ble_eq_true rfl⟩) hP hK rfl rfl rfl hl rfl (Nat.le_of_ble_eq_true rfl) dX3_diameter_66 ⟨Nat.zero_le _, Nat.zero_le _⟩ ?_
                    refine lv_goto (tgt := 73) hx hb dX3_diameter_69 (by decide) ?_
                    refine lv_istore (lv' := [(6, .int (nI (fo_dist G i w))), (0, .ref h), (2, .int (nI (fo_r G j))), (3, .int (nI (dIn G (fo_r G j) i w (dOut G (fo_r G j) i)))), (4, .int (nI i)), (5, .int (nI w))]) hx hb dX3_diameter_73 hl (by decide) rfl (fun ls hl => ?_)
                    refine lv_iload hx hb dX3_diameter_75 (lv_at hl 0 rfl) ?_
                    refine lv_iload_n hx hb dX3_diameter_77 rfl (lv_at hl 3 rfl) ?_
                    refine lv_icmp_le (tgt := 86) hx hb dX3_diameter_78 (by decide) (fun c_78 => ?_) (fun c_78 => ?_)
                    · skip
                      have c_78 := cn_le (a := (fo_dist G i w)) (b := (dIn G (fo_r G j) i w (dOut G (fo_r G j) i))) (by omega) (by omega) c_78
                      refine lv_iload_n hx hb dX3_diameter_86 rfl (lv_at hl 3 rfl) ?_
                      refine lv_istore_n (lv' := [(3, .int (nI (dIn G (fo_r G j) i w (dOut G (fo_r G j) i)))), (6, .int (nI (fo_dist G i w))), (0, .ref h), (2, .int (nI (fo_r G j))), (4, .int (nI i)), (5, .int (nI w))]) hx hb dX3_diameter_87 rfl hl (by decide) rfl (fun ls hl => ?_)
                      refine lv_iinc (v := nI (w + 1)) (lv' := [(5, .int (nI (w + 1))), (3, .int (nI (dIn G (fo_r G j) i w (dOut G (fo_r G j) i)))), (6, .int (nI (fo_dist G i w))), (0, .ref h), (2, .int (nI (fo_r G j))), (4, .int (nI i))]) hx hb dX3_diameter_88 hl (k := 5) rfl (nI_1 w) (by decide) rfl (fun ls hl => ?_)
                      refine lv_goto (tgt := 34) hx hb dX3_diameter_91 (by decide) ?_
                      exact ih34 (w + 1) (by omega) (Or.inr c_48) (by omega) ls (by rw [dIn_n (fun q => by have := q.2; omega)]; exact lv_sub hl [3, 4, 1, 5, 0] rfl)
                    · skip
                      have c_78 := cn_nle (a := (fo_dist G i w)) (b := (dIn G (fo_r G j) i w (dOut G (fo_r G j) i))) (by omega) (by omega) c_78
                      refine lv_iload hx hb dX3_diameter_81 (lv_at hl 0 rfl) ?_
                      refine lv_goto (tgt := 87) hx hb dX3_diameter_83 (by decide) ?_
                      refine lv_istore_n (lv' := [(3, .int (nI (fo_dist G i w))), (6, .int (nI (fo_dist G i w))), (0, .ref h), (2, .int (nI (fo_r G j))), (4, .int (nI i)), (5, .int (nI w))]) hx hb dX3_diameter_87 rfl hl (by decide) rfl (fun ls hl => ?_)
                      refine lv_iinc (v := nI (w + 1)) (lv' := [(5, .int (nI (w + 1))), (3, .int (nI (fo_dist G i w))), (6, .int (nI (fo_dist G i w))), (0, .ref h), (2, .int (nI (fo_r G j))), (4, .int (nI i))]) hx hb dX3_diameter_88 hl (k := 5) rfl (nI_1 w) (by decide) rfl (fun ls hl => ?_)
                      refine lv_goto (tgt := 34) hx hb dX3_diameter_91 (by decide) ?_
                      exact ih34 (w + 1) (by omega) (Or.inr c_48) (by omega) ls (by rw [dIn_y c_58 (by omega)]; exact lv_sub hl [3, 4, 1, 5, 0] rfl)
          exact L34 (i - 0 + 1) 0 (Nat.zero_le _) (Or.inl rfl) (Nat.lt_succ_self _) ls (lv_sub hl [1, 2, 3, 4, 0] rfl)
    exact L22 (n - 0 + 1) 0 (Nat.zero_le _) (Nat.lt_succ_self _) ls (lv_sub hl [3, 2, 1, 0] rfl)
  · skip
    have c_5 := bI_0 c_5
    refine lv_ldc (own := RX3) hx hb hown hk47 dX3_diameter_8 ?_
    exact rd_i hx hb hr hlocks (by rw [ga_f c_5]) dX3_diameter_10
set_option maxHeartbeats 4000000 in
set_option maxRecDepth 100000 in
theorem c_X3_nearestMarked (l : Launch) (D : va_G) (cI cZ : ClassId) (h : Nat) (st : Nat) (sl : Nat) (sv : Nat) (pt : Nat) (fsl : Nat → Int32) (fsv : Nat → Int32) (fpt : Nat → Int32) (many : Int32) (n : Nat) (G : Nat → Nat) (va : Nat → Int32) (mk : Nat → Bool) (F : fo_ok n G) (v : Int32) : RdM l yX3_nearestMarked wsX3_nearestMarked 5 111 D cI cZ (wM h st sl sv pt cI cZ (mst n G va mk) fsl fsv fpt many) [.ref h, .int v] (ga n v (fun j => oI (-100000007) (fo_ns G mk j n).1) (-100000001)) := by
  refine RdM.of (cc := cX3_nearestMarked) (maxL := 6) (ret := (some .int)) (by decide) rfl (Nat.le_of_ble_eq_true rfl) ?_
  intro p e s m below meth c hx hb hr hml hown hts hlocks hP hK ls hl
  have hown : s.vm.findClass RX3 = some m.cls := hown
  have hl : lv_has ls 6 [(0, .ref h), (1, .int v)] := hl
  have hk47 := hts (.constant RX3 47 (-100000001)) (by decide +kernel)
  have hk53 := hts (.constant RX3 53 (-100000007)) (by decide +kernel)
  have hf7 := hts (.fieldLink RX3 7 "DynamicForestModel" "state" "[I") (by decide +kernel)
  have hin3 : ∀ w ∈ u_ws RX3 TX3 5, w ∈ wsX3_nearestMarked := by decide +kernel
  have hn : n ≤ 64 := F.2.1
  refine lv_aload_n hx hb dX3_nearestMarked_0 rfl (lv_at hl 0 rfl) ?_
  refine lv_iload_n hx hb dX3_nearestMarked_1 rfl (lv_at hl 1 rfl) ?_
  refine rd_call ⟨hx, hb, hml, hown, hts⟩ (c_X3_isVertex l D cI cZ h st sl sv pt fsl fsv fpt many n G va mk F v) (cwV 1 hts gX3_nearestMarked_X3_isVertex rfl rfl rfl (by decide +kernel) ⟨Nat.le_of_ble_eq_true rfl, Nat.le_of_ble_eq_true rfl⟩) hP hK rfl rfl rfl hl rfl (Nat.le_of_ble_eq_true rfl) dX3_nearestMarked_2 ⟨Nat.zero_le _, Nat.zero_le _⟩ ?_
  refine lv_if_ne (tgt := 11) hx hb dX3_nearestMarked_5 (by decide) (fun c_5 => ?_) (fun c_5 => ?_)
  · skip
    have c_5 := bI_1 c_5
    obtain ⟨j, hj, rfl⟩ := hasB_of hn c_5
    refine lv_aload_n hx hb dX3_nearestMarked_11 rfl (lv_at hl 0 rfl) ?_
    refine lv_iload_n hx hb dX3_nearestMarked_12 rfl (lv_at hl 1 rfl) ?_
    refine rd_call ⟨hx, hb, hml, hown, hts⟩ (c_X3_rootOf l D cI cZ h st sl sv pt fsl fsv fpt many n G va mk F j hj) (cwV 1 hts gX3_nearestMarked_X3_rootOf rfl rfl rfl (by decide +kernel) ⟨Nat.le_of_ble_eq_true rfl, Nat.le_of_ble_eq_true rfl⟩) hP hK rfl rfl rfl hl rfl (Nat.le_of_ble_eq_true rfl) dX3_nearestMarked_13 ⟨Nat.zero_le _, Nat.zero_le _⟩ ?_
    refine lv_istore_n (lv' := [(2, .int (nI (fo_r G j))), (0, .ref h), (1, .int (nI j))]) hx hb dX3_nearestMarked_16 rfl hl (by decide) rfl (fun ls hl => ?_)
    refine lv_ldc (own := RX3) hx hb hown hk53 dX3_nearestMarked_17 ?_
    refine lv_istore_n (lv' := [(3, .int (-100000007)), (2, .int (nI (fo_r G j))), (0, .ref h), (1, .int (nI j))]) hx hb dX3_nearestMarked_19 rfl hl (by decide) rfl (fun ls hl => ?_)
    refine lv_bipush (v := 64) hx hb dX3_nearestMarked_20 (by decide) ?_
    refine lv_istore (lv' := [(4, .int 64), (3, .int (-100000007)), (2, .int (nI (fo_r G j))), (0, .ref h), (1, .int (nI j))]) hx hb dX3_nearestMarked_22 hl (by decide) rfl (fun ls hl => ?_)
    refine lv_iconst (v := nI 0) hx hb dX3_nearestMarked_24 (by decide) ?_
    refine lv_istore (lv' := [(5, .int (nI 0)), (4, .int 64), (3, .int (-100000007)), (2, .int (nI (fo_r G j))), (0, .ref h), (1, .int (nI j))]) hx hb dX3_nearestMarked_25 hl (by decide) rfl (fun ls hl => ?_)
    have L27 : ∀ (k27_ : Nat) (i : Nat), i ≤ n → n - i < k27_ → ∀ ls, lv_has ls 6 [(0, .ref h), (1, .int (nI j)), (2, .int (nI (fo_r G j))), (3, .int (oI (-100000007) (fo_ns G mk j i).1)), (4, .int (nI (fo_ns G mk j i).2)), (5, .int (nI i))] → Wr0 p l e wsX3_nearestMarked 5 111 s m [.ref h, .int (nI j)] below meth c (ga n (nI j) (fun j => oI (-100000007) (fo_ns G mk j n).1) (-100000001)) (F0 m 27 ls []) := by
      intro k27_
      induction k27_ with
      | zero => intro i hi hk27_; exact absurd hk27_ (Nat.not_lt_zero _)
      | succ k27_ ih27 =>
        intro i hi hk27_ ls hl
        have hms := (fo_ns_le G mk j i).1
        have hds := fo_dist_le F j i
        refine lv_iload hx hb dX3_nearestMarked_27 (lv_at hl 5 rfl) ?_
        refine lv_aload_n hx hb dX3_nearestMarked_29 rfl (lv_at hl 0 rfl) ?_
        refine rd_call ⟨hx, hb, hml, hown, hts⟩ (c_X3_many l D cI cZ h st sl sv pt fsl fsv fpt many n G va mk F) (cwV 0 hts gX3_nearestMarked_X3_many rfl rfl rfl (by decide +kernel) ⟨Nat.le_of_ble_eq_true rfl, Nat.le_of_ble_eq_true rfl⟩) hP hK rfl rfl rfl hl rfl (Nat.le_of_ble_eq_true rfl) dX3_nearestMarked_30 ⟨Nat.zero_le _, Nat.zero_le _⟩ ?_
        refine lv_icmp_ge (tgt := 91) hx hb dX3_nearestMarked_33 (by decide) (fun c_33 => ?_) (fun c_33 => ?_)
        · skip
          have c_33 := cn_le (a := n) (b := i) (by omega) (by omega) c_33
          refine lv_iload_n hx hb dX3_nearestMarked_91 rfl (lv_at hl 3 rfl) ?_
          exact rd_i hx hb hr hlocks (by rw [ga_t hj hn, show i = n by omega]) dX3_nearestMarked_92
        · skip
          have c_33 := cn_nle (a := n) (b := i) (by omega) (by omega) c_33
          refine lv_aload_n hx hb dX3_nearestMarked_36 rfl (lv_at hl 0 rfl) ?_
          refine va_get (D := D) (ci := 3) (v := .ref st) (C := RX3) (T := TX3) (N := 5) hx hb hts hin3 hown hK hP 0 rfl rfl 0 (by decide) hf7 (fun _ h9 => h9) rfl dX3_nearestMarked_37 ?_
          refine lv_sipush (v := 129) hx hb dX3_nearestMarked_40 (by decide) ?_
          refine lv_iload hx hb dX3_nearestMarked_43 (lv_at hl 5 rfl) ?_
          refine lv_iadd hx hb dX3_nearestMarked_45 ?_
          rw [show (129 + (nI i) : Int32) = nI (129 + i) from nI_add 129 i]
          refine ar_i (tys := []) hx hb hK hP 1 rfl (k := (129 + i)) (by omega) (by decide) dX3_nearestMarked_46 ?_
          rw [mst_m n G va mk i]
          refine lv_iconst (v := 1) hx hb dX3_nearestMarked_47 (by decide) ?_
          refine lv_icmp_ne (tgt := 85) hx hb dX3_nearestMarked_48 (by decide) (fun c_48 => ?_) (fun c_48 => ?_)
          · skip
            have c_48 := bI_n1 c_48
            refine lv_iinc (v := nI (i + 1)) (lv' := [(5, .int (nI (i + 1))), (0, .ref h), (1, .int (nI j)), (2, .int (nI (fo_r G j))), (3, .int (oI (-100000007) (fo_ns G mk j i).1)), (4, .int (nI (fo_ns G mk j i).2))]) hx hb dX3_nearestMarked_85 hl (k := 5) rfl (nI_1 i) (by decide) rfl (fun ls hl => ?_)
            refine lv_goto (tgt := 27) hx hb dX3_nearestMarked_88 (by decide) ?_
            exact ih27 (i + 1) (by omega) (by omega) ls (by rw [fo_ns_n (fun q => by rw [c_48] at q; exact absurd q.1 (by decide))]; exact lv_sub hl [1, 2, 3, 4, 5, 0] rfl)
          · skip
            have c_48 := bI_e1 c_48
            refine lv_aload_n hx hb dX3_nearestMarked_51 rfl (lv_at hl 0 rfl) ?_
            refine lv_iload hx hb dX3_nearestMarked_52 (lv_at hl 5 rfl) ?_
            refine rd_call ⟨hx, hb, hml, hown, hts⟩ (c_X3_rootOf l D cI cZ h st sl sv pt fsl fsv fpt many n G va mk F i c_33) (cwV 1 hts gX3_nearestMarked_X3_rootOf rfl rfl rfl (by decide +kernel) ⟨Nat.le_of_ble_eq_true rfl, Nat.le_of_ble_eq_true rfl⟩) hP hK rfl rfl rfl hl rfl (Nat.le_of_ble_eq_true rfl) dX3_nearestMarked_54 ⟨Nat.zero_le _, Nat.zero_le _⟩ ?_
            refine lv_iload_n hx hb dX3_nearestMarked_57 rfl (lv_at hl 2 rfl) ?_
            have hli := fo_r_lt F c_33
            have hlj := fo_r_lt F hj
            refine lv_icmp_ne (tgt := 85) hx hb dX3_nearestMarked_58 (by decide) (fun c_58 => ?_) (fun c_58 => ?_)
            · skip
              have c_58 := cn_ne (a := (fo_r G i)) (b := (fo_r G j)) (by omega) (by omega) c_58
              refine lv_iinc (v := nI (i + 1)) (lv' := [(5, .int (nI (i + 1))), (0, .ref h), (1, .int (nI j)), (2, .int (nI (fo_r G j))), (3, .int (oI (-100000007) (fo_ns G mk j i).1)), (4, .int (nI (fo_ns G mk j i).2))]) hx hb dX3_nearestMarked_85 hl (k := 5) rfl (nI_1 i) (by decide) rfl (fun ls hl => ?_)
              refine lv_goto (tgt := 27) hx hb dX3_nearestMarked_88 (by decide) ?_
              exact ih27 (i + 1) (by omega) (by omega) ls (by rw [fo_ns_n (fun q => c_58 q.2.1)]; exact lv_sub hl [1, 2, 3, 4, 5, 0] rfl)
            · skip
              have c_58 := cn_eq (a := (fo_r G i)) (b := (fo_r G j)) (by omega) (by omega) c_58
              refine lv_aload_n hx hb dX3_nearestMarked_61 rfl (lv_at hl 0 rfl) ?_
              refine lv_iload_n hx hb dX3_nearestMarked_62 rfl (lv_at hl 1 rfl) ?_
              refine lv_iload hx hb dX3_nearestMarked_63 (lv_at hl 5 rfl) ?_
              refine rd_call ⟨hx, hb, hml, hown, hts⟩ (c_X3_distanceOf l D cI cZ h st sl sv pt fsl fsv fpt many n G va mk F j i hj c_33 (c_58.symm)) (cwV 2 hts gX3_nearestMarked_X3_distanceOf rfl rfl rfl (by decide +kernel) ⟨Nat.le_of_ble_eq_true rfl, Nat.le_of_ble_eq_true rfl⟩) hP hK rfl rfl rfl hl rfl (Nat.le_of_ble_eq_true rfl) dX3_nearestMarked_65 ⟨Nat.zero_le _, Nat.zero_le _⟩ ?_
              refine lv_iload hx hb dX3_nearestMarked_68 (lv_at hl 4 rfl) ?_
              refine lv_icmp_ge (tgt := 85) hx hb dX3_nearestMarked_70 (by decide) (fun c_70 => ?_) (fun c_70 => ?_)
              · skip
                have c_70 := cn_le (a := (fo_ns G mk j i).2) (b := (fo_dist G j i)) (by omega) (by omega) c_70
                refine lv_iinc (v := nI (i + 1)) (lv' := [(5, .int (nI (i + 1))), (0, .ref h), (1, .int (nI j)), (2, .int (nI (fo_r G j))), (3, .int (oI (-100000007) (fo_ns G mk j i).1)), (4, .int (nI (fo_ns G mk j i).2))]) hx hb dX3_nearestMarked_85 hl (k := 5) rfl (nI_1 i) (by decide) rfl (fun ls hl => ?_)
                refine lv_goto (tgt := 27) hx hb dX3_nearestMarked_88 (by decide) ?_
                exact ih27 (i + 1) (by omega) (by omega) ls (by rw [fo_ns_n (fun q => by have := q.2.2; omega)]; exact lv_sub hl [1, 2, 3, 4, 5, 0] rfl)
              · skip
                have c_70 := cn_nle (a := (fo_ns G mk j i).2) (b := (fo_dist G j i)) (by omega) (by omega) c_70
                refine lv_aload_n hx hb dX3_nearestMarked_73 rfl (lv_at hl 0 rfl) ?_
                refine lv_iload_n hx hb dX3_nearestMarked_74 rfl (lv_at hl 1 rfl) ?_
                refine lv_iload hx hb dX3_nearestMarked_75 (lv_at hl 5 rfl) ?_
                refine rd_call ⟨hx, hb, hml, hown, hts⟩ (c_X3_distanceOf l D cI cZ h st sl sv pt fsl fsv fpt many n G va mk F j i hj c_33 (c_58.symm)) (cwV 2 hts gX3_nearestMarked_X3_distanceOf rfl rfl rfl (by decide +kernel) ⟨Nat.le_of_ble_eq_true rfl, Nat.le_of_ble_eq_true rfl⟩) hP hK rfl rfl rfl hl rfl (Nat.le_of_ble_eq_true rfl) dX3_nearestMarked_77 ⟨Nat.zero_le _, Nat.zero_le _⟩ ?_
                refine lv_istore (lv' := [(4, .int (nI (fo_dist G j i))), (0, .ref h), (1, .int (nI j)), (2, .int (nI (fo_r G j))), (3, .int (oI (-100000007) (fo_ns G mk j i).1)), (5, .int (nI i))]) hx hb dX3_nearestMarked_80 hl (by decide) rfl (fun ls hl => ?_)
                refine lv_iload hx hb dX3_nearestMarked_82 (lv_at hl 5 rfl) ?_
                refine lv_istore_n (lv' := [(3, .int (nI i)), (4, .int (nI (fo_dist G j i))), (0, .ref h), (1, .int (nI j)), (2, .int (nI (fo_r G j))), (5, .int (nI i))]) hx hb dX3_nearestMarked_84 rfl hl (by decide) rfl (fun ls hl => ?_)
                refine lv_iinc (v := nI (i + 1)) (lv' := [(5, .int (nI (i + 1))), (3, .int (nI i)), (4, .int (nI (fo_dist G j i))), (0, .ref h), (1, .int (nI j)), (2, .int (nI (fo_r G j)))]) hx hb dX3_nearestMarked_85 hl (k := 5) rfl (nI_1 i) (by decide) rfl (fun ls hl => ?_)
                refine lv_goto (tgt := 27) hx hb dX3_nearestMarked_88 (by decide) ?_
                exact ih27 (i + 1) (by omega) (by omega) ls (by rw [fo_ns_y c_48 c_58 (by omega)]; exact lv_sub hl [3, 4, 5, 1, 2, 0] rfl)
    exact L27 (n - 0 + 1) 0 (Nat.zero_le _) (Nat.lt_succ_self _) ls (lv_sub hl [4, 5, 3, 2, 1, 0] rfl)
  · skip
    have c_5 := bI_0 c_5
    refine lv_ldc (own := RX3) hx hb hown hk47 dX3_nearestMarked_8 ?_
    exact rd_i hx hb hr hlocks (by rw [ga_f c_5]) dX3_nearestMarked_10
