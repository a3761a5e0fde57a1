set_option maxHeartbeats 4000000 in
set_option maxRecDepth 100000 in
/-- case 20: subtreeSize -/
theorem lc_20 {p : Program} {l : Launch} {e : Env} {s : State} {m : MethodId} {below : List Frame} {meth : Method} {c : Code} {b Len : Nat} {xs : Nat → Int32} (C0 : lw_At p s m meth c b Len xs) (hLen : Len ≤ 2048) {D : va_G} {cI cZ : ClassId} (hK : KK D cI cZ s) {h f fa fb fc f1 fa1 fb1 fc1 f2 fa2 fb2 fc2 ph hq g st sl sv pt : Nat} {i : Nat} (hi : i + 4 ≤ Len) {ls : Array Slot} (hl : lv_has ls 4 [(0, .ref b), (1, .ref h), (2, .ref g), (3, .int (nI i))]) (kk : LKont p l e s m b below meth c D cI cZ h f fa fb fc f1 fa1 fb1 fc1 f2 fa2 fb2 fc2 ph hq g st sl sv pt ls)
    (n : Nat) (G : Nat → Nat) (va : Nat → Int32) (mk : Nat → Bool) (n1 : Nat) (pa1 va1 : Nat → Int32) (mk1 : Nat → Bool) (n2 : Nat) (pa2 va2 : Nat → Int32) (mk2 : Nat → Bool) (vs : Nat → Int32) (L : Nat) (fsl fsv fpt : Nat → Int32) (many : Int32) (I : LInv n G va n1 pa1 va1 mk1 n2 pa2 va2 mk2 L fsl fsv) (H : Heap) (locs : List Loc) (hP : va_P D vwCl (LW h f fa fb fc f1 fa1 fb1 fc1 f2 fa2 fb2 fc2 ph hq g st sl sv pt cI cZ n G va mk n1 pa1 va1 mk1 n2 pa2 va2 mk2 vs L fsl fsv fpt many) H) (hD : va_D (aI s) (LW h f fa fb fc f1 fa1 fb1 fc1 f2 fa2 fb2 fc2 ph hq g st sl sv pt cI cZ n G va mk n1 pa1 va1 mk1 n2 pa2 va2 mk2 vs L fsl fsv fpt many)) (hS : va_S (aI s) s.heap H locs) : Wl p l e s m b below meth c H locs (F0 m 768 ls []) := by
  obtain ⟨hx, hb, hr, hml, hown, hts, hX, hbl, hlocks, hgv⟩ := C0
  have hts := fun w h => hts w (wsL_law_in w h)
  have hown : s.vm.findClass RL = some m.cls := hown
  obtain ⟨F, hva, hL, hs0, hs1⟩ := I
  have hP : va_P D vwCl (wO h f f1 f2 ph ++ wF f fa fb fc cI cZ n (fo_cp G) va mk ++ wF f1 fa1 fb1 fc1 cI cZ n1 pa1 va1 mk1 ++ wF f2 fa2 fb2 fc2 cI cZ n2 pa2 va2 mk2 ++ wP ph hq cI vs (nI L) ++ wM g st sl sv pt cI cZ (mst n G va mk) fsl fsv fpt many) H := hP
  have hD : va_D (aI s) (wO h f f1 f2 ph ++ wF f fa fb fc cI cZ n (fo_cp G) va mk ++ wF f1 fa1 fb1 fc1 cI cZ n1 pa1 va1 mk1 ++ wF f2 fa2 fb2 fc2 cI cZ n2 pa2 va2 mk2 ++ wP ph hq cI vs (nI L) ++ wM g st sl sv pt cI cZ (mst n G va mk) fsl fsv fpt many) := hD
  refine lv_aload_n hx hb dL_law_768 rfl (lv_at hl 1 rfl) ?_
  refine lv_aload_n hx hb dL_law_769 rfl (lv_at hl 0 rfl) ?_
  refine lv_iload_n hx hb dL_law_770 rfl (lv_at hl 3 rfl) ?_
  refine lv_iconst (v := 1) hx hb dL_law_771 (by decide) ?_
  refine lv_iadd hx hb dL_law_772 ?_
  rw [show ((nI i) + 1 : Int32) = nI (i + 1) from nI_add i 1]
  refine sc_ld hx hb hX hbl hS (k := (i + 1)) (by omega) hLen dL_law_773 ?_
  refine rd_call ⟨hx, hb, hml, hown, hts⟩ (c_X2_subtreeSize l D cI cZ h f1 f2 ph f fa fb fc n G va mk F (xs (i + 1))) (cwV 1 hts gL_law_X2_subtreeSize rfl rfl rfl (by decide +kernel) ⟨Nat.le_of_ble_eq_true rfl, Nat.le_of_ble_eq_true rfl⟩) (hP.sub (ws' := wO h f f1 f2 ph ++ wF f fa fb fc cI cZ n (fo_cp G) va mk) [0, 1, 2, 3, 4] rfl) hK rfl rfl rfl hl rfl (Nat.le_of_ble_eq_true rfl) dL_law_774 ⟨Nat.le_of_ble_eq_true rfl, Nat.le_of_ble_eq_true rfl⟩ ?_
  refine lv_aload_n hx hb dL_law_777 rfl (lv_at hl 2 rfl) ?_
  refine lv_aload_n hx hb dL_law_778 rfl (lv_at hl 0 rfl) ?_
  refine lv_iload_n hx hb dL_law_779 rfl (lv_at hl 3 rfl) ?_
  refine lv_iconst (v := 1) hx hb dL_law_780 (by decide) ?_
  refine lv_iadd hx hb dL_law_781 ?_
  rw [show ((nI i) + 1 : Int32) = nI (i + 1) from nI_add i 1]
  refine sc_ld hx hb hX hbl hS (k := (i + 1)) (by omega) hLen dL_law_782 ?_
  refine rd_call ⟨hx, hb, hml, hown, hts⟩ (c_X3_subtreeSize l D cI cZ g st sl sv pt fsl fsv fpt many n G va mk F (xs (i + 1))) (cwV 1 hts gL_law_X3_subtreeSize rfl rfl rfl (by decide +kernel) ⟨Nat.le_of_ble_eq_true rfl, Nat.le_of_ble_eq_true rfl⟩) (hP.sub (ws' := wM g st sl sv pt cI cZ (mst n G va mk) fsl fsv fpt many) [15, 16, 17, 18, 19] rfl) hK rfl rfl rfl hl rfl (Nat.le_of_ble_eq_true rfl) dL_law_783 ⟨Nat.le_of_ble_eq_true rfl, Nat.le_of_ble_eq_true rfl⟩ ?_
  refine lv_icmp_eq (tgt := 1044) hx hb dL_law_786 (by decide) (fun c_786 => ?_) (fun c_786 => ?_)
  · skip
    exact kk n G va mk n1 pa1 va1 mk1 n2 pa2 va2 mk2 vs L fsl fsv fpt many ⟨F, hva, hL, hs0, hs1⟩ H locs hP hD hS
  · skip
    exact absurd rfl c_786
set_option maxHeartbeats 4000000 in
set_option maxRecDepth 100000 in
/-- case 21: subtreeSum -/
theorem lc_21 {p : Program} {l : Launch} {e : Env} {s : State} {m : MethodId} {below : List Frame} {meth : Method} {c : Code} {b Len : Nat} {xs : Nat → Int32} (C0 : lw_At p s m meth c b Len xs) (hLen : Len ≤ 2048) {D : va_G} {cI cZ : ClassId} (hK : KK D cI cZ s) {h f fa fb fc f1 fa1 fb1 fc1 f2 fa2 fb2 fc2 ph hq g st sl sv pt : Nat} {i : Nat} (hi : i + 4 ≤ Len) {ls : Array Slot} (hl : lv_has ls 4 [(0, .ref b), (1, .ref h), (2, .ref g), (3, .int (nI i))]) (kk : LKont p l e s m b below meth c D cI cZ h f fa fb fc f1 fa1 fb1 fc1 f2 fa2 fb2 fc2 ph hq g st sl sv pt ls)
    (n : Nat) (G : Nat → Nat) (va : Nat → Int32) (mk : Nat → Bool) (n1 : Nat) (pa1 va1 : Nat → Int32) (mk1 : Nat → Bool) (n2 : Nat) (pa2 va2 : Nat → Int32) (mk2 : Nat → Bool) (vs : Nat → Int32) (L : Nat) (fsl fsv fpt : Nat → Int32) (many : Int32) (I : LInv n G va n1 pa1 va1 mk1 n2 pa2 va2 mk2 L fsl fsv) (H : Heap) (locs : List Loc) (hP : va_P D vwCl (LW h f fa fb fc f1 fa1 fb1 fc1 f2 fa2 fb2 fc2 ph hq g st sl sv pt cI cZ n G va mk n1 pa1 va1 mk1 n2 pa2 va2 mk2 vs L fsl fsv fpt many) H) (hD : va_D (aI s) (LW h f fa fb fc f1 fa1 fb1 fc1 f2 fa2 fb2 fc2 ph hq g st sl sv pt cI cZ n G va mk n1 pa1 va1 mk1 n2 pa2 va2 mk2 vs L fsl fsv fpt many)) (hS : va_S (aI s) s.heap H locs) : Wl p l e s m b below meth c H locs (F0 m 791 ls []) := by
  obtain ⟨hx, hb, hr, hml, hown, hts, hX, hbl, hlocks, hgv⟩ := C0
  have hts := fun w h => hts w (wsL_law_in w h)
  have hown : s.vm.findClass RL = some m.cls := hown
  obtain ⟨F, hva, hL, hs0, hs1⟩ := I
  have hP : va_P D vwCl (wO h f f1 f2 ph ++ wF f fa fb fc cI cZ n (fo_cp G) va mk ++ wF f1 fa1 fb1 fc1 cI cZ n1 pa1 va1 mk1 ++ wF f2 fa2 fb2 fc2 cI cZ n2 pa2 va2 mk2 ++ wP ph hq cI vs (nI L) ++ wM g st sl sv pt cI cZ (mst n G va mk) fsl fsv fpt many) H := hP
  have hD : va_D (aI s) (wO h f f1 f2 ph ++ wF f fa fb fc cI cZ n (fo_cp G) va mk ++ wF f1 fa1 fb1 fc1 cI cZ n1 pa1 va1 mk1 ++ wF f2 fa2 fb2 fc2 cI cZ n2 pa2 va2 mk2 ++ wP ph hq cI vs (nI L) ++ wM g st sl sv pt cI cZ (mst n G va mk) fsl fsv fpt many) := hD
  refine lv_aload_n hx hb dL_law_791 rfl (lv_at hl 1 rfl) ?_
  refine lv_aload_n hx hb dL_law_792 rfl (lv_at hl 0 rfl) ?_
  refine lv_iload_n hx hb dL_law_793 rfl (lv_at hl 3 rfl) ?_
  refine lv_iconst (v := 1) hx hb dL_law_794 (by decide) ?_
  refine lv_iadd hx hb dL_law_795 ?_
  rw [show ((nI i) + 1 : Int32) = nI (i + 1) from nI_add i 1]
  refine sc_ld hx hb hX hbl hS (k := (i + 1)) (by omega) hLen dL_law_796 ?_
  refine rd_call ⟨hx, hb, hml, hown, hts⟩ (c_X2_subtreeSum l D cI cZ h f1 f2 ph f fa fb fc n G va mk F (xs (i + 1))) (cwV 1 hts gL_law_X2_subtreeSum rfl rfl rfl (by decide +kernel) ⟨Nat.le_of_ble_eq_true rfl, Nat.le_of_ble_eq_true rfl⟩) (hP.sub (ws' := wO h f f1 f2 ph ++ wF f fa fb fc cI cZ n (fo_cp G) va mk) [0, 1, 2, 3, 4] rfl) hK rfl rfl rfl hl rfl (Nat.le_of_ble_eq_true rfl) dL_law_797 ⟨Nat.le_of_ble_eq_true rfl, Nat.le_of_ble_eq_true rfl⟩ ?_
  refine lv_aload_n hx hb dL_law_800 rfl (lv_at hl 2 rfl) ?_
  refine lv_aload_n hx hb dL_law_801 rfl (lv_at hl 0 rfl) ?_
  refine lv_iload_n hx hb dL_law_802 rfl (lv_at hl 3 rfl) ?_
  refine lv_iconst (v := 1) hx hb dL_law_803 (by decide) ?_
  refine lv_iadd hx hb dL_law_804 ?_
  rw [show ((nI i) + 1 : Int32) = nI (i + 1) from nI_add i 1]
  refine sc_ld hx hb hX hbl hS (k := (i + 1)) (by omega) hLen dL_law_805 ?_
  refine rd_call ⟨hx, hb, hml, hown, hts⟩ (c_X3_subtreeSum l D cI cZ g st sl sv pt fsl fsv fpt many n G va mk F (xs (i + 1))) (cwV 1 hts gL_law_X3_subtreeSum rfl rfl rfl (by decide +kernel) ⟨Nat.le_of_ble_eq_true rfl, Nat.le_of_ble_eq_true rfl⟩) (hP.sub (ws' := wM g st sl sv pt cI cZ (mst n G va mk) fsl fsv fpt many) [15, 16, 17, 18, 19] rfl) hK rfl rfl rfl hl rfl (Nat.le_of_ble_eq_true rfl) dL_law_806 ⟨Nat.le_of_ble_eq_true rfl, Nat.le_of_ble_eq_true rfl⟩ ?_
  refine lv_icmp_eq (tgt := 1044) hx hb dL_law_809 (by decide) (fun c_809 => ?_) (fun c_809 => ?_)
  · skip
    exact kk n G va mk n1 pa1 va1 mk1 n2 pa2 va2 mk2 vs L fsl fsv fpt many ⟨F, hva, hL, hs0, hs1⟩ H locs hP hD hS
  · skip
    exact absurd rfl c_809
set_option maxHeartbeats 4000000 in
set_option maxRecDepth 100000 in
/-- case 22: addInSubtree -/
theorem lc_22 {p : Program} {l : Launch} {e : Env} {s : State} {m : MethodId} {below : List Frame} {meth : Method} {c : Code} {b Len : Nat} {xs : Nat → Int32} (C0 : lw_At p s m meth c b Len xs) (hLen : Len ≤ 2048) {D : va_G} {cI cZ : ClassId} (hK : KK D cI cZ s) {h f fa fb fc f1 fa1 fb1 fc1 f2 fa2 fb2 fc2 ph hq g st sl sv pt : Nat} {i : Nat} (hi : i + 4 ≤ Len) {ls : Array Slot} (hl : lv_has ls 4 [(0, .ref b), (1, .ref h), (2, .ref g), (3, .int (nI i))]) (kk : LKont p l e s m b below meth c D cI cZ h f fa fb fc f1 fa1 fb1 fc1 f2 fa2 fb2 fc2 ph hq g st sl sv pt ls)
    (n : Nat) (G : Nat → Nat) (va : Nat → Int32) (mk : Nat → Bool) (n1 : Nat) (pa1 va1 : Nat → Int32) (mk1 : Nat → Bool) (n2 : Nat) (pa2 va2 : Nat → Int32) (mk2 : Nat → Bool) (vs : Nat → Int32) (L : Nat) (fsl fsv fpt : Nat → Int32) (many : Int32) (I : LInv n G va n1 pa1 va1 mk1 n2 pa2 va2 mk2 L fsl fsv) (H : Heap) (locs : List Loc) (hP : va_P D vwCl (LW h f fa fb fc f1 fa1 fb1 fc1 f2 fa2 fb2 fc2 ph hq g st sl sv pt cI cZ n G va mk n1 pa1 va1 mk1 n2 pa2 va2 mk2 vs L fsl fsv fpt many) H) (hD : va_D (aI s) (LW h f fa fb fc f1 fa1 fb1 fc1 f2 fa2 fb2 fc2 ph hq g st sl sv pt cI cZ n G va mk n1 pa1 va1 mk1 n2 pa2 va2 mk2 vs L fsl fsv fpt many)) (hS : va_S (aI s) s.heap H locs) : Wl p l e s m b below meth c H locs (F0 m 814 ls []) := by
  obtain ⟨hx, hb, hr, hml, hown, hts, hX, hbl, hlocks, hgv⟩ := C0
  have hts := fun w h => hts w (wsL_law_in w h)
  have hown : s.vm.findClass RL = some m.cls := hown
  obtain ⟨F, hva, hL, hs0, hs1⟩ := I
  have hP : va_P D vwCl (wO h f f1 f2 ph ++ wF f fa fb fc cI cZ n (fo_cp G) va mk ++ wF f1 fa1 fb1 fc1 cI cZ n1 pa1 va1 mk1 ++ wF f2 fa2 fb2 fc2 cI cZ n2 pa2 va2 mk2 ++ wP ph hq cI vs (nI L) ++ wM g st sl sv pt cI cZ (mst n G va mk) fsl fsv fpt many) H := hP
  have hD : va_D (aI s) (wO h f f1 f2 ph ++ wF f fa fb fc cI cZ n (fo_cp G) va mk ++ wF f1 fa1 fb1 fc1 cI cZ n1 pa1 va1 mk1 ++ wF f2 fa2 fb2 fc2 cI cZ n2 pa2 va2 mk2 ++ wP ph hq cI vs (nI L) ++ wM g st sl sv pt cI cZ (mst n G va mk) fsl fsv fpt many) := hD
  refine lv_aload_n hx hb dL_law_814 rfl (lv_at hl 1 rfl) ?_
  refine lv_aload_n hx hb dL_law_815 rfl (lv_at hl 0 rfl) ?_
  refine lv_iload_n hx hb dL_law_816 rfl (lv_at hl 3 rfl) ?_
  refine lv_iconst (v := 1) hx hb dL_law_817 (by decide) ?_
  refine lv_iadd hx hb dL_law_818 ?_
  rw [show ((nI i) + 1 : Int32) = nI (i + 1) from nI_add i 1]
  refine sc_ld hx hb hX hbl hS (k := (i + 1)) (by omega) hLen dL_law_819 ?_
  refine lv_aload_n hx hb dL_law_820 rfl (lv_at hl 0 rfl) ?_
  refine lv_iload_n hx hb dL_law_821 rfl (lv_at hl 3 rfl) ?_
  refine lv_iconst (v := 2) hx hb dL_law_822 (by decide) ?_
  refine lv_iadd hx hb dL_law_823 ?_
  rw [show ((nI i) + 2 : Int32) = nI (i + 2) from nI_add i 2]
  refine sc_ld hx hb hX hbl hS (k := (i + 2)) (by omega) hLen dL_law_824 ?_
  refine wr_call (V1 := wO h f f1 f2 ph ++ wF f fa fb fc cI cZ n (fo_cp G) (ga n (xs (i + 1)) (fun j => if oSub n G va (xs (i + 2)) j = true then vSub va (fun w => fo_bel G w j) (xs (i + 2)) n else va) va) mk ++ wF f1 fa1 fb1 fc1 cI cZ n1 pa1 va1 mk1 ++ wF f2 fa2 fb2 fc2 cI cZ n2 pa2 va2 mk2 ++ wP ph hq cI vs (nI L) ++ wM g st sl sv pt cI cZ (mst n G va mk) fsl fsv fpt many) ⟨hx, hb, hml, hown, hts⟩ (c_X2_addInSubtree l D cI cZ h f1 f2 ph f fa fb fc n G va mk F (xs (i + 1)) (xs (i + 2))) (cwV 2 hts gL_law_X2_addInSubtree rfl rfl rfl (by decide +kernel) ⟨Nat.le_of_ble_eq_true rfl, Nat.le_of_ble_eq_true rfl⟩) hP hK hD hS [0, 1, 2, 3, 4] [5, 6, 7, 8, 9, 10, 11, 12, 13, 14, 15, 16, 17, 18, 19] [15, 16, 17, 18, 19, 0, 1, 2, 3, 4, 5, 6, 7, 8, 9, 10, 11, 12, 13, 14] rfl rfl (by decide) rfl rfl rfl rfl rfl hl rfl (Nat.le_of_ble_eq_true rfl) dL_law_825 ⟨Nat.le_of_ble_eq_true rfl, Nat.le_of_ble_eq_true rfl⟩ (fun H locs hP hD hS => ?_)
  refine lv_aload_n hx hb dL_law_828 rfl (lv_at hl 2 rfl) ?_
  refine lv_aload_n hx hb dL_law_829 rfl (lv_at hl 0 rfl) ?_
  refine lv_iload_n hx hb dL_law_830 rfl (lv_at hl 3 rfl) ?_
  refine lv_iconst (v := 1) hx hb dL_law_831 (by decide) ?_
  refine lv_iadd hx hb dL_law_832 ?_
  rw [show ((nI i) + 1 : Int32) = nI (i + 1) from nI_add i 1]
  refine sc_ld hx hb hX hbl hS (k := (i + 1)) (by omega) hLen dL_law_833 ?_
  refine lv_aload_n hx hb dL_law_834 rfl (lv_at hl 0 rfl) ?_
  refine lv_iload_n hx hb dL_law_835 rfl (lv_at hl 3 rfl) ?_
  refine lv_iconst (v := 2) hx hb dL_law_836 (by decide) ?_
  refine lv_iadd hx hb dL_law_837 ?_
  rw [show ((nI i) + 2 : Int32) = nI (i + 2) from nI_add i 2]
  refine sc_ld hx hb hX hbl hS (k := (i + 2)) (by omega) hLen dL_law_838 ?_
  refine wr_call (V1 := wO h f f1 f2 ph ++ wF f fa fb fc cI cZ n (fo_cp G) (ga n (xs (i + 1)) (fun j => if oSub n G va (xs (i + 2)) j = true then vSub va (fun w => fo_bel G w j) (xs (i + 2)) n else va) va) mk ++ wF f1 fa1 fb1 fc1 cI cZ n1 pa1 va1 mk1 ++ wF f2 fa2 fb2 fc2 cI cZ n2 pa2 va2 mk2 ++ wP ph hq cI vs (nI L) ++ wM g st sl sv pt cI cZ (mst n G (ga n (xs (i + 1)) (fun j => if oSub n G va (xs (i + 2)) j = true then vSub va (fun w => fo_bel G w j) (xs (i + 2)) n else va) va) mk) fsl fsv fpt many) ⟨hx, hb, hml, hown, hts⟩ (c_X3_addInSubtree l D cI cZ g st sl sv pt fsl fsv fpt many n G va mk F (xs (i + 1)) (xs (i + 2))) (cwV 2 hts gL_law_X3_addInSubtree rfl rfl rfl (by decide +kernel) ⟨Nat.le_of_ble_eq_true rfl, Nat.le_of_ble_eq_true rfl⟩) hP hK hD hS [15, 16, 17, 18, 19] [0, 1, 2, 3, 4, 5, 6, 7, 8, 9, 10, 11, 12, 13, 14] [0, 1, 2, 3, 4, 5, 6, 7, 8, 9, 10, 11, 12, 13, 14, 15, 16, 17, 18, 19] rfl rfl (by decide) rfl rfl rfl rfl rfl hl rfl (Nat.le_of_ble_eq_true rfl) dL_law_839 ⟨Nat.le_of_ble_eq_true rfl, Nat.le_of_ble_eq_true rfl⟩ (fun H locs hP hD hS => ?_)
  refine lv_icmp_eq (tgt := 1044) hx hb dL_law_842 (by decide) (fun c_842 => ?_) (fun c_842 => ?_)
  · skip
    exact kk n G (ga n (xs (i + 1)) (fun j => if oSub n G va (xs (i + 2)) j = true then vSub va (fun w => fo_bel G w j) (xs (i + 2)) n else va) va) mk n1 pa1 va1 mk1 n2 pa2 va2 mk2 vs L fsl fsv fpt many ⟨F, addSub_ok F hva _ _, hL, hs0, hs1⟩ H locs hP hD hS
  · skip
    exact absurd rfl c_842
set_option maxHeartbeats 4000000 in
set_option maxRecDepth 100000 in
/-- case 23: diameter -/
theorem lc_23 {p : Program} {l : Launch} {e : Env} {s : State} {m : MethodId} {below : List Frame} {meth : Method} {c : Code} {b Len : Nat} {xs : Nat → Int32} (C0 : lw_At p s m meth c b Len xs) (hLen : Len ≤ 2048) {D : va_G} {cI cZ : ClassId} (hK : KK D cI cZ s) {h f fa fb fc f1 fa1 fb1 fc1 f2 fa2 fb2 fc2 ph hq g st sl sv pt : Nat} {i : Nat} (hi : i + 4 ≤ Len) {ls : Array Slot} (hl : lv_has ls 4 [(0, .ref b), (1, .ref h), (2, .ref g), (3, .int (nI i))]) (kk : LKont p l e s m b below meth c D cI cZ h f fa fb fc f1 fa1 fb1 fc1 f2 fa2 fb2 fc2 ph hq g st sl sv pt ls)
    (n : Nat) (G : Nat → Nat) (va : Nat → Int32) (mk : Nat → Bool) (n1 : Nat) (pa1 va1 : Nat → Int32) (mk1 : Nat → Bool) (n2 : Nat) (pa2 va2 : Nat → Int32) (mk2 : Nat → Bool) (vs : Nat → Int32) (L : Nat) (fsl fsv fpt : Nat → Int32) (many : Int32) (I : LInv n G va n1 pa1 va1 mk1 n2 pa2 va2 mk2 L fsl fsv) (H : Heap) (locs : List Loc) (hP : va_P D vwCl (LW h f fa fb fc f1 fa1 fb1 fc1 f2 fa2 fb2 fc2 ph hq g st sl sv pt cI cZ n G va mk n1 pa1 va1 mk1 n2 pa2 va2 mk2 vs L fsl fsv fpt many) H) (hD : va_D (aI s) (LW h f fa fb fc f1 fa1 fb1 fc1 f2 fa2 fb2 fc2 ph hq g st sl sv pt cI cZ n G va mk n1 pa1 va1 mk1 n2 pa2 va2 mk2 vs L fsl fsv fpt many)) (hS : va_S (aI s) s.heap H locs) : Wl p l e s m b below meth c H locs (F0 m 847 ls []) := by
  obtain ⟨hx, hb, hr, hml, hown, hts, hX, hbl, hlocks, hgv⟩ := C0
  have hts := fun w h => hts w (wsL_law_in w h)
  have hown : s.vm.findClass RL = some m.cls := hown
  obtain ⟨F, hva, hL, hs0, hs1⟩ := I
  have hP : va_P D vwCl (wO h f f1 f2 ph ++ wF f fa fb fc cI cZ n (fo_cp G) va mk ++ wF f1 fa1 fb1 fc1 cI cZ n1 pa1 va1 mk1 ++ wF f2 fa2 fb2 fc2 cI cZ n2 pa2 va2 mk2 ++ wP ph hq cI vs (nI L) ++ wM g st sl sv pt cI cZ (mst n G va mk) fsl fsv fpt many) H := hP
  have hD : va_D (aI s) (wO h f f1 f2 ph ++ wF f fa fb fc cI cZ n (fo_cp G) va mk ++ wF f1 fa1 fb1 fc1 cI cZ n1 pa1 va1 mk1 ++ wF f2 fa2 fb2 fc2 cI cZ n2 pa2 va2 mk2 ++ wP ph hq cI vs (nI L) ++ wM g st sl sv pt cI cZ (mst n G va mk) fsl fsv fpt many) := hD
  refine lv_aload_n hx hb dL_law_847 rfl (lv_at hl 1 rfl) ?_
  refine lv_aload_n hx hb dL_law_848 rfl (lv_at hl 0 rfl) ?_
  refine lv_iload_n hx hb dL_law_849 rfl (lv_at hl 3 rfl) ?_
  refine lv_iconst (v := 1) hx hb dL_law_850 (by decide) ?_
  refine lv_iadd hx hb dL_law_851 ?_
  rw [show ((nI i) + 1 : Int32) = nI (i + 1) from nI_add i 1]
  refine sc_ld hx hb hX hbl hS (k := (i + 1)) (by omega) hLen dL_law_852 ?_
  refine rd_call ⟨hx, hb, hml, hown, hts⟩ (c_X2_diameter l D cI cZ h f1 f2 ph f fa fb fc n G va mk F (xs (i + 1))) (cwV 1 hts gL_law_X2_diameter rfl rfl rfl (by decide +kernel) ⟨Nat.le_of_ble_eq_true rfl, Nat.le_of_ble_eq_true rfl⟩) (hP.sub (ws' := wO h f f1 f2 ph ++ wF f fa fb fc cI cZ n (fo_cp G) va mk) [0, 1, 2, 3, 4] rfl) hK rfl rfl rfl hl rfl (Nat.le_of_ble_eq_true rfl) dL_law_853 ⟨Nat.le_of_ble_eq_true rfl, Nat.le_of_ble_eq_true rfl⟩ ?_
  refine lv_aload_n hx hb dL_law_856 rfl (lv_at hl 2 rfl) ?_
  refine lv_aload_n hx hb dL_law_857 rfl (lv_at hl 0 rfl) ?_
  refine lv_iload_n hx hb dL_law_858 rfl (lv_at hl 3 rfl) ?_
  refine lv_iconst (v := 1) hx hb dL_law_859 (by decide) ?_
  refine lv_iadd hx hb dL_law_860 ?_
  rw [show ((nI i) + 1 : Int32) = nI (i + 1) from nI_add i 1]
  refine sc_ld hx hb hX hbl hS (k := (i + 1)) (by omega) hLen dL_law_861 ?_
  refine rd_call ⟨hx, hb, hml, hown, hts⟩ (c_X3_diameter l D cI cZ g st sl sv pt fsl fsv fpt many n G va mk F (xs (i + 1))) (cwV 1 hts gL_law_X3_diameter rfl rfl rfl (by decide +kernel) ⟨Nat.le_of_ble_eq_true rfl, Nat.le_of_ble_eq_true rfl⟩) (hP.sub (ws' := wM g st sl sv pt cI cZ (mst n G va mk) fsl fsv fpt many) [15, 16, 17, 18, 19] rfl) hK rfl rfl rfl hl rfl (Nat.le_of_ble_eq_true rfl) dL_law_862 ⟨Nat.le_of_ble_eq_true rfl, Nat.le_of_ble_eq_true rfl⟩ ?_
  refine lv_icmp_eq (tgt := 1044) hx hb dL_law_865 (by decide) (fun c_865 => ?_) (fun c_865 => ?_)
  · skip
    exact kk n G va mk n1 pa1 va1 mk1 n2 pa2 va2 mk2 vs L fsl fsv fpt many ⟨F, hva, hL, hs0, hs1⟩ H locs hP hD hS
  · skip
    exact absurd rfl c_865
set_option maxHeartbeats 4000000 in
set_option maxRecDepth 100000 in
/-- case 24: setValue -/
theorem lc_24 {p : Program} {l : Launch} {e : Env} {s : State} {m : MethodId} {below : List Frame} {meth : Method} {c : Code} {b Len : Nat} {xs : Nat → Int32} (C0 : lw_At p s m meth c b Len xs) (hLen : Len ≤ 2048) {D : va_G} {cI cZ : ClassId} (hK : KK D cI cZ s) {h f fa fb fc f1 fa1 fb1 fc1 f2 fa2 fb2 fc2 ph hq g st sl sv pt : Nat} {i : Nat} (hi : i + 4 ≤ Len) {ls : Array Slot} (hl : lv_has ls 4 [(0, .ref b), (1, .ref h), (2, .ref g), (3, .int (nI i))]) (kk : LKont p l e s m b below meth c D cI cZ h f fa fb fc f1 fa1 fb1 fc1 f2 fa2 fb2 fc2 ph hq g st sl sv pt ls)
    (n : Nat) (G : Nat → Nat) (va : Nat → Int32) (mk : Nat → Bool) (n1 : Nat) (pa1 va1 : Nat → Int32) (mk1 : Nat → Bool) (n2 : Nat) (pa2 va2 : Nat → Int32) (mk2 : Nat → Bool) (vs : Nat → Int32) (L : Nat) (fsl fsv fpt : Nat → Int32) (many : Int32) (I : LInv n G va n1 pa1 va1 mk1 n2 pa2 va2 mk2 L fsl fsv) (H : Heap) (locs : List Loc) (hP : va_P D vwCl (LW h f fa fb fc f1 fa1 fb1 fc1 f2 fa2 fb2 fc2 ph hq g st sl sv pt cI cZ n G va mk n1 pa1 va1 mk1 n2 pa2 va2 mk2 vs L fsl fsv fpt many) H) (hD : va_D (aI s) (LW h f fa fb fc f1 fa1 fb1 fc1 f2 fa2 fb2 fc2 ph hq g st sl sv pt cI cZ n G va mk n1 pa1 va1 mk1 n2 pa2 va2 mk2 vs L fsl fsv fpt many)) (hS : va_S (aI s) s.heap H locs) : Wl p l e s m b below meth c H locs (F0 m 870 ls []) := by
  obtain ⟨hx, hb, hr, hml, hown, hts, hX, hbl, hlocks, hgv⟩ := C0
  have hts := fun w h => hts w (wsL_law_in w h)
  have hown : s.vm.findClass RL = some m.cls := hown
  obtain ⟨F, hva, hL, hs0, hs1⟩ := I
  have hP : va_P D vwCl (wO h f f1 f2 ph ++ wF f fa fb fc cI cZ n (fo_cp G) va mk ++ wF f1 fa1 fb1 fc1 cI cZ n1 pa1 va1 mk1 ++ wF f2 fa2 fb2 fc2 cI cZ n2 pa2 va2 mk2 ++ wP ph hq cI vs (nI L) ++ wM g st sl sv pt cI cZ (mst n G va mk) fsl fsv fpt many) H := hP
  have hD : va_D (aI s) (wO h f f1 f2 ph ++ wF f fa fb fc cI cZ n (fo_cp G) va mk ++ wF f1 fa1 fb1 fc1 cI cZ n1 pa1 va1 mk1 ++ wF f2 fa2 fb2 fc2 cI cZ n2 pa2 va2 mk2 ++ wP ph hq cI vs (nI L) ++ wM g st sl sv pt cI cZ (mst n G va mk) fsl fsv fpt many) := hD
  refine lv_aload_n hx hb dL_law_870 rfl (lv_at hl 1 rfl) ?_
  refine lv_aload_n hx hb dL_law_871 rfl (lv_at hl 0 rfl) ?_
  refine lv_iload_n hx hb dL_law_872 rfl (lv_at hl 3 rfl) ?_
  refine lv_iconst (v := 1) hx hb dL_law_873 (by decide) ?_
  refine lv_iadd hx hb dL_law_874 ?_
  rw [show ((nI i) + 1 : Int32) = nI (i + 1) from nI_add i 1]
  refine sc_ld hx hb hX hbl hS (k := (i + 1)) (by omega) hLen dL_law_875 ?_
  refine lv_aload_n hx hb dL_law_876 rfl (lv_at hl 0 rfl) ?_
  refine lv_iload_n hx hb dL_law_877 rfl (lv_at hl 3 rfl) ?_
  refine lv_iconst (v := 2) hx hb dL_law_878 (by decide) ?_
  refine lv_iadd hx hb dL_law_879 ?_
  rw [show ((nI i) + 2 : Int32) = nI (i + 2) from nI_add i 2]
  refine sc_ld hx hb hX hbl hS (k := (i + 2)) (by omega) hLen dL_law_880 ?_
  refine wr_call (V1 := wO h f f1 f2 ph ++ wF f fa fb fc cI cZ n (fo_cp G) (ga n (xs (i + 1)) (fun j => if isV (xs (i + 2)) = true then upd va j (xs (i + 2)) else va) va) mk ++ wF f1 fa1 fb1 fc1 cI cZ n1 pa1 va1 mk1 ++ wF f2 fa2 fb2 fc2 cI cZ n2 pa2 va2 mk2 ++ wP ph hq cI vs (nI L) ++ wM g st sl sv pt cI cZ (mst n G va mk) fsl fsv fpt many) ⟨hx, hb, hml, hown, hts⟩ (c_X2_setValue l D cI cZ h f1 f2 ph f fa fb fc n G va mk F (xs (i + 1)) (xs (i + 2))) (cwV 2 hts gL_law_X2_setValue rfl rfl rfl (by decide +kernel) ⟨Nat.le_of_ble_eq_true rfl, Nat.le_of_ble_eq_true rfl⟩) hP hK hD hS [0, 1, 2, 3, 4] [5, 6, 7, 8, 9, 10, 11, 12, 13, 14, 15, 16, 17, 18, 19] [15, 16, 17, 18, 19, 0, 1, 2, 3, 4, 5, 6, 7, 8, 9, 10, 11, 12, 13, 14] rfl rfl (by decide) rfl rfl rfl rfl rfl hl rfl (Nat.le_of_ble_eq_true rfl) dL_law_881 ⟨Nat.le_of_ble_eq_true rfl, Nat.le_of_ble_eq_true rfl⟩ (fun H locs hP hD hS => ?_)
  refine lv_aload_n hx hb dL_law_884 rfl (lv_at hl 2 rfl) ?_
  refine lv_aload_n hx hb dL_law_885 rfl (lv_at hl 0 rfl) ?_
  refine lv_iload_n hx hb dL_law_886 rfl (lv_at hl 3 rfl) ?_
  refine lv_iconst (v := 1) hx hb dL_law_887 (by decide) ?_
  refine lv_iadd hx hb dL_law_888 ?_
  rw [show ((nI i) + 1 : Int32) = nI (i + 1) from nI_add i 1]
  refine sc_ld hx hb hX hbl hS (k := (i + 1)) (by omega) hLen dL_law_889 ?_
  refine lv_aload_n hx hb dL_law_890 rfl (lv_at hl 0 rfl) ?_
  refine lv_iload_n hx hb dL_law_891 rfl (lv_at hl 3 rfl) ?_
  refine lv_iconst (v := 2) hx hb dL_law_892 (by decide) ?_
  refine lv_iadd hx hb dL_law_893 ?_
  rw [show ((nI i) + 2 : Int32) = nI (i + 2) from nI_add i 2]
  refine sc_ld hx hb hX hbl hS (k := (i + 2)) (by omega) hLen dL_law_894 ?_
  refine wr_call (V1 := wO h f f1 f2 ph ++ wF f fa fb fc cI cZ n (fo_cp G) (ga n (xs (i + 1)) (fun j => if isV (xs (i + 2)) = true then upd va j (xs (i + 2)) else va) va) mk ++ wF f1 fa1 fb1 fc1 cI cZ n1 pa1 va1 mk1 ++ wF f2 fa2 fb2 fc2 cI cZ n2 pa2 va2 mk2 ++ wP ph hq cI vs (nI L) ++ wM g st sl sv pt cI cZ (mst n G (ga n (xs (i + 1)) (fun j => if isV (xs (i + 2)) = true then upd va j (xs (i + 2)) else va) va) mk) fsl fsv fpt many) ⟨hx, hb, hml, hown, hts⟩ (c_X3_setValue l D cI cZ g st sl sv pt fsl fsv fpt many n G va mk F (xs (i + 1)) (xs (i + 2))) (cwV 2 hts gL_law_X3_setValue rfl rfl rfl (by decide +kernel) ⟨Nat.le_of_ble_eq_true rfl, Nat.le_of_ble_eq_true rfl⟩) hP hK hD hS [15, 16, 17, 18, 19] [0, 1, 2, 3, 4, 5, 6, 7, 8, 9, 10, 11, 12, 13, 14] [0, 1, 2, 3, 4, 5, 6, 7, 8, 9, 10, 11, 12, 13, 14, 15, 16, 17, 18, 19] rfl rfl (by decide) rfl rfl rfl rfl rfl hl rfl (Nat.le_of_ble_eq_true rfl) dL_law_895 ⟨Nat.le_of_ble_eq_true rfl, Nat.le_of_ble_eq_true rfl⟩ (fun H locs hP hD hS => ?_)
  refine lv_icmp_eq (tgt := 1044) hx hb dL_law_898 (by decide) (fun c_898 => ?_) (fun c_898 => ?_)
  · skip
    exact kk n G (ga n (xs (i + 1)) (fun j => if isV (xs (i + 2)) = true then upd va j (xs (i + 2)) else va) va) mk n1 pa1 va1 mk1 n2 pa2 va2 mk2 vs L fsl fsv fpt many ⟨F, setValue_ok F hva _ _, hL, hs0, hs1⟩ H locs hP hD hS
  · skip
    exact absurd rfl c_898
set_option maxHeartbeats 4000000 in
set_option maxRecDepth 100000 in
/-- case 25: value -/
theorem lc_25 {p : Program} {l : Launch} {e : Env} {s : State} {m : MethodId} {below : List Frame} {meth : Method} {c : Code} {b Len : Nat} {xs : Nat → Int32} (C0 : lw_At p s m meth c b Len xs) (hLen : Len ≤ 2048) {D : va_G} {cI cZ : ClassId} (hK : KK D cI cZ s) {h f fa fb fc f1 fa1 fb1 fc1 f2 fa2 fb2 fc2 ph hq g st sl sv pt : Nat} {i : Nat} (hi : i + 4 ≤ Len) {ls : Array Slot} (hl : lv_has ls 4 [(0, .ref b), (1, .ref h), (2, .ref g), (3, .int (nI i))]) (kk : LKont p l e s m b below meth c D cI cZ h f fa fb fc f1 fa1 fb1 fc1 f2 fa2 fb2 fc2 ph hq g st sl sv pt ls)
    (n : Nat) (G : Nat → Nat) (va : Nat → Int32) (mk : Nat → Bool) (n1 : Nat) (pa1 va1 : Nat → Int32) (mk1 : Nat → Bool) (n2 : Nat) (pa2 va2 : Nat → Int32) (mk2 : Nat → Bool) (vs : Nat → Int32) (L : Nat) (fsl fsv fpt : Nat → Int32) (many : Int32) (I : LInv n G va n1 pa1 va1 mk1 n2 pa2 va2 mk2 L fsl fsv) (H : Heap) (locs : List Loc) (hP : va_P D vwCl (LW h f fa fb fc f1 fa1 fb1 fc1 f2 fa2 fb2 fc2 ph hq g st sl sv pt cI cZ n G va mk n1 pa1 va1 mk1 n2 pa2 va2 mk2 vs L fsl fsv fpt many) H) (hD : va_D (aI s) (LW h f fa fb fc f1 fa1 fb1 fc1 f2 fa2 fb2 fc2 ph hq g st sl sv pt cI cZ n G va mk n1 pa1 va1 mk1 n2 pa2 va2 mk2 vs L fsl fsv fpt many)) (hS : va_S (aI s) s.heap H locs) : Wl p l e s m b below meth c H locs (F0 m 903 ls []) := by
  obtain ⟨hx, hb, hr, hml, hown, hts, hX, hbl, hlocks, hgv⟩ := C0
  have hts := fun w h => hts w (wsL_law_in w h)
  have hown : s.vm.findClass RL = some m.cls := hown
  obtain ⟨F, hva, hL, hs0, hs1⟩ := I
  have hP : va_P D vwCl (wO h f f1 f2 ph ++ wF f fa fb fc cI cZ n (fo_cp G) va mk ++ wF f1 fa1 fb1 fc1 cI cZ n1 pa1 va1 mk1 ++ wF f2 fa2 fb2 fc2 cI cZ n2 pa2 va2 mk2 ++ wP ph hq cI vs (nI L) ++ wM g st sl sv pt cI cZ (mst n G va mk) fsl fsv fpt many) H := hP
  have hD : va_D (aI s) (wO h f f1 f2 ph ++ wF f fa fb fc cI cZ n (fo_cp G) va mk ++ wF f1 fa1 fb1 fc1 cI cZ n1 pa1 va1 mk1 ++ wF f2 fa2 fb2 fc2 cI cZ n2 pa2 va2 mk2 ++ wP ph hq cI vs (nI L) ++ wM g st sl sv pt cI cZ (mst n G va mk) fsl fsv fpt many) := hD
  refine lv_aload_n hx hb dL_law_903 rfl (lv_at hl 1 rfl) ?_
  refine lv_aload_n hx hb dL_law_904 rfl (lv_at hl 0 rfl) ?_
  refine lv_iload_n hx hb dL_law_905 rfl (lv_at hl 3 rfl) ?_
  refine lv_iconst (v := 1) hx hb dL_law_906 (by decide) ?_
  refine lv_iadd hx hb dL_law_907 ?_
  rw [show ((nI i) + 1 : Int32) = nI (i + 1) from nI_add i 1]
  refine sc_ld hx hb hX hbl hS (k := (i + 1)) (by omega) hLen dL_law_908 ?_
  refine rd_call ⟨hx, hb, hml, hown, hts⟩ (c_X2_value l D cI cZ h f1 f2 ph f fa fb fc n G va mk F (xs (i + 1))) (cwV 1 hts gL_law_X2_value rfl rfl rfl (by decide +kernel) ⟨Nat.le_of_ble_eq_true rfl, Nat.le_of_ble_eq_true rfl⟩) (hP.sub (ws' := wO h f f1 f2 ph ++ wF f fa fb fc cI cZ n (fo_cp G) va mk) [0, 1, 2, 3, 4] rfl) hK rfl rfl rfl hl rfl (Nat.le_of_ble_eq_true rfl) dL_law_909 ⟨Nat.le_of_ble_eq_true rfl, Nat.le_of_ble_eq_true rfl⟩ ?_
  refine lv_aload_n hx hb dL_law_912 rfl (lv_at hl 2 rfl) ?_
  refine lv_aload_n hx hb dL_law_913 rfl (lv_at hl 0 rfl) ?_
  refine lv_iload_n hx hb dL_law_914 rfl (lv_at hl 3 rfl) ?_
  refine lv_iconst (v := 1) hx hb dL_law_915 (by decide) ?_
  refine lv_iadd hx hb dL_law_916 ?_
  rw [show ((nI i) + 1 : Int32) = nI (i + 1) from nI_add i 1]
  refine sc_ld hx hb hX hbl hS (k := (i + 1)) (by omega) hLen dL_law_917 ?_
  refine rd_call ⟨hx, hb, hml, hown, hts⟩ (c_X3_value l D cI cZ g st sl sv pt fsl fsv fpt many n G va mk F (xs (i + 1))) (cwV 1 hts gL_law_X3_value rfl rfl rfl (by decide +kernel) ⟨Nat.le_of_ble_eq_true rfl, Nat.le_of_ble_eq_true rfl⟩) (hP.sub (ws' := wM g st sl sv pt cI cZ (mst n G va mk) fsl fsv fpt many) [15, 16, 17, 18, 19] rfl) hK rfl rfl rfl hl rfl (Nat.le_of_ble_eq_true rfl) dL_law_918 ⟨Nat.le_of_ble_eq_true rfl, Nat.le_of_ble_eq_true rfl⟩ ?_
  refine lv_icmp_eq (tgt := 1044) hx hb dL_law_921 (by decide) (fun c_921 => ?_) (fun c_921 => ?_)
  · skip
    exact kk n G va mk n1 pa1 va1 mk1 n2 pa2 va2 mk2 vs L fsl fsv fpt many ⟨F, hva, hL, hs0, hs1⟩ H locs hP hD hS
  · skip
    exact absurd rfl c_921
set_option maxHeartbeats 4000000 in
set_option maxRecDepth 100000 in
/-- case 26: setMark -/
theorem lc_26 {p : Program} {l : Launch} {e : Env} {s : State} {m : MethodId} {below : List Frame} {meth : Method} {c : Code} {b Len : Nat} {xs : Nat → Int32} (C0 : lw_At p s m meth c b Len xs) (hLen : Len ≤ 2048) {D : va_G} {cI cZ : ClassId} (hK : KK D cI cZ s) {h f fa fb fc f1 fa1 fb1 fc1 f2 fa2 fb2 fc2 ph hq g st sl sv pt : Nat} {i : Nat} (hi : i + 4 ≤ Len) {ls : Array Slot} (hl : lv_has ls 4 [(0, .ref b), (1, .ref h), (2, .ref g), (3, .int (nI i))]) (kk : LKont p l e s m b below meth c D cI cZ h f fa fb fc f1 fa1 fb1 fc1 f2 fa2 fb2 fc2 ph hq g st sl sv pt ls)
    (n : Nat) (G : Nat → Nat) (va : Nat → Int32) (mk : Nat → Bool) (n1 : Nat) (pa1 va1 : Nat → Int32) (mk1 : Nat → Bool) (n2 : Nat) (pa2 va2 : Nat → Int32) (mk2 : Nat → Bool) (vs : Nat → Int32) (L : Nat) (fsl fsv fpt : Nat → Int32) (many : Int32) (I : LInv n G va n1 pa1 va1 mk1 n2 pa2 va2 mk2 L fsl fsv) (H : Heap) (locs : List Loc) (hP : va_P D vwCl (LW h f fa fb fc f1 fa1 fb1 fc1 f2 fa2 fb2 fc2 ph hq g st sl sv pt cI cZ n G va mk n1 pa1 va1 mk1 n2 pa2 va2 mk2 vs L fsl fsv fpt many) H) (hD : va_D (aI s) (LW h f fa fb fc f1 fa1 fb1 fc1 f2 fa2 fb2 fc2 ph hq g st sl sv pt cI cZ n G va mk n1 pa1 va1 mk1 n2 pa2 va2 mk2 vs L fsl fsv fpt many)) (hS : va_S (aI s) s.heap H locs) : Wl p l e s m b below meth c H locs (F0 m 926 ls []) := by
  obtain ⟨hx, hb, hr, hml, hown, hts, hX, hbl, hlocks, hgv⟩ := C0
  have hts := fun w h => hts w (wsL_law_in w h)
  have hown : s.vm.findClass RL = some m.cls := hown
  obtain ⟨F, hva, hL, hs0, hs1⟩ := I
  have hP : va_P D vwCl (wO h f f1 f2 ph ++ wF f fa fb fc cI cZ n (fo_cp G) va mk ++ wF f1 fa1 fb1 fc1 cI cZ n1 pa1 va1 mk1 ++ wF f2 fa2 fb2 fc2 cI cZ n2 pa2 va2 mk2 ++ wP ph hq cI vs (nI L) ++ wM g st sl sv pt cI cZ (mst n G va mk) fsl fsv fpt many) H := hP
  have hD : va_D (aI s) (wO h f f1 f2 ph ++ wF f fa fb fc cI cZ n (fo_cp G) va mk ++ wF f1 fa1 fb1 fc1 cI cZ n1 pa1 va1 mk1 ++ wF f2 fa2 fb2 fc2 cI cZ n2 pa2 va2 mk2 ++ wP ph hq cI vs (nI L) ++ wM g st sl sv pt cI cZ (mst n G va mk) fsl fsv fpt many) := hD
  refine lv_aload_n hx hb dL_law_926 rfl (lv_at hl 1 rfl) ?_
  refine lv_aload_n hx hb dL_law_927 rfl (lv_at hl 0 rfl) ?_
  refine lv_iload_n hx hb dL_law_928 rfl (lv_at hl 3 rfl) ?_
  refine lv_iconst (v := 1) hx hb dL_law_929 (by decide) ?_
  refine lv_iadd hx hb dL_law_930 ?_
  rw [show ((nI i) + 1 : Int32) = nI (i + 1) from nI_add i 1]
  refine sc_ld hx hb hX hbl hS (k := (i + 1)) (by omega) hLen dL_law_931 ?_
  refine lv_aload_n hx hb dL_law_932 rfl (lv_at hl 0 rfl) ?_
  refine lv_iload_n hx hb dL_law_933 rfl (lv_at hl 3 rfl) ?_
  refine lv_iconst (v := 2) hx hb dL_law_934 (by decide) ?_
  refine lv_iadd hx hb dL_law_935 ?_
  rw [show ((nI i) + 2 : Int32) = nI (i + 2) from nI_add i 2]
  refine sc_ld hx hb hX hbl hS (k := (i + 2)) (by omega) hLen dL_law_936 ?_
  refine lv_if_eq (tgt := 944) hx hb dL_law_937 (by decide) (fun c_937 => ?_) (fun c_937 => ?_)
  · skip
    refine lv_iconst (v := 0) hx hb dL_law_944 (by decide) ?_
    refine wr_call (V1 := wO h f f1 f2 ph ++ wF f fa fb fc cI cZ n (fo_cp G) va (ga n (xs (i + 1)) (fun j => bset mk j false) mk) ++ wF f1 fa1 fb1 fc1 cI cZ n1 pa1 va1 mk1 ++ wF f2 fa2 fb2 fc2 cI cZ n2 pa2 va2 mk2 ++ wP ph hq cI vs (nI L) ++ wM g st sl sv pt cI cZ (mst n G va mk) fsl fsv fpt many) ⟨hx, hb, hml, hown, hts⟩ (c_X2_setMark l D cI cZ h f1 f2 ph f fa fb fc n G va mk F (xs (i + 1)) false) (cwV 2 hts gL_law_X2_setMark rfl rfl rfl (by decide +kernel) ⟨Nat.le_of_ble_eq_true rfl, Nat.le_of_ble_eq_true rfl⟩) hP hK hD hS [0, 1, 2, 3, 4] [5, 6, 7, 8, 9, 10, 11, 12, 13, 14, 15, 16, 17, 18, 19] [15, 16, 17, 18, 19, 0, 1, 2, 3, 4, 5, 6, 7, 8, 9, 10, 11, 12, 13, 14] rfl rfl (by decide) rfl rfl rfl rfl rfl hl rfl (Nat.le_of_ble_eq_true rfl) dL_law_945 ⟨Nat.le_of_ble_eq_true rfl, Nat.le_of_ble_eq_true rfl⟩ (fun H locs hP hD hS => ?_)
    refine lv_aload_n hx hb dL_law_948 rfl (lv_at hl 2 rfl) ?_
    refine lv_aload_n hx hb dL_law_949 rfl (lv_at hl 0 rfl) ?_
    refine lv_iload_n hx hb dL_law_950 rfl (lv_at hl 3 rfl) ?_
    refine lv_iconst (v := 1) hx hb dL_law_951 (by decide) ?_
    refine lv_iadd hx hb dL_law_952 ?_
    rw [show ((nI i) + 1 : Int32) = nI (i + 1) from nI_add i 1]
    refine sc_ld hx hb hX hbl hS (k := (i + 1)) (by omega) hLen dL_law_953 ?_
    refine lv_aload_n hx hb dL_law_954 rfl (lv_at hl 0 rfl) ?_
    refine lv_iload_n hx hb dL_law_955 rfl (lv_at hl 3 rfl) ?_
    refine lv_iconst (v := 2) hx hb dL_law_956 (by decide) ?_
    refine lv_iadd hx hb dL_law_957 ?_
    rw [show ((nI i) + 2 : Int32) = nI (i + 2) from nI_add i 2]
    refine sc_ld hx hb hX hbl hS (k := (i + 2)) (by omega) hLen dL_law_958 ?_
    refine lv_if_eq (tgt := 966) hx hb dL_law_959 (by decide) (fun c_959 => ?_) (fun c_959 => ?_)
    · skip
      refine lv_iconst (v := 0) hx hb dL_law_966 (by decide) ?_
      refine wr_call (V1 := wO h f f1 f2 ph ++ wF f fa fb fc cI cZ n (fo_cp G) va (ga n (xs (i + 1)) (fun j => bset mk j false) mk) ++ wF f1 fa1 fb1 fc1 cI cZ n1 pa1 va1 mk1 ++ wF f2 fa2 fb2 fc2 cI cZ n2 pa2 va2 mk2 ++ wP ph hq cI vs (nI L) ++ wM g st sl sv pt cI cZ (mst n G va (ga n (xs (i + 1)) (fun j => bset mk j false) mk)) fsl fsv fpt many) ⟨hx, hb, hml, hown, hts⟩ (c_X3_setMark l D cI cZ g st sl sv pt fsl fsv fpt many n G va mk F (xs (i + 1)) false) (cwV 2 hts gL_law_X3_setMark rfl rfl rfl (by decide +kernel) ⟨Nat.le_of_ble_eq_true rfl, Nat.le_of_ble_eq_true rfl⟩) hP hK hD hS [15, 16, 17, 18, 19] [0, 1, 2, 3, 4, 5, 6, 7, 8, 9, 10, 11, 12, 13, 14] [0, 1, 2, 3, 4, 5, 6, 7, 8, 9, 10, 11, 12, 13, 14, 15, 16, 17, 18, 19] rfl rfl (by decide) rfl rfl rfl rfl rfl hl rfl (Nat.le_of_ble_eq_true rfl) dL_law_967 ⟨Nat.le_of_ble_eq_true rfl, Nat.le_of_ble_eq_true rfl⟩ (fun H locs hP hD hS => ?_)
      refine lv_icmp_eq (tgt := 1044) hx hb dL_law_970 (by decide) (fun c_970 => ?_) (fun c_970 => ?_)
      · skip
        exact kk n G va (ga n (xs (i + 1)) (fun j => bset mk j false) mk) n1 pa1 va1 mk1 n2 pa2 va2 mk2 vs L fsl fsv fpt many ⟨F, hva, hL, hs0, hs1⟩ H locs hP hD hS
      · skip
        exact absurd rfl c_970
    · skip
      exact absurd c_937 c_959
  · skip
    refine lv_iconst (v := 1) hx hb dL_law_940 (by decide) ?_
    refine lv_goto (tgt := 945) hx hb dL_law_941 (by decide) ?_
    refine wr_call (V1 := wO h f f1 f2 ph ++ wF f fa fb fc cI cZ n (fo_cp G) va (ga n (xs (i + 1)) (fun j => bset mk j true) mk) ++ wF f1 fa1 fb1 fc1 cI cZ n1 pa1 va1 mk1 ++ wF f2 fa2 fb2 fc2 cI cZ n2 pa2 va2 mk2 ++ wP ph hq cI vs (nI L) ++ wM g st sl sv pt cI cZ (mst n G va mk) fsl fsv fpt many) ⟨hx, hb, hml, hown, hts⟩ (c_X2_setMark l D cI cZ h f1 f2 ph f fa fb fc n G va mk F (xs (i + 1)) true) (cwV 2 hts gL_law_X2_setMark rfl rfl rfl (by decide +kernel) ⟨Nat.le_of_ble_eq_true rfl, Nat.le_of_ble_eq_true rfl⟩) hP hK hD hS [0, 1, 2, 3, 4] [5, 6, 7, 8, 9, 10, 11, 12, 13, 14, 15, 16, 17, 18, 19] [15, 16, 17, 18, 19, 0, 1, 2, 3, 4, 5, 6, 7, 8, 9, 10, 11, 12, 13, 14] rfl rfl (by decide) rfl rfl rfl rfl rfl hl rfl (Nat.le_of_ble_eq_true rfl) dL_law_945 ⟨Nat.le_of_ble_eq_true rfl, Nat.le_of_ble_eq_true rfl⟩ (fun H locs hP hD hS => ?_)
    refine lv_aload_n hx hb dL_law_948 rfl (lv_at hl 2 rfl) ?_
    refine lv_aload_n hx hb dL_law_949 rfl (lv_at hl 0 rfl) ?_
    refine lv_iload_n hx hb dL_law_950 rfl (lv_at hl 3 rfl) ?_
    refine lv_iconst (v := 1) hx hb dL_law_951 (by decide) ?_
    refine lv_iadd hx hb dL_law_952 ?_
    rw [show ((nI i) + 1 : Int32) = nI (i + 1) from nI_add i 1]
    refine sc_ld hx hb hX hbl hS (k := (i + 1)) (by omega) hLen dL_law_953 ?_
    refine lv_aload_n hx hb dL_law_954 rfl (lv_at hl 0 rfl) ?_
    refine lv_iload_n hx hb dL_law_955 rfl (lv_at hl 3 rfl) ?_
    refine lv_iconst (v := 2) hx hb dL_law_956 (by decide) ?_
    refine lv_iadd hx hb dL_law_957 ?_
    rw [show ((nI i) + 2 : Int32) = nI (i + 2) from nI_add i 2]
    refine sc_ld hx hb hX hbl hS (k := (i + 2)) (by omega) hLen dL_law_958 ?_
    refine lv_if_eq (tgt := 966) hx hb dL_law_959 (by decide) (fun c_959 => ?_) (fun c_959 => ?_)
    · skip
      exact absurd c_959 c_937
    · skip
      refine lv_iconst (v := 1) hx hb dL_law_962 (by decide) ?_
      refine lv_goto (tgt := 967) hx hb dL_law_963 (by decide) ?_
      refine wr_call (V1 := wO h f f1 f2 ph ++ wF f fa fb fc cI cZ n (fo_cp G) va (ga n (xs (i + 1)) (fun j => bset mk j true) mk) ++ wF f1 fa1 fb1 fc1 cI cZ n1 pa1 va1 mk1 ++ wF f2 fa2 fb2 fc2 cI cZ n2 pa2 va2 mk2 ++ wP ph hq cI vs (nI L) ++ wM g st sl sv pt cI cZ (mst n G va (ga n (xs (i + 1)) (fun j => bset mk j true) mk)) fsl fsv fpt many) ⟨hx, hb, hml, hown, hts⟩ (c_X3_setMark l D cI cZ g st sl sv pt fsl fsv fpt many n G va mk F (xs (i + 1)) true) (cwV 2 hts gL_law_X3_setMark rfl rfl rfl (by decide +kernel) ⟨Nat.le_of_ble_eq_true rfl, Nat.le_of_ble_eq_true rfl⟩) hP hK hD hS [15, 16, 17, 18, 19] [0, 1, 2, 3, 4, 5, 6, 7, 8, 9, 10, 11, 12, 13, 14] [0, 1, 2, 3, 4, 5, 6, 7, 8, 9, 10, 11, 12, 13, 14, 15, 16, 17, 18, 19] rfl rfl (by decide) rfl rfl rfl rfl rfl hl rfl (Nat.le_of_ble_eq_true rfl) dL_law_967 ⟨Nat.le_of_ble_eq_true rfl, Nat.le_of_ble_eq_true rfl⟩ (fun H locs hP hD hS => ?_)
      refine lv_icmp_eq (tgt := 1044) hx hb dL_law_970 (by decide) (fun c_970 => ?_) (fun c_970 => ?_)
      · skip
        exact kk n G va (ga n (xs (i + 1)) (fun j => bset mk j true) mk) n1 pa1 va1 mk1 n2 pa2 va2 mk2 vs L fsl fsv fpt many ⟨F, hva, hL, hs0, hs1⟩ H locs hP hD hS
      · skip
        exact absurd rfl c_970
set_option maxHeartbeats 4000000 in
set_option maxRecDepth 100000 in
/-- case 27: nearestMarked -/
theorem lc_27 {p : Program} {l : Launch} {e : Env} {s : State} {m : MethodId} {below : List Frame} {meth : Method} {c : Code} {b Len : Nat} {xs : Nat → Int32} (C0 : lw_At p s m meth c b Len xs) (hLen : Len ≤ 2048) {D : va_G} {cI cZ : ClassId} (hK : KK D cI cZ s) {h f fa fb fc f1 fa1 fb1 fc1 f2 fa2 fb2 fc2 ph hq g st sl sv pt : Nat} {i : Nat} (hi : i + 4 ≤ Len) {ls : Array Slot} (hl : lv_has ls 4 [(0, .ref b), (1, .ref h), (2, .ref g), (3, .int (nI i))]) (kk : LKont p l e s m b below meth c D cI cZ h f fa fb fc f1 fa1 fb1 fc1 f2 fa2 fb2 fc2 ph hq g st sl sv pt ls)
    (n : Nat) (G : Nat → Nat) (va : Nat → Int32) (mk : Nat → Bool) (n1 : Nat) (pa1 va1 : Nat → Int32) (mk1 : Nat → Bool) (n2 : Nat) (pa2 va2 : Nat → Int32) (mk2 : Nat → Bool) (vs : Nat → Int32) (L : Nat) (fsl fsv fpt : Nat → Int32) (many : Int32) (I : LInv n G va n1 pa1 va1 mk1 n2 pa2 va2 mk2 L fsl fsv) (H : Heap) (locs : List Loc) (hP : va_P D vwCl (LW h f fa fb fc f1 fa1 fb1 fc1 f2 fa2 fb2 fc2 ph hq g st sl sv pt cI cZ n G va mk n1 pa1 va1 mk1 n2 pa2 va2 mk2 vs L fsl fsv fpt many) H) (hD : va_D (aI s) (LW h f fa fb fc f1 fa1 fb1 fc1 f2 fa2 fb2 fc2 ph hq g st sl sv pt cI cZ n G va mk n1 pa1 va1 mk1 n2 pa2 va2 mk2 vs L fsl fsv fpt many)) (hS : va_S (aI s) s.heap H locs) : Wl p l e s m b below meth c H locs (F0 m 975 ls []) := by
  obtain ⟨hx, hb, hr, hml, hown, hts, hX, hbl, hlocks, hgv⟩ := C0
  have hts := fun w h => hts w (wsL_law_in w h)
  have hown : s.vm.findClass RL = some m.cls := hown
  obtain ⟨F, hva, hL, hs0, hs1⟩ := I
  have hP : va_P D vwCl (wO h f f1 f2 ph ++ wF f fa fb fc cI cZ n (fo_cp G) va mk ++ wF f1 fa1 fb1 fc1 cI cZ n1 pa1 va1 mk1 ++ wF f2 fa2 fb2 fc2 cI cZ n2 pa2 va2 mk2 ++ wP ph hq cI vs (nI L) ++ wM g st sl sv pt cI cZ (mst n G va mk) fsl fsv fpt many) H := hP
  have hD : va_D (aI s) (wO h f f1 f2 ph ++ wF f fa fb fc cI cZ n (fo_cp G) va mk ++ wF f1 fa1 fb1 fc1 cI cZ n1 pa1 va1 mk1 ++ wF f2 fa2 fb2 fc2 cI cZ n2 pa2 va2 mk2 ++ wP ph hq cI vs (nI L) ++ wM g st sl sv pt cI cZ (mst n G va mk) fsl fsv fpt many) := hD
  refine lv_aload_n hx hb dL_law_975 rfl (lv_at hl 1 rfl) ?_
  refine lv_aload_n hx hb dL_law_976 rfl (lv_at hl 0 rfl) ?_
  refine lv_iload_n hx hb dL_law_977 rfl (lv_at hl 3 rfl) ?_
  refine lv_iconst (v := 1) hx hb dL_law_978 (by decide) ?_
  refine lv_iadd hx hb dL_law_979 ?_
  rw [show ((nI i) + 1 : Int32) = nI (i + 1) from nI_add i 1]
  refine sc_ld hx hb hX hbl hS (k := (i + 1)) (by omega) hLen dL_law_980 ?_
  refine rd_call ⟨hx, hb, hml, hown, hts⟩ (c_X2_nearestMarked l D cI cZ h f1 f2 ph f fa fb fc n G va mk F (xs (i + 1))) (cwV 1 hts gL_law_X2_nearestMarked rfl rfl rfl (by decide +kernel) ⟨Nat.le_of_ble_eq_true rfl, Nat.le_of_ble_eq_true rfl⟩) (hP.sub (ws' := wO h f f1 f2 ph ++ wF f fa fb fc cI cZ n (fo_cp G) va mk) [0, 1, 2, 3, 4] rfl) hK rfl rfl rfl hl rfl (Nat.le_of_ble_eq_true rfl) dL_law_981 ⟨Nat.le_of_ble_eq_true rfl, Nat.le_of_ble_eq_true rfl⟩ ?_
  refine lv_aload_n hx hb dL_law_984 rfl (lv_at hl 2 rfl) ?_
  refine lv_aload_n hx hb dL_law_985 rfl (lv_at hl 0 rfl) ?_
  refine lv_iload_n hx hb dL_law_986 rfl (lv_at hl 3 rfl) ?_
  refine lv_iconst (v := 1) hx hb dL_law_987 (by decide) ?_
  refine lv_iadd hx hb dL_law_988 ?_
  rw [show ((nI i) + 1 : Int32) = nI (i + 1) from nI_add i 1]
  refine sc_ld hx hb hX hbl hS (k := (i + 1)) (by omega) hLen dL_law_989 ?_
  refine rd_call ⟨hx, hb, hml, hown, hts⟩ (c_X3_nearestMarked l D cI cZ g st sl sv pt fsl fsv fpt many n G va mk F (xs (i + 1))) (cwV 1 hts gL_law_X3_nearestMarked rfl rfl rfl (by decide +kernel) ⟨Nat.le_of_ble_eq_true rfl, Nat.le_of_ble_eq_true rfl⟩) (hP.sub (ws' := wM g st sl sv pt cI cZ (mst n G va mk) fsl fsv fpt many) [15, 16, 17, 18, 19] rfl) hK rfl rfl rfl hl rfl (Nat.le_of_ble_eq_true rfl) dL_law_990 ⟨Nat.le_of_ble_eq_true rfl, Nat.le_of_ble_eq_true rfl⟩ ?_
  refine lv_icmp_eq (tgt := 1044) hx hb dL_law_993 (by decide) (fun c_993 => ?_) (fun c_993 => ?_)
  · skip
    exact kk n G va mk n1 pa1 va1 mk1 n2 pa2 va2 mk2 vs L fsl fsv fpt many ⟨F, hva, hL, hs0, hs1⟩ H locs hP hD hS
  · skip
    exact absurd rfl c_993
set_option maxHeartbeats 4000000 in
set_option maxRecDepth 100000 in
/-- case 28: save -/
theorem lc_28 {p : Program} {l : Launch} {e : Env} {s : State} {m : MethodId} {below : List Frame} {meth : Method} {c : Code} {b Len : Nat} {xs : Nat → Int32} (C0 : lw_At p s m meth c b Len xs) (hLen : Len ≤ 2048) {D : va_G} {cI cZ : ClassId} (hK : KK D cI cZ s) {h f fa fb fc f1 fa1 fb1 fc1 f2 fa2 fb2 fc2 ph hq g st sl sv pt : Nat} {i : Nat} (hi : i + 4 ≤ Len) {ls : Array Slot} (hl : lv_has ls 4 [(0, .ref b), (1, .ref h), (2, .ref g), (3, .int (nI i))]) (kk : LKont p l e s m b below meth c D cI cZ h f fa fb fc f1 fa1 fb1 fc1 f2 fa2 fb2 fc2 ph hq g st sl sv pt ls)
    (n : Nat) (G : Nat → Nat) (va : Nat → Int32) (mk : Nat → Bool) (n1 : Nat) (pa1 va1 : Nat → Int32) (mk1 : Nat → Bool) (n2 : Nat) (pa2 va2 : Nat → Int32) (mk2 : Nat → Bool) (vs : Nat → Int32) (L : Nat) (fsl fsv fpt : Nat → Int32) (many : Int32) (I : LInv n G va n1 pa1 va1 mk1 n2 pa2 va2 mk2 L fsl fsv) (H : Heap) (locs : List Loc) (hP : va_P D vwCl (LW h f fa fb fc f1 fa1 fb1 fc1 f2 fa2 fb2 fc2 ph hq g st sl sv pt cI cZ n G va mk n1 pa1 va1 mk1 n2 pa2 va2 mk2 vs L fsl fsv fpt many) H) (hD : va_D (aI s) (LW h f fa fb fc f1 fa1 fb1 fc1 f2 fa2 fb2 fc2 ph hq g st sl sv pt cI cZ n G va mk n1 pa1 va1 mk1 n2 pa2 va2 mk2 vs L fsl fsv fpt many)) (hS : va_S (aI s) s.heap H locs) : Wl p l e s m b below meth c H locs (F0 m 998 ls []) := by
  obtain ⟨hx, hb, hr, hml, hown, hts, hX, hbl, hlocks, hgv⟩ := C0
  have hts := fun w h => hts w (wsL_law_in w h)
  have hown : s.vm.findClass RL = some m.cls := hown
  obtain ⟨F, hva, hL, hs0, hs1⟩ := I
  have hP : va_P D vwCl (wO h f f1 f2 ph ++ wF f fa fb fc cI cZ n (fo_cp G) va mk ++ wF f1 fa1 fb1 fc1 cI cZ n1 pa1 va1 mk1 ++ wF f2 fa2 fb2 fc2 cI cZ n2 pa2 va2 mk2 ++ wP ph hq cI vs (nI L) ++ wM g st sl sv pt cI cZ (mst n G va mk) fsl fsv fpt many) H := hP
  have hD : va_D (aI s) (wO h f f1 f2 ph ++ wF f fa fb fc cI cZ n (fo_cp G) va mk ++ wF f1 fa1 fb1 fc1 cI cZ n1 pa1 va1 mk1 ++ wF f2 fa2 fb2 fc2 cI cZ n2 pa2 va2 mk2 ++ wP ph hq cI vs (nI L) ++ wM g st sl sv pt cI cZ (mst n G va mk) fsl fsv fpt many) := hD
  by_cases h0 : xs (i + 1) = 0
  · skip
    refine lv_aload_n hx hb dL_law_998 rfl (lv_at hl 1 rfl) ?_
    refine lv_aload_n hx hb dL_law_999 rfl (lv_at hl 0 rfl) ?_
    refine lv_iload_n hx hb dL_law_1000 rfl (lv_at hl 3 rfl) ?_
    refine lv_iconst (v := 1) hx hb dL_law_1001 (by decide) ?_
    refine lv_iadd hx hb dL_law_1002 ?_
    rw [show ((nI i) + 1 : Int32) = nI (i + 1) from nI_add i 1]
    refine sc_ld hx hb hX hbl hS (k := (i + 1)) (by omega) hLen dL_law_1003 ?_
    rw [h0]
    refine wr_call (V1 := wO h f f1 f2 ph ++ wF f fa fb fc cI cZ n (fo_cp G) va mk ++ wF f1 fa1 fb1 fc1 cI cZ n (fo_cp G) va mk ++ wF f2 fa2 fb2 fc2 cI cZ n2 pa2 va2 mk2 ++ wP ph hq cI vs (nI L) ++ wM g st sl sv pt cI cZ (mst n G va mk) fsl fsv fpt many) ⟨hx, hb, hml, hown, hts⟩ (c_X2_save_0 l D cI cZ h f1 f2 ph f fa fb fc n G va mk F fa1 fb1 fc1 n1 pa1 va1 mk1 fa2 fb2 fc2 n2 pa2 va2 mk2) (cwV 1 hts gL_law_X2_save rfl rfl rfl (by decide +kernel) ⟨Nat.le_of_ble_eq_true rfl, Nat.le_of_ble_eq_true rfl⟩) hP hK hD hS [0, 1, 2, 3, 4, 5, 6, 7, 8, 9, 10, 11, 12] [13, 14, 15, 16, 17, 18, 19] [7, 8, 9, 10, 11, 12, 13, 14, 15, 16, 17, 18, 19, 0, 1, 2, 3, 4, 5, 6] rfl rfl (by decide) rfl rfl rfl rfl rfl hl rfl (Nat.le_of_ble_eq_true rfl) dL_law_1004 ⟨Nat.le_of_ble_eq_true rfl, Nat.le_of_ble_eq_true rfl⟩ (fun H locs hP hD hS => ?_)
    refine lv_aload_n hx hb dL_law_1007 rfl (lv_at hl 2 rfl) ?_
    refine lv_aload_n hx hb dL_law_1008 rfl (lv_at hl 0 rfl) ?_
    refine lv_iload_n hx hb dL_law_1009 rfl (lv_at hl 3 rfl) ?_
    refine lv_iconst (v := 1) hx hb dL_law_1010 (by decide) ?_
    refine lv_iadd hx hb dL_law_1011 ?_
    rw [show ((nI i) + 1 : Int32) = nI (i + 1) from nI_add i 1]
    refine sc_ld hx hb hX hbl hS (k := (i + 1)) (by omega) hLen dL_law_1012 ?_
    rw [h0]
    refine wr_call (V1 := wO h f f1 f2 ph ++ wF f fa fb fc cI cZ n (fo_cp G) va mk ++ wF f1 fa1 fb1 fc1 cI cZ n (fo_cp G) va mk ++ wF f2 fa2 fb2 fc2 cI cZ n2 pa2 va2 mk2 ++ wP ph hq cI vs (nI L) ++ wM g st sl sv pt cI cZ (mst n G va mk) (fillAt 0 193 (mst n G va mk) fsl) (upd fsv 0 1) fpt many) ⟨hx, hb, hml, hown, hts⟩ (c_X3_save_0 l D cI cZ g st sl sv pt fsl fsv fpt many n G va mk F) (cwV 1 hts gL_law_X3_save rfl rfl rfl (by decide +kernel) ⟨Nat.le_of_ble_eq_true rfl, Nat.le_of_ble_eq_true rfl⟩) hP hK hD hS [15, 16, 17, 18, 19] [0, 1, 2, 3, 4, 5, 6, 7, 8, 9, 10, 11, 12, 13, 14] [0, 1, 2, 3, 4, 5, 6, 7, 8, 9, 10, 11, 12, 13, 14, 15, 16, 17, 18, 19] rfl rfl (by decide) rfl rfl rfl rfl rfl hl rfl (Nat.le_of_ble_eq_true rfl) dL_law_1013 ⟨Nat.le_of_ble_eq_true rfl, Nat.le_of_ble_eq_true rfl⟩ (fun H locs hP hD hS => ?_)
    refine lv_icmp_eq (tgt := 1044) hx hb dL_law_1016 (by decide) (fun c_1016 => ?_) (fun c_1016 => ?_)
    · skip
      exact kk n G va mk n (fo_cp G) va mk n2 pa2 va2 mk2 vs L (fillAt 0 193 (mst n G va mk) fsl) (upd fsv 0 1) fpt many ⟨F, hva, hL, slR_new0 F hva _ _, slR_old1 hs1⟩ H locs hP hD hS
    · skip
      exact absurd rfl c_1016
  · by_cases h1 : xs (i + 1) = 1
    · skip
      refine lv_aload_n hx hb dL_law_998 rfl (lv_at hl 1 rfl) ?_
      refine lv_aload_n hx hb dL_law_999 rfl (lv_at hl 0 rfl) ?_
      refine lv_iload_n hx hb dL_law_1000 rfl (lv_at hl 3 rfl) ?_
      refine lv_iconst (v := 1) hx hb dL_law_1001 (by decide) ?_
      refine lv_iadd hx hb dL_law_1002 ?_
      rw [show ((nI i) + 1 : Int32) = nI (i + 1) from nI_add i 1]
      refine sc_ld hx hb hX hbl hS (k := (i + 1)) (by omega) hLen dL_law_1003 ?_
      rw [h1]
      refine wr_call (V1 := wO h f f1 f2 ph ++ wF f fa fb fc cI cZ n (fo_cp G) va mk ++ wF f1 fa1 fb1 fc1 cI cZ n1 pa1 va1 mk1 ++ wF f2 fa2 fb2 fc2 cI cZ n (fo_cp G) va mk ++ wP ph hq cI vs (nI L) ++ wM g st sl sv pt cI cZ (mst n G va mk) fsl fsv fpt many) ⟨hx, hb, hml, hown, hts⟩ (c_X2_save_1 l D cI cZ h f1 f2 ph f fa fb fc n G va mk F fa1 fb1 fc1 n1 pa1 va1 mk1 fa2 fb2 fc2 n2 pa2 va2 mk2) (cwV 1 hts gL_law_X2_save rfl rfl rfl (by decide +kernel) ⟨Nat.le_of_ble_eq_true rfl, Nat.le_of_ble_eq_true rfl⟩) hP hK hD hS [0, 1, 2, 3, 4, 5, 6, 7, 8, 9, 10, 11, 12] [13, 14, 15, 16, 17, 18, 19] [7, 8, 9, 10, 11, 12, 13, 14, 15, 16, 17, 18, 19, 0, 1, 2, 3, 4, 5, 6] rfl rfl (by decide) rfl rfl rfl rfl rfl hl rfl (Nat.le_of_ble_eq_true rfl) dL_law_1004 ⟨Nat.le_of_ble_eq_true rfl, Nat.le_of_ble_eq_true rfl⟩ (fun H locs hP hD hS => ?_)
      refine lv_aload_n hx hb dL_law_1007 rfl (lv_at hl 2 rfl) ?_
      refine lv_aload_n hx hb dL_law_1008 rfl (lv_at hl 0 rfl) ?_
      refine lv_iload_n hx hb dL_law_1009 rfl (lv_at hl 3 rfl) ?_
      refine lv_iconst (v := 1) hx hb dL_law_1010 (by decide) ?_
      refine lv_iadd hx hb dL_law_1011 ?_
      rw [show ((nI i) + 1 : Int32) = nI (i + 1) from nI_add i 1]
      refine sc_ld hx hb hX hbl hS (k := (i + 1)) (by omega) hLen dL_law_1012 ?_
      rw [h1]
      refine wr_call (V1 := wO h f f1 f2 ph ++ wF f fa fb fc cI cZ n (fo_cp G) va mk ++ wF f1 fa1 fb1 fc1 cI cZ n1 pa1 va1 mk1 ++ wF f2 fa2 fb2 fc2 cI cZ n (fo_cp G) va mk ++ wP ph hq cI vs (nI L) ++ wM g st sl sv pt cI cZ (mst n G va mk) (fillAt 193 193 (mst n G va mk) fsl) (upd fsv 1 1) fpt many) ⟨hx, hb, hml, hown, hts⟩ (c_X3_save_1 l D cI cZ g st sl sv pt fsl fsv fpt many n G va mk F) (cwV 1 hts gL_law_X3_save rfl rfl rfl (by decide +kernel) ⟨Nat.le_of_ble_eq_true rfl, Nat.le_of_ble_eq_true rfl⟩) hP hK hD hS [15, 16, 17, 18, 19] [0, 1, 2, 3, 4, 5, 6, 7, 8, 9, 10, 11, 12, 13, 14] [0, 1, 2, 3, 4, 5, 6, 7, 8, 9, 10, 11, 12, 13, 14, 15, 16, 17, 18, 19] rfl rfl (by decide) rfl rfl rfl rfl rfl hl rfl (Nat.le_of_ble_eq_true rfl) dL_law_1013 ⟨Nat.le_of_ble_eq_true rfl, Nat.le_of_ble_eq_true rfl⟩ (fun H locs hP hD hS => ?_)
      refine lv_icmp_eq (tgt := 1044) hx hb dL_law_1016 (by decide) (fun c_1016 => ?_) (fun c_1016 => ?_)
      · skip
        exact kk n G va mk n1 pa1 va1 mk1 n (fo_cp G) va mk vs L (fillAt 193 193 (mst n G va mk) fsl) (upd fsv 1 1) fpt many ⟨F, hva, hL, slR_old0 hs0, slR_new1 F hva _ _⟩ H locs hP hD hS
      · skip
        exact absurd rfl c_1016
    · have hxb : isS (xs (i + 1)) = false := by simp [isS, h0, h1]
      refine lv_aload_n hx hb dL_law_998 rfl (lv_at hl 1 rfl) ?_
      refine lv_aload_n hx hb dL_law_999 rfl (lv_at hl 0 rfl) ?_
      refine lv_iload_n hx hb dL_law_1000 rfl (lv_at hl 3 rfl) ?_
      refine lv_iconst (v := 1) hx hb dL_law_1001 (by decide) ?_
      refine lv_iadd hx hb dL_law_1002 ?_
      rw [show ((nI i) + 1 : Int32) = nI (i + 1) from nI_add i 1]
      refine sc_ld hx hb hX hbl hS (k := (i + 1)) (by omega) hLen dL_law_1003 ?_
      refine rd_call ⟨hx, hb, hml, hown, hts⟩ (c_X2_save_b l D cI cZ h f1 f2 ph f fa fb fc n G va mk F fa1 fb1 fc1 n1 pa1 va1 mk1 fa2 fb2 fc2 n2 pa2 va2 mk2 (xs (i + 1)) hxb) (cwV 1 hts gL_law_X2_save rfl rfl rfl (by decide +kernel) ⟨Nat.le_of_ble_eq_true rfl, Nat.le_of_ble_eq_true rfl⟩) (hP.sub (ws' := wO h f f1 f2 ph ++ wF f fa fb fc cI cZ n (fo_cp G) va mk ++ wF f1 fa1 fb1 fc1 cI cZ n1 pa1 va1 mk1 ++ wF f2 fa2 fb2 fc2 cI cZ n2 pa2 va2 mk2) [0, 1, 2, 3, 4, 5, 6, 7, 8, 9, 10, 11, 12] rfl) hK rfl rfl rfl hl rfl (Nat.le_of_ble_eq_true rfl) dL_law_1004 ⟨Nat.le_of_ble_eq_true rfl, Nat.le_of_ble_eq_true rfl⟩ ?_
      refine lv_aload_n hx hb dL_law_1007 rfl (lv_at hl 2 rfl) ?_
      refine lv_aload_n hx hb dL_law_1008 rfl (lv_at hl 0 rfl) ?_
      refine lv_iload_n hx hb dL_law_1009 rfl (lv_at hl 3 rfl) ?_
      refine lv_iconst (v := 1) hx hb dL_law_1010 (by decide) ?_
      refine lv_iadd hx hb dL_law_1011 ?_
      rw [show ((nI i) + 1 : Int32) = nI (i + 1) from nI_add i 1]
      refine sc_ld hx hb hX hbl hS (k := (i + 1)) (by omega) hLen dL_law_1012 ?_
      refine rd_call ⟨hx, hb, hml, hown, hts⟩ (c_X3_save_b l D cI cZ g st sl sv pt fsl fsv fpt many n G va mk F (xs (i + 1)) hxb) (cwV 1 hts gL_law_X3_save rfl rfl rfl (by decide +kernel) ⟨Nat.le_of_ble_eq_true rfl, Nat.le_of_ble_eq_true rfl⟩) (hP.sub (ws' := wM g st sl sv pt cI cZ (mst n G va mk) fsl fsv fpt many) [15, 16, 17, 18, 19] rfl) hK rfl rfl rfl hl rfl (Nat.le_of_ble_eq_true rfl) dL_law_1013 ⟨Nat.le_of_ble_eq_true rfl, Nat.le_of_ble_eq_true rfl⟩ ?_
      refine lv_icmp_eq (tgt := 1044) hx hb dL_law_1016 (by decide) (fun c_1016 => ?_) (fun c_1016 => ?_)
      · skip
        exact kk n G va mk n1 pa1 va1 mk1 n2 pa2 va2 mk2 vs L fsl fsv fpt many ⟨F, hva, hL, hs0, hs1⟩ H locs hP hD hS
      · skip
        exact absurd rfl c_1016
