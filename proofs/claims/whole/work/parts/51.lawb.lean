set_option maxHeartbeats 4000000 in
set_option maxRecDepth 100000 in
/-- case 12: pathVertex -/
theorem lc_12 {p : Program} {l : Launch} {e : Env} {s : State} {m : MethodId} {below : List Frame} {meth : Method} {c : Code} {b Len : Nat} {xs : Nat → Int32} (C0 : lw_At p s m meth c b Len xs) (hLen : Len ≤ 2048) {D : va_G} {cI cZ : ClassId} (hK : KK D cI cZ s) {h f fa fb fc f1 fa1 fb1 fc1 f2 fa2 fb2 fc2 ph hq g st sl sv pt : Nat} {i : Nat} (hi : i + 4 ≤ Len) {ls : Array Slot} (hl : lv_has ls 4 [(0, .ref b), (1, .ref h), (2, .ref g), (3, .int (nI i))]) (kk : LKont p l e s m b below meth c D cI cZ h f fa fb fc f1 fa1 fb1 fc1 f2 fa2 fb2 fc2 ph hq g st sl sv pt ls)
    (n : Nat) (G : Nat → Nat) (va : Nat → Int32) (mk : Nat → Bool) (n1 : Nat) (pa1 va1 : Nat → Int32) (mk1 : Nat → Bool) (n2 : Nat) (pa2 va2 : Nat → Int32) (mk2 : Nat → Bool) (vs : Nat → Int32) (L : Nat) (fsl fsv fpt : Nat → Int32) (many : Int32) (I : LInv n G va n1 pa1 va1 mk1 n2 pa2 va2 mk2 L fsl fsv) (H : Heap) (locs : List Loc) (hP : va_P D vwCl (LW h f fa fb fc f1 fa1 fb1 fc1 f2 fa2 fb2 fc2 ph hq g st sl sv pt cI cZ n G va mk n1 pa1 va1 mk1 n2 pa2 va2 mk2 vs L fsl fsv fpt many) H) (hD : va_D (aI s) (LW h f fa fb fc f1 fa1 fb1 fc1 f2 fa2 fb2 fc2 ph hq g st sl sv pt cI cZ n G va mk n1 pa1 va1 mk1 n2 pa2 va2 mk2 vs L fsl fsv fpt many)) (hS : va_S (aI s) s.heap H locs) : Wl p l e s m b below meth c H locs (F0 m 464 ls []) := by
  obtain ⟨hx, hb, hr, hml, hown, hts, hX, hbl, hlocks, hgv⟩ := C0
  have hts := fun w h => hts w (wsL_law_in w h)
  have hown : s.vm.findClass RL = some m.cls := hown
  obtain ⟨F, hva, hL, hs0, hs1⟩ := I
  have hP : va_P D vwCl (wO h f f1 f2 ph ++ wF f fa fb fc cI cZ n (fo_cp G) va mk ++ wF f1 fa1 fb1 fc1 cI cZ n1 pa1 va1 mk1 ++ wF f2 fa2 fb2 fc2 cI cZ n2 pa2 va2 mk2 ++ wP ph hq cI vs (nI L) ++ wM g st sl sv pt cI cZ (mst n G va mk) fsl fsv fpt many) H := hP
  have hD : va_D (aI s) (wO h f f1 f2 ph ++ wF f fa fb fc cI cZ n (fo_cp G) va mk ++ wF f1 fa1 fb1 fc1 cI cZ n1 pa1 va1 mk1 ++ wF f2 fa2 fb2 fc2 cI cZ n2 pa2 va2 mk2 ++ wP ph hq cI vs (nI L) ++ wM g st sl sv pt cI cZ (mst n G va mk) fsl fsv fpt many) := hD
  refine lv_aload_n hx hb dL_law_464 rfl (lv_at hl 1 rfl) ?_
  refine lv_aload_n hx hb dL_law_465 rfl (lv_at hl 0 rfl) ?_
  refine lv_iload_n hx hb dL_law_466 rfl (lv_at hl 3 rfl) ?_
  refine lv_iconst (v := 1) hx hb dL_law_467 (by decide) ?_
  refine lv_iadd hx hb dL_law_468 ?_
  rw [show ((nI i) + 1 : Int32) = nI (i + 1) from nI_add i 1]
  refine sc_ld hx hb hX hbl hS (k := (i + 1)) (by omega) hLen dL_law_469 ?_
  refine lv_aload_n hx hb dL_law_470 rfl (lv_at hl 0 rfl) ?_
  refine lv_iload_n hx hb dL_law_471 rfl (lv_at hl 3 rfl) ?_
  refine lv_iconst (v := 2) hx hb dL_law_472 (by decide) ?_
  refine lv_iadd hx hb dL_law_473 ?_
  rw [show ((nI i) + 2 : Int32) = nI (i + 2) from nI_add i 2]
  refine sc_ld hx hb hX hbl hS (k := (i + 2)) (by omega) hLen dL_law_474 ?_
  refine lv_aload_n hx hb dL_law_475 rfl (lv_at hl 0 rfl) ?_
  refine lv_iload_n hx hb dL_law_476 rfl (lv_at hl 3 rfl) ?_
  refine lv_iconst (v := 3) hx hb dL_law_477 (by decide) ?_
  refine lv_iadd hx hb dL_law_478 ?_
  rw [show ((nI i) + 3 : Int32) = nI (i + 3) from nI_add i 3]
  refine sc_ld hx hb hX hbl hS (k := (i + 3)) (by omega) hLen dL_law_479 ?_
  refine wr_call (V1 := wO h f f1 f2 ph ++ wF f fa fb fc cI cZ n (fo_cp G) va mk ++ wF f1 fa1 fb1 fc1 cI cZ n1 pa1 va1 mk1 ++ wF f2 fa2 fb2 fc2 cI cZ n2 pa2 va2 mk2 ++ wP ph hq cI (pvV n G vs (xs (i + 1)) (xs (i + 2))) (nI (pvL n G L (xs (i + 1)) (xs (i + 2)))) ++ wM g st sl sv pt cI cZ (mst n G va mk) fsl fsv fpt many) ⟨hx, hb, hml, hown, hts⟩ (c_X2_pathVertex l D cI cZ h f1 f2 ph f fa fb fc n G va mk F hq vs L hL (xs (i + 1)) (xs (i + 2)) (xs (i + 3))) (cwV 3 hts gL_law_X2_pathVertex rfl rfl rfl (by decide +kernel) ⟨Nat.le_of_ble_eq_true rfl, Nat.le_of_ble_eq_true rfl⟩) hP hK hD hS [0, 1, 2, 3, 4, 13, 14] [5, 6, 7, 8, 9, 10, 11, 12, 15, 16, 17, 18, 19] [13, 14, 15, 16, 17, 0, 1, 2, 3, 4, 5, 6, 7, 18, 19, 8, 9, 10, 11, 12] rfl rfl (by decide) rfl rfl rfl rfl rfl hl rfl (Nat.le_of_ble_eq_true rfl) dL_law_480 ⟨Nat.le_of_ble_eq_true rfl, Nat.le_of_ble_eq_true rfl⟩ (fun H locs hP hD hS => ?_)
  refine lv_aload_n hx hb dL_law_483 rfl (lv_at hl 2 rfl) ?_
  refine lv_aload_n hx hb dL_law_484 rfl (lv_at hl 0 rfl) ?_
  refine lv_iload_n hx hb dL_law_485 rfl (lv_at hl 3 rfl) ?_
  refine lv_iconst (v := 1) hx hb dL_law_486 (by decide) ?_
  refine lv_iadd hx hb dL_law_487 ?_
  rw [show ((nI i) + 1 : Int32) = nI (i + 1) from nI_add i 1]
  refine sc_ld hx hb hX hbl hS (k := (i + 1)) (by omega) hLen dL_law_488 ?_
  refine lv_aload_n hx hb dL_law_489 rfl (lv_at hl 0 rfl) ?_
  refine lv_iload_n hx hb dL_law_490 rfl (lv_at hl 3 rfl) ?_
  refine lv_iconst (v := 2) hx hb dL_law_491 (by decide) ?_
  refine lv_iadd hx hb dL_law_492 ?_
  rw [show ((nI i) + 2 : Int32) = nI (i + 2) from nI_add i 2]
  refine sc_ld hx hb hX hbl hS (k := (i + 2)) (by omega) hLen dL_law_493 ?_
  refine lv_aload_n hx hb dL_law_494 rfl (lv_at hl 0 rfl) ?_
  refine lv_iload_n hx hb dL_law_495 rfl (lv_at hl 3 rfl) ?_
  refine lv_iconst (v := 3) hx hb dL_law_496 (by decide) ?_
  refine lv_iadd hx hb dL_law_497 ?_
  rw [show ((nI i) + 3 : Int32) = nI (i + 3) from nI_add i 3]
  refine sc_ld hx hb hX hbl hS (k := (i + 3)) (by omega) hLen dL_law_498 ?_
  refine wr_call (V1 := wO h f f1 f2 ph ++ wF f fa fb fc cI cZ n (fo_cp G) va mk ++ wF f1 fa1 fb1 fc1 cI cZ n1 pa1 va1 mk1 ++ wF f2 fa2 fb2 fc2 cI cZ n2 pa2 va2 mk2 ++ wP ph hq cI (pvV n G vs (xs (i + 1)) (xs (i + 2))) (nI (pvL n G L (xs (i + 1)) (xs (i + 2)))) ++ wM g st sl sv pt cI cZ (mst n G va mk) fsl fsv (pvV n G fpt (xs (i + 1)) (xs (i + 2))) (pvM n G many (xs (i + 1)) (xs (i + 2)))) ⟨hx, hb, hml, hown, hts⟩ (c_X3_pathVertex l D cI cZ g st sl sv pt fsl fsv fpt many n G va mk F (xs (i + 1)) (xs (i + 2)) (xs (i + 3))) (cwV 3 hts gL_law_X3_pathVertex rfl rfl rfl (by decide +kernel) ⟨Nat.le_of_ble_eq_true rfl, Nat.le_of_ble_eq_true rfl⟩) hP hK hD hS [15, 16, 17, 18, 19] [0, 1, 2, 3, 4, 5, 6, 7, 8, 9, 10, 11, 12, 13, 14] [0, 1, 2, 3, 4, 5, 6, 7, 8, 9, 10, 11, 12, 13, 14, 15, 16, 17, 18, 19] rfl rfl (by decide) rfl rfl rfl rfl rfl hl rfl (Nat.le_of_ble_eq_true rfl) dL_law_499 ⟨Nat.le_of_ble_eq_true rfl, Nat.le_of_ble_eq_true rfl⟩ (fun H locs hP hD hS => ?_)
  refine lv_icmp_eq (tgt := 1044) hx hb dL_law_502 (by decide) (fun c_502 => ?_) (fun c_502 => ?_)
  · skip
    exact kk n G va mk n1 pa1 va1 mk1 n2 pa2 va2 mk2 (pvV n G vs (xs (i + 1)) (xs (i + 2))) (pvL n G L (xs (i + 1)) (xs (i + 2))) fsl fsv (pvV n G fpt (xs (i + 1)) (xs (i + 2))) (pvM n G many (xs (i + 1)) (xs (i + 2))) ⟨F, hva, pvL_le F hL _ _, hs0, hs1⟩ H locs hP hD hS
  · skip
    exact absurd rfl c_502
set_option maxHeartbeats 4000000 in
set_option maxRecDepth 100000 in
/-- case 13: pathSum -/
theorem lc_13 {p : Program} {l : Launch} {e : Env} {s : State} {m : MethodId} {below : List Frame} {meth : Method} {c : Code} {b Len : Nat} {xs : Nat → Int32} (C0 : lw_At p s m meth c b Len xs) (hLen : Len ≤ 2048) {D : va_G} {cI cZ : ClassId} (hK : KK D cI cZ s) {h f fa fb fc f1 fa1 fb1 fc1 f2 fa2 fb2 fc2 ph hq g st sl sv pt : Nat} {i : Nat} (hi : i + 4 ≤ Len) {ls : Array Slot} (hl : lv_has ls 4 [(0, .ref b), (1, .ref h), (2, .ref g), (3, .int (nI i))]) (kk : LKont p l e s m b below meth c D cI cZ h f fa fb fc f1 fa1 fb1 fc1 f2 fa2 fb2 fc2 ph hq g st sl sv pt ls)
    (n : Nat) (G : Nat → Nat) (va : Nat → Int32) (mk : Nat → Bool) (n1 : Nat) (pa1 va1 : Nat → Int32) (mk1 : Nat → Bool) (n2 : Nat) (pa2 va2 : Nat → Int32) (mk2 : Nat → Bool) (vs : Nat → Int32) (L : Nat) (fsl fsv fpt : Nat → Int32) (many : Int32) (I : LInv n G va n1 pa1 va1 mk1 n2 pa2 va2 mk2 L fsl fsv) (H : Heap) (locs : List Loc) (hP : va_P D vwCl (LW h f fa fb fc f1 fa1 fb1 fc1 f2 fa2 fb2 fc2 ph hq g st sl sv pt cI cZ n G va mk n1 pa1 va1 mk1 n2 pa2 va2 mk2 vs L fsl fsv fpt many) H) (hD : va_D (aI s) (LW h f fa fb fc f1 fa1 fb1 fc1 f2 fa2 fb2 fc2 ph hq g st sl sv pt cI cZ n G va mk n1 pa1 va1 mk1 n2 pa2 va2 mk2 vs L fsl fsv fpt many)) (hS : va_S (aI s) s.heap H locs) : Wl p l e s m b below meth c H locs (F0 m 507 ls []) := by
  obtain ⟨hx, hb, hr, hml, hown, hts, hX, hbl, hlocks, hgv⟩ := C0
  have hts := fun w h => hts w (wsL_law_in w h)
  have hown : s.vm.findClass RL = some m.cls := hown
  obtain ⟨F, hva, hL, hs0, hs1⟩ := I
  have hP : va_P D vwCl (wO h f f1 f2 ph ++ wF f fa fb fc cI cZ n (fo_cp G) va mk ++ wF f1 fa1 fb1 fc1 cI cZ n1 pa1 va1 mk1 ++ wF f2 fa2 fb2 fc2 cI cZ n2 pa2 va2 mk2 ++ wP ph hq cI vs (nI L) ++ wM g st sl sv pt cI cZ (mst n G va mk) fsl fsv fpt many) H := hP
  have hD : va_D (aI s) (wO h f f1 f2 ph ++ wF f fa fb fc cI cZ n (fo_cp G) va mk ++ wF f1 fa1 fb1 fc1 cI cZ n1 pa1 va1 mk1 ++ wF f2 fa2 fb2 fc2 cI cZ n2 pa2 va2 mk2 ++ wP ph hq cI vs (nI L) ++ wM g st sl sv pt cI cZ (mst n G va mk) fsl fsv fpt many) := hD
  refine lv_aload_n hx hb dL_law_507 rfl (lv_at hl 1 rfl) ?_
  refine lv_aload_n hx hb dL_law_508 rfl (lv_at hl 0 rfl) ?_
  refine lv_iload_n hx hb dL_law_509 rfl (lv_at hl 3 rfl) ?_
  refine lv_iconst (v := 1) hx hb dL_law_510 (by decide) ?_
  refine lv_iadd hx hb dL_law_511 ?_
  rw [show ((nI i) + 1 : Int32) = nI (i + 1) from nI_add i 1]
  refine sc_ld hx hb hX hbl hS (k := (i + 1)) (by omega) hLen dL_law_512 ?_
  refine lv_aload_n hx hb dL_law_513 rfl (lv_at hl 0 rfl) ?_
  refine lv_iload_n hx hb dL_law_514 rfl (lv_at hl 3 rfl) ?_
  refine lv_iconst (v := 2) hx hb dL_law_515 (by decide) ?_
  refine lv_iadd hx hb dL_law_516 ?_
  rw [show ((nI i) + 2 : Int32) = nI (i + 2) from nI_add i 2]
  refine sc_ld hx hb hX hbl hS (k := (i + 2)) (by omega) hLen dL_law_517 ?_
  refine wr_call (V1 := wO h f f1 f2 ph ++ wF f fa fb fc cI cZ n (fo_cp G) va mk ++ wF f1 fa1 fb1 fc1 cI cZ n1 pa1 va1 mk1 ++ wF f2 fa2 fb2 fc2 cI cZ n2 pa2 va2 mk2 ++ wP ph hq cI (pvV n G vs (xs (i + 1)) (xs (i + 2))) (nI (pvL n G L (xs (i + 1)) (xs (i + 2)))) ++ wM g st sl sv pt cI cZ (mst n G va mk) fsl fsv fpt many) ⟨hx, hb, hml, hown, hts⟩ (c_X2_pathSum l D cI cZ h f1 f2 ph f fa fb fc n G va mk F hq vs L hL (xs (i + 1)) (xs (i + 2))) (cwV 2 hts gL_law_X2_pathSum rfl rfl rfl (by decide +kernel) ⟨Nat.le_of_ble_eq_true rfl, Nat.le_of_ble_eq_true rfl⟩) hP hK hD hS [0, 1, 2, 3, 4, 13, 14] [5, 6, 7, 8, 9, 10, 11, 12, 15, 16, 17, 18, 19] [13, 14, 15, 16, 17, 0, 1, 2, 3, 4, 5, 6, 7, 18, 19, 8, 9, 10, 11, 12] rfl rfl (by decide) rfl rfl rfl rfl rfl hl rfl (Nat.le_of_ble_eq_true rfl) dL_law_518 ⟨Nat.le_of_ble_eq_true rfl, Nat.le_of_ble_eq_true rfl⟩ (fun H locs hP hD hS => ?_)
  refine lv_aload_n hx hb dL_law_521 rfl (lv_at hl 2 rfl) ?_
  refine lv_aload_n hx hb dL_law_522 rfl (lv_at hl 0 rfl) ?_
  refine lv_iload_n hx hb dL_law_523 rfl (lv_at hl 3 rfl) ?_
  refine lv_iconst (v := 1) hx hb dL_law_524 (by decide) ?_
  refine lv_iadd hx hb dL_law_525 ?_
  rw [show ((nI i) + 1 : Int32) = nI (i + 1) from nI_add i 1]
  refine sc_ld hx hb hX hbl hS (k := (i + 1)) (by omega) hLen dL_law_526 ?_
  refine lv_aload_n hx hb dL_law_527 rfl (lv_at hl 0 rfl) ?_
  refine lv_iload_n hx hb dL_law_528 rfl (lv_at hl 3 rfl) ?_
  refine lv_iconst (v := 2) hx hb dL_law_529 (by decide) ?_
  refine lv_iadd hx hb dL_law_530 ?_
  rw [show ((nI i) + 2 : Int32) = nI (i + 2) from nI_add i 2]
  refine sc_ld hx hb hX hbl hS (k := (i + 2)) (by omega) hLen dL_law_531 ?_
  refine wr_call (V1 := wO h f f1 f2 ph ++ wF f fa fb fc cI cZ n (fo_cp G) va mk ++ wF f1 fa1 fb1 fc1 cI cZ n1 pa1 va1 mk1 ++ wF f2 fa2 fb2 fc2 cI cZ n2 pa2 va2 mk2 ++ wP ph hq cI (pvV n G vs (xs (i + 1)) (xs (i + 2))) (nI (pvL n G L (xs (i + 1)) (xs (i + 2)))) ++ wM g st sl sv pt cI cZ (mst n G va mk) fsl fsv (pvV n G fpt (xs (i + 1)) (xs (i + 2))) (pvM n G many (xs (i + 1)) (xs (i + 2)))) ⟨hx, hb, hml, hown, hts⟩ (c_X3_pathSum l D cI cZ g st sl sv pt fsl fsv fpt many n G va mk F (xs (i + 1)) (xs (i + 2))) (cwV 2 hts gL_law_X3_pathSum rfl rfl rfl (by decide +kernel) ⟨Nat.le_of_ble_eq_true rfl, Nat.le_of_ble_eq_true rfl⟩) hP hK hD hS [15, 16, 17, 18, 19] [0, 1, 2, 3, 4, 5, 6, 7, 8, 9, 10, 11, 12, 13, 14] [0, 1, 2, 3, 4, 5, 6, 7, 8, 9, 10, 11, 12, 13, 14, 15, 16, 17, 18, 19] rfl rfl (by decide) rfl rfl rfl rfl rfl hl rfl (Nat.le_of_ble_eq_true rfl) dL_law_532 ⟨Nat.le_of_ble_eq_true rfl, Nat.le_of_ble_eq_true rfl⟩ (fun H locs hP hD hS => ?_)
  refine lv_icmp_eq (tgt := 1044) hx hb dL_law_535 (by decide) (fun c_535 => ?_) (fun c_535 => ?_)
  · skip
    exact kk n G va mk n1 pa1 va1 mk1 n2 pa2 va2 mk2 (pvV n G vs (xs (i + 1)) (xs (i + 2))) (pvL n G L (xs (i + 1)) (xs (i + 2))) fsl fsv (pvV n G fpt (xs (i + 1)) (xs (i + 2))) (pvM n G many (xs (i + 1)) (xs (i + 2))) ⟨F, hva, pvL_le F hL _ _, hs0, hs1⟩ H locs hP hD hS
  · skip
    exact absurd rfl c_535
set_option maxHeartbeats 4000000 in
set_option maxRecDepth 100000 in
/-- case 14: pathMinimum -/
theorem lc_14 {p : Program} {l : Launch} {e : Env} {s : State} {m : MethodId} {below : List Frame} {meth : Method} {c : Code} {b Len : Nat} {xs : Nat → Int32} (C0 : lw_At p s m meth c b Len xs) (hLen : Len ≤ 2048) {D : va_G} {cI cZ : ClassId} (hK : KK D cI cZ s) {h f fa fb fc f1 fa1 fb1 fc1 f2 fa2 fb2 fc2 ph hq g st sl sv pt : Nat} {i : Nat} (hi : i + 4 ≤ Len) {ls : Array Slot} (hl : lv_has ls 4 [(0, .ref b), (1, .ref h), (2, .ref g), (3, .int (nI i))]) (kk : LKont p l e s m b below meth c D cI cZ h f fa fb fc f1 fa1 fb1 fc1 f2 fa2 fb2 fc2 ph hq g st sl sv pt ls)
    (n : Nat) (G : Nat → Nat) (va : Nat → Int32) (mk : Nat → Bool) (n1 : Nat) (pa1 va1 : Nat → Int32) (mk1 : Nat → Bool) (n2 : Nat) (pa2 va2 : Nat → Int32) (mk2 : Nat → Bool) (vs : Nat → Int32) (L : Nat) (fsl fsv fpt : Nat → Int32) (many : Int32) (I : LInv n G va n1 pa1 va1 mk1 n2 pa2 va2 mk2 L fsl fsv) (H : Heap) (locs : List Loc) (hP : va_P D vwCl (LW h f fa fb fc f1 fa1 fb1 fc1 f2 fa2 fb2 fc2 ph hq g st sl sv pt cI cZ n G va mk n1 pa1 va1 mk1 n2 pa2 va2 mk2 vs L fsl fsv fpt many) H) (hD : va_D (aI s) (LW h f fa fb fc f1 fa1 fb1 fc1 f2 fa2 fb2 fc2 ph hq g st sl sv pt cI cZ n G va mk n1 pa1 va1 mk1 n2 pa2 va2 mk2 vs L fsl fsv fpt many)) (hS : va_S (aI s) s.heap H locs) : Wl p l e s m b below meth c H locs (F0 m 540 ls []) := by
  obtain ⟨hx, hb, hr, hml, hown, hts, hX, hbl, hlocks, hgv⟩ := C0
  have hts := fun w h => hts w (wsL_law_in w h)
  have hown : s.vm.findClass RL = some m.cls := hown
  obtain ⟨F, hva, hL, hs0, hs1⟩ := I
  have hP : va_P D vwCl (wO h f f1 f2 ph ++ wF f fa fb fc cI cZ n (fo_cp G) va mk ++ wF f1 fa1 fb1 fc1 cI cZ n1 pa1 va1 mk1 ++ wF f2 fa2 fb2 fc2 cI cZ n2 pa2 va2 mk2 ++ wP ph hq cI vs (nI L) ++ wM g st sl sv pt cI cZ (mst n G va mk) fsl fsv fpt many) H := hP
  have hD : va_D (aI s) (wO h f f1 f2 ph ++ wF f fa fb fc cI cZ n (fo_cp G) va mk ++ wF f1 fa1 fb1 fc1 cI cZ n1 pa1 va1 mk1 ++ wF f2 fa2 fb2 fc2 cI cZ n2 pa2 va2 mk2 ++ wP ph hq cI vs (nI L) ++ wM g st sl sv pt cI cZ (mst n G va mk) fsl fsv fpt many) := hD
  refine lv_aload_n hx hb dL_law_540 rfl (lv_at hl 1 rfl) ?_
  refine lv_aload_n hx hb dL_law_541 rfl (lv_at hl 0 rfl) ?_
  refine lv_iload_n hx hb dL_law_542 rfl (lv_at hl 3 rfl) ?_
  refine lv_iconst (v := 1) hx hb dL_law_543 (by decide) ?_
  refine lv_iadd hx hb dL_law_544 ?_
  rw [show ((nI i) + 1 : Int32) = nI (i + 1) from nI_add i 1]
  refine sc_ld hx hb hX hbl hS (k := (i + 1)) (by omega) hLen dL_law_545 ?_
  refine lv_aload_n hx hb dL_law_546 rfl (lv_at hl 0 rfl) ?_
  refine lv_iload_n hx hb dL_law_547 rfl (lv_at hl 3 rfl) ?_
  refine lv_iconst (v := 2) hx hb dL_law_548 (by decide) ?_
  refine lv_iadd hx hb dL_law_549 ?_
  rw [show ((nI i) + 2 : Int32) = nI (i + 2) from nI_add i 2]
  refine sc_ld hx hb hX hbl hS (k := (i + 2)) (by omega) hLen dL_law_550 ?_
  refine wr_call (V1 := wO h f f1 f2 ph ++ wF f fa fb fc cI cZ n (fo_cp G) va mk ++ wF f1 fa1 fb1 fc1 cI cZ n1 pa1 va1 mk1 ++ wF f2 fa2 fb2 fc2 cI cZ n2 pa2 va2 mk2 ++ wP ph hq cI (pvV n G vs (xs (i + 1)) (xs (i + 2))) (nI (pvL n G L (xs (i + 1)) (xs (i + 2)))) ++ wM g st sl sv pt cI cZ (mst n G va mk) fsl fsv fpt many) ⟨hx, hb, hml, hown, hts⟩ (c_X2_pathMinimum l D cI cZ h f1 f2 ph f fa fb fc n G va mk F hq vs L hL (xs (i + 1)) (xs (i + 2))) (cwV 2 hts gL_law_X2_pathMinimum rfl rfl rfl (by decide +kernel) ⟨Nat.le_of_ble_eq_true rfl, Nat.le_of_ble_eq_true rfl⟩) hP hK hD hS [0, 1, 2, 3, 4, 13, 14] [5, 6, 7, 8, 9, 10, 11, 12, 15, 16, 17, 18, 19] [13, 14, 15, 16, 17, 0, 1, 2, 3, 4, 5, 6, 7, 18, 19, 8, 9, 10, 11, 12] rfl rfl (by decide) rfl rfl rfl rfl rfl hl rfl (Nat.le_of_ble_eq_true rfl) dL_law_551 ⟨Nat.le_of_ble_eq_true rfl, Nat.le_of_ble_eq_true rfl⟩ (fun H locs hP hD hS => ?_)
  refine lv_aload_n hx hb dL_law_554 rfl (lv_at hl 2 rfl) ?_
  refine lv_aload_n hx hb dL_law_555 rfl (lv_at hl 0 rfl) ?_
  refine lv_iload_n hx hb dL_law_556 rfl (lv_at hl 3 rfl) ?_
  refine lv_iconst (v := 1) hx hb dL_law_557 (by decide) ?_
  refine lv_iadd hx hb dL_law_558 ?_
  rw [show ((nI i) + 1 : Int32) = nI (i + 1) from nI_add i 1]
  refine sc_ld hx hb hX hbl hS (k := (i + 1)) (by omega) hLen dL_law_559 ?_
  refine lv_aload_n hx hb dL_law_560 rfl (lv_at hl 0 rfl) ?_
  refine lv_iload_n hx hb dL_law_561 rfl (lv_at hl 3 rfl) ?_
  refine lv_iconst (v := 2) hx hb dL_law_562 (by decide) ?_
  refine lv_iadd hx hb dL_law_563 ?_
  rw [show ((nI i) + 2 : Int32) = nI (i + 2) from nI_add i 2]
  refine sc_ld hx hb hX hbl hS (k := (i + 2)) (by omega) hLen dL_law_564 ?_
  refine wr_call (V1 := wO h f f1 f2 ph ++ wF f fa fb fc cI cZ n (fo_cp G) va mk ++ wF f1 fa1 fb1 fc1 cI cZ n1 pa1 va1 mk1 ++ wF f2 fa2 fb2 fc2 cI cZ n2 pa2 va2 mk2 ++ wP ph hq cI (pvV n G vs (xs (i + 1)) (xs (i + 2))) (nI (pvL n G L (xs (i + 1)) (xs (i + 2)))) ++ wM g st sl sv pt cI cZ (mst n G va mk) fsl fsv (pvV n G fpt (xs (i + 1)) (xs (i + 2))) (pvM n G many (xs (i + 1)) (xs (i + 2)))) ⟨hx, hb, hml, hown, hts⟩ (c_X3_pathMinimum l D cI cZ g st sl sv pt fsl fsv fpt many n G va mk F (xs (i + 1)) (xs (i + 2)) hva) (cwV 2 hts gL_law_X3_pathMinimum rfl rfl rfl (by decide +kernel) ⟨Nat.le_of_ble_eq_true rfl, Nat.le_of_ble_eq_true rfl⟩) hP hK hD hS [15, 16, 17, 18, 19] [0, 1, 2, 3, 4, 5, 6, 7, 8, 9, 10, 11, 12, 13, 14] [0, 1, 2, 3, 4, 5, 6, 7, 8, 9, 10, 11, 12, 13, 14, 15, 16, 17, 18, 19] rfl rfl (by decide) rfl rfl rfl rfl rfl hl rfl (Nat.le_of_ble_eq_true rfl) dL_law_565 ⟨Nat.le_of_ble_eq_true rfl, Nat.le_of_ble_eq_true rfl⟩ (fun H locs hP hD hS => ?_)
  refine lv_icmp_eq (tgt := 1044) hx hb dL_law_568 (by decide) (fun c_568 => ?_) (fun c_568 => ?_)
  · skip
    exact kk n G va mk n1 pa1 va1 mk1 n2 pa2 va2 mk2 (pvV n G vs (xs (i + 1)) (xs (i + 2))) (pvL n G L (xs (i + 1)) (xs (i + 2))) fsl fsv (pvV n G fpt (xs (i + 1)) (xs (i + 2))) (pvM n G many (xs (i + 1)) (xs (i + 2))) ⟨F, hva, pvL_le F hL _ _, hs0, hs1⟩ H locs hP hD hS
  · skip
    exact absurd rfl c_568
set_option maxHeartbeats 4000000 in
set_option maxRecDepth 100000 in
/-- case 15: pathMaximum -/
theorem lc_15 {p : Program} {l : Launch} {e : Env} {s : State} {m : MethodId} {below : List Frame} {meth : Method} {c : Code} {b Len : Nat} {xs : Nat → Int32} (C0 : lw_At p s m meth c b Len xs) (hLen : Len ≤ 2048) {D : va_G} {cI cZ : ClassId} (hK : KK D cI cZ s) {h f fa fb fc f1 fa1 fb1 fc1 f2 fa2 fb2 fc2 ph hq g st sl sv pt : Nat} {i : Nat} (hi : i + 4 ≤ Len) {ls : Array Slot} (hl : lv_has ls 4 [(0, .ref b), (1, .ref h), (2, .ref g), (3, .int (nI i))]) (kk : LKont p l e s m b below meth c D cI cZ h f fa fb fc f1 fa1 fb1 fc1 f2 fa2 fb2 fc2 ph hq g st sl sv pt ls)
    (n : Nat) (G : Nat → Nat) (va : Nat → Int32) (mk : Nat → Bool) (n1 : Nat) (pa1 va1 : Nat → Int32) (mk1 : Nat → Bool) (n2 : Nat) (pa2 va2 : Nat → Int32) (mk2 : Nat → Bool) (vs : Nat → Int32) (L : Nat) (fsl fsv fpt : Nat → Int32) (many : Int32) (I : LInv n G va n1 pa1 va1 mk1 n2 pa2 va2 mk2 L fsl fsv) (H : Heap) (locs : List Loc) (hP : va_P D vwCl (LW h f fa fb fc f1 fa1 fb1 fc1 f2 fa2 fb2 fc2 ph hq g st sl sv pt cI cZ n G va mk n1 pa1 va1 mk1 n2 pa2 va2 mk2 vs L fsl fsv fpt many) H) (hD : va_D (aI s) (LW h f fa fb fc f1 fa1 fb1 fc1 f2 fa2 fb2 fc2 ph hq g st sl sv pt cI cZ n G va mk n1 pa1 va1 mk1 n2 pa2 va2 mk2 vs L fsl fsv fpt many)) (hS : va_S (aI s) s.heap H locs) : Wl p l e s m b below meth c H locs (F0 m 573 ls []) := by
  obtain ⟨hx, hb, hr, hml, hown, hts, hX, hbl, hlocks, hgv⟩ := C0
  have hts := fun w h => hts w (wsL_law_in w h)
  have hown : s.vm.findClass RL = some m.cls := hown
  obtain ⟨F, hva, hL, hs0, hs1⟩ := I
  have hP : va_P D vwCl (wO h f f1 f2 ph ++ wF f fa fb fc cI cZ n (fo_cp G) va mk ++ wF f1 fa1 fb1 fc1 cI cZ n1 pa1 va1 mk1 ++ wF f2 fa2 fb2 fc2 cI cZ n2 pa2 va2 mk2 ++ wP ph hq cI vs (nI L) ++ wM g st sl sv pt cI cZ (mst n G va mk) fsl fsv fpt many) H := hP
  have hD : va_D (aI s) (wO h f f1 f2 ph ++ wF f fa fb fc cI cZ n (fo_cp G) va mk ++ wF f1 fa1 fb1 fc1 cI cZ n1 pa1 va1 mk1 ++ wF f2 fa2 fb2 fc2 cI cZ n2 pa2 va2 mk2 ++ wP ph hq cI vs (nI L) ++ wM g st sl sv pt cI cZ (mst n G va mk) fsl fsv fpt many) := hD
  refine lv_aload_n hx hb dL_law_573 rfl (lv_at hl 1 rfl) ?_
  refine lv_aload_n hx hb dL_law_574 rfl (lv_at hl 0 rfl) ?_
  refine lv_iload_n hx hb dL_law_575 rfl (lv_at hl 3 rfl) ?_
  refine lv_iconst (v := 1) hx hb dL_law_576 (by decide) ?_
  refine lv_iadd hx hb dL_law_577 ?_
  rw [show ((nI i) + 1 : Int32) = nI (i + 1) from nI_add i 1]
  refine sc_ld hx hb hX hbl hS (k := (i + 1)) (by omega) hLen dL_law_578 ?_
  refine lv_aload_n hx hb dL_law_579 rfl (lv_at hl 0 rfl) ?_
  refine lv_iload_n hx hb dL_law_580 rfl (lv_at hl 3 rfl) ?_
  refine lv_iconst (v := 2) hx hb dL_law_581 (by decide) ?_
  refine lv_iadd hx hb dL_law_582 ?_
  rw [show ((nI i) + 2 : Int32) = nI (i + 2) from nI_add i 2]
  refine sc_ld hx hb hX hbl hS (k := (i + 2)) (by omega) hLen dL_law_583 ?_
  refine wr_call (V1 := wO h f f1 f2 ph ++ wF f fa fb fc cI cZ n (fo_cp G) va mk ++ wF f1 fa1 fb1 fc1 cI cZ n1 pa1 va1 mk1 ++ wF f2 fa2 fb2 fc2 cI cZ n2 pa2 va2 mk2 ++ wP ph hq cI (pvV n G vs (xs (i + 1)) (xs (i + 2))) (nI (pvL n G L (xs (i + 1)) (xs (i + 2)))) ++ wM g st sl sv pt cI cZ (mst n G va mk) fsl fsv fpt many) ⟨hx, hb, hml, hown, hts⟩ (c_X2_pathMaximum l D cI cZ h f1 f2 ph f fa fb fc n G va mk F hq vs L hL (xs (i + 1)) (xs (i + 2))) (cwV 2 hts gL_law_X2_pathMaximum rfl rfl rfl (by decide +kernel) ⟨Nat.le_of_ble_eq_true rfl, Nat.le_of_ble_eq_true rfl⟩) hP hK hD hS [0, 1, 2, 3, 4, 13, 14] [5, 6, 7, 8, 9, 10, 11, 12, 15, 16, 17, 18, 19] [13, 14, 15, 16, 17, 0, 1, 2, 3, 4, 5, 6, 7, 18, 19, 8, 9, 10, 11, 12] rfl rfl (by decide) rfl rfl rfl rfl rfl hl rfl (Nat.le_of_ble_eq_true rfl) dL_law_584 ⟨Nat.le_of_ble_eq_true rfl, Nat.le_of_ble_eq_true rfl⟩ (fun H locs hP hD hS => ?_)
  refine lv_aload_n hx hb dL_law_587 rfl (lv_at hl 2 rfl) ?_
  refine lv_aload_n hx hb dL_law_588 rfl (lv_at hl 0 rfl) ?_
  refine lv_iload_n hx hb dL_law_589 rfl (lv_at hl 3 rfl) ?_
  refine lv_iconst (v := 1) hx hb dL_law_590 (by decide) ?_
  refine lv_iadd hx hb dL_law_591 ?_
  rw [show ((nI i) + 1 : Int32) = nI (i + 1) from nI_add i 1]
  refine sc_ld hx hb hX hbl hS (k := (i + 1)) (by omega) hLen dL_law_592 ?_
  refine lv_aload_n hx hb dL_law_593 rfl (lv_at hl 0 rfl) ?_
  refine lv_iload_n hx hb dL_law_594 rfl (lv_at hl 3 rfl) ?_
  refine lv_iconst (v := 2) hx hb dL_law_595 (by decide) ?_
  refine lv_iadd hx hb dL_law_596 ?_
  rw [show ((nI i) + 2 : Int32) = nI (i + 2) from nI_add i 2]
  refine sc_ld hx hb hX hbl hS (k := (i + 2)) (by omega) hLen dL_law_597 ?_
  refine wr_call (V1 := wO h f f1 f2 ph ++ wF f fa fb fc cI cZ n (fo_cp G) va mk ++ wF f1 fa1 fb1 fc1 cI cZ n1 pa1 va1 mk1 ++ wF f2 fa2 fb2 fc2 cI cZ n2 pa2 va2 mk2 ++ wP ph hq cI (pvV n G vs (xs (i + 1)) (xs (i + 2))) (nI (pvL n G L (xs (i + 1)) (xs (i + 2)))) ++ wM g st sl sv pt cI cZ (mst n G va mk) fsl fsv (pvV n G fpt (xs (i + 1)) (xs (i + 2))) (pvM n G many (xs (i + 1)) (xs (i + 2)))) ⟨hx, hb, hml, hown, hts⟩ (c_X3_pathMaximum l D cI cZ g st sl sv pt fsl fsv fpt many n G va mk F (xs (i + 1)) (xs (i + 2))) (cwV 2 hts gL_law_X3_pathMaximum rfl rfl rfl (by decide +kernel) ⟨Nat.le_of_ble_eq_true rfl, Nat.le_of_ble_eq_true rfl⟩) hP hK hD hS [15, 16, 17, 18, 19] [0, 1, 2, 3, 4, 5, 6, 7, 8, 9, 10, 11, 12, 13, 14] [0, 1, 2, 3, 4, 5, 6, 7, 8, 9, 10, 11, 12, 13, 14, 15, 16, 17, 18, 19] rfl rfl (by decide) rfl rfl rfl rfl rfl hl rfl (Nat.le_of_ble_eq_true rfl) dL_law_598 ⟨Nat.le_of_ble_eq_true rfl, Nat.le_of_ble_eq_true rfl⟩ (fun H locs hP hD hS => ?_)
  refine lv_icmp_eq (tgt := 1044) hx hb dL_law_601 (by decide) (fun c_601 => ?_) (fun c_601 => ?_)
  · skip
    exact kk n G va mk n1 pa1 va1 mk1 n2 pa2 va2 mk2 (pvV n G vs (xs (i + 1)) (xs (i + 2))) (pvL n G L (xs (i + 1)) (xs (i + 2))) fsl fsv (pvV n G fpt (xs (i + 1)) (xs (i + 2))) (pvM n G many (xs (i + 1)) (xs (i + 2))) ⟨F, hva, pvL_le F hL _ _, hs0, hs1⟩ H locs hP hD hS
  · skip
    exact absurd rfl c_601
set_option maxHeartbeats 4000000 in
set_option maxRecDepth 100000 in
/-- case 16: reach -/
theorem lc_16 {p : Program} {l : Launch} {e : Env} {s : State} {m : MethodId} {below : List Frame} {meth : Method} {c : Code} {b Len : Nat} {xs : Nat → Int32} (C0 : lw_At p s m meth c b Len xs) (hLen : Len ≤ 2048) {D : va_G} {cI cZ : ClassId} (hK : KK D cI cZ s) {h f fa fb fc f1 fa1 fb1 fc1 f2 fa2 fb2 fc2 ph hq g st sl sv pt : Nat} {i : Nat} (hi : i + 4 ≤ Len) {ls : Array Slot} (hl : lv_has ls 4 [(0, .ref b), (1, .ref h), (2, .ref g), (3, .int (nI i))]) (kk : LKont p l e s m b below meth c D cI cZ h f fa fb fc f1 fa1 fb1 fc1 f2 fa2 fb2 fc2 ph hq g st sl sv pt ls)
    (n : Nat) (G : Nat → Nat) (va : Nat → Int32) (mk : Nat → Bool) (n1 : Nat) (pa1 va1 : Nat → Int32) (mk1 : Nat → Bool) (n2 : Nat) (pa2 va2 : Nat → Int32) (mk2 : Nat → Bool) (vs : Nat → Int32) (L : Nat) (fsl fsv fpt : Nat → Int32) (many : Int32) (I : LInv n G va n1 pa1 va1 mk1 n2 pa2 va2 mk2 L fsl fsv) (H : Heap) (locs : List Loc) (hP : va_P D vwCl (LW h f fa fb fc f1 fa1 fb1 fc1 f2 fa2 fb2 fc2 ph hq g st sl sv pt cI cZ n G va mk n1 pa1 va1 mk1 n2 pa2 va2 mk2 vs L fsl fsv fpt many) H) (hD : va_D (aI s) (LW h f fa fb fc f1 fa1 fb1 fc1 f2 fa2 fb2 fc2 ph hq g st sl sv pt cI cZ n G va mk n1 pa1 va1 mk1 n2 pa2 va2 mk2 vs L fsl fsv fpt many)) (hS : va_S (aI s) s.heap H locs) : Wl p l e s m b below meth c H locs (F0 m 606 ls []) := by
  obtain ⟨hx, hb, hr, hml, hown, hts, hX, hbl, hlocks, hgv⟩ := C0
  have hts := fun w h => hts w (wsL_law_in w h)
  have hown : s.vm.findClass RL = some m.cls := hown
  obtain ⟨F, hva, hL, hs0, hs1⟩ := I
  have hP : va_P D vwCl (wO h f f1 f2 ph ++ wF f fa fb fc cI cZ n (fo_cp G) va mk ++ wF f1 fa1 fb1 fc1 cI cZ n1 pa1 va1 mk1 ++ wF f2 fa2 fb2 fc2 cI cZ n2 pa2 va2 mk2 ++ wP ph hq cI vs (nI L) ++ wM g st sl sv pt cI cZ (mst n G va mk) fsl fsv fpt many) H := hP
  have hD : va_D (aI s) (wO h f f1 f2 ph ++ wF f fa fb fc cI cZ n (fo_cp G) va mk ++ wF f1 fa1 fb1 fc1 cI cZ n1 pa1 va1 mk1 ++ wF f2 fa2 fb2 fc2 cI cZ n2 pa2 va2 mk2 ++ wP ph hq cI vs (nI L) ++ wM g st sl sv pt cI cZ (mst n G va mk) fsl fsv fpt many) := hD
  refine lv_aload_n hx hb dL_law_606 rfl (lv_at hl 1 rfl) ?_
  refine lv_aload_n hx hb dL_law_607 rfl (lv_at hl 0 rfl) ?_
  refine lv_iload_n hx hb dL_law_608 rfl (lv_at hl 3 rfl) ?_
  refine lv_iconst (v := 1) hx hb dL_law_609 (by decide) ?_
  refine lv_iadd hx hb dL_law_610 ?_
  rw [show ((nI i) + 1 : Int32) = nI (i + 1) from nI_add i 1]
  refine sc_ld hx hb hX hbl hS (k := (i + 1)) (by omega) hLen dL_law_611 ?_
  refine lv_aload_n hx hb dL_law_612 rfl (lv_at hl 0 rfl) ?_
  refine lv_iload_n hx hb dL_law_613 rfl (lv_at hl 3 rfl) ?_
  refine lv_iconst (v := 2) hx hb dL_law_614 (by decide) ?_
  refine lv_iadd hx hb dL_law_615 ?_
  rw [show ((nI i) + 2 : Int32) = nI (i + 2) from nI_add i 2]
  refine sc_ld hx hb hX hbl hS (k := (i + 2)) (by omega) hLen dL_law_616 ?_
  refine lv_aload_n hx hb dL_law_617 rfl (lv_at hl 0 rfl) ?_
  refine lv_iload_n hx hb dL_law_618 rfl (lv_at hl 3 rfl) ?_
  refine lv_iconst (v := 3) hx hb dL_law_619 (by decide) ?_
  refine lv_iadd hx hb dL_law_620 ?_
  rw [show ((nI i) + 3 : Int32) = nI (i + 3) from nI_add i 3]
  refine sc_ld hx hb hX hbl hS (k := (i + 3)) (by omega) hLen dL_law_621 ?_
  refine wr_call (V1 := wO h f f1 f2 ph ++ wF f fa fb fc cI cZ n (fo_cp G) va mk ++ wF f1 fa1 fb1 fc1 cI cZ n1 pa1 va1 mk1 ++ wF f2 fa2 fb2 fc2 cI cZ n2 pa2 va2 mk2 ++ wP ph hq cI (pvV n G vs (xs (i + 1)) (xs (i + 2))) (nI (pvL n G L (xs (i + 1)) (xs (i + 2)))) ++ wM g st sl sv pt cI cZ (mst n G va mk) fsl fsv fpt many) ⟨hx, hb, hml, hown, hts⟩ (c_X2_reach l D cI cZ h f1 f2 ph f fa fb fc n G va mk F hq vs L hL (xs (i + 1)) (xs (i + 2)) (xs (i + 3))) (cwV 3 hts gL_law_X2_reach rfl rfl rfl (by decide +kernel) ⟨Nat.le_of_ble_eq_true rfl, Nat.le_of_ble_eq_true rfl⟩) hP hK hD hS [0, 1, 2, 3, 4, 13, 14] [5, 6, 7, 8, 9, 10, 11, 12, 15, 16, 17, 18, 19] [13, 14, 15, 16, 17, 0, 1, 2, 3, 4, 5, 6, 7, 18, 19, 8, 9, 10, 11, 12] rfl rfl (by decide) rfl rfl rfl rfl rfl hl rfl (Nat.le_of_ble_eq_true rfl) dL_law_622 ⟨Nat.le_of_ble_eq_true rfl, Nat.le_of_ble_eq_true rfl⟩ (fun H locs hP hD hS => ?_)
  refine lv_aload_n hx hb dL_law_625 rfl (lv_at hl 2 rfl) ?_
  refine lv_aload_n hx hb dL_law_626 rfl (lv_at hl 0 rfl) ?_
  refine lv_iload_n hx hb dL_law_627 rfl (lv_at hl 3 rfl) ?_
  refine lv_iconst (v := 1) hx hb dL_law_628 (by decide) ?_
  refine lv_iadd hx hb dL_law_629 ?_
  rw [show ((nI i) + 1 : Int32) = nI (i + 1) from nI_add i 1]
  refine sc_ld hx hb hX hbl hS (k := (i + 1)) (by omega) hLen dL_law_630 ?_
  refine lv_aload_n hx hb dL_law_631 rfl (lv_at hl 0 rfl) ?_
  refine lv_iload_n hx hb dL_law_632 rfl (lv_at hl 3 rfl) ?_
  refine lv_iconst (v := 2) hx hb dL_law_633 (by decide) ?_
  refine lv_iadd hx hb dL_law_634 ?_
  rw [show ((nI i) + 2 : Int32) = nI (i + 2) from nI_add i 2]
  refine sc_ld hx hb hX hbl hS (k := (i + 2)) (by omega) hLen dL_law_635 ?_
  refine lv_aload_n hx hb dL_law_636 rfl (lv_at hl 0 rfl) ?_
  refine lv_iload_n hx hb dL_law_637 rfl (lv_at hl 3 rfl) ?_
  refine lv_iconst (v := 3) hx hb dL_law_638 (by decide) ?_
  refine lv_iadd hx hb dL_law_639 ?_
  rw [show ((nI i) + 3 : Int32) = nI (i + 3) from nI_add i 3]
  refine sc_ld hx hb hX hbl hS (k := (i + 3)) (by omega) hLen dL_law_640 ?_
  refine wr_call (V1 := wO h f f1 f2 ph ++ wF f fa fb fc cI cZ n (fo_cp G) va mk ++ wF f1 fa1 fb1 fc1 cI cZ n1 pa1 va1 mk1 ++ wF f2 fa2 fb2 fc2 cI cZ n2 pa2 va2 mk2 ++ wP ph hq cI (pvV n G vs (xs (i + 1)) (xs (i + 2))) (nI (pvL n G L (xs (i + 1)) (xs (i + 2)))) ++ wM g st sl sv pt cI cZ (mst n G va mk) fsl fsv (pvV n G fpt (xs (i + 1)) (xs (i + 2))) (pvM n G many (xs (i + 1)) (xs (i + 2)))) ⟨hx, hb, hml, hown, hts⟩ (c_X3_reach l D cI cZ g st sl sv pt fsl fsv fpt many n G va mk F (xs (i + 1)) (xs (i + 2)) (xs (i + 3))) (cwV 3 hts gL_law_X3_reach rfl rfl rfl (by decide +kernel) ⟨Nat.le_of_ble_eq_true rfl, Nat.le_of_ble_eq_true rfl⟩) hP hK hD hS [15, 16, 17, 18, 19] [0, 1, 2, 3, 4, 5, 6, 7, 8, 9, 10, 11, 12, 13, 14] [0, 1, 2, 3, 4, 5, 6, 7, 8, 9, 10, 11, 12, 13, 14, 15, 16, 17, 18, 19] rfl rfl (by decide) rfl rfl rfl rfl rfl hl rfl (Nat.le_of_ble_eq_true rfl) dL_law_641 ⟨Nat.le_of_ble_eq_true rfl, Nat.le_of_ble_eq_true rfl⟩ (fun H locs hP hD hS => ?_)
  refine lv_icmp_eq (tgt := 1044) hx hb dL_law_644 (by decide) (fun c_644 => ?_) (fun c_644 => ?_)
  · skip
    exact kk n G va mk n1 pa1 va1 mk1 n2 pa2 va2 mk2 (pvV n G vs (xs (i + 1)) (xs (i + 2))) (pvL n G L (xs (i + 1)) (xs (i + 2))) fsl fsv (pvV n G fpt (xs (i + 1)) (xs (i + 2))) (pvM n G many (xs (i + 1)) (xs (i + 2))) ⟨F, hva, pvL_le F hL _ _, hs0, hs1⟩ H locs hP hD hS
  · skip
    exact absurd rfl c_644
set_option maxHeartbeats 4000000 in
set_option maxRecDepth 100000 in
/-- case 17: addOnPath -/
theorem lc_17 {p : Program} {l : Launch} {e : Env} {s : State} {m : MethodId} {below : List Frame} {meth : Method} {c : Code} {b Len : Nat} {xs : Nat → Int32} (C0 : lw_At p s m meth c b Len xs) (hLen : Len ≤ 2048) {D : va_G} {cI cZ : ClassId} (hK : KK D cI cZ s) {h f fa fb fc f1 fa1 fb1 fc1 f2 fa2 fb2 fc2 ph hq g st sl sv pt : Nat} {i : Nat} (hi : i + 4 ≤ Len) {ls : Array Slot} (hl : lv_has ls 4 [(0, .ref b), (1, .ref h), (2, .ref g), (3, .int (nI i))]) (kk : LKont p l e s m b below meth c D cI cZ h f fa fb fc f1 fa1 fb1 fc1 f2 fa2 fb2 fc2 ph hq g st sl sv pt ls)
    (n : Nat) (G : Nat → Nat) (va : Nat → Int32) (mk : Nat → Bool) (n1 : Nat) (pa1 va1 : Nat → Int32) (mk1 : Nat → Bool) (n2 : Nat) (pa2 va2 : Nat → Int32) (mk2 : Nat → Bool) (vs : Nat → Int32) (L : Nat) (fsl fsv fpt : Nat → Int32) (many : Int32) (I : LInv n G va n1 pa1 va1 mk1 n2 pa2 va2 mk2 L fsl fsv) (H : Heap) (locs : List Loc) (hP : va_P D vwCl (LW h f fa fb fc f1 fa1 fb1 fc1 f2 fa2 fb2 fc2 ph hq g st sl sv pt cI cZ n G va mk n1 pa1 va1 mk1 n2 pa2 va2 mk2 vs L fsl fsv fpt many) H) (hD : va_D (aI s) (LW h f fa fb fc f1 fa1 fb1 fc1 f2 fa2 fb2 fc2 ph hq g st sl sv pt cI cZ n G va mk n1 pa1 va1 mk1 n2 pa2 va2 mk2 vs L fsl fsv fpt many)) (hS : va_S (aI s) s.heap H locs) : Wl p l e s m b below meth c H locs (F0 m 649 ls []) := by
  obtain ⟨hx, hb, hr, hml, hown, hts, hX, hbl, hlocks, hgv⟩ := C0
  have hts := fun w h => hts w (wsL_law_in w h)
  have hown : s.vm.findClass RL = some m.cls := hown
  obtain ⟨F, hva, hL, hs0, hs1⟩ := I
  have hP : va_P D vwCl (wO h f f1 f2 ph ++ wF f fa fb fc cI cZ n (fo_cp G) va mk ++ wF f1 fa1 fb1 fc1 cI cZ n1 pa1 va1 mk1 ++ wF f2 fa2 fb2 fc2 cI cZ n2 pa2 va2 mk2 ++ wP ph hq cI vs (nI L) ++ wM g st sl sv pt cI cZ (mst n G va mk) fsl fsv fpt many) H := hP
  have hD : va_D (aI s) (wO h f f1 f2 ph ++ wF f fa fb fc cI cZ n (fo_cp G) va mk ++ wF f1 fa1 fb1 fc1 cI cZ n1 pa1 va1 mk1 ++ wF f2 fa2 fb2 fc2 cI cZ n2 pa2 va2 mk2 ++ wP ph hq cI vs (nI L) ++ wM g st sl sv pt cI cZ (mst n G va mk) fsl fsv fpt many) := hD
  refine lv_aload_n hx hb dL_law_649 rfl (lv_at hl 1 rfl) ?_
  refine lv_aload_n hx hb dL_law_650 rfl (lv_at hl 0 rfl) ?_
  refine lv_iload_n hx hb dL_law_651 rfl (lv_at hl 3 rfl) ?_
  refine lv_iconst (v := 1) hx hb dL_law_652 (by decide) ?_
  refine lv_iadd hx hb dL_law_653 ?_
  rw [show ((nI i) + 1 : Int32) = nI (i + 1) from nI_add i 1]
  refine sc_ld hx hb hX hbl hS (k := (i + 1)) (by omega) hLen dL_law_654 ?_
  refine lv_aload_n hx hb dL_law_655 rfl (lv_at hl 0 rfl) ?_
  refine lv_iload_n hx hb dL_law_656 rfl (lv_at hl 3 rfl) ?_
  refine lv_iconst (v := 2) hx hb dL_law_657 (by decide) ?_
  refine lv_iadd hx hb dL_law_658 ?_
  rw [show ((nI i) + 2 : Int32) = nI (i + 2) from nI_add i 2]
  refine sc_ld hx hb hX hbl hS (k := (i + 2)) (by omega) hLen dL_law_659 ?_
  refine lv_aload_n hx hb dL_law_660 rfl (lv_at hl 0 rfl) ?_
  refine lv_iload_n hx hb dL_law_661 rfl (lv_at hl 3 rfl) ?_
  refine lv_iconst (v := 3) hx hb dL_law_662 (by decide) ?_
  refine lv_iadd hx hb dL_law_663 ?_
  rw [show ((nI i) + 3 : Int32) = nI (i + 3) from nI_add i 3]
  refine sc_ld hx hb hX hbl hS (k := (i + 3)) (by omega) hLen dL_law_664 ?_
  refine wr_call (V1 := wO h f f1 f2 ph ++ wF f fa fb fc cI cZ n (fo_cp G) (gp n G (xs (i + 1)) (xs (i + 2)) (fun a b => if oAdd va (fo_pt G a b) (xs (i + 3)) (fo_pL G a b) = true then vAdd va (fo_pt G a b) (xs (i + 3)) (fo_pL G a b) else va) va va) mk ++ wF f1 fa1 fb1 fc1 cI cZ n1 pa1 va1 mk1 ++ wF f2 fa2 fb2 fc2 cI cZ n2 pa2 va2 mk2 ++ wP ph hq cI (pvV n G vs (xs (i + 1)) (xs (i + 2))) (nI (pvL n G L (xs (i + 1)) (xs (i + 2)))) ++ wM g st sl sv pt cI cZ (mst n G va mk) fsl fsv fpt many) ⟨hx, hb, hml, hown, hts⟩ (c_X2_addOnPath l D cI cZ h f1 f2 ph f fa fb fc n G va mk F hq vs L hL (xs (i + 1)) (xs (i + 2)) (xs (i + 3))) (cwV 3 hts gL_law_X2_addOnPath rfl rfl rfl (by decide +kernel) ⟨Nat.le_of_ble_eq_true rfl, Nat.le_of_ble_eq_true rfl⟩) hP hK hD hS [0, 1, 2, 3, 4, 13, 14] [5, 6, 7, 8, 9, 10, 11, 12, 15, 16, 17, 18, 19] [13, 14, 15, 16, 17, 0, 1, 2, 3, 4, 5, 6, 7, 18, 19, 8, 9, 10, 11, 12] rfl rfl (by decide) rfl rfl rfl rfl rfl hl rfl (Nat.le_of_ble_eq_true rfl) dL_law_665 ⟨Nat.le_of_ble_eq_true rfl, Nat.le_of_ble_eq_true rfl⟩ (fun H locs hP hD hS => ?_)
  refine lv_aload_n hx hb dL_law_668 rfl (lv_at hl 2 rfl) ?_
  refine lv_aload_n hx hb dL_law_669 rfl (lv_at hl 0 rfl) ?_
  refine lv_iload_n hx hb dL_law_670 rfl (lv_at hl 3 rfl) ?_
  refine lv_iconst (v := 1) hx hb dL_law_671 (by decide) ?_
  refine lv_iadd hx hb dL_law_672 ?_
  rw [show ((nI i) + 1 : Int32) = nI (i + 1) from nI_add i 1]
  refine sc_ld hx hb hX hbl hS (k := (i + 1)) (by omega) hLen dL_law_673 ?_
  refine lv_aload_n hx hb dL_law_674 rfl (lv_at hl 0 rfl) ?_
  refine lv_iload_n hx hb dL_law_675 rfl (lv_at hl 3 rfl) ?_
  refine lv_iconst (v := 2) hx hb dL_law_676 (by decide) ?_
  refine lv_iadd hx hb dL_law_677 ?_
  rw [show ((nI i) + 2 : Int32) = nI (i + 2) from nI_add i 2]
  refine sc_ld hx hb hX hbl hS (k := (i + 2)) (by omega) hLen dL_law_678 ?_
  refine lv_aload_n hx hb dL_law_679 rfl (lv_at hl 0 rfl) ?_
  refine lv_iload_n hx hb dL_law_680 rfl (lv_at hl 3 rfl) ?_
  refine lv_iconst (v := 3) hx hb dL_law_681 (by decide) ?_
  refine lv_iadd hx hb dL_law_682 ?_
  rw [show ((nI i) + 3 : Int32) = nI (i + 3) from nI_add i 3]
  refine sc_ld hx hb hX hbl hS (k := (i + 3)) (by omega) hLen dL_law_683 ?_
  refine wr_call (V1 := wO h f f1 f2 ph ++ wF f fa fb fc cI cZ n (fo_cp G) (gp n G (xs (i + 1)) (xs (i + 2)) (fun a b => if oAdd va (fo_pt G a b) (xs (i + 3)) (fo_pL G a b) = true then vAdd va (fo_pt G a b) (xs (i + 3)) (fo_pL G a b) else va) va va) mk ++ wF f1 fa1 fb1 fc1 cI cZ n1 pa1 va1 mk1 ++ wF f2 fa2 fb2 fc2 cI cZ n2 pa2 va2 mk2 ++ wP ph hq cI (pvV n G vs (xs (i + 1)) (xs (i + 2))) (nI (pvL n G L (xs (i + 1)) (xs (i + 2)))) ++ wM g st sl sv pt cI cZ (mst n G (gp n G (xs (i + 1)) (xs (i + 2)) (fun a b => if oAdd va (fo_pt G a b) (xs (i + 3)) (fo_pL G a b) = true then vAdd va (fo_pt G a b) (xs (i + 3)) (fo_pL G a b) else va) va va) mk) fsl fsv (gp n G (xs (i + 1)) (xs (i + 2)) (fun a b => if isV (xs (i + 3)) = true then fillI (fo_pL G a b) (fun t => nI (fo_pt G a b t)) fpt else fpt) fpt fpt) (gp n G (xs (i + 1)) (xs (i + 2)) (fun a b => if isV (xs (i + 3)) = true then nI (fo_pL G a b) else many) many many)) ⟨hx, hb, hml, hown, hts⟩ (c_X3_addOnPath l D cI cZ g st sl sv pt fsl fsv fpt many n G va mk F (xs (i + 1)) (xs (i + 2)) (xs (i + 3))) (cwV 3 hts gL_law_X3_addOnPath rfl rfl rfl (by decide +kernel) ⟨Nat.le_of_ble_eq_true rfl, Nat.le_of_ble_eq_true rfl⟩) hP hK hD hS [15, 16, 17, 18, 19] [0, 1, 2, 3, 4, 5, 6, 7, 8, 9, 10, 11, 12, 13, 14] [0, 1, 2, 3, 4, 5, 6, 7, 8, 9, 10, 11, 12, 13, 14, 15, 16, 17, 18, 19] rfl rfl (by decide) rfl rfl rfl rfl rfl hl rfl (Nat.le_of_ble_eq_true rfl) dL_law_684 ⟨Nat.le_of_ble_eq_true rfl, Nat.le_of_ble_eq_true rfl⟩ (fun H locs hP hD hS => ?_)
  refine lv_icmp_eq (tgt := 1044) hx hb dL_law_687 (by decide) (fun c_687 => ?_) (fun c_687 => ?_)
  · skip
    exact kk n G (gp n G (xs (i + 1)) (xs (i + 2)) (fun a b => if oAdd va (fo_pt G a b) (xs (i + 3)) (fo_pL G a b) = true then vAdd va (fo_pt G a b) (xs (i + 3)) (fo_pL G a b) else va) va va) mk n1 pa1 va1 mk1 n2 pa2 va2 mk2 (pvV n G vs (xs (i + 1)) (xs (i + 2))) (pvL n G L (xs (i + 1)) (xs (i + 2))) fsl fsv (gp n G (xs (i + 1)) (xs (i + 2)) (fun a b => if isV (xs (i + 3)) = true then fillI (fo_pL G a b) (fun t => nI (fo_pt G a b t)) fpt else fpt) fpt fpt) (gp n G (xs (i + 1)) (xs (i + 2)) (fun a b => if isV (xs (i + 3)) = true then nI (fo_pL G a b) else many) many many) ⟨F, addPath_ok F hva _ _ _, pvL_le F hL _ _, hs0, hs1⟩ H locs hP hD hS
  · skip
    exact absurd rfl c_687
set_option maxHeartbeats 4000000 in
set_option maxRecDepth 100000 in
/-- case 18: setOnPath -/
theorem lc_18 {p : Program} {l : Launch} {e : Env} {s : State} {m : MethodId} {below : List Frame} {meth : Method} {c : Code} {b Len : Nat} {xs : Nat → Int32} (C0 : lw_At p s m meth c b Len xs) (hLen : Len ≤ 2048) {D : va_G} {cI cZ : ClassId} (hK : KK D cI cZ s) {h f fa fb fc f1 fa1 fb1 fc1 f2 fa2 fb2 fc2 ph hq g st sl sv pt : Nat} {i : Nat} (hi : i + 4 ≤ Len) {ls : Array Slot} (hl : lv_has ls 4 [(0, .ref b), (1, .ref h), (2, .ref g), (3, .int (nI i))]) (kk : LKont p l e s m b below meth c D cI cZ h f fa fb fc f1 fa1 fb1 fc1 f2 fa2 fb2 fc2 ph hq g st sl sv pt ls)
    (n : Nat) (G : Nat → Nat) (va : Nat → Int32) (mk : Nat → Bool) (n1 : Nat) (pa1 va1 : Nat → Int32) (mk1 : Nat → Bool) (n2 : Nat) (pa2 va2 : Nat → Int32) (mk2 : Nat → Bool) (vs : Nat → Int32) (L : Nat) (fsl fsv fpt : Nat → Int32) (many : Int32) (I : LInv n G va n1 pa1 va1 mk1 n2 pa2 va2 mk2 L fsl fsv) (H : Heap) (locs : List Loc) (hP : va_P D vwCl (LW h f fa fb fc f1 fa1 fb1 fc1 f2 fa2 fb2 fc2 ph hq g st sl sv pt cI cZ n G va mk n1 pa1 va1 mk1 n2 pa2 va2 mk2 vs L fsl fsv fpt many) H) (hD : va_D (aI s) (LW h f fa fb fc f1 fa1 fb1 fc1 f2 fa2 fb2 fc2 ph hq g st sl sv pt cI cZ n G va mk n1 pa1 va1 mk1 n2 pa2 va2 mk2 vs L fsl fsv fpt many)) (hS : va_S (aI s) s.heap H locs) : Wl p l e s m b below meth c H locs (F0 m 692 ls []) := by
  obtain ⟨hx, hb, hr, hml, hown, hts, hX, hbl, hlocks, hgv⟩ := C0
  have hts := fun w h => hts w (wsL_law_in w h)
  have hown : s.vm.findClass RL = some m.cls := hown
  obtain ⟨F, hva, hL, hs0, hs1⟩ := I
  have hP : va_P D vwCl (wO h f f1 f2 ph ++ wF f fa fb fc cI cZ n (fo_cp G) va mk ++ wF f1 fa1 fb1 fc1 cI cZ n1 pa1 va1 mk1 ++ wF f2 fa2 fb2 fc2 cI cZ n2 pa2 va2 mk2 ++ wP ph hq cI vs (nI L) ++ wM g st sl sv pt cI cZ (mst n G va mk) fsl fsv fpt many) H := hP
  have hD : va_D (aI s) (wO h f f1 f2 ph ++ wF f fa fb fc cI cZ n (fo_cp G) va mk ++ wF f1 fa1 fb1 fc1 cI cZ n1 pa1 va1 mk1 ++ wF f2 fa2 fb2 fc2 cI cZ n2 pa2 va2 mk2 ++ wP ph hq cI vs (nI L) ++ wM g st sl sv pt cI cZ (mst n G va mk) fsl fsv fpt many) := hD
  refine lv_aload_n hx hb dL_law_692 rfl (lv_at hl 1 rfl) ?_
  refine lv_aload_n hx hb dL_law_693 rfl (lv_at hl 0 rfl) ?_
  refine lv_iload_n hx hb dL_law_694 rfl (lv_at hl 3 rfl) ?_
  refine lv_iconst (v := 1) hx hb dL_law_695 (by decide) ?_
  refine lv_iadd hx hb dL_law_696 ?_
  rw [show ((nI i) + 1 : Int32) = nI (i + 1) from nI_add i 1]
  refine sc_ld hx hb hX hbl hS (k := (i + 1)) (by omega) hLen dL_law_697 ?_
  refine lv_aload_n hx hb dL_law_698 rfl (lv_at hl 0 rfl) ?_
  refine lv_iload_n hx hb dL_law_699 rfl (lv_at hl 3 rfl) ?_
  refine lv_iconst (v := 2) hx hb dL_law_700 (by decide) ?_
  refine lv_iadd hx hb dL_law_701 ?_
  rw [show ((nI i) + 2 : Int32) = nI (i + 2) from nI_add i 2]
  refine sc_ld hx hb hX hbl hS (k := (i + 2)) (by omega) hLen dL_law_702 ?_
  refine lv_aload_n hx hb dL_law_703 rfl (lv_at hl 0 rfl) ?_
  refine lv_iload_n hx hb dL_law_704 rfl (lv_at hl 3 rfl) ?_
  refine lv_iconst (v := 3) hx hb dL_law_705 (by decide) ?_
  refine lv_iadd hx hb dL_law_706 ?_
  rw [show ((nI i) + 3 : Int32) = nI (i + 3) from nI_add i 3]
  refine sc_ld hx hb hX hbl hS (k := (i + 3)) (by omega) hLen dL_law_707 ?_
  refine wr_call (V1 := wO h f f1 f2 ph ++ wF f fa fb fc cI cZ n (fo_cp G) (gp n G (xs (i + 1)) (xs (i + 2)) (fun a b => if isV (xs (i + 3)) = true then vSet va (fo_pt G a b) (xs (i + 3)) (fo_pL G a b) else va) va va) mk ++ wF f1 fa1 fb1 fc1 cI cZ n1 pa1 va1 mk1 ++ wF f2 fa2 fb2 fc2 cI cZ n2 pa2 va2 mk2 ++ wP ph hq cI (pvV n G vs (xs (i + 1)) (xs (i + 2))) (nI (pvL n G L (xs (i + 1)) (xs (i + 2)))) ++ wM g st sl sv pt cI cZ (mst n G va mk) fsl fsv fpt many) ⟨hx, hb, hml, hown, hts⟩ (c_X2_setOnPath l D cI cZ h f1 f2 ph f fa fb fc n G va mk F hq vs L hL (xs (i + 1)) (xs (i + 2)) (xs (i + 3))) (cwV 3 hts gL_law_X2_setOnPath rfl rfl rfl (by decide +kernel) ⟨Nat.le_of_ble_eq_true rfl, Nat.le_of_ble_eq_true rfl⟩) hP hK hD hS [0, 1, 2, 3, 4, 13, 14] [5, 6, 7, 8, 9, 10, 11, 12, 15, 16, 17, 18, 19] [13, 14, 15, 16, 17, 0, 1, 2, 3, 4, 5, 6, 7, 18, 19, 8, 9, 10, 11, 12] rfl rfl (by decide) rfl rfl rfl rfl rfl hl rfl (Nat.le_of_ble_eq_true rfl) dL_law_708 ⟨Nat.le_of_ble_eq_true rfl, Nat.le_of_ble_eq_true rfl⟩ (fun H locs hP hD hS => ?_)
  refine lv_aload_n hx hb dL_law_711 rfl (lv_at hl 2 rfl) ?_
  refine lv_aload_n hx hb dL_law_712 rfl (lv_at hl 0 rfl) ?_
  refine lv_iload_n hx hb dL_law_713 rfl (lv_at hl 3 rfl) ?_
  refine lv_iconst (v := 1) hx hb dL_law_714 (by decide) ?_
  refine lv_iadd hx hb dL_law_715 ?_
  rw [show ((nI i) + 1 : Int32) = nI (i + 1) from nI_add i 1]
  refine sc_ld hx hb hX hbl hS (k := (i + 1)) (by omega) hLen dL_law_716 ?_
  refine lv_aload_n hx hb dL_law_717 rfl (lv_at hl 0 rfl) ?_
  refine lv_iload_n hx hb dL_law_718 rfl (lv_at hl 3 rfl) ?_
  refine lv_iconst (v := 2) hx hb dL_law_719 (by decide) ?_
  refine lv_iadd hx hb dL_law_720 ?_
  rw [show ((nI i) + 2 : Int32) = nI (i + 2) from nI_add i 2]
  refine sc_ld hx hb hX hbl hS (k := (i + 2)) (by omega) hLen dL_law_721 ?_
  refine lv_aload_n hx hb dL_law_722 rfl (lv_at hl 0 rfl) ?_
  refine lv_iload_n hx hb dL_law_723 rfl (lv_at hl 3 rfl) ?_
  refine lv_iconst (v := 3) hx hb dL_law_724 (by decide) ?_
  refine lv_iadd hx hb dL_law_725 ?_
  rw [show ((nI i) + 3 : Int32) = nI (i + 3) from nI_add i 3]
  refine sc_ld hx hb hX hbl hS (k := (i + 3)) (by omega) hLen dL_law_726 ?_
  refine wr_call (V1 := wO h f f1 f2 ph ++ wF f fa fb fc cI cZ n (fo_cp G) (gp n G (xs (i + 1)) (xs (i + 2)) (fun a b => if isV (xs (i + 3)) = true then vSet va (fo_pt G a b) (xs (i + 3)) (fo_pL G a b) else va) va va) mk ++ wF f1 fa1 fb1 fc1 cI cZ n1 pa1 va1 mk1 ++ wF f2 fa2 fb2 fc2 cI cZ n2 pa2 va2 mk2 ++ wP ph hq cI (pvV n G vs (xs (i + 1)) (xs (i + 2))) (nI (pvL n G L (xs (i + 1)) (xs (i + 2)))) ++ wM g st sl sv pt cI cZ (mst n G (gp n G (xs (i + 1)) (xs (i + 2)) (fun a b => if isV (xs (i + 3)) = true then vSet va (fo_pt G a b) (xs (i + 3)) (fo_pL G a b) else va) va va) mk) fsl fsv (gp n G (xs (i + 1)) (xs (i + 2)) (fun a b => if isV (xs (i + 3)) = true then fillI (fo_pL G a b) (fun t => nI (fo_pt G a b t)) fpt else fpt) fpt fpt) (gp n G (xs (i + 1)) (xs (i + 2)) (fun a b => if isV (xs (i + 3)) = true then nI (fo_pL G a b) else many) many many)) ⟨hx, hb, hml, hown, hts⟩ (c_X3_setOnPath l D cI cZ g st sl sv pt fsl fsv fpt many n G va mk F (xs (i + 1)) (xs (i + 2)) (xs (i + 3))) (cwV 3 hts gL_law_X3_setOnPath rfl rfl rfl (by decide +kernel) ⟨Nat.le_of_ble_eq_true rfl, Nat.le_of_ble_eq_true rfl⟩) hP hK hD hS [15, 16, 17, 18, 19] [0, 1, 2, 3, 4, 5, 6, 7, 8, 9, 10, 11, 12, 13, 14] [0, 1, 2, 3, 4, 5, 6, 7, 8, 9, 10, 11, 12, 13, 14, 15, 16, 17, 18, 19] rfl rfl (by decide) rfl rfl rfl rfl rfl hl rfl (Nat.le_of_ble_eq_true rfl) dL_law_727 ⟨Nat.le_of_ble_eq_true rfl, Nat.le_of_ble_eq_true rfl⟩ (fun H locs hP hD hS => ?_)
  refine lv_icmp_eq (tgt := 1044) hx hb dL_law_730 (by decide) (fun c_730 => ?_) (fun c_730 => ?_)
  · skip
    exact kk n G (gp n G (xs (i + 1)) (xs (i + 2)) (fun a b => if isV (xs (i + 3)) = true then vSet va (fo_pt G a b) (xs (i + 3)) (fo_pL G a b) else va) va va) mk n1 pa1 va1 mk1 n2 pa2 va2 mk2 (pvV n G vs (xs (i + 1)) (xs (i + 2))) (pvL n G L (xs (i + 1)) (xs (i + 2))) fsl fsv (gp n G (xs (i + 1)) (xs (i + 2)) (fun a b => if isV (xs (i + 3)) = true then fillI (fo_pL G a b) (fun t => nI (fo_pt G a b t)) fpt else fpt) fpt fpt) (gp n G (xs (i + 1)) (xs (i + 2)) (fun a b => if isV (xs (i + 3)) = true then nI (fo_pL G a b) else many) many many) ⟨F, setPath_ok F hva _ _ _, pvL_le F hL _ _, hs0, hs1⟩ H locs hP hD hS
  · skip
    exact absurd rfl c_730
set_option maxHeartbeats 4000000 in
set_option maxRecDepth 100000 in
/-- case 19: reverseValues -/
theorem lc_19 {p : Program} {l : Launch} {e : Env} {s : State} {m : MethodId} {below : List Frame} {meth : Method} {c : Code} {b Len : Nat} {xs : Nat → Int32} (C0 : lw_At p s m meth c b Len xs) (hLen : Len ≤ 2048) {D : va_G} {cI cZ : ClassId} (hK : KK D cI cZ s) {h f fa fb fc f1 fa1 fb1 fc1 f2 fa2 fb2 fc2 ph hq g st sl sv pt : Nat} {i : Nat} (hi : i + 4 ≤ Len) {ls : Array Slot} (hl : lv_has ls 4 [(0, .ref b), (1, .ref h), (2, .ref g), (3, .int (nI i))]) (kk : LKont p l e s m b below meth c D cI cZ h f fa fb fc f1 fa1 fb1 fc1 f2 fa2 fb2 fc2 ph hq g st sl sv pt ls)
    (n : Nat) (G : Nat → Nat) (va : Nat → Int32) (mk : Nat → Bool) (n1 : Nat) (pa1 va1 : Nat → Int32) (mk1 : Nat → Bool) (n2 : Nat) (pa2 va2 : Nat → Int32) (mk2 : Nat → Bool) (vs : Nat → Int32) (L : Nat) (fsl fsv fpt : Nat → Int32) (many : Int32) (I : LInv n G va n1 pa1 va1 mk1 n2 pa2 va2 mk2 L fsl fsv) (H : Heap) (locs : List Loc) (hP : va_P D vwCl (LW h f fa fb fc f1 fa1 fb1 fc1 f2 fa2 fb2 fc2 ph hq g st sl sv pt cI cZ n G va mk n1 pa1 va1 mk1 n2 pa2 va2 mk2 vs L fsl fsv fpt many) H) (hD : va_D (aI s) (LW h f fa fb fc f1 fa1 fb1 fc1 f2 fa2 fb2 fc2 ph hq g st sl sv pt cI cZ n G va mk n1 pa1 va1 mk1 n2 pa2 va2 mk2 vs L fsl fsv fpt many)) (hS : va_S (aI s) s.heap H locs) : Wl p l e s m b below meth c H locs (F0 m 735 ls []) := by
  obtain ⟨hx, hb, hr, hml, hown, hts, hX, hbl, hlocks, hgv⟩ := C0
  have hts := fun w h => hts w (wsL_law_in w h)
  have hown : s.vm.findClass RL = some m.cls := hown
  obtain ⟨F, hva, hL, hs0, hs1⟩ := I
  have hP : va_P D vwCl (wO h f f1 f2 ph ++ wF f fa fb fc cI cZ n (fo_cp G) va mk ++ wF f1 fa1 fb1 fc1 cI cZ n1 pa1 va1 mk1 ++ wF f2 fa2 fb2 fc2 cI cZ n2 pa2 va2 mk2 ++ wP ph hq cI vs (nI L) ++ wM g st sl sv pt cI cZ (mst n G va mk) fsl fsv fpt many) H := hP
  have hD : va_D (aI s) (wO h f f1 f2 ph ++ wF f fa fb fc cI cZ n (fo_cp G) va mk ++ wF f1 fa1 fb1 fc1 cI cZ n1 pa1 va1 mk1 ++ wF f2 fa2 fb2 fc2 cI cZ n2 pa2 va2 mk2 ++ wP ph hq cI vs (nI L) ++ wM g st sl sv pt cI cZ (mst n G va mk) fsl fsv fpt many) := hD
  refine lv_aload_n hx hb dL_law_735 rfl (lv_at hl 1 rfl) ?_
  refine lv_aload_n hx hb dL_law_736 rfl (lv_at hl 0 rfl) ?_
  refine lv_iload_n hx hb dL_law_737 rfl (lv_at hl 3 rfl) ?_
  refine lv_iconst (v := 1) hx hb dL_law_738 (by decide) ?_
  refine lv_iadd hx hb dL_law_739 ?_
  rw [show ((nI i) + 1 : Int32) = nI (i + 1) from nI_add i 1]
  refine sc_ld hx hb hX hbl hS (k := (i + 1)) (by omega) hLen dL_law_740 ?_
  refine lv_aload_n hx hb dL_law_741 rfl (lv_at hl 0 rfl) ?_
  refine lv_iload_n hx hb dL_law_742 rfl (lv_at hl 3 rfl) ?_
  refine lv_iconst (v := 2) hx hb dL_law_743 (by decide) ?_
  refine lv_iadd hx hb dL_law_744 ?_
  rw [show ((nI i) + 2 : Int32) = nI (i + 2) from nI_add i 2]
  refine sc_ld hx hb hX hbl hS (k := (i + 2)) (by omega) hLen dL_law_745 ?_
  refine wr_call (V1 := wO h f f1 f2 ph ++ wF f fa fb fc cI cZ n (fo_cp G) (gp n G (xs (i + 1)) (xs (i + 2)) (fun a b => vRev va (fo_pt G a b) (fo_pL G a b) (fo_pL G a b / 2)) va va) mk ++ wF f1 fa1 fb1 fc1 cI cZ n1 pa1 va1 mk1 ++ wF f2 fa2 fb2 fc2 cI cZ n2 pa2 va2 mk2 ++ wP ph hq cI (pvV n G vs (xs (i + 1)) (xs (i + 2))) (nI (pvL n G L (xs (i + 1)) (xs (i + 2)))) ++ wM g st sl sv pt cI cZ (mst n G va mk) fsl fsv fpt many) ⟨hx, hb, hml, hown, hts⟩ (c_X2_reverseValues l D cI cZ h f1 f2 ph f fa fb fc n G va mk F hq vs L hL (xs (i + 1)) (xs (i + 2))) (cwV 2 hts gL_law_X2_reverseValues rfl rfl rfl (by decide +kernel) ⟨Nat.le_of_ble_eq_true rfl, Nat.le_of_ble_eq_true rfl⟩) hP hK hD hS [0, 1, 2, 3, 4, 13, 14] [5, 6, 7, 8, 9, 10, 11, 12, 15, 16, 17, 18, 19] [13, 14, 15, 16, 17, 0, 1, 2, 3, 4, 5, 6, 7, 18, 19, 8, 9, 10, 11, 12] rfl rfl (by decide) rfl rfl rfl rfl rfl hl rfl (Nat.le_of_ble_eq_true rfl) dL_law_746 ⟨Nat.le_of_ble_eq_true rfl, Nat.le_of_ble_eq_true rfl⟩ (fun H locs hP hD hS => ?_)
  refine lv_aload_n hx hb dL_law_749 rfl (lv_at hl 2 rfl) ?_
  refine lv_aload_n hx hb dL_law_750 rfl (lv_at hl 0 rfl) ?_
  refine lv_iload_n hx hb dL_law_751 rfl (lv_at hl 3 rfl) ?_
  refine lv_iconst (v := 1) hx hb dL_law_752 (by decide) ?_
  refine lv_iadd hx hb dL_law_753 ?_
  rw [show ((nI i) + 1 : Int32) = nI (i + 1) from nI_add i 1]
  refine sc_ld hx hb hX hbl hS (k := (i + 1)) (by omega) hLen dL_law_754 ?_
  refine lv_aload_n hx hb dL_law_755 rfl (lv_at hl 0 rfl) ?_
  refine lv_iload_n hx hb dL_law_756 rfl (lv_at hl 3 rfl) ?_
  refine lv_iconst (v := 2) hx hb dL_law_757 (by decide) ?_
  refine lv_iadd hx hb dL_law_758 ?_
  rw [show ((nI i) + 2 : Int32) = nI (i + 2) from nI_add i 2]
  refine sc_ld hx hb hX hbl hS (k := (i + 2)) (by omega) hLen dL_law_759 ?_
  refine wr_call (V1 := wO h f f1 f2 ph ++ wF f fa fb fc cI cZ n (fo_cp G) (gp n G (xs (i + 1)) (xs (i + 2)) (fun a b => vRev va (fo_pt G a b) (fo_pL G a b) (fo_pL G a b / 2)) va va) mk ++ wF f1 fa1 fb1 fc1 cI cZ n1 pa1 va1 mk1 ++ wF f2 fa2 fb2 fc2 cI cZ n2 pa2 va2 mk2 ++ wP ph hq cI (pvV n G vs (xs (i + 1)) (xs (i + 2))) (nI (pvL n G L (xs (i + 1)) (xs (i + 2)))) ++ wM g st sl sv pt cI cZ (mst n G (gp n G (xs (i + 1)) (xs (i + 2)) (fun a b => vRev va (fo_pt G a b) (fo_pL G a b) (fo_pL G a b / 2)) va va) mk) fsl fsv (pvV n G fpt (xs (i + 1)) (xs (i + 2))) (pvM n G many (xs (i + 1)) (xs (i + 2)))) ⟨hx, hb, hml, hown, hts⟩ (c_X3_reverseValues l D cI cZ g st sl sv pt fsl fsv fpt many n G va mk F (xs (i + 1)) (xs (i + 2))) (cwV 2 hts gL_law_X3_reverseValues rfl rfl rfl (by decide +kernel) ⟨Nat.le_of_ble_eq_true rfl, Nat.le_of_ble_eq_true rfl⟩) hP hK hD hS [15, 16, 17, 18, 19] [0, 1, 2, 3, 4, 5, 6, 7, 8, 9, 10, 11, 12, 13, 14] [0, 1, 2, 3, 4, 5, 6, 7, 8, 9, 10, 11, 12, 13, 14, 15, 16, 17, 18, 19] rfl rfl (by decide) rfl rfl rfl rfl rfl hl rfl (Nat.le_of_ble_eq_true rfl) dL_law_760 ⟨Nat.le_of_ble_eq_true rfl, Nat.le_of_ble_eq_true rfl⟩ (fun H locs hP hD hS => ?_)
  refine lv_icmp_eq (tgt := 1044) hx hb dL_law_763 (by decide) (fun c_763 => ?_) (fun c_763 => ?_)
  · skip
    exact kk n G (gp n G (xs (i + 1)) (xs (i + 2)) (fun a b => vRev va (fo_pt G a b) (fo_pL G a b) (fo_pL G a b / 2)) va va) mk n1 pa1 va1 mk1 n2 pa2 va2 mk2 (pvV n G vs (xs (i + 1)) (xs (i + 2))) (pvL n G L (xs (i + 1)) (xs (i + 2))) fsl fsv (pvV n G fpt (xs (i + 1)) (xs (i + 2))) (pvM n G many (xs (i + 1)) (xs (i + 2))) ⟨F, revPath_ok F hva _ _, pvL_le F hL _ _, hs0, hs1⟩ H locs hP hD hS
  · skip
    exact absurd rfl c_763
