set_option maxHeartbeats 4000000 in
set_option maxRecDepth 100000 in
/-- case 29: restore -/
theorem lc_29 {p : Program} {l : Launch} {e : Env} {s : State} {m : MethodId} {below : List Frame} {meth : Method} {c : Code} {b Len : Nat} {xs : Nat → Int32} (C0 : lw_At p s m meth c b Len xs) (hLen : Len ≤ 2048) {D : va_G} {cI cZ : ClassId} (hK : KK D cI cZ s) {h f fa fb fc f1 fa1 fb1 fc1 f2 fa2 fb2 fc2 ph hq g st sl sv pt : Nat} {i : Nat} (hi : i + 4 ≤ Len) {ls : Array Slot} (hl : lv_has ls 4 [(0, .ref b), (1, .ref h), (2, .ref g), (3, .int (nI i))]) (kk : LKont p l e s m b below meth c D cI cZ h f fa fb fc f1 fa1 fb1 fc1 f2 fa2 fb2 fc2 ph hq g st sl sv pt ls)
    (n : Nat) (G : Nat → Nat) (va : Nat → Int32) (mk : Nat → Bool) (n1 : Nat) (pa1 va1 : Nat → Int32) (mk1 : Nat → Bool) (n2 : Nat) (pa2 va2 : Nat → Int32) (mk2 : Nat → Bool) (vs : Nat → Int32) (L : Nat) (fsl fsv fpt : Nat → Int32) (many : Int32) (I : LInv n G va n1 pa1 va1 mk1 n2 pa2 va2 mk2 L fsl fsv) (H : Heap) (locs : List Loc) (hP : va_P D vwCl (LW h f fa fb fc f1 fa1 fb1 fc1 f2 fa2 fb2 fc2 ph hq g st sl sv pt cI cZ n G va mk n1 pa1 va1 mk1 n2 pa2 va2 mk2 vs L fsl fsv fpt many) H) (hD : va_D (aI s) (LW h f fa fb fc f1 fa1 fb1 fc1 f2 fa2 fb2 fc2 ph hq g st sl sv pt cI cZ n G va mk n1 pa1 va1 mk1 n2 pa2 va2 mk2 vs L fsl fsv fpt many)) (hS : va_S (aI s) s.heap H locs) : Wl p l e s m b below meth c H locs (F0 m 1021 ls []) := by
  obtain ⟨hx, hb, hr, hml, hown, hts, hX, hbl, hlocks, hgv⟩ := C0
  have hts := fun w h => hts w (wsL_law_in w h)
  have hown : s.vm.findClass RL = some m.cls := hown
  obtain ⟨F, hva, hL, hs0, hs1⟩ := I
  have hP : va_P D vwCl (wO h f f1 f2 ph ++ wF f fa fb fc cI cZ n (fo_cp G) va mk ++ wF f1 fa1 fb1 fc1 cI cZ n1 pa1 va1 mk1 ++ wF f2 fa2 fb2 fc2 cI cZ n2 pa2 va2 mk2 ++ wP ph hq cI vs (nI L) ++ wM g st sl sv pt cI cZ (mst n G va mk) fsl fsv fpt many) H := hP
  have hD : va_D (aI s) (wO h f f1 f2 ph ++ wF f fa fb fc cI cZ n (fo_cp G) va mk ++ wF f1 fa1 fb1 fc1 cI cZ n1 pa1 va1 mk1 ++ wF f2 fa2 fb2 fc2 cI cZ n2 pa2 va2 mk2 ++ wP ph hq cI vs (nI L) ++ wM g st sl sv pt cI cZ (mst n G va mk) fsl fsv fpt many) := hD
  by_cases h0 : xs (i + 1) = 0
  · rcases id hs0 with ⟨hz, hfl⟩ | ⟨G1, F1, hv1, he1, hfl, hsl⟩
    · skip
      refine lv_aload_n hx hb dL_law_1021 rfl (lv_at hl 1 rfl) ?_
      refine lv_aload_n hx hb dL_law_1022 rfl (lv_at hl 0 rfl) ?_
      refine lv_iload_n hx hb dL_law_1023 rfl (lv_at hl 3 rfl) ?_
      refine lv_iconst (v := 1) hx hb dL_law_1024 (by decide) ?_
      refine lv_iadd hx hb dL_law_1025 ?_
      rw [show ((nI i) + 1 : Int32) = nI (i + 1) from nI_add i 1]
      refine sc_ld hx hb hX hbl hS (k := (i + 1)) (by omega) hLen dL_law_1026 ?_
      rw [h0]
      refine rd_call ⟨hx, hb, hml, hown, hts⟩ (c_X2_restore_0u l D cI cZ h f1 f2 ph f fa fb fc n G va mk F fa1 fb1 fc1 n1 pa1 va1 mk1 fa2 fb2 fc2 n2 pa2 va2 mk2 hz) (cwV 1 hts gL_law_X2_restore rfl rfl rfl (by decide +kernel) ⟨Nat.le_of_ble_eq_true rfl, Nat.le_of_ble_eq_true rfl⟩) (hP.sub (ws' := wO h f f1 f2 ph ++ wF f fa fb fc cI cZ n (fo_cp G) va mk ++ wF f1 fa1 fb1 fc1 cI cZ n1 pa1 va1 mk1 ++ wF f2 fa2 fb2 fc2 cI cZ n2 pa2 va2 mk2) [0, 1, 2, 3, 4, 5, 6, 7, 8, 9, 10, 11, 12] rfl) hK rfl rfl rfl hl rfl (Nat.le_of_ble_eq_true rfl) dL_law_1027 ⟨Nat.le_of_ble_eq_true rfl, Nat.le_of_ble_eq_true rfl⟩ ?_
      refine lv_aload_n hx hb dL_law_1030 rfl (lv_at hl 2 rfl) ?_
      refine lv_aload_n hx hb dL_law_1031 rfl (lv_at hl 0 rfl) ?_
      refine lv_iload_n hx hb dL_law_1032 rfl (lv_at hl 3 rfl) ?_
      refine lv_iconst (v := 1) hx hb dL_law_1033 (by decide) ?_
      refine lv_iadd hx hb dL_law_1034 ?_
      rw [show ((nI i) + 1 : Int32) = nI (i + 1) from nI_add i 1]
      refine sc_ld hx hb hX hbl hS (k := (i + 1)) (by omega) hLen dL_law_1035 ?_
      rw [h0]
      refine rd_call ⟨hx, hb, hml, hown, hts⟩ (c_X3_restore_0u l D cI cZ g st sl sv pt fsl fsv fpt many n G va mk F hfl) (cwV 1 hts gL_law_X3_restore rfl rfl rfl (by decide +kernel) ⟨Nat.le_of_ble_eq_true rfl, Nat.le_of_ble_eq_true rfl⟩) (hP.sub (ws' := wM g st sl sv pt cI cZ (mst n G va mk) fsl fsv fpt many) [15, 16, 17, 18, 19] rfl) hK rfl rfl rfl hl rfl (Nat.le_of_ble_eq_true rfl) dL_law_1036 ⟨Nat.le_of_ble_eq_true rfl, Nat.le_of_ble_eq_true rfl⟩ ?_
      refine lv_icmp_eq (tgt := 1044) hx hb dL_law_1039 (by decide) (fun c_1039 => ?_) (fun c_1039 => ?_)
      · skip
        exact kk n G va mk n1 pa1 va1 mk1 n2 pa2 va2 mk2 vs L fsl fsv fpt many ⟨F, hva, hL, hs0, hs1⟩ H locs hP hD hS
      · skip
        exact absurd rfl c_1039
    · subst he1
      refine lv_aload_n hx hb dL_law_1021 rfl (lv_at hl 1 rfl) ?_
      refine lv_aload_n hx hb dL_law_1022 rfl (lv_at hl 0 rfl) ?_
      refine lv_iload_n hx hb dL_law_1023 rfl (lv_at hl 3 rfl) ?_
      refine lv_iconst (v := 1) hx hb dL_law_1024 (by decide) ?_
      refine lv_iadd hx hb dL_law_1025 ?_
      rw [show ((nI i) + 1 : Int32) = nI (i + 1) from nI_add i 1]
      refine sc_ld hx hb hX hbl hS (k := (i + 1)) (by omega) hLen dL_law_1026 ?_
      rw [h0]
      refine wr_call (V1 := wO h f f1 f2 ph ++ wF f fa fb fc cI cZ n1 (fo_cp G1) va1 mk1 ++ wF f1 fa1 fb1 fc1 cI cZ n1 (fo_cp G1) va1 mk1 ++ wF f2 fa2 fb2 fc2 cI cZ n2 pa2 va2 mk2 ++ wP ph hq cI vs (nI L) ++ wM g st sl sv pt cI cZ (mst n G va mk) fsl fsv fpt many) ⟨hx, hb, hml, hown, hts⟩ (c_X2_restore_0s l D cI cZ h f1 f2 ph f fa fb fc n G va mk F fa1 fb1 fc1 n1 (fo_cp G1) va1 mk1 fa2 fb2 fc2 n2 pa2 va2 mk2 (F1.1) (F1.2.1)) (cwV 1 hts gL_law_X2_restore rfl rfl rfl (by decide +kernel) ⟨Nat.le_of_ble_eq_true rfl, Nat.le_of_ble_eq_true rfl⟩) hP hK hD hS [0, 1, 2, 3, 4, 5, 6, 7, 8, 9, 10, 11, 12] [13, 14, 15, 16, 17, 18, 19] [7, 8, 9, 10, 11, 12, 13, 14, 15, 16, 17, 18, 19, 0, 1, 2, 3, 4, 5, 6] rfl rfl (by decide) rfl rfl rfl rfl rfl hl rfl (Nat.le_of_ble_eq_true rfl) dL_law_1027 ⟨Nat.le_of_ble_eq_true rfl, Nat.le_of_ble_eq_true rfl⟩ (fun H locs hP hD hS => ?_)
      refine lv_aload_n hx hb dL_law_1030 rfl (lv_at hl 2 rfl) ?_
      refine lv_aload_n hx hb dL_law_1031 rfl (lv_at hl 0 rfl) ?_
      refine lv_iload_n hx hb dL_law_1032 rfl (lv_at hl 3 rfl) ?_
      refine lv_iconst (v := 1) hx hb dL_law_1033 (by decide) ?_
      refine lv_iadd hx hb dL_law_1034 ?_
      rw [show ((nI i) + 1 : Int32) = nI (i + 1) from nI_add i 1]
      refine sc_ld hx hb hX hbl hS (k := (i + 1)) (by omega) hLen dL_law_1035 ?_
      rw [h0]
      refine wr_call (V1 := wO h f f1 f2 ph ++ wF f fa fb fc cI cZ n1 (fo_cp G1) va1 mk1 ++ wF f1 fa1 fb1 fc1 cI cZ n1 (fo_cp G1) va1 mk1 ++ wF f2 fa2 fb2 fc2 cI cZ n2 pa2 va2 mk2 ++ wP ph hq cI vs (nI L) ++ wM g st sl sv pt cI cZ (mst n1 G1 va1 mk1) fsl fsv fpt many) ⟨hx, hb, hml, hown, hts⟩ (c_X3_restore_0s l D cI cZ g st sl sv pt fsl fsv fpt many n G va mk F n1 G1 va1 mk1 F1 hfl hsl) (cwV 1 hts gL_law_X3_restore rfl rfl rfl (by decide +kernel) ⟨Nat.le_of_ble_eq_true rfl, Nat.le_of_ble_eq_true rfl⟩) hP hK hD hS [15, 16, 17, 18, 19] [0, 1, 2, 3, 4, 5, 6, 7, 8, 9, 10, 11, 12, 13, 14] [0, 1, 2, 3, 4, 5, 6, 7, 8, 9, 10, 11, 12, 13, 14, 15, 16, 17, 18, 19] rfl rfl (by decide) rfl rfl rfl rfl rfl hl rfl (Nat.le_of_ble_eq_true rfl) dL_law_1036 ⟨Nat.le_of_ble_eq_true rfl, Nat.le_of_ble_eq_true rfl⟩ (fun H locs hP hD hS => ?_)
      refine lv_icmp_eq (tgt := 1044) hx hb dL_law_1039 (by decide) (fun c_1039 => ?_) (fun c_1039 => ?_)
      · skip
        exact kk n1 G1 va1 mk1 n1 (fo_cp G1) va1 mk1 n2 pa2 va2 mk2 vs L fsl fsv fpt many ⟨F1, hv1, hL, hs0, hs1⟩ H locs hP hD hS
      · skip
        exact absurd rfl c_1039
  · by_cases h1 : xs (i + 1) = 1
    · rcases id hs1 with ⟨hz, hfl⟩ | ⟨G1, F1, hv1, he1, hfl, hsl⟩
      · skip
        refine lv_aload_n hx hb dL_law_1021 rfl (lv_at hl 1 rfl) ?_
        refine lv_aload_n hx hb dL_law_1022 rfl (lv_at hl 0 rfl) ?_
        refine lv_iload_n hx hb dL_law_1023 rfl (lv_at hl 3 rfl) ?_
        refine lv_iconst (v := 1) hx hb dL_law_1024 (by decide) ?_
        refine lv_iadd hx hb dL_law_1025 ?_
        rw [show ((nI i) + 1 : Int32) = nI (i + 1) from nI_add i 1]
        refine sc_ld hx hb hX hbl hS (k := (i + 1)) (by omega) hLen dL_law_1026 ?_
        rw [h1]
        refine rd_call ⟨hx, hb, hml, hown, hts⟩ (c_X2_restore_1u l D cI cZ h f1 f2 ph f fa fb fc n G va mk F fa1 fb1 fc1 n1 pa1 va1 mk1 fa2 fb2 fc2 n2 pa2 va2 mk2 hz) (cwV 1 hts gL_law_X2_restore rfl rfl rfl (by decide +kernel) ⟨Nat.le_of_ble_eq_true rfl, Nat.le_of_ble_eq_true rfl⟩) (hP.sub (ws' := wO h f f1 f2 ph ++ wF f fa fb fc cI cZ n (fo_cp G) va mk ++ wF f1 fa1 fb1 fc1 cI cZ n1 pa1 va1 mk1 ++ wF f2 fa2 fb2 fc2 cI cZ n2 pa2 va2 mk2) [0, 1, 2, 3, 4, 5, 6, 7, 8, 9, 10, 11, 12] rfl) hK rfl rfl rfl hl rfl (Nat.le_of_ble_eq_true rfl) dL_law_1027 ⟨Nat.le_of_ble_eq_true rfl, Nat.le_of_ble_eq_true rfl⟩ ?_
        refine lv_aload_n hx hb dL_law_1030 rfl (lv_at hl 2 rfl) ?_
        refine lv_aload_n hx hb dL_law_1031 rfl (lv_at hl 0 rfl) ?_
        refine lv_iload_n hx hb dL_law_1032 rfl (lv_at hl 3 rfl) ?_
        refine lv_iconst (v := 1) hx hb dL_law_1033 (by decide) ?_
        refine lv_iadd hx hb dL_law_1034 ?_
        rw [show ((nI i) + 1 : Int32) = nI (i + 1) from nI_add i 1]
        refine sc_ld hx hb hX hbl hS (k := (i + 1)) (by omega) hLen dL_law_1035 ?_
        rw [h1]
        refine rd_call ⟨hx, hb, hml, hown, hts⟩ (c_X3_restore_1u l D cI cZ g st sl sv pt fsl fsv fpt many n G va mk F hfl) (cwV 1 hts gL_law_X3_restore rfl rfl rfl (by decide +kernel) ⟨Nat.le_of_ble_eq_true rfl, Nat.le_of_ble_eq_true rfl⟩) (hP.sub (ws' := wM g st sl sv pt cI cZ (mst n G va mk) fsl fsv fpt many) [15, 16, 17, 18, 19] rfl) hK rfl rfl rfl hl rfl (Nat.le_of_ble_eq_true rfl) dL_law_1036 ⟨Nat.le_of_ble_eq_true rfl, Nat.le_of_ble_eq_true rfl⟩ ?_
        refine lv_icmp_eq (tgt := 1044) hx hb dL_law_1039 (by decide) (fun c_1039 => ?_) (fun c_1039 => ?_)
        · skip
          exact kk n G va mk n1 pa1 va1 mk1 n2 pa2 va2 mk2 vs L fsl fsv fpt many ⟨F, hva, hL, hs0, hs1⟩ H locs hP hD hS
        · skip
          exact absurd rfl c_1039
      · subst he1
        refine lv_aload_n hx hb dL_law_1021 rfl (lv_at hl 1 rfl) ?_
        refine lv_aload_n hx hb dL_law_1022 rfl (lv_at hl 0 rfl) ?_
        refine lv_iload_n hx hb dL_law_1023 rfl (lv_at hl 3 rfl) ?_
        refine lv_iconst (v := 1) hx hb dL_law_1024 (by decide) ?_
        refine lv_iadd hx hb dL_law_1025 ?_
        rw [show ((nI i) + 1 : Int32) = nI (i + 1) from nI_add i 1]
        refine sc_ld hx hb hX hbl hS (k := (i + 1)) (by omega) hLen dL_law_1026 ?_
        rw [h1]
        refine wr_call (V1 := wO h f f1 f2 ph ++ wF f fa fb fc cI cZ n2 (fo_cp G1) va2 mk2 ++ wF f1 fa1 fb1 fc1 cI cZ n1 pa1 va1 mk1 ++ wF f2 fa2 fb2 fc2 cI cZ n2 (fo_cp G1) va2 mk2 ++ wP ph hq cI vs (nI L) ++ wM g st sl sv pt cI cZ (mst n G va mk) fsl fsv fpt many) ⟨hx, hb, hml, hown, hts⟩ (c_X2_restore_1s l D cI cZ h f1 f2 ph f fa fb fc n G va mk F fa1 fb1 fc1 n1 pa1 va1 mk1 fa2 fb2 fc2 n2 (fo_cp G1) va2 mk2 (F1.1) (F1.2.1)) (cwV 1 hts gL_law_X2_restore rfl rfl rfl (by decide +kernel) ⟨Nat.le_of_ble_eq_true rfl, Nat.le_of_ble_eq_true rfl⟩) hP hK hD hS [0, 1, 2, 3, 4, 5, 6, 7, 8, 9, 10, 11, 12] [13, 14, 15, 16, 17, 18, 19] [7, 8, 9, 10, 11, 12, 13, 14, 15, 16, 17, 18, 19, 0, 1, 2, 3, 4, 5, 6] rfl rfl (by decide) rfl rfl rfl rfl rfl hl rfl (Nat.le_of_ble_eq_true rfl) dL_law_1027 ⟨Nat.le_of_ble_eq_true rfl, Nat.le_of_ble_eq_true rfl⟩ (fun H locs hP hD hS => ?_)
        refine lv_aload_n hx hb dL_law_1030 rfl (lv_at hl 2 rfl) ?_
        refine lv_aload_n hx hb dL_law_1031 rfl (lv_at hl 0 rfl) ?_
        refine lv_iload_n hx hb dL_law_1032 rfl (lv_at hl 3 rfl) ?_
        refine lv_iconst (v := 1) hx hb dL_law_1033 (by decide) ?_
        refine lv_iadd hx hb dL_law_1034 ?_
        rw [show ((nI i) + 1 : Int32) = nI (i + 1) from nI_add i 1]
        refine sc_ld hx hb hX hbl hS (k := (i + 1)) (by omega) hLen dL_law_1035 ?_
        rw [h1]
        refine wr_call (V1 := wO h f f1 f2 ph ++ wF f fa fb fc cI cZ n2 (fo_cp G1) va2 mk2 ++ wF f1 fa1 fb1 fc1 cI cZ n1 pa1 va1 mk1 ++ wF f2 fa2 fb2 fc2 cI cZ n2 (fo_cp G1) va2 mk2 ++ wP ph hq cI vs (nI L) ++ wM g st sl sv pt cI cZ (mst n2 G1 va2 mk2) fsl fsv fpt many) ⟨hx, hb, hml, hown, hts⟩ (c_X3_restore_1s l D cI cZ g st sl sv pt fsl fsv fpt many n G va mk F n2 G1 va2 mk2 F1 hfl hsl) (cwV 1 hts gL_law_X3_restore rfl rfl rfl (by decide +kernel) ⟨Nat.le_of_ble_eq_true rfl, Nat.le_of_ble_eq_true rfl⟩) hP hK hD hS [15, 16, 17, 18, 19] [0, 1, 2, 3, 4, 5, 6, 7, 8, 9, 10, 11, 12, 13, 14] [0, 1, 2, 3, 4, 5, 6, 7, 8, 9, 10, 11, 12, 13, 14, 15, 16, 17, 18, 19] rfl rfl (by decide) rfl rfl rfl rfl rfl hl rfl (Nat.le_of_ble_eq_true rfl) dL_law_1036 ⟨Nat.le_of_ble_eq_true rfl, Nat.le_of_ble_eq_true rfl⟩ (fun H locs hP hD hS => ?_)
        refine lv_icmp_eq (tgt := 1044) hx hb dL_law_1039 (by decide) (fun c_1039 => ?_) (fun c_1039 => ?_)
        · skip
          exact kk n2 G1 va2 mk2 n1 pa1 va1 mk1 n2 (fo_cp G1) va2 mk2 vs L fsl fsv fpt many ⟨F1, hv1, hL, hs0, hs1⟩ H locs hP hD hS
        · skip
          exact absurd rfl c_1039
    · have hxb : isS (xs (i + 1)) = false := by simp [isS, h0, h1]
      refine lv_aload_n hx hb dL_law_1021 rfl (lv_at hl 1 rfl) ?_
      refine lv_aload_n hx hb dL_law_1022 rfl (lv_at hl 0 rfl) ?_
      refine lv_iload_n hx hb dL_law_1023 rfl (lv_at hl 3 rfl) ?_
      refine lv_iconst (v := 1) hx hb dL_law_1024 (by decide) ?_
      refine lv_iadd hx hb dL_law_1025 ?_
      rw [show ((nI i) + 1 : Int32) = nI (i + 1) from nI_add i 1]
      refine sc_ld hx hb hX hbl hS (k := (i + 1)) (by omega) hLen dL_law_1026 ?_
      refine rd_call ⟨hx, hb, hml, hown, hts⟩ (c_X2_restore_b l D cI cZ h f1 f2 ph f fa fb fc n G va mk F fa1 fb1 fc1 n1 pa1 va1 mk1 fa2 fb2 fc2 n2 pa2 va2 mk2 (xs (i + 1)) hxb) (cwV 1 hts gL_law_X2_restore rfl rfl rfl (by decide +kernel) ⟨Nat.le_of_ble_eq_true rfl, Nat.le_of_ble_eq_true rfl⟩) (hP.sub (ws' := wO h f f1 f2 ph ++ wF f fa fb fc cI cZ n (fo_cp G) va mk ++ wF f1 fa1 fb1 fc1 cI cZ n1 pa1 va1 mk1 ++ wF f2 fa2 fb2 fc2 cI cZ n2 pa2 va2 mk2) [0, 1, 2, 3, 4, 5, 6, 7, 8, 9, 10, 11, 12] rfl) hK rfl rfl rfl hl rfl (Nat.le_of_ble_eq_true rfl) dL_law_1027 ⟨Nat.le_of_ble_eq_true rfl, Nat.le_of_ble_eq_true rfl⟩ ?_
      refine lv_aload_n hx hb dL_law_1030 rfl (lv_at hl 2 rfl) ?_
      refine lv_aload_n hx hb dL_law_1031 rfl (lv_at hl 0 rfl) ?_
      refine lv_iload_n hx hb dL_law_1032 rfl (lv_at hl 3 rfl) ?_
      refine lv_iconst (v := 1) hx hb dL_law_1033 (by decide) ?_
      refine lv_iadd hx hb dL_law_1034 ?_
      rw [show ((nI i) + 1 : Int32) = nI (i + 1) from nI_add i 1]
      refine sc_ld hx hb hX hbl hS (k := (i + 1)) (by omega) hLen dL_law_1035 ?_
      refine rd_call ⟨hx, hb, hml, hown, hts⟩ (c_X3_restore_b l D cI cZ g st sl sv pt fsl fsv fpt many n G va mk F (xs (i + 1)) hxb) (cwV 1 hts gL_law_X3_restore rfl rfl rfl (by decide +kernel) ⟨Nat.le_of_ble_eq_true rfl, Nat.le_of_ble_eq_true rfl⟩) (hP.sub (ws' := wM g st sl sv pt cI cZ (mst n G va mk) fsl fsv fpt many) [15, 16, 17, 18, 19] rfl) hK rfl rfl rfl hl rfl (Nat.le_of_ble_eq_true rfl) dL_law_1036 ⟨Nat.le_of_ble_eq_true rfl, Nat.le_of_ble_eq_true rfl⟩ ?_
      refine lv_icmp_eq (tgt := 1044) hx hb dL_law_1039 (by decide) (fun c_1039 => ?_) (fun c_1039 => ?_)
      · skip
        exact kk n G va mk n1 pa1 va1 mk1 n2 pa2 va2 mk2 vs L fsl fsv fpt many ⟨F, hva, hL, hs0, hs1⟩ H locs hP hD hS
      · skip
        exact absurd rfl c_1039
