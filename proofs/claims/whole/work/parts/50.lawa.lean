set_option maxHeartbeats 4000000 in
set_option maxRecDepth 100000 in
/-- case 0: reset -/
theorem lc_0 {p : Program} {l : Launch} {e : Env} {s : State} {m : MethodId} {below : List Frame} {meth : Method} {c : Code} {b Len : Nat} {xs : Nat → Int32} (C0 : lw_At p s m meth c b Len xs) (hLen : Len ≤ 2048) {D : va_G} {cI cZ : ClassId} (hK : KK D cI cZ s) {h f fa fb fc f1 fa1 fb1 fc1 f2 fa2 fb2 fc2 ph hq g st sl sv pt : Nat} {i : Nat} (hi : i + 4 ≤ Len) {ls : Array Slot} (hl : lv_has ls 4 [(0, .ref b), (1, .ref h), (2, .ref g), (3, .int (nI i))]) (kk : LKont p l e s m b below meth c D cI cZ h f fa fb fc f1 fa1 fb1 fc1 f2 fa2 fb2 fc2 ph hq g st sl sv pt ls)
    (n : Nat) (G : Nat → Nat) (va : Nat → Int32) (mk : Nat → Bool) (n1 : Nat) (pa1 va1 : Nat → Int32) (mk1 : Nat → Bool) (n2 : Nat) (pa2 va2 : Nat → Int32) (mk2 : Nat → Bool) (vs : Nat → Int32) (L : Nat) (fsl fsv fpt : Nat → Int32) (many : Int32) (I : LInv n G va n1 pa1 va1 mk1 n2 pa2 va2 mk2 L fsl fsv) (H : Heap) (locs : List Loc) (hP : va_P D vwCl (LW h f fa fb fc f1 fa1 fb1 fc1 f2 fa2 fb2 fc2 ph hq g st sl sv pt cI cZ n G va mk n1 pa1 va1 mk1 n2 pa2 va2 mk2 vs L fsl fsv fpt many) H) (hD : va_D (aI s) (LW h f fa fb fc f1 fa1 fb1 fc1 f2 fa2 fb2 fc2 ph hq g st sl sv pt cI cZ n G va mk n1 pa1 va1 mk1 n2 pa2 va2 mk2 vs L fsl fsv fpt many)) (hS : va_S (aI s) s.heap H locs) : Wl p l e s m b below meth c H locs (F0 m 168 ls []) := by
  obtain ⟨hx, hb, hr, hml, hown, hts, hX, hbl, hlocks, hgv⟩ := C0
  have hts := fun w h => hts w (wsL_law_in w h)
  have hown : s.vm.findClass RL = some m.cls := hown
  obtain ⟨F, hva, hL, hs0, hs1⟩ := I
  have hP : va_P D vwCl (wO h f f1 f2 ph ++ wF f fa fb fc cI cZ n (fo_cp G) va mk ++ wF f1 fa1 fb1 fc1 cI cZ n1 pa1 va1 mk1 ++ wF f2 fa2 fb2 fc2 cI cZ n2 pa2 va2 mk2 ++ wP ph hq cI vs (nI L) ++ wM g st sl sv pt cI cZ (mst n G va mk) fsl fsv fpt many) H := hP
  have hD : va_D (aI s) (wO h f f1 f2 ph ++ wF f fa fb fc cI cZ n (fo_cp G) va mk ++ wF f1 fa1 fb1 fc1 cI cZ n1 pa1 va1 mk1 ++ wF f2 fa2 fb2 fc2 cI cZ n2 pa2 va2 mk2 ++ wP ph hq cI vs (nI L) ++ wM g st sl sv pt cI cZ (mst n G va mk) fsl fsv fpt many) := hD
  refine lv_aload_n hx hb dL_law_168 rfl (lv_at hl 1 rfl) ?_
  refine lv_aload_n hx hb dL_law_169 rfl (lv_at hl 0 rfl) ?_
  refine lv_iload_n hx hb dL_law_170 rfl (lv_at hl 3 rfl) ?_
  refine lv_iconst (v := 1) hx hb dL_law_171 (by decide) ?_
  refine lv_iadd hx hb dL_law_172 ?_
  rw [show ((nI i) + 1 : Int32) = nI (i + 1) from nI_add i 1]
  refine sc_ld hx hb hX hbl hS (k := (i + 1)) (by omega) hLen dL_law_173 ?_
  refine wr_call (V1 := wO h f f1 f2 ph ++ wF f fa fb fc cI cZ (gk (xs (i + 1)) (fun j => j) n) (fo_cp (gk (xs (i + 1)) (fun _ w => w) G)) (gk (xs (i + 1)) (fun _ _ => 0) va) (gk (xs (i + 1)) (fun _ _ => false) mk) ++ wF f1 fa1 fb1 fc1 cI cZ n1 pa1 va1 mk1 ++ wF f2 fa2 fb2 fc2 cI cZ n2 pa2 va2 mk2 ++ wP ph hq cI vs (nI L) ++ wM g st sl sv pt cI cZ (mst n G va mk) fsl fsv fpt many) ⟨hx, hb, hml, hown, hts⟩ (c_X2_reset l D cI cZ h f1 f2 ph f fa fb fc n G va mk F (xs (i + 1))) (cwV 1 hts gL_law_X2_reset rfl rfl rfl (by decide +kernel) ⟨Nat.le_of_ble_eq_true rfl, Nat.le_of_ble_eq_true rfl⟩) hP hK hD hS [0, 1, 2, 3, 4] [5, 6, 7, 8, 9, 10, 11, 12, 13, 14, 15, 16, 17, 18, 19] [15, 16, 17, 18, 19, 0, 1, 2, 3, 4, 5, 6, 7, 8, 9, 10, 11, 12, 13, 14] rfl rfl (by decide) rfl rfl rfl rfl rfl hl rfl (Nat.le_of_ble_eq_true rfl) dL_law_174 ⟨Nat.le_of_ble_eq_true rfl, Nat.le_of_ble_eq_true rfl⟩ (fun H locs hP hD hS => ?_)
  refine lv_aload_n hx hb dL_law_177 rfl (lv_at hl 2 rfl) ?_
  refine lv_aload_n hx hb dL_law_178 rfl (lv_at hl 0 rfl) ?_
  refine lv_iload_n hx hb dL_law_179 rfl (lv_at hl 3 rfl) ?_
  refine lv_iconst (v := 1) hx hb dL_law_180 (by decide) ?_
  refine lv_iadd hx hb dL_law_181 ?_
  rw [show ((nI i) + 1 : Int32) = nI (i + 1) from nI_add i 1]
  refine sc_ld hx hb hX hbl hS (k := (i + 1)) (by omega) hLen dL_law_182 ?_
  refine wr_call (V1 := wO h f f1 f2 ph ++ wF f fa fb fc cI cZ (gk (xs (i + 1)) (fun j => j) n) (fo_cp (gk (xs (i + 1)) (fun _ w => w) G)) (gk (xs (i + 1)) (fun _ _ => 0) va) (gk (xs (i + 1)) (fun _ _ => false) mk) ++ wF f1 fa1 fb1 fc1 cI cZ n1 pa1 va1 mk1 ++ wF f2 fa2 fb2 fc2 cI cZ n2 pa2 va2 mk2 ++ wP ph hq cI vs (nI L) ++ wM g st sl sv pt cI cZ (mst (gk (xs (i + 1)) (fun j => j) n) (gk (xs (i + 1)) (fun _ w => w) G) (gk (xs (i + 1)) (fun _ _ => 0) va) (gk (xs (i + 1)) (fun _ _ => false) mk)) fsl fsv fpt many) ⟨hx, hb, hml, hown, hts⟩ (c_X3_reset l D cI cZ g st sl sv pt fsl fsv fpt many n G va mk F (xs (i + 1))) (cwV 1 hts gL_law_X3_reset rfl rfl rfl (by decide +kernel) ⟨Nat.le_of_ble_eq_true rfl, Nat.le_of_ble_eq_true rfl⟩) hP hK hD hS [15, 16, 17, 18, 19] [0, 1, 2, 3, 4, 5, 6, 7, 8, 9, 10, 11, 12, 13, 14] [0, 1, 2, 3, 4, 5, 6, 7, 8, 9, 10, 11, 12, 13, 14, 15, 16, 17, 18, 19] rfl rfl (by decide) rfl rfl rfl rfl rfl hl rfl (Nat.le_of_ble_eq_true rfl) dL_law_183 ⟨Nat.le_of_ble_eq_true rfl, Nat.le_of_ble_eq_true rfl⟩ (fun H locs hP hD hS => ?_)
  refine lv_icmp_eq (tgt := 1044) hx hb dL_law_186 (by decide) (fun c_186 => ?_) (fun c_186 => ?_)
  · skip
    exact kk (gk (xs (i + 1)) (fun j => j) n) (gk (xs (i + 1)) (fun _ w => w) G) (gk (xs (i + 1)) (fun _ _ => 0) va) (gk (xs (i + 1)) (fun _ _ => false) mk) n1 pa1 va1 mk1 n2 pa2 va2 mk2 vs L fsl fsv fpt many ⟨reset_ok F _, reset_okV hva _, hL, hs0, hs1⟩ H locs hP hD hS
  · skip
    exact absurd rfl c_186
set_option maxHeartbeats 4000000 in
set_option maxRecDepth 100000 in
/-- case 1: link -/
theorem lc_1 {p : Program} {l : Launch} {e : Env} {s : State} {m : MethodId} {below : List Frame} {meth : Method} {c : Code} {b Len : Nat} {xs : Nat → Int32} (C0 : lw_At p s m meth c b Len xs) (hLen : Len ≤ 2048) {D : va_G} {cI cZ : ClassId} (hK : KK D cI cZ s) {h f fa fb fc f1 fa1 fb1 fc1 f2 fa2 fb2 fc2 ph hq g st sl sv pt : Nat} {i : Nat} (hi : i + 4 ≤ Len) {ls : Array Slot} (hl : lv_has ls 4 [(0, .ref b), (1, .ref h), (2, .ref g), (3, .int (nI i))]) (kk : LKont p l e s m b below meth c D cI cZ h f fa fb fc f1 fa1 fb1 fc1 f2 fa2 fb2 fc2 ph hq g st sl sv pt ls)
    (n : Nat) (G : Nat → Nat) (va : Nat → Int32) (mk : Nat → Bool) (n1 : Nat) (pa1 va1 : Nat → Int32) (mk1 : Nat → Bool) (n2 : Nat) (pa2 va2 : Nat → Int32) (mk2 : Nat → Bool) (vs : Nat → Int32) (L : Nat) (fsl fsv fpt : Nat → Int32) (many : Int32) (I : LInv n G va n1 pa1 va1 mk1 n2 pa2 va2 mk2 L fsl fsv) (H : Heap) (locs : List Loc) (hP : va_P D vwCl (LW h f fa fb fc f1 fa1 fb1 fc1 f2 fa2 fb2 fc2 ph hq g st sl sv pt cI cZ n G va mk n1 pa1 va1 mk1 n2 pa2 va2 mk2 vs L fsl fsv fpt many) H) (hD : va_D (aI s) (LW h f fa fb fc f1 fa1 fb1 fc1 f2 fa2 fb2 fc2 ph hq g st sl sv pt cI cZ n G va mk n1 pa1 va1 mk1 n2 pa2 va2 mk2 vs L fsl fsv fpt many)) (hS : va_S (aI s) s.heap H locs) : Wl p l e s m b below meth c H locs (F0 m 191 ls []) := by
  obtain ⟨hx, hb, hr, hml, hown, hts, hX, hbl, hlocks, hgv⟩ := C0
  have hts := fun w h => hts w (wsL_law_in w h)
  have hown : s.vm.findClass RL = some m.cls := hown
  obtain ⟨F, hva, hL, hs0, hs1⟩ := I
  have hP : va_P D vwCl (wO h f f1 f2 ph ++ wF f fa fb fc cI cZ n (fo_cp G) va mk ++ wF f1 fa1 fb1 fc1 cI cZ n1 pa1 va1 mk1 ++ wF f2 fa2 fb2 fc2 cI cZ n2 pa2 va2 mk2 ++ wP ph hq cI vs (nI L) ++ wM g st sl sv pt cI cZ (mst n G va mk) fsl fsv fpt many) H := hP
  have hD : va_D (aI s) (wO h f f1 f2 ph ++ wF f fa fb fc cI cZ n (fo_cp G) va mk ++ wF f1 fa1 fb1 fc1 cI cZ n1 pa1 va1 mk1 ++ wF f2 fa2 fb2 fc2 cI cZ n2 pa2 va2 mk2 ++ wP ph hq cI vs (nI L) ++ wM g st sl sv pt cI cZ (mst n G va mk) fsl fsv fpt many) := hD
  refine lv_aload_n hx hb dL_law_191 rfl (lv_at hl 1 rfl) ?_
  refine lv_aload_n hx hb dL_law_192 rfl (lv_at hl 0 rfl) ?_
  refine lv_iload_n hx hb dL_law_193 rfl (lv_at hl 3 rfl) ?_
  refine lv_iconst (v := 1) hx hb dL_law_194 (by decide) ?_
  refine lv_iadd hx hb dL_law_195 ?_
  rw [show ((nI i) + 1 : Int32) = nI (i + 1) from nI_add i 1]
  refine sc_ld hx hb hX hbl hS (k := (i + 1)) (by omega) hLen dL_law_196 ?_
  refine lv_aload_n hx hb dL_law_197 rfl (lv_at hl 0 rfl) ?_
  refine lv_iload_n hx hb dL_law_198 rfl (lv_at hl 3 rfl) ?_
  refine lv_iconst (v := 2) hx hb dL_law_199 (by decide) ?_
  refine lv_iadd hx hb dL_law_200 ?_
  rw [show ((nI i) + 2 : Int32) = nI (i + 2) from nI_add i 2]
  refine sc_ld hx hb hX hbl hS (k := (i + 2)) (by omega) hLen dL_law_201 ?_
  refine wr_call (V1 := wO h f f1 f2 ph ++ wF f fa fb fc cI cZ n (fo_cp (gLink n G (xs (i + 1)) (xs (i + 2)))) va mk ++ wF f1 fa1 fb1 fc1 cI cZ n1 pa1 va1 mk1 ++ wF f2 fa2 fb2 fc2 cI cZ n2 pa2 va2 mk2 ++ wP ph hq cI vs (nI L) ++ wM g st sl sv pt cI cZ (mst n G va mk) fsl fsv fpt many) ⟨hx, hb, hml, hown, hts⟩ (c_X2_link l D cI cZ h f1 f2 ph f fa fb fc n G va mk F (xs (i + 1)) (xs (i + 2))) (cwV 2 hts gL_law_X2_link rfl rfl rfl (by decide +kernel) ⟨Nat.le_of_ble_eq_true rfl, Nat.le_of_ble_eq_true rfl⟩) hP hK hD hS [0, 1, 2, 3, 4] [5, 6, 7, 8, 9, 10, 11, 12, 13, 14, 15, 16, 17, 18, 19] [15, 16, 17, 18, 19, 0, 1, 2, 3, 4, 5, 6, 7, 8, 9, 10, 11, 12, 13, 14] rfl rfl (by decide) rfl rfl rfl rfl rfl hl rfl (Nat.le_of_ble_eq_true rfl) dL_law_202 ⟨Nat.le_of_ble_eq_true rfl, Nat.le_of_ble_eq_true rfl⟩ (fun H locs hP hD hS => ?_)
  refine lv_aload_n hx hb dL_law_205 rfl (lv_at hl 2 rfl) ?_
  refine lv_aload_n hx hb dL_law_206 rfl (lv_at hl 0 rfl) ?_
  refine lv_iload_n hx hb dL_law_207 rfl (lv_at hl 3 rfl) ?_
  refine lv_iconst (v := 1) hx hb dL_law_208 (by decide) ?_
  refine lv_iadd hx hb dL_law_209 ?_
  rw [show ((nI i) + 1 : Int32) = nI (i + 1) from nI_add i 1]
  refine sc_ld hx hb hX hbl hS (k := (i + 1)) (by omega) hLen dL_law_210 ?_
  refine lv_aload_n hx hb dL_law_211 rfl (lv_at hl 0 rfl) ?_
  refine lv_iload_n hx hb dL_law_212 rfl (lv_at hl 3 rfl) ?_
  refine lv_iconst (v := 2) hx hb dL_law_213 (by decide) ?_
  refine lv_iadd hx hb dL_law_214 ?_
  rw [show ((nI i) + 2 : Int32) = nI (i + 2) from nI_add i 2]
  refine sc_ld hx hb hX hbl hS (k := (i + 2)) (by omega) hLen dL_law_215 ?_
  refine wr_call (V1 := wO h f f1 f2 ph ++ wF f fa fb fc cI cZ n (fo_cp (gLink n G (xs (i + 1)) (xs (i + 2)))) va mk ++ wF f1 fa1 fb1 fc1 cI cZ n1 pa1 va1 mk1 ++ wF f2 fa2 fb2 fc2 cI cZ n2 pa2 va2 mk2 ++ wP ph hq cI vs (nI L) ++ wM g st sl sv pt cI cZ (mst n (gLink n G (xs (i + 1)) (xs (i + 2))) va mk) fsl fsv fpt many) ⟨hx, hb, hml, hown, hts⟩ (c_X3_link l D cI cZ g st sl sv pt fsl fsv fpt many n G va mk F (xs (i + 1)) (xs (i + 2))) (cwV 2 hts gL_law_X3_link rfl rfl rfl (by decide +kernel) ⟨Nat.le_of_ble_eq_true rfl, Nat.le_of_ble_eq_true rfl⟩) hP hK hD hS [15, 16, 17, 18, 19] [0, 1, 2, 3, 4, 5, 6, 7, 8, 9, 10, 11, 12, 13, 14] [0, 1, 2, 3, 4, 5, 6, 7, 8, 9, 10, 11, 12, 13, 14, 15, 16, 17, 18, 19] rfl rfl (by decide) rfl rfl rfl rfl rfl hl rfl (Nat.le_of_ble_eq_true rfl) dL_law_216 ⟨Nat.le_of_ble_eq_true rfl, Nat.le_of_ble_eq_true rfl⟩ (fun H locs hP hD hS => ?_)
  refine lv_icmp_eq (tgt := 1044) hx hb dL_law_219 (by decide) (fun c_219 => ?_) (fun c_219 => ?_)
  · skip
    exact kk n (gLink n G (xs (i + 1)) (xs (i + 2))) va mk n1 pa1 va1 mk1 n2 pa2 va2 mk2 vs L fsl fsv fpt many ⟨link_ok F _ _, hva, hL, hs0, hs1⟩ H locs hP hD hS
  · skip
    exact absurd rfl c_219
set_option maxHeartbeats 4000000 in
set_option maxRecDepth 100000 in
/-- case 2: cut -/
theorem lc_2 {p : Program} {l : Launch} {e : Env} {s : State} {m : MethodId} {below : List Frame} {meth : Method} {c : Code} {b Len : Nat} {xs : Nat → Int32} (C0 : lw_At p s m meth c b Len xs) (hLen : Len ≤ 2048) {D : va_G} {cI cZ : ClassId} (hK : KK D cI cZ s) {h f fa fb fc f1 fa1 fb1 fc1 f2 fa2 fb2 fc2 ph hq g st sl sv pt : Nat} {i : Nat} (hi : i + 4 ≤ Len) {ls : Array Slot} (hl : lv_has ls 4 [(0, .ref b), (1, .ref h), (2, .ref g), (3, .int (nI i))]) (kk : LKont p l e s m b below meth c D cI cZ h f fa fb fc f1 fa1 fb1 fc1 f2 fa2 fb2 fc2 ph hq g st sl sv pt ls)
    (n : Nat) (G : Nat → Nat) (va : Nat → Int32) (mk : Nat → Bool) (n1 : Nat) (pa1 va1 : Nat → Int32) (mk1 : Nat → Bool) (n2 : Nat) (pa2 va2 : Nat → Int32) (mk2 : Nat → Bool) (vs : Nat → Int32) (L : Nat) (fsl fsv fpt : Nat → Int32) (many : Int32) (I : LInv n G va n1 pa1 va1 mk1 n2 pa2 va2 mk2 L fsl fsv) (H : Heap) (locs : List Loc) (hP : va_P D vwCl (LW h f fa fb fc f1 fa1 fb1 fc1 f2 fa2 fb2 fc2 ph hq g st sl sv pt cI cZ n G va mk n1 pa1 va1 mk1 n2 pa2 va2 mk2 vs L fsl fsv fpt many) H) (hD : va_D (aI s) (LW h f fa fb fc f1 fa1 fb1 fc1 f2 fa2 fb2 fc2 ph hq g st sl sv pt cI cZ n G va mk n1 pa1 va1 mk1 n2 pa2 va2 mk2 vs L fsl fsv fpt many)) (hS : va_S (aI s) s.heap H locs) : Wl p l e s m b below meth c H locs (F0 m 224 ls []) := by
  obtain ⟨hx, hb, hr, hml, hown, hts, hX, hbl, hlocks, hgv⟩ := C0
  have hts := fun w h => hts w (wsL_law_in w h)
  have hown : s.vm.findClass RL = some m.cls := hown
  obtain ⟨F, hva, hL, hs0, hs1⟩ := I
  have hP : va_P D vwCl (wO h f f1 f2 ph ++ wF f fa fb fc cI cZ n (fo_cp G) va mk ++ wF f1 fa1 fb1 fc1 cI cZ n1 pa1 va1 mk1 ++ wF f2 fa2 fb2 fc2 cI cZ n2 pa2 va2 mk2 ++ wP ph hq cI vs (nI L) ++ wM g st sl sv pt cI cZ (mst n G va mk) fsl fsv fpt many) H := hP
  have hD : va_D (aI s) (wO h f f1 f2 ph ++ wF f fa fb fc cI cZ n (fo_cp G) va mk ++ wF f1 fa1 fb1 fc1 cI cZ n1 pa1 va1 mk1 ++ wF f2 fa2 fb2 fc2 cI cZ n2 pa2 va2 mk2 ++ wP ph hq cI vs (nI L) ++ wM g st sl sv pt cI cZ (mst n G va mk) fsl fsv fpt many) := hD
  refine lv_aload_n hx hb dL_law_224 rfl (lv_at hl 1 rfl) ?_
  refine lv_aload_n hx hb dL_law_225 rfl (lv_at hl 0 rfl) ?_
  refine lv_iload_n hx hb dL_law_226 rfl (lv_at hl 3 rfl) ?_
  refine lv_iconst (v := 1) hx hb dL_law_227 (by decide) ?_
  refine lv_iadd hx hb dL_law_228 ?_
  rw [show ((nI i) + 1 : Int32) = nI (i + 1) from nI_add i 1]
  refine sc_ld hx hb hX hbl hS (k := (i + 1)) (by omega) hLen dL_law_229 ?_
  refine wr_call (V1 := wO h f f1 f2 ph ++ wF f fa fb fc cI cZ n (fo_cp (ga n (xs (i + 1)) (fun j => fo_set G j j) G)) va mk ++ wF f1 fa1 fb1 fc1 cI cZ n1 pa1 va1 mk1 ++ wF f2 fa2 fb2 fc2 cI cZ n2 pa2 va2 mk2 ++ wP ph hq cI vs (nI L) ++ wM g st sl sv pt cI cZ (mst n G va mk) fsl fsv fpt many) ⟨hx, hb, hml, hown, hts⟩ (c_X2_cut l D cI cZ h f1 f2 ph f fa fb fc n G va mk F (xs (i + 1))) (cwV 1 hts gL_law_X2_cut rfl rfl rfl (by decide +kernel) ⟨Nat.le_of_ble_eq_true rfl, Nat.le_of_ble_eq_true rfl⟩) hP hK hD hS [0, 1, 2, 3, 4] [5, 6, 7, 8, 9, 10, 11, 12, 13, 14, 15, 16, 17, 18, 19] [15, 16, 17, 18, 19, 0, 1, 2, 3, 4, 5, 6, 7, 8, 9, 10, 11, 12, 13, 14] rfl rfl (by decide) rfl rfl rfl rfl rfl hl rfl (Nat.le_of_ble_eq_true rfl) dL_law_230 ⟨Nat.le_of_ble_eq_true rfl, Nat.le_of_ble_eq_true rfl⟩ (fun H locs hP hD hS => ?_)
  refine lv_aload_n hx hb dL_law_233 rfl (lv_at hl 2 rfl) ?_
  refine lv_aload_n hx hb dL_law_234 rfl (lv_at hl 0 rfl) ?_
  refine lv_iload_n hx hb dL_law_235 rfl (lv_at hl 3 rfl) ?_
  refine lv_iconst (v := 1) hx hb dL_law_236 (by decide) ?_
  refine lv_iadd hx hb dL_law_237 ?_
  rw [show ((nI i) + 1 : Int32) = nI (i + 1) from nI_add i 1]
  refine sc_ld hx hb hX hbl hS (k := (i + 1)) (by omega) hLen dL_law_238 ?_
  refine wr_call (V1 := wO h f f1 f2 ph ++ wF f fa fb fc cI cZ n (fo_cp (ga n (xs (i + 1)) (fun j => fo_set G j j) G)) va mk ++ wF f1 fa1 fb1 fc1 cI cZ n1 pa1 va1 mk1 ++ wF f2 fa2 fb2 fc2 cI cZ n2 pa2 va2 mk2 ++ wP ph hq cI vs (nI L) ++ wM g st sl sv pt cI cZ (mst n (ga n (xs (i + 1)) (fun j => fo_set G j j) G) va mk) fsl fsv fpt many) ⟨hx, hb, hml, hown, hts⟩ (c_X3_cut l D cI cZ g st sl sv pt fsl fsv fpt many n G va mk F (xs (i + 1))) (cwV 1 hts gL_law_X3_cut rfl rfl rfl (by decide +kernel) ⟨Nat.le_of_ble_eq_true rfl, Nat.le_of_ble_eq_true rfl⟩) hP hK hD hS [15, 16, 17, 18, 19] [0, 1, 2, 3, 4, 5, 6, 7, 8, 9, 10, 11, 12, 13, 14] [0, 1, 2, 3, 4, 5, 6, 7, 8, 9, 10, 11, 12, 13, 14, 15, 16, 17, 18, 19] rfl rfl (by decide) rfl rfl rfl rfl rfl hl rfl (Nat.le_of_ble_eq_true rfl) dL_law_239 ⟨Nat.le_of_ble_eq_true rfl, Nat.le_of_ble_eq_true rfl⟩ (fun H locs hP hD hS => ?_)
  refine lv_icmp_eq (tgt := 1044) hx hb dL_law_242 (by decide) (fun c_242 => ?_) (fun c_242 => ?_)
  · skip
    exact kk n (ga n (xs (i + 1)) (fun j => fo_set G j j) G) va mk n1 pa1 va1 mk1 n2 pa2 va2 mk2 vs L fsl fsv fpt many ⟨cut_ok F _, hva, hL, hs0, hs1⟩ H locs hP hD hS
  · skip
    exact absurd rfl c_242
set_option maxHeartbeats 4000000 in
set_option maxRecDepth 100000 in
/-- case 3: reroot -/
theorem lc_3 {p : Program} {l : Launch} {e : Env} {s : State} {m : MethodId} {below : List Frame} {meth : Method} {c : Code} {b Len : Nat} {xs : Nat → Int32} (C0 : lw_At p s m meth c b Len xs) (hLen : Len ≤ 2048) {D : va_G} {cI cZ : ClassId} (hK : KK D cI cZ s) {h f fa fb fc f1 fa1 fb1 fc1 f2 fa2 fb2 fc2 ph hq g st sl sv pt : Nat} {i : Nat} (hi : i + 4 ≤ Len) {ls : Array Slot} (hl : lv_has ls 4 [(0, .ref b), (1, .ref h), (2, .ref g), (3, .int (nI i))]) (kk : LKont p l e s m b below meth c D cI cZ h f fa fb fc f1 fa1 fb1 fc1 f2 fa2 fb2 fc2 ph hq g st sl sv pt ls)
    (n : Nat) (G : Nat → Nat) (va : Nat → Int32) (mk : Nat → Bool) (n1 : Nat) (pa1 va1 : Nat → Int32) (mk1 : Nat → Bool) (n2 : Nat) (pa2 va2 : Nat → Int32) (mk2 : Nat → Bool) (vs : Nat → Int32) (L : Nat) (fsl fsv fpt : Nat → Int32) (many : Int32) (I : LInv n G va n1 pa1 va1 mk1 n2 pa2 va2 mk2 L fsl fsv) (H : Heap) (locs : List Loc) (hP : va_P D vwCl (LW h f fa fb fc f1 fa1 fb1 fc1 f2 fa2 fb2 fc2 ph hq g st sl sv pt cI cZ n G va mk n1 pa1 va1 mk1 n2 pa2 va2 mk2 vs L fsl fsv fpt many) H) (hD : va_D (aI s) (LW h f fa fb fc f1 fa1 fb1 fc1 f2 fa2 fb2 fc2 ph hq g st sl sv pt cI cZ n G va mk n1 pa1 va1 mk1 n2 pa2 va2 mk2 vs L fsl fsv fpt many)) (hS : va_S (aI s) s.heap H locs) : Wl p l e s m b below meth c H locs (F0 m 247 ls []) := by
  obtain ⟨hx, hb, hr, hml, hown, hts, hX, hbl, hlocks, hgv⟩ := C0
  have hts := fun w h => hts w (wsL_law_in w h)
  have hown : s.vm.findClass RL = some m.cls := hown
  obtain ⟨F, hva, hL, hs0, hs1⟩ := I
  have hP : va_P D vwCl (wO h f f1 f2 ph ++ wF f fa fb fc cI cZ n (fo_cp G) va mk ++ wF f1 fa1 fb1 fc1 cI cZ n1 pa1 va1 mk1 ++ wF f2 fa2 fb2 fc2 cI cZ n2 pa2 va2 mk2 ++ wP ph hq cI vs (nI L) ++ wM g st sl sv pt cI cZ (mst n G va mk) fsl fsv fpt many) H := hP
  have hD : va_D (aI s) (wO h f f1 f2 ph ++ wF f fa fb fc cI cZ n (fo_cp G) va mk ++ wF f1 fa1 fb1 fc1 cI cZ n1 pa1 va1 mk1 ++ wF f2 fa2 fb2 fc2 cI cZ n2 pa2 va2 mk2 ++ wP ph hq cI vs (nI L) ++ wM g st sl sv pt cI cZ (mst n G va mk) fsl fsv fpt many) := hD
  refine lv_aload_n hx hb dL_law_247 rfl (lv_at hl 1 rfl) ?_
  refine lv_aload_n hx hb dL_law_248 rfl (lv_at hl 0 rfl) ?_
  refine lv_iload_n hx hb dL_law_249 rfl (lv_at hl 3 rfl) ?_
  refine lv_iconst (v := 1) hx hb dL_law_250 (by decide) ?_
  refine lv_iadd hx hb dL_law_251 ?_
  rw [show ((nI i) + 1 : Int32) = nI (i + 1) from nI_add i 1]
  refine sc_ld hx hb hX hbl hS (k := (i + 1)) (by omega) hLen dL_law_252 ?_
  refine wr_call (V1 := wO h f f1 f2 ph ++ wF f fa fb fc cI cZ n (fo_cp (ga n (xs (i + 1)) (fun j => fo_rr G j) G)) va mk ++ wF f1 fa1 fb1 fc1 cI cZ n1 pa1 va1 mk1 ++ wF f2 fa2 fb2 fc2 cI cZ n2 pa2 va2 mk2 ++ wP ph hq cI vs (nI L) ++ wM g st sl sv pt cI cZ (mst n G va mk) fsl fsv fpt many) ⟨hx, hb, hml, hown, hts⟩ (c_X2_reroot l D cI cZ h f1 f2 ph f fa fb fc n G va mk F (xs (i + 1))) (cwV 1 hts gL_law_X2_reroot rfl rfl rfl (by decide +kernel) ⟨Nat.le_of_ble_eq_true rfl, Nat.le_of_ble_eq_true rfl⟩) hP hK hD hS [0, 1, 2, 3, 4] [5, 6, 7, 8, 9, 10, 11, 12, 13, 14, 15, 16, 17, 18, 19] [15, 16, 17, 18, 19, 0, 1, 2, 3, 4, 5, 6, 7, 8, 9, 10, 11, 12, 13, 14] rfl rfl (by decide) rfl rfl rfl rfl rfl hl rfl (Nat.le_of_ble_eq_true rfl) dL_law_253 ⟨Nat.le_of_ble_eq_true rfl, Nat.le_of_ble_eq_true rfl⟩ (fun H locs hP hD hS => ?_)
  refine lv_aload_n hx hb dL_law_256 rfl (lv_at hl 2 rfl) ?_
  refine lv_aload_n hx hb dL_law_257 rfl (lv_at hl 0 rfl) ?_
  refine lv_iload_n hx hb dL_law_258 rfl (lv_at hl 3 rfl) ?_
  refine lv_iconst (v := 1) hx hb dL_law_259 (by decide) ?_
  refine lv_iadd hx hb dL_law_260 ?_
  rw [show ((nI i) + 1 : Int32) = nI (i + 1) from nI_add i 1]
  refine sc_ld hx hb hX hbl hS (k := (i + 1)) (by omega) hLen dL_law_261 ?_
  refine wr_call (V1 := wO h f f1 f2 ph ++ wF f fa fb fc cI cZ n (fo_cp (ga n (xs (i + 1)) (fun j => fo_rr G j) G)) va mk ++ wF f1 fa1 fb1 fc1 cI cZ n1 pa1 va1 mk1 ++ wF f2 fa2 fb2 fc2 cI cZ n2 pa2 va2 mk2 ++ wP ph hq cI vs (nI L) ++ wM g st sl sv pt cI cZ (mst n (ga n (xs (i + 1)) (fun j => fo_rr G j) G) va mk) fsl fsv fpt many) ⟨hx, hb, hml, hown, hts⟩ (c_X3_reroot l D cI cZ g st sl sv pt fsl fsv fpt many n G va mk F (xs (i + 1))) (cwV 1 hts gL_law_X3_reroot rfl rfl rfl (by decide +kernel) ⟨Nat.le_of_ble_eq_true rfl, Nat.le_of_ble_eq_true rfl⟩) hP hK hD hS [15, 16, 17, 18, 19] [0, 1, 2, 3, 4, 5, 6, 7, 8, 9, 10, 11, 12, 13, 14] [0, 1, 2, 3, 4, 5, 6, 7, 8, 9, 10, 11, 12, 13, 14, 15, 16, 17, 18, 19] rfl rfl (by decide) rfl rfl rfl rfl rfl hl rfl (Nat.le_of_ble_eq_true rfl) dL_law_262 ⟨Nat.le_of_ble_eq_true rfl, Nat.le_of_ble_eq_true rfl⟩ (fun H locs hP hD hS => ?_)
  refine lv_icmp_eq (tgt := 1044) hx hb dL_law_265 (by decide) (fun c_265 => ?_) (fun c_265 => ?_)
  · skip
    exact kk n (ga n (xs (i + 1)) (fun j => fo_rr G j) G) va mk n1 pa1 va1 mk1 n2 pa2 va2 mk2 vs L fsl fsv fpt many ⟨reroot_ok F _, hva, hL, hs0, hs1⟩ H locs hP hD hS
  · skip
    exact absurd rfl c_265
set_option maxHeartbeats 4000000 in
set_option maxRecDepth 100000 in
/-- case 4: vertexCount -/
theorem lc_4 {p : Program} {l : Launch} {e : Env} {s : State} {m : MethodId} {below : List Frame} {meth : Method} {c : Code} {b Len : Nat} {xs : Nat → Int32} (C0 : lw_At p s m meth c b Len xs) (hLen : Len ≤ 2048) {D : va_G} {cI cZ : ClassId} (hK : KK D cI cZ s) {h f fa fb fc f1 fa1 fb1 fc1 f2 fa2 fb2 fc2 ph hq g st sl sv pt : Nat} {i : Nat} (hi : i + 4 ≤ Len) {ls : Array Slot} (hl : lv_has ls 4 [(0, .ref b), (1, .ref h), (2, .ref g), (3, .int (nI i))]) (kk : LKont p l e s m b below meth c D cI cZ h f fa fb fc f1 fa1 fb1 fc1 f2 fa2 fb2 fc2 ph hq g st sl sv pt ls)
    (n : Nat) (G : Nat → Nat) (va : Nat → Int32) (mk : Nat → Bool) (n1 : Nat) (pa1 va1 : Nat → Int32) (mk1 : Nat → Bool) (n2 : Nat) (pa2 va2 : Nat → Int32) (mk2 : Nat → Bool) (vs : Nat → Int32) (L : Nat) (fsl fsv fpt : Nat → Int32) (many : Int32) (I : LInv n G va n1 pa1 va1 mk1 n2 pa2 va2 mk2 L fsl fsv) (H : Heap) (locs : List Loc) (hP : va_P D vwCl (LW h f fa fb fc f1 fa1 fb1 fc1 f2 fa2 fb2 fc2 ph hq g st sl sv pt cI cZ n G va mk n1 pa1 va1 mk1 n2 pa2 va2 mk2 vs L fsl fsv fpt many) H) (hD : va_D (aI s) (LW h f fa fb fc f1 fa1 fb1 fc1 f2 fa2 fb2 fc2 ph hq g st sl sv pt cI cZ n G va mk n1 pa1 va1 mk1 n2 pa2 va2 mk2 vs L fsl fsv fpt many)) (hS : va_S (aI s) s.heap H locs) : Wl p l e s m b below meth c H locs (F0 m 270 ls []) := by
  obtain ⟨hx, hb, hr, hml, hown, hts, hX, hbl, hlocks, hgv⟩ := C0
  have hts := fun w h => hts w (wsL_law_in w h)
  have hown : s.vm.findClass RL = some m.cls := hown
  obtain ⟨F, hva, hL, hs0, hs1⟩ := I
  have hP : va_P D vwCl (wO h f f1 f2 ph ++ wF f fa fb fc cI cZ n (fo_cp G) va mk ++ wF f1 fa1 fb1 fc1 cI cZ n1 pa1 va1 mk1 ++ wF f2 fa2 fb2 fc2 cI cZ n2 pa2 va2 mk2 ++ wP ph hq cI vs (nI L) ++ wM g st sl sv pt cI cZ (mst n G va mk) fsl fsv fpt many) H := hP
  have hD : va_D (aI s) (wO h f f1 f2 ph ++ wF f fa fb fc cI cZ n (fo_cp G) va mk ++ wF f1 fa1 fb1 fc1 cI cZ n1 pa1 va1 mk1 ++ wF f2 fa2 fb2 fc2 cI cZ n2 pa2 va2 mk2 ++ wP ph hq cI vs (nI L) ++ wM g st sl sv pt cI cZ (mst n G va mk) fsl fsv fpt many) := hD
  refine lv_aload_n hx hb dL_law_270 rfl (lv_at hl 1 rfl) ?_
  refine rd_call ⟨hx, hb, hml, hown, hts⟩ (c_X2_vertexCount l D cI cZ h f1 f2 ph f fa fb fc n G va mk F) (cwV 0 hts gL_law_X2_vertexCount rfl rfl rfl (by decide +kernel) ⟨Nat.le_of_ble_eq_true rfl, Nat.le_of_ble_eq_true rfl⟩) (hP.sub (ws' := wO h f f1 f2 ph ++ wF f fa fb fc cI cZ n (fo_cp G) va mk) [0, 1, 2, 3, 4] rfl) hK rfl rfl rfl hl rfl (Nat.le_of_ble_eq_true rfl) dL_law_271 ⟨Nat.le_of_ble_eq_true rfl, Nat.le_of_ble_eq_true rfl⟩ ?_
  refine lv_aload_n hx hb dL_law_274 rfl (lv_at hl 2 rfl) ?_
  refine rd_call ⟨hx, hb, hml, hown, hts⟩ (c_X3_vertexCount l D cI cZ g st sl sv pt fsl fsv fpt many n G va mk F) (cwV 0 hts gL_law_X3_vertexCount rfl rfl rfl (by decide +kernel) ⟨Nat.le_of_ble_eq_true rfl, Nat.le_of_ble_eq_true rfl⟩) (hP.sub (ws' := wM g st sl sv pt cI cZ (mst n G va mk) fsl fsv fpt many) [15, 16, 17, 18, 19] rfl) hK rfl rfl rfl hl rfl (Nat.le_of_ble_eq_true rfl) dL_law_275 ⟨Nat.le_of_ble_eq_true rfl, Nat.le_of_ble_eq_true rfl⟩ ?_
  refine lv_icmp_eq (tgt := 1044) hx hb dL_law_278 (by decide) (fun c_278 => ?_) (fun c_278 => ?_)
  · skip
    exact kk n G va mk n1 pa1 va1 mk1 n2 pa2 va2 mk2 vs L fsl fsv fpt many ⟨F, hva, hL, hs0, hs1⟩ H locs hP hD hS
  · skip
    exact absurd rfl c_278
set_option maxHeartbeats 4000000 in
set_option maxRecDepth 100000 in
/-- case 5: treeCount -/
theorem lc_5 {p : Program} {l : Launch} {e : Env} {s : State} {m : MethodId} {below : List Frame} {meth : Method} {c : Code} {b Len : Nat} {xs : Nat → Int32} (C0 : lw_At p s m meth c b Len xs) (hLen : Len ≤ 2048) {D : va_G} {cI cZ : ClassId} (hK : KK D cI cZ s) {h f fa fb fc f1 fa1 fb1 fc1 f2 fa2 fb2 fc2 ph hq g st sl sv pt : Nat} {i : Nat} (hi : i + 4 ≤ Len) {ls : Array Slot} (hl : lv_has ls 4 [(0, .ref b), (1, .ref h), (2, .ref g), (3, .int (nI i))]) (kk : LKont p l e s m b below meth c D cI cZ h f fa fb fc f1 fa1 fb1 fc1 f2 fa2 fb2 fc2 ph hq g st sl sv pt ls)
    (n : Nat) (G : Nat → Nat) (va : Nat → Int32) (mk : Nat → Bool) (n1 : Nat) (pa1 va1 : Nat → Int32) (mk1 : Nat → Bool) (n2 : Nat) (pa2 va2 : Nat → Int32) (mk2 : Nat → Bool) (vs : Nat → Int32) (L : Nat) (fsl fsv fpt : Nat → Int32) (many : Int32) (I : LInv n G va n1 pa1 va1 mk1 n2 pa2 va2 mk2 L fsl fsv) (H : Heap) (locs : List Loc) (hP : va_P D vwCl (LW h f fa fb fc f1 fa1 fb1 fc1 f2 fa2 fb2 fc2 ph hq g st sl sv pt cI cZ n G va mk n1 pa1 va1 mk1 n2 pa2 va2 mk2 vs L fsl fsv fpt many) H) (hD : va_D (aI s) (LW h f fa fb fc f1 fa1 fb1 fc1 f2 fa2 fb2 fc2 ph hq g st sl sv pt cI cZ n G va mk n1 pa1 va1 mk1 n2 pa2 va2 mk2 vs L fsl fsv fpt many)) (hS : va_S (aI s) s.heap H locs) : Wl p l e s m b below meth c H locs (F0 m 283 ls []) := by
  obtain ⟨hx, hb, hr, hml, hown, hts, hX, hbl, hlocks, hgv⟩ := C0
  have hts := fun w h => hts w (wsL_law_in w h)
  have hown : s.vm.findClass RL = some m.cls := hown
  obtain ⟨F, hva, hL, hs0, hs1⟩ := I
  have hP : va_P D vwCl (wO h f f1 f2 ph ++ wF f fa fb fc cI cZ n (fo_cp G) va mk ++ wF f1 fa1 fb1 fc1 cI cZ n1 pa1 va1 mk1 ++ wF f2 fa2 fb2 fc2 cI cZ n2 pa2 va2 mk2 ++ wP ph hq cI vs (nI L) ++ wM g st sl sv pt cI cZ (mst n G va mk) fsl fsv fpt many) H := hP
  have hD : va_D (aI s) (wO h f f1 f2 ph ++ wF f fa fb fc cI cZ n (fo_cp G) va mk ++ wF f1 fa1 fb1 fc1 cI cZ n1 pa1 va1 mk1 ++ wF f2 fa2 fb2 fc2 cI cZ n2 pa2 va2 mk2 ++ wP ph hq cI vs (nI L) ++ wM g st sl sv pt cI cZ (mst n G va mk) fsl fsv fpt many) := hD
  refine lv_aload_n hx hb dL_law_283 rfl (lv_at hl 1 rfl) ?_
  refine rd_call ⟨hx, hb, hml, hown, hts⟩ (c_X2_treeCount l D cI cZ h f1 f2 ph f fa fb fc n G va mk F) (cwV 0 hts gL_law_X2_treeCount rfl rfl rfl (by decide +kernel) ⟨Nat.le_of_ble_eq_true rfl, Nat.le_of_ble_eq_true rfl⟩) (hP.sub (ws' := wO h f f1 f2 ph ++ wF f fa fb fc cI cZ n (fo_cp G) va mk) [0, 1, 2, 3, 4] rfl) hK rfl rfl rfl hl rfl (Nat.le_of_ble_eq_true rfl) dL_law_284 ⟨Nat.le_of_ble_eq_true rfl, Nat.le_of_ble_eq_true rfl⟩ ?_
  refine lv_aload_n hx hb dL_law_287 rfl (lv_at hl 2 rfl) ?_
  refine rd_call ⟨hx, hb, hml, hown, hts⟩ (c_X3_treeCount l D cI cZ g st sl sv pt fsl fsv fpt many n G va mk F) (cwV 0 hts gL_law_X3_treeCount rfl rfl rfl (by decide +kernel) ⟨Nat.le_of_ble_eq_true rfl, Nat.le_of_ble_eq_true rfl⟩) (hP.sub (ws' := wM g st sl sv pt cI cZ (mst n G va mk) fsl fsv fpt many) [15, 16, 17, 18, 19] rfl) hK rfl rfl rfl hl rfl (Nat.le_of_ble_eq_true rfl) dL_law_288 ⟨Nat.le_of_ble_eq_true rfl, Nat.le_of_ble_eq_true rfl⟩ ?_
  refine lv_icmp_eq (tgt := 1044) hx hb dL_law_291 (by decide) (fun c_291 => ?_) (fun c_291 => ?_)
  · skip
    exact kk n G va mk n1 pa1 va1 mk1 n2 pa2 va2 mk2 vs L fsl fsv fpt many ⟨F, hva, hL, hs0, hs1⟩ H locs hP hD hS
  · skip
    exact absurd rfl c_291
set_option maxHeartbeats 4000000 in
set_option maxRecDepth 100000 in
/-- case 6: parent -/
theorem lc_6 {p : Program} {l : Launch} {e : Env} {s : State} {m : MethodId} {below : List Frame} {meth : Method} {c : Code} {b Len : Nat} {xs : Nat → Int32} (C0 : lw_At p s m meth c b Len xs) (hLen : Len ≤ 2048) {D : va_G} {cI cZ : ClassId} (hK : KK D cI cZ s) {h f fa fb fc f1 fa1 fb1 fc1 f2 fa2 fb2 fc2 ph hq g st sl sv pt : Nat} {i : Nat} (hi : i + 4 ≤ Len) {ls : Array Slot} (hl : lv_has ls 4 [(0, .ref b), (1, .ref h), (2, .ref g), (3, .int (nI i))]) (kk : LKont p l e s m b below meth c D cI cZ h f fa fb fc f1 fa1 fb1 fc1 f2 fa2 fb2 fc2 ph hq g st sl sv pt ls)
    (n : Nat) (G : Nat → Nat) (va : Nat → Int32) (mk : Nat → Bool) (n1 : Nat) (pa1 va1 : Nat → Int32) (mk1 : Nat → Bool) (n2 : Nat) (pa2 va2 : Nat → Int32) (mk2 : Nat → Bool) (vs : Nat → Int32) (L : Nat) (fsl fsv fpt : Nat → Int32) (many : Int32) (I : LInv n G va n1 pa1 va1 mk1 n2 pa2 va2 mk2 L fsl fsv) (H : Heap) (locs : List Loc) (hP : va_P D vwCl (LW h f fa fb fc f1 fa1 fb1 fc1 f2 fa2 fb2 fc2 ph hq g st sl sv pt cI cZ n G va mk n1 pa1 va1 mk1 n2 pa2 va2 mk2 vs L fsl fsv fpt many) H) (hD : va_D (aI s) (LW h f fa fb fc f1 fa1 fb1 fc1 f2 fa2 fb2 fc2 ph hq g st sl sv pt cI cZ n G va mk n1 pa1 va1 mk1 n2 pa2 va2 mk2 vs L fsl fsv fpt many)) (hS : va_S (aI s) s.heap H locs) : Wl p l e s m b below meth c H locs (F0 m 296 ls []) := by
  obtain ⟨hx, hb, hr, hml, hown, hts, hX, hbl, hlocks, hgv⟩ := C0
  have hts := fun w h => hts w (wsL_law_in w h)
  have hown : s.vm.findClass RL = some m.cls := hown
  obtain ⟨F, hva, hL, hs0, hs1⟩ := I
  have hP : va_P D vwCl (wO h f f1 f2 ph ++ wF f fa fb fc cI cZ n (fo_cp G) va mk ++ wF f1 fa1 fb1 fc1 cI cZ n1 pa1 va1 mk1 ++ wF f2 fa2 fb2 fc2 cI cZ n2 pa2 va2 mk2 ++ wP ph hq cI vs (nI L) ++ wM g st sl sv pt cI cZ (mst n G va mk) fsl fsv fpt many) H := hP
  have hD : va_D (aI s) (wO h f f1 f2 ph ++ wF f fa fb fc cI cZ n (fo_cp G) va mk ++ wF f1 fa1 fb1 fc1 cI cZ n1 pa1 va1 mk1 ++ wF f2 fa2 fb2 fc2 cI cZ n2 pa2 va2 mk2 ++ wP ph hq cI vs (nI L) ++ wM g st sl sv pt cI cZ (mst n G va mk) fsl fsv fpt many) := hD
  refine lv_aload_n hx hb dL_law_296 rfl (lv_at hl 1 rfl) ?_
  refine lv_aload_n hx hb dL_law_297 rfl (lv_at hl 0 rfl) ?_
  refine lv_iload_n hx hb dL_law_298 rfl (lv_at hl 3 rfl) ?_
  refine lv_iconst (v := 1) hx hb dL_law_299 (by decide) ?_
  refine lv_iadd hx hb dL_law_300 ?_
  rw [show ((nI i) + 1 : Int32) = nI (i + 1) from nI_add i 1]
  refine sc_ld hx hb hX hbl hS (k := (i + 1)) (by omega) hLen dL_law_301 ?_
  refine rd_call ⟨hx, hb, hml, hown, hts⟩ (c_X2_parent l D cI cZ h f1 f2 ph f fa fb fc n G va mk F (xs (i + 1))) (cwV 1 hts gL_law_X2_parent rfl rfl rfl (by decide +kernel) ⟨Nat.le_of_ble_eq_true rfl, Nat.le_of_ble_eq_true rfl⟩) (hP.sub (ws' := wO h f f1 f2 ph ++ wF f fa fb fc cI cZ n (fo_cp G) va mk) [0, 1, 2, 3, 4] rfl) hK rfl rfl rfl hl rfl (Nat.le_of_ble_eq_true rfl) dL_law_302 ⟨Nat.le_of_ble_eq_true rfl, Nat.le_of_ble_eq_true rfl⟩ ?_
  refine lv_aload_n hx hb dL_law_305 rfl (lv_at hl 2 rfl) ?_
  refine lv_aload_n hx hb dL_law_306 rfl (lv_at hl 0 rfl) ?_
  refine lv_iload_n hx hb dL_law_307 rfl (lv_at hl 3 rfl) ?_
  refine lv_iconst (v := 1) hx hb dL_law_308 (by decide) ?_
  refine lv_iadd hx hb dL_law_309 ?_
  rw [show ((nI i) + 1 : Int32) = nI (i + 1) from nI_add i 1]
  refine sc_ld hx hb hX hbl hS (k := (i + 1)) (by omega) hLen dL_law_310 ?_
  refine rd_call ⟨hx, hb, hml, hown, hts⟩ (c_X3_parent l D cI cZ g st sl sv pt fsl fsv fpt many n G va mk F (xs (i + 1))) (cwV 1 hts gL_law_X3_parent rfl rfl rfl (by decide +kernel) ⟨Nat.le_of_ble_eq_true rfl, Nat.le_of_ble_eq_true rfl⟩) (hP.sub (ws' := wM g st sl sv pt cI cZ (mst n G va mk) fsl fsv fpt many) [15, 16, 17, 18, 19] rfl) hK rfl rfl rfl hl rfl (Nat.le_of_ble_eq_true rfl) dL_law_311 ⟨Nat.le_of_ble_eq_true rfl, Nat.le_of_ble_eq_true rfl⟩ ?_
  refine lv_icmp_eq (tgt := 1044) hx hb dL_law_314 (by decide) (fun c_314 => ?_) (fun c_314 => ?_)
  · skip
    exact kk n G va mk n1 pa1 va1 mk1 n2 pa2 va2 mk2 vs L fsl fsv fpt many ⟨F, hva, hL, hs0, hs1⟩ H locs hP hD hS
  · skip
    exact absurd rfl c_314
set_option maxHeartbeats 4000000 in
set_option maxRecDepth 100000 in
/-- case 7: root -/
theorem lc_7 {p : Program} {l : Launch} {e : Env} {s : State} {m : MethodId} {below : List Frame} {meth : Method} {c : Code} {b Len : Nat} {xs : Nat → Int32} (C0 : lw_At p s m meth c b Len xs) (hLen : Len ≤ 2048) {D : va_G} {cI cZ : ClassId} (hK : KK D cI cZ s) {h f fa fb fc f1 fa1 fb1 fc1 f2 fa2 fb2 fc2 ph hq g st sl sv pt : Nat} {i : Nat} (hi : i + 4 ≤ Len) {ls : Array Slot} (hl : lv_has ls 4 [(0, .ref b), (1, .ref h), (2, .ref g), (3, .int (nI i))]) (kk : LKont p l e s m b below meth c D cI cZ h f fa fb fc f1 fa1 fb1 fc1 f2 fa2 fb2 fc2 ph hq g st sl sv pt ls)
    (n : Nat) (G : Nat → Nat) (va : Nat → Int32) (mk : Nat → Bool) (n1 : Nat) (pa1 va1 : Nat → Int32) (mk1 : Nat → Bool) (n2 : Nat) (pa2 va2 : Nat → Int32) (mk2 : Nat → Bool) (vs : Nat → Int32) (L : Nat) (fsl fsv fpt : Nat → Int32) (many : Int32) (I : LInv n G va n1 pa1 va1 mk1 n2 pa2 va2 mk2 L fsl fsv) (H : Heap) (locs : List Loc) (hP : va_P D vwCl (LW h f fa fb fc f1 fa1 fb1 fc1 f2 fa2 fb2 fc2 ph hq g st sl sv pt cI cZ n G va mk n1 pa1 va1 mk1 n2 pa2 va2 mk2 vs L fsl fsv fpt many) H) (hD : va_D (aI s) (LW h f fa fb fc f1 fa1 fb1 fc1 f2 fa2 fb2 fc2 ph hq g st sl sv pt cI cZ n G va mk n1 pa1 va1 mk1 n2 pa2 va2 mk2 vs L fsl fsv fpt many)) (hS : va_S (aI s) s.heap H locs) : Wl p l e s m b below meth c H locs (F0 m 319 ls []) := by
  obtain ⟨hx, hb, hr, hml, hown, hts, hX, hbl, hlocks, hgv⟩ := C0
  have hts := fun w h => hts w (wsL_law_in w h)
  have hown : s.vm.findClass RL = some m.cls := hown
  obtain ⟨F, hva, hL, hs0, hs1⟩ := I
  have hP : va_P D vwCl (wO h f f1 f2 ph ++ wF f fa fb fc cI cZ n (fo_cp G) va mk ++ wF f1 fa1 fb1 fc1 cI cZ n1 pa1 va1 mk1 ++ wF f2 fa2 fb2 fc2 cI cZ n2 pa2 va2 mk2 ++ wP ph hq cI vs (nI L) ++ wM g st sl sv pt cI cZ (mst n G va mk) fsl fsv fpt many) H := hP
  have hD : va_D (aI s) (wO h f f1 f2 ph ++ wF f fa fb fc cI cZ n (fo_cp G) va mk ++ wF f1 fa1 fb1 fc1 cI cZ n1 pa1 va1 mk1 ++ wF f2 fa2 fb2 fc2 cI cZ n2 pa2 va2 mk2 ++ wP ph hq cI vs (nI L) ++ wM g st sl sv pt cI cZ (mst n G va mk) fsl fsv fpt many) := hD
  refine lv_aload_n hx hb dL_law_319 rfl (lv_at hl 1 rfl) ?_
  refine lv_aload_n hx hb dL_law_320 rfl (lv_at hl 0 rfl) ?_
  refine lv_iload_n hx hb dL_law_321 rfl (lv_at hl 3 rfl) ?_
  refine lv_iconst (v := 1) hx hb dL_law_322 (by decide) ?_
  refine lv_iadd hx hb dL_law_323 ?_
  rw [show ((nI i) + 1 : Int32) = nI (i + 1) from nI_add i 1]
  refine sc_ld hx hb hX hbl hS (k := (i + 1)) (by omega) hLen dL_law_324 ?_
  refine rd_call ⟨hx, hb, hml, hown, hts⟩ (c_X2_root l D cI cZ h f1 f2 ph f fa fb fc n G va mk F (xs (i + 1))) (cwV 1 hts gL_law_X2_root rfl rfl rfl (by decide +kernel) ⟨Nat.le_of_ble_eq_true rfl, Nat.le_of_ble_eq_true rfl⟩) (hP.sub (ws' := wO h f f1 f2 ph ++ wF f fa fb fc cI cZ n (fo_cp G) va mk) [0, 1, 2, 3, 4] rfl) hK rfl rfl rfl hl rfl (Nat.le_of_ble_eq_true rfl) dL_law_325 ⟨Nat.le_of_ble_eq_true rfl, Nat.le_of_ble_eq_true rfl⟩ ?_
  refine lv_aload_n hx hb dL_law_328 rfl (lv_at hl 2 rfl) ?_
  refine lv_aload_n hx hb dL_law_329 rfl (lv_at hl 0 rfl) ?_
  refine lv_iload_n hx hb dL_law_330 rfl (lv_at hl 3 rfl) ?_
  refine lv_iconst (v := 1) hx hb dL_law_331 (by decide) ?_
  refine lv_iadd hx hb dL_law_332 ?_
  rw [show ((nI i) + 1 : Int32) = nI (i + 1) from nI_add i 1]
  refine sc_ld hx hb hX hbl hS (k := (i + 1)) (by omega) hLen dL_law_333 ?_
  refine rd_call ⟨hx, hb, hml, hown, hts⟩ (c_X3_root l D cI cZ g st sl sv pt fsl fsv fpt many n G va mk F (xs (i + 1))) (cwV 1 hts gL_law_X3_root rfl rfl rfl (by decide +kernel) ⟨Nat.le_of_ble_eq_true rfl, Nat.le_of_ble_eq_true rfl⟩) (hP.sub (ws' := wM g st sl sv pt cI cZ (mst n G va mk) fsl fsv fpt many) [15, 16, 17, 18, 19] rfl) hK rfl rfl rfl hl rfl (Nat.le_of_ble_eq_true rfl) dL_law_334 ⟨Nat.le_of_ble_eq_true rfl, Nat.le_of_ble_eq_true rfl⟩ ?_
  refine lv_icmp_eq (tgt := 1044) hx hb dL_law_337 (by decide) (fun c_337 => ?_) (fun c_337 => ?_)
  · skip
    exact kk n G va mk n1 pa1 va1 mk1 n2 pa2 va2 mk2 vs L fsl fsv fpt many ⟨F, hva, hL, hs0, hs1⟩ H locs hP hD hS
  · skip
    exact absurd rfl c_337
set_option maxHeartbeats 4000000 in
set_option maxRecDepth 100000 in
/-- case 8: depth -/
theorem lc_8 {p : Program} {l : Launch} {e : Env} {s : State} {m : MethodId} {below : List Frame} {meth : Method} {c : Code} {b Len : Nat} {xs : Nat → Int32} (C0 : lw_At p s m meth c b Len xs) (hLen : Len ≤ 2048) {D : va_G} {cI cZ : ClassId} (hK : KK D cI cZ s) {h f fa fb fc f1 fa1 fb1 fc1 f2 fa2 fb2 fc2 ph hq g st sl sv pt : Nat} {i : Nat} (hi : i + 4 ≤ Len) {ls : Array Slot} (hl : lv_has ls 4 [(0, .ref b), (1, .ref h), (2, .ref g), (3, .int (nI i))]) (kk : LKont p l e s m b below meth c D cI cZ h f fa fb fc f1 fa1 fb1 fc1 f2 fa2 fb2 fc2 ph hq g st sl sv pt ls)
    (n : Nat) (G : Nat → Nat) (va : Nat → Int32) (mk : Nat → Bool) (n1 : Nat) (pa1 va1 : Nat → Int32) (mk1 : Nat → Bool) (n2 : Nat) (pa2 va2 : Nat → Int32) (mk2 : Nat → Bool) (vs : Nat → Int32) (L : Nat) (fsl fsv fpt : Nat → Int32) (many : Int32) (I : LInv n G va n1 pa1 va1 mk1 n2 pa2 va2 mk2 L fsl fsv) (H : Heap) (locs : List Loc) (hP : va_P D vwCl (LW h f fa fb fc f1 fa1 fb1 fc1 f2 fa2 fb2 fc2 ph hq g st sl sv pt cI cZ n G va mk n1 pa1 va1 mk1 n2 pa2 va2 mk2 vs L fsl fsv fpt many) H) (hD : va_D (aI s) (LW h f fa fb fc f1 fa1 fb1 fc1 f2 fa2 fb2 fc2 ph hq g st sl sv pt cI cZ n G va mk n1 pa1 va1 mk1 n2 pa2 va2 mk2 vs L fsl fsv fpt many)) (hS : va_S (aI s) s.heap H locs) : Wl p l e s m b below meth c H locs (F0 m 342 ls []) := by
  obtain ⟨hx, hb, hr, hml, hown, hts, hX, hbl, hlocks, hgv⟩ := C0
  have hts := fun w h => hts w (wsL_law_in w h)
  have hown : s.vm.findClass RL = some m.cls := hown
  obtain ⟨F, hva, hL, hs0, hs1⟩ := I
  have hP : va_P D vwCl (wO h f f1 f2 ph ++ wF f fa fb fc cI cZ n (fo_cp G) va mk ++ wF f1 fa1 fb1 fc1 cI cZ n1 pa1 va1 mk1 ++ wF f2 fa2 fb2 fc2 cI cZ n2 pa2 va2 mk2 ++ wP ph hq cI vs (nI L) ++ wM g st sl sv pt cI cZ (mst n G va mk) fsl fsv fpt many) H := hP
  have hD : va_D (aI s) (wO h f f1 f2 ph ++ wF f fa fb fc cI cZ n (fo_cp G) va mk ++ wF f1 fa1 fb1 fc1 cI cZ n1 pa1 va1 mk1 ++ wF f2 fa2 fb2 fc2 cI cZ n2 pa2 va2 mk2 ++ wP ph hq cI vs (nI L) ++ wM g st sl sv pt cI cZ (mst n G va mk) fsl fsv fpt many) := hD
  refine lv_aload_n hx hb dL_law_342 rfl (lv_at hl 1 rfl) ?_
  refine lv_aload_n hx hb dL_law_343 rfl (lv_at hl 0 rfl) ?_
  refine lv_iload_n hx hb dL_law_344 rfl (lv_at hl 3 rfl) ?_
  refine lv_iconst (v := 1) hx hb dL_law_345 (by decide) ?_
  refine lv_iadd hx hb dL_law_346 ?_
  rw [show ((nI i) + 1 : Int32) = nI (i + 1) from nI_add i 1]
  refine sc_ld hx hb hX hbl hS (k := (i + 1)) (by omega) hLen dL_law_347 ?_
  refine rd_call ⟨hx, hb, hml, hown, hts⟩ (c_X2_depth l D cI cZ h f1 f2 ph f fa fb fc n G va mk F (xs (i + 1))) (cwV 1 hts gL_law_X2_depth rfl rfl rfl (by decide +kernel) ⟨Nat.le_of_ble_eq_true rfl, Nat.le_of_ble_eq_true rfl⟩) (hP.sub (ws' := wO h f f1 f2 ph ++ wF f fa fb fc cI cZ n (fo_cp G) va mk) [0, 1, 2, 3, 4] rfl) hK rfl rfl rfl hl rfl (Nat.le_of_ble_eq_true rfl) dL_law_348 ⟨Nat.le_of_ble_eq_true rfl, Nat.le_of_ble_eq_true rfl⟩ ?_
  refine lv_aload_n hx hb dL_law_351 rfl (lv_at hl 2 rfl) ?_
  refine lv_aload_n hx hb dL_law_352 rfl (lv_at hl 0 rfl) ?_
  refine lv_iload_n hx hb dL_law_353 rfl (lv_at hl 3 rfl) ?_
  refine lv_iconst (v := 1) hx hb dL_law_354 (by decide) ?_
  refine lv_iadd hx hb dL_law_355 ?_
  rw [show ((nI i) + 1 : Int32) = nI (i + 1) from nI_add i 1]
  refine sc_ld hx hb hX hbl hS (k := (i + 1)) (by omega) hLen dL_law_356 ?_
  refine rd_call ⟨hx, hb, hml, hown, hts⟩ (c_X3_depth l D cI cZ g st sl sv pt fsl fsv fpt many n G va mk F (xs (i + 1))) (cwV 1 hts gL_law_X3_depth rfl rfl rfl (by decide +kernel) ⟨Nat.le_of_ble_eq_true rfl, Nat.le_of_ble_eq_true rfl⟩) (hP.sub (ws' := wM g st sl sv pt cI cZ (mst n G va mk) fsl fsv fpt many) [15, 16, 17, 18, 19] rfl) hK rfl rfl rfl hl rfl (Nat.le_of_ble_eq_true rfl) dL_law_357 ⟨Nat.le_of_ble_eq_true rfl, Nat.le_of_ble_eq_true rfl⟩ ?_
  refine lv_icmp_eq (tgt := 1044) hx hb dL_law_360 (by decide) (fun c_360 => ?_) (fun c_360 => ?_)
  · skip
    exact kk n G va mk n1 pa1 va1 mk1 n2 pa2 va2 mk2 vs L fsl fsv fpt many ⟨F, hva, hL, hs0, hs1⟩ H locs hP hD hS
  · skip
    exact absurd rfl c_360
set_option maxHeartbeats 4000000 in
set_option maxRecDepth 100000 in
/-- case 9: connected -/
theorem lc_9 {p : Program} {l : Launch} {e : Env} {s : State} {m : MethodId} {below : List Frame} {meth : Method} {c : Code} {b Len : Nat} {xs : Nat → Int32} (C0 : lw_At p s m meth c b Len xs) (hLen : Len ≤ 2048) {D : va_G} {cI cZ : ClassId} (hK : KK D cI cZ s) {h f fa fb fc f1 fa1 fb1 fc1 f2 fa2 fb2 fc2 ph hq g st sl sv pt : Nat} {i : Nat} (hi : i + 4 ≤ Len) {ls : Array Slot} (hl : lv_has ls 4 [(0, .ref b), (1, .ref h), (2, .ref g), (3, .int (nI i))]) (kk : LKont p l e s m b below meth c D cI cZ h f fa fb fc f1 fa1 fb1 fc1 f2 fa2 fb2 fc2 ph hq g st sl sv pt ls)
    (n : Nat) (G : Nat → Nat) (va : Nat → Int32) (mk : Nat → Bool) (n1 : Nat) (pa1 va1 : Nat → Int32) (mk1 : Nat → Bool) (n2 : Nat) (pa2 va2 : Nat → Int32) (mk2 : Nat → Bool) (vs : Nat → Int32) (L : Nat) (fsl fsv fpt : Nat → Int32) (many : Int32) (I : LInv n G va n1 pa1 va1 mk1 n2 pa2 va2 mk2 L fsl fsv) (H : Heap) (locs : List Loc) (hP : va_P D vwCl (LW h f fa fb fc f1 fa1 fb1 fc1 f2 fa2 fb2 fc2 ph hq g st sl sv pt cI cZ n G va mk n1 pa1 va1 mk1 n2 pa2 va2 mk2 vs L fsl fsv fpt many) H) (hD : va_D (aI s) (LW h f fa fb fc f1 fa1 fb1 fc1 f2 fa2 fb2 fc2 ph hq g st sl sv pt cI cZ n G va mk n1 pa1 va1 mk1 n2 pa2 va2 mk2 vs L fsl fsv fpt many)) (hS : va_S (aI s) s.heap H locs) : Wl p l e s m b below meth c H locs (F0 m 365 ls []) := by
  obtain ⟨hx, hb, hr, hml, hown, hts, hX, hbl, hlocks, hgv⟩ := C0
  have hts := fun w h => hts w (wsL_law_in w h)
  have hown : s.vm.findClass RL = some m.cls := hown
  obtain ⟨F, hva, hL, hs0, hs1⟩ := I
  have hP : va_P D vwCl (wO h f f1 f2 ph ++ wF f fa fb fc cI cZ n (fo_cp G) va mk ++ wF f1 fa1 fb1 fc1 cI cZ n1 pa1 va1 mk1 ++ wF f2 fa2 fb2 fc2 cI cZ n2 pa2 va2 mk2 ++ wP ph hq cI vs (nI L) ++ wM g st sl sv pt cI cZ (mst n G va mk) fsl fsv fpt many) H := hP
  have hD : va_D (aI s) (wO h f f1 f2 ph ++ wF f fa fb fc cI cZ n (fo_cp G) va mk ++ wF f1 fa1 fb1 fc1 cI cZ n1 pa1 va1 mk1 ++ wF f2 fa2 fb2 fc2 cI cZ n2 pa2 va2 mk2 ++ wP ph hq cI vs (nI L) ++ wM g st sl sv pt cI cZ (mst n G va mk) fsl fsv fpt many) := hD
  refine lv_aload_n hx hb dL_law_365 rfl (lv_at hl 1 rfl) ?_
  refine lv_aload_n hx hb dL_law_366 rfl (lv_at hl 0 rfl) ?_
  refine lv_iload_n hx hb dL_law_367 rfl (lv_at hl 3 rfl) ?_
  refine lv_iconst (v := 1) hx hb dL_law_368 (by decide) ?_
  refine lv_iadd hx hb dL_law_369 ?_
  rw [show ((nI i) + 1 : Int32) = nI (i + 1) from nI_add i 1]
  refine sc_ld hx hb hX hbl hS (k := (i + 1)) (by omega) hLen dL_law_370 ?_
  refine lv_aload_n hx hb dL_law_371 rfl (lv_at hl 0 rfl) ?_
  refine lv_iload_n hx hb dL_law_372 rfl (lv_at hl 3 rfl) ?_
  refine lv_iconst (v := 2) hx hb dL_law_373 (by decide) ?_
  refine lv_iadd hx hb dL_law_374 ?_
  rw [show ((nI i) + 2 : Int32) = nI (i + 2) from nI_add i 2]
  refine sc_ld hx hb hX hbl hS (k := (i + 2)) (by omega) hLen dL_law_375 ?_
  refine rd_call ⟨hx, hb, hml, hown, hts⟩ (c_X2_connected l D cI cZ h f1 f2 ph f fa fb fc n G va mk F (xs (i + 1)) (xs (i + 2))) (cwV 2 hts gL_law_X2_connected rfl rfl rfl (by decide +kernel) ⟨Nat.le_of_ble_eq_true rfl, Nat.le_of_ble_eq_true rfl⟩) (hP.sub (ws' := wO h f f1 f2 ph ++ wF f fa fb fc cI cZ n (fo_cp G) va mk) [0, 1, 2, 3, 4] rfl) hK rfl rfl rfl hl rfl (Nat.le_of_ble_eq_true rfl) dL_law_376 ⟨Nat.le_of_ble_eq_true rfl, Nat.le_of_ble_eq_true rfl⟩ ?_
  refine lv_aload_n hx hb dL_law_379 rfl (lv_at hl 2 rfl) ?_
  refine lv_aload_n hx hb dL_law_380 rfl (lv_at hl 0 rfl) ?_
  refine lv_iload_n hx hb dL_law_381 rfl (lv_at hl 3 rfl) ?_
  refine lv_iconst (v := 1) hx hb dL_law_382 (by decide) ?_
  refine lv_iadd hx hb dL_law_383 ?_
  rw [show ((nI i) + 1 : Int32) = nI (i + 1) from nI_add i 1]
  refine sc_ld hx hb hX hbl hS (k := (i + 1)) (by omega) hLen dL_law_384 ?_
  refine lv_aload_n hx hb dL_law_385 rfl (lv_at hl 0 rfl) ?_
  refine lv_iload_n hx hb dL_law_386 rfl (lv_at hl 3 rfl) ?_
  refine lv_iconst (v := 2) hx hb dL_law_387 (by decide) ?_
  refine lv_iadd hx hb dL_law_388 ?_
  rw [show ((nI i) + 2 : Int32) = nI (i + 2) from nI_add i 2]
  refine sc_ld hx hb hX hbl hS (k := (i + 2)) (by omega) hLen dL_law_389 ?_
  refine rd_call ⟨hx, hb, hml, hown, hts⟩ (c_X3_connected l D cI cZ g st sl sv pt fsl fsv fpt many n G va mk F (xs (i + 1)) (xs (i + 2))) (cwV 2 hts gL_law_X3_connected rfl rfl rfl (by decide +kernel) ⟨Nat.le_of_ble_eq_true rfl, Nat.le_of_ble_eq_true rfl⟩) (hP.sub (ws' := wM g st sl sv pt cI cZ (mst n G va mk) fsl fsv fpt many) [15, 16, 17, 18, 19] rfl) hK rfl rfl rfl hl rfl (Nat.le_of_ble_eq_true rfl) dL_law_390 ⟨Nat.le_of_ble_eq_true rfl, Nat.le_of_ble_eq_true rfl⟩ ?_
  refine lv_icmp_eq (tgt := 1044) hx hb dL_law_393 (by decide) (fun c_393 => ?_) (fun c_393 => ?_)
  · skip
    exact kk n G va mk n1 pa1 va1 mk1 n2 pa2 va2 mk2 vs L fsl fsv fpt many ⟨F, hva, hL, hs0, hs1⟩ H locs hP hD hS
  · skip
    exact absurd rfl c_393
set_option maxHeartbeats 4000000 in
set_option maxRecDepth 100000 in
/-- case 10: commonAncestor -/
theorem lc_10 {p : Program} {l : Launch} {e : Env} {s : State} {m : MethodId} {below : List Frame} {meth : Method} {c : Code} {b Len : Nat} {xs : Nat → Int32} (C0 : lw_At p s m meth c b Len xs) (hLen : Len ≤ 2048) {D : va_G} {cI cZ : ClassId} (hK : KK D cI cZ s) {h f fa fb fc f1 fa1 fb1 fc1 f2 fa2 fb2 fc2 ph hq g st sl sv pt : Nat} {i : Nat} (hi : i + 4 ≤ Len) {ls : Array Slot} (hl : lv_has ls 4 [(0, .ref b), (1, .ref h), (2, .ref g), (3, .int (nI i))]) (kk : LKont p l e s m b below meth c D cI cZ h f fa fb fc f1 fa1 fb1 fc1 f2 fa2 fb2 fc2 ph hq g st sl sv pt ls)
    (n : Nat) (G : Nat → Nat) (va : Nat → Int32) (mk : Nat → Bool) (n1 : Nat) (pa1 va1 : Nat → Int32) (mk1 : Nat → Bool) (n2 : Nat) (pa2 va2 : Nat → Int32) (mk2 : Nat → Bool) (vs : Nat → Int32) (L : Nat) (fsl fsv fpt : Nat → Int32) (many : Int32) (I : LInv n G va n1 pa1 va1 mk1 n2 pa2 va2 mk2 L fsl fsv) (H : Heap) (locs : List Loc) (hP : va_P D vwCl (LW h f fa fb fc f1 fa1 fb1 fc1 f2 fa2 fb2 fc2 ph hq g st sl sv pt cI cZ n G va mk n1 pa1 va1 mk1 n2 pa2 va2 mk2 vs L fsl fsv fpt many) H) (hD : va_D (aI s) (LW h f fa fb fc f1 fa1 fb1 fc1 f2 fa2 fb2 fc2 ph hq g st sl sv pt cI cZ n G va mk n1 pa1 va1 mk1 n2 pa2 va2 mk2 vs L fsl fsv fpt many)) (hS : va_S (aI s) s.heap H locs) : Wl p l e s m b below meth c H locs (F0 m 398 ls []) := by
  obtain ⟨hx, hb, hr, hml, hown, hts, hX, hbl, hlocks, hgv⟩ := C0
  have hts := fun w h => hts w (wsL_law_in w h)
  have hown : s.vm.findClass RL = some m.cls := hown
  obtain ⟨F, hva, hL, hs0, hs1⟩ := I
  have hP : va_P D vwCl (wO h f f1 f2 ph ++ wF f fa fb fc cI cZ n (fo_cp G) va mk ++ wF f1 fa1 fb1 fc1 cI cZ n1 pa1 va1 mk1 ++ wF f2 fa2 fb2 fc2 cI cZ n2 pa2 va2 mk2 ++ wP ph hq cI vs (nI L) ++ wM g st sl sv pt cI cZ (mst n G va mk) fsl fsv fpt many) H := hP
  have hD : va_D (aI s) (wO h f f1 f2 ph ++ wF f fa fb fc cI cZ n (fo_cp G) va mk ++ wF f1 fa1 fb1 fc1 cI cZ n1 pa1 va1 mk1 ++ wF f2 fa2 fb2 fc2 cI cZ n2 pa2 va2 mk2 ++ wP ph hq cI vs (nI L) ++ wM g st sl sv pt cI cZ (mst n G va mk) fsl fsv fpt many) := hD
  refine lv_aload_n hx hb dL_law_398 rfl (lv_at hl 1 rfl) ?_
  refine lv_aload_n hx hb dL_law_399 rfl (lv_at hl 0 rfl) ?_
  refine lv_iload_n hx hb dL_law_400 rfl (lv_at hl 3 rfl) ?_
  refine lv_iconst (v := 1) hx hb dL_law_401 (by decide) ?_
  refine lv_iadd hx hb dL_law_402 ?_
  rw [show ((nI i) + 1 : Int32) = nI (i + 1) from nI_add i 1]
  refine sc_ld hx hb hX hbl hS (k := (i + 1)) (by omega) hLen dL_law_403 ?_
  refine lv_aload_n hx hb dL_law_404 rfl (lv_at hl 0 rfl) ?_
  refine lv_iload_n hx hb dL_law_405 rfl (lv_at hl 3 rfl) ?_
  refine lv_iconst (v := 2) hx hb dL_law_406 (by decide) ?_
  refine lv_iadd hx hb dL_law_407 ?_
  rw [show ((nI i) + 2 : Int32) = nI (i + 2) from nI_add i 2]
  refine sc_ld hx hb hX hbl hS (k := (i + 2)) (by omega) hLen dL_law_408 ?_
  refine rd_call ⟨hx, hb, hml, hown, hts⟩ (c_X2_commonAncestor l D cI cZ h f1 f2 ph f fa fb fc n G va mk F (xs (i + 1)) (xs (i + 2))) (cwV 2 hts gL_law_X2_commonAncestor rfl rfl rfl (by decide +kernel) ⟨Nat.le_of_ble_eq_true rfl, Nat.le_of_ble_eq_true rfl⟩) (hP.sub (ws' := wO h f f1 f2 ph ++ wF f fa fb fc cI cZ n (fo_cp G) va mk) [0, 1, 2, 3, 4] rfl) hK rfl rfl rfl hl rfl (Nat.le_of_ble_eq_true rfl) dL_law_409 ⟨Nat.le_of_ble_eq_true rfl, Nat.le_of_ble_eq_true rfl⟩ ?_
  refine lv_aload_n hx hb dL_law_412 rfl (lv_at hl 2 rfl) ?_
  refine lv_aload_n hx hb dL_law_413 rfl (lv_at hl 0 rfl) ?_
  refine lv_iload_n hx hb dL_law_414 rfl (lv_at hl 3 rfl) ?_
  refine lv_iconst (v := 1) hx hb dL_law_415 (by decide) ?_
  refine lv_iadd hx hb dL_law_416 ?_
  rw [show ((nI i) + 1 : Int32) = nI (i + 1) from nI_add i 1]
  refine sc_ld hx hb hX hbl hS (k := (i + 1)) (by omega) hLen dL_law_417 ?_
  refine lv_aload_n hx hb dL_law_418 rfl (lv_at hl 0 rfl) ?_
  refine lv_iload_n hx hb dL_law_419 rfl (lv_at hl 3 rfl) ?_
  refine lv_iconst (v := 2) hx hb dL_law_420 (by decide) ?_
  refine lv_iadd hx hb dL_law_421 ?_
  rw [show ((nI i) + 2 : Int32) = nI (i + 2) from nI_add i 2]
  refine sc_ld hx hb hX hbl hS (k := (i + 2)) (by omega) hLen dL_law_422 ?_
  refine rd_call ⟨hx, hb, hml, hown, hts⟩ (c_X3_commonAncestor l D cI cZ g st sl sv pt fsl fsv fpt many n G va mk F (xs (i + 1)) (xs (i + 2))) (cwV 2 hts gL_law_X3_commonAncestor rfl rfl rfl (by decide +kernel) ⟨Nat.le_of_ble_eq_true rfl, Nat.le_of_ble_eq_true rfl⟩) (hP.sub (ws' := wM g st sl sv pt cI cZ (mst n G va mk) fsl fsv fpt many) [15, 16, 17, 18, 19] rfl) hK rfl rfl rfl hl rfl (Nat.le_of_ble_eq_true rfl) dL_law_423 ⟨Nat.le_of_ble_eq_true rfl, Nat.le_of_ble_eq_true rfl⟩ ?_
  refine lv_icmp_eq (tgt := 1044) hx hb dL_law_426 (by decide) (fun c_426 => ?_) (fun c_426 => ?_)
  · skip
    exact kk n G va mk n1 pa1 va1 mk1 n2 pa2 va2 mk2 vs L fsl fsv fpt many ⟨F, hva, hL, hs0, hs1⟩ H locs hP hD hS
  · skip
    exact absurd rfl c_426
set_option maxHeartbeats 4000000 in
set_option maxRecDepth 100000 in
/-- case 11: distance -/
theorem lc_11 {p : Program} {l : Launch} {e : Env} {s : State} {m : MethodId} {below : List Frame} {meth : Method} {c : Code} {b Len : Nat} {xs : Nat → Int32} (C0 : lw_At p s m meth c b Len xs) (hLen : Len ≤ 2048) {D : va_G} {cI cZ : ClassId} (hK : KK D cI cZ s) {h f fa fb fc f1 fa1 fb1 fc1 f2 fa2 fb2 fc2 ph hq g st sl sv pt : Nat} {i : Nat} (hi : i + 4 ≤ Len) {ls : Array Slot} (hl : lv_has ls 4 [(0, .ref b), (1, .ref h), (2, .ref g), (3, .int (nI i))]) (kk : LKont p l e s m b below meth c D cI cZ h f fa fb fc f1 fa1 fb1 fc1 f2 fa2 fb2 fc2 ph hq g st sl sv pt ls)
    (n : Nat) (G : Nat → Nat) (va : Nat → Int32) (mk : Nat → Bool) (n1 : Nat) (pa1 va1 : Nat → Int32) (mk1 : Nat → Bool) (n2 : Nat) (pa2 va2 : Nat → Int32) (mk2 : Nat → Bool) (vs : Nat → Int32) (L : Nat) (fsl fsv fpt : Nat → Int32) (many : Int32) (I : LInv n G va n1 pa1 va1 mk1 n2 pa2 va2 mk2 L fsl fsv) (H : Heap) (locs : List Loc) (hP : va_P D vwCl (LW h f fa fb fc f1 fa1 fb1 fc1 f2 fa2 fb2 fc2 ph hq g st sl sv pt cI cZ n G va mk n1 pa1 va1 mk1 n2 pa2 va2 mk2 vs L fsl fsv fpt many) H) (hD : va_D (aI s) (LW h f fa fb fc f1 fa1 fb1 fc1 f2 fa2 fb2 fc2 ph hq g st sl sv pt cI cZ n G va mk n1 pa1 va1 mk1 n2 pa2 va2 mk2 vs L fsl fsv fpt many)) (hS : va_S (aI s) s.heap H locs) : Wl p l e s m b below meth c H locs (F0 m 431 ls []) := by
  obtain ⟨hx, hb, hr, hml, hown, hts, hX, hbl, hlocks, hgv⟩ := C0
  have hts := fun w h => hts w (wsL_law_in w h)
  have hown : s.vm.findClass RL = some m.cls := hown
  obtain ⟨F, hva, hL, hs0, hs1⟩ := I
  have hP : va_P D vwCl (wO h f f1 f2 ph ++ wF f fa fb fc cI cZ n (fo_cp G) va mk ++ wF f1 fa1 fb1 fc1 cI cZ n1 pa1 va1 mk1 ++ wF f2 fa2 fb2 fc2 cI cZ n2 pa2 va2 mk2 ++ wP ph hq cI vs (nI L) ++ wM g st sl sv pt cI cZ (mst n G va mk) fsl fsv fpt many) H := hP
  have hD : va_D (aI s) (wO h f f1 f2 ph ++ wF f fa fb fc cI cZ n (fo_cp G) va mk ++ wF f1 fa1 fb1 fc1 cI cZ n1 pa1 va1 mk1 ++ wF f2 fa2 fb2 fc2 cI cZ n2 pa2 va2 mk2 ++ wP ph hq cI vs (nI L) ++ wM g st sl sv pt cI cZ (mst n G va mk) fsl fsv fpt many) := hD
  refine lv_aload_n hx hb dL_law_431 rfl (lv_at hl 1 rfl) ?_
  refine lv_aload_n hx hb dL_law_432 rfl (lv_at hl 0 rfl) ?_
  refine lv_iload_n hx hb dL_law_433 rfl (lv_at hl 3 rfl) ?_
  refine lv_iconst (v := 1) hx hb dL_law_434 (by decide) ?_
  refine lv_iadd hx hb dL_law_435 ?_
  rw [show ((nI i) + 1 : Int32) = nI (i + 1) from nI_add i 1]
  refine sc_ld hx hb hX hbl hS (k := (i + 1)) (by omega) hLen dL_law_436 ?_
  refine lv_aload_n hx hb dL_law_437 rfl (lv_at hl 0 rfl) ?_
  refine lv_iload_n hx hb dL_law_438 rfl (lv_at hl 3 rfl) ?_
  refine lv_iconst (v := 2) hx hb dL_law_439 (by decide) ?_
  refine lv_iadd hx hb dL_law_440 ?_
  rw [show ((nI i) + 2 : Int32) = nI (i + 2) from nI_add i 2]
  refine sc_ld hx hb hX hbl hS (k := (i + 2)) (by omega) hLen dL_law_441 ?_
  refine rd_call ⟨hx, hb, hml, hown, hts⟩ (c_X2_distance l D cI cZ h f1 f2 ph f fa fb fc n G va mk F (xs (i + 1)) (xs (i + 2))) (cwV 2 hts gL_law_X2_distance rfl rfl rfl (by decide +kernel) ⟨Nat.le_of_ble_eq_true rfl, Nat.le_of_ble_eq_true rfl⟩) (hP.sub (ws' := wO h f f1 f2 ph ++ wF f fa fb fc cI cZ n (fo_cp G) va mk) [0, 1, 2, 3, 4] rfl) hK rfl rfl rfl hl rfl (Nat.le_of_ble_eq_true rfl) dL_law_442 ⟨Nat.le_of_ble_eq_true rfl, Nat.le_of_ble_eq_true rfl⟩ ?_
  refine lv_aload_n hx hb dL_law_445 rfl (lv_at hl 2 rfl) ?_
  refine lv_aload_n hx hb dL_law_446 rfl (lv_at hl 0 rfl) ?_
  refine lv_iload_n hx hb dL_law_447 rfl (lv_at hl 3 rfl) ?_
  refine lv_iconst (v := 1) hx hb dL_law_448 (by decide) ?_
  refine lv_iadd hx hb dL_law_449 ?_
  rw [show ((nI i) + 1 : Int32) = nI (i + 1) from nI_add i 1]
  refine sc_ld hx hb hX hbl hS (k := (i + 1)) (by omega) hLen dL_law_450 ?_
  refine lv_aload_n hx hb dL_law_451 rfl (lv_at hl 0 rfl) ?_
  refine lv_iload_n hx hb dL_law_452 rfl (lv_at hl 3 rfl) ?_
  refine lv_iconst (v := 2) hx hb dL_law_453 (by decide) ?_
  refine lv_iadd hx hb dL_law_454 ?_
  rw [show ((nI i) + 2 : Int32) = nI (i + 2) from nI_add i 2]
  refine sc_ld hx hb hX hbl hS (k := (i + 2)) (by omega) hLen dL_law_455 ?_
  refine rd_call ⟨hx, hb, hml, hown, hts⟩ (c_X3_distance l D cI cZ g st sl sv pt fsl fsv fpt many n G va mk F (xs (i + 1)) (xs (i + 2))) (cwV 2 hts gL_law_X3_distance rfl rfl rfl (by decide +kernel) ⟨Nat.le_of_ble_eq_true rfl, Nat.le_of_ble_eq_true rfl⟩) (hP.sub (ws' := wM g st sl sv pt cI cZ (mst n G va mk) fsl fsv fpt many) [15, 16, 17, 18, 19] rfl) hK rfl rfl rfl hl rfl (Nat.le_of_ble_eq_true rfl) dL_law_456 ⟨Nat.le_of_ble_eq_true rfl, Nat.le_of_ble_eq_true rfl⟩ ?_
  refine lv_icmp_eq (tgt := 1044) hx hb dL_law_459 (by decide) (fun c_459 => ?_) (fun c_459 => ?_)
  · skip
    exact kk n G va mk n1 pa1 va1 mk1 n2 pa2 va2 mk2 vs L fsl fsv fpt many ⟨F, hva, hL, hs0, hs1⟩ H locs hP hD hS
  · skip
    exact absurd rfl c_459
