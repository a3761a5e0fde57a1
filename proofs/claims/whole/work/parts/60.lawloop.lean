set_option maxHeartbeats 4000000 in
set_option maxRecDepth 100000 in
/-- the law's loop: at its head, with i ints read, both systems stand for one state -/
theorem law_loop {p : Program} {l : Launch} {e : Env} {s : State} {m : MethodId} {below : List Frame} {meth : Method} {c : Code} {b Len : Nat} {xs : Nat → Int32} (C0 : lw_At p s m meth c b Len xs) (hLen : Len ≤ 2048) {D : va_G} {cI cZ : ClassId} (hK : KK D cI cZ s) {h f fa fb fc f1 fa1 fb1 fc1 f2 fa2 fb2 fc2 ph hq g st sl sv pt : Nat} :
    ∀ (k i : Nat), Len + 4 - i < k → i ≤ Len + 4 → ∀ (n : Nat) (G : Nat → Nat) (va : Nat → Int32) (mk : Nat → Bool) (n1 : Nat) (pa1 va1 : Nat → Int32) (mk1 : Nat → Bool) (n2 : Nat) (pa2 va2 : Nat → Int32) (mk2 : Nat → Bool) (vs : Nat → Int32) (L : Nat) (fsl fsv fpt : Nat → Int32) (many : Int32), LInv n G va n1 pa1 va1 mk1 n2 pa2 va2 mk2 L fsl fsv → ∀ (H : Heap) (locs : List Loc), va_P D vwCl (LW h f fa fb fc f1 fa1 fb1 fc1 f2 fa2 fb2 fc2 ph hq g st sl sv pt cI cZ n G va mk n1 pa1 va1 mk1 n2 pa2 va2 mk2 vs L fsl fsv fpt many) H → va_D (aI s) (LW h f fa fb fc f1 fa1 fb1 fc1 f2 fa2 fb2 fc2 ph hq g st sl sv pt cI cZ n G va mk n1 pa1 va1 mk1 n2 pa2 va2 mk2 vs L fsl fsv fpt many) → va_S (aI s) s.heap H locs → ∀ ls : Array Slot, lv_has ls 4 [(0, .ref b), (1, .ref h), (2, .ref g), (3, .int (nI i))] → Wl p l e s m b below meth c H locs (F0 m 18 ls []) := by
  obtain ⟨hx, hb, hr, hml, hown, hts, hX, hbl, hlocks, hgv⟩ := id C0
  intro k
  induction k with
  | zero => intro i hk; exact absurd hk (Nat.not_lt_zero _)
  | succ k ih =>
    intro i hk hiM n G va mk n1 pa1 va1 mk1 n2 pa2 va2 mk2 vs L fsl fsv fpt many I H locs hP hD hS ls hl
    refine lv_iload_n hx hb dL_law_18 rfl (lv_at hl 3 rfl) ?_
    refine lv_aload_n hx hb dL_law_19 rfl (lv_at hl 0 rfl) ?_
    refine va_slen hx hb hX hbl (Nat.not_le.mpr hbl) hS dL_law_20 ?_
    refine lv_iconst (v := 4) hx hb dL_law_21 (by decide) ?_
    refine lv_isub hx hb dL_law_22 ?_
    refine lv_icmp_gt (tgt := 1050) hx hb dL_law_23 (by decide) (fun c_23 => ?_) (fun c_23 => ?_)
    · refine lv_iconst (v := 1) hx hb dL_law_1050 (by decide) ?_
      refine va_forget (fun q hq => hS.2.2 q hq) ?_
      exact lw_ret hx hb hr hlocks dL_law_1051
    · have hi4 : i + 4 ≤ Len := law_in hLen (by omega) c_23
      refine lv_aload_n hx hb dL_law_26 rfl (lv_at hl 0 rfl) ?_
      refine lv_iload_n hx hb dL_law_27 rfl (lv_at hl 3 rfl) ?_
      refine sc_ld hx hb hX hbl hS (k := i) (by omega) hLen dL_law_28 ?_
      refine lv_bipush (v := 31) hx hb dL_law_29 (by decide) ?_
      refine lv_iand hx hb dL_law_31 ?_
      obtain ⟨j, hj, ej⟩ := pk_andE (xs i) (m := 31) 5 (by decide)
      rw [ej]
      have kk : LKont p l e s m b below meth c D cI cZ h f fa fb fc f1 fa1 fb1 fc1 f2 fa2 fb2 fc2 ph hq g st sl sv pt ls := by
        intro n G va mk n1 pa1 va1 mk1 n2 pa2 va2 mk2 vs L fsl fsv fpt many I H locs hP hD hS
        refine lv_iinc (v := nI (i + 4)) (lv' := [(3, .int (nI (i + 4))), (0, .ref b), (1, .ref h), (2, .ref g)]) hx hb dL_law_1044 hl (k := 3) rfl (nI_add i 4) (by decide) rfl (fun ls hl => ?_)
        refine lv_goto (tgt := 18) hx hb dL_law_1047 (by decide) ?_
        exact ih (i + 4) (by omega) (by omega) n G va mk n1 pa1 va1 mk1 n2 pa2 va2 mk2 vs L fsl fsv fpt many I H locs hP hD hS ls (lv_sub hl [1, 2, 3, 0] rfl)
      rcases (show j = 0 ∨ j = 1 ∨ j = 2 ∨ j = 3 ∨ j = 4 ∨ j = 5 ∨ j = 6 ∨ j = 7 ∨ j = 8 ∨ j = 9 ∨ j = 10 ∨ j = 11 ∨ j = 12 ∨ j = 13 ∨ j = 14 ∨ j = 15 ∨ j = 16 ∨ j = 17 ∨ j = 18 ∨ j = 19 ∨ j = 20 ∨ j = 21 ∨ j = 22 ∨ j = 23 ∨ j = 24 ∨ j = 25 ∨ j = 26 ∨ j = 27 ∨ j = 28 ∨ j = 29 ∨ j = 30 ∨ j = 31 by omega) with rfl | rfl | rfl | rfl | rfl | rfl | rfl | rfl | rfl | rfl | rfl | rfl | rfl | rfl | rfl | rfl | rfl | rfl | rfl | rfl | rfl | rfl | rfl | rfl | rfl | rfl | rfl | rfl | rfl | rfl | rfl | rfl
      · refine lv_tableIn (x := nI 0) (off := 136) (tgt := 168) hx hb dL_law_32 (by decide) (by decide) (by decide) (by decide) ?_
        exact lc_0 C0 hLen hK hi4 hl kk n G va mk n1 pa1 va1 mk1 n2 pa2 va2 mk2 vs L fsl fsv fpt many I H locs hP hD hS
      · refine lv_tableIn (x := nI 1) (off := 159) (tgt := 191) hx hb dL_law_32 (by decide) (by decide) (by decide) (by decide) ?_
        exact lc_1 C0 hLen hK hi4 hl kk n G va mk n1 pa1 va1 mk1 n2 pa2 va2 mk2 vs L fsl fsv fpt many I H locs hP hD hS
      · refine lv_tableIn (x := nI 2) (off := 192) (tgt := 224) hx hb dL_law_32 (by decide) (by decide) (by decide) (by decide) ?_
        exact lc_2 C0 hLen hK hi4 hl kk n G va mk n1 pa1 va1 mk1 n2 pa2 va2 mk2 vs L fsl fsv fpt many I H locs hP hD hS
      · refine lv_tableIn (x := nI 3) (off := 215) (tgt := 247) hx hb dL_law_32 (by decide) (by decide) (by decide) (by decide) ?_
        exact lc_3 C0 hLen hK hi4 hl kk n G va mk n1 pa1 va1 mk1 n2 pa2 va2 mk2 vs L fsl fsv fpt many I H locs hP hD hS
      · refine lv_tableIn (x := nI 4) (off := 238) (tgt := 270) hx hb dL_law_32 (by decide) (by decide) (by decide) (by decide) ?_
        exact lc_4 C0 hLen hK hi4 hl kk n G va mk n1 pa1 va1 mk1 n2 pa2 va2 mk2 vs L fsl fsv fpt many I H locs hP hD hS
      · refine lv_tableIn (x := nI 5) (off := 251) (tgt := 283) hx hb dL_law_32 (by decide) (by decide) (by decide) (by decide) ?_
        exact lc_5 C0 hLen hK hi4 hl kk n G va mk n1 pa1 va1 mk1 n2 pa2 va2 mk2 vs L fsl fsv fpt many I H locs hP hD hS
      · refine lv_tableIn (x := nI 6) (off := 264) (tgt := 296) hx hb dL_law_32 (by decide) (by decide) (by decide) (by decide) ?_
        exact lc_6 C0 hLen hK hi4 hl kk n G va mk n1 pa1 va1 mk1 n2 pa2 va2 mk2 vs L fsl fsv fpt many I H locs hP hD hS
      · refine lv_tableIn (x := nI 7) (off := 287) (tgt := 319) hx hb dL_law_32 (by decide) (by decide) (by decide) (by decide) ?_
        exact lc_7 C0 hLen hK hi4 hl kk n G va mk n1 pa1 va1 mk1 n2 pa2 va2 mk2 vs L fsl fsv fpt many I H locs hP hD hS
      · refine lv_tableIn (x := nI 8) (off := 310) (tgt := 342) hx hb dL_law_32 (by decide) (by decide) (by decide) (by decide) ?_
        exact lc_8 C0 hLen hK hi4 hl kk n G va mk n1 pa1 va1 mk1 n2 pa2 va2 mk2 vs L fsl fsv fpt many I H locs hP hD hS
      · refine lv_tableIn (x := nI 9) (off := 333) (tgt := 365) hx hb dL_law_32 (by decide) (by decide) (by decide) (by decide) ?_
        exact lc_9 C0 hLen hK hi4 hl kk n G va mk n1 pa1 va1 mk1 n2 pa2 va2 mk2 vs L fsl fsv fpt many I H locs hP hD hS
      · refine lv_tableIn (x := nI 10) (off := 366) (tgt := 398) hx hb dL_law_32 (by decide) (by decide) (by decide) (by decide) ?_
        exact lc_10 C0 hLen hK hi4 hl kk n G va mk n1 pa1 va1 mk1 n2 pa2 va2 mk2 vs L fsl fsv fpt many I H locs hP hD hS
      · refine lv_tableIn (x := nI 11) (off := 399) (tgt := 431) hx hb dL_law_32 (by decide) (by decide) (by decide) (by decide) ?_
        exact lc_11 C0 hLen hK hi4 hl kk n G va mk n1 pa1 va1 mk1 n2 pa2 va2 mk2 vs L fsl fsv fpt many I H locs hP hD hS
      · refine lv_tableIn (x := nI 12) (off := 432) (tgt := 464) hx hb dL_law_32 (by decide) (by decide) (by decide) (by decide) ?_
        exact lc_12 C0 hLen hK hi4 hl kk n G va mk n1 pa1 va1 mk1 n2 pa2 va2 mk2 vs L fsl fsv fpt many I H locs hP hD hS
      · refine lv_tableIn (x := nI 13) (off := 475) (tgt := 507) hx hb dL_law_32 (by decide) (by decide) (by decide) (by decide) ?_
        exact lc_13 C0 hLen hK hi4 hl kk n G va mk n1 pa1 va1 mk1 n2 pa2 va2 mk2 vs L fsl fsv fpt many I H locs hP hD hS
      · refine lv_tableIn (x := nI 14) (off := 508) (tgt := 540) hx hb dL_law_32 (by decide) (by decide) (by decide) (by decide) ?_
        exact lc_14 C0 hLen hK hi4 hl kk n G va mk n1 pa1 va1 mk1 n2 pa2 va2 mk2 vs L fsl fsv fpt many I H locs hP hD hS
      · refine lv_tableIn (x := nI 15) (off := 541) (tgt := 573) hx hb dL_law_32 (by decide) (by decide) (by decide) (by decide) ?_
        exact lc_15 C0 hLen hK hi4 hl kk n G va mk n1 pa1 va1 mk1 n2 pa2 va2 mk2 vs L fsl fsv fpt many I H locs hP hD hS
      · refine lv_tableIn (x := nI 16) (off := 574) (tgt := 606) hx hb dL_law_32 (by decide) (by decide) (by decide) (by decide) ?_
        exact lc_16 C0 hLen hK hi4 hl kk n G va mk n1 pa1 va1 mk1 n2 pa2 va2 mk2 vs L fsl fsv fpt many I H locs hP hD hS
      · refine lv_tableIn (x := nI 17) (off := 617) (tgt := 649) hx hb dL_law_32 (by decide) (by decide) (by decide) (by decide) ?_
        exact lc_17 C0 hLen hK hi4 hl kk n G va mk n1 pa1 va1 mk1 n2 pa2 va2 mk2 vs L fsl fsv fpt many I H locs hP hD hS
      · refine lv_tableIn (x := nI 18) (off := 660) (tgt := 692) hx hb dL_law_32 (by decide) (by decide) (by decide) (by decide) ?_
        exact lc_18 C0 hLen hK hi4 hl kk n G va mk n1 pa1 va1 mk1 n2 pa2 va2 mk2 vs L fsl fsv fpt many I H locs hP hD hS
      · refine lv_tableIn (x := nI 19) (off := 703) (tgt := 735) hx hb dL_law_32 (by decide) (by decide) (by decide) (by decide) ?_
        exact lc_19 C0 hLen hK hi4 hl kk n G va mk n1 pa1 va1 mk1 n2 pa2 va2 mk2 vs L fsl fsv fpt many I H locs hP hD hS
      · refine lv_tableIn (x := nI 20) (off := 736) (tgt := 768) hx hb dL_law_32 (by decide) (by decide) (by decide) (by decide) ?_
        exact lc_20 C0 hLen hK hi4 hl kk n G va mk n1 pa1 va1 mk1 n2 pa2 va2 mk2 vs L fsl fsv fpt many I H locs hP hD hS
      · refine lv_tableIn (x := nI 21) (off := 759) (tgt := 791) hx hb dL_law_32 (by decide) (by decide) (by decide) (by decide) ?_
        exact lc_21 C0 hLen hK hi4 hl kk n G va mk n1 pa1 va1 mk1 n2 pa2 va2 mk2 vs L fsl fsv fpt many I H locs hP hD hS
      · refine lv_tableIn (x := nI 22) (off := 782) (tgt := 814) hx hb dL_law_32 (by decide) (by decide) (by decide) (by decide) ?_
        exact lc_22 C0 hLen hK hi4 hl kk n G va mk n1 pa1 va1 mk1 n2 pa2 va2 mk2 vs L fsl fsv fpt many I H locs hP hD hS
      · refine lv_tableIn (x := nI 23) (off := 815) (tgt := 847) hx hb dL_law_32 (by decide) (by decide) (by decide) (by decide) ?_
        exact lc_23 C0 hLen hK hi4 hl kk n G va mk n1 pa1 va1 mk1 n2 pa2 va2 mk2 vs L fsl fsv fpt many I H locs hP hD hS
      · refine lv_tableIn (x := nI 24) (off := 838) (tgt := 870) hx hb dL_law_32 (by decide) (by decide) (by decide) (by decide) ?_
        exact lc_24 C0 hLen hK hi4 hl kk n G va mk n1 pa1 va1 mk1 n2 pa2 va2 mk2 vs L fsl fsv fpt many I H locs hP hD hS
      · refine lv_tableIn (x := nI 25) (off := 871) (tgt := 903) hx hb dL_law_32 (by decide) (by decide) (by decide) (by decide) ?_
        exact lc_25 C0 hLen hK hi4 hl kk n G va mk n1 pa1 va1 mk1 n2 pa2 va2 mk2 vs L fsl fsv fpt many I H locs hP hD hS
      · refine lv_tableIn (x := nI 26) (off := 894) (tgt := 926) hx hb dL_law_32 (by decide) (by decide) (by decide) (by decide) ?_
        exact lc_26 C0 hLen hK hi4 hl kk n G va mk n1 pa1 va1 mk1 n2 pa2 va2 mk2 vs L fsl fsv fpt many I H locs hP hD hS
      · refine lv_tableIn (x := nI 27) (off := 943) (tgt := 975) hx hb dL_law_32 (by decide) (by decide) (by decide) (by decide) ?_
        exact lc_27 C0 hLen hK hi4 hl kk n G va mk n1 pa1 va1 mk1 n2 pa2 va2 mk2 vs L fsl fsv fpt many I H locs hP hD hS
      · refine lv_tableIn (x := nI 28) (off := 966) (tgt := 998) hx hb dL_law_32 (by decide) (by decide) (by decide) (by decide) ?_
        exact lc_28 C0 hLen hK hi4 hl kk n G va mk n1 pa1 va1 mk1 n2 pa2 va2 mk2 vs L fsl fsv fpt many I H locs hP hD hS
      · refine lv_tableIn (x := nI 29) (off := 989) (tgt := 1021) hx hb dL_law_32 (by decide) (by decide) (by decide) (by decide) ?_
        exact lc_29 C0 hLen hK hi4 hl kk n G va mk n1 pa1 va1 mk1 n2 pa2 va2 mk2 vs L fsl fsv fpt many I H locs hP hD hS
      · refine lv_tableOut (x := nI 30) (tgt := 1044) hx hb dL_law_32 (Or.inr (by decide)) (by decide) ?_
        exact kk n G va mk n1 pa1 va1 mk1 n2 pa2 va2 mk2 vs L fsl fsv fpt many I H locs hP hD hS
      · refine lv_tableOut (x := nI 31) (tgt := 1044) hx hb dL_law_32 (Or.inr (by decide)) (by decide) ?_
        exact kk n G va mk n1 pa1 va1 mk1 n2 pa2 va2 mk2 vs L fsl fsv fpt many I H locs hP hD hS
set_option maxHeartbeats 4000000 in
set_option maxRecDepth 100000 in
/-- the law, from its entry -/
theorem whole_start {p : Program} {e : Env} {s : State} {m : MethodId} {below : List Frame} {meth : Method} {c : Code} (l : Launch) (_hflags : l.flags = flags0) {b L : Nat} {xs : Nat → Int32} (hL : L ≤ 2048) (C0 : lw_At p s m meth c b L xs) : W p l e room_1 s m #[Value.ref b] below meth c s.heap [] 0 0 (lw_Z below #[Value.ref b] s) (entryFrame m ([Value.ref b] : List Value).toArray 4) := by
  obtain ⟨hx, hb, hr, hml, hown, hts, hX, hbl, hlocks, hgv⟩ := id C0
  have htsL := fun w h => hts w (wsL_law_in w h)
  have hown : s.vm.findClass RL = some m.cls := hown
  have hA : ∀ q : Nat, s.heap.size ≤ q → aI s q := fun _ h => h
  obtain ⟨c0, iS0, hKn0⟩ := u_known (C := RX0) (T := TX0) (N := 4) (n := 4) htsL inlX0 (htsL (.instantiable RX0 4) (by decide +kernel))
  obtain ⟨c1, iS1, hKn1⟩ := u_known (C := RX1) (T := TX1) (N := 2) (n := 2) htsL inlX1 (htsL (.instantiable RX1 2) (by decide +kernel))
  obtain ⟨c2, iS2, hKn2⟩ := u_known (C := RX2) (T := TX2) (N := 4) (n := 4) htsL inlX2 (htsL (.instantiable RX2 4) (by decide +kernel))
  obtain ⟨c3, iS3, hKn3⟩ := u_known (C := RX3) (T := TX3) (N := 5) (n := 5) htsL inlX3 (htsL (.instantiable RX3 5) (by decide +kernel))
  obtain ⟨D, hKc⟩ : ∃ D : va_G, ∀ (k : Nat) (q : vw_C), vwCl[k]? = some q → u_Kn s q.1 q.2.1 q.2.2 (D.1 k) (D.2 k) := by
    refine ⟨(fun k => if k = 0 then c0 else if k = 1 then c1 else if k = 2 then c2 else c3, fun k => if k = 0 then iS0 else if k = 1 then iS1 else if k = 2 then iS2 else iS3), ?_⟩
    intro k q hq
    match k, hq with
    | 0, hq => cases hq; exact hKn0
    | 1, hq => cases hq; exact hKn1
    | 2, hq => cases hq; exact hKn2
    | 3, hq => cases hq; exact hKn3
    | k + 4, hq => simp [vwCl] at hq
  obtain ⟨cI, kI, compI, hfI, hkI, hkiI⟩ := Cond.arrayClass_spec (htsL (.arrayClass .int) (by decide +kernel))
  obtain ⟨cZ, kZ, compZ, hfZ, hkZ, hkiZ⟩ := Cond.arrayClass_spec (htsL (.arrayClass .boolean) (by decide +kernel))
  have hK : KK D cI cZ s := ⟨hKc, fun k q hk => by
    match k, hk with
    | 0, hk => cases hk; exact ⟨fun n z => ⟨fun k h => (by cases h), kI, hkI, compI, hkiI⟩, hfI⟩
    | 1, hk => cases hk; exact ⟨fun n z => ⟨fun k h => (by cases h), kZ, hkZ, compZ, hkiZ⟩, hfZ⟩
    | k + 2, hk => simp at hk⟩
  have hS : va_S (aI s) s.heap s.heap [] := va_S.rf
  have hP : va_P D vwCl [] s.heap := fun k q h => by simp at h
  have hD : va_D (aI s) [] := ⟨fun i j p q h => by simp at h, fun k q h => by simp at h⟩
  have hl := lv_entry ([.ref b]) (n := 4) (Nat.le_of_ble_eq_true rfl)
  rw [lg_entry_eq]
  generalize (lg_sl ([.ref b]) ++ List.replicate (4 - (lg_sl ([.ref b])).length) Slot.unset).toArray = ls at hl ⊢
  have hl : lv_has ls 4 [(0, .ref b)] := hl
  refine va_new (ci := 2) (fs := [.null, .null, .null, .null]) (C := RX2) (T := TX2) (N := 4) hx hb htsL inlX2 tyX2 tyX2_ok hown (htsL (.classLink RL 7 RX2) (by decide +kernel)) (htsL (.instantiable RX2 4) (by decide +kernel)) (htsL (.initialized RX2) (by decide +kernel)) hK hP hD hS hA rfl (fun j hj => by rcases (show j = 0 ∨ j = 1 ∨ j = 2 ∨ j = 3 by omega) with rfl | rfl | rfl | rfl <;> rfl) (Nat.le_of_ble_eq_true rfl) (Nat.le_of_ble_eq_true rfl) dL_law_0 (fun q H hP hD hS => ?_)
  have hP : va_P D vwCl [(q, .inr (2, [.null, .null, .null, .null]))] H := hP
  have hD : va_D (aI s) [(q, .inr (2, [.null, .null, .null, .null]))] := hD
  refine lv_dup hx hb dL_law_3 rfl ?_
  refine in_call (wr := []) ⟨hx, hb, hml, hown, htsL⟩ (c_X2_init l D cI cZ q) (cwI 0 htsL gL_law_X2_init rfl rfl rfl (htsL (.initialized RX2) (by decide +kernel)) (htsL (.methodLink RL 9 yX2_init) (by decide +kernel)) (htsL (.instanceMethod yX2_init) (by decide +kernel)) rfl (by decide +kernel) ⟨(Nat.le_of_ble_eq_true rfl), (Nat.le_of_ble_eq_true rfl)⟩) hP hK hD hS hA [0] [] rfl rfl rfl rfl (by decide) rfl hl rfl (Nat.le_of_ble_eq_true rfl) dL_law_4 ⟨(Nat.le_of_ble_eq_true rfl), (Nat.le_of_ble_eq_true rfl)⟩ (fun u H locs hP hD hS => ?_)
  have hP : va_P D vwCl (wO q (u 0) (u 4) (u 8) (u 12) ++ wF (u 0) (u 1) (u 2) (u 3) cI cZ 16 (fun _ => -1) (fun _ => 0) (fun _ => false) ++ wF (u 4) (u 5) (u 6) (u 7) cI cZ 0 (fun _ => 0) (fun _ => 0) (fun _ => false) ++ wF (u 8) (u 9) (u 10) (u 11) cI cZ 0 (fun _ => 0) (fun _ => 0) (fun _ => false) ++ wP (u 12) (u 13) cI (fun _ => 0) (nI 0)) H := hP
  have hD : va_D (aI s) (wO q (u 0) (u 4) (u 8) (u 12) ++ wF (u 0) (u 1) (u 2) (u 3) cI cZ 16 (fun _ => -1) (fun _ => 0) (fun _ => false) ++ wF (u 4) (u 5) (u 6) (u 7) cI cZ 0 (fun _ => 0) (fun _ => 0) (fun _ => false) ++ wF (u 8) (u 9) (u 10) (u 11) cI cZ 0 (fun _ => 0) (fun _ => 0) (fun _ => false) ++ wP (u 12) (u 13) cI (fun _ => 0) (nI 0)) := hD
  refine lv_astore_n (lv' := [(1, .ref q), (0, .ref b)]) hx hb dL_law_7 rfl hl (by decide) rfl (fun ls hl => ?_)
  refine va_new (ci := 3) (fs := [.null, .null, .null, .null, .int 0]) (C := RX3) (T := TX3) (N := 5) hx hb htsL inlX3 tyX3 tyX3_ok hown (htsL (.classLink RL 10 RX3) (by decide +kernel)) (htsL (.instantiable RX3 5) (by decide +kernel)) (htsL (.initialized RX3) (by decide +kernel)) hK hP hD hS hA rfl (fun j hj => by rcases (show j = 0 ∨ j = 1 ∨ j = 2 ∨ j = 3 ∨ j = 4 by omega) with rfl | rfl | rfl | rfl | rfl <;> rfl) (Nat.le_of_ble_eq_true rfl) (Nat.le_of_ble_eq_true rfl) dL_law_8 (fun o H hP hD hS => ?_)
  have hP : va_P D vwCl (wO q (u 0) (u 4) (u 8) (u 12) ++ wF (u 0) (u 1) (u 2) (u 3) cI cZ 16 (fun _ => -1) (fun _ => 0) (fun _ => false) ++ wF (u 4) (u 5) (u 6) (u 7) cI cZ 0 (fun _ => 0) (fun _ => 0) (fun _ => false) ++ wF (u 8) (u 9) (u 10) (u 11) cI cZ 0 (fun _ => 0) (fun _ => 0) (fun _ => false) ++ wP (u 12) (u 13) cI (fun _ => 0) (nI 0) ++ [(o, .inr (3, [.null, .null, .null, .null, .int 0]))]) H := hP
  have hD : va_D (aI s) (wO q (u 0) (u 4) (u 8) (u 12) ++ wF (u 0) (u 1) (u 2) (u 3) cI cZ 16 (fun _ => -1) (fun _ => 0) (fun _ => false) ++ wF (u 4) (u 5) (u 6) (u 7) cI cZ 0 (fun _ => 0) (fun _ => 0) (fun _ => false) ++ wF (u 8) (u 9) (u 10) (u 11) cI cZ 0 (fun _ => 0) (fun _ => 0) (fun _ => false) ++ wP (u 12) (u 13) cI (fun _ => 0) (nI 0) ++ [(o, .inr (3, [.null, .null, .null, .null, .int 0]))]) := hD
  refine lv_dup hx hb dL_law_11 rfl ?_
  refine in_call (wr := (wO q (u 0) (u 4) (u 8) (u 12) ++ wF (u 0) (u 1) (u 2) (u 3) cI cZ 16 (fun _ => -1) (fun _ => 0) (fun _ => false) ++ wF (u 4) (u 5) (u 6) (u 7) cI cZ 0 (fun _ => 0) (fun _ => 0) (fun _ => false) ++ wF (u 8) (u 9) (u 10) (u 11) cI cZ 0 (fun _ => 0) (fun _ => 0) (fun _ => false) ++ wP (u 12) (u 13) cI (fun _ => 0) (nI 0))) ⟨hx, hb, hml, hown, htsL⟩ (c_X3_init l D cI cZ o) (cwI 0 htsL gL_law_X3_init rfl rfl rfl (htsL (.initialized RX3) (by decide +kernel)) (htsL (.methodLink RL 12 yX3_init) (by decide +kernel)) (htsL (.instanceMethod yX3_init) (by decide +kernel)) rfl (by decide +kernel) ⟨(Nat.le_of_ble_eq_true rfl), (Nat.le_of_ble_eq_true rfl)⟩) hP hK hD hS hA [15] [0, 1, 2, 3, 4, 5, 6, 7, 8, 9, 10, 11, 12, 13, 14] rfl rfl rfl rfl (by decide) rfl hl rfl (Nat.le_of_ble_eq_true rfl) dL_law_12 ⟨(Nat.le_of_ble_eq_true rfl), (Nat.le_of_ble_eq_true rfl)⟩ (fun w H locs hP hD hS => ?_)
  have hP : va_P D vwCl (wO q (u 0) (u 4) (u 8) (u 12) ++ wF (u 0) (u 1) (u 2) (u 3) cI cZ 16 (fo_cp (fun v => v)) (fun _ => 0) (fun _ => false) ++ wF (u 4) (u 5) (u 6) (u 7) cI cZ 0 (fun _ => 0) (fun _ => 0) (fun _ => false) ++ wF (u 8) (u 9) (u 10) (u 11) cI cZ 0 (fun _ => 0) (fun _ => 0) (fun _ => false) ++ wP (u 12) (u 13) cI (fun _ => 0) (nI 0) ++ wM o (w 0) (w 1) (w 2) (w 3) cI cZ (mst 16 (fun w => w) (fun _ => 0) (fun _ => false)) (fun _ => 0) (fun _ => 0) (fun _ => 0) 0) H := by rw [fo_cp_id]; exact hP
  have hD : va_D (aI s) (wO q (u 0) (u 4) (u 8) (u 12) ++ wF (u 0) (u 1) (u 2) (u 3) cI cZ 16 (fo_cp (fun v => v)) (fun _ => 0) (fun _ => false) ++ wF (u 4) (u 5) (u 6) (u 7) cI cZ 0 (fun _ => 0) (fun _ => 0) (fun _ => false) ++ wF (u 8) (u 9) (u 10) (u 11) cI cZ 0 (fun _ => 0) (fun _ => 0) (fun _ => false) ++ wP (u 12) (u 13) cI (fun _ => 0) (nI 0) ++ wM o (w 0) (w 1) (w 2) (w 3) cI cZ (mst 16 (fun w => w) (fun _ => 0) (fun _ => false)) (fun _ => 0) (fun _ => 0) (fun _ => 0) 0) := vd_same hD rfl
  refine lv_astore_n (lv' := [(2, .ref o), (1, .ref q), (0, .ref b)]) hx hb dL_law_15 rfl hl (by decide) rfl (fun ls hl => ?_)
  refine lv_iconst (v := nI 0) hx hb dL_law_16 (by decide) ?_
  refine lv_istore_n (lv' := [(3, .int (nI 0)), (2, .ref o), (1, .ref q), (0, .ref b)]) hx hb dL_law_17 rfl hl (by decide) rfl (fun ls hl => ?_)
  refine W.widen (k := 20) (n := 1308) (by decide) (by decide) ?_
  exact law_loop C0 hL hK (L + 5) 0 (by omega) (by omega) 16 (fun v => v) (fun _ => 0) (fun _ => false) 0 (fun _ => 0) (fun _ => 0) (fun _ => false) 0 (fun _ => 0) (fun _ => 0) (fun _ => false) (fun _ => 0) 0 (fun _ => 0) (fun _ => 0) (fun _ => 0) 0 ⟨fo_id_ok (by decide) (by decide), okV_0, Nat.zero_le _, Or.inl ⟨rfl, rfl⟩, Or.inl ⟨rfl, rfl⟩⟩ H _ hP hD hS ls (lv_sub hl [3, 2, 1, 0] rfl)
