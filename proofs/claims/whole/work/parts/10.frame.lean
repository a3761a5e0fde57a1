/-! what a method that reads says (RdM), what one that writes says (WrM): their starts, their ends, their calls -/
abbrev KK (D : va_G) (cI cZ : ClassId) (U : State) : Prop := va_K D vwCl [(cI, .int), (cZ, .boolean)] U
abbrev rmF (fr lo : Nat) : Jvm.Room := { frames := fr, cells := 0, slots := 0, locals := lo }
def RdM (l : Launch) (y : MethodName) (ws : List Cond) (fr lo : Nat) (D : va_G) (cI cZ : ClassId) (V : va_W) (av : List Value) (r : Int32) : Prop :=
  Met l y ws (rmF fr lo) (va_Pc av (fun U => va_P D vwCl V U.heap ∧ KK D cI cZ U)) (vp_Si (fun x => x = r)) 0 0 (fun _ => False)
/-- a method that answers with a cell of the world, and reads alone -/
def RdA (l : Launch) (y : MethodName) (ws : List Cond) (fr lo : Nat) (D : va_G) (cI cZ : ClassId) (V : va_W) (av : List Value) (r : Nat) : Prop :=
  Met l y ws (rmF fr lo) (va_Pc av (fun U => va_P D vwCl V U.heap ∧ KK D cI cZ U)) (fun _ st o t => o = .returned (some (.ref r)) ∧ t.heap = st.heap) 0 0 (fun _ => False)
abbrev Wr0 (p : Program) (l : Launch) (e : Env) (ws : List Cond) (fr lo : Nat) (s : State) (m : MethodId) (av : List Value) (below : List Frame) (meth : Method) (c : Code) (r : Int32) (g : JFrame) : Prop :=
  W p l e (headSpec ws (rmF fr lo)).room s m av.toArray below meth c s.heap [] 0 0 (MQ below (vp_Si (fun x => x = r)) av.toArray s 0 0 (fun _ => False)) g
abbrev Wa0 (p : Program) (l : Launch) (e : Env) (ws : List Cond) (fr lo : Nat) (s : State) (m : MethodId) (av : List Value) (below : List Frame) (meth : Method) (c : Code) (r : Nat) (g : JFrame) : Prop :=
  W p l e (headSpec ws (rmF fr lo)).room s m av.toArray below meth c s.heap [] 0 0 (MQ below (fun _ st o t => o = .returned (some (.ref r)) ∧ t.heap = st.heap) av.toArray s 0 0 (fun _ => False)) g
abbrev adr (V : va_W) : Nat → Prop := fun q => ∃ (k : Nat) (e : va_E), V[k]? = some (q, e)
abbrev wrQ (D : va_G) (V V' : va_W) (r : Option Value) : Array Value → State → Outcome → State → Prop := fun _ st o t => o = .returned r ∧ va_P D vwCl V' t.heap ∧ va_F (adr V) st t
def WrM (l : Launch) (y : MethodName) (ws : List Cond) (fr lo : Nat) (D : va_G) (cI cZ : ClassId) (V V' : va_W) (av : List Value) (r : Option Value) : Prop :=
  Met l y ws (rmF fr lo) (va_Pc av (fun U => va_P D vwCl V U.heap ∧ KK D cI cZ U ∧ va_D (fun _ => True) V)) (wrQ D V V' r) 0 0 (adr V)
abbrev Ww0 (p : Program) (l : Launch) (e : Env) (ws : List Cond) (fr lo : Nat) (s : State) (m : MethodId) (av : List Value) (below : List Frame) (meth : Method) (c : Code) (D : va_G) (V V' : va_W) (r : Option Value) (H : Heap) (locs : List Loc) (g : JFrame) : Prop :=
  W p l e (headSpec ws (rmF fr lo)).room s m av.toArray below meth c H locs 0 0 (MQ below (wrQ D V V' r) av.toArray s 0 0 (adr V)) g
theorem RdM.of {l : Launch} {y : MethodName} {ws ws' : List Cond} {fr lo : Nat} {D : va_G} {cI cZ : ClassId} {V : va_W} {av : List Value} {r : Int32} {cc : ByteArray} {maxL : Nat} {ret : Option FieldType}
    (hy : plainName y.cls = true) (hw : ws = Cond.code y cc maxL ret :: ws') (hlen : (lg_sl av).length ≤ maxL)
    (body : ∀ (p : Program) (e : Env) (s : State) (m : MethodId) (below : List Frame) (meth : Method) (c : Code), p.tables.exec = Jvm.exec → c.code = cc → meth.sig.returnType = ret → c.maxLocals = maxL → s.vm.findClass y.cls = some m.cls → (∀ w ∈ ws, w.before av.toArray s = true) → meth.locks = false → va_P D vwCl V s.heap → KK D cI cZ s → ∀ ls, lv_has ls maxL (lv_args 0 av) → Wr0 p l e ws fr lo s m av below meth c r (F0 m 0 ls [])) : RdM l y ws fr lo D cI cZ V av r := by
  refine Met.ofW (cc := cc) (maxL := maxL) (ret := ret) hy hw ?_
  intro p e s m args below meth c s₁ B hml hv
  obtain ⟨rfl, hP, hK⟩ := hv
  rw [lg_entry_eq]
  exact body p e s m below meth c B.exec B.bytes B.returns hml (findClass_of_methodNamed B.named) (atoms_spec (ws := ws) B.pre) B.notSynchronized hP hK _ (lv_entry av hlen)
theorem RdA.of {l : Launch} {y : MethodName} {ws ws' : List Cond} {fr lo : Nat} {D : va_G} {cI cZ : ClassId} {V : va_W} {av : List Value} {r : Nat} {cc : ByteArray} {maxL : Nat} {ret : Option FieldType}
    (hy : plainName y.cls = true) (hw : ws = Cond.code y cc maxL ret :: ws') (hlen : (lg_sl av).length ≤ maxL)
    (body : ∀ (p : Program) (e : Env) (s : State) (m : MethodId) (below : List Frame) (meth : Method) (c : Code), p.tables.exec = Jvm.exec → c.code = cc → meth.sig.returnType = ret → c.maxLocals = maxL → s.vm.findClass y.cls = some m.cls → (∀ w ∈ ws, w.before av.toArray s = true) → meth.locks = false → va_P D vwCl V s.heap → KK D cI cZ s → ∀ ls, lv_has ls maxL (lv_args 0 av) → Wa0 p l e ws fr lo s m av below meth c r (F0 m 0 ls [])) : RdA l y ws fr lo D cI cZ V av r := by
  refine Met.ofW (cc := cc) (maxL := maxL) (ret := ret) hy hw ?_
  intro p e s m args below meth c s₁ B hml hv
  obtain ⟨rfl, hP, hK⟩ := hv
  rw [lg_entry_eq]
  exact body p e s m below meth c B.exec B.bytes B.returns hml (findClass_of_methodNamed B.named) (atoms_spec (ws := ws) B.pre) B.notSynchronized hP hK _ (lv_entry av hlen)
theorem WrM.of {l : Launch} {y : MethodName} {ws ws' : List Cond} {fr lo : Nat} {D : va_G} {cI cZ : ClassId} {V V' : va_W} {av : List Value} {r : Option Value} {cc : ByteArray} {maxL : Nat} {ret : Option FieldType}
    (hy : plainName y.cls = true) (hw : ws = Cond.code y cc maxL ret :: ws') (hlen : (lg_sl av).length ≤ maxL)
    (body : ∀ (p : Program) (e : Env) (s : State) (m : MethodId) (below : List Frame) (meth : Method) (c : Code), p.tables.exec = Jvm.exec → c.code = cc → meth.sig.returnType = ret → c.maxLocals = maxL → s.vm.findClass y.cls = some m.cls → (∀ w ∈ ws, w.before av.toArray s = true) → meth.locks = false → va_P D vwCl V s.heap → KK D cI cZ s → va_D (adr V) V → va_S (adr V) s.heap s.heap [] → ∀ ls, lv_has ls maxL (lv_args 0 av) → Ww0 p l e ws fr lo s m av below meth c D V V' r s.heap [] (F0 m 0 ls [])) : WrM l y ws fr lo D cI cZ V V' av r := by
  refine Met.ofW (cc := cc) (maxL := maxL) (ret := ret) hy hw ?_
  intro p e s m args below meth c s₁ B hml hv
  obtain ⟨rfl, hP, hK, hD⟩ := hv
  rw [lg_entry_eq]
  exact body p e s m below meth c B.exec B.bytes B.returns hml (findClass_of_methodNamed B.named) (atoms_spec (ws := ws) B.pre) B.notSynchronized hP hK ⟨hD.1, fun k q hk => ⟨k, q.2, hk⟩⟩ va_S.rf _ (lv_entry av hlen)
def bI (b : Bool) : Int32 := cond b 1 0
theorem bI_nar (b : Bool) : narrow .boolean (.int (bI b)) = .int (bI b) := by cases b <;> rfl
theorem bI_vnar (b : Bool) : vp_nar .boolean (bI b) = bI b := by cases b <;> rfl
theorem bI_0 {b : Bool} (h : bI b = 0) : b = false := by cases b with
  | false => rfl
  | true => exact absurd h (by decide)
theorem bI_1 {b : Bool} (h : ¬ bI b = 0) : b = true := by cases b with
  | true => rfl
  | false => exact absurd rfl h
section FR
variable {p : Program} {l : Launch} {e : Env} {R : Jvm.Room} {s : State} {m : MethodId} {args : Array Value} {below : List Frame} {meth : Method} {c : Code} {H : Heap} {locs : List Loc} {cells slots : Nat} {Q : State → Prop}
variable {ws : List Cond} {fr lo : Nat} {av : List Value} {r : Int32} {cc : ByteArray} {pc : Nat} {ls : Array Slot} {rest st0 : List Value} {D : va_G} {cI cZ : ClassId} {V V' : va_W} {A : Nat → Prop} {H0 : Heap}
theorem rd_i {v : Int32} (hx : p.tables.exec = Jvm.exec) (hb : c.code = cc) (hr : meth.sig.returnType = some .int) (hlocks : meth.locks = false) (hv : v = r) (hdg : decode cc pc = .ok (.ireturn, 1)) : Wr0 p l e ws fr lo s m av below meth c r (F0 m pc ls [.int v]) :=
  W.iret hx hb hr (fun t ht _ => ⟨v, rfl, hv, ht⟩) (fun _ h => by cases h) hdg hlocks
theorem rd_z {v : Int32} {b : Bool} (hx : p.tables.exec = Jvm.exec) (hb : c.code = cc) (hr : meth.sig.returnType = some .boolean) (hlocks : meth.locks = false) (hv : v = bI b) (hdg : decode cc pc = .ok (.ireturn, 1)) : Wr0 p l e ws fr lo s m av below meth c (bI b) (F0 m pc ls [.int v]) :=
  W.zret hx hb hr (by rw [hv]; exact bI_nar b) (fun t ht _ => ⟨v, rfl, hv, ht⟩) (fun _ h => by cases h) hdg hlocks
theorem rd_a {v r : Nat} {n : String} (hx : p.tables.exec = Jvm.exec) (hb : c.code = cc) (hr : meth.sig.returnType = some (.object n)) (hlocks : meth.locks = false) (hv : v = r) (hdg : decode cc pc = .ok (.areturn, 1)) : Wa0 p l e ws fr lo s m av below meth c r (F0 m pc ls [.ref v]) :=
  W.aret hx hb hr (Or.inl ⟨n, rfl⟩) (Or.inr ⟨v, rfl⟩) (fun t ht _ => ⟨by rw [hv], ht⟩) (fun _ h => by cases h) hdg hlocks
theorem wr_i {v r : Int32} (hx : p.tables.exec = Jvm.exec) (hb : c.code = cc) (hr : meth.sig.returnType = some .int) (hlocks : meth.locks = false) (hP : va_P D vwCl V' H) (hS : va_S (adr V) s.heap H locs) (hv : v = r) (hdg : decode cc pc = .ok (.ireturn, 1)) : Ww0 p l e ws fr lo s m av below meth c D V V' (some (.int r)) H locs (F0 m pc ls [.int v]) :=
  W.iret hx hb hr (fun t ht _ => ⟨by rw [hv], by rw [ht]; exact hP, hS.F ht⟩) hS.2.2 hdg hlocks
theorem wr_v (hx : p.tables.exec = Jvm.exec) (hb : c.code = cc) (hr : meth.sig.returnType = none) (hlocks : meth.locks = false) (hP : va_P D vwCl V' H) (hS : va_S (adr V) s.heap H locs) (hdg : decode cc pc = .ok (.return_, 1)) : Ww0 p l e ws fr lo s m av below meth c D V V' none H locs (F0 m pc ls []) :=
  W.vret hx hb hr (fun t ht _ => ⟨rfl, by rw [ht]; exact hP, hS.F ht⟩) hS.2.2 hdg hlocks
variable {y : MethodName} {wsc Ts : List Cond} {frc loc : Nat} {Vc Vc' V1 : va_W} {As : List Value} {C : String} {T : u_T} {N ci n nL maxL index b : Nat} {fs : List Value} {own : String} {bytes : ByteArray} {ret : Option FieldType} {lv : List (Nat × Value)}
theorem rd_bl {av : List Value} : FrameBlind (va_Pc av (fun U => va_P D vwCl V U.heap ∧ KK D cI cZ U)) := fun a U g mk q => by
  obtain ⟨q0, qP, qK⟩ := q
  exact ⟨q0, qP, va_K.moved (u := U) (U := U.calling g mk a) (Vm.Alike.refl U.vm) qK⟩
theorem wr_bl {av : List Value} : FrameBlind (va_Pc av (fun U => va_P D vwCl V U.heap ∧ KK D cI cZ U ∧ va_D (fun _ => True) V)) := fun a U g mk q => by
  obtain ⟨q0, qP, qK, qD⟩ := q
  exact ⟨q0, qP, va_K.moved (u := U) (U := U.calling g mk a) (Vm.Alike.refl U.vm) qK, qD⟩
/-- a call of a method that reads -/
theorem rd_call {r : Int32} (S : CallFix p m c cc nL s args Ts own) (hM : RdM l y wsc frc loc D cI cZ Vc (.ref b :: As) r) (cw : CallW R s args own C index y bytes maxL ret wsc (rmF frc loc) 0 0 n) (hP : va_P D vwCl Vc H) (hK : KK D cI cZ s) (he : Vc[0]? = some (b, .inr (ci, fs))) (hc : vwCl[ci]? = some (C, T, N)) (hn : As.length = n) (hl : lv_has ls nL lv) (hst : st0 = As.reverse ++ .ref b :: rest) (hW : (rest.map fun v => v.category).sum ≤ 8) (hdg : decode cc pc = .ok (.invokevirtual index, 3)) (hf : cells ≤ R.cells ∧ slots ≤ R.slots)
    (kk : W p l e R s m args below meth c H locs cells slots Q (F0 m (pc + 3) ls (.int r :: rest))) : W p l e R s m args below meth c H locs cells slots Q (F0 m pc ls st0) :=
  vp_callSi (W.runV S hM cw ⟨rd_bl, va_recv hK hP hc he, fun U hU hW => ⟨rfl, by rw [hU]; exact hP, va_K.moved hW.alike hK⟩⟩ rfl hn hl.1 hst (lv_room hW) hdg hf) (fun _ h => h ▸ kk)
/-- a call of a static method that reads nothing -/
theorem rd_callS {r : Int32} (S : CallFix p m c cc nL s args Ts own) (hM : RdM l y wsc frc loc D cI cZ [] As r) (cw : CallB R s args own index y bytes maxL ret wsc (rmF frc loc) 0 0 n ∧ (Cond.static y).before args s = true) (hK : KK D cI cZ s) (hn : As.length = n) (hl : lv_has ls nL lv) (hst : st0 = As.reverse ++ rest) (hW : (rest.map fun v => v.category).sum ≤ 8) (hdg : decode cc pc = .ok (.invokestatic index, 3)) (hf : cells ≤ R.cells ∧ slots ≤ R.slots)
    (kk : W p l e R s m args below meth c H locs cells slots Q (F0 m (pc + 3) ls (.int r :: rest))) : W p l e R s m args below meth c H locs cells slots Q (F0 m pc ls st0) :=
  vp_callSi (W.runS S hM cw ⟨rd_bl, fun U hU hW => ⟨rfl, fun k q h => by simp at h, va_K.moved hW.alike hK⟩⟩ rfl hn hl.1 hst (lv_room hW) hdg hf) (fun _ h => h ▸ kk)
/-- a call that answers with a cell, and reads alone -/
theorem rd_calla {r : Nat} (S : CallFix p m c cc nL s args Ts own) (hM : RdA l y wsc frc loc D cI cZ Vc (.ref b :: As) r) (cw : CallW R s args own C index y bytes maxL ret wsc (rmF frc loc) 0 0 n) (hP : va_P D vwCl Vc H) (hK : KK D cI cZ s) (he : Vc[0]? = some (b, .inr (ci, fs))) (hc : vwCl[ci]? = some (C, T, N)) (hn : As.length = n) (hl : lv_has ls nL lv) (hst : st0 = As.reverse ++ .ref b :: rest) (hW : (rest.map fun v => v.category).sum ≤ 8) (hdg : decode cc pc = .ok (.invokevirtual index, 3)) (hf : cells ≤ R.cells ∧ slots ≤ R.slots)
    (kk : W p l e R s m args below meth c H locs cells slots Q (F0 m (pc + 3) ls (.ref r :: rest))) : W p l e R s m args below meth c H locs cells slots Q (F0 m pc ls st0) := by
  intro T9 hT X
  obtain ⟨v, st₀, t, T', L, h0, X', hL, e1, ⟨hv, hh⟩, st⟩ := (W.runV S hM cw ⟨rd_bl, va_recv hK hP hc he, fun U hU hW => ⟨rfl, by rw [hU]; exact hP, va_K.moved hW.alike hK⟩⟩ rfl hn hl.1 hst (lv_room hW) hdg hf) T9 hT X
  cases hv
  obtain ⟨t2, a1, b1⟩ := kk T' (by rw [e1, hh, h0]) (Stand.forget X' (fun q h => (hL q h).elim))
  exact ⟨t2, st t2 a1, b1⟩
theorem vd_same {A : Nat → Prop} {V V1 : va_W} (hD : va_D A V) (h : V1.map Prod.fst = V.map Prod.fst) : va_D A V1 := by
  have key : ∀ (k : Nat) (q : Nat × va_E), V1[k]? = some q → ∃ e, V[k]? = some (q.1, e) := by
    intro k q hq
    have h1 : (V1.map Prod.fst)[k]? = some q.1 := by rw [List.getElem?_map, hq]; rfl
    rw [h, List.getElem?_map] at h1
    cases hv : V[k]? with
    | none => rw [hv] at h1; cases h1
    | some z =>
      rw [hv] at h1
      have h2 : z.1 = q.1 := Option.some.inj h1
      exact ⟨z.2, by rw [← h2]⟩
  refine ⟨fun i j p q hp hq hpq => ?_, fun k q hq => ?_⟩
  · obtain ⟨e1, h1⟩ := key i p hp
    obtain ⟨e2, h2⟩ := key j q hq
    exact hD.1 i j _ _ h1 h2 hpq
  · obtain ⟨e1, h1⟩ := key k q hq
    exact hD.2 k (q.1, e1) h1
/-- behind a call: the caller's other cells, and the callee's new ones -/
theorem wr_world {V0 : va_W} {A0 : Nat → Prop} {H1 : Heap} (hP : va_P D vwCl V0 H) (hD : va_D A0 V0) (isC isR perm : List Nat) (hC : isC.map (fun i => V0[i]?) = Vc.map some) (hdis : ∀ i ∈ isR, i ∉ isC) (hpm : perm.filterMap (fun i => (isR.filterMap (fun i => V0[i]?) ++ Vc')[i]?) = V1)
    (hk : ∀ q : Nat, q < H.size → ¬ adr Vc q → H1[q]? = H[q]?) (hP1 : va_P D vwCl Vc' H1) : va_P D vwCl V1 H1 := by
  have at' : ∀ {is : List Nat} {w : va_W}, is.map (fun i => V0[i]?) = w.map some → ∀ (k : Nat) (q : Nat × va_E), w[k]? = some q → ∃ i, is[k]? = some i ∧ V0[i]? = some q := by
    intro is w hs k q hq
    have h1 : (is.map (fun i => V0[i]?))[k]? = some (some q) := by rw [hs, List.getElem?_map, hq]; rfl
    rw [List.getElem?_map] at h1
    cases hi : is[k]? with
    | none => rw [hi] at h1; cases h1
    | some i => rw [hi] at h1; exact ⟨i, rfl, Option.some.inj h1⟩
  have hW : va_P D vwCl (isR.filterMap (fun i => V0[i]?) ++ Vc') H1 := by
    refine va_P.app (fun k q hq => ?_) hP1
    obtain ⟨i, h1, h2⟩ := List.mem_filterMap.mp (List.mem_of_getElem? hq)
    refine (hP i q h2).kept (hk q.1 ((hP i q h2).lt) ?_)
    rintro ⟨k2, e9, h⟩
    obtain ⟨j, h3, h4⟩ := at' hC k2 (q.1, e9) h
    have hij := hD.1 i j q (q.1, e9) h2 h4 rfl
    subst hij
    exact hdis i h1 (List.mem_of_getElem? h3)
  exact hW.sub perm hpm
theorem wr_free {V0 : va_W} {A0 : Nat → Prop} (hD : va_D A0 V0) (isC : List Nat) (hC : isC.map (fun i => V0[i]?) = Vc.map some) : ∀ q, adr Vc q → A0 q := by
  rintro q ⟨k, e9, h⟩
  have h1 : (isC.map (fun i => V0[i]?))[k]? = some (some (q, e9)) := by rw [hC, List.getElem?_map, h]; rfl
  rw [List.getElem?_map] at h1
  cases hi : isC[k]? with
  | none => rw [hi] at h1; cases h1
  | some i => rw [hi] at h1; exact hD.2 i (q, e9) (Option.some.inj h1)
/-- a call of a method that writes -/
theorem wr_call {V0 : va_W} {A0 : Nat → Prop} {ro : Option Value} (S : CallFix p m c cc nL s args Ts own) (hM : WrM l y wsc frc loc D cI cZ Vc Vc' (.ref b :: As) ro) (cw : CallW R s args own C index y bytes maxL ret wsc (rmF frc loc) 0 0 n) (hP : va_P D vwCl V0 H) (hK : KK D cI cZ s) (hD : va_D A0 V0) (hS : va_S A0 H0 H locs) (isC isR perm : List Nat) (hC : isC.map (fun i => V0[i]?) = Vc.map some) (hnc : va_nd isC = true) (hdis : ∀ i ∈ isR, i ∉ isC) (hpm : perm.filterMap (fun i => (isR.filterMap (fun i => V0[i]?) ++ Vc')[i]?) = V1) (hsame : V1.map Prod.fst = V0.map Prod.fst)
    (he : Vc[0]? = some (b, .inr (ci, fs))) (hc : vwCl[ci]? = some (C, T, N)) (hn : As.length = n) (hl : lv_has ls nL lv) (hst : st0 = As.reverse ++ .ref b :: rest) (hW : (rest.map fun v => v.category).sum ≤ 8) (hdg : decode cc pc = .ok (.invokevirtual index, 3)) (hf : cells ≤ R.cells ∧ slots ≤ R.slots)
    (kk : ∀ (H1 : Heap) (locs1 : List Loc), va_P D vwCl V1 H1 → va_D A0 V1 → va_S A0 H0 H1 locs1 → W p l e R s m args below meth c H1 locs1 cells slots Q (F0 m (pc + 3) ls (ro.toList ++ rest))) : W p l e R s m args below meth c H locs cells slots Q (F0 m pc ls st0) := by
  have hDc : va_D A0 Vc := hD.sub isC hnc hC
  have hPc : va_P D vwCl Vc H := hP.sub isC (by
    have : ∀ (is : List Nat) (w : va_W), is.map (fun i => V0[i]?) = w.map some → is.filterMap (fun i => V0[i]?) = w := by
      intro is
      induction is with
      | nil => intro w hw; cases w with
        | nil => rfl
        | cons _ _ => cases hw
      | cons i is ih => intro w hw; cases w with
        | nil => cases hw
        | cons q w =>
          have h1 : V0[i]? = some q := (List.cons.inj hw).1
          rw [List.filterMap_cons, h1]
          exact congrArg (q :: ·) (ih w (List.cons.inj hw).2)
    exact this isC Vc hC)
  have hA : ∀ q, adr Vc q → A0 q := wr_free hD isC hC
  intro T9 hT X
  obtain ⟨v, st₀, t, T', L, h0, X', hL, e1, ⟨hv, hp, hz, hk⟩, st⟩ := (W.runV S hM cw ⟨wr_bl, va_recv hK hPc hc he, fun U hU hW => ⟨rfl, by rw [hU]; exact hPc, va_K.moved hW.alike hK, hDc.weaken (fun _ _ _ _ => trivial)⟩⟩ rfl hn hl.1 hst (lv_room hW) hdg hf) T9 hT X
  cases hv
  rw [h0] at hz hk
  obtain ⟨t2, a1, b1⟩ := kk T'.heap (locs ++ L) (by rw [e1]; exact wr_world hP hD isC isR perm hC hdis hpm (fun q h1 h2 => hk q h1 h2) hp) (vd_same hD hsame)
    ⟨Nat.le_trans hS.1 (by rw [e1]; exact hz), fun q h1 h2 => by rw [e1, hk q (Nat.lt_of_lt_of_le h1 hS.1) (fun z => h2 (hA q z))]; exact hS.2.1 q h1 h2, fun q hq => by
      rcases List.mem_append.mp hq with h | h
      · exact hS.2.2 q h
      · exact hA _ (hL q h)⟩ T' rfl X'
  exact ⟨t2, st t2 a1, b1⟩
/-- array rows at a place that is a number -/
theorem ar_i {tys : List (ClassId × FieldType)} {a k : Nat} {f : Nat → Int32} (hx : p.tables.exec = Jvm.exec) (hb : c.code = cc) (hK : KK D cI cZ s) (hP : va_P D vwCl V H) (q0 : Nat) (ha : V[q0]? = some (a, .inl (cI, n, .inl f))) (hj : k < n) (hn : n < 2 ^ 31) (hdg : decode cc pc = .ok (.iaload, 1))
    (kk : W p l e R s m args below meth c H locs cells slots Q (F0 m (pc + 1) ls (.int (f k) :: rest))) : W p l e R s m args below meth c H locs cells slots Q (F0 m pc ls (.int (nI k) :: .ref a :: rest)) :=
  va_iald hx hb hK hP q0 0 ha rfl (vp_in_nI hj hn) hdg (by rw [nI_clamp (Nat.lt_trans hj hn)]; exact kk)
theorem ar_z {a k : Nat} {f : Nat → Int32} (hx : p.tables.exec = Jvm.exec) (hb : c.code = cc) (hK : KK D cI cZ s) (hP : va_P D vwCl V H) (q0 : Nat) (ha : V[q0]? = some (a, .inl (cZ, n, .inl f))) (hj : k < n) (hn : n < 2 ^ 31) (hdg : decode cc pc = .ok (.baload, 1))
    (kk : W p l e R s m args below meth c H locs cells slots Q (F0 m (pc + 1) ls (.int (f k) :: rest))) : W p l e R s m args below meth c H locs cells slots Q (F0 m pc ls (.int (nI k) :: .ref a :: rest)) :=
  va_zald hx hb hK hP q0 1 ha rfl (vp_in_nI hj hn) hdg (by rw [nI_clamp (Nat.lt_trans hj hn)]; exact kk)
theorem ar_is {a k : Nat} {f : Nat → Int32} {x : Int32} (hx : p.tables.exec = Jvm.exec) (hb : c.code = cc) (hK : KK D cI cZ s) (hP : va_P D vwCl V H) (hD : va_D A V) (hS : va_S A H0 H locs) (q0 : Nat) (ha : V[q0]? = some (a, .inl (cI, n, .inl f))) (hj : k < n) (hn : n < 2 ^ 31) (hdg : decode cc pc = .ok (.iastore, 1))
    (kk : ∀ (H1 : Heap) (locs1 : List Loc), va_P D vwCl (V.set q0 (a, .inl (cI, n, .inl (upd f k x)))) H1 → va_D A (V.set q0 (a, .inl (cI, n, .inl (upd f k x)))) → va_S A H0 H1 locs1 → W p l e R s m args below meth c H1 locs1 cells slots Q (F0 m (pc + 1) ls rest)) : W p l e R s m args below meth c H locs cells slots Q (F0 m pc ls (.int x :: .int (nI k) :: .ref a :: rest)) :=
  va_iast hx hb hK hP hD hS q0 0 ha rfl (vp_in_nI hj hn) hdg (by rw [nI_clamp (Nat.lt_trans hj hn)]; exact kk)
theorem ar_zs {a k : Nat} {f : Nat → Int32} {x : Int32} (hx : p.tables.exec = Jvm.exec) (hb : c.code = cc) (hK : KK D cI cZ s) (hP : va_P D vwCl V H) (hD : va_D A V) (hS : va_S A H0 H locs) (q0 : Nat) (ha : V[q0]? = some (a, .inl (cZ, n, .inl f))) (hj : k < n) (hn : n < 2 ^ 31) (hnar : vp_nar .boolean x = x) (hdg : decode cc pc = .ok (.bastore, 1))
    (kk : ∀ (H1 : Heap) (locs1 : List Loc), va_P D vwCl (V.set q0 (a, .inl (cZ, n, .inl (upd f k x)))) H1 → va_D A (V.set q0 (a, .inl (cZ, n, .inl (upd f k x)))) → va_S A H0 H1 locs1 → W p l e R s m args below meth c H1 locs1 cells slots Q (F0 m (pc + 1) ls rest)) : W p l e R s m args below meth c H locs cells slots Q (F0 m pc ls (.int x :: .int (nI k) :: .ref a :: rest)) :=
  va_zast hx hb hK hP hD hS q0 1 ha rfl (vp_in_nI hj hn) hdg (by rw [nI_clamp (Nat.lt_trans hj hn), hnar]; exact kk)
end FR
/-- an array's contents matter below its length alone -/
theorem ar_eq {cA : ClassId} {n : Nat} {f g : Nat → Int32} (h : ∀ j, j < n → f j = g j) : vp_cell cA (n, .inl f) = vp_cell cA (n, .inl g) := by
  rw [vp_cell_i, vp_cell_i]
  unfold arrV
  congr 1
  apply Array.ext
  · simp
  · intro i h1 h2
    simp only [Array.getElem_ofFn]
    rw [h i (by simpa using h1)]
theorem ar_sw {D : va_G} {V : va_W} {H : Heap} (hP : va_P D vwCl V H) (q0 : Nat) {a n : Nat} {cA : ClassId} {f g : Nat → Int32} (ha : V[q0]? = some (a, .inl (cA, n, .inl f))) (h : ∀ j, j < n → f j = g j) : va_P D vwCl (V.set q0 (a, .inl (cA, n, .inl g))) H := by
  intro k q hk
  by_cases e : q0 = k
  · subst e
    have hlt : q0 < V.length := (List.getElem?_eq_some_iff.mp ha).1
    rw [List.getElem?_set_self hlt] at hk
    cases hk
    show H[a]? = some (vp_cell cA (n, .inl g))
    rw [← ar_eq h]
    exact hP q0 _ ha
  · rw [List.getElem?_set_ne e] at hk
    exact hP k q hk
