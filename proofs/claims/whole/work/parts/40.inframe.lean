/-! what makes: constructors -/
abbrev rmI (fr lo mc ms : Nat) : Jvm.Room := { frames := fr, cells := mc, slots := ms, locals := lo }
abbrev inQ (D : va_G) {S : Type} (V : va_W) (VN : S → va_W) (sz : Nat) : Array Value → State → Outcome → State → Prop := va_Qv (fun _ : S => True) (fun u t => va_P D vwCl (VN u) t.heap ∧ va_D (va_A V sz) (VN u)) (va_A V sz)
def InM (l : Launch) (y : MethodName) (ws : List Cond) (fr lo mc ms : Nat) (D : va_G) (cI cZ : ClassId) (av : List Value) (V : va_W) {S : Type} (VN : S → va_W) : Prop :=
  ∀ sz : Nat, Met l y ws (rmI fr lo mc ms) (va_Pc av (fun U => U.heap.size = sz ∧ va_P D vwCl V U.heap ∧ KK D cI cZ U ∧ va_D (fun _ => True) V)) (inQ D V VN sz) mc ms (va_A V sz)
abbrev Wi0 (p : Program) (l : Launch) (e : Env) (ws : List Cond) (fr lo mc ms : Nat) (s : State) (m : MethodId) (av : List Value) (below : List Frame) (meth : Method) (c : Code) (D : va_G) {S : Type} (V : va_W) (VN : S → va_W) (H : Heap) (locs : List Loc) (cells slots : Nat) (g : JFrame) : Prop :=
  W p l e (headSpec ws (rmI fr lo mc ms)).room s m av.toArray below meth c H locs cells slots (MQ below (inQ D V VN s.heap.size) av.toArray s mc ms (va_A V s.heap.size)) g
theorem InM.of {l : Launch} {y : MethodName} {ws ws' : List Cond} {fr lo mc ms : Nat} {D : va_G} {cI cZ : ClassId} {V : va_W} {S : Type} {VN : S → va_W} {av : List Value} {cc : ByteArray} {maxL : Nat} {ret : Option FieldType}
    (hy : plainName y.cls = true) (hw : ws = Cond.code y cc maxL ret :: ws') (hlen : (lg_sl av).length ≤ maxL)
    (body : ∀ (p : Program) (e : Env) (s : State) (m : MethodId) (below : List Frame) (meth : Method) (c : Code), p.tables.exec = Jvm.exec → c.code = cc → meth.sig.returnType = ret → c.maxLocals = maxL → s.vm.findClass y.cls = some m.cls → (∀ w ∈ ws, w.before av.toArray s = true) → meth.locks = false → meth.name = y.name → va_P D vwCl V s.heap → KK D cI cZ s → va_D (va_A V s.heap.size) V → va_S (va_A V s.heap.size) s.heap s.heap [] → ∀ ls, lv_has ls maxL (lv_args 0 av) → Wi0 p l e ws fr lo mc ms s m av below meth c D V VN s.heap [] 0 0 (F0 m 0 ls [])) : InM l y ws fr lo mc ms D cI cZ av V VN := by
  intro sz
  refine Met.ofW (cc := cc) (maxL := maxL) (ret := ret) hy hw ?_
  intro p e s m args below meth c s₁ B hml hv
  obtain ⟨rfl, hsz, hP, hK, hD⟩ := hv
  subst hsz
  rw [lg_entry_eq]
  exact body p e s m below meth c B.exec B.bytes B.returns hml (findClass_of_methodNamed B.named) (atoms_spec (ws := ws) B.pre) B.notSynchronized (name_of_methodNamed B.named B.method).1 hP hK hD.self va_S.rf _ (lv_entry av hlen)
section FI
variable {p : Program} {l : Launch} {e : Env} {R : Jvm.Room} {s : State} {m : MethodId} {args : Array Value} {below : List Frame} {meth : Method} {c : Code} {H : Heap} {locs : List Loc} {cells slots : Nat} {Q : State → Prop}
variable {ws : List Cond} {fr lo mc ms : Nat} {av : List Value} {cc : ByteArray} {pc : Nat} {ls : Array Slot} {rest st0 : List Value} {D : va_G} {cI cZ : ClassId} {V : va_W} {A0 : Nat → Prop} {H0 : Heap} {S : Type} {VN : S → va_W}
theorem in_v (hx : p.tables.exec = Jvm.exec) (hb : c.code = cc) (hr : meth.sig.returnType = none) (hlocks : meth.locks = false) (u : S) (hP : va_P D vwCl (VN u) H) (hD : va_D (va_A V s.heap.size) (VN u)) (hS : va_S (va_A V s.heap.size) s.heap H locs) (h1 : cells ≤ mc) (h2 : slots ≤ ms) (hdg : decode cc pc = .ok (.return_, 1)) : Wi0 p l e ws fr lo mc ms s m av below meth c D V VN H locs cells slots (F0 m pc ls []) :=
  W.widen h1 h2 (W.vret hx hb hr (fun t ht _ => ⟨⟨u, rfl, trivial, by rw [ht]; exact hP, hD⟩, hS.F ht⟩) hS.2.2 hdg hlocks)
variable {y : MethodName} {wsc Ts : List Cond} {frc loc : Nat} {Vc wr V0 : va_W} {As : List Value} {n nL maxL index b : Nat} {own : String} {bytes : ByteArray} {lv : List (Nat × Value)}
theorem in_bl {av : List Value} {sz : Nat} : FrameBlind (va_Pc av (fun U => U.heap.size = sz ∧ va_P D vwCl V U.heap ∧ KK D cI cZ U ∧ va_D (fun _ => True) V)) := fun a U g mk q => by
  obtain ⟨q0, q1, qP, qK, qD⟩ := q
  exact ⟨q0, q1, qP, va_K.moved (u := U) (U := U.calling g mk a) (Vm.Alike.refl U.vm) qK, qD⟩
/-- a call of a constructor -/
theorem in_call (S9 : CallFix p m c cc nL s args Ts own) (hM : InM l y wsc frc loc mc ms D cI cZ (.ref b :: As) Vc VN) (cw : CallB R s args own index y bytes maxL none wsc (rmI frc loc mc ms) mc ms n ∧ y.name = "<init>" ∧ (Cond.instanceMethod y).before args s = true) (hP : va_P D vwCl V0 H) (hK : KK D cI cZ s) (hD : va_D A0 V0) (hS : va_S A0 H0 H locs) (hA : ∀ q, H0.size ≤ q → A0 q) (isC isR : List Nat) (hC : isC.map (fun i => V0[i]?) = Vc.map some) (hnc : va_nd isC = true) (hR : isR.map (fun i => V0[i]?) = wr.map some) (hnr : va_nd isR = true) (hdis : ∀ i ∈ isR, i ∉ isC)
    (hn : As.length = n) (hl : lv_has ls nL lv) (hst : st0 = As.reverse ++ .ref b :: rest) (hW : (rest.map fun v => v.category).sum ≤ 8) (hdg : decode cc pc = .ok (.invokespecial index, 3)) (hf : cells + mc ≤ R.cells ∧ slots + ms ≤ R.slots)
    (kk : ∀ (u : S) (H1 : Heap) (locs1 : List Loc), va_P D vwCl (wr ++ VN u) H1 → va_D A0 (wr ++ VN u) → va_S A0 H0 H1 locs1 → W p l e R s m args below meth c H1 locs1 (cells + mc) (slots + ms) Q (F0 m (pc + 3) ls rest)) : W p l e R s m args below meth c H locs cells slots Q (F0 m pc ls st0) := by
  have hDc : va_D A0 Vc := hD.sub isC hnc hC
  have hPc : va_P D vwCl Vc H := hP.sub isC (by
    have : ∀ (is : List Nat) (w : va_W), is.map (fun i => V0[i]?) = w.map some → is.filterMap (fun i => V0[i]?) = w := by
      intro is
      induction is with
      | nil => intro w hw; cases w with
        | nil => rfl
        | cons _ _ => cases hw
      | cons i is ih => intro w hw; cases w with
        | nil => cases hw
        | cons q w =>
          have h1 : V0[i]? = some q := (List.cons.inj hw).1
          rw [List.filterMap_cons, h1]
          exact congrArg (q :: ·) (ih w (List.cons.inj hw).2)
    exact this isC Vc hC)
  have hFc := va_free (wc := Vc) hD hS hA isC hC
  refine va_callv (va_runI (As := As) (rest := rest) S9 (hM H.size) cw ⟨in_bl, fun U hU hW => ⟨rfl, by rw [hU], by rw [hU]; exact hPc, va_K.moved hW.alike hK, hDc.weaken (fun _ _ _ _ => trivial)⟩⟩ rfl hn hl.1 hst (lv_room hW) hdg hf) hS (fun q _ h => hFc q h) hFc (fun u t H1 locs ht hvm hw hB hz1 hk1 hS => ?_)
  obtain ⟨hP1, hD1⟩ := hB
  rw [ht] at hP1
  obtain ⟨hP, hD⟩ := va_join hP hD isC isR hC hR hnr hdis hk1 hFc hP1 hD1
  exact kk u H1 locs hP hD hS
theorem KK_I {cA : ClassId} (hK : KK D cI cZ s) (h : va_K D vwCl ([(cI, .int), (cZ, .boolean)] ++ [(cA, .int)]) s) : cA = cI := by
  have h1 := (h.2 2 _ rfl).2
  have h2 := (hK.2 0 _ rfl).2
  exact Option.some.inj (h1.symm.trans h2)
theorem KK_Z {cA : ClassId} (hK : KK D cI cZ s) (h : va_K D vwCl ([(cI, .int), (cZ, .boolean)] ++ [(cA, .boolean)]) s) : cA = cZ := by
  have h1 := (h.2 2 _ rfl).2
  have h2 := (hK.2 1 _ rfl).2
  exact Option.some.inj (h1.symm.trans h2)
theorem ar_ni {k : Nat} {x : Int32} (hx : p.tables.exec = Jvm.exec) (hb : c.code = cc) (harr : (Cond.arrayClass .int).before args s = true) (hK : KK D cI cZ s) (hP : va_P D vwCl V0 H) (hD : va_D A0 V0) (hS : va_S A0 H0 H locs) (hA : ∀ q, H0.size ≤ q → A0 q) (hk : x = nI k) (hk2 : k < 1000) (hcells : cells + 1 ≤ R.cells) (hslots : slots + k ≤ R.slots) (hdg : decode cc pc = .ok (.newarray .int, 2))
    (kk : ∀ (q : Nat) (H1 : Heap), va_P D vwCl (V0 ++ [(q, .inl (cI, k, .inl (fun _ => 0)))]) H1 → va_D A0 (V0 ++ [(q, .inl (cI, k, .inl (fun _ => 0)))]) → va_S A0 H0 H1 locs → W p l e R s m args below meth c H1 locs (cells + 1) (slots + k) Q (F0 m (pc + 2) ls (.ref q :: rest))) : W p l e R s m args below meth c H locs cells slots Q (F0 m pc ls (.int x :: rest)) := by
  subst hk
  refine va_newa (atype := .int) (ty := .int) (a0 := (k, .inl (fun _ => 0))) hx hb harr rfl hK hP hD hS hA (fun cA => vp_cell_i cA k (fun _ => 0)) (nI_pos (by omega)) (nI_clamp (by omega)) ?_ hcells hslots hdg (fun q cA H1 hK1 hP1 hD1 hS1 => ?_)
  · show k * 4 ≤ 536870912
    omega
  · have e := KK_I hK hK1
    subst e
    exact kk q H1 hP1 hD1 hS1
theorem ar_nz {k : Nat} {x : Int32} (hx : p.tables.exec = Jvm.exec) (hb : c.code = cc) (harr : (Cond.arrayClass .boolean).before args s = true) (hK : KK D cI cZ s) (hP : va_P D vwCl V0 H) (hD : va_D A0 V0) (hS : va_S A0 H0 H locs) (hA : ∀ q, H0.size ≤ q → A0 q) (hk : x = nI k) (hk2 : k < 1000) (hcells : cells + 1 ≤ R.cells) (hslots : slots + k ≤ R.slots) (hdg : decode cc pc = .ok (.newarray .boolean, 2))
    (kk : ∀ (q : Nat) (H1 : Heap), va_P D vwCl (V0 ++ [(q, .inl (cZ, k, .inl (fun _ => 0)))]) H1 → va_D A0 (V0 ++ [(q, .inl (cZ, k, .inl (fun _ => 0)))]) → va_S A0 H0 H1 locs → W p l e R s m args below meth c H1 locs (cells + 1) (slots + k) Q (F0 m (pc + 2) ls (.ref q :: rest))) : W p l e R s m args below meth c H locs cells slots Q (F0 m pc ls (.int x :: rest)) := by
  subst hk
  refine va_newa (atype := .boolean) (ty := .boolean) (a0 := (k, .inl (fun _ => 0))) hx hb harr rfl hK hP hD hS hA (fun cA => vp_cell_i cA k (fun _ => 0)) (nI_pos (by omega)) (nI_clamp (by omega)) ?_ hcells hslots hdg (fun q cA H1 hK1 hP1 hD1 hS1 => ?_)
  · show k * 1 ≤ 536870912
    omega
  · have e := KK_Z hK hK1
    subst e
    exact kk q H1 hP1 hD1 hS1
end FI
