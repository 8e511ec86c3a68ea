/-! CALLS OF METHODS THAT MAY THROW, AND THEIR CATCHING; methods with a table of handlers -/
/-! the search for a handler: the classes that its rows name may be resolved on the way -/
theorem xg_step {Q : Handler → Pre} {E : CtlPost} {e : Env} {d : Bool} {acts : List Action} {s : State} {f : JFrame} {a : Addr} {z : ExceptionTableEntry} {t : List ExceptionTableEntry} {k : ClassId} {cell : Cell} (hz : covers z f.pc = true) (h0 : z.catchType ≠ 0)
    (hl : s.vm.ClassLinks e.platform f.method.cls z.catchType k) (hcell : s.heap[a]? = some cell) (hobj : ∀ i, cell.vm ≠ .statics i) (hk : ∃ i, s.vm.classes[cell.cls]? = some i) (hc : ∃ i, s.vm.classes[k]? = some i) :
    wp (findHandler.go f a (z :: t)) Q E e d acts s ↔ if s.vm.assignable cell.cls k = true then Q (.found z.handlerPc) d acts (s.setVm (s.vm.noted f.method.cls z.catchType (.cls k))) else wp (findHandler.go f a t) Q E e d acts (s.setVm (s.vm.noted f.method.cls z.catchType (.cls k))) := by
  simp only [covers] at hz
  have al : s.vm.Alike (s.vm.noted f.method.cls z.catchType (.cls k)) := (Vm.Alike.refl s.vm).noted _ _ _
  obtain ⟨r1, r2⟩ := (resolveClass_links e.toSetting hl).op (op := VmOp.resolveClass f.method.cls z.catchType) rfl
  obtain ⟨i1, j1⟩ := hk
  obtain ⟨i2, j2⟩ := hc
  obtain ⟨i3, j3, -⟩ := al.2.2 _ _ j1
  obtain ⟨i4, j4, -⟩ := al.2.2 _ _ j2
  have ea : (s.vm.noted f.method.cls z.catchType (.cls k)).assignable cell.cls k = s.vm.assignable cell.cls k := by rw [al.assignable]
  cases hfit : s.vm.assignable cell.cls k <;> rw [hfit] at ea <;> simp [findHandler.go, hz, h0, r1, r2, hcell, hobj, j3, j4, ea, VmOp.dirties, VmOp.acts]
theorem xg_warm {s₀ S : State} {pl : Platform} {d j k : Nat} (hW : s₀.WarmedH S.vm) (hl : s₀.vm.ClassLinks pl d j k) : s₀.WarmedH (S.vm.noted d j (.cls k)) ∧ S.vm.ClassLinks pl d j k ∧ ∃ i, S.vm.classes[k]? = some i := by
  obtain ⟨dk, _, _, kt, hd, _, _, _, _, hkt, _, hopen⟩ := hl.here
  obtain ⟨i, hi, -⟩ := hW.alike.2.2 _ _ hkt
  exact ⟨hW.noted hd hopen (State.rightAt_cls hl), hW.classLinks hl, i, hi⟩
theorem xg_find {e : Env} {s₀ : State} {f : JFrame} {a : Addr} {cell : Cell} (hobj : ∀ i, cell.vm ≠ .statics i) (hk : ∃ i, s₀.vm.classes[cell.cls]? = some i) (x : ExceptionTableEntry) (suf : List ExceptionTableEntry) (hx : covers x f.pc = true) (h0 : x.catchType ≠ 0) {k : ClassId}
    (hl : s₀.vm.ClassLinks e.platform f.method.cls x.catchType k) (hfit : s₀.vm.assignable cell.cls k = true) : ∀ (pre : List ExceptionTableEntry) (S : State), s₀.WarmedH S.vm → S.heap[a]? = some cell →
      (∀ z ∈ pre, z.catchType ≠ 0 ∧ ∃ i, s₀.vm.ClassLinks e.platform f.method.cls z.catchType i ∧ s₀.vm.assignable cell.cls i = false) →
      ∃ vm', s₀.WarmedH vm' ∧ ∀ (Q : Handler → Pre) (E : CtlPost) (d : Bool) (acts : List Action), wp (findHandler.go f a (pre ++ x :: suf)) Q E e d acts S ↔ Q (.found x.handlerPc) d acts (S.setVm vm') := by
  obtain ⟨kc, hkc⟩ := hk
  intro pre
  induction pre with
  | nil =>
    intro S hW hcell _
    obtain ⟨w1, w2, w3⟩ := xg_warm hW hl
    obtain ⟨i, hi, -⟩ := hW.alike.2.2 _ _ hkc
    refine ⟨_, w1, fun Q E d acts => ?_⟩
    rw [List.nil_append, xg_step hx h0 w2 hcell hobj ⟨i, hi⟩ w3, if_pos (by rw [hW.alike.assignable]; exact hfit)]
  | cons z zs ih =>
    intro S hW hcell hp
    obtain ⟨i, hi, -⟩ := hW.alike.2.2 _ _ hkc
    have hp' := fun y hy => hp y (List.mem_cons_of_mem _ hy)
    by_cases hcov : covers z f.pc = true
    · obtain ⟨z0, n, hln, hno⟩ := hp z List.mem_cons_self
      obtain ⟨w1, w2, w3⟩ := xg_warm hW hln
      obtain ⟨vm', v1, v2⟩ := ih (S.setVm (S.vm.noted f.method.cls z.catchType (.cls n))) w1 hcell hp'
      refine ⟨vm', v1, fun Q E d acts => ?_⟩
      rw [List.cons_append, xg_step hcov z0 w2 hcell hobj ⟨i, hi⟩ w3, if_neg (by rw [hW.alike.assignable, hno]; decide)]
      exact v2 Q E d acts
    · obtain ⟨vm', v1, v2⟩ := ih S hW hcell hp'
      refine ⟨vm', v1, fun Q E d acts => ?_⟩
      rw [List.cons_append, Jvm.W.findHandler_go_skip (by simpa using hcov)]
      exact v2 Q E d acts
theorem xg_is {e : Env} {S : State} {a : Addr} {f : JFrame} {r : List Frame} {pc : Nat} {vm' : Vm} (hf : ∀ (Q : Handler → Pre) (E : CtlPost) (d : Bool) (acts : List Action), wp (findHandler f a) Q E e d acts S ↔ Q (.found pc) d acts (S.setVm vm')) :
    (stepThrowing e S a (.java f :: r)).Is ((S.setVm vm').setFrames (.java { f with pc := pc, stack := [.ref a] } :: r)) [] := by
  simp only [stepThrowing, searchFrame, vmDo]
  generalize hr : Sem.go _ e false [] S = res
  obtain ⟨as, rfl, ha⟩ := Sem.eq_ok_of hr (a := Handler.found pc) (s' := S.setVm vm') (acts' := []) (by simp [hf _ _ _ _])
  exact ⟨rfl, ha⟩
theorem xg_caught {tb : Tables} {e : Env} {s target : State} {g : JFrame} {c : Code} {below : List Frame} {a : Addr} {pc : Nat} {vm' : Vm} (h : At s g.method c below)
    (hf : ∀ (Q : Handler → Pre) (E : CtlPost) (d : Bool) (acts : List Action), wp (findHandler g a) Q E e d acts ((s.setTop g).pushFrame (.throwing a)) ↔ Q (.found pc) d acts (((s.setTop g).pushFrame (.throwing a)).setVm vm'))
    (hrest : Steps tb e below ((s.setVm vm').setTop { g with pc := pc, stack := [.ref a] }) target) : Steps tb e below ((s.setTop g).pushFrame (.throwing a)) target := by
  obtain ⟨hgo, hw⟩ := h.throwing a
  refine Steps.head hgo hw ?_
  rw [stepThread_throwing (frames_entered h.top _), (xg_is (S := (s.setTop g).pushFrame (.throwing a)) hf).1]
  obtain ⟨g₀, hg⟩ := Option.isSome_iff_exists.mp h.top
  obtain ⟨r, hr⟩ := State.topJava?_eq_some.mp hg
  have hr' : (s.setVm vm').frames = .java g₀ :: r := hr
  rw [State.setTop_of_frames _ hr'] at hrest
  rw [State.pushFrame, State.setTop_of_frames _ hr, State.setFrames_setFrames, hr, List.tail_cons]
  show Steps tb e below (((s.setVm vm').setFrames _).setFrames _) target
  rw [State.setFrames_setFrames]
  exact hrest
section XB
variable {p : Program} {l : Launch} {e : Env} {R : Room} {s : State} {m : MethodId} {args : Array Value} {below : List Frame} {meth : Method} {c : Code} {y : MethodName} {ws : List Cond} {rm : Room} {Pc : Array Value → State → Prop} {Qc : Array Value → State → Outcome → State → Prop} {XC : String → State → State → Prop} {mc ms : Nat} {free : Addr → Prop}
/-- the two ways back from a call of y at a point of the walk -/
theorem x_back {U : State} {Ls : List Loc} {c0 s0 : Nat} {g : JFrame} {ig : Instr} {mk : MethodId} {a : Array Value} {bytes : ByteArray} {maxL : Nat} {ret : Option FieldType}
    (hM : xMet l y ws rm Pc Qc XC mc ms free) (hblind : FrameBlind Pc) (hrc : rm.cells = mc) (hrs : rm.slots = ms) (hframes : rm.frames + 1 ≤ R.frames) (hlocals : 8 + (maxL + 11) + rm.locals ≤ R.locals)
    (hws : ∀ w ∈ ws, w.before a U = true) (hcode : (Cond.code y bytes maxL ret).before a U = true) (hini : (Cond.initialized y.cls).before a U = true)
    (X : Stand p l e R s m args below meth c U Ls c0 s0) (hg : g.method = m) (hsize : g.locals.size = c.maxLocals) (hdg : decode c.code g.pc = .ok (ig, 3)) (hW : 2 * g.monitorRoom + (g.stack.map fun v => v.category).sum ≤ 8)
    (hn : U.methodNamed? y = some mk) (hc0 : c0 + mc ≤ R.cells) (hs0 : s0 + ms ≤ R.slots) (hPc : Pc a U) :
    (∃ (v : Option Value) (U' t : State) (L : List Loc), Stand p l e R s m args below meth c U' (Ls ++ L) (c0 + mc) (s0 + ms) ∧ U'.heap = t.heap ∧ U'.vm = t.vm ∧ Qc a (U.calling g mk a) (.returned v) t ∧ (∀ q ∈ L, free q.base) ∧
      Steps p.tables e below (doInvoke e (U.setTop g) [] mk a).1 (U'.setTop { g with pc := g.pc + 3, stack := v.toList ++ g.stack })) ∨
    (∃ (q : Addr) (E : String) (ce : Cell) (U' t : State) (L : List Loc), Stand p l e R s m args below meth c U' (Ls ++ L) (c0 + mc) (s0 + ms) ∧ U'.heap = t.heap ∧ U'.vm = t.vm ∧ XC E (U.calling g mk a) t ∧ t.heap[q]? = some ce ∧ ce.vm = .none ∧ U.vm.findClass E = some ce.cls ∧ (∀ z ∈ L, free z.base) ∧
      Steps p.tables e below (doInvoke e (U.setTop g) [] mk a).1 ((U'.setTop g).pushFrame (.throwing q))) := by
  obtain ⟨methY, cY, hmY, hcY, -, hlY, -, -, -, -⟩ := Cond.code_spec hn hcode
  obtain ⟨kY, hkY, -⟩ := className_of_methodNamed hn
  have hiY : kY.init = .initialized := Cond.initialized_spec (findClass_of_methodNamed hn) hkY hini
  have hat : At U g.method c below := by rw [hg]; exact X.here
  have hroom := X.room_calling (g := g) (args' := a) (R' := (headSpec ws rm).room) hsize hmY hcY hframes (by rw [hlY]; show _ + (maxL + 11) + rm.locals ≤ R.locals; omega) (by show c0 + rm.cells ≤ R.cells; omega) (by show s0 + rm.slots ≤ R.slots; omega)
  have happ : (headSpec ws rm).appliesLoose y e.platform (U.calling g mk a) = true := Spec.appliesLoose_calling (g := g) hat hdg hn hkY hiY hroom (atoms_intro hws)
  obtain ⟨mid, hmid⟩ := hat.above
  have hfr : (U.setTop g).frames = (.java g :: mid) ++ below := by rw [State.frames_setTop' g hat.top, hmid]; rfl
  obtain ⟨o, s2, hsteps, -, hend, hq⟩ := Steps.callFree hM p X.admits X.cas X.clock (acts := []) hfr happ (hblind _ _ _ _ hPc) trivial
  have hq : xQ Qc XC mc ms free a (U.calling g mk a) o s2 := hq
  rw [State.frames_setTop' g hat.top] at hend
  obtain ⟨g0, hg0⟩ := Option.isSome_iff_exists.mp hat.top
  obtain ⟨r, hr⟩ := State.topJava?_eq_some.mp hg0
  -- the state behind the call, but for its frames
  have build : ∀ (L : List Loc), (U.calling g mk a).WarmedH s2.vm → (U.calling g mk a).sameButNew ({ s2 with vm := (U.calling g mk a).vm } : State) L mc ms →
      Stand p l e R s m args below meth c (({ U with heap := s2.heap, slotsUsed := s2.slotsUsed } : State).setVm s2.vm) (Ls ++ L) (c0 + mc) (s0 + ms) ∧ s2 = ({ (U.calling g mk a).setFrames s2.frames with heap := s2.heap, slotsUsed := s2.slotsUsed } : State).setVm s2.vm := by
    intro L hW2 hsm
    obtain ⟨e2, q2, q3, q4, q5, q6⟩ := hsm
    have hW' : U.WarmedH s2.vm := hW2
    have hsame : U.sameButNew ({ U with heap := s2.heap, slotsUsed := s2.slotsUsed } : State) L mc ms := by
      refine ⟨?_, q2, q3, q4, q5, q6⟩
      obtain ⟨t, ht, -⟩ := State.frames_cons hr
      show ({ U with heap := s2.heap, slotsUsed := s2.slotsUsed } : State) = { U.setFrames U.frames with heap := s2.heap, slotsUsed := s2.slotsUsed }
      rw [State.setFrames_self ht]
    refine ⟨⟨X.admits, X.cas, X.clock, X.frames, X.room, X.hears, X.method, X.code, (X.here.setHeapUsed s2.heap s2.slotsUsed).setVm hW'.alike, X.tail, State.WarmedH.trans X.warmed hW', X.limits, X.bytes, X.same.trans (hsame.setVm s.vm)⟩, ?_⟩
    have h1 : s2 = ({ s2 with vm := (U.calling g mk a).vm } : State).setVm s2.vm := rfl
    rw [e2] at h1
    exact h1
  have hr' : (({ U with heap := s2.heap, slotsUsed := s2.slotsUsed } : State).setVm s2.vm).frames = .java g0 :: r := hr
  rcases hq with ⟨hqc, L, ⟨⟨v, rfl⟩, hW2, hsm⟩, hL⟩ | ⟨q, E, ce, L, rfl, hXC, hce, hcv, hcl, hW2, hsm, hL⟩
  · obtain ⟨X', e3⟩ := build L hW2 hsm
    obtain ⟨c2, i2, len2, hc2, hd2, hf2⟩ := hend
    have hW' : U.WarmedH s2.vm := hW2
    have hcc : c2 = c := by
      have h1 : s2.code? g.method = U.code? g.method := by rw [State.code?_eq, State.code?_eq, hW'.alike.method?]
      exact Option.some.inj (hc2.symm.trans (h1.trans hat.code))
    subst hcc
    have hlen : len2 = 3 := by rw [hdg] at hd2; cases hd2; rfl
    subst hlen
    refine Or.inl ⟨v, _, s2, L, X', rfl, rfl, hqc, hL, ?_⟩
    have hs2 : s2 = (({ U with heap := s2.heap, slotsUsed := s2.slotsUsed } : State).setVm s2.vm).setTop { g with pc := g.pc + 3, stack := v.toList ++ g.stack } := by
      refine e3.trans ?_
      rw [hf2, State.calling_eq hat.top, State.setFrames_setFrames, State.setTop_of_frames _ hr', hr]
      rfl
    rw [← hs2]
    exact hsteps
  · obtain ⟨X', e3⟩ := build L hW2 hsm
    have hf2 : s2.frames = .throwing q :: .java g :: U.frames.tail := hend
    refine Or.inr ⟨q, E, ce, _, s2, L, X', rfl, rfl, hXC, hce, hcv, hcl, hL, ?_⟩
    have hs2 : s2 = ((({ U with heap := s2.heap, slotsUsed := s2.slotsUsed } : State).setVm s2.vm).setTop g).pushFrame (.throwing q) := by
      refine e3.trans ?_
      rw [hf2, State.calling_eq hat.top, State.setFrames_setFrames, State.pushFrame, State.frames_setTop _ hr', State.setTop_of_frames _ hr', State.setFrames_setFrames, hr]
      rfl
    rw [← hs2]
    exact hsteps
end XB
section XR
variable {p : Program} {l : Launch} {e : Env} {R : Room} {s : State} {m : MethodId} {args : Array Value} {below : List Frame} {meth : Method} {c : Code} {H : Heap} {locs : List Loc} {cells slots : Nat} {Q : State → Prop} {y : MethodName} {bytes cc : ByteArray} {maxL nL mc ms n index : Nat} {ret : Option FieldType} {ws : List Cond} {rm : Room} {Pc : Array Value → State → Prop} {Qc : Array Value → State → Outcome → State → Prop} {XC : String → State → State → Prop} {free : Addr → Prop} {Ts : List Cond} {own C : String} {b : Addr} {As rest : List Value} {g : JFrame}
/-- a thrown object over the frame g -/
def xW (p : Program) (l : Launch) (e : Env) (R : Room) (s : State) (m : MethodId) (args : Array Value) (below : List Frame) (meth : Method) (c : Code) (H : Heap) (locs : List Loc) (cells slots : Nat) (Q : State → Prop) (g : JFrame) (q : Addr) : Prop :=
  ∀ T : State, T.heap = H → Stand p l e R s m args below meth c T locs cells slots → ∃ t, Steps p.tables e below ((T.setTop g).pushFrame (.throwing q)) t ∧ Q t
theorem x_runV (S : CallFix p m c cc nL s args Ts own) (hM : xMet l y ws rm Pc Qc XC mc ms free) (cw : CallW R s args own C index y bytes maxL ret ws rm mc ms n) (hp : PreV s H C b Pc As)
    (hg : g.method = m) (hn : As.length = n) (hsize : g.locals.size = nL) (hstack : g.stack = As.reverse ++ .ref b :: rest) (hW : 2 * g.monitorRoom + (rest.map fun v => v.category).sum ≤ 8) (hdg : decode cc g.pc = .ok (.invokevirtual index, 3)) (hf : cells + mc ≤ R.cells ∧ slots + ms ≤ R.slots)
    (kr : ∀ (v : Option Value) (st0 t : State) (L : List Loc), st0.heap = H → s.vm.Alike t.vm → Qc (Value.ref b :: As).toArray st0 (.returned v) t → (∀ q ∈ L, free q.base) → W p l e R s m args below meth c t.heap (locs ++ L) (cells + mc) (slots + ms) Q { g with pc := g.pc + 3, stack := v.toList ++ rest })
    (kx : ∀ (q : Addr) (E : String) (ce : Cell) (st0 t : State) (L : List Loc), st0.heap = H → s.vm.Alike t.vm → XC E st0 t → t.heap[q]? = some ce → ce.vm = .none → s.vm.findClass E = some ce.cls → (∀ z ∈ L, free z.base) → xW p l e R s m args below meth c t.heap (locs ++ L) (cells + mc) (slots + ms) Q { g with stack := rest } q) :
    W p l e R s m args below meth c H locs cells slots Q g := by
  obtain ⟨⟨hrc, hrs, hfr, hlo, hws, hcw, hcode, hini, hy, hlen, hl⟩, hin, hse⟩ := cw
  obtain ⟨hx, hb, hml, ho, -⟩ := S
  obtain ⟨hbl, ⟨cellB, hcB, hoB, hclB⟩, hPc⟩ := hp
  intro T hT X
  obtain ⟨mk, methM, hnamed, hmethM, hstM, habM⟩ := Cond.instanceMethod_spec hin
  obtain ⟨methM', cM, hmethM', -, -, -, -, -, -, hsigM⟩ := Cond.code_spec hnamed hcode
  cases hmethM.symm.trans hmethM'
  obtain ⟨c2, r2, m2, q1, q2, q3, q4, kP, hkP, hkPi⟩ := Cond.selects_spec hse
  cases hclB.symm.trans q1
  cases (State.methodFound?_of_named hnamed hy).symm.trans q2
  cases hnamed.symm.trans q3
  have hselP : selectMethod e.platform s.vm cellB.cls mk = .method mk := by rw [Launch.admits_selectMethod X.admits]; exact q4
  obtain ⟨vm1, X1, hstep1⟩ := X.invokevirtual hx ho hl hnamed hmethM hstM hkP hkPi hy (a := b) (cell := cellB) (by rw [hT]; exact hcB) (fun z h => by rw [h] at hoB; cases hoB) hselP hmethM habM hkP hkPi (g := g) hg (argsL := As) (rest := rest) (hn.trans (hlen _ hsigM)) hstack (by rw [hb]; exact hdg)
  have hkeep : (Cond.initialized y.cls).before (Value.ref b :: As).toArray (T.setVm vm1) = true := word_at (U := T.setVm vm1) X1.warmed (Or.inl (by first | rfl | simp [Cond.onTables, Cond.keeps, Cond.steady])) hini
  have two := x_back (a := (Value.ref b :: As).toArray) (g := { g with stack := rest }) (mk := mk) hM hbl hrc hrs hfr hlo (fun w hw => hws w hw _ _ X1.warmed) (hws _ hcw _ (T.setVm vm1) X1.warmed) hkeep X1 hg (hsize.trans hml.symm) (by rw [hb]; exact hdg) hW (X1.named hnamed) hf.1 hf.2 (hPc (T.setVm vm1) hT X1.warmed)
  rcases two with ⟨v, U', t, L, X', e1, e2, hq, hL, st⟩ | ⟨q, E, ce, U', t, L, X', e1, e2, hq, hce, hcv, hcl, hL, st⟩
  · obtain ⟨t2, a1, b1⟩ := kr v ((T.setVm vm1).calling { g with stack := rest } mk (Value.ref b :: As).toArray) t L hT (by rw [← e2]; exact X'.warmed.alike) hq hL U' e1 X'
    exact ⟨t2, hstep1 _ (fun acts => by rw [doInvoke_state]; exact st.trans a1), b1⟩
  · have hcl' : s.vm.findClass E = some ce.cls := by rw [← X1.warmed.alike.findClass]; exact hcl
    obtain ⟨t2, a1, b1⟩ := kx q E ce ((T.setVm vm1).calling { g with stack := rest } mk (Value.ref b :: As).toArray) t L hT (by rw [← e2]; exact X'.warmed.alike) hq hce hcv hcl' hL U' e1 X'
    exact ⟨t2, hstep1 _ (fun acts => by rw [doInvoke_state]; exact st.trans a1), b1⟩
/-- caught by the row x; the rows ahead name classes that it isn't of -/
theorem x_catch {pc : Nat} {ls : Array Slot} {E name : String} {ce : Cell} {q : Addr} (hown : s.vm.findClass own = some m.cls) (pre : List ExceptionTableEntry) (x : ExceptionTableEntry) (suf : List ExceptionTableEntry) (hsplit : c.exceptionTable.toList = pre ++ x :: suf)
    (hpass : ∀ z ∈ pre, z.catchType ≠ 0 ∧ ∃ nm : String, (Cond.classLink own z.catchType nm).before args s = true ∧ va_Nc E nm s) (hx : covers x pc = true) (h0 : x.catchType ≠ 0)
    (hlink : (Cond.classLink own x.catchType name).before args s = true) (hcast : (Cond.castable E name).before args s = true) (hcell : H[q]? = some ce) (hv : ce.vm = .none) (hcl : s.vm.findClass E = some ce.cls)
    (kk : W p l e R s m args below meth c H locs cells slots Q (F0 m x.handlerPc ls [.ref q])) : xW p l e R s m args below meth c H locs cells slots Q (F0 m pc ls rest) q := by
  intro T hT X
  have hpl : e.platform.magicAccessors = ({} : Platform).magicAccessors := by rw [X.admits.platform]
  obtain ⟨cE, cN, hcE, hcN, hasg⟩ := Cond.castable_spec hcast
  have ee : cE = ce.cls := Option.some.inj (hcE.symm.trans hcl)
  subst ee
  obtain ⟨cL, hcL, hl⟩ := Cond.classLink_spec hown hlink e.platform hpl
  have eL : cL = cN := Option.some.inj (hcL.symm.trans hcN)
  subst eL
  obtain ⟨_, _, _, kt, _, _, _, _, _, hkt, _, _⟩ := hl.here
  have hk0 := Vm.classAt_of_assignable hasg ⟨kt, hkt⟩
  obtain ⟨vm', hW', hf⟩ := xg_find (e := e) (s₀ := s) (f := F0 m pc ls rest) (a := q) (cell := ce) (fun i h => by rw [hv] at h; cases h) hk0 x suf hx h0 hl hasg pre ((T.setTop (F0 m pc ls rest)).pushFrame (.throwing q)) (by rw [Stand.throwing_vm]; exact X.warmed) (by rw [Stand.throwing_heap, hT]; exact hcell)
    (fun z hz => by
      obtain ⟨z0, nm, hl1, a8, b8, h1, h2, h3⟩ := hpass z hz
      obtain ⟨c6, hc6, hcl6⟩ := Cond.classLink_spec hown hl1 e.platform hpl
      have e1 : a8 = ce.cls := Option.some.inj (h1.symm.trans hcl)
      have e2 : b8 = c6 := Option.some.inj (h2.symm.trans hc6)
      subst e1; subst e2
      exact ⟨z0, _, hcl6, h3⟩)
  obtain ⟨t, a1, b1⟩ := kk (T.setVm vm') hT (X.noted hW')
  exact ⟨t, xg_caught X.here (fun Q E d acts => by rw [Jvm.W.findHandler_eq (meth := meth) (code := c) X.method' X.code, hsplit]; exact hf Q E d acts) a1, b1⟩
end XR
/-- a contract of a method with handlers -/
theorem mt_with {l : Launch} {y : MethodName} {ws ws' : List Cond} {rm : Room} {Pc : Array Value → State → Prop} {Qc : Array Value → State → Outcome → State → Prop} {mc ms : Nat} {free : Addr → Prop} {cc : ByteArray} {maxL : Nat} {ret : Option FieldType} {hh : List (Nat × Nat × Nat × Nat)} (hy : plainName y.cls = true) (hw : ws = Cond.codeWith y cc maxL ret hh :: ws')
    (hbody : ∀ p e s m args below meth c s₁, BodyLoose p l y (headSpec ws rm) cc maxL ret e s m args below meth c s₁ → c.maxLocals = maxL → c.exceptionTable.toList.map (fun h => (h.startPc, h.endPc, h.handlerPc, h.catchType)) = hh → Pc args s → W p l e (headSpec ws rm).room s m args below meth c s.heap [] 0 0 (MQ below Qc args s mc ms free) (entryFrame m args maxL)) : Met l y ws rm Pc Qc mc ms free := by
  have hin : Cond.codeWith y cc maxL ret hh ∈ ws := by rw [hw]; exact List.mem_cons_self
  apply MetFree.of_bodyS (code := cc) (maxLocals := maxL) (ret := ret) hy
  · intro args s m hpre hnm
    obtain ⟨mm, me, co, q0, q1, q2, q3, q4, _, q5, q6, _⟩ := Cond.codeWith_spec (atoms_spec (ws := ws) hpre _ hin)
    have e0 : mm = m := Option.some.inj (q0.symm.trans hnm)
    subst e0
    exact ⟨me, co, q1, q2, q3, q4, q5, q6⟩
  · intro p e s m args below meth c s₁ B hml hPc _
    have hh1 : s₁.heap = s.heap := by rw [B.state]; rfl
    have htab : c.exceptionTable.toList.map (fun h => (h.startPc, h.endPc, h.handlerPc, h.catchType)) = hh := by
      obtain ⟨mm, me, co, q0, q1, q2, _, _, q7, _, _, _⟩ := Cond.codeWith_spec (atoms_spec (ws := ws) B.pre _ hin)
      have e0 : mm = m := Option.some.inj (q0.symm.trans B.named)
      subst e0
      have e1 : me = meth := Option.some.inj (q1.symm.trans B.method)
      subst e1
      have e2 : co = c := Option.some.inj (q2.symm.trans (Stand.of_body B).code)
      subst e2
      exact q7
    obtain ⟨t, st, o, r1, r2, r3⟩ := hbody p e s m args below meth c s₁ B hml htab hPc s₁ hh1 (Stand.of_body B)
    exact ⟨t, o, st, r1, r2, r3.1, r3.2⟩
section WS
variable {p : Program} {l : Launch} {e : Env} {R : Room} {s : State} {m : MethodId} {args : Array Value} {below : List Frame} {meth : Method} {c : Code} {H : Heap} {locs : List Loc} {cells slots : Nat} {y : MethodName} {bytes cc : ByteArray} {maxL nL mc ms n index : Nat} {ret : Option FieldType} {hh : List (Nat × Nat × Nat × Nat)} {ws ws' : List Cond} {rm : Room} {Pc : Array Value → State → Prop} {Qc : Array Value → State → Outcome → State → Prop} {free : Addr → Prop} {Ts : List Cond} {own : String} {As rest : List Value} {g : JFrame}
/-- a call of a static method with handlers -/
theorem ws_run (S : CallFix p m c cc nL s args Ts own) (hM : Met l y ws rm Pc Qc mc ms free) (hG : GoodIn Ts (va_wsS own index y ws)) (hw : ws = Cond.codeWith y bytes maxL ret hh :: ws') (hrc : rm.cells = mc) (hrs : rm.slots = ms)
    (hd : y.cls ≠ "java/lang/invoke/MethodHandle" ∧ y.cls ≠ "java/lang/invoke/VarHandle" ∧ (parseMethodDescriptor y.desc).map (fun d => d.parameters.length) = some n) (hR : rm.frames + 1 ≤ R.frames ∧ 8 + (maxL + 11) + rm.locals ≤ R.locals) (hp : PreS s H Pc As)
    (hg : g.method = m) (hn : As.length = n) (hsize : g.locals.size = nL) (hstack : g.stack = As.reverse ++ rest) (hW : 2 * g.monitorRoom + (rest.map fun v => v.category).sum ≤ 8) (hdg : decode cc g.pc = .ok (.invokestatic index, 3)) (hf : cells + mc ≤ R.cells ∧ slots + ms ≤ R.slots) :
    va_Run p l e R s m args below meth c H locs cells slots mc ms g rest (Qc As.toArray) free := by
  obtain ⟨hx, hb, hml, ho, hts⟩ := S
  have ok : ∀ w ∈ va_wsS own index y ws, w.before args s = true := fun w h => hts w (hG w h).1
  have hlink := ok (.methodLink own index y) (by simp [va_wsS])
  have hstat := ok (.static y) (by simp [va_wsS])
  have hini := ok (.initialized y.cls) (by simp [va_wsS])
  have hin : Cond.codeWith y bytes maxL ret hh ∈ ws := by rw [hw]; exact List.mem_cons_self
  have hws : ∀ w ∈ ws, ∀ (a' : Array Value) (U : State), s.WarmedH U.vm → w.before a' U = true := pay_in hts (fun w h => hG w (by unfold va_wsS; exact List.mem_append_right _ h))
  have hcode := ok _ (by unfold va_wsS; exact List.mem_append_right _ hin)
  have hK : Back l R p e below s args y 3 8 (PreOf R mc ms Pc) (PostOf Qc mc ms free) := by
    refine Back.of_freeWith (handlers := hh) (S := headSpec ws rm) (P := Pc) (K := fun _ _ _ _ _ => True) (Q := fun a st o t => Qc a st o t ∧ ∃ L, FrameEnd st o t L mc ms ∧ ∀ q ∈ L, free q.base) (bytes := bytes) (maxL := maxL) (ret := ret)
      (E := fun a st o t L k n => k = mc ∧ n = ms ∧ ∀ q ∈ L, free q.base) hM hR.1 hR.2 ?_ ?_ (fun _ _ _ _ _ _ _ _ _ => trivial) ?_ ?_
    · intro m1 me1 c1 A a X hpr
      exact ⟨atoms_intro fun w hw1 => hws w hw1 _ _ X.warmed, hws _ hin _ _ X.warmed, word_at X.warmed (Or.inl (by first | rfl | simp [Cond.onTables, Cond.keeps, Cond.steady])) hini, by rw [show (headSpec ws rm).room.cells = mc from hrc]; exact hpr.1, by rw [show (headSpec ws rm).room.slots = ms from hrs]; exact hpr.2.1⟩
    · intro m1 me1 c1 A a g1 mk X hpr
      exact hp.1 _ _ _ _ hpr.2.2
    · intro a st o t ⟨hq, L, hF, hL⟩
      exact ⟨L, mc, ms, hF, rfl, rfl, hL⟩
    · intro m1 me1 c1 A a g1 mk v t L k n1 X hpr hq hF ⟨e1, e2, hL⟩
      subst e1; subst e2
      exact ⟨g1, mk, t, L, rfl, rfl, hq.1, rfl, hL, rfl, rfl⟩
  intro T hT X
  obtain ⟨mk, methM, cM, hnamed, hmethM, -, -, -, -, -, -, hsigM⟩ := Cond.codeWith_spec hcode
  have hstatic : methM.isStatic = true := Cond.static_spec hnamed hmethM hstat
  obtain ⟨kP, hkP, -⟩ := className_of_methodNamed hnamed
  have hinitP : kP.init = .initialized := Cond.initialized_spec (findClass_of_methodNamed hnamed) hkP hini
  have hlen : As.length = methM.sig.parameters.length := by
    have h2 := hd.2.2
    rw [hsigM] at h2
    exact hn.trans (Option.some.inj h2).symm
  obtain ⟨vm1, X1, hstep1⟩ := X.invokestatic hx ho hlink hnamed hmethM hstatic hkP hinitP ⟨hd.1, hd.2.1⟩ (g := g) hg (argsL := As) (rest := rest) hlen hstack (by rw [hb]; exact hdg)
  obtain ⟨v, ⟨U', l2, c2, s2⟩, X', ⟨g', mk', t, L, e1, e2, hq, h1, hL, h2, h3⟩, hsteps⟩ := hK m meth c ⟨T.setVm vm1, locs, cells, slots⟩ { g with stack := rest } (.invokestatic index) mk As.toArray X1 hg (hsize.trans hml.symm) (by rw [hb]; exact hdg) hW (X1.named hnamed) ⟨hf.1, hf.2, hp.2 (T.setVm vm1) hT X1.warmed⟩
  dsimp only [Pt.U, Pt.locs, Pt.cells, Pt.slots] at X' e1 e2 h1 h2 h3 hsteps
  subst h1; subst h2; subst h3
  exact ⟨v, (T.setVm vm1).calling g' mk' As.toArray, t, U', L, hT, X', hL, e1, e2, hq, fun target h => hstep1 _ (fun acts => by rw [doInvoke_state]; exact hsteps.trans h)⟩
end WS
