/-! METHODS THAT MAY THROW: a contract with two ends; an own 'throw new E("text")' ahead of any write (a launch without traces) -/
def xEnd (XC : String → State → State → Prop) (st : State) (o : Outcome) (t : State) (mc ms : Nat) (free : Addr → Prop) : Prop :=
  ∃ (q : Addr) (E : String) (ce : Cell) (L : List Loc), o = .threw q ∧ XC E st t ∧ t.heap[q]? = some ce ∧ ce.vm = .none ∧ st.vm.findClass E = some ce.cls ∧ st.WarmedH t.vm ∧ st.sameButNew ({ t with vm := st.vm } : State) L mc ms ∧ ∀ z ∈ L, free z.base
def xQ (Qc : Array Value → State → Outcome → State → Prop) (XC : String → State → State → Prop) (mc ms : Nat) (free : Addr → Prop) : Array Value → State → Outcome → State → Prop := fun a st o t =>
  (Qc a st o t ∧ ∃ L, FrameEnd st o t L mc ms ∧ ∀ q ∈ L, free q.base) ∨ xEnd XC st o t mc ms free
def xMet (l : Launch) (y : MethodName) (ws : List Cond) (rm : Room) (Pc : Array Value → State → Prop) (Qc : Array Value → State → Outcome → State → Prop) (XC : String → State → State → Prop) (mc ms : Nat) (free : Addr → Prop) : Prop :=
  MetFree l y (headSpec ws rm) Pc (fun _ _ _ _ _ => True) (xQ Qc XC mc ms free)
def xMQ (below : List Frame) (Qc : Array Value → State → Outcome → State → Prop) (XC : String → State → State → Prop) (a : Array Value) (s : State) (mc ms : Nat) (free : Addr → Prop) : State → Prop := fun t =>
  ∃ o, t.status = .running ∧ Ended t below o ∧ xQ Qc XC mc ms free a s o t
theorem x_ofW {l : Launch} {y : MethodName} {ws ws' : List Cond} {rm : Room} {Pc : Array Value → State → Prop} {Qc : Array Value → State → Outcome → State → Prop} {XC : String → State → State → Prop} {mc ms : Nat} {free : Addr → Prop} {cc : ByteArray} {maxL : Nat} {ret : Option FieldType} (hy : plainName y.cls = true) (hw : ws = Cond.code y cc maxL ret :: ws')
    (hbody : ∀ p e s m args below meth c s₁, BodyLoose p l y (headSpec ws rm) cc maxL ret e s m args below meth c s₁ → c.maxLocals = maxL → (∀ z ∈ c.exceptionTable.toList, False) → Pc args s → W p l e (headSpec ws rm).room s m args below meth c s.heap [] 0 0 (xMQ below Qc XC args s mc ms free) (entryFrame m args maxL)) : xMet l y ws rm Pc Qc XC mc ms free := by
  have hin : Cond.code y cc maxL ret ∈ ws := by rw [hw]; exact List.mem_cons_self
  apply MetFree.of_bodyS (code := cc) (maxLocals := maxL) (ret := ret) hy
  · intro args s m hpre hnm
    obtain ⟨me, co, q1, q2, q3, q4, q5, q6, _, _⟩ := Cond.code_spec hnm (atoms_spec (ws := ws) hpre _ hin)
    exact ⟨me, co, q1, q2, q3, q4, q5, q6⟩
  · intro p e s m args below meth c s₁ B hml hPc _
    have hh : s₁.heap = s.heap := by rw [B.state]; rfl
    have hnt : ∀ z ∈ c.exceptionTable.toList, False := by
      obtain ⟨me, co, q1, q2, _, _, _, _, q7, _⟩ := Cond.code_spec B.named (atoms_spec (ws := ws) B.pre _ hin)
      have e1 : me = meth := Option.some.inj (q1.symm.trans B.method)
      subst e1
      have e2 : co = c := Option.some.inj (q2.symm.trans (Stand.of_body B).code)
      subst e2
      intro z hz
      rw [Array.isEmpty_iff.mp q7] at hz
      cases hz
    obtain ⟨t, st, o, r1, r2, r3⟩ := hbody p e s m args below meth c s₁ B hml hnt hPc s₁ hh (Stand.of_body B)
    exact ⟨t, o, st, r1, r2, r3⟩
section XT
variable {p : Program} {l : Launch} {e : Env} {R : Room} {s : State} {m : MethodId} {args : Array Value} {below : List Frame} {meth : Method} {c : Code} {H : Heap} {locs : List Loc} {cells slots mc ms : Nat} {Qc : Array Value → State → Outcome → State → Prop} {XC : String → State → State → Prop} {free : Addr → Prop}
theorem x_ret {g : JFrame} (k : W p l e R s m args below meth c H locs cells slots (MQ below Qc args s mc ms free) g) : W p l e R s m args below meth c H locs cells slots (xMQ below Qc XC args s mc ms free) g := by
  intro T hT X
  obtain ⟨t, st, o, r1, r2, r3, r4⟩ := k T hT X
  exact ⟨t, st, o, r1, r2, Or.inl ⟨r3, r4⟩⟩
/-- what nobody wrote is as it was -/
theorem x_same {U : State} {k n : Nat} (h : s.sameButNew ({ U with vm := s.vm } : State) [] k n) : s.heap.size ≤ U.heap.size ∧ ∀ q : Nat, q < s.heap.size → U.heap[q]? = s.heap[q]? := by
  refine ⟨h.2.1, fun q hq => ?_⟩
  obtain ⟨c1, h1⟩ : ∃ c1, s.heap[q]? = some c1 := ⟨s.heap[q], Array.getElem?_eq_getElem hq⟩
  obtain ⟨c2, h2, h3, h4, h5⟩ := h.2.2.2.2.2 q c1 h1
  have h6 : c2.slots = c1.slots := Array.ext_getElem? (fun i => h5 i (by simp))
  have h7 : c2 = c1 := by rw [h3, h6]
  have h8 : U.heap[q]? = some c2 := h2
  rw [h8, h1, h7]
theorem x_throw {cc : ByteArray} {pc : Nat} {ls : Array Slot} (hexec : p.tables.exec = Jvm.exec) (hb : c.code = cc) (hl : l.stackTraces = false) {own cls text : String} {names : List String} {ik is ic sa : Nat}
    (hown : s.vm.findClass own = some m.cls) (hcls : Bundle.fit cls = true) (hnames : ∀ n ∈ names, Bundle.fit n = true)
    (hk : (Cond.classLink own ik cls).before args s = true) (hini : (Cond.initialized cls).before args s = true) (hins : (Cond.instantiable cls 6).before args s = true) (hstr : vk_R own is text sa s) (hat : ∀ w ∈ Bundle.ownAtoms own ic cls names, w.before args s = true) (hsize : ls.size = c.maxLocals)
    (d0 : decode cc pc = .ok (.new ik, 3)) (d3 : decode cc (pc + 3) = .ok (.dup, 1)) (d4 : decode cc (pc + 4) = .ok (.ldc is, 2)) (d6 : decode cc (pc + 6) = .ok (.invokespecial ic, 3)) (d9 : decode cc (pc + 9) = .ok (.athrow, 1)) (hout : ∀ z ∈ c.exceptionTable.toList, False)
    (hRf : names.length + 3 < R.frames) (hRl : 13 * (names.length + 1) + 43 ≤ R.locals) (hRc : 1 ≤ R.cells) (hRs : 6 ≤ R.slots) (hlocks : meth.locks = false)
    (hx : ∀ t : State, s.vm.Alike t.vm → s.heap.size ≤ t.heap.size → (∀ q : Nat, q < s.heap.size → t.heap[q]? = s.heap[q]?) → XC cls s t) :
    W p l e R s m args below meth c s.heap [] 0 0 (xMQ below Qc XC args s 1 6 free) (F0 m pc ls []) := by
  refine W.newc hexec hb hown hk hins hini (g := F0 m pc ls []) rfl d0 (by omega) (by omega) (fun cC kC h1 h2 h3 h4 => ?_)
  refine W.eq (g2 := F0 m (pc + 3) ls [.ref s.heap.size]) rfl ?_
  refine lv_dup hexec hb d3 rfl ?_
  intro T hT X
  have htr : e.platform.stackTraces = false := (show e.platform.stackTraces = l.stackTraces by rw [X.admits.platform]).trans hl
  have hcell : T.heap[s.heap.size]? = some (freshCell cC kC) := by rw [hT]; exact Array.getElem?_push_size
  obtain ⟨U, hsteps, hrun, hend, hW, hsame, ce, hce, hO⟩ := X.ctorThrowS hexec htr (own := own) (cls := cls) (names := names) (ic := ic) hown hcls hnames hat (fun z hz => nomatch hz) (a := s.heap.size) h1 h2 hcell (Nat.le_refl _) (msg := .ref sa) rfl
    (g := { method := m, pc := pc + 6, locals := ls, stack := [.ref sa, .ref s.heap.size, .ref s.heap.size], locked := none }) rfl hsize rfl rfl (rest := []) rfl (by rw [hb]; exact d6) (by rw [hb]; exact d9) (fun z hz => (hout z hz).elim) hRf (by simp [JFrame.monitorRoom, Value.category]; omega) hlocks
  obtain ⟨f1, f2⟩ := x_same hsame
  refine ⟨U, ?_, .threw s.heap.size, hrun, hend, Or.inr ⟨s.heap.size, cls, ce, [], rfl, hx U hW.alike f1 f2, hce, hO.vm, hO.cls, hW, hsame, fun z hz => nomatch hz⟩⟩
  have hs1 : (Cond.stringRef own is text).before args s = true := hstr.1
  exact X.ldcString hexec (own := own) (text := text) (index := is) (a := sa) hown hs1 hstr.2 (g := F0 m (pc + 4) ls [.ref s.heap.size, .ref s.heap.size]) rfl (by rw [hb]; exact d4) _ hsteps
end XT
