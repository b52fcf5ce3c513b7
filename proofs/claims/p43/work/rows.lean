section
-- ===== PART A: goes FIRST, ahead of the names: the tables' words, and 'selects' of the private methods out of them =====
/-- a private method of a class that the tables say can be made, by its rows of tables_1 -/
def lw_okq (q : MethodName × Nat) : Prop := (q.1.cls ≠ "java/lang/invoke/MethodHandle" ∧ q.1.cls ≠ "java/lang/invoke/VarHandle") ∧ Cond.instantiable q.1.cls q.2 ∈ tables_1 ∧ Cond.privateMethod q.1 ∈ tables_1 ∧ Cond.instanceMethod q.1 ∈ tables_1
theorem lw_p0 : lw_okq (⟨"java/lang/Throwable", "fillInStackTrace", "(I)Ljava/lang/Throwable;"⟩, 6) := ⟨⟨by decide +kernel, by decide +kernel⟩, List.mem_of_getElem? (i := 179) (by decide +kernel), List.mem_of_getElem? (i := 177) (by decide +kernel), List.mem_of_getElem? (i := 178) (by decide +kernel)⟩
theorem lw_p1 : lw_okq (⟨"GooseCodex", "demandGoose", "(I)V"⟩, 2) := ⟨⟨by decide +kernel, by decide +kernel⟩, List.mem_of_getElem? (i := 14) (by decide +kernel), List.mem_of_getElem? (i := 364) (by decide +kernel), List.mem_of_getElem? (i := 365) (by decide +kernel)⟩
theorem lw_p2 : lw_okq (⟨"GooseCodex", "demandVisitor", "(I)V"⟩, 2) := ⟨⟨by decide +kernel, by decide +kernel⟩, List.mem_of_getElem? (i := 14) (by decide +kernel), List.mem_of_getElem? (i := 381) (by decide +kernel), List.mem_of_getElem? (i := 382) (by decide +kernel)⟩
def lw_privs_1 : List (MethodName × Nat) := [(⟨"java/lang/Throwable", "fillInStackTrace", "(I)Ljava/lang/Throwable;"⟩, 6), (⟨"GooseCodex", "demandGoose", "(I)V"⟩, 2), (⟨"GooseCodex", "demandVisitor", "(I)V"⟩, 2)]
theorem lw_r1 : ∀ q ∈ lw_privs_1, lw_okq q := List.forall_mem_cons.mpr ⟨lw_p0, List.forall_mem_cons.mpr ⟨lw_p1, List.forall_mem_cons.mpr ⟨lw_p2, fun _ h => absurd h List.not_mem_nil⟩⟩⟩
def lw_privs : List (MethodName × Nat) := lw_privs_1
def lw_tbl : List Cond := k2_sels lw_privs ++ tables_1
theorem lw_privs_ok : ∀ q ∈ lw_privs, lw_okq q := lw_r1
/-- the streams that the claim lets the run draw from -/
abbrev lw_cs : List Choice := [Jvm.Choice.named "NaN.bits"]
theorem lw_bits : nanBits ∈ lw_cs := by first | decide | exact List.mem_cons_self | simp [lw_cs, nanBits]
end
section
/-! ===== BEGIN words of one list among another's, by their places ===== -/
theorem goodIn_r {big : List Cond} (ws : List Cond) (ps : List Nat) (hp : ws = ps.filterMap (fun i => big[i]?)) (h : ws.all goodWord = true) : GoodIn big ws := by
  intro w hw
  have h1 := List.all_eq_true.mp h w hw
  rw [hp] at hw
  obtain ⟨i, -, hi⟩ := List.mem_filterMap.mp hw
  have hm : w ∈ big := by first | exact List.mem_of_getElem? hi | exact List.getElem?_mem hi
  exact ⟨hm, good_of_word h1⟩
theorem goodIn_app {big a b : List Cond} (ha : GoodIn big a) (hb : GoodIn big b) : GoodIn big (a ++ b) := fun w h => (List.mem_append.mp h).elim (ha w) (hb w)
theorem goodIn_ca {big a b : List Cond} {c : Cond} (ha : GoodIn big (c :: a)) (hb : GoodIn big b) : GoodIn big (c :: (a ++ b)) := fun w h => (List.mem_cons.mp h).elim (fun e => ha w (List.mem_cons.mpr (Or.inl e))) (fun h => (List.mem_append.mp h).elim (fun h => ha w (List.mem_cons.mpr (Or.inr h))) (hb w))
theorem goodIn_sub {big ws : List Cond} (hm : ∀ w ∈ ws, w ∈ big) (h : ws.all goodWord = true) : GoodIn big ws := fun w hw => ⟨hm w hw, good_of_word (List.all_eq_true.mp h w hw)⟩
/-! ===== END ===== -/

/-! ===== BEGIN exceptions that leave a method, and their catching by the caller (launches without stack traces) ===== -/
section VXA
/-! The laws vx_back, vx_callV, vx_callS, vx_callSW, vx_throw0, vx_throwS follow proofs of the library, with one case more: JvmDerived/Free/Laws.lean (Back.of_free), Shelf42/LK1.lean (callV, callS), Shelf/KitTraced.lean (throwNew0V, throwNewS). -/
/-- where a method has thrown q: the class by its name, the cell, what was written, the world -/
def vx_T (XC : String → State → State → Prop) (st : State) (q : Addr) (t : State) (mc ms : Nat) (free : Addr → Prop) : Prop :=
  ∃ (E : String) (ce : Cell) (L : List Loc), XC E st t ∧ t.heap[q]? = some ce ∧ ce.vm = .none ∧ st.vm.findClass E = some ce.cls ∧ st.WarmedH t.vm ∧ st.sameButNew ({ t with vm := st.vm } : State) L mc ms ∧ ∀ z ∈ L, free z.base
def vx_Q (Qc : Array Value → State → Outcome → State → Prop) (XC : String → State → State → Prop) (mc ms : Nat) (free : Addr → Prop) : Array Value → State → Outcome → State → Prop := fun a st o t =>
  (Qc a st o t ∧ ∃ L, FrameEnd st o t L mc ms ∧ ∀ q ∈ L, free q.base) ∨ ∃ q, o = .threw q ∧ vx_T XC st q t mc ms free
/-- a callee that returns or throws -/
def vx_Met (l : Launch) (y : MethodName) (ws : List Cond) (rm : Room) (Pc : Array Value → State → Prop) (Qc : Array Value → State → Outcome → State → Prop) (XC : String → State → State → Prop) (mc ms : Nat) (free : Addr → Prop) : Prop :=
  MetFree l y (headSpec ws rm) Pc (fun _ _ _ _ _ => True) (vx_Q Qc XC mc ms free)
def vx_Post (XC : String → State → State → Prop) (mc ms : Nat) (free : Addr → Prop) : Pt → Array Value → Addr → Pt → Prop := fun A a q B =>
  ∃ (g : JFrame) (mk : MethodId) (t : State) (L : List Loc) (E : String) (ce : Cell), B.U.heap = t.heap ∧ B.U.vm = t.vm ∧ XC E (A.U.calling g mk a) t ∧ t.heap[q]? = some ce ∧ ce.vm = .none ∧ A.U.vm.findClass E = some ce.cls ∧ B.locs = A.locs ++ L ∧ (∀ z ∈ L, free z.base) ∧ B.cells = A.cells + mc ∧ B.slots = A.slots + ms
def vx_Back (l : Launch) (R : Room) (p : Program) (e : Env) (below : List Frame) (s : State) (sargs : Array Value) (y : MethodName) (len W9 : Nat)
    (Pre : Pt → Array Value → Prop) (Post : Pt → Array Value → Option Value → Pt → Prop) (PostX : Pt → Array Value → Addr → Pt → Prop) : Prop :=
  ∀ (m : MethodId) (meth : Method) (c : Code) (A : Pt) (g : JFrame) (ig : Instr) (mk : MethodId) (a : Array Value),
    Stand p l e R s m sargs below meth c A.U A.locs A.cells A.slots → g.method = m → g.locals.size = c.maxLocals → decode c.code g.pc = .ok (ig, len) →
    2 * g.monitorRoom + (g.stack.map fun v => v.category).sum ≤ W9 → A.U.methodNamed? y = some mk → Pre A a →
    (∃ (v : Option Value) (B : Pt), Stand p l e R s m sargs below meth c B.U B.locs B.cells B.slots ∧ Post A a v B ∧
      Steps p.tables e below (doInvoke e (A.U.setTop g) [] mk a).1 (B.U.setTop { g with pc := g.pc + len, stack := v.toList ++ g.stack })) ∨
    (∃ (q : Addr) (B : Pt), Stand p l e R s m sargs below meth c B.U B.locs B.cells B.slots ∧ PostX A a q B ∧
      Steps p.tables e below (doInvoke e (A.U.setTop g) [] mk a).1 ((B.U.setTop g).pushFrame (.throwing q)))
section Payer
variable {l : Launch} {R : Room} {p : Program} {e : Env} {below : List Frame} {s : State} {sargs : Array Value} {y : MethodName} {len W9 : Nat}
theorem vx_back {ws : List Cond} {rm : Room} {Pc : Array Value → State → Prop} {Qc : Array Value → State → Outcome → State → Prop} {XC : String → State → State → Prop} {mc ms : Nat} {free : Addr → Prop} {bytes : ByteArray} {maxL : Nat} {ret : Option FieldType}
    (hM : vx_Met l y ws rm Pc Qc XC mc ms free) (hblind : FrameBlind Pc) (hrc : rm.cells = mc) (hrs : rm.slots = ms)
    (hframes : rm.frames + 1 ≤ R.frames) (hlocals : W9 + (maxL + 11) + rm.locals ≤ R.locals)
    (hws : ∀ w ∈ ws, ∀ a' U, s.WarmedH U.vm → w.before a' U = true) (hcode : Cond.code y bytes maxL ret ∈ ws) (hinit : ∀ a' U, s.WarmedH U.vm → (Cond.initialized y.cls).before a' U = true) :
    vx_Back l R p e below s sargs y len W9 (PreOf R mc ms Pc) (PostOf Qc mc ms free) (vx_Post XC mc ms free) := by
  intro m meth c A g ig mk a X hg hsize hdg hW hn hp
  have h1 : (headSpec ws rm).pre.before a A.U = true := atoms_intro fun w hw => hws w hw _ _ X.warmed
  have h2 : (Cond.code y bytes maxL ret).before a A.U = true := hws _ hcode _ _ X.warmed
  have h3 : (Cond.initialized y.cls).before a A.U = true := hinit _ _ X.warmed
  have h4 : A.cells + (headSpec ws rm).room.cells ≤ R.cells := by rw [show (headSpec ws rm).room.cells = mc from hrc]; exact hp.1
  have h5 : A.slots + (headSpec ws rm).room.slots ≤ R.slots := by rw [show (headSpec ws rm).room.slots = ms from hrs]; exact hp.2.1
  have hPc : Pc a (A.U.calling g mk a) := hblind _ _ _ _ hp.2.2
  obtain ⟨U, Ls, c0, s0⟩ := A
  dsimp only [Pt.U, Pt.locs, Pt.cells, Pt.slots] at h1 h2 h3 h4 h5 X hn hPc ⊢
  obtain ⟨methY, cY, hmY, hcY, -, hlY, -, -, -, -⟩ := Cond.code_spec hn h2
  obtain ⟨kY, hkY, -⟩ := className_of_methodNamed hn
  have hinitY : kY.init = .initialized := Cond.initialized_spec (findClass_of_methodNamed hn) hkY h3
  have h : At U g.method c below := by rw [hg]; exact X.here
  have hlocals9 : W9 + (maxL + 11) + (headSpec ws rm).room.locals ≤ R.locals := hlocals
  have happ : (headSpec ws rm).appliesLoose y e.platform (U.calling g mk a) = true :=
    Spec.appliesLoose_calling (g := g) h hdg hn hkY hinitY
      (X.room_calling (g := g) (R' := (headSpec ws rm).room) hsize hmY hcY hframes (by rw [hlY]; omega) h4 h5) h1
  obtain ⟨mid, hmid⟩ := h.above
  have hfr : (U.setTop g).frames = (.java g :: mid) ++ below := by rw [State.frames_setTop' g h.top, hmid]; rfl
  obtain ⟨o, s₂, hsteps, -, hend, hq⟩ := Steps.callFree hM p X.admits X.cas X.clock (acts := []) hfr happ hPc trivial
  have hq' : vx_Q Qc XC mc ms free a (U.calling g mk a) o s₂ := hq
  rw [State.frames_setTop' g h.top] at hend
  obtain ⟨g₀, hg0⟩ := Option.isSome_iff_exists.mp h.top
  obtain ⟨r, hr⟩ := State.topJava?_eq_some.mp hg0
  have hr' : (({ U with heap := s₂.heap, slotsUsed := s₂.slotsUsed } : State).setVm s₂.vm).frames = .java g₀ :: r := hr
  rcases hq' with ⟨hqc, L, hfe, hL⟩ | ⟨q, rfl, E, ce, L, hx, hce, hcv, hcl, hW₂, hsm, hL⟩
  · obtain ⟨⟨v, rfl⟩, hW₂, e2, q2, q3, q4, q5, q6⟩ := id hfe
    have e3 : s₂ = ({ (U.calling g mk a).setFrames s₂.frames with heap := s₂.heap, slotsUsed := s₂.slotsUsed } : State).setVm s₂.vm := by
      have : s₂ = ({ s₂ with vm := (U.calling g mk a).vm } : State).setVm s₂.vm := rfl
      rw [e2] at this
      exact this
    obtain ⟨c₂, i₂, len₂, hc₂, hd₂, hf₂⟩ := hend
    have hW' : U.WarmedH s₂.vm := hW₂
    have hcc : c₂ = c := by
      have h1 : s₂.code? g.method = U.code? g.method := by
        rw [State.code?_eq, State.code?_eq, hW'.alike.method?]
      exact Option.some.inj (hc₂.symm.trans (h1.trans h.code))
    subst hcc
    have hlen : len₂ = len := by rw [hdg] at hd₂; cases hd₂; rfl
    subst hlen
    have hs₂ : s₂ = (({ U with heap := s₂.heap, slotsUsed := s₂.slotsUsed } : State).setVm s₂.vm).setTop { g with pc := g.pc + len₂, stack := v.toList ++ g.stack } := by
      refine e3.trans ?_
      rw [hf₂, State.calling_eq h.top, State.setFrames_setFrames, State.setTop_of_frames _ hr', hr]
      rfl
    have hsame : U.sameButNew ({ U with heap := s₂.heap, slotsUsed := s₂.slotsUsed } : State) L mc ms := by
      refine ⟨?_, q2, q3, q4, q5, q6⟩
      obtain ⟨t, ht, -⟩ := State.frames_cons hr
      show ({ U with heap := s₂.heap, slotsUsed := s₂.slotsUsed } : State) = { U.setFrames U.frames with heap := s₂.heap, slotsUsed := s₂.slotsUsed }
      rw [State.setFrames_self ht]
    subst hg
    refine Or.inl ⟨v, ⟨(({ U with heap := s₂.heap, slotsUsed := s₂.slotsUsed } : State).setVm s₂.vm), Ls ++ L, c0 + mc, s0 + ms⟩,
      ⟨X.admits, X.cas, X.clock, X.frames, X.room, X.hears, X.method, X.code, (X.here.setHeapUsed s₂.heap s₂.slotsUsed).setVm hW'.alike, X.tail, State.WarmedH.trans X.warmed hW', X.limits, X.bytes, X.same.trans (hsame.setVm s.vm)⟩,
      ⟨g, mk, s₂, L, rfl, rfl, hqc, rfl, hL, rfl, rfl⟩, ?_⟩
    show Steps p.tables e below _ ((({ U with heap := s₂.heap, slotsUsed := s₂.slotsUsed } : State).setVm s₂.vm).setTop { g with pc := g.pc + len₂, stack := v.toList ++ g.stack })
    rw [← hs₂]
    exact hsteps
  · obtain ⟨e2, q2, q3, q4, q5, q6⟩ := id hsm
    have e3 : s₂ = ({ (U.calling g mk a).setFrames s₂.frames with heap := s₂.heap, slotsUsed := s₂.slotsUsed } : State).setVm s₂.vm := by
      have : s₂ = ({ s₂ with vm := (U.calling g mk a).vm } : State).setVm s₂.vm := rfl
      rw [e2] at this
      exact this
    have hf₂ : s₂.frames = .throwing q :: .java g :: U.frames.tail := hend
    have hW' : U.WarmedH s₂.vm := hW₂
    have hs₂ : s₂ = ((({ U with heap := s₂.heap, slotsUsed := s₂.slotsUsed } : State).setVm s₂.vm).setTop g).pushFrame (.throwing q) := by
      refine e3.trans ?_
      rw [hf₂, State.calling_eq h.top, State.setFrames_setFrames, State.pushFrame, State.frames_setTop _ hr', State.setTop_of_frames _ hr', State.setFrames_setFrames, hr]
      rfl
    have hsame : U.sameButNew ({ U with heap := s₂.heap, slotsUsed := s₂.slotsUsed } : State) L mc ms := by
      refine ⟨?_, q2, q3, q4, q5, q6⟩
      obtain ⟨t, ht, -⟩ := State.frames_cons hr
      show ({ U with heap := s₂.heap, slotsUsed := s₂.slotsUsed } : State) = { U.setFrames U.frames with heap := s₂.heap, slotsUsed := s₂.slotsUsed }
      rw [State.setFrames_self ht]
    subst hg
    refine Or.inr ⟨q, ⟨(({ U with heap := s₂.heap, slotsUsed := s₂.slotsUsed } : State).setVm s₂.vm), Ls ++ L, c0 + mc, s0 + ms⟩,
      ⟨X.admits, X.cas, X.clock, X.frames, X.room, X.hears, X.method, X.code, (X.here.setHeapUsed s₂.heap s₂.slotsUsed).setVm hW'.alike, X.tail, State.WarmedH.trans X.warmed hW', X.limits, X.bytes, X.same.trans (hsame.setVm s.vm)⟩,
      ⟨g, mk, s₂, L, E, ce, rfl, rfl, hx, hce, hcv, hcl, rfl, hL, rfl, rfl⟩, ?_⟩
    show Steps p.tables e below _ (((({ U with heap := s₂.heap, slotsUsed := s₂.slotsUsed } : State).setVm s₂.vm).setTop g).pushFrame (.throwing q))
    rw [← hs₂]
    exact hsteps
end Payer
section Calls
variable {p : Program} {l : Launch} {e : Env} {R : Room} {s : State} {m : MethodId} {args : Array Value} {below : List Frame} {meth : Method} {c : Code} {T : State} {locs : List Loc} {cells slots : Nat}
theorem vx_callV (X : Stand p l e R s m args below meth c T locs cells slots) (hexec : p.tables.exec = Jvm.exec) {own C : String} {index : Nat} {y : MethodName} {bytes : ByteArray} {maxL : Nat} {ret : Option FieldType}
    (hown : s.vm.findClass own = some m.cls) (hlink : (Cond.methodLink own index y).before args s = true) (hinst : (Cond.instanceMethod y).before args s = true) (hsel : (Cond.selects C y y).before args s = true)
    (hcode : (Cond.code y bytes maxL ret).before args s = true) (hy : y.cls ≠ "java/lang/invoke/MethodHandle" ∧ y.cls ≠ "java/lang/invoke/VarHandle")
    {W9 : Nat} {Pre : Pt → Array Value → Prop} {Post : Pt → Array Value → Option Value → Pt → Prop} {PostX : Pt → Array Value → Addr → Pt → Prop} (hK : vx_Back l R p e below s args y 3 W9 Pre Post PostX)
    {b : Addr} {cellB : Cell} (hcell : T.heap[b]? = some cellB) (hobj : cellB.vm.isStatics = false) (hcls : s.vm.findClass C = some cellB.cls)
    {g : JFrame} (hg : g.method = m) (hsize : g.locals.size = c.maxLocals) {argsL rest : List Value} (hlen : ∀ sig, parseMethodDescriptor y.desc = some sig → argsL.length = sig.parameters.length)
    (hstack : g.stack = argsL.reverse ++ .ref b :: rest) (hW : 2 * g.monitorRoom + (rest.map fun v => v.category).sum ≤ W9) (hdg : decode c.code g.pc = .ok (.invokevirtual index, 3))
    (hpre : ∀ vm₁, s.WarmedH vm₁ → Pre ⟨T.setVm vm₁, locs, cells, slots⟩ (Value.ref b :: argsL).toArray) :
    (∃ (v : Option Value) (vm₁ : Vm) (B : Pt), s.WarmedH vm₁ ∧ Stand p l e R s m args below meth c B.U B.locs B.cells B.slots ∧ Post ⟨T.setVm vm₁, locs, cells, slots⟩ (Value.ref b :: argsL).toArray v B ∧
      ∀ target, Steps p.tables e below (B.U.setTop { g with pc := g.pc + 3, stack := v.toList ++ rest }) target → Steps p.tables e below (T.setTop g) target) ∨
    (∃ (q : Addr) (vm₁ : Vm) (B : Pt), s.WarmedH vm₁ ∧ Stand p l e R s m args below meth c B.U B.locs B.cells B.slots ∧ PostX ⟨T.setVm vm₁, locs, cells, slots⟩ (Value.ref b :: argsL).toArray q B ∧
      Steps p.tables e below (T.setTop g) ((B.U.setTop { g with stack := rest }).pushFrame (.throwing q))) := by
  obtain ⟨mk, methM, hnamed, hmethM, hstM, habM⟩ := Cond.instanceMethod_spec hinst
  obtain ⟨methM', cM, hmethM', -, -, -, -, -, -, hsigM⟩ := Cond.code_spec hnamed hcode
  cases hmethM.symm.trans hmethM'
  obtain ⟨c2, r2, m2, q1, q2, q3, q4, kP, hkP, hkPi⟩ := Cond.selects_spec hsel
  cases hcls.symm.trans q1
  cases (State.methodFound?_of_named hnamed hy).symm.trans q2
  cases hnamed.symm.trans q3
  have hselP : selectMethod e.platform s.vm cellB.cls mk = .method mk := by rw [Launch.admits_selectMethod X.admits]; exact q4
  obtain ⟨vm₁, X₁, hstep₁⟩ := X.invokevirtual hexec hown hlink hnamed hmethM hstM hkP hkPi hy (a := b) (cell := cellB) hcell
    (fun z h => by rw [h] at hobj; cases hobj) hselP hmethM habM hkP hkPi (g := g) hg (argsL := argsL) (rest := rest) (hlen _ hsigM) hstack hdg
  rcases hK m meth c ⟨T.setVm vm₁, locs, cells, slots⟩ { g with stack := rest } (.invokevirtual index) mk (Value.ref b :: argsL).toArray X₁ hg hsize hdg hW (X₁.named hnamed) (hpre vm₁ X₁.warmed) with ⟨v, B, X', hpost, hsteps⟩ | ⟨q, B, X', hpost, hsteps⟩
  · exact Or.inl ⟨v, vm₁, B, X₁.warmed, X', hpost, fun target h => hstep₁ _ fun acts => by rw [doInvoke_state]; exact hsteps.trans h⟩
  · exact Or.inr ⟨q, vm₁, B, X₁.warmed, X', hpost, hstep₁ _ fun acts => by rw [doInvoke_state]; exact hsteps⟩
theorem vx_callS (X : Stand p l e R s m args below meth c T locs cells slots) (hexec : p.tables.exec = Jvm.exec) {own : String} {index : Nat} {y : MethodName} {bytes : ByteArray} {maxL : Nat} {ret : Option FieldType}
    (hown : s.vm.findClass own = some m.cls) (hlink : (Cond.methodLink own index y).before args s = true) (hstat : (Cond.static y).before args s = true) (hinit : (Cond.initialized y.cls).before args s = true)
    (hcode : (Cond.code y bytes maxL ret).before args s = true) (hy : y.cls ≠ "java/lang/invoke/MethodHandle" ∧ y.cls ≠ "java/lang/invoke/VarHandle")
    {W9 : Nat} {Pre : Pt → Array Value → Prop} {Post : Pt → Array Value → Option Value → Pt → Prop} {PostX : Pt → Array Value → Addr → Pt → Prop} (hK : vx_Back l R p e below s args y 3 W9 Pre Post PostX)
    {g : JFrame} (hg : g.method = m) (hsize : g.locals.size = c.maxLocals) {argsL rest : List Value} (hlen : ∀ sig, parseMethodDescriptor y.desc = some sig → argsL.length = sig.parameters.length)
    (hstack : g.stack = argsL.reverse ++ rest) (hW : 2 * g.monitorRoom + (rest.map fun v => v.category).sum ≤ W9) (hdg : decode c.code g.pc = .ok (.invokestatic index, 3))
    (hpre : ∀ vm₁, s.WarmedH vm₁ → Pre ⟨T.setVm vm₁, locs, cells, slots⟩ argsL.toArray) :
    (∃ (v : Option Value) (vm₁ : Vm) (B : Pt), s.WarmedH vm₁ ∧ Stand p l e R s m args below meth c B.U B.locs B.cells B.slots ∧ Post ⟨T.setVm vm₁, locs, cells, slots⟩ argsL.toArray v B ∧
      ∀ target, Steps p.tables e below (B.U.setTop { g with pc := g.pc + 3, stack := v.toList ++ rest }) target → Steps p.tables e below (T.setTop g) target) ∨
    (∃ (q : Addr) (vm₁ : Vm) (B : Pt), s.WarmedH vm₁ ∧ Stand p l e R s m args below meth c B.U B.locs B.cells B.slots ∧ PostX ⟨T.setVm vm₁, locs, cells, slots⟩ argsL.toArray q B ∧
      Steps p.tables e below (T.setTop g) ((B.U.setTop { g with stack := rest }).pushFrame (.throwing q))) := by
  obtain ⟨mk, hnamed⟩ := Cond.code_named hcode
  obtain ⟨methM, cM, hmethM, -, -, -, -, -, -, hsigM⟩ := Cond.code_spec hnamed hcode
  have hstatic : methM.isStatic = true := Cond.static_spec hnamed hmethM hstat
  obtain ⟨kP, hkP, -⟩ := className_of_methodNamed hnamed
  have hinitP : kP.init = .initialized := Cond.initialized_spec (findClass_of_methodNamed hnamed) hkP hinit
  obtain ⟨vm₁, X₁, hstep₁⟩ := X.invokestatic hexec hown hlink hnamed hmethM hstatic hkP hinitP hy (g := g) hg (argsL := argsL) (rest := rest) (hlen _ hsigM) hstack hdg
  rcases hK m meth c ⟨T.setVm vm₁, locs, cells, slots⟩ { g with stack := rest } (.invokestatic index) mk argsL.toArray X₁ hg hsize hdg hW (X₁.named hnamed) (hpre vm₁ X₁.warmed) with ⟨v, B, X', hpost, hsteps⟩ | ⟨q, B, X', hpost, hsteps⟩
  · exact Or.inl ⟨v, vm₁, B, X₁.warmed, X', hpost, fun target h => hstep₁ _ fun acts => by rw [doInvoke_state]; exact hsteps.trans h⟩
  · exact Or.inr ⟨q, vm₁, B, X₁.warmed, X', hpost, hstep₁ _ fun acts => by rw [doInvoke_state]; exact hsteps⟩
end Calls
theorem vx_cls {s : State} {T : State} {vm₁ : Vm} {E : String} {k : ClassId} (hW : s.WarmedH vm₁) (h : (T.setVm vm₁).vm.findClass E = some k) : s.vm.findClass E = some k := by
  have h1 : vm₁.findClass E = some k := h
  rw [hW.alike.findClass] at h1
  exact h1
/-- the method's frame g, with q thrown over it -/
def vx_W (p : Program) (l : Launch) (e : Env) (R : Room) (s : State) (m : MethodId) (args : Array Value) (below : List Frame) (meth : Method) (c : Code) (H : Heap) (locs : List Loc) (cells slots : Nat) (Q : State → Prop) (g : JFrame) (q : Addr) : Prop :=
  ∀ T : State, T.heap = H → Stand p l e R s m args below meth c T locs cells slots → ∃ t, Steps p.tables e below ((T.setTop g).pushFrame (.throwing q)) t ∧ Q t
def vx_Run (p : Program) (l : Launch) (e : Env) (R : Room) (s : State) (m : MethodId) (args : Array Value) (below : List Frame) (meth : Method) (c : Code) (H : Heap) (locs : List Loc) (cells slots mc ms : Nat) (g : JFrame) (rest : List Value) (Qa : State → Outcome → State → Prop) (XC : String → State → State → Prop) (free : Addr → Prop) : Prop :=
  ∀ T : State, T.heap = H → Stand p l e R s m args below meth c T locs cells slots →
    (∃ (v : Option Value) (st₀ t T' : State) (L : List Loc), st₀.heap = H ∧ Stand p l e R s m args below meth c T' (locs ++ L) (cells + mc) (slots + ms) ∧ (∀ q ∈ L, free q.base) ∧ T'.heap = t.heap ∧ T'.vm = t.vm ∧ Qa st₀ (.returned v) t ∧
      Goes p e below T g T' { g with pc := g.pc + 3, stack := v.toList ++ rest }) ∨
    (∃ (q : Addr) (st₀ t T' : State) (L : List Loc) (E : String) (ce : Cell), st₀.heap = H ∧ Stand p l e R s m args below meth c T' (locs ++ L) (cells + mc) (slots + ms) ∧ (∀ z ∈ L, free z.base) ∧ T'.heap = t.heap ∧ T'.vm = t.vm ∧ XC E st₀ t ∧ t.heap[q]? = some ce ∧ ce.vm = .none ∧ s.vm.findClass E = some ce.cls ∧
      Steps p.tables e below (T.setTop g) ((T'.setTop { g with stack := rest }).pushFrame (.throwing q)))
def vx_X {S : Type} (px : S → Prop) (B : String → S → State → Prop) (A : Nat → Prop) : String → State → State → Prop := fun E st t => ∃ u : S, px u ∧ B E u t ∧ va_F A st t
section Runs
variable {p : Program} {l : Launch} {e : Env} {R : Room} {s : State} {m : MethodId} {args : Array Value} {below : List Frame} {meth : Method} {c : Code} {H : Heap} {locs : List Loc} {cells slots : Nat}
variable {y : MethodName} {bytes cc : ByteArray} {maxL nL mc ms n index : Nat} {ret : Option FieldType} {ws : List Cond} {rm : Room} {Pc : Array Value → State → Prop} {Qc : Array Value → State → Outcome → State → Prop} {XC : String → State → State → Prop} {free : Addr → Prop} {Ts : List Cond} {own C : String} {b : Addr} {As rest : List Value} {g : JFrame}
theorem vx_callBack (cb : CallB R s args own index y bytes maxL ret ws rm mc ms n) (hM : vx_Met l y ws rm Pc Qc XC mc ms free) (hbl : FrameBlind Pc) : vx_Back l R p e below s args y 3 8 (PreOf R mc ms Pc) (PostOf Qc mc ms free) (vx_Post XC mc ms free) := by
  obtain ⟨hrc, hrs, hfr, hlo, hws, hcw, -, hini, -⟩ := cb
  exact vx_back (bytes := bytes) (maxL := maxL) (ret := ret) hM hbl hrc hrs hfr hlo hws hcw (fun a' U hW => word_at hW (Or.inl (by first | rfl | simp [Cond.onTables, Cond.keeps, Cond.steady])) hini)
theorem vx_runV (S : CallFix p m c cc nL s args Ts own) (hM : vx_Met l y ws rm Pc Qc XC mc ms free) (cw : CallW R s args own C index y bytes maxL ret ws rm mc ms n) (hp : PreV s H C b Pc As)
    (hg : g.method = m) (hn : As.length = n) (hsize : g.locals.size = nL) (hstack : g.stack = As.reverse ++ .ref b :: rest) (hW : 2 * g.monitorRoom + (rest.map fun v => v.category).sum ≤ 8) (hdg : decode cc g.pc = .ok (.invokevirtual index, 3)) (hf : cells + mc ≤ R.cells ∧ slots + ms ≤ R.slots) :
    vx_Run p l e R s m args below meth c H locs cells slots mc ms g rest (Qc (Value.ref b :: As).toArray) XC free := by
  have hK : vx_Back l R p e below s args y 3 8 (PreOf R mc ms Pc) (PostOf Qc mc ms free) (vx_Post XC mc ms free) := vx_callBack cw.1 hM hp.1
  obtain ⟨⟨-, -, -, -, -, -, hcode, -, hy, hlen, hl⟩, hin, hse⟩ := cw
  obtain ⟨hx, hb, hml, ho, -⟩ := S
  obtain ⟨-, ⟨cellB, hcB, hoB, hclB⟩, hPc⟩ := hp
  intro T hT X
  rcases vx_callV X hx (C := C) (bytes := bytes) (maxL := maxL) (ret := ret) ho hl hin hse hcode hy hK (by rw [hT]; exact hcB) hoB hclB hg (hsize.trans hml.symm) (argsL := As) (rest := rest) (fun sig h => hn.trans (hlen sig h)) hstack hW (by rw [hb]; exact hdg)
    (fun vm₁ hW₁ => ⟨hf.1, hf.2, hPc (T.setVm vm₁) hT hW₁⟩) with ⟨v, vm₁, ⟨U', l2, c2, s2⟩, hW₁, X', ⟨g', mk, t, L, e1, e2, hq, h1, hL, h2, h3⟩, st⟩ | ⟨q, vm₁, ⟨U', l2, c2, s2⟩, hW₁, X', ⟨g', mk, t, L, E, ce, e1, e2, hq, hce, hcv, hcl, h1, hL, h2, h3⟩, st⟩
  · dsimp only [Pt.U, Pt.locs, Pt.cells, Pt.slots] at X' e1 e2 h1 h2 h3 st
    subst h1; subst h2; subst h3
    exact Or.inl ⟨v, (T.setVm vm₁).calling g' mk (Value.ref b :: As).toArray, t, U', L, hT, X', hL, e1, e2, hq, st⟩
  · dsimp only [Pt.U, Pt.locs, Pt.cells, Pt.slots] at X' e1 e2 h1 h2 h3 st hcl
    subst h1; subst h2; subst h3
    exact Or.inr ⟨q, (T.setVm vm₁).calling g' mk (Value.ref b :: As).toArray, t, U', L, E, ce, hT, X', hL, e1, e2, hq, hce, hcv, vx_cls hW₁ hcl, st⟩
theorem vx_runS (S : CallFix p m c cc nL s args Ts own) (hM : vx_Met l y ws rm Pc Qc XC mc ms free) (cw : CallB R s args own index y bytes maxL ret ws rm mc ms n ∧ (Cond.static y).before args s = true) (hp : PreS s H Pc As)
    (hg : g.method = m) (hn : As.length = n) (hsize : g.locals.size = nL) (hstack : g.stack = As.reverse ++ rest) (hW : 2 * g.monitorRoom + (rest.map fun v => v.category).sum ≤ 8) (hdg : decode cc g.pc = .ok (.invokestatic index, 3)) (hf : cells + mc ≤ R.cells ∧ slots + ms ≤ R.slots) :
    vx_Run p l e R s m args below meth c H locs cells slots mc ms g rest (Qc As.toArray) XC free := by
  have hK : vx_Back l R p e below s args y 3 8 (PreOf R mc ms Pc) (PostOf Qc mc ms free) (vx_Post XC mc ms free) := vx_callBack cw.1 hM hp.1
  obtain ⟨⟨-, -, -, -, -, -, hcode, hini, hy, hlen, hl⟩, hstt⟩ := cw
  obtain ⟨hx, hb, hml, ho, -⟩ := S
  intro T hT X
  rcases vx_callS X hx (bytes := bytes) (maxL := maxL) (ret := ret) ho hl hstt hini hcode hy hK hg (hsize.trans hml.symm) (argsL := As) (rest := rest) (fun sig h => hn.trans (hlen sig h)) hstack hW (by rw [hb]; exact hdg)
    (fun vm₁ hW₁ => ⟨hf.1, hf.2, hp.2 (T.setVm vm₁) hT hW₁⟩) with ⟨v, vm₁, ⟨U', l2, c2, s2⟩, hW₁, X', ⟨g', mk, t, L, e1, e2, hq, h1, hL, h2, h3⟩, st⟩ | ⟨q, vm₁, ⟨U', l2, c2, s2⟩, hW₁, X', ⟨g', mk, t, L, E, ce, e1, e2, hq, hce, hcv, hcl, h1, hL, h2, h3⟩, st⟩
  · dsimp only [Pt.U, Pt.locs, Pt.cells, Pt.slots] at X' e1 e2 h1 h2 h3 st
    subst h1; subst h2; subst h3
    exact Or.inl ⟨v, (T.setVm vm₁).calling g' mk As.toArray, t, U', L, hT, X', hL, e1, e2, hq, st⟩
  · dsimp only [Pt.U, Pt.locs, Pt.cells, Pt.slots] at X' e1 e2 h1 h2 h3 st hcl
    subst h1; subst h2; subst h3
    exact Or.inr ⟨q, (T.setVm vm₁).calling g' mk As.toArray, t, U', L, E, ce, hT, X', hL, e1, e2, hq, hce, hcv, vx_cls hW₁ hcl, st⟩
end Runs
section Rows
variable {p : Program} {l : Launch} {e : Env} {R : Room} {s : State} {m : MethodId} {args : Array Value} {below : List Frame} {meth : Method} {c : Code} {H : Heap} {locs : List Loc} {cells slots : Nat} {Q : State → Prop}
variable {mc ms : Nat} {free : Addr → Prop} {A0 A1 : Nat → Prop} {H0 : Heap} {a : Array Value} {pc : Nat} {ls : Array Slot} {st0 rest : List Value}
theorem vx_keep {st₀ t T' : State} {L : List Loc} (h0 : st₀.heap = H) (e1 : T'.heap = t.heap) (hS : va_S A0 H0 H locs) (hA : ∀ q, q < H.size → A1 q → A0 q) (hf : ∀ q, free q → A0 q) (hL : ∀ q ∈ L, free q.base) (hF : va_F A1 st₀ t) :
    H.size ≤ T'.heap.size ∧ (∀ q : Nat, q < H.size → ¬ A1 q → T'.heap[q]? = H[q]?) ∧ va_S A0 H0 T'.heap (locs ++ L) := by
  obtain ⟨hz, hk⟩ := hF
  rw [h0] at hz hk
  exact ⟨by rw [e1]; exact hz, fun q h1 h2 => by rw [e1]; exact hk q h1 h2,
    ⟨Nat.le_trans hS.1 (by rw [e1]; exact hz), fun q h1 h2 => by rw [e1, hk q (Nat.lt_of_lt_of_le h1 hS.1) (fun z => h2 (hA q (Nat.lt_of_lt_of_le h1 hS.1) z))]; exact hS.2.1 q h1 h2, fun q hq => by
      rcases List.mem_append.mp hq with h | h
      · exact hS.2.2 q h
      · exact hf _ (hL q h)⟩⟩
theorem vx_calli {S SX : Type} {post : Int32 → S → Prop} {px : SX → Prop} {B : S → State → Prop} {BX : String → SX → State → Prop} {AX : Nat → Prop} (hr : vx_Run p l e R s m args below meth c H locs cells slots mc ms (F0 m pc ls st0) rest (va_Qi post B A1 a) (vx_X px BX AX) free) (hS : va_S A0 H0 H locs) (hA : ∀ q, q < H.size → A1 q → A0 q) (hf : ∀ q, free q → A0 q) (hAX : ∀ q, q < H.size → AX q → A0 q)
    (kx : ∀ (E : String) (ce : Cell) (q9 : Addr) (u : SX) (t : State) (H1 : Heap) (locs1 : List Loc), t.heap = H1 → s.vm.Alike t.vm → px u → BX E u t → H.size ≤ H1.size → (∀ q : Nat, q < H.size → ¬ AX q → H1[q]? = H[q]?) → va_S A0 H0 H1 locs1 → H1[q9]? = some ce → ce.vm = .none → s.vm.findClass E = some ce.cls → vx_W p l e R s m args below meth c H1 locs1 (cells + mc) (slots + ms) Q (F0 m pc ls rest) q9)
    (kk : ∀ (r : Int32) (u : S) (t : State) (H1 : Heap) (locs1 : List Loc), t.heap = H1 → s.vm.Alike t.vm → post r u → B u t → H.size ≤ H1.size → (∀ q : Nat, q < H.size → ¬ A1 q → H1[q]? = H[q]?) → va_S A0 H0 H1 locs1 → W p l e R s m args below meth c H1 locs1 (cells + mc) (slots + ms) Q (F0 m (pc + 3) ls (.int r :: rest))) : W p l e R s m args below meth c H locs cells slots Q (F0 m pc ls st0) := by
  intro T hT X
  rcases hr T hT X with ⟨v, st₀, t, T', L, h0, X', hL, e1, e2, ⟨⟨r, u, hv, hp, hb⟩, hF⟩, st⟩ | ⟨q, st₀, t, T', L, E, ce, h0, X', hL, e1, e2, ⟨u, hp, hb, hF⟩, hce, hcv, hcl, st⟩
  · cases hv
    obtain ⟨k1, k2, k3⟩ := vx_keep h0 e1 hS hA hf hL hF
    obtain ⟨t2, a1, b1⟩ := kk r u t T'.heap (locs ++ L) e1.symm (by rw [← e2]; exact X'.warmed.alike) hp hb k1 k2 k3 T' rfl X'
    exact ⟨t2, st t2 a1, b1⟩
  · obtain ⟨k1, k2, k3⟩ := vx_keep h0 e1 hS hAX hf hL hF
    obtain ⟨t2, a1, b1⟩ := kx E ce q u t T'.heap (locs ++ L) e1.symm (by rw [← e2]; exact X'.warmed.alike) hp hb k1 k2 k3 (by rw [e1]; exact hce) hcv hcl T' rfl X'
    exact ⟨t2, st.trans a1, b1⟩
theorem vx_calll {S SX : Type} {post : Int64 → S → Prop} {px : SX → Prop} {B : S → State → Prop} {BX : String → SX → State → Prop} {AX : Nat → Prop} (hr : vx_Run p l e R s m args below meth c H locs cells slots mc ms (F0 m pc ls st0) rest (va_Ql post B A1 a) (vx_X px BX AX) free) (hS : va_S A0 H0 H locs) (hA : ∀ q, q < H.size → A1 q → A0 q) (hf : ∀ q, free q → A0 q) (hAX : ∀ q, q < H.size → AX q → A0 q)
    (kx : ∀ (E : String) (ce : Cell) (q9 : Addr) (u : SX) (t : State) (H1 : Heap) (locs1 : List Loc), t.heap = H1 → s.vm.Alike t.vm → px u → BX E u t → H.size ≤ H1.size → (∀ q : Nat, q < H.size → ¬ AX q → H1[q]? = H[q]?) → va_S A0 H0 H1 locs1 → H1[q9]? = some ce → ce.vm = .none → s.vm.findClass E = some ce.cls → vx_W p l e R s m args below meth c H1 locs1 (cells + mc) (slots + ms) Q (F0 m pc ls rest) q9)
    (kk : ∀ (r : Int64) (u : S) (t : State) (H1 : Heap) (locs1 : List Loc), t.heap = H1 → s.vm.Alike t.vm → post r u → B u t → H.size ≤ H1.size → (∀ q : Nat, q < H.size → ¬ A1 q → H1[q]? = H[q]?) → va_S A0 H0 H1 locs1 → W p l e R s m args below meth c H1 locs1 (cells + mc) (slots + ms) Q (F0 m (pc + 3) ls (.long r :: rest))) : W p l e R s m args below meth c H locs cells slots Q (F0 m pc ls st0) := by
  intro T hT X
  rcases hr T hT X with ⟨v, st₀, t, T', L, h0, X', hL, e1, e2, ⟨⟨r, u, hv, hp, hb⟩, hF⟩, st⟩ | ⟨q, st₀, t, T', L, E, ce, h0, X', hL, e1, e2, ⟨u, hp, hb, hF⟩, hce, hcv, hcl, st⟩
  · cases hv
    obtain ⟨k1, k2, k3⟩ := vx_keep h0 e1 hS hA hf hL hF
    obtain ⟨t2, a1, b1⟩ := kk r u t T'.heap (locs ++ L) e1.symm (by rw [← e2]; exact X'.warmed.alike) hp hb k1 k2 k3 T' rfl X'
    exact ⟨t2, st t2 a1, b1⟩
  · obtain ⟨k1, k2, k3⟩ := vx_keep h0 e1 hS hAX hf hL hF
    obtain ⟨t2, a1, b1⟩ := kx E ce q u t T'.heap (locs ++ L) e1.symm (by rw [← e2]; exact X'.warmed.alike) hp hb k1 k2 k3 (by rw [e1]; exact hce) hcv hcl T' rfl X'
    exact ⟨t2, st.trans a1, b1⟩
theorem vx_callf {S SX : Type} {post : UInt32 → S → Prop} {px : SX → Prop} {B : S → State → Prop} {BX : String → SX → State → Prop} {AX : Nat → Prop} (hr : vx_Run p l e R s m args below meth c H locs cells slots mc ms (F0 m pc ls st0) rest (va_Qf post B A1 a) (vx_X px BX AX) free) (hS : va_S A0 H0 H locs) (hA : ∀ q, q < H.size → A1 q → A0 q) (hf : ∀ q, free q → A0 q) (hAX : ∀ q, q < H.size → AX q → A0 q)
    (kx : ∀ (E : String) (ce : Cell) (q9 : Addr) (u : SX) (t : State) (H1 : Heap) (locs1 : List Loc), t.heap = H1 → s.vm.Alike t.vm → px u → BX E u t → H.size ≤ H1.size → (∀ q : Nat, q < H.size → ¬ AX q → H1[q]? = H[q]?) → va_S A0 H0 H1 locs1 → H1[q9]? = some ce → ce.vm = .none → s.vm.findClass E = some ce.cls → vx_W p l e R s m args below meth c H1 locs1 (cells + mc) (slots + ms) Q (F0 m pc ls rest) q9)
    (kk : ∀ (r : UInt32) (u : S) (t : State) (H1 : Heap) (locs1 : List Loc), t.heap = H1 → s.vm.Alike t.vm → post r u → B u t → H.size ≤ H1.size → (∀ q : Nat, q < H.size → ¬ A1 q → H1[q]? = H[q]?) → va_S A0 H0 H1 locs1 → W p l e R s m args below meth c H1 locs1 (cells + mc) (slots + ms) Q (F0 m (pc + 3) ls (.float r :: rest))) : W p l e R s m args below meth c H locs cells slots Q (F0 m pc ls st0) := by
  intro T hT X
  rcases hr T hT X with ⟨v, st₀, t, T', L, h0, X', hL, e1, e2, ⟨⟨r, u, hv, hp, hb⟩, hF⟩, st⟩ | ⟨q, st₀, t, T', L, E, ce, h0, X', hL, e1, e2, ⟨u, hp, hb, hF⟩, hce, hcv, hcl, st⟩
  · cases hv
    obtain ⟨k1, k2, k3⟩ := vx_keep h0 e1 hS hA hf hL hF
    obtain ⟨t2, a1, b1⟩ := kk r u t T'.heap (locs ++ L) e1.symm (by rw [← e2]; exact X'.warmed.alike) hp hb k1 k2 k3 T' rfl X'
    exact ⟨t2, st t2 a1, b1⟩
  · obtain ⟨k1, k2, k3⟩ := vx_keep h0 e1 hS hAX hf hL hF
    obtain ⟨t2, a1, b1⟩ := kx E ce q u t T'.heap (locs ++ L) e1.symm (by rw [← e2]; exact X'.warmed.alike) hp hb k1 k2 k3 (by rw [e1]; exact hce) hcv hcl T' rfl X'
    exact ⟨t2, st.trans a1, b1⟩
theorem vx_calld {S SX : Type} {post : UInt64 → S → Prop} {px : SX → Prop} {B : S → State → Prop} {BX : String → SX → State → Prop} {AX : Nat → Prop} (hr : vx_Run p l e R s m args below meth c H locs cells slots mc ms (F0 m pc ls st0) rest (va_Qd post B A1 a) (vx_X px BX AX) free) (hS : va_S A0 H0 H locs) (hA : ∀ q, q < H.size → A1 q → A0 q) (hf : ∀ q, free q → A0 q) (hAX : ∀ q, q < H.size → AX q → A0 q)
    (kx : ∀ (E : String) (ce : Cell) (q9 : Addr) (u : SX) (t : State) (H1 : Heap) (locs1 : List Loc), t.heap = H1 → s.vm.Alike t.vm → px u → BX E u t → H.size ≤ H1.size → (∀ q : Nat, q < H.size → ¬ AX q → H1[q]? = H[q]?) → va_S A0 H0 H1 locs1 → H1[q9]? = some ce → ce.vm = .none → s.vm.findClass E = some ce.cls → vx_W p l e R s m args below meth c H1 locs1 (cells + mc) (slots + ms) Q (F0 m pc ls rest) q9)
    (kk : ∀ (r : UInt64) (u : S) (t : State) (H1 : Heap) (locs1 : List Loc), t.heap = H1 → s.vm.Alike t.vm → post r u → B u t → H.size ≤ H1.size → (∀ q : Nat, q < H.size → ¬ A1 q → H1[q]? = H[q]?) → va_S A0 H0 H1 locs1 → W p l e R s m args below meth c H1 locs1 (cells + mc) (slots + ms) Q (F0 m (pc + 3) ls (.double r :: rest))) : W p l e R s m args below meth c H locs cells slots Q (F0 m pc ls st0) := by
  intro T hT X
  rcases hr T hT X with ⟨v, st₀, t, T', L, h0, X', hL, e1, e2, ⟨⟨r, u, hv, hp, hb⟩, hF⟩, st⟩ | ⟨q, st₀, t, T', L, E, ce, h0, X', hL, e1, e2, ⟨u, hp, hb, hF⟩, hce, hcv, hcl, st⟩
  · cases hv
    obtain ⟨k1, k2, k3⟩ := vx_keep h0 e1 hS hA hf hL hF
    obtain ⟨t2, a1, b1⟩ := kk r u t T'.heap (locs ++ L) e1.symm (by rw [← e2]; exact X'.warmed.alike) hp hb k1 k2 k3 T' rfl X'
    exact ⟨t2, st t2 a1, b1⟩
  · obtain ⟨k1, k2, k3⟩ := vx_keep h0 e1 hS hAX hf hL hF
    obtain ⟨t2, a1, b1⟩ := kx E ce q u t T'.heap (locs ++ L) e1.symm (by rw [← e2]; exact X'.warmed.alike) hp hb k1 k2 k3 (by rw [e1]; exact hce) hcv hcl T' rfl X'
    exact ⟨t2, st.trans a1, b1⟩
theorem vx_callv {S SX : Type} {post : S → Prop} {px : SX → Prop} {B : S → State → Prop} {BX : String → SX → State → Prop} {AX : Nat → Prop} (hr : vx_Run p l e R s m args below meth c H locs cells slots mc ms (F0 m pc ls st0) rest (va_Qv post B A1 a) (vx_X px BX AX) free) (hS : va_S A0 H0 H locs) (hA : ∀ q, q < H.size → A1 q → A0 q) (hf : ∀ q, free q → A0 q) (hAX : ∀ q, q < H.size → AX q → A0 q)
    (kx : ∀ (E : String) (ce : Cell) (q9 : Addr) (u : SX) (t : State) (H1 : Heap) (locs1 : List Loc), t.heap = H1 → s.vm.Alike t.vm → px u → BX E u t → H.size ≤ H1.size → (∀ q : Nat, q < H.size → ¬ AX q → H1[q]? = H[q]?) → va_S A0 H0 H1 locs1 → H1[q9]? = some ce → ce.vm = .none → s.vm.findClass E = some ce.cls → vx_W p l e R s m args below meth c H1 locs1 (cells + mc) (slots + ms) Q (F0 m pc ls rest) q9)
    (kk : ∀ (u : S) (t : State) (H1 : Heap) (locs1 : List Loc), t.heap = H1 → s.vm.Alike t.vm → post u → B u t → H.size ≤ H1.size → (∀ q : Nat, q < H.size → ¬ A1 q → H1[q]? = H[q]?) → va_S A0 H0 H1 locs1 → W p l e R s m args below meth c H1 locs1 (cells + mc) (slots + ms) Q (F0 m (pc + 3) ls (rest))) : W p l e R s m args below meth c H locs cells slots Q (F0 m pc ls st0) := by
  intro T hT X
  rcases hr T hT X with ⟨v, st₀, t, T', L, h0, X', hL, e1, e2, ⟨⟨u, hv, hp, hb⟩, hF⟩, st⟩ | ⟨q, st₀, t, T', L, E, ce, h0, X', hL, e1, e2, ⟨u, hp, hb, hF⟩, hce, hcv, hcl, st⟩
  · cases hv
    obtain ⟨k1, k2, k3⟩ := vx_keep h0 e1 hS hA hf hL hF
    obtain ⟨t2, a1, b1⟩ := kk u t T'.heap (locs ++ L) e1.symm (by rw [← e2]; exact X'.warmed.alike) hp hb k1 k2 k3 T' rfl X'
    exact ⟨t2, st t2 a1, b1⟩
  · obtain ⟨k1, k2, k3⟩ := vx_keep h0 e1 hS hAX hf hL hF
    obtain ⟨t2, a1, b1⟩ := kx E ce q u t T'.heap (locs ++ L) e1.symm (by rw [← e2]; exact X'.warmed.alike) hp hb k1 k2 k3 (by rw [e1]; exact hce) hcv hcl T' rfl X'
    exact ⟨t2, st.trans a1, b1⟩
/-- caught by the row x of this method's table; the rows ahead don't take it -/
theorem vx_catch {own name : String} {E : String} {ce : Cell} {q : Addr} (hown : s.vm.findClass own = some m.cls) (pre : List ExceptionTableEntry) (x : ExceptionTableEntry) (suf : List ExceptionTableEntry) (hsplit : c.exceptionTable.toList = pre ++ x :: suf)
    (hpass : ∀ z ∈ pre, covers z pc = false ∨ (z.catchType ≠ 0 ∧ ∃ nm : String, (Cond.classLink own z.catchType nm).before args s = true ∧ va_Nc E nm s)) (hx : covers x pc = true) (h0 : x.catchType ≠ 0)
    (hlink : (Cond.classLink own x.catchType name).before args s = true) (hcast : (Cond.castable E name).before args s = true) (hcell : H[q]? = some ce) (hv : ce.vm = .none) (hcl : s.vm.findClass E = some ce.cls)
    (kk : W p l e R s m args below meth c H locs cells slots Q (F0 m x.handlerPc ls [.ref q])) : vx_W p l e R s m args below meth c H locs cells slots Q (F0 m pc ls rest) q := by
  intro T hT X
  have hpl : e.platform.magicAccessors = ({} : Platform).magicAccessors := by rw [X.admits.platform]
  obtain ⟨c3, c4, hc3, hc4, hasg⟩ := Cond.castable_spec hcast
  cases Option.some.inj (hc3.symm.trans hcl)
  obtain ⟨c5, hc5, hcl5⟩ := Cond.classLink_spec hown hlink e.platform hpl
  cases Option.some.inj (hc4.symm.trans hc5)
  obtain ⟨vm', X', st⟩ := X.thenCaughtThrough q (g := F0 m pc ls rest) rfl (Steps.refl _) (by rw [hT]; exact hcell) (by rw [hv]; rfl) (by obtain ⟨k9, h9, -⟩ := Vm.findClass_spec hcl; exact ⟨k9, h9⟩) pre x suf hsplit
    (fun z hz => by
      rcases hpass z hz with h | ⟨hz0, nm, hl1, hn1⟩
      · exact Or.inl h
      · obtain ⟨c6, hc6, hcl6⟩ := Cond.classLink_spec hown hl1 e.platform hpl
        obtain ⟨a8, b8, h1, h2, h3⟩ := hn1
        cases Option.some.inj (h1.symm.trans hcl)
        cases Option.some.inj (h2.symm.trans hc6)
        exact Or.inr ⟨hz0, _, hcl6, h3⟩) hx (Or.inr ⟨h0, c4, hcl5, hasg⟩)
  obtain ⟨t, a1, b1⟩ := kk (T.setVm vm') hT X'
  exact ⟨t, st.trans a1, b1⟩
end Rows
section Ends
variable {p : Program} {l : Launch} {e : Env} {R : Room} {s : State} {m : MethodId} {args : Array Value} {below : List Frame} {meth : Method} {c : Code} {H : Heap} {locs : List Loc} {cells slots : Nat} {Q : State → Prop}
variable {mc ms : Nat} {free : Addr → Prop} {A0 A1 : Nat → Prop} {H0 : Heap} {a : Array Value} {ls : Array Slot} {st0 rest : List Value}
variable {Qc : Array Value → State → Outcome → State → Prop} {XC : String → State → State → Prop}
/-- what a body that may throw owes at its end -/
def vx_MQ (below : List Frame) (Qc : Array Value → State → Outcome → State → Prop) (XC : String → State → State → Prop) (a : Array Value) (s : State) (mc ms : Nat) (free : Addr → Prop) : State → Prop := fun t =>
  ∃ o, t.status = .running ∧ Ended t below o ∧ vx_Q Qc XC mc ms free a s o t
theorem vx_ret {g : JFrame} {mc ms : Nat} (k : W p l e R s m args below meth c H locs cells slots (MQ below Qc args s mc ms free) g) : W p l e R s m args below meth c H locs cells slots (vx_MQ below Qc XC args s mc ms free) g := by
  intro T hT X
  obtain ⟨t, a1, o, b1, b2, b3, b4⟩ := k T hT X
  exact ⟨t, a1, o, b1, b2, Or.inl ⟨b3, b4⟩⟩
/-- not caught here: it goes on to the caller -/
theorem vx_widen {g : JFrame} {q : Addr} {k n : Nat} (h1 : cells ≤ k) (h2 : slots ≤ n) (kk : vx_W p l e R s m args below meth c H locs k n Q g q) : vx_W p l e R s m args below meth c H locs cells slots Q g q := fun T hT X => kk T hT (stand_widen X h1 h2)
theorem vx_out {pc : Nat} {E : String} {ce : Cell} {q : Addr} {mc ms : Nat} (hout : ∀ x ∈ c.exceptionTable.toList, covers x pc = false) (hlocks : meth.locks = false) (hcell : H[q]? = some ce) (hv : ce.vm = .none) (hcl : s.vm.findClass E = some ce.cls)
    (hx : ∀ t : State, t.heap = H → s.vm.Alike t.vm → XC E s t) (hf : ∀ z ∈ locs, free z.base) (hc : cells ≤ mc) (hs : slots ≤ ms) :
    vx_W p l e R s m args below meth c H locs cells slots (vx_MQ below Qc XC args s mc ms free) (F0 m pc ls rest) q := by
  intro T hT X
  obtain ⟨st1, hrun, hend, hW, hsm⟩ := X.leaveThrown q (g := F0 m pc ls rest) rfl rfl rfl hout hlocks
  have hcell9 : (T.setFrames (.throwing q :: below)).heap[q]? = some ce := by
    show T.heap[q]? = some ce
    rw [hT]; exact hcell
  exact ⟨_, st1, .threw q, hrun, hend, Or.inr ⟨q, rfl, E, ce, locs, hx _ hT hW.alike, hcell9, hv, hcl, hW, hsm.mono hc hs, hf⟩⟩
theorem vx_frame {U : State} {k n : Nat} (h : s.sameButNew ({ U with vm := s.vm } : State) locs k n) : s.heap.size ≤ U.heap.size ∧ ∀ q : Nat, q < s.heap.size → (∀ z ∈ locs, z.base ≠ q) → U.heap[q]? = s.heap[q]? := by
  obtain ⟨-, h2, -, -, -, h6⟩ := h
  refine ⟨h2, fun q hq hz => ?_⟩
  obtain ⟨c9, e1, e2, e3, e4⟩ := h6 q _ (Array.getElem?_eq_getElem hq)
  have hs : c9.slots = (s.heap[q]).slots := Array.ext_getElem? fun i => e4 i fun hm => hz _ hm rfl
  have h9 : c9 = s.heap[q] := by
    rw [hs] at e2
    exact e2
  have e5 : U.heap[q]? = some c9 := e1
  rw [e5, h9, Array.getElem?_eq_getElem hq]
/-- the words of a throw but the four that speak of the heap -/
def vx_no (w : Cond) : Bool := decide (w ≠ .isRef (.static Bundle.tN "UNASSIGNED_STACK" Bundle.steD)) && decide (w ≠ .isRef (.static Bundle.tN "SUPPRESSED_SENTINEL" Bundle.listD)) && decide (w ≠ .laysStatic Bundle.tN "UNASSIGNED_STACK" Bundle.steD) && decide (w ≠ .laysStatic Bundle.tN "SUPPRESSED_SENTINEL" Bundle.listD)
def vx_at0 (own : String) (ic : Nat) (X : String) (names : List String) : List Cond := (Bundle.ownAtoms0 own ic X names).filter vx_no
def vx_atS (own : String) (ic : Nat) (X : String) (names : List String) : List Cond := (Bundle.ownAtoms own ic X names).filter vx_no
/-- a word that the tables alone decide, or a good one -/
def vx_ot (w : Cond) : Bool := w.onTables || goodWord w
theorem vx_ot_at {args a' : Array Value} {s U : State} {w : Cond} (hW : s.WarmedH U.vm) (hvm : s.vm = U.vm) (hg : vx_ot w = true) (h : w.before args s = true) : w.before a' U = true := by
  simp only [vx_ot, Bool.or_eq_true] at hg
  rcases hg with hg | hg
  · exact va_tabs hg hvm h
  · exact word_at hW (good_of_word hg) h
/-- a list's words: the good ones out of the method's own list, the others by premises of their own -/
theorem vx_hat {args : Array Value} {s : State} {L B : List Cond} (h1 : ∀ w ∈ L.filter goodWord, w.before args s = true) (h2 : ∀ w ∈ L.filter (fun w => !goodWord w), w ∈ B) (h3 : ∀ w ∈ B, w.before args s = true) : ∀ w ∈ L, w.before args s = true := by
  intro w hw
  by_cases g : goodWord w = true
  · exact h1 w (List.mem_filter.mpr ⟨hw, g⟩)
  · refine h3 w (h2 w (List.mem_filter.mpr ⟨hw, ?_⟩))
    show (!goodWord w) = true
    cases hgw : goodWord w
    · rfl
    · exact absurd hgw g
theorem vx_c {args : Array Value} {s : State} {w : Cond} {B : List Cond} (h : w.before args s = true) (t : ∀ w ∈ B, w.before args s = true) : ∀ w' ∈ w :: B, w'.before args s = true := fun w' h' => (List.mem_cons.mp h').elim (fun e => by rw [e]; exact h) (t w')
theorem vx_n {args : Array Value} {s : State} : ∀ w ∈ ([] : List Cond), w.before args s = true := fun _ h => nomatch h
theorem vx_own {args : Array Value} {s : State} {L : List Cond} (h1 : ∀ w ∈ L.filter vx_no, w.before args s = true)
    (hU : (Cond.isRef (.static Bundle.tN "UNASSIGNED_STACK" Bundle.steD)).before args s = true) (hN : (Cond.isRef (.static Bundle.tN "SUPPRESSED_SENTINEL" Bundle.listD)).before args s = true)
    (lU : (Cond.laysStatic Bundle.tN "UNASSIGNED_STACK" Bundle.steD).before args s = true) (lN : (Cond.laysStatic Bundle.tN "SUPPRESSED_SENTINEL" Bundle.listD).before args s = true) : ∀ w ∈ L, w.before args s = true := by
  intro w hw
  by_cases e1 : w = .isRef (.static Bundle.tN "UNASSIGNED_STACK" Bundle.steD)
  · rw [e1]; exact hU
  · by_cases e2 : w = .isRef (.static Bundle.tN "SUPPRESSED_SENTINEL" Bundle.listD)
    · rw [e2]; exact hN
    · by_cases e3 : w = .laysStatic Bundle.tN "UNASSIGNED_STACK" Bundle.steD
      · rw [e3]; exact lU
      · by_cases e4 : w = .laysStatic Bundle.tN "SUPPRESSED_SENTINEL" Bundle.listD
        · rw [e4]; exact lN
        · exact h1 w (List.mem_filter.mpr ⟨hw, by unfold vx_no; rw [decide_eq_true e1, decide_eq_true e2, decide_eq_true e3, decide_eq_true e4]; rfl⟩)
/-- where a static field lies, its class's statics cell in H -/
def vx_L (C n d : String) (A : Nat → Prop) (U : State) (H : Heap) : Prop := ∃ (c : ClassId) (k : Class) (i : Nat) (f : Field) (a : Nat) (cell : Cell), U.vm.findClass C = some c ∧ U.fieldFound? C n d = some (c, k, i, f) ∧ f.isStatic = true ∧ k.statics = some a ∧ H[a]? = some cell ∧ cell.vm.isStatics = true ∧ cell.cls = c ∧ f.slot < cell.slots.size ∧ k.staticTypes[f.slot]? = some f.type ∧ ¬ A a
theorem vx_L.moved {C n d : String} {A : Nat → Prop} {u U : State} {H : Heap} (hvm : u.vm.Alike U.vm) (h : vx_L C n d A u H) : vx_L C n d A U H := by
  obtain ⟨c, k, i, f, a, cell, h1, h2, h3, h4, h5, h6, h7, h8, h9, h10⟩ := h
  obtain ⟨k', hi', he⟩ := State.fieldFound?_setVm hvm h2
  exact ⟨c, k', i, f, a, cell, by rw [hvm.findClass]; exact h1, hi', h3, by rw [he]; exact h4, h5, h6, h7, h8, by rw [he]; exact h9, h10⟩
theorem vx_L.kept {C n d : String} {A : Nat → Prop} {U : State} {H H1 : Heap} (h : vx_L C n d A U H) (hq : ∀ a : Nat, a < H.size → ¬ A a → H1[a]? = H[a]?) : vx_L C n d A U H1 := by
  obtain ⟨c, k, i, f, a, cell, h1, h2, h3, h4, h5, h6, h7, h8, h9, h10⟩ := h
  exact ⟨c, k, i, f, a, cell, h1, h2, h3, h4, by rw [hq a (Array.getElem?_eq_some_iff.mp h5).1 h10]; exact h5, h6, h7, h8, h9, h10⟩
theorem vx_L.narrow {C n d : String} {A B : Nat → Prop} {U : State} {H : Heap} (h : vx_L C n d A U H) (hAB : ∀ q, B q → A q) : vx_L C n d B U H := by
  obtain ⟨c, k, i, f, a, cell, h1, h2, h3, h4, h5, h6, h7, h8, h9, h10⟩ := h
  exact ⟨c, k, i, f, a, cell, h1, h2, h3, h4, h5, h6, h7, h8, h9, fun z => h10 (hAB _ z)⟩
theorem vx_L.word {C n d : String} {A : Nat → Prop} {s : State} {args : Array Value} (h : vx_L C n d A s s.heap) : (Cond.laysStatic C n d).before args s = true := by
  obtain ⟨c, k, i, f, a, cell, h1, h2, h3, h4, h5, h6, h7, h8, h9, -⟩ := h
  show (Cond.laysStatic C n d).holds args s none s [] = true
  exact Cond.laysStatic_of h1 h2 h3 h4 h5 h6 h7 h8 h9
/-- .. and what it holds: null or some reference -/
def vx_Zq (C n d : String) (A : Nat → Prop) (U : State) (H : Heap) : Prop := va_Zq C n d A U H ∧ vx_L C n d A U H
theorem vx_Zq.moved {C n d : String} {A : Nat → Prop} {u U : State} {H : Heap} (hvm : u.vm.Alike U.vm) (h : vx_Zq C n d A u H) : vx_Zq C n d A U H := ⟨va_Zq.moved hvm h.1, vx_L.moved hvm h.2⟩
theorem vx_Zq.kept {C n d : String} {A : Nat → Prop} {U : State} {H H1 : Heap} (h : vx_Zq C n d A U H) (hq : ∀ a : Nat, a < H.size → ¬ A a → H1[a]? = H[a]?) : vx_Zq C n d A U H1 := ⟨va_Zq.kept h.1 hq, vx_L.kept h.2 hq⟩
theorem vx_Zq.narrow {C n d : String} {A B : Nat → Prop} {U : State} {H : Heap} (h : vx_Zq C n d A U H) (hAB : ∀ q, B q → A q) : vx_Zq C n d B U H := ⟨va_Zq.narrow h.1 hAB, vx_L.narrow h.2 hAB⟩
theorem vx_Zqof {args : Array Value} {s : State} {C n d : String} {A : Nat → Prop} (hl : (Cond.laysStatic C n d).before args s = true) (hini : (Cond.initialized C).before args s = true) (h : (Cond.isRef (.static C n d)).before args s = true) (hA : ∀ a : Nat, a < s.heap.size → ¬ A a) : vx_Zq C n d A s s.heap := by
  refine ⟨va_Zqof hl hini h hA, ?_⟩
  obtain ⟨c, k, i, f, a, cell, h1, h2, h3, h4, h5, h6, h7, h8, h9⟩ := Cond.laysStatic_spec hl
  exact ⟨c, k, i, f, a, cell, h1, h2, h3, h4, h5, h6, h7, h8, h9, hA a (Array.getElem?_eq_some_iff.mp h5).1⟩
theorem vx_isRef {C n d : String} {v : Value} {A : Nat → Prop} {s : State} {args : Array Value} (h : va_Z C n d v A s s.heap) (hv : v.isRef = true) : (Cond.isRef (.static C n d)).before args s = true := by
  obtain ⟨cf, kf, fi, f, a, cell, h1, h2, h3, h4, h5, h6, h7, -⟩ := h
  have he : (Term.static C n d).eval args s none [] s = some v := by
    simp [Term.eval, State.fieldNamed?, h1, h2, h4, h5, h6, h7]
  simp only [Cond.before, Cond.holds, Cond.value, he]
  cases v <;> simp_all [Value.isRef]
theorem vx_isRefq {C n d : String} {A : Nat → Prop} {s : State} {args : Array Value} (h : va_Zq C n d A s s.heap) : (Cond.isRef (.static C n d)).before args s = true := by
  rcases h with h | ⟨t, h⟩
  · exact vx_isRef h rfl
  · exact vx_isRef h rfl
/-- the same frame, seen from here: as if the method were called anew in this heap -/
theorem vx_rebase {T : State} (X : Stand p l e R s m args below meth c T locs cells slots) {R' : Room} (hf : R'.frames ≤ R.frames) (hl : R'.locals ≤ R.locals) (hc : cells + R'.cells ≤ R.cells) (hs : slots + R'.slots ≤ R.slots) :
    Stand p l e R' ((T.setVm s.vm).setFrames (.invoking m args :: below)) m args below meth c T [] 0 0 := by
  have htop : (T.setVm s.vm).topJava?.isSome := X.here.top
  have hF : ((T.setVm s.vm).setFrames (.invoking m args :: below)).frames = .invoking m args :: below := State.frames_setFrames _ (State.cur_lt_of_top htop)
  obtain ⟨g₀, hg0⟩ := Option.isSome_iff_exists.mp htop
  obtain ⟨r, hr⟩ := State.topJava?_eq_some.mp hg0
  have hl9 : e.platform.stackLimits (T.setVm s.vm).me = e.platform.stackLimits s.me := X.limits
  have hb9 : (T.setVm s.vm).me.stackBytes = s.me.stackBytes := X.bytes
  refine ⟨X.admits, X.cas, X.clock, hF, ?_, X.hears, X.method, X.code, X.here, X.tail, X.warmed, ?_, ?_, ?_⟩
  · have h := X.room
    have hU : ((T.setVm s.vm).setFrames (.invoking m args :: below)).localsInUse = s.localsInUse := by
      rw [State.localsInUse_invoking hF (meth := meth) (c := c) X.method X.code, State.localsInUse_invoking X.frames X.method X.code]
    simp only [State.hasRoom, Bool.and_eq_true, decide_eq_true_eq] at h ⊢
    obtain ⟨⟨⟨⟨h1, h2, h3, h4, h5, h6⟩, h7⟩, h8⟩, h9⟩ := h
    rw [X.frames, List.length_cons] at h2 h3
    have q1 := X.heapSize
    have q2 := X.used
    simp only [hF, hU, List.length_cons, State.stackLimits_setFrames, State.stackBytes_setFrames, hl9, hb9]
    refine ⟨⟨⟨⟨by omega, by omega, by omega, by omega, by omega, h6⟩, ?_⟩, ?_⟩, X.book⟩
    · show T.heap.size + R'.cells ≤ e.platform.maxCells
      omega
    · show T.slotsUsed + R'.slots ≤ e.platform.maxSlots
      omega
  · rw [State.stackLimits_setFrames]; rfl
  · rw [State.stackBytes_setFrames]; rfl
  · refine ⟨?_, Nat.le_refl _, Nat.le_refl _, ?_, ?_, fun a c9 h9 => ⟨c9, h9, rfl, rfl, fun _ _ => rfl⟩⟩
    · obtain ⟨t, ht, -⟩ := State.frames_cons hr
      show T.setVm s.vm = { ((T.setVm s.vm).setFrames (.invoking m args :: below)).setFrames (T.setVm s.vm).frames with heap := T.heap, slotsUsed := T.slotsUsed }
      rw [State.setFrames_setFrames, State.setFrames_self ht]
      rfl
    · show T.slotsUsed = T.slotsUsed + ((T.heap.toList.drop T.heap.size).map (·.slots.size)).sum
      rw [List.drop_eq_nil_of_le (Nat.le_of_eq Array.length_toList)]
      rfl
    · show ((T.heap.toList.drop T.heap.size).map (·.slots.size)).sum ≤ 0
      rw [List.drop_eq_nil_of_le (Nat.le_of_eq Array.length_toList)]
      exact Nat.le_refl _
/-- 'throw new E()': new; dup; invokespecial; athrow -/
theorem vx_throw0 {cc : ByteArray} {pc : Nat} (hexec : p.tables.exec = Jvm.exec) (hb : c.code = cc) (hl : l.stackTraces = false) {own cls : String} {names : List String} {ik ic mc ms : Nat} {A : Nat → Prop}
    (hown : s.vm.findClass own = some m.cls) (hcls : Bundle.fit cls = true) (hnames : ∀ n ∈ names, Bundle.fit n = true)
    (hk : (Cond.classLink own ik cls).before args s = true) (hini : (Cond.initialized cls).before args s = true) (hat : ∀ w ∈ vx_at0 own ic cls names, w.before args s = true)
    (hgood : ∀ w ∈ Cond.classLink own ik cls :: Cond.initialized cls :: vx_at0 own ic cls names, vx_ot w = true)
    (hU : vx_Zq Bundle.tN "UNASSIGNED_STACK" Bundle.steD A s s.heap) (hN : vx_Zq Bundle.tN "SUPPRESSED_SENTINEL" Bundle.listD A s s.heap) (hS : va_S A s.heap H locs) (hsize : ls.size = c.maxLocals)
    (d0 : decode cc pc = .ok (.new ik, 3)) (d3 : decode cc (pc + 3) = .ok (.dup, 1)) (d4 : decode cc (pc + 4) = .ok (.invokespecial ic, 3)) (d7 : decode cc (pc + 7) = .ok (.athrow, 1))
    (hout : ∀ x ∈ c.exceptionTable.toList, covers x (pc + 7) = false)
    (hRframes : names.length + 3 < R.frames) (hRlocals : (rest.map fun v => v.category).sum + (13 * (names.length + 1) + 42) ≤ R.locals) (hRcells : cells + 1 ≤ R.cells) (hRslots : slots + 6 ≤ R.slots) (hlocks : meth.locks = false)
    (hx : ∀ t : State, s.vm.Alike t.vm → H.size ≤ t.heap.size → (∀ q : Nat, q < H.size → t.heap[q]? = H[q]?) → XC cls s t)
    (hf : ∀ z ∈ locs, free z.base) (hc : cells + 1 ≤ mc) (hs : slots + 6 ≤ ms) :
    W p l e R s m args below meth c H locs cells slots (vx_MQ below Qc XC args s mc ms free) (F0 m pc ls rest) := by
  intro T hT X
  have htr : e.platform.stackTraces = false := (show e.platform.stackTraces = l.stackTraces by rw [X.admits.platform]).trans hl
  have Y := vx_rebase X (R' := { frames := R.frames, locals := R.locals, cells := 1, slots := 6 }) (Nat.le_refl _) (Nat.le_refl _) hRcells hRslots
  obtain ⟨s', hA⟩ : ∃ z, z = (T.setVm s.vm).setFrames (.invoking m args :: below) := ⟨_, rfl⟩
  rw [← hA] at Y
  have hvm : s'.vm = s.vm := by rw [hA]; rfl
  have hhp : s'.heap = H := by rw [hA]; exact hT
  have hW0 : s.WarmedH s'.vm := by rw [hvm]; exact State.WarmedH.refl s
  have hat' : ∀ w ∈ vx_at0 own ic cls names, w.before args s' = true := fun w hw => vx_ot_at hW0 hvm.symm (hgood w (List.mem_cons_of_mem _ (List.mem_cons_of_mem _ hw))) (hat w hw)
  have hk' : (Cond.classLink own ik cls).before args s' = true := vx_ot_at hW0 hvm.symm (hgood _ List.mem_cons_self) hk
  have hini' : (Cond.initialized cls).before args s' = true := vx_ot_at hW0 hvm.symm (hgood _ (List.mem_cons_of_mem _ List.mem_cons_self)) hini
  have hU' : vx_Zq Bundle.tN "UNASSIGNED_STACK" Bundle.steD A s' s'.heap := by rw [hhp]; exact vx_Zq.moved hW0.alike (hU.kept hS.2.1)
  have hN' : vx_Zq Bundle.tN "SUPPRESSED_SENTINEL" Bundle.listD A s' s'.heap := by rw [hhp]; exact vx_Zq.moved hW0.alike (hN.kept hS.2.1)
  have h : ∀ w ∈ Bundle.ownAtoms0 own ic cls names, w.before args s' = true := vx_own hat' (vx_isRefq hU'.1) (vx_isRefq hN'.1) hU'.2.word hN'.2.word
  have hown' : s'.vm.findClass own = some m.cls := by rw [hvm]; exact hown
  have hins : (Cond.instantiable cls 6).before args s' = true := h _ (by simp [Bundle.ownAtoms0])
  obtain ⟨vm₁, cX, kX, hfX, hkX, -, -, X₁, st1⟩ := Y.newCold hexec (own := own) (C := cls) (index := ik) (n := 6) hown' hk' hins hini'
    (g := F0 m pc ls rest) rfl (by rw [hb]; exact d0) (Nat.le_refl _) (Nat.le_refl _)
  generalize hT1 : (T.setVm vm₁).pushCell { cls := cX, slots := kX.instanceTypes.map defaultValue, vm := .none } = T1 at X₁ st1
  have hcat : (Value.ref T.heap.size).category = 1 := rfl
  have hcellA : T1.heap[T.heap.size]? = some (freshCell cX kX) := by rw [← hT1]; exact State.heap_pushCell_size _ _
  have d3' : decode c.code (pc + 3) = .ok (.dup, 1) := by rw [hb]; exact d3
  obtain ⟨U, hsteps, hrun, hend, hW, hsame, ce, hce, hO⟩ := X₁.ctorThrow0 hexec htr (own := own) (cls := cls) (names := names) (ic := ic) hown' hcls hnames h (fun x hx => nomatch hx) hfX hkX hcellA (by rw [hhp, hT]; exact Nat.le_refl _)
    (g := { method := m, pc := pc + 4, locals := ls, stack := .ref T.heap.size :: .ref T.heap.size :: rest, locked := none }) rfl hsize rfl rfl (rest := rest) rfl
    (by rw [hb]; exact d4) (by rw [hb]; exact d7) hout hRframes (by simp only [List.map_cons, List.sum_cons, hcat]; omega) hlocks
  obtain ⟨f1, f2⟩ := vx_frame hsame
  rw [hhp] at f1 f2
  have hWs : s.WarmedH U.vm := State.WarmedH.trans hW0 hW
  have hcl : s.vm.findClass cls = some ce.cls := by
    have h9 := hO.cls
    rw [hvm] at h9
    exact h9
  have hall : s.sameButNew ({ U with vm := s.vm } : State) locs mc ms := by
    subst hA
    obtain ⟨e1, e2⟩ := hsame
    rw [State.setFrames_setFrames] at e1
    have h2 : (T.setVm s.vm).sameButNew ({ U with vm := s.vm } : State) [] (0 + 1) (0 + 6) := ⟨e1, e2⟩
    have h3 := X.same.trans h2
    rw [List.append_nil] at h3
    exact h3.mono hc hs
  refine ⟨U, ?_, .threw T.heap.size, hrun, hend, Or.inr ⟨T.heap.size, rfl, cls, ce, locs, hx U hWs.alike f1 (fun q hq => f2 q hq (fun z hz => nomatch hz)), hce, hO.vm, hcl, hWs, hall, hf⟩⟩
  refine st1 _ ?_
  show Steps p.tables e below (T1.setTop { method := m, pc := pc + 3, locals := ls, stack := .ref T.heap.size :: rest, locked := none }) _
  jvm_step X₁.here [X₁.here.top, hexec, d3', Value.category]
  exact hsteps
/-- 'throw new E("text")': new; dup; ldc; invokespecial; athrow -/
theorem vx_throwS {cc : ByteArray} {pc : Nat} (hexec : p.tables.exec = Jvm.exec) (hb : c.code = cc) (hl : l.stackTraces = false) {own cls text : String} {names : List String} {ik is ic mc ms sa : Nat} {A : Nat → Prop}
    (hown : s.vm.findClass own = some m.cls) (hcls : Bundle.fit cls = true) (hnames : ∀ n ∈ names, Bundle.fit n = true)
    (hk : (Cond.classLink own ik cls).before args s = true) (hini : (Cond.initialized cls).before args s = true) (hstr : vk_R own is text sa s) (hat : ∀ w ∈ vx_atS own ic cls names, w.before args s = true)
    (hgood : ∀ w ∈ Cond.classLink own ik cls :: Cond.initialized cls :: vx_atS own ic cls names, vx_ot w = true)
    (hU : vx_Zq Bundle.tN "UNASSIGNED_STACK" Bundle.steD A s s.heap) (hN : vx_Zq Bundle.tN "SUPPRESSED_SENTINEL" Bundle.listD A s s.heap) (hS : va_S A s.heap H locs) (hsize : ls.size = c.maxLocals)
    (d0 : decode cc pc = .ok (.new ik, 3)) (d3 : decode cc (pc + 3) = .ok (.dup, 1)) (d4 : decode cc (pc + 4) = .ok (.ldc is, 2)) (d6 : decode cc (pc + 6) = .ok (.invokespecial ic, 3)) (d9 : decode cc (pc + 9) = .ok (.athrow, 1))
    (hout : ∀ x ∈ c.exceptionTable.toList, covers x (pc + 9) = false)
    (hRframes : names.length + 3 < R.frames) (hRlocals : (rest.map fun v => v.category).sum + (13 * (names.length + 1) + 43) ≤ R.locals) (hRcells : cells + 1 ≤ R.cells) (hRslots : slots + 6 ≤ R.slots) (hlocks : meth.locks = false)
    (hx : ∀ t : State, s.vm.Alike t.vm → H.size ≤ t.heap.size → (∀ q : Nat, q < H.size → t.heap[q]? = H[q]?) → XC cls s t)
    (hf : ∀ z ∈ locs, free z.base) (hc : cells + 1 ≤ mc) (hs : slots + 6 ≤ ms) :
    W p l e R s m args below meth c H locs cells slots (vx_MQ below Qc XC args s mc ms free) (F0 m pc ls rest) := by
  intro T hT X
  have htr : e.platform.stackTraces = false := (show e.platform.stackTraces = l.stackTraces by rw [X.admits.platform]).trans hl
  have Y := vx_rebase X (R' := { frames := R.frames, locals := R.locals, cells := 1, slots := 6 }) (Nat.le_refl _) (Nat.le_refl _) hRcells hRslots
  obtain ⟨s', hA⟩ : ∃ z, z = (T.setVm s.vm).setFrames (.invoking m args :: below) := ⟨_, rfl⟩
  rw [← hA] at Y
  have hvm : s'.vm = s.vm := by rw [hA]; rfl
  have hhp : s'.heap = H := by rw [hA]; exact hT
  have hW0 : s.WarmedH s'.vm := by rw [hvm]; exact State.WarmedH.refl s
  have hat' : ∀ w ∈ vx_atS own ic cls names, w.before args s' = true := fun w hw => vx_ot_at hW0 hvm.symm (hgood w (List.mem_cons_of_mem _ (List.mem_cons_of_mem _ hw))) (hat w hw)
  have hk' : (Cond.classLink own ik cls).before args s' = true := vx_ot_at hW0 hvm.symm (hgood _ List.mem_cons_self) hk
  have hini' : (Cond.initialized cls).before args s' = true := vx_ot_at hW0 hvm.symm (hgood _ (List.mem_cons_of_mem _ List.mem_cons_self)) hini
  have hU' : vx_Zq Bundle.tN "UNASSIGNED_STACK" Bundle.steD A s' s'.heap := by rw [hhp]; exact vx_Zq.moved hW0.alike (hU.kept hS.2.1)
  have hN' : vx_Zq Bundle.tN "SUPPRESSED_SENTINEL" Bundle.listD A s' s'.heap := by rw [hhp]; exact vx_Zq.moved hW0.alike (hN.kept hS.2.1)
  have h : ∀ w ∈ Bundle.ownAtoms own ic cls names, w.before args s' = true := vx_own hat' (vx_isRefq hU'.1) (vx_isRefq hN'.1) hU'.2.word hN'.2.word
  have hown' : s'.vm.findClass own = some m.cls := by rw [hvm]; exact hown
  have hins : (Cond.instantiable cls 6).before args s' = true := h _ (by simp [Bundle.ownAtoms])
  obtain ⟨vm₁, cX, kX, hfX, hkX, -, -, X₁, st1⟩ := Y.newCold hexec (own := own) (C := cls) (index := ik) (n := 6) hown' hk' hins hini'
    (g := F0 m pc ls rest) rfl (by rw [hb]; exact d0) (Nat.le_refl _) (Nat.le_refl _)
  generalize hT1 : (T.setVm vm₁).pushCell { cls := cX, slots := kX.instanceTypes.map defaultValue, vm := .none } = T1 at X₁ st1
  have hcat : (Value.ref T.heap.size).category = 1 := rfl
  have hcellA : T1.heap[T.heap.size]? = some (freshCell cX kX) := by rw [← hT1]; exact State.heap_pushCell_size _ _
  have d3' : decode c.code (pc + 3) = .ok (.dup, 1) := by rw [hb]; exact d3
  have d4' : decode c.code (pc + 4) = .ok (.ldc is, 2) := by rw [hb]; exact d4
  have hstr' : vk_R own is text sa s' := vk_R.warm hW0 hstr
  obtain ⟨U, hsteps, hrun, hend, hW, hsame, ce, hce, hO⟩ := X₁.ctorThrowS hexec htr (own := own) (cls := cls) (names := names) (ic := ic) hown' hcls hnames h (fun x hx => nomatch hx) hfX hkX hcellA (by rw [hhp, hT]; exact Nat.le_refl _) (msg := .ref sa) rfl
    (g := { method := m, pc := pc + 6, locals := ls, stack := .ref sa :: .ref T.heap.size :: .ref T.heap.size :: rest, locked := none }) rfl hsize rfl rfl (rest := rest) rfl
    (by rw [hb]; exact d6) (by rw [hb]; exact d9) hout hRframes (by simp only [List.map_cons, List.sum_cons, hcat]; omega) hlocks
  obtain ⟨f1, f2⟩ := vx_frame hsame
  rw [hhp] at f1 f2
  have hWs : s.WarmedH U.vm := State.WarmedH.trans hW0 hW
  have hcl : s.vm.findClass cls = some ce.cls := by
    have h9 := hO.cls
    rw [hvm] at h9
    exact h9
  have hall : s.sameButNew ({ U with vm := s.vm } : State) locs mc ms := by
    subst hA
    obtain ⟨e1, e2⟩ := hsame
    rw [State.setFrames_setFrames] at e1
    have h2 : (T.setVm s.vm).sameButNew ({ U with vm := s.vm } : State) [] (0 + 1) (0 + 6) := ⟨e1, e2⟩
    have h3 := X.same.trans h2
    rw [List.append_nil] at h3
    exact h3.mono hc hs
  refine ⟨U, ?_, .threw T.heap.size, hrun, hend, Or.inr ⟨T.heap.size, rfl, cls, ce, locs, hx U hWs.alike f1 (fun q hq => f2 q hq (fun z hz => nomatch hz)), hce, hO.vm, hcl, hWs, hall, hf⟩⟩
  refine st1 _ ?_
  show Steps p.tables e below (T1.setTop { method := m, pc := pc + 3, locals := ls, stack := .ref T.heap.size :: rest, locked := none }) _
  jvm_step X₁.here [X₁.here.top, hexec, d3', Value.category]
  exact X₁.ldcString hexec (own := own) (text := text) (index := is) (a := sa) hown' hstr'.1 hstr'.2
    (g := { method := m, pc := pc + 4, locals := ls, stack := .ref T.heap.size :: .ref T.heap.size :: rest, locked := none }) rfl d4' _ hsteps
/-- 'throw new E("text")', the text by a wide index -/
theorem vx_throwSW {cc : ByteArray} {pc : Nat} (hexec : p.tables.exec = Jvm.exec) (hb : c.code = cc) (hl : l.stackTraces = false) {own cls text : String} {names : List String} {ik is ic mc ms sa : Nat} {A : Nat → Prop}
    (hown : s.vm.findClass own = some m.cls) (hcls : Bundle.fit cls = true) (hnames : ∀ n ∈ names, Bundle.fit n = true)
    (hk : (Cond.classLink own ik cls).before args s = true) (hini : (Cond.initialized cls).before args s = true) (hstr : vk_R own is text sa s) (hat : ∀ w ∈ vx_atS own ic cls names, w.before args s = true)
    (hgood : ∀ w ∈ Cond.classLink own ik cls :: Cond.initialized cls :: vx_atS own ic cls names, vx_ot w = true)
    (hU : vx_Zq Bundle.tN "UNASSIGNED_STACK" Bundle.steD A s s.heap) (hN : vx_Zq Bundle.tN "SUPPRESSED_SENTINEL" Bundle.listD A s s.heap) (hS : va_S A s.heap H locs) (hsize : ls.size = c.maxLocals)
    (d0 : decode cc pc = .ok (.new ik, 3)) (d3 : decode cc (pc + 3) = .ok (.dup, 1)) (d4 : decode cc (pc + 4) = .ok (.ldc_w is, 3)) (d7 : decode cc (pc + 7) = .ok (.invokespecial ic, 3)) (d10 : decode cc (pc + 10) = .ok (.athrow, 1))
    (hout : ∀ x ∈ c.exceptionTable.toList, covers x (pc + 10) = false)
    (hRframes : names.length + 3 < R.frames) (hRlocals : (rest.map fun v => v.category).sum + (13 * (names.length + 1) + 43) ≤ R.locals) (hRcells : cells + 1 ≤ R.cells) (hRslots : slots + 6 ≤ R.slots) (hlocks : meth.locks = false)
    (hx : ∀ t : State, s.vm.Alike t.vm → H.size ≤ t.heap.size → (∀ q : Nat, q < H.size → t.heap[q]? = H[q]?) → XC cls s t)
    (hf : ∀ z ∈ locs, free z.base) (hc : cells + 1 ≤ mc) (hs : slots + 6 ≤ ms) :
    W p l e R s m args below meth c H locs cells slots (vx_MQ below Qc XC args s mc ms free) (F0 m pc ls rest) := by
  intro T hT X
  have htr : e.platform.stackTraces = false := (show e.platform.stackTraces = l.stackTraces by rw [X.admits.platform]).trans hl
  have Y := vx_rebase X (R' := { frames := R.frames, locals := R.locals, cells := 1, slots := 6 }) (Nat.le_refl _) (Nat.le_refl _) hRcells hRslots
  obtain ⟨s', hA⟩ : ∃ z, z = (T.setVm s.vm).setFrames (.invoking m args :: below) := ⟨_, rfl⟩
  rw [← hA] at Y
  have hvm : s'.vm = s.vm := by rw [hA]; rfl
  have hhp : s'.heap = H := by rw [hA]; exact hT
  have hW0 : s.WarmedH s'.vm := by rw [hvm]; exact State.WarmedH.refl s
  have hat' : ∀ w ∈ vx_atS own ic cls names, w.before args s' = true := fun w hw => vx_ot_at hW0 hvm.symm (hgood w (List.mem_cons_of_mem _ (List.mem_cons_of_mem _ hw))) (hat w hw)
  have hk' : (Cond.classLink own ik cls).before args s' = true := vx_ot_at hW0 hvm.symm (hgood _ List.mem_cons_self) hk
  have hini' : (Cond.initialized cls).before args s' = true := vx_ot_at hW0 hvm.symm (hgood _ (List.mem_cons_of_mem _ List.mem_cons_self)) hini
  have hU' : vx_Zq Bundle.tN "UNASSIGNED_STACK" Bundle.steD A s' s'.heap := by rw [hhp]; exact vx_Zq.moved hW0.alike (hU.kept hS.2.1)
  have hN' : vx_Zq Bundle.tN "SUPPRESSED_SENTINEL" Bundle.listD A s' s'.heap := by rw [hhp]; exact vx_Zq.moved hW0.alike (hN.kept hS.2.1)
  have h : ∀ w ∈ Bundle.ownAtoms own ic cls names, w.before args s' = true := vx_own hat' (vx_isRefq hU'.1) (vx_isRefq hN'.1) hU'.2.word hN'.2.word
  have hown' : s'.vm.findClass own = some m.cls := by rw [hvm]; exact hown
  have hins : (Cond.instantiable cls 6).before args s' = true := h _ (by simp [Bundle.ownAtoms])
  obtain ⟨vm₁, cX, kX, hfX, hkX, -, -, X₁, st1⟩ := Y.newCold hexec (own := own) (C := cls) (index := ik) (n := 6) hown' hk' hins hini'
    (g := F0 m pc ls rest) rfl (by rw [hb]; exact d0) (Nat.le_refl _) (Nat.le_refl _)
  generalize hT1 : (T.setVm vm₁).pushCell { cls := cX, slots := kX.instanceTypes.map defaultValue, vm := .none } = T1 at X₁ st1
  have hcat : (Value.ref T.heap.size).category = 1 := rfl
  have hcellA : T1.heap[T.heap.size]? = some (freshCell cX kX) := by rw [← hT1]; exact State.heap_pushCell_size _ _
  have d3' : decode c.code (pc + 3) = .ok (.dup, 1) := by rw [hb]; exact d3
  have d4' : decode c.code (pc + 4) = .ok (.ldc_w is, 3) := by rw [hb]; exact d4
  have hstr' : vk_R own is text sa s' := vk_R.warm hW0 hstr
  obtain ⟨U, hsteps, hrun, hend, hW, hsame, ce, hce, hO⟩ := X₁.ctorThrowS hexec htr (own := own) (cls := cls) (names := names) (ic := ic) hown' hcls hnames h (fun x hx => nomatch hx) hfX hkX hcellA (by rw [hhp, hT]; exact Nat.le_refl _) (msg := .ref sa) rfl
    (g := { method := m, pc := pc + 7, locals := ls, stack := .ref sa :: .ref T.heap.size :: .ref T.heap.size :: rest, locked := none }) rfl hsize rfl rfl (rest := rest) rfl
    (by rw [hb]; exact d7) (by rw [hb]; exact d10) hout hRframes (by simp only [List.map_cons, List.sum_cons, hcat]; omega) hlocks
  obtain ⟨f1, f2⟩ := vx_frame hsame
  rw [hhp] at f1 f2
  have hWs : s.WarmedH U.vm := State.WarmedH.trans hW0 hW
  have hcl : s.vm.findClass cls = some ce.cls := by
    have h9 := hO.cls
    rw [hvm] at h9
    exact h9
  have hall : s.sameButNew ({ U with vm := s.vm } : State) locs mc ms := by
    subst hA
    obtain ⟨e1, e2⟩ := hsame
    rw [State.setFrames_setFrames] at e1
    have h2 : (T.setVm s.vm).sameButNew ({ U with vm := s.vm } : State) [] (0 + 1) (0 + 6) := ⟨e1, e2⟩
    have h3 := X.same.trans h2
    rw [List.append_nil] at h3
    exact h3.mono hc hs
  refine ⟨U, ?_, .threw T.heap.size, hrun, hend, Or.inr ⟨T.heap.size, rfl, cls, ce, locs, hx U hWs.alike f1 (fun q hq => f2 q hq (fun z hz => nomatch hz)), hce, hO.vm, hcl, hWs, hall, hf⟩⟩
  refine st1 _ ?_
  show Steps p.tables e below (T1.setTop { method := m, pc := pc + 3, locals := ls, stack := .ref T.heap.size :: rest, locked := none }) _
  jvm_step X₁.here [X₁.here.top, hexec, d3', Value.category]
  exact X₁.ldcStringW hexec (own := own) (text := text) (index := is) (a := sa) hown' hstr'.1 hstr'.2
    (g := { method := m, pc := pc + 4, locals := ls, stack := .ref T.heap.size :: .ref T.heap.size :: rest, locked := none }) rfl d4' _ hsteps
end Ends
section Bodies
variable {l : Launch}
theorem vx_ofW {y : MethodName} {ws ws' : List Cond} {rm : Room} {Pc : Array Value → State → Prop} {Qc : Array Value → State → Outcome → State → Prop} {XC : String → State → State → Prop} {mc ms : Nat} {free : Addr → Prop} {cc : ByteArray} {maxL : Nat} {ret : Option FieldType}
    (hy : plainName y.cls = true) (hw : ws = Cond.code y cc maxL ret :: ws')
    (body : ∀ p e s m args below meth c s₁, BodyLoose p l y (headSpec ws rm) cc maxL ret e s m args below meth c s₁ → c.maxLocals = maxL → (∀ x ∈ c.exceptionTable.toList, False) → Pc args s →
      W p l e (headSpec ws rm).room s m args below meth c s.heap [] 0 0 (vx_MQ below Qc XC args s mc ms free) (entryFrame m args maxL)) : vx_Met l y ws rm Pc Qc XC mc ms free := by
  refine MetFree.of_bodyS (code := cc) (maxLocals := maxL) (ret := ret) hy ?_ ?_
  · intro args s m h hn
    obtain ⟨meth, c, h1, h2, h3, h4, h5, h6, -, -⟩ := Cond.code_spec hn (atoms_spec (ws := ws) h _ (by rw [hw]; exact List.mem_cons_self))
    exact ⟨meth, c, h1, h2, h3, h4, h5, h6⟩
  · intro p e s m args below meth c s₁ B hml hP _
    have hh0 : s₁.heap = s.heap := by rw [B.state]; rfl
    have ht : ∀ x ∈ c.exceptionTable.toList, False := by
      obtain ⟨meth9, c9, h1, h2, -, -, -, -, h7, -⟩ := Cond.code_spec B.named (atoms_spec (ws := ws) B.pre _ (by rw [hw]; exact List.mem_cons_self))
      cases Option.some.inj (h1.symm.trans B.method)
      cases Option.some.inj (h2.symm.trans (Stand.of_body B).code)
      intro x hx
      rw [Array.isEmpty_iff.mp h7] at hx
      cases hx
    obtain ⟨t, a1, o, b1, b2, b3⟩ := body p e s m args below meth c s₁ B hml ht hP s₁ hh0 (Stand.of_body B)
    exact ⟨t, o, a1, b1, b2, b3⟩
/-- the table of a body with handlers -/
theorem vx_table {p : Program} {x y : MethodName} {S : Spec} {cc bytes : ByteArray} {maxL maxL' : Nat} {ret ret' : Option FieldType} {e : Env} {s s₁ : State} {m : MethodId} {args : Array Value} {below : List Frame} {meth : Method} {c : Code} {hh : List (Nat × Nat × Nat × Nat)}
    (B : BodyLoose p l y S cc maxL ret e s m args below meth c s₁) (h : (Cond.codeWith y bytes maxL' ret' hh).before args s = true) : c.exceptionTable.toList = tableOf hh := by
  obtain ⟨m9, meth9, c9, hn9, h1, h2, -, -, h6, -⟩ := Cond.codeWith_spec h
  cases Option.some.inj (hn9.symm.trans B.named)
  cases Option.some.inj (h1.symm.trans B.method)
  cases Option.some.inj (h2.symm.trans (Stand.of_body B).code)
  rw [← h6, table_eq]
end Bodies
end VXA
/-! ===== END ===== -/
/-! ===== BEGIN a static call of a method with an exception table ===== -/
section VXS
variable {p : Program} {l : Launch} {e : Env} {R : Room} {s : State} {m : MethodId} {args : Array Value} {below : List Frame} {meth : Method} {c : Code} {T : State} {H : Heap} {locs : List Loc} {cells slots : Nat}
abbrev vx_CSW (R : Room) (s : State) (args : Array Value) (own : String) (index : Nat) (y : MethodName) (bytes : ByteArray) (maxL : Nat) (ret : Option FieldType) (hh : List (Nat × Nat × Nat × Nat)) (ws : List Cond) (rm : Room) (mc ms n : Nat) : Prop :=
  (rm.cells = mc ∧ rm.slots = ms ∧ rm.frames + 1 ≤ R.frames ∧ 8 + (maxL + 11) + rm.locals ≤ R.locals ∧ (∀ w ∈ ws, ∀ (a' : Array Value) (U : State), s.WarmedH U.vm → w.before a' U = true) ∧ Cond.codeWith y bytes maxL ret hh ∈ ws) ∧
  (Cond.codeWith y bytes maxL ret hh).before args s = true ∧ (Cond.initialized y.cls).before args s = true ∧ (y.cls ≠ "java/lang/invoke/MethodHandle" ∧ y.cls ≠ "java/lang/invoke/VarHandle") ∧
  (∀ sig, parseMethodDescriptor y.desc = some sig → n = sig.parameters.length) ∧ (Cond.methodLink own index y).before args s = true ∧ (Cond.static y).before args s = true
theorem vx_cwSW {own : String} {index maxL mc ms : Nat} {y : MethodName} {bytes : ByteArray} {ret : Option FieldType} {hh : List (Nat × Nat × Nat × Nat)} {Ts ws ws' : List Cond} {rm : Room} (n : Nat) (ht : ∀ w ∈ Ts, w.before args s = true) (hT : GoodIn Ts (va_wsS own index y ws)) (hw : ws = Cond.codeWith y bytes maxL ret hh :: ws') (hrc : rm.cells = mc) (hrs : rm.slots = ms)
    (hd : y.cls ≠ "java/lang/invoke/MethodHandle" ∧ y.cls ≠ "java/lang/invoke/VarHandle" ∧ (parseMethodDescriptor y.desc).map (fun d => d.parameters.length) = some n) (hR : rm.frames + 1 ≤ R.frames ∧ 8 + (maxL + 11) + rm.locals ≤ R.locals) :
    vx_CSW R s args own index y bytes maxL ret hh ws rm mc ms n := by
  have ok : ∀ w ∈ va_wsS own index y ws, w.before args s = true := fun w h => ht w (hT w h).1
  have hG : GoodIn Ts ws := fun w h => hT w (by unfold va_wsS; exact List.mem_append_right _ h)
  have hc : Cond.codeWith y bytes maxL ret hh ∈ ws := by rw [hw]; exact List.mem_cons_self
  refine ⟨⟨hrc, hrs, hR.1, hR.2, pay_in ht hG, hc⟩, ht _ (hG _ hc).1, ok _ (by simp [va_wsS]), ⟨hd.1, hd.2.1⟩, fun sig h => ?_, ok _ (by simp [va_wsS]), ok _ (by simp [va_wsS])⟩
  have h2 := hd.2.2
  rw [h] at h2
  exact (Option.some.inj h2).symm
theorem vx_callSW (X : Stand p l e R s m args below meth c T locs cells slots) (hexec : p.tables.exec = Jvm.exec) {own : String} {index : Nat} {y : MethodName} {bytes : ByteArray} {maxL : Nat} {ret : Option FieldType} {hh : List (Nat × Nat × Nat × Nat)}
    (hown : s.vm.findClass own = some m.cls) (hlink : (Cond.methodLink own index y).before args s = true) (hstat : (Cond.static y).before args s = true) (hinit : (Cond.initialized y.cls).before args s = true)
    (hcode : (Cond.codeWith y bytes maxL ret hh).before args s = true) (hy : y.cls ≠ "java/lang/invoke/MethodHandle" ∧ y.cls ≠ "java/lang/invoke/VarHandle")
    {W9 : Nat} {Pre : Pt → Array Value → Prop} {Post : Pt → Array Value → Option Value → Pt → Prop} (hK : Back l R p e below s args y 3 W9 Pre Post)
    {g : JFrame} (hg : g.method = m) (hsize : g.locals.size = c.maxLocals) {argsL rest : List Value} (hlen : ∀ sig, parseMethodDescriptor y.desc = some sig → argsL.length = sig.parameters.length)
    (hstack : g.stack = argsL.reverse ++ rest) (hW : 2 * g.monitorRoom + (rest.map fun v => v.category).sum ≤ W9) (hdg : decode c.code g.pc = .ok (.invokestatic index, 3))
    (hpre : ∀ vm₁, s.WarmedH vm₁ → Pre ⟨T.setVm vm₁, locs, cells, slots⟩ argsL.toArray) :
    ∃ (v : Option Value) (vm₁ : Vm) (B : Pt), s.WarmedH vm₁ ∧ Stand p l e R s m args below meth c B.U B.locs B.cells B.slots ∧ Post ⟨T.setVm vm₁, locs, cells, slots⟩ argsL.toArray v B ∧
      ∀ target, Steps p.tables e below (B.U.setTop { g with pc := g.pc + 3, stack := v.toList ++ rest }) target → Steps p.tables e below (T.setTop g) target := by
  obtain ⟨mk, methM, cM, hnamed, hmethM, -, -, -, -, -, -, hsigM⟩ := Cond.codeWith_spec hcode
  have hstatic : methM.isStatic = true := Cond.static_spec hnamed hmethM hstat
  obtain ⟨kP, hkP, -⟩ := className_of_methodNamed hnamed
  have hinitP : kP.init = .initialized := Cond.initialized_spec (findClass_of_methodNamed hnamed) hkP hinit
  obtain ⟨vm₁, X₁, hstep₁⟩ := X.invokestatic hexec hown hlink hnamed hmethM hstatic hkP hinitP hy (g := g) hg (argsL := argsL) (rest := rest) (hlen _ hsigM) hstack hdg
  obtain ⟨v, B, X', hpost, hsteps⟩ := hK m meth c ⟨T.setVm vm₁, locs, cells, slots⟩ { g with stack := rest } (.invokestatic index) mk argsL.toArray X₁ hg hsize hdg hW (X₁.named hnamed) (hpre vm₁ X₁.warmed)
  exact ⟨v, vm₁, B, X₁.warmed, X', hpost, fun target h => hstep₁ _ fun acts => by rw [doInvoke_state]; exact hsteps.trans h⟩
theorem vx_runSW {y : MethodName} {bytes cc : ByteArray} {maxL nL mc ms n index : Nat} {ret : Option FieldType} {hh : List (Nat × Nat × Nat × Nat)} {ws : List Cond} {rm : Room} {Pc : Array Value → State → Prop} {Qc : Array Value → State → Outcome → State → Prop} {free : Addr → Prop} {Ts : List Cond} {own : String} {As rest : List Value} {g : JFrame}
    (S : CallFix p m c cc nL s args Ts own) (hM : Met l y ws rm Pc Qc mc ms free) (cw : vx_CSW R s args own index y bytes maxL ret hh ws rm mc ms n) (hp : PreS s H Pc As)
    (hg : g.method = m) (hn : As.length = n) (hsize : g.locals.size = nL) (hstack : g.stack = As.reverse ++ rest) (hW : 2 * g.monitorRoom + (rest.map fun v => v.category).sum ≤ 8) (hdg : decode cc g.pc = .ok (.invokestatic index, 3)) (hf : cells + mc ≤ R.cells ∧ slots + ms ≤ R.slots) :
    va_Run p l e R s m args below meth c H locs cells slots mc ms g rest (Qc As.toArray) (free) := by
  obtain ⟨⟨hrc, hrs, hfr, hlo, hws, hcw⟩, hcode, hini, hy, hlen, hl, hstt⟩ := cw
  have hK : Back l R p e below s args y 3 8 (PreOf R mc ms Pc) (PostOf Qc mc ms free) := va_backW (hh := hh) (bytes := bytes) (maxL := maxL) (ret := ret) hM hp.1 hrc hrs hfr hlo hws hcw (fun a' U hW => word_at hW (Or.inl (by first | rfl | simp [Cond.onTables, Cond.keeps, Cond.steady])) hini)
  obtain ⟨hx, hb, hml, ho, -⟩ := S
  intro T hT X
  obtain ⟨v, vm₁, ⟨U', l2, c2, s2⟩, hW₁, X', ⟨g', mk, t, L, e1, e2, hq, h1, hL, h2, h3⟩, st⟩ := vx_callSW X hx (hh := hh) (bytes := bytes) (maxL := maxL) (ret := ret) ho hl hstt hini hcode hy hK hg (hsize.trans hml.symm) (argsL := As) (rest := rest) (fun sig h => hn.trans (hlen sig h)) hstack hW (by rw [hb]; exact hdg)
    (fun vm₁ hW₁ => ⟨hf.1, hf.2, hp.2 (T.setVm vm₁) hT hW₁⟩)
  dsimp only [Pt.U, Pt.locs, Pt.cells, Pt.slots] at X' e1 e2 h1 h2 h3 st
  subst h1; subst h2; subst h3
  exact ⟨v, (T.setVm vm₁).calling g' mk As.toArray, t, U', L, hT, X', hL, e1, e2, hq, st⟩
/-- not caught here, past rows that name other classes: it goes on to the caller -/
theorem vx_outP {p : Program} {l : Launch} {e : Env} {R : Room} {s : State} {m : MethodId} {args : Array Value} {below : List Frame} {meth : Method} {c : Code} {H : Heap} {locs : List Loc} {cells slots : Nat} {free : Addr → Prop} {ls : Array Slot} {rest : List Value} {Qc : Array Value → State → Outcome → State → Prop} {XC : String → State → State → Prop}
    {pc : Nat} {own E : String} {ce : Cell} {q : Addr} {mc ms : Nat} (hown : s.vm.findClass own = some m.cls) (hlocks : meth.locks = false)
    (hpass : ∀ z ∈ c.exceptionTable.toList, covers z pc = false ∨ (z.catchType ≠ 0 ∧ ∃ nm : String, (Cond.classLink own z.catchType nm).before args s = true ∧ va_Nc E nm s)) (hcell : H[q]? = some ce) (hv : ce.vm = .none) (hcl : s.vm.findClass E = some ce.cls)
    (hx : ∀ t : State, t.heap = H → s.vm.Alike t.vm → XC E s t) (hf : ∀ z ∈ locs, free z.base) (hc : cells ≤ mc) (hs : slots ≤ ms) :
    vx_W p l e R s m args below meth c H locs cells slots (vx_MQ below Qc XC args s mc ms free) (F0 m pc ls rest) q := by
  intro T hT X
  have hpl : e.platform.magicAccessors = ({} : Platform).magicAccessors := by rw [X.admits.platform]
  obtain ⟨vm', hW', X', st⟩ := X.outThrough hlocks q (g := F0 m pc ls rest) rfl rfl rfl (cell := ce) (by rw [hT]; exact hcell) (by rw [hv]; rfl)
    (by obtain ⟨k9, h9, -⟩ := Vm.findClass_spec hcl; exact ⟨k9, h9⟩) (fun z hz => by
      rcases hpass z hz with h | ⟨hz0, nm, hl1, hn1⟩
      · exact Or.inl h
      · obtain ⟨c6, hc6, hcl6⟩ := Cond.classLink_spec hown hl1 e.platform hpl
        obtain ⟨a8, b8, h1, h2, h3⟩ := hn1
        cases Option.some.inj (h1.symm.trans hcl)
        cases Option.some.inj (h2.symm.trans hc6)
        exact Or.inr ⟨hz0, _, hcl6, h3⟩)
  obtain ⟨g₀, hfr⟩ := X'.frames_eq
  have hcell9 : ((T.setVm vm').setFrames (.throwing q :: below)).heap[q]? = some ce := by
    show T.heap[q]? = some ce
    rw [hT]; exact hcell
  have hend : Ended ((T.setVm vm').setFrames (.throwing q :: below)) below (.threw q) := State.frames_setFrames _ (State.cur_lt_of_frames hfr)
  refine ⟨(T.setVm vm').setFrames (.throwing q :: below), ?_, .threw q, X'.here.running, hend, Or.inr ⟨q, rfl, E, ce, locs, hx _ hT (X'.ends _).1.alike, hcell9, hv, hcl, (X'.ends _).1, (X'.ends _).2.mono hc hs, hf⟩⟩
  rw [X.pushThrowing_eq]
  exact st
/-- a thing of a world lies in the heap -/
theorem vx_lt {D : va_G} {cl : List vw_C} {ws : va_W} {H1 : Heap} (h : va_P D cl ws H1) {k : Nat} {q : Nat × va_E} (hk : ws[k]? = some q) : q.1 < H1.size := (h k q hk).lt
end VXS
/-! ===== END ===== -/
/-! ===== BEGIN methods with a table of their own: called by a name, returning or throwing ===== -/
section VXH
/-! vx_backW, vx_callVX, vx_callSX, vx_callVW, vx_runVW, vx_runVX, vx_runSX, vx_ofWH follow the same proofs as their sisters above (Free/Laws.lean, Shelf42/LK1.lean); vx_outP calls Shelf42/NT130.lean (outThrough). -/
section
variable {l : Launch} {R : Room} {p : Program} {e : Env} {below : List Frame} {s : State} {sargs : Array Value} {y : MethodName} {len W9 : Nat}
theorem vx_backW {ws : List Cond} {rm : Room} {Pc : Array Value → State → Prop} {Qc : Array Value → State → Outcome → State → Prop} {XC : String → State → State → Prop} {mc ms : Nat} {free : Addr → Prop} {bytes : ByteArray} {maxL : Nat} {ret : Option FieldType} {hh : List (Nat × Nat × Nat × Nat)}
    (hM : vx_Met l y ws rm Pc Qc XC mc ms free) (hblind : FrameBlind Pc) (hrc : rm.cells = mc) (hrs : rm.slots = ms)
    (hframes : rm.frames + 1 ≤ R.frames) (hlocals : W9 + (maxL + 11) + rm.locals ≤ R.locals)
    (hws : ∀ w ∈ ws, ∀ a' U, s.WarmedH U.vm → w.before a' U = true) (hcode : Cond.codeWith y bytes maxL ret hh ∈ ws) (hinit : ∀ a' U, s.WarmedH U.vm → (Cond.initialized y.cls).before a' U = true) :
    vx_Back l R p e below s sargs y len W9 (PreOf R mc ms Pc) (PostOf Qc mc ms free) (vx_Post XC mc ms free) := by
  intro m meth c A g ig mk a X hg hsize hdg hW hn hp
  have h1 : (headSpec ws rm).pre.before a A.U = true := atoms_intro fun w hw => hws w hw _ _ X.warmed
  have h2 : (Cond.codeWith y bytes maxL ret hh).before a A.U = true := hws _ hcode _ _ X.warmed
  have h3 : (Cond.initialized y.cls).before a A.U = true := hinit _ _ X.warmed
  have h4 : A.cells + (headSpec ws rm).room.cells ≤ R.cells := by rw [show (headSpec ws rm).room.cells = mc from hrc]; exact hp.1
  have h5 : A.slots + (headSpec ws rm).room.slots ≤ R.slots := by rw [show (headSpec ws rm).room.slots = ms from hrs]; exact hp.2.1
  have hPc : Pc a (A.U.calling g mk a) := hblind _ _ _ _ hp.2.2
  obtain ⟨U, Ls, c0, s0⟩ := A
  dsimp only [Pt.U, Pt.locs, Pt.cells, Pt.slots] at h1 h2 h3 h4 h5 X hn hPc ⊢
  obtain ⟨m9, methY, cY, hn9, hmY, hcY, -, hlY, -⟩ := Cond.codeWith_spec h2
  cases Option.some.inj (hn9.symm.trans hn)
  obtain ⟨kY, hkY, -⟩ := className_of_methodNamed hn
  have hinitY : kY.init = .initialized := Cond.initialized_spec (findClass_of_methodNamed hn) hkY h3
  have h : At U g.method c below := by rw [hg]; exact X.here
  have hlocals9 : W9 + (maxL + 11) + (headSpec ws rm).room.locals ≤ R.locals := hlocals
  have happ : (headSpec ws rm).appliesLoose y e.platform (U.calling g mk a) = true :=
    Spec.appliesLoose_calling (g := g) h hdg hn hkY hinitY
      (X.room_calling (g := g) (R' := (headSpec ws rm).room) hsize hmY hcY hframes (by rw [hlY]; omega) h4 h5) h1
  obtain ⟨mid, hmid⟩ := h.above
  have hfr : (U.setTop g).frames = (.java g :: mid) ++ below := by rw [State.frames_setTop' g h.top, hmid]; rfl
  obtain ⟨o, s₂, hsteps, -, hend, hq⟩ := Steps.callFree hM p X.admits X.cas X.clock (acts := []) hfr happ hPc trivial
  have hq' : vx_Q Qc XC mc ms free a (U.calling g mk a) o s₂ := hq
  rw [State.frames_setTop' g h.top] at hend
  obtain ⟨g₀, hg0⟩ := Option.isSome_iff_exists.mp h.top
  obtain ⟨r, hr⟩ := State.topJava?_eq_some.mp hg0
  have hr' : (({ U with heap := s₂.heap, slotsUsed := s₂.slotsUsed } : State).setVm s₂.vm).frames = .java g₀ :: r := hr
  rcases hq' with ⟨hqc, L, hfe, hL⟩ | ⟨q, rfl, E, ce, L, hx, hce, hcv, hcl, hW₂, hsm, hL⟩
  · obtain ⟨⟨v, rfl⟩, hW₂, e2, q2, q3, q4, q5, q6⟩ := id hfe
    have e3 : s₂ = ({ (U.calling g mk a).setFrames s₂.frames with heap := s₂.heap, slotsUsed := s₂.slotsUsed } : State).setVm s₂.vm := by
      have : s₂ = ({ s₂ with vm := (U.calling g mk a).vm } : State).setVm s₂.vm := rfl
      rw [e2] at this
      exact this
    obtain ⟨c₂, i₂, len₂, hc₂, hd₂, hf₂⟩ := hend
    have hW' : U.WarmedH s₂.vm := hW₂
    have hcc : c₂ = c := by
      have h1 : s₂.code? g.method = U.code? g.method := by
        rw [State.code?_eq, State.code?_eq, hW'.alike.method?]
      exact Option.some.inj (hc₂.symm.trans (h1.trans h.code))
    subst hcc
    have hlen : len₂ = len := by rw [hdg] at hd₂; cases hd₂; rfl
    subst hlen
    have hs₂ : s₂ = (({ U with heap := s₂.heap, slotsUsed := s₂.slotsUsed } : State).setVm s₂.vm).setTop { g with pc := g.pc + len₂, stack := v.toList ++ g.stack } := by
      refine e3.trans ?_
      rw [hf₂, State.calling_eq h.top, State.setFrames_setFrames, State.setTop_of_frames _ hr', hr]
      rfl
    have hsame : U.sameButNew ({ U with heap := s₂.heap, slotsUsed := s₂.slotsUsed } : State) L mc ms := by
      refine ⟨?_, q2, q3, q4, q5, q6⟩
      obtain ⟨t, ht, -⟩ := State.frames_cons hr
      show ({ U with heap := s₂.heap, slotsUsed := s₂.slotsUsed } : State) = { U.setFrames U.frames with heap := s₂.heap, slotsUsed := s₂.slotsUsed }
      rw [State.setFrames_self ht]
    subst hg
    refine Or.inl ⟨v, ⟨(({ U with heap := s₂.heap, slotsUsed := s₂.slotsUsed } : State).setVm s₂.vm), Ls ++ L, c0 + mc, s0 + ms⟩,
      ⟨X.admits, X.cas, X.clock, X.frames, X.room, X.hears, X.method, X.code, (X.here.setHeapUsed s₂.heap s₂.slotsUsed).setVm hW'.alike, X.tail, State.WarmedH.trans X.warmed hW', X.limits, X.bytes, X.same.trans (hsame.setVm s.vm)⟩,
      ⟨g, mk, s₂, L, rfl, rfl, hqc, rfl, hL, rfl, rfl⟩, ?_⟩
    show Steps p.tables e below _ ((({ U with heap := s₂.heap, slotsUsed := s₂.slotsUsed } : State).setVm s₂.vm).setTop { g with pc := g.pc + len₂, stack := v.toList ++ g.stack })
    rw [← hs₂]
    exact hsteps
  · obtain ⟨e2, q2, q3, q4, q5, q6⟩ := id hsm
    have e3 : s₂ = ({ (U.calling g mk a).setFrames s₂.frames with heap := s₂.heap, slotsUsed := s₂.slotsUsed } : State).setVm s₂.vm := by
      have : s₂ = ({ s₂ with vm := (U.calling g mk a).vm } : State).setVm s₂.vm := rfl
      rw [e2] at this
      exact this
    have hf₂ : s₂.frames = .throwing q :: .java g :: U.frames.tail := hend
    have hW' : U.WarmedH s₂.vm := hW₂
    have hs₂ : s₂ = ((({ U with heap := s₂.heap, slotsUsed := s₂.slotsUsed } : State).setVm s₂.vm).setTop g).pushFrame (.throwing q) := by
      refine e3.trans ?_
      rw [hf₂, State.calling_eq h.top, State.setFrames_setFrames, State.pushFrame, State.frames_setTop _ hr', State.setTop_of_frames _ hr', State.setFrames_setFrames, hr]
      rfl
    have hsame : U.sameButNew ({ U with heap := s₂.heap, slotsUsed := s₂.slotsUsed } : State) L mc ms := by
      refine ⟨?_, q2, q3, q4, q5, q6⟩
      obtain ⟨t, ht, -⟩ := State.frames_cons hr
      show ({ U with heap := s₂.heap, slotsUsed := s₂.slotsUsed } : State) = { U.setFrames U.frames with heap := s₂.heap, slotsUsed := s₂.slotsUsed }
      rw [State.setFrames_self ht]
    subst hg
    refine Or.inr ⟨q, ⟨(({ U with heap := s₂.heap, slotsUsed := s₂.slotsUsed } : State).setVm s₂.vm), Ls ++ L, c0 + mc, s0 + ms⟩,
      ⟨X.admits, X.cas, X.clock, X.frames, X.room, X.hears, X.method, X.code, (X.here.setHeapUsed s₂.heap s₂.slotsUsed).setVm hW'.alike, X.tail, State.WarmedH.trans X.warmed hW', X.limits, X.bytes, X.same.trans (hsame.setVm s.vm)⟩,
      ⟨g, mk, s₂, L, E, ce, rfl, rfl, hx, hce, hcv, hcl, rfl, hL, rfl, rfl⟩, ?_⟩
    show Steps p.tables e below _ (((({ U with heap := s₂.heap, slotsUsed := s₂.slotsUsed } : State).setVm s₂.vm).setTop g).pushFrame (.throwing q))
    rw [← hs₂]
    exact hsteps
end
variable {p : Program} {l : Launch} {e : Env} {R : Room} {s : State} {m : MethodId} {args : Array Value} {below : List Frame} {meth : Method} {c : Code} {T : State} {H : Heap} {locs : List Loc} {cells slots : Nat}
theorem vx_callVX (X : Stand p l e R s m args below meth c T locs cells slots) (hexec : p.tables.exec = Jvm.exec) {own C : String} {index : Nat} {y : MethodName} {bytes : ByteArray} {maxL : Nat} {ret : Option FieldType} {hh : List (Nat × Nat × Nat × Nat)}
    (hown : s.vm.findClass own = some m.cls) (hlink : (Cond.methodLink own index y).before args s = true) (hinst : (Cond.instanceMethod y).before args s = true) (hsel : (Cond.selects C y y).before args s = true)
    (hcode : (Cond.codeWith y bytes maxL ret hh).before args s = true) (hy : y.cls ≠ "java/lang/invoke/MethodHandle" ∧ y.cls ≠ "java/lang/invoke/VarHandle")
    {W9 : Nat} {Pre : Pt → Array Value → Prop} {Post : Pt → Array Value → Option Value → Pt → Prop} {PostX : Pt → Array Value → Addr → Pt → Prop} (hK : vx_Back l R p e below s args y 3 W9 Pre Post PostX)
    {b : Addr} {cellB : Cell} (hcell : T.heap[b]? = some cellB) (hobj : cellB.vm.isStatics = false) (hcls : s.vm.findClass C = some cellB.cls)
    {g : JFrame} (hg : g.method = m) (hsize : g.locals.size = c.maxLocals) {argsL rest : List Value} (hlen : ∀ sig, parseMethodDescriptor y.desc = some sig → argsL.length = sig.parameters.length)
    (hstack : g.stack = argsL.reverse ++ .ref b :: rest) (hW : 2 * g.monitorRoom + (rest.map fun v => v.category).sum ≤ W9) (hdg : decode c.code g.pc = .ok (.invokevirtual index, 3))
    (hpre : ∀ vm₁, s.WarmedH vm₁ → Pre ⟨T.setVm vm₁, locs, cells, slots⟩ (Value.ref b :: argsL).toArray) :
    (∃ (v : Option Value) (vm₁ : Vm) (B : Pt), s.WarmedH vm₁ ∧ Stand p l e R s m args below meth c B.U B.locs B.cells B.slots ∧ Post ⟨T.setVm vm₁, locs, cells, slots⟩ (Value.ref b :: argsL).toArray v B ∧
      ∀ target, Steps p.tables e below (B.U.setTop { g with pc := g.pc + 3, stack := v.toList ++ rest }) target → Steps p.tables e below (T.setTop g) target) ∨
    (∃ (q : Addr) (vm₁ : Vm) (B : Pt), s.WarmedH vm₁ ∧ Stand p l e R s m args below meth c B.U B.locs B.cells B.slots ∧ PostX ⟨T.setVm vm₁, locs, cells, slots⟩ (Value.ref b :: argsL).toArray q B ∧
      Steps p.tables e below (T.setTop g) ((B.U.setTop { g with stack := rest }).pushFrame (.throwing q))) := by
  obtain ⟨mk, methM, hnamed, hmethM, hstM, habM⟩ := Cond.instanceMethod_spec hinst
  obtain ⟨m8, methM', cM, hn8, hmethM', -, -, -, -, -, -, hsigM⟩ := Cond.codeWith_spec hcode
  cases Option.some.inj (hn8.symm.trans hnamed)
  cases hmethM.symm.trans hmethM'
  obtain ⟨c2, r2, m2, q1, q2, q3, q4, kP, hkP, hkPi⟩ := Cond.selects_spec hsel
  cases hcls.symm.trans q1
  cases (State.methodFound?_of_named hnamed hy).symm.trans q2
  cases hnamed.symm.trans q3
  have hselP : selectMethod e.platform s.vm cellB.cls mk = .method mk := by rw [Launch.admits_selectMethod X.admits]; exact q4
  obtain ⟨vm₁, X₁, hstep₁⟩ := X.invokevirtual hexec hown hlink hnamed hmethM hstM hkP hkPi hy (a := b) (cell := cellB) hcell
    (fun z h => by rw [h] at hobj; cases hobj) hselP hmethM habM hkP hkPi (g := g) hg (argsL := argsL) (rest := rest) (hlen _ hsigM) hstack hdg
  rcases hK m meth c ⟨T.setVm vm₁, locs, cells, slots⟩ { g with stack := rest } (.invokevirtual index) mk (Value.ref b :: argsL).toArray X₁ hg hsize hdg hW (X₁.named hnamed) (hpre vm₁ X₁.warmed) with ⟨v, B, X', hpost, hsteps⟩ | ⟨q, B, X', hpost, hsteps⟩
  · exact Or.inl ⟨v, vm₁, B, X₁.warmed, X', hpost, fun target h => hstep₁ _ fun acts => by rw [doInvoke_state]; exact hsteps.trans h⟩
  · exact Or.inr ⟨q, vm₁, B, X₁.warmed, X', hpost, hstep₁ _ fun acts => by rw [doInvoke_state]; exact hsteps⟩
theorem vx_callSX (X : Stand p l e R s m args below meth c T locs cells slots) (hexec : p.tables.exec = Jvm.exec) {own : String} {index : Nat} {y : MethodName} {bytes : ByteArray} {maxL : Nat} {ret : Option FieldType} {hh : List (Nat × Nat × Nat × Nat)}
    (hown : s.vm.findClass own = some m.cls) (hlink : (Cond.methodLink own index y).before args s = true) (hstat : (Cond.static y).before args s = true) (hinit : (Cond.initialized y.cls).before args s = true)
    (hcode : (Cond.codeWith y bytes maxL ret hh).before args s = true) (hy : y.cls ≠ "java/lang/invoke/MethodHandle" ∧ y.cls ≠ "java/lang/invoke/VarHandle")
    {W9 : Nat} {Pre : Pt → Array Value → Prop} {Post : Pt → Array Value → Option Value → Pt → Prop} {PostX : Pt → Array Value → Addr → Pt → Prop} (hK : vx_Back l R p e below s args y 3 W9 Pre Post PostX)
    {g : JFrame} (hg : g.method = m) (hsize : g.locals.size = c.maxLocals) {argsL rest : List Value} (hlen : ∀ sig, parseMethodDescriptor y.desc = some sig → argsL.length = sig.parameters.length)
    (hstack : g.stack = argsL.reverse ++ rest) (hW : 2 * g.monitorRoom + (rest.map fun v => v.category).sum ≤ W9) (hdg : decode c.code g.pc = .ok (.invokestatic index, 3))
    (hpre : ∀ vm₁, s.WarmedH vm₁ → Pre ⟨T.setVm vm₁, locs, cells, slots⟩ argsL.toArray) :
    (∃ (v : Option Value) (vm₁ : Vm) (B : Pt), s.WarmedH vm₁ ∧ Stand p l e R s m args below meth c B.U B.locs B.cells B.slots ∧ Post ⟨T.setVm vm₁, locs, cells, slots⟩ argsL.toArray v B ∧
      ∀ target, Steps p.tables e below (B.U.setTop { g with pc := g.pc + 3, stack := v.toList ++ rest }) target → Steps p.tables e below (T.setTop g) target) ∨
    (∃ (q : Addr) (vm₁ : Vm) (B : Pt), s.WarmedH vm₁ ∧ Stand p l e R s m args below meth c B.U B.locs B.cells B.slots ∧ PostX ⟨T.setVm vm₁, locs, cells, slots⟩ argsL.toArray q B ∧
      Steps p.tables e below (T.setTop g) ((B.U.setTop { g with stack := rest }).pushFrame (.throwing q))) := by
  obtain ⟨mk, methM, cM, hnamed, hmethM, -, -, -, -, -, -, hsigM⟩ := Cond.codeWith_spec hcode
  have hstatic : methM.isStatic = true := Cond.static_spec hnamed hmethM hstat
  obtain ⟨kP, hkP, -⟩ := className_of_methodNamed hnamed
  have hinitP : kP.init = .initialized := Cond.initialized_spec (findClass_of_methodNamed hnamed) hkP hinit
  obtain ⟨vm₁, X₁, hstep₁⟩ := X.invokestatic hexec hown hlink hnamed hmethM hstatic hkP hinitP hy (g := g) hg (argsL := argsL) (rest := rest) (hlen _ hsigM) hstack hdg
  rcases hK m meth c ⟨T.setVm vm₁, locs, cells, slots⟩ { g with stack := rest } (.invokestatic index) mk argsL.toArray X₁ hg hsize hdg hW (X₁.named hnamed) (hpre vm₁ X₁.warmed) with ⟨v, B, X', hpost, hsteps⟩ | ⟨q, B, X', hpost, hsteps⟩
  · exact Or.inl ⟨v, vm₁, B, X₁.warmed, X', hpost, fun target h => hstep₁ _ fun acts => by rw [doInvoke_state]; exact hsteps.trans h⟩
  · exact Or.inr ⟨q, vm₁, B, X₁.warmed, X', hpost, hstep₁ _ fun acts => by rw [doInvoke_state]; exact hsteps⟩
theorem vx_callVW (X : Stand p l e R s m args below meth c T locs cells slots) (hexec : p.tables.exec = Jvm.exec) {own C : String} {index : Nat} {y : MethodName} {bytes : ByteArray} {maxL : Nat} {ret : Option FieldType} {hh : List (Nat × Nat × Nat × Nat)}
    (hown : s.vm.findClass own = some m.cls) (hlink : (Cond.methodLink own index y).before args s = true) (hinst : (Cond.instanceMethod y).before args s = true) (hsel : (Cond.selects C y y).before args s = true)
    (hcode : (Cond.codeWith y bytes maxL ret hh).before args s = true) (hy : y.cls ≠ "java/lang/invoke/MethodHandle" ∧ y.cls ≠ "java/lang/invoke/VarHandle")
    {W9 : Nat} {Pre : Pt → Array Value → Prop} {Post : Pt → Array Value → Option Value → Pt → Prop} (hK : Back l R p e below s args y 3 W9 Pre Post)
    {b : Addr} {cellB : Cell} (hcell : T.heap[b]? = some cellB) (hobj : cellB.vm.isStatics = false) (hcls : s.vm.findClass C = some cellB.cls)
    {g : JFrame} (hg : g.method = m) (hsize : g.locals.size = c.maxLocals) {argsL rest : List Value} (hlen : ∀ sig, parseMethodDescriptor y.desc = some sig → argsL.length = sig.parameters.length)
    (hstack : g.stack = argsL.reverse ++ .ref b :: rest) (hW : 2 * g.monitorRoom + (rest.map fun v => v.category).sum ≤ W9) (hdg : decode c.code g.pc = .ok (.invokevirtual index, 3))
    (hpre : ∀ vm₁, s.WarmedH vm₁ → Pre ⟨T.setVm vm₁, locs, cells, slots⟩ (Value.ref b :: argsL).toArray) :
    ∃ (v : Option Value) (vm₁ : Vm) (B : Pt), s.WarmedH vm₁ ∧ Stand p l e R s m args below meth c B.U B.locs B.cells B.slots ∧ Post ⟨T.setVm vm₁, locs, cells, slots⟩ (Value.ref b :: argsL).toArray v B ∧
      ∀ target, Steps p.tables e below (B.U.setTop { g with pc := g.pc + 3, stack := v.toList ++ rest }) target → Steps p.tables e below (T.setTop g) target := by
  obtain ⟨mk, methM, hnamed, hmethM, hstM, habM⟩ := Cond.instanceMethod_spec hinst
  obtain ⟨m8, methM', cM, hn8, hmethM', -, -, -, -, -, -, hsigM⟩ := Cond.codeWith_spec hcode
  cases Option.some.inj (hn8.symm.trans hnamed)
  cases hmethM.symm.trans hmethM'
  obtain ⟨c2, r2, m2, q1, q2, q3, q4, kP, hkP, hkPi⟩ := Cond.selects_spec hsel
  cases hcls.symm.trans q1
  cases (State.methodFound?_of_named hnamed hy).symm.trans q2
  cases hnamed.symm.trans q3
  have hselP : selectMethod e.platform s.vm cellB.cls mk = .method mk := by rw [Launch.admits_selectMethod X.admits]; exact q4
  obtain ⟨vm₁, X₁, hstep₁⟩ := X.invokevirtual hexec hown hlink hnamed hmethM hstM hkP hkPi hy (a := b) (cell := cellB) hcell
    (fun z h => by rw [h] at hobj; cases hobj) hselP hmethM habM hkP hkPi (g := g) hg (argsL := argsL) (rest := rest) (hlen _ hsigM) hstack hdg
  obtain ⟨v, B, X', hpost, hsteps⟩ := hK m meth c ⟨T.setVm vm₁, locs, cells, slots⟩ { g with stack := rest } (.invokevirtual index) mk (Value.ref b :: argsL).toArray X₁ hg hsize hdg hW (X₁.named hnamed) (hpre vm₁ X₁.warmed)
  exact ⟨v, vm₁, B, X₁.warmed, X', hpost, fun target h => hstep₁ _ fun acts => by rw [doInvoke_state]; exact hsteps.trans h⟩
abbrev vx_CVW (R : Room) (s : State) (args : Array Value) (own C : String) (index : Nat) (y : MethodName) (bytes : ByteArray) (maxL : Nat) (ret : Option FieldType) (hh : List (Nat × Nat × Nat × Nat)) (ws : List Cond) (rm : Room) (mc ms n : Nat) : Prop :=
  (rm.cells = mc ∧ rm.slots = ms ∧ rm.frames + 1 ≤ R.frames ∧ 8 + (maxL + 11) + rm.locals ≤ R.locals ∧ (∀ w ∈ ws, ∀ (a' : Array Value) (U : State), s.WarmedH U.vm → w.before a' U = true) ∧ Cond.codeWith y bytes maxL ret hh ∈ ws) ∧
  (Cond.codeWith y bytes maxL ret hh).before args s = true ∧ (Cond.initialized y.cls).before args s = true ∧ (y.cls ≠ "java/lang/invoke/MethodHandle" ∧ y.cls ≠ "java/lang/invoke/VarHandle") ∧
  (∀ sig, parseMethodDescriptor y.desc = some sig → n = sig.parameters.length) ∧ (Cond.methodLink own index y).before args s = true ∧ (Cond.instanceMethod y).before args s = true ∧ (Cond.selects C y y).before args s = true
theorem vx_cwVW {own C : String} {index maxL mc ms : Nat} {y : MethodName} {bytes : ByteArray} {ret : Option FieldType} {hh : List (Nat × Nat × Nat × Nat)} {Ts ws ws' : List Cond} {rm : Room} (n : Nat) (ht : ∀ w ∈ Ts, w.before args s = true) (hT : GoodIn Ts (wsV own index C y ws)) (hw : ws = Cond.codeWith y bytes maxL ret hh :: ws') (hrc : rm.cells = mc) (hrs : rm.slots = ms)
    (hd : y.cls = C ∧ y.cls ≠ "java/lang/invoke/MethodHandle" ∧ y.cls ≠ "java/lang/invoke/VarHandle" ∧ (parseMethodDescriptor y.desc).map (fun d => d.parameters.length) = some n) (hR : rm.frames + 1 ≤ R.frames ∧ 8 + (maxL + 11) + rm.locals ≤ R.locals) :
    vx_CVW R s args own C index y bytes maxL ret hh ws rm mc ms n := by
  obtain ⟨hC, hd⟩ := hd
  subst hC
  have ok : ∀ w ∈ wsV own index y.cls y ws, w.before args s = true := fun w h => ht w (hT w h).1
  have hG : GoodIn Ts ws := fun w h => hT w (by unfold wsV; exact List.mem_append_right _ h)
  have hc : Cond.codeWith y bytes maxL ret hh ∈ ws := by rw [hw]; exact List.mem_cons_self
  refine ⟨⟨hrc, hrs, hR.1, hR.2, pay_in ht hG, hc⟩, ht _ (hG _ hc).1, ok _ (by simp [wsV]), ⟨hd.1, hd.2.1⟩, fun sig h => ?_, ok _ (by simp [wsV]), ok _ (by simp [wsV]), ok _ (by simp [wsV])⟩
  have h2 := hd.2.2
  rw [h] at h2
  exact (Option.some.inj h2).symm
theorem vx_runVW {y : MethodName} {bytes cc : ByteArray} {maxL nL mc ms n index : Nat} {ret : Option FieldType} {hh : List (Nat × Nat × Nat × Nat)} {ws : List Cond} {rm : Room} {Pc : Array Value → State → Prop} {Qc : Array Value → State → Outcome → State → Prop} {free : Addr → Prop} {Ts : List Cond} {own C : String} {b : Addr} {As rest : List Value} {g : JFrame}
    (S : CallFix p m c cc nL s args Ts own) (hM : Met l y ws rm Pc Qc mc ms free) (cw : vx_CVW R s args own C index y bytes maxL ret hh ws rm mc ms n) (hp : PreV s H C b Pc As)
    (hg : g.method = m) (hn : As.length = n) (hsize : g.locals.size = nL) (hstack : g.stack = As.reverse ++ .ref b :: rest) (hW : 2 * g.monitorRoom + (rest.map fun v => v.category).sum ≤ 8) (hdg : decode cc g.pc = .ok (.invokevirtual index, 3)) (hf : cells + mc ≤ R.cells ∧ slots + ms ≤ R.slots) :
    va_Run p l e R s m args below meth c H locs cells slots mc ms g rest (Qc (Value.ref b :: As).toArray) free := by
  obtain ⟨⟨hrc, hrs, hfr, hlo, hws, hcw⟩, hcode, hini, hy, hlen, hl, hin, hse⟩ := cw
  have hK : Back l R p e below s args y 3 8 (PreOf R mc ms Pc) (PostOf Qc mc ms free) := va_backW (hh := hh) (bytes := bytes) (maxL := maxL) (ret := ret) hM hp.1 hrc hrs hfr hlo hws hcw (fun a' U hW => word_at hW (Or.inl (by first | rfl | simp [Cond.onTables, Cond.keeps, Cond.steady])) hini)
  obtain ⟨hx, hb, hml, ho, -⟩ := S
  obtain ⟨-, ⟨cellB, hcB, hoB, hclB⟩, hPc⟩ := hp
  intro T hT X
  obtain ⟨v, vm₁, ⟨U', l2, c2, s2⟩, hW₁, X', ⟨g', mk, t, L, e1, e2, hq, h1, hL, h2, h3⟩, st⟩ := vx_callVW X hx (C := C) (hh := hh) (bytes := bytes) (maxL := maxL) (ret := ret) ho hl hin hse hcode hy hK (by rw [hT]; exact hcB) hoB hclB hg (hsize.trans hml.symm) (argsL := As) (rest := rest) (fun sig h => hn.trans (hlen sig h)) hstack hW (by rw [hb]; exact hdg)
    (fun vm₁ hW₁ => ⟨hf.1, hf.2, hPc (T.setVm vm₁) hT hW₁⟩)
  dsimp only [Pt.U, Pt.locs, Pt.cells, Pt.slots] at X' e1 e2 h1 h2 h3 st
  subst h1; subst h2; subst h3
  exact ⟨v, (T.setVm vm₁).calling g' mk (Value.ref b :: As).toArray, t, U', L, hT, X', hL, e1, e2, hq, st⟩
section
variable {y : MethodName} {bytes cc : ByteArray} {maxL nL mc ms n index : Nat} {ret : Option FieldType} {ws : List Cond} {rm : Room} {Pc : Array Value → State → Prop} {Qc : Array Value → State → Outcome → State → Prop} {XC : String → State → State → Prop} {free : Addr → Prop} {Ts : List Cond} {own C : String} {b : Addr} {As rest : List Value} {g : JFrame}
theorem vx_runVX {hh : List (Nat × Nat × Nat × Nat)} (S : CallFix p m c cc nL s args Ts own) (hM : vx_Met l y ws rm Pc Qc XC mc ms free) (cw : vx_CVW R s args own C index y bytes maxL ret hh ws rm mc ms n) (hp : PreV s H C b Pc As)
    (hg : g.method = m) (hn : As.length = n) (hsize : g.locals.size = nL) (hstack : g.stack = As.reverse ++ .ref b :: rest) (hW : 2 * g.monitorRoom + (rest.map fun v => v.category).sum ≤ 8) (hdg : decode cc g.pc = .ok (.invokevirtual index, 3)) (hf : cells + mc ≤ R.cells ∧ slots + ms ≤ R.slots) :
    vx_Run p l e R s m args below meth c H locs cells slots mc ms g rest (Qc (Value.ref b :: As).toArray) XC free := by
  obtain ⟨⟨hrc, hrs, hfr, hlo, hws, hcw⟩, hcode, hini, hy, hlen, hl, hin, hse⟩ := cw
  have hK : vx_Back l R p e below s args y 3 8 (PreOf R mc ms Pc) (PostOf Qc mc ms free) (vx_Post XC mc ms free) := vx_backW (hh := hh) (bytes := bytes) (maxL := maxL) (ret := ret) hM hp.1 hrc hrs hfr hlo hws hcw (fun a' U hW => word_at hW (Or.inl (by first | rfl | simp [Cond.onTables, Cond.keeps, Cond.steady])) hini)
  obtain ⟨hx, hb, hml, ho, -⟩ := S
  obtain ⟨-, ⟨cellB, hcB, hoB, hclB⟩, hPc⟩ := hp
  intro T hT X
  rcases vx_callVX X hx (C := C) (hh := hh) (bytes := bytes) (maxL := maxL) (ret := ret) ho hl hin hse hcode hy hK (by rw [hT]; exact hcB) hoB hclB hg (hsize.trans hml.symm) (argsL := As) (rest := rest) (fun sig h => hn.trans (hlen sig h)) hstack hW (by rw [hb]; exact hdg)
    (fun vm₁ hW₁ => ⟨hf.1, hf.2, hPc (T.setVm vm₁) hT hW₁⟩) with ⟨v, vm₁, ⟨U', l2, c2, s2⟩, hW₁, X', ⟨g', mk, t, L, e1, e2, hq, h1, hL, h2, h3⟩, st⟩ | ⟨q, vm₁, ⟨U', l2, c2, s2⟩, hW₁, X', ⟨g', mk, t, L, E, ce, e1, e2, hq, hce, hcv, hcl, h1, hL, h2, h3⟩, st⟩
  · dsimp only [Pt.U, Pt.locs, Pt.cells, Pt.slots] at X' e1 e2 h1 h2 h3 st
    subst h1; subst h2; subst h3
    exact Or.inl ⟨v, (T.setVm vm₁).calling g' mk (Value.ref b :: As).toArray, t, U', L, hT, X', hL, e1, e2, hq, st⟩
  · dsimp only [Pt.U, Pt.locs, Pt.cells, Pt.slots] at X' e1 e2 h1 h2 h3 st hcl
    subst h1; subst h2; subst h3
    exact Or.inr ⟨q, (T.setVm vm₁).calling g' mk (Value.ref b :: As).toArray, t, U', L, E, ce, hT, X', hL, e1, e2, hq, hce, hcv, vx_cls hW₁ hcl, st⟩
theorem vx_runSX {hh : List (Nat × Nat × Nat × Nat)} (S : CallFix p m c cc nL s args Ts own) (hM : vx_Met l y ws rm Pc Qc XC mc ms free) (cw : vx_CSW R s args own index y bytes maxL ret hh ws rm mc ms n) (hp : PreS s H Pc As)
    (hg : g.method = m) (hn : As.length = n) (hsize : g.locals.size = nL) (hstack : g.stack = As.reverse ++ rest) (hW : 2 * g.monitorRoom + (rest.map fun v => v.category).sum ≤ 8) (hdg : decode cc g.pc = .ok (.invokestatic index, 3)) (hf : cells + mc ≤ R.cells ∧ slots + ms ≤ R.slots) :
    vx_Run p l e R s m args below meth c H locs cells slots mc ms g rest (Qc As.toArray) XC free := by
  obtain ⟨⟨hrc, hrs, hfr, hlo, hws, hcw⟩, hcode, hini, hy, hlen, hl, hstt⟩ := cw
  have hK : vx_Back l R p e below s args y 3 8 (PreOf R mc ms Pc) (PostOf Qc mc ms free) (vx_Post XC mc ms free) := vx_backW (hh := hh) (bytes := bytes) (maxL := maxL) (ret := ret) hM hp.1 hrc hrs hfr hlo hws hcw (fun a' U hW => word_at hW (Or.inl (by first | rfl | simp [Cond.onTables, Cond.keeps, Cond.steady])) hini)
  obtain ⟨hx, hb, hml, ho, -⟩ := S
  intro T hT X
  rcases vx_callSX X hx (hh := hh) (bytes := bytes) (maxL := maxL) (ret := ret) ho hl hstt hini hcode hy hK hg (hsize.trans hml.symm) (argsL := As) (rest := rest) (fun sig h => hn.trans (hlen sig h)) hstack hW (by rw [hb]; exact hdg)
    (fun vm₁ hW₁ => ⟨hf.1, hf.2, hp.2 (T.setVm vm₁) hT hW₁⟩) with ⟨v, vm₁, ⟨U', l2, c2, s2⟩, hW₁, X', ⟨g', mk, t, L, e1, e2, hq, h1, hL, h2, h3⟩, st⟩ | ⟨q, vm₁, ⟨U', l2, c2, s2⟩, hW₁, X', ⟨g', mk, t, L, E, ce, e1, e2, hq, hce, hcv, hcl, h1, hL, h2, h3⟩, st⟩
  · dsimp only [Pt.U, Pt.locs, Pt.cells, Pt.slots] at X' e1 e2 h1 h2 h3 st
    subst h1; subst h2; subst h3
    exact Or.inl ⟨v, (T.setVm vm₁).calling g' mk As.toArray, t, U', L, hT, X', hL, e1, e2, hq, st⟩
  · dsimp only [Pt.U, Pt.locs, Pt.cells, Pt.slots] at X' e1 e2 h1 h2 h3 st hcl
    subst h1; subst h2; subst h3
    exact Or.inr ⟨q, (T.setVm vm₁).calling g' mk As.toArray, t, U', L, E, ce, hT, X', hL, e1, e2, hq, hce, hcv, vx_cls hW₁ hcl, st⟩
end
end VXH
theorem vx_ofWH {l : Launch} {y : MethodName} {ws ws' : List Cond} {rm : Room} {Pc : Array Value → State → Prop} {Qc : Array Value → State → Outcome → State → Prop} {XC : String → State → State → Prop} {mc ms : Nat} {free : Addr → Prop} {cc : ByteArray} {maxL : Nat} {ret : Option FieldType} {hh : List (Nat × Nat × Nat × Nat)}
    (hy : plainName y.cls = true) (hw : ws = Cond.codeWith y cc maxL ret hh :: ws')
    (body : ∀ p e s m args below meth c s₁, BodyLoose p l y (headSpec ws rm) cc maxL ret e s m args below meth c s₁ → c.maxLocals = maxL → Pc args s →
      W p l e (headSpec ws rm).room s m args below meth c s.heap [] 0 0 (vx_MQ below Qc XC args s mc ms free) (entryFrame m args maxL)) : vx_Met l y ws rm Pc Qc XC mc ms free := by
  refine MetFree.of_bodyS (code := cc) (maxLocals := maxL) (ret := ret) hy ?_ ?_
  · intro args s m h hn
    obtain ⟨m9, meth, c, hn9, h1, h2, h3, h4, -, h5, h6, -⟩ := Cond.codeWith_spec (atoms_spec (ws := ws) h _ (by rw [hw]; exact List.mem_cons_self))
    cases hn.symm.trans hn9
    exact ⟨meth, c, h1, h2, h3, h4, h5, h6⟩
  · intro p e s m args below meth c s₁ B hml hP _
    have hh0 : s₁.heap = s.heap := by rw [B.state]; rfl
    obtain ⟨t, a1, o, b1, b2, b3⟩ := body p e s m args below meth c s₁ B hml hP s₁ hh0 (Stand.of_body B)
    exact ⟨t, o, a1, b1, b2, b3⟩
/-! ===== END ===== -/
end
section
/-! ===== BEGIN printed: names, fields, word lists, decode rows ===== -/
def RX0 : String := "GooseCodex$Farm"
def TX0 : u_T := fun k => match k with
  | 0 => ("GooseCodex$Farm", "gateCount", "I", false)
  | 1 => ("GooseCodex$Farm", "ranks", "[I", true)
  | 2 => ("GooseCodex$Farm", "flock", "LGooseCodex$Flock;", true)
  | 3 => ("GooseCodex$Farm", "guests", "LGooseCodex$Guests;", true)
  | 4 => ("GooseCodex$Farm", "beat", "I", false)
  | 5 => ("GooseCodex$Farm", "bribeCount", "I", false)
  | _ => ("GooseCodex$Farm", "retreatCount", "I", false)
def tyX0 : Nat → FieldType := fun k => match k with
  | 0 => .int
  | 1 => .array .int
  | 2 => .object "GooseCodex$Flock"
  | 3 => .object "GooseCodex$Guests"
  | 4 => .int
  | 5 => .int
  | _ => .int
abbrev wsX00 : List Cond := u_ws RX0 TX0 7
theorem nmX0 : ∀ a, a < 7 → ∀ b, b < 7 → a ≠ b → (TX0 a).2.1 ≠ (TX0 b).2.1 := by decide +kernel
theorem tyX0_ok : ∀ k, k < 7 → parseFieldDescriptor (TX0 k).2.2.1 = some (tyX0 k) := by decide +kernel
abbrev cX0_init : ByteArray := prog_2_method_1_code
def yX0_init : MethodName := ⟨RX0, "<init>", "()V"⟩
abbrev cX0_hasGate : ByteArray := prog_2_method_2_code
def yX0_hasGate : MethodName := ⟨RX0, "hasGate", "(I)Z"⟩
abbrev cX0_putGate : ByteArray := prog_2_method_3_code
def yX0_putGate : MethodName := ⟨RX0, "putGate", "(I)I"⟩
abbrev cX0_rankLack : ByteArray := prog_2_method_4_code
def yX0_rankLack : MethodName := ⟨RX0, "rankLack", "(II)I"⟩
abbrev cX0_gateHiss : ByteArray := prog_2_method_5_code
def yX0_gateHiss : MethodName := ⟨RX0, "gateHiss", "(II)I"⟩
abbrev cX0_guestHiss : ByteArray := prog_2_method_6_code
def yX0_guestHiss : MethodName := ⟨RX0, "guestHiss", "(I)I"⟩
abbrev cX0_isBehindAll : ByteArray := prog_2_method_7_code
def yX0_isBehindAll : MethodName := ⟨RX0, "isBehindAll", "(I)Z"⟩
abbrev cX0_countInside : ByteArray := prog_2_method_8_code
def yX0_countInside : MethodName := ⟨RX0, "countInside", "()I"⟩
abbrev cX0_payGoose : ByteArray := prog_2_method_9_code
def yX0_payGoose : MethodName := ⟨RX0, "payGoose", "(II)V"⟩
abbrev cX0_runBeats : ByteArray := prog_2_method_11_code
def yX0_runBeats : MethodName := ⟨RX0, "runBeats", "(I)V"⟩
abbrev cX0_runBeat : ByteArray := prog_2_method_12_code
def yX0_runBeat : MethodName := ⟨RX0, "runBeat", "()V"⟩
abbrev cX0_moveGuest : ByteArray := prog_2_method_13_code
def yX0_moveGuest : MethodName := ⟨RX0, "moveGuest", "(I)V"⟩
def RX1 : String := "GooseCodex$Flock"
def TX1 : u_T := fun k => match k with
  | 0 => ("GooseCodex$Flock", "count", "I", false)
  | 1 => ("GooseCodex$Flock", "gate", "[I", true)
  | 2 => ("GooseCodex$Flock", "temper", "[I", true)
  | 3 => ("GooseCodex$Flock", "calm", "[I", true)
  | _ => ("GooseCodex$Flock", "eaten", "[I", true)
def tyX1 : Nat → FieldType := fun k => match k with
  | 0 => .int
  | 1 => .array .int
  | 2 => .array .int
  | 3 => .array .int
  | _ => .array .int
abbrev wsX10 : List Cond := u_ws RX1 TX1 5
theorem nmX1 : ∀ a, a < 5 → ∀ b, b < 5 → a ≠ b → (TX1 a).2.1 ≠ (TX1 b).2.1 := by decide +kernel
theorem tyX1_ok : ∀ k, k < 5 → parseFieldDescriptor (TX1 k).2.2.1 = some (tyX1 k) := by decide +kernel
abbrev cX1_init : ByteArray := prog_3_method_1_code
def yX1_init : MethodName := ⟨RX1, "<init>", "()V"⟩
abbrev cX1_hasGoose : ByteArray := prog_3_method_2_code
def yX1_hasGoose : MethodName := ⟨RX1, "hasGoose", "(I)Z"⟩
abbrev cX1_putGoose : ByteArray := prog_3_method_3_code
def yX1_putGoose : MethodName := ⟨RX1, "putGoose", "(II)I"⟩
abbrev cX1_isAwakeThere : ByteArray := prog_3_method_4_code
def yX1_isAwakeThere : MethodName := ⟨RX1, "isAwakeThere", "(II)Z"⟩
abbrev cX1_countAwake : ByteArray := prog_3_method_5_code
def yX1_countAwake : MethodName := ⟨RX1, "countAwake", "(I)I"⟩
abbrev cX1_hissThere : ByteArray := prog_3_method_6_code
def yX1_hissThere : MethodName := ⟨RX1, "hissThere", "(II)I"⟩
abbrev cX1_fiercestAwake : ByteArray := prog_3_method_7_code
def yX1_fiercestAwake : MethodName := ⟨RX1, "fiercestAwake", "(I)I"⟩
abbrev cX1_feed : ByteArray := prog_3_method_8_code
def yX1_feed : MethodName := ⟨RX1, "feed", "(I)V"⟩
abbrev cX1_enrage : ByteArray := prog_3_method_9_code
def yX1_enrage : MethodName := ⟨RX1, "enrage", "(I)V"⟩
abbrev cX1_wakeByABeat : ByteArray := prog_3_method_10_code
def yX1_wakeByABeat : MethodName := ⟨RX1, "wakeByABeat", "()V"⟩
abbrev cX1_sumOfTempers : ByteArray := prog_3_method_11_code
def yX1_sumOfTempers : MethodName := ⟨RX1, "sumOfTempers", "()I"⟩
def RX2 : String := "GooseCodex$Guests"
def TX2 : u_T := fun k => match k with
  | 0 => ("GooseCodex$Guests", "count", "I", false)
  | 1 => ("GooseCodex$Guests", "rank", "[I", true)
  | 2 => ("GooseCodex$Guests", "nerve", "[I", true)
  | 3 => ("GooseCodex$Guests", "corns", "[I", true)
  | 4 => ("GooseCodex$Guests", "passed", "[I", true)
  | _ => ("GooseCodex$Guests", "retreat", "[I", true)
def tyX2 : Nat → FieldType := fun k => match k with
  | 0 => .int
  | 1 => .array .int
  | 2 => .array .int
  | 3 => .array .int
  | 4 => .array .int
  | _ => .array .int
abbrev wsX20 : List Cond := u_ws RX2 TX2 6
theorem nmX2 : ∀ a, a < 6 → ∀ b, b < 6 → a ≠ b → (TX2 a).2.1 ≠ (TX2 b).2.1 := by decide +kernel
theorem tyX2_ok : ∀ k, k < 6 → parseFieldDescriptor (TX2 k).2.2.1 = some (tyX2 k) := by decide +kernel
abbrev cX2_init : ByteArray := prog_4_method_1_code
def yX2_init : MethodName := ⟨RX2, "<init>", "()V"⟩
abbrev cX2_hasGuest : ByteArray := prog_4_method_2_code
def yX2_hasGuest : MethodName := ⟨RX2, "hasGuest", "(I)Z"⟩
abbrev cX2_putGuest : ByteArray := prog_4_method_3_code
def yX2_putGuest : MethodName := ⟨RX2, "putGuest", "(III)I"⟩
abbrev cX2_fallBack : ByteArray := prog_4_method_4_code
def yX2_fallBack : MethodName := ⟨RX2, "fallBack", "(II)V"⟩
def RX3 : String := "GooseCodex"
def TX3 : u_T := fun k => match k with
  | 0 => ("GooseCodex", "now", "LGooseCodex$Farm;", true)
  | _ => ("GooseCodex", "trial", "LGooseCodex$Farm;", true)
def tyX3 : Nat → FieldType := fun k => match k with
  | 0 => .object "GooseCodex$Farm"
  | _ => .object "GooseCodex$Farm"
abbrev wsX30 : List Cond := u_ws RX3 TX3 2
theorem nmX3 : ∀ a, a < 2 → ∀ b, b < 2 → a ≠ b → (TX3 a).2.1 ≠ (TX3 b).2.1 := by decide +kernel
theorem tyX3_ok : ∀ k, k < 2 → parseFieldDescriptor (TX3 k).2.2.1 = some (tyX3 k) := by decide +kernel
abbrev cX3_init : ByteArray := prog_1_method_1_code
def yX3_init : MethodName := ⟨RX3, "<init>", "()V"⟩
abbrev cX3_addGate : ByteArray := prog_1_method_2_code
def yX3_addGate : MethodName := ⟨RX3, "addGate", "(I)I"⟩
abbrev cX3_addGoose : ByteArray := prog_1_method_3_code
def yX3_addGoose : MethodName := ⟨RX3, "addGoose", "(II)I"⟩
abbrev cX3_arrive : ByteArray := prog_1_method_4_code
def yX3_arrive : MethodName := ⟨RX3, "arrive", "(III)I"⟩
abbrev cX3_setRank : ByteArray := prog_1_method_5_code
def yX3_setRank : MethodName := ⟨RX3, "setRank", "(II)I"⟩
abbrev cX3_lead : ByteArray := prog_1_method_6_code
def yX3_lead : MethodName := ⟨RX3, "lead", "(II)I"⟩
abbrev cX3_giveCorns : ByteArray := prog_1_method_7_code
def yX3_giveCorns : MethodName := ⟨RX3, "giveCorns", "(II)I"⟩
abbrev cX3_bribe : ByteArray := prog_1_method_8_code
def yX3_bribe : MethodName := ⟨RX3, "bribe", "(II)I"⟩
abbrev cX3_passBeats : ByteArray := prog_1_method_9_code
def yX3_passBeats : MethodName := ⟨RX3, "passBeats", "(I)I"⟩
abbrev cX3_beats : ByteArray := prog_1_method_10_code
def yX3_beats : MethodName := ⟨RX3, "beats", "()I"⟩
abbrev cX3_gates : ByteArray := prog_1_method_11_code
def yX3_gates : MethodName := ⟨RX3, "gates", "()I"⟩
abbrev cX3_geese : ByteArray := prog_1_method_12_code
def yX3_geese : MethodName := ⟨RX3, "geese", "()I"⟩
abbrev cX3_visitors : ByteArray := prog_1_method_13_code
def yX3_visitors : MethodName := ⟨RX3, "visitors", "()I"⟩
abbrev cX3_inFarm : ByteArray := prog_1_method_14_code
def yX3_inFarm : MethodName := ⟨RX3, "inFarm", "()I"⟩
abbrev cX3_bribes : ByteArray := prog_1_method_15_code
def yX3_bribes : MethodName := ⟨RX3, "bribes", "()I"⟩
abbrev cX3_retreats : ByteArray := prog_1_method_16_code
def yX3_retreats : MethodName := ⟨RX3, "retreats", "()I"⟩
abbrev cX3_rankOf : ByteArray := prog_1_method_17_code
def yX3_rankOf : MethodName := ⟨RX3, "rankOf", "(I)I"⟩
abbrev cX3_awakeAt : ByteArray := prog_1_method_18_code
def yX3_awakeAt : MethodName := ⟨RX3, "awakeAt", "(I)I"⟩
abbrev cX3_hissOf : ByteArray := prog_1_method_19_code
def yX3_hissOf : MethodName := ⟨RX3, "hissOf", "(II)I"⟩
abbrev cX3_loudestGate : ByteArray := prog_1_method_20_code
def yX3_loudestGate : MethodName := ⟨RX3, "loudestGate", "()I"⟩
abbrev cX3_gateOf : ByteArray := prog_1_method_21_code
def yX3_gateOf : MethodName := ⟨RX3, "gateOf", "(I)I"⟩
abbrev cX3_temperOf : ByteArray := prog_1_method_22_code
def yX3_temperOf : MethodName := ⟨RX3, "temperOf", "(I)I"⟩
abbrev cX3_calmFor : ByteArray := prog_1_method_23_code
def yX3_calmFor : MethodName := ⟨RX3, "calmFor", "(I)I"⟩
abbrev cX3_eatenBy : ByteArray := prog_1_method_24_code
def yX3_eatenBy : MethodName := ⟨RX3, "eatenBy", "(I)I"⟩
abbrev cX3_passedBy : ByteArray := prog_1_method_25_code
def yX3_passedBy : MethodName := ⟨RX3, "passedBy", "(I)I"⟩
abbrev cX3_isInFarm : ByteArray := prog_1_method_26_code
def yX3_isInFarm : MethodName := ⟨RX3, "isInFarm", "(I)Z"⟩
abbrev cX3_cornsOf : ByteArray := prog_1_method_27_code
def yX3_cornsOf : MethodName := ⟨RX3, "cornsOf", "(I)I"⟩
abbrev cX3_nerveOf : ByteArray := prog_1_method_28_code
def yX3_nerveOf : MethodName := ⟨RX3, "nerveOf", "(I)I"⟩
abbrev cX3_retreatOf : ByteArray := prog_1_method_29_code
def yX3_retreatOf : MethodName := ⟨RX3, "retreatOf", "(I)I"⟩
abbrev cX3_hissAt : ByteArray := prog_1_method_30_code
def yX3_hissAt : MethodName := ⟨RX3, "hissAt", "(I)I"⟩
abbrev cX3_gradeFor : ByteArray := prog_1_method_31_code
def yX3_gradeFor : MethodName := ⟨RX3, "gradeFor", "(I)I"⟩
abbrev cX3_dares : ByteArray := prog_1_method_32_code
def yX3_dares : MethodName := ⟨RX3, "dares", "(I)Z"⟩
abbrev cX3_meanTemper : ByteArray := prog_1_method_40_code
def yX3_meanTemper : MethodName := ⟨RX3, "meanTemper", "()D"⟩
abbrev cX3_gradeOfHiss : ByteArray := prog_1_method_45_code
def yX3_gradeOfHiss : MethodName := ⟨RX3, "gradeOfHiss", "(I)I"⟩
abbrev cX3_isWithin : ByteArray := prog_1_method_46_code
def yX3_isWithin : MethodName := ⟨RX3, "isWithin", "(III)Z"⟩
abbrev cX3_isRank : ByteArray := prog_1_method_47_code
def yX3_isRank : MethodName := ⟨RX3, "isRank", "(I)Z"⟩
abbrev cX3_isNerve : ByteArray := prog_1_method_48_code
def yX3_isNerve : MethodName := ⟨RX3, "isNerve", "(I)Z"⟩
abbrev cX3_isBeats : ByteArray := prog_1_method_49_code
def yX3_isBeats : MethodName := ⟨RX3, "isBeats", "(I)Z"⟩
abbrev cX3_demandGoose : ByteArray := prog_1_method_50_code
def yX3_demandGoose : MethodName := ⟨RX3, "demandGoose", "(I)V"⟩
abbrev cX3_demandVisitor : ByteArray := prog_1_method_51_code
def yX3_demandVisitor : MethodName := ⟨RX3, "demandVisitor", "(I)V"⟩
abbrev cX3_demandIndex : ByteArray := prog_1_method_52_code
def yX3_demandIndex : MethodName := ⟨RX3, "demandIndex", "(Z)V"⟩
abbrev cX3_demandArgument : ByteArray := prog_1_method_53_code
def yX3_demandArgument : MethodName := ⟨RX3, "demandArgument", "(Z)V"⟩
abbrev cX3_demandState : ByteArray := prog_1_method_54_code
def yX3_demandState : MethodName := ⟨RX3, "demandState", "(Z)V"⟩
def RX4 : String := "GooseCodexLaw$Sim"
def TX4 : u_T := fun k => match k with
  | 0 => ("GooseCodexLaw$Sim", "beat", "I", false)
  | 1 => ("GooseCodexLaw$Sim", "bribes", "I", false)
  | 2 => ("GooseCodexLaw$Sim", "retreats", "I", false)
  | 3 => ("GooseCodexLaw$Sim", "ranks", "[I", false)
  | 4 => ("GooseCodexLaw$Sim", "geese", "[[I", false)
  | _ => ("GooseCodexLaw$Sim", "visitors", "[[I", false)
def tyX4 : Nat → FieldType := fun k => match k with
  | 0 => .int
  | 1 => .int
  | 2 => .int
  | 3 => .array .int
  | 4 => .array (.array .int)
  | _ => .array (.array .int)
abbrev wsX40 : List Cond := u_ws RX4 TX4 6
theorem nmX4 : ∀ a, a < 6 → ∀ b, b < 6 → a ≠ b → (TX4 a).2.1 ≠ (TX4 b).2.1 := by decide +kernel
theorem tyX4_ok : ∀ k, k < 6 → parseFieldDescriptor (TX4 k).2.2.1 = some (tyX4 k) := by decide +kernel
abbrev cX4_init : ByteArray := prog_6_method_1_code
def yX4_init : MethodName := ⟨RX4, "<init>", "()V"⟩
abbrev cX4_with : ByteArray := prog_6_method_2_code
def yX4_with : MethodName := ⟨RX4, "with", "([[I[I)[[I"⟩
abbrev cX4_addGate : ByteArray := prog_6_method_3_code
def yX4_addGate : MethodName := ⟨RX4, "addGate", "(I)V"⟩
abbrev cX4_hiss : ByteArray := prog_6_method_4_code
def yX4_hiss : MethodName := ⟨RX4, "hiss", "(II)I"⟩
abbrev cX4_isIn : ByteArray := prog_6_method_5_code
def yX4_isIn : MethodName := ⟨RX4, "isIn", "([I)Z"⟩
abbrev cX4_hissAt : ByteArray := prog_6_method_6_code
def yX4_hissAt : MethodName := ⟨RX4, "hissAt", "([I)I"⟩
abbrev cX4_grade : ByteArray := prog_6_method_7_code
def yX4_grade : MethodName := ⟨RX4, "grade", "(I)I"⟩
abbrev cX4_feed : ByteArray := prog_6_method_8_code
def yX4_feed : MethodName := ⟨RX4, "feed", "([I[I)V"⟩
abbrev cX4_pass : ByteArray := prog_6_method_9_code
def yX4_pass : MethodName := ⟨RX4, "pass", "()V"⟩
abbrev cX4_inFarm : ByteArray := prog_6_method_10_code
def yX4_inFarm : MethodName := ⟨RX4, "inFarm", "()I"⟩
abbrev cX4_behind : ByteArray := prog_6_method_11_code
def yX4_behind : MethodName := ⟨RX4, "behind", "(I)I"⟩
abbrev cX4_isSame : ByteArray := prog_6_method_14_code
def yX4_isSame : MethodName := ⟨RX4, "isSame", "(LGooseCodex;)Z"⟩
def RX5 : String := "GooseCodexModel"
def TX5 : u_T := fun k => match k with
  | _ => ("", "", "", false)
def tyX5 : Nat → FieldType := fun k => match k with
  | _ => .int
abbrev wsX50 : List Cond := u_ws RX5 TX5 0
theorem nmX5 : ∀ a, a < 0 → ∀ b, b < 0 → a ≠ b → (TX5 a).2.1 ≠ (TX5 b).2.1 := by decide +kernel
theorem tyX5_ok : ∀ k, k < 0 → parseFieldDescriptor (TX5 k).2.2.1 = some (tyX5 k) := by decide +kernel
def RJ9 : String := "java/lang/Math"
def TJ9 : u_T := fun k => match k with
  | _ => ("", "", "", false)
def tyJ9 : Nat → FieldType := fun k => match k with
  | _ => .int
abbrev wsJ90 : List Cond := u_ws RJ9 TJ9 0
theorem nmJ9 : ∀ a, a < 0 → ∀ b, b < 0 → a ≠ b → (TJ9 a).2.1 ≠ (TJ9 b).2.1 := by decide +kernel
theorem tyJ9_ok : ∀ k, k < 0 → parseFieldDescriptor (TJ9 k).2.2.1 = some (tyJ9 k) := by decide +kernel
abbrev cJ9_max_7cf53 : ByteArray := prog_12_method_65_code
def yJ9_max_7cf53 : MethodName := ⟨RJ9, "max", "(II)I"⟩
abbrev cJ9_min_7cf53 : ByteArray := prog_12_method_69_code
def yJ9_min_7cf53 : MethodName := ⟨RJ9, "min", "(II)I"⟩
def RJ0 : String := "java/lang/String"
def TJ0 : u_T := fun k => match k with
  | _ => ("", "", "", false)
def tyJ0 : Nat → FieldType := fun k => match k with
  | _ => .int
abbrev wsJ00 : List Cond := u_ws RJ0 TJ0 0
theorem nmJ0 : ∀ a, a < 0 → ∀ b, b < 0 → a ≠ b → (TJ0 a).2.1 ≠ (TJ0 b).2.1 := by decide +kernel
theorem tyJ0_ok : ∀ k, k < 0 → parseFieldDescriptor (TJ0 k).2.2.1 = some (tyJ0 k) := by decide +kernel
def RL : String := "GooseCodexLaw"
abbrev cL_below : ByteArray := method_2_code
def yL_below : MethodName := ⟨RL, "below", "(II)I"⟩
abbrev cL_cell : ByteArray := method_3_code
def yL_cell : MethodName := ⟨RL, "cell", "([II)I"⟩
abbrev cL_act : ByteArray := method_4_code
def yL_act : MethodName := ⟨RL, "act", "(LGooseCodex;LGooseCodexLaw$Sim;I)Z"⟩
abbrev cL_build : ByteArray := method_5_code
def yL_build : MethodName := ⟨RL, "build", "(LGooseCodex;[I)LGooseCodexLaw$Sim;"⟩
abbrev cL_law : ByteArray := code
def yL_law : MethodName := ⟨RL, "law", "([I)Z"⟩
def wsX1_init : List Cond := .code yX1_init cX1_init 1 none :: ([.methodLink RX1 3 objectInit, .instanceMethod objectInit, .code objectInit ⟨#[0xb1]⟩ 1 none, .arrayClass .int, .fieldLink RX1 9 "GooseCodex$Flock" "gate" "[I", .fieldLink RX1 15 "GooseCodex$Flock" "temper" "[I", .fieldLink RX1 18 "GooseCodex$Flock" "calm" "[I", .fieldLink RX1 21 "GooseCodex$Flock" "eaten" "[I"] ++ wsX10)
def wsX2_init : List Cond := .code yX2_init cX2_init 1 none :: ([.methodLink RX2 3 objectInit, .instanceMethod objectInit, .code objectInit ⟨#[0xb1]⟩ 1 none, .arrayClass .int, .fieldLink RX2 9 "GooseCodex$Guests" "rank" "[I", .fieldLink RX2 15 "GooseCodex$Guests" "nerve" "[I", .fieldLink RX2 18 "GooseCodex$Guests" "corns" "[I", .fieldLink RX2 21 "GooseCodex$Guests" "passed" "[I", .fieldLink RX2 24 "GooseCodex$Guests" "retreat" "[I"] ++ wsX20)
def wsX0_init_r1 : List Cond := [Cond.methodLink RX0 3 objectInit, Cond.instanceMethod objectInit, Cond.code objectInit ⟨#[0xb1]⟩ 1 none, Cond.arrayClass .int, Cond.fieldLink RX0 9 "GooseCodex$Farm" "ranks" "[I", Cond.classLink RX0 15 RX1, Cond.instantiable RX1 5, Cond.initialized RX1, Cond.fieldLink RX0 18 "GooseCodex$Farm" "flock" "LGooseCodex$Flock;", Cond.classLink RX0 22 RX2, Cond.instantiable RX2 6, Cond.initialized RX2, Cond.fieldLink RX0 25 "GooseCodex$Farm" "guests" "LGooseCodex$Guests;", Cond.instanceMethod yX1_init, Cond.code yX1_init cX1_init 1 none, Cond.methodLink RX1 3 objectInit, Cond.fieldLink RX1 9 "GooseCodex$Flock" "gate" "[I", Cond.fieldLink RX1 15 "GooseCodex$Flock" "temper" "[I", Cond.fieldLink RX1 18 "GooseCodex$Flock" "calm" "[I", Cond.fieldLink RX1 21 "GooseCodex$Flock" "eaten" "[I", Cond.instanceMethod yX2_init, Cond.code yX2_init cX2_init 1 none, Cond.methodLink RX2 3 objectInit, Cond.fieldLink RX2 9 "GooseCodex$Guests" "rank" "[I"]
def wsX0_init_r2 : List Cond := [Cond.fieldLink RX2 15 "GooseCodex$Guests" "nerve" "[I", Cond.fieldLink RX2 18 "GooseCodex$Guests" "corns" "[I", Cond.fieldLink RX2 21 "GooseCodex$Guests" "passed" "[I", Cond.fieldLink RX2 24 "GooseCodex$Guests" "retreat" "[I"]
def wsX0_init : List Cond := .code yX0_init cX0_init 1 none :: ((wsX0_init_r1 ++ wsX0_init_r2) ++ wsX00 ++ wsX10 ++ wsX20)
def wsX0_hasGate : List Cond := .code yX0_hasGate cX0_hasGate 2 (some .boolean) :: ([.fieldLink RX0 29 "GooseCodex$Farm" "gateCount" "I"] ++ wsX00)
def wsX0_putGate : List Cond := .code yX0_putGate cX0_putGate 3 (some .int) :: ([.fieldLink RX0 29 "GooseCodex$Farm" "gateCount" "I", .fieldLink RX0 9 "GooseCodex$Farm" "ranks" "[I"] ++ wsX00)
def wsX0_rankLack : List Cond := .code yX0_rankLack cX0_rankLack 3 (some .int) :: ([.fieldLink RX0 9 "GooseCodex$Farm" "ranks" "[I", .methodLink RX0 37 Lib.Math.max.name, .static Lib.Math.max.name, .initialized "java/lang/Math", .code Lib.Math.max.name Lib.Math.max.code 2 (some .int), .methodLink RX0 33 yX0_hasGate, .instanceMethod yX0_hasGate, .selects RX0 yX0_hasGate yX0_hasGate, .initialized RX0, .code yX0_hasGate cX0_hasGate 2 (some .boolean), .fieldLink RX0 29 "GooseCodex$Farm" "gateCount" "I"] ++ wsX00)
def wsX1_isAwakeThere : List Cond := .code yX1_isAwakeThere cX1_isAwakeThere 3 (some .boolean) :: ([.fieldLink RX1 9 "GooseCodex$Flock" "gate" "[I", .fieldLink RX1 18 "GooseCodex$Flock" "calm" "[I"] ++ wsX10)
def wsX1_hissThere : List Cond := .code yX1_hissThere cX1_hissThere 5 (some .int) :: ([.fieldLink RX1 24 "GooseCodex$Flock" "count" "I", .fieldLink RX1 15 "GooseCodex$Flock" "temper" "[I", .methodLink RX1 28 yX1_isAwakeThere, .instanceMethod yX1_isAwakeThere, .selects RX1 yX1_isAwakeThere yX1_isAwakeThere, .initialized RX1, .code yX1_isAwakeThere cX1_isAwakeThere 3 (some .boolean), .fieldLink RX1 9 "GooseCodex$Flock" "gate" "[I", .fieldLink RX1 18 "GooseCodex$Flock" "calm" "[I"] ++ wsX10)
def wsX0_gateHiss_r1 : List Cond := [Cond.fieldLink RX0 18 "GooseCodex$Farm" "flock" "LGooseCodex$Flock;", Cond.methodLink RX0 43 yX0_rankLack, Cond.instanceMethod yX0_rankLack, Cond.selects RX0 yX0_rankLack yX0_rankLack, Cond.initialized RX0, Cond.code yX0_rankLack cX0_rankLack 3 (some .int), Cond.fieldLink RX0 9 "GooseCodex$Farm" "ranks" "[I", Cond.methodLink RX0 37 Lib.Math.max.name, Cond.static Lib.Math.max.name, Cond.initialized "java/lang/Math", Cond.code Lib.Math.max.name Lib.Math.max.code 2 (some .int), Cond.methodLink RX0 33 yX0_hasGate, Cond.instanceMethod yX0_hasGate, Cond.selects RX0 yX0_hasGate yX0_hasGate, Cond.code yX0_hasGate cX0_hasGate 2 (some .boolean), Cond.fieldLink RX0 29 "GooseCodex$Farm" "gateCount" "I", Cond.methodLink RX0 46 yX1_hissThere, Cond.instanceMethod yX1_hissThere, Cond.selects RX1 yX1_hissThere yX1_hissThere, Cond.initialized RX1, Cond.code yX1_hissThere cX1_hissThere 5 (some .int), Cond.fieldLink RX1 24 "GooseCodex$Flock" "count" "I", Cond.fieldLink RX1 15 "GooseCodex$Flock" "temper" "[I", Cond.methodLink RX1 28 yX1_isAwakeThere]
def wsX0_gateHiss_r2 : List Cond := [Cond.instanceMethod yX1_isAwakeThere, Cond.selects RX1 yX1_isAwakeThere yX1_isAwakeThere, Cond.code yX1_isAwakeThere cX1_isAwakeThere 3 (some .boolean), Cond.fieldLink RX1 9 "GooseCodex$Flock" "gate" "[I", Cond.fieldLink RX1 18 "GooseCodex$Flock" "calm" "[I"]
def wsX0_gateHiss : List Cond := .code yX0_gateHiss cX0_gateHiss 3 (some .int) :: ((wsX0_gateHiss_r1 ++ wsX0_gateHiss_r2) ++ wsX00 ++ wsX10)
def wsX0_guestHiss_r1 : List Cond := [Cond.fieldLink RX0 25 "GooseCodex$Farm" "guests" "LGooseCodex$Guests;", Cond.fieldLink RX0 49 "GooseCodex$Guests" "passed" "[I", Cond.fieldLink RX0 52 "GooseCodex$Guests" "rank" "[I", Cond.methodLink RX0 55 yX0_gateHiss, Cond.instanceMethod yX0_gateHiss, Cond.selects RX0 yX0_gateHiss yX0_gateHiss, Cond.initialized RX0, Cond.code yX0_gateHiss cX0_gateHiss 3 (some .int), Cond.fieldLink RX0 18 "GooseCodex$Farm" "flock" "LGooseCodex$Flock;", Cond.methodLink RX0 43 yX0_rankLack, Cond.instanceMethod yX0_rankLack, Cond.selects RX0 yX0_rankLack yX0_rankLack, Cond.code yX0_rankLack cX0_rankLack 3 (some .int), Cond.fieldLink RX0 9 "GooseCodex$Farm" "ranks" "[I", Cond.methodLink RX0 37 Lib.Math.max.name, Cond.static Lib.Math.max.name, Cond.initialized "java/lang/Math", Cond.code Lib.Math.max.name Lib.Math.max.code 2 (some .int), Cond.methodLink RX0 33 yX0_hasGate, Cond.instanceMethod yX0_hasGate, Cond.selects RX0 yX0_hasGate yX0_hasGate, Cond.code yX0_hasGate cX0_hasGate 2 (some .boolean), Cond.fieldLink RX0 29 "GooseCodex$Farm" "gateCount" "I", Cond.methodLink RX0 46 yX1_hissThere]
def wsX0_guestHiss_r2 : List Cond := [Cond.instanceMethod yX1_hissThere, Cond.selects RX1 yX1_hissThere yX1_hissThere, Cond.initialized RX1, Cond.code yX1_hissThere cX1_hissThere 5 (some .int), Cond.fieldLink RX1 24 "GooseCodex$Flock" "count" "I", Cond.fieldLink RX1 15 "GooseCodex$Flock" "temper" "[I", Cond.methodLink RX1 28 yX1_isAwakeThere, Cond.instanceMethod yX1_isAwakeThere, Cond.selects RX1 yX1_isAwakeThere yX1_isAwakeThere, Cond.code yX1_isAwakeThere cX1_isAwakeThere 3 (some .boolean), Cond.fieldLink RX1 9 "GooseCodex$Flock" "gate" "[I", Cond.fieldLink RX1 18 "GooseCodex$Flock" "calm" "[I"]
def wsX0_guestHiss : List Cond := .code yX0_guestHiss cX0_guestHiss 2 (some .int) :: ((wsX0_guestHiss_r1 ++ wsX0_guestHiss_r2) ++ wsX00 ++ wsX20 ++ wsX10)
def wsX0_isBehindAll : List Cond := .code yX0_isBehindAll cX0_isBehindAll 2 (some .boolean) :: ([.fieldLink RX0 25 "GooseCodex$Farm" "guests" "LGooseCodex$Guests;", .fieldLink RX0 49 "GooseCodex$Guests" "passed" "[I", .fieldLink RX0 29 "GooseCodex$Farm" "gateCount" "I"] ++ wsX00 ++ wsX20)
def wsX0_countInside : List Cond := .code yX0_countInside cX0_countInside 3 (some .int) :: ([.fieldLink RX0 25 "GooseCodex$Farm" "guests" "LGooseCodex$Guests;", .fieldLink RX0 58 "GooseCodex$Guests" "count" "I", .methodLink RX0 61 yX0_isBehindAll, .instanceMethod yX0_isBehindAll, .selects RX0 yX0_isBehindAll yX0_isBehindAll, .initialized RX0, .code yX0_isBehindAll cX0_isBehindAll 2 (some .boolean), .fieldLink RX0 49 "GooseCodex$Guests" "passed" "[I", .fieldLink RX0 29 "GooseCodex$Farm" "gateCount" "I"] ++ wsX00 ++ wsX20)
def wsX1_feed : List Cond := .code yX1_feed cX1_feed 2 none :: ([.fieldLink RX1 21 "GooseCodex$Flock" "eaten" "[I", .fieldLink RX1 18 "GooseCodex$Flock" "calm" "[I", .fieldLink RX1 15 "GooseCodex$Flock" "temper" "[I", .methodLink RX1 32 Lib.Math.max.name, .static Lib.Math.max.name, .initialized "java/lang/Math", .code Lib.Math.max.name Lib.Math.max.code 2 (some .int)] ++ wsX10)
def wsX0_payGoose : List Cond := .code yX0_payGoose cX0_payGoose 3 none :: ([.fieldLink RX0 25 "GooseCodex$Farm" "guests" "LGooseCodex$Guests;", .fieldLink RX0 64 "GooseCodex$Guests" "corns" "[I", .fieldLink RX0 18 "GooseCodex$Farm" "flock" "LGooseCodex$Flock;", .fieldLink RX0 71 "GooseCodex$Farm" "bribeCount" "I", .methodLink RX0 67 yX1_feed, .instanceMethod yX1_feed, .selects RX1 yX1_feed yX1_feed, .initialized RX1, .code yX1_feed cX1_feed 2 none, .fieldLink RX1 21 "GooseCodex$Flock" "eaten" "[I", .fieldLink RX1 18 "GooseCodex$Flock" "calm" "[I", .fieldLink RX1 15 "GooseCodex$Flock" "temper" "[I", .methodLink RX1 32 Lib.Math.max.name, .static Lib.Math.max.name, .initialized "java/lang/Math", .code Lib.Math.max.name Lib.Math.max.code 2 (some .int)] ++ wsX00 ++ wsX20 ++ wsX10)
def wsX1_wakeByABeat : List Cond := .code yX1_wakeByABeat cX1_wakeByABeat 2 none :: ([.fieldLink RX1 24 "GooseCodex$Flock" "count" "I", .fieldLink RX1 18 "GooseCodex$Flock" "calm" "[I"] ++ wsX10)
def wsX1_enrage : List Cond := .code yX1_enrage cX1_enrage 3 none :: ([.fieldLink RX1 24 "GooseCodex$Flock" "count" "I", .fieldLink RX1 15 "GooseCodex$Flock" "temper" "[I", .methodLink RX1 38 Lib.Math.min.name, .static Lib.Math.min.name, .initialized "java/lang/Math", .code Lib.Math.min.name Lib.Math.min.code 2 (some .int), .methodLink RX1 28 yX1_isAwakeThere, .instanceMethod yX1_isAwakeThere, .selects RX1 yX1_isAwakeThere yX1_isAwakeThere, .initialized RX1, .code yX1_isAwakeThere cX1_isAwakeThere 3 (some .boolean), .fieldLink RX1 9 "GooseCodex$Flock" "gate" "[I", .fieldLink RX1 18 "GooseCodex$Flock" "calm" "[I"] ++ wsX10)
def wsX1_fiercestAwake : List Cond := .code yX1_fiercestAwake cX1_fiercestAwake 5 (some .int) :: ([.fieldLink RX1 24 "GooseCodex$Flock" "count" "I", .fieldLink RX1 15 "GooseCodex$Flock" "temper" "[I", .methodLink RX1 28 yX1_isAwakeThere, .instanceMethod yX1_isAwakeThere, .selects RX1 yX1_isAwakeThere yX1_isAwakeThere, .initialized RX1, .code yX1_isAwakeThere cX1_isAwakeThere 3 (some .boolean), .fieldLink RX1 9 "GooseCodex$Flock" "gate" "[I", .fieldLink RX1 18 "GooseCodex$Flock" "calm" "[I"] ++ wsX10)
def wsX1_hasGoose : List Cond := .code yX1_hasGoose cX1_hasGoose 2 (some .boolean) :: ([.fieldLink RX1 24 "GooseCodex$Flock" "count" "I"] ++ wsX10)
def wsX3_gradeOfHiss : List Cond := .code yX3_gradeOfHiss cX3_gradeOfHiss 1 (some .int) :: ([])
def wsX2_fallBack : List Cond := .code yX2_fallBack cX2_fallBack 3 none :: ([.fieldLink RX2 24 "GooseCodex$Guests" "retreat" "[I", .fieldLink RX2 15 "GooseCodex$Guests" "nerve" "[I", .methodLink RX2 31 Lib.Math.min.name, .static Lib.Math.min.name, .initialized "java/lang/Math", .code Lib.Math.min.name Lib.Math.min.code 2 (some .int), .fieldLink RX2 21 "GooseCodex$Guests" "passed" "[I"] ++ wsX20)
def wsX0_moveGuest_r1 : List Cond := [Cond.fieldLink RX0 25 "GooseCodex$Farm" "guests" "LGooseCodex$Guests;", Cond.fieldLink RX0 101 "GooseCodex$Guests" "retreat" "[I", Cond.fieldLink RX0 49 "GooseCodex$Guests" "passed" "[I", Cond.fieldLink RX0 52 "GooseCodex$Guests" "rank" "[I", Cond.fieldLink RX0 79 "GooseCodex$Guests" "nerve" "[I", Cond.fieldLink RX0 18 "GooseCodex$Farm" "flock" "LGooseCodex$Flock;", Cond.fieldLink RX0 64 "GooseCodex$Guests" "corns" "[I", Cond.fieldLink RX0 123 "GooseCodex$Farm" "retreatCount" "I", Cond.methodLink RX0 55 yX0_gateHiss, Cond.instanceMethod yX0_gateHiss, Cond.selects RX0 yX0_gateHiss yX0_gateHiss, Cond.initialized RX0, Cond.code yX0_gateHiss cX0_gateHiss 3 (some .int), Cond.methodLink RX0 43 yX0_rankLack, Cond.instanceMethod yX0_rankLack, Cond.selects RX0 yX0_rankLack yX0_rankLack, Cond.code yX0_rankLack cX0_rankLack 3 (some .int), Cond.fieldLink RX0 9 "GooseCodex$Farm" "ranks" "[I", Cond.methodLink RX0 37 Lib.Math.max.name, Cond.static Lib.Math.max.name, Cond.initialized "java/lang/Math", Cond.code Lib.Math.max.name Lib.Math.max.code 2 (some .int), Cond.methodLink RX0 33 yX0_hasGate, Cond.instanceMethod yX0_hasGate]
def wsX0_moveGuest_r2 : List Cond := [Cond.selects RX0 yX0_hasGate yX0_hasGate, Cond.code yX0_hasGate cX0_hasGate 2 (some .boolean), Cond.fieldLink RX0 29 "GooseCodex$Farm" "gateCount" "I", Cond.methodLink RX0 46 yX1_hissThere, Cond.instanceMethod yX1_hissThere, Cond.selects RX1 yX1_hissThere yX1_hissThere, Cond.initialized RX1, Cond.code yX1_hissThere cX1_hissThere 5 (some .int), Cond.fieldLink RX1 24 "GooseCodex$Flock" "count" "I", Cond.fieldLink RX1 15 "GooseCodex$Flock" "temper" "[I", Cond.methodLink RX1 28 yX1_isAwakeThere, Cond.instanceMethod yX1_isAwakeThere, Cond.selects RX1 yX1_isAwakeThere yX1_isAwakeThere, Cond.code yX1_isAwakeThere cX1_isAwakeThere 3 (some .boolean), Cond.fieldLink RX1 9 "GooseCodex$Flock" "gate" "[I", Cond.fieldLink RX1 18 "GooseCodex$Flock" "calm" "[I", Cond.methodLink RX0 104 yX1_enrage, Cond.instanceMethod yX1_enrage, Cond.selects RX1 yX1_enrage yX1_enrage, Cond.code yX1_enrage cX1_enrage 3 none, Cond.methodLink RX1 38 Lib.Math.min.name, Cond.static Lib.Math.min.name, Cond.code Lib.Math.min.name Lib.Math.min.code 2 (some .int), Cond.methodLink RX0 107 yX1_fiercestAwake]
def wsX0_moveGuest_r3 : List Cond := [Cond.instanceMethod yX1_fiercestAwake, Cond.selects RX1 yX1_fiercestAwake yX1_fiercestAwake, Cond.code yX1_fiercestAwake cX1_fiercestAwake 5 (some .int), Cond.methodLink RX0 110 yX1_hasGoose, Cond.instanceMethod yX1_hasGoose, Cond.selects RX1 yX1_hasGoose yX1_hasGoose, Cond.code yX1_hasGoose cX1_hasGoose 2 (some .boolean), Cond.methodLink RX0 113 yX0_payGoose, Cond.instanceMethod yX0_payGoose, Cond.selects RX0 yX0_payGoose yX0_payGoose, Cond.code yX0_payGoose cX0_payGoose 3 none, Cond.fieldLink RX0 71 "GooseCodex$Farm" "bribeCount" "I", Cond.methodLink RX0 67 yX1_feed, Cond.instanceMethod yX1_feed, Cond.selects RX1 yX1_feed yX1_feed, Cond.code yX1_feed cX1_feed 2 none, Cond.fieldLink RX1 21 "GooseCodex$Flock" "eaten" "[I", Cond.methodLink RX1 32 Lib.Math.max.name, Cond.static yX3_gradeOfHiss, Cond.initialized RX3, Cond.code yX3_gradeOfHiss cX3_gradeOfHiss 1 (some .int), Cond.methodLink RX0 120 yX2_fallBack, Cond.instanceMethod yX2_fallBack, Cond.selects RX2 yX2_fallBack yX2_fallBack]
def wsX0_moveGuest_r4 : List Cond := [Cond.initialized RX2, Cond.code yX2_fallBack cX2_fallBack 3 none, Cond.fieldLink RX2 24 "GooseCodex$Guests" "retreat" "[I", Cond.fieldLink RX2 15 "GooseCodex$Guests" "nerve" "[I", Cond.methodLink RX2 31 Lib.Math.min.name, Cond.fieldLink RX2 21 "GooseCodex$Guests" "passed" "[I"]
def wsX0_moveGuest : List Cond := .code yX0_moveGuest cX0_moveGuest 5 none :: ((wsX0_moveGuest_r1 ++ (wsX0_moveGuest_r2 ++ (wsX0_moveGuest_r3 ++ wsX0_moveGuest_r4))) ++ wsX00 ++ wsX20 ++ wsX10)
def wsX0_runBeat_r1 : List Cond := [Cond.fieldLink RX0 18 "GooseCodex$Farm" "flock" "LGooseCodex$Flock;", Cond.fieldLink RX0 25 "GooseCodex$Farm" "guests" "LGooseCodex$Guests;", Cond.fieldLink RX0 58 "GooseCodex$Guests" "count" "I", Cond.fieldLink RX0 98 "GooseCodex$Farm" "beat" "I", Cond.methodLink RX0 92 yX1_wakeByABeat, Cond.instanceMethod yX1_wakeByABeat, Cond.selects RX1 yX1_wakeByABeat yX1_wakeByABeat, Cond.initialized RX1, Cond.code yX1_wakeByABeat cX1_wakeByABeat 2 none, Cond.fieldLink RX1 24 "GooseCodex$Flock" "count" "I", Cond.fieldLink RX1 18 "GooseCodex$Flock" "calm" "[I", Cond.methodLink RX0 61 yX0_isBehindAll, Cond.instanceMethod yX0_isBehindAll, Cond.selects RX0 yX0_isBehindAll yX0_isBehindAll, Cond.initialized RX0, Cond.code yX0_isBehindAll cX0_isBehindAll 2 (some .boolean), Cond.fieldLink RX0 49 "GooseCodex$Guests" "passed" "[I", Cond.fieldLink RX0 29 "GooseCodex$Farm" "gateCount" "I", Cond.methodLink RX0 95 yX0_moveGuest, Cond.instanceMethod yX0_moveGuest, Cond.selects RX0 yX0_moveGuest yX0_moveGuest, Cond.code yX0_moveGuest cX0_moveGuest 5 none, Cond.fieldLink RX0 101 "GooseCodex$Guests" "retreat" "[I", Cond.fieldLink RX0 52 "GooseCodex$Guests" "rank" "[I"]
def wsX0_runBeat_r2 : List Cond := [Cond.fieldLink RX0 79 "GooseCodex$Guests" "nerve" "[I", Cond.fieldLink RX0 64 "GooseCodex$Guests" "corns" "[I", Cond.fieldLink RX0 123 "GooseCodex$Farm" "retreatCount" "I", Cond.methodLink RX0 55 yX0_gateHiss, Cond.instanceMethod yX0_gateHiss, Cond.selects RX0 yX0_gateHiss yX0_gateHiss, Cond.code yX0_gateHiss cX0_gateHiss 3 (some .int), Cond.methodLink RX0 43 yX0_rankLack, Cond.instanceMethod yX0_rankLack, Cond.selects RX0 yX0_rankLack yX0_rankLack, Cond.code yX0_rankLack cX0_rankLack 3 (some .int), Cond.fieldLink RX0 9 "GooseCodex$Farm" "ranks" "[I", Cond.methodLink RX0 37 Lib.Math.max.name, Cond.static Lib.Math.max.name, Cond.initialized "java/lang/Math", Cond.code Lib.Math.max.name Lib.Math.max.code 2 (some .int), Cond.methodLink RX0 33 yX0_hasGate, Cond.instanceMethod yX0_hasGate, Cond.selects RX0 yX0_hasGate yX0_hasGate, Cond.code yX0_hasGate cX0_hasGate 2 (some .boolean), Cond.methodLink RX0 46 yX1_hissThere, Cond.instanceMethod yX1_hissThere, Cond.selects RX1 yX1_hissThere yX1_hissThere, Cond.code yX1_hissThere cX1_hissThere 5 (some .int)]
def wsX0_runBeat_r3 : List Cond := [Cond.fieldLink RX1 15 "GooseCodex$Flock" "temper" "[I", Cond.methodLink RX1 28 yX1_isAwakeThere, Cond.instanceMethod yX1_isAwakeThere, Cond.selects RX1 yX1_isAwakeThere yX1_isAwakeThere, Cond.code yX1_isAwakeThere cX1_isAwakeThere 3 (some .boolean), Cond.fieldLink RX1 9 "GooseCodex$Flock" "gate" "[I", Cond.methodLink RX0 104 yX1_enrage, Cond.instanceMethod yX1_enrage, Cond.selects RX1 yX1_enrage yX1_enrage, Cond.code yX1_enrage cX1_enrage 3 none, Cond.methodLink RX1 38 Lib.Math.min.name, Cond.static Lib.Math.min.name, Cond.code Lib.Math.min.name Lib.Math.min.code 2 (some .int), Cond.methodLink RX0 107 yX1_fiercestAwake, Cond.instanceMethod yX1_fiercestAwake, Cond.selects RX1 yX1_fiercestAwake yX1_fiercestAwake, Cond.code yX1_fiercestAwake cX1_fiercestAwake 5 (some .int), Cond.methodLink RX0 110 yX1_hasGoose, Cond.instanceMethod yX1_hasGoose, Cond.selects RX1 yX1_hasGoose yX1_hasGoose, Cond.code yX1_hasGoose cX1_hasGoose 2 (some .boolean), Cond.methodLink RX0 113 yX0_payGoose, Cond.instanceMethod yX0_payGoose, Cond.selects RX0 yX0_payGoose yX0_payGoose]
def wsX0_runBeat_r4 : List Cond := [Cond.code yX0_payGoose cX0_payGoose 3 none, Cond.fieldLink RX0 71 "GooseCodex$Farm" "bribeCount" "I", Cond.methodLink RX0 67 yX1_feed, Cond.instanceMethod yX1_feed, Cond.selects RX1 yX1_feed yX1_feed, Cond.code yX1_feed cX1_feed 2 none, Cond.fieldLink RX1 21 "GooseCodex$Flock" "eaten" "[I", Cond.methodLink RX1 32 Lib.Math.max.name, Cond.static yX3_gradeOfHiss, Cond.initialized RX3, Cond.code yX3_gradeOfHiss cX3_gradeOfHiss 1 (some .int), Cond.methodLink RX0 120 yX2_fallBack, Cond.instanceMethod yX2_fallBack, Cond.selects RX2 yX2_fallBack yX2_fallBack, Cond.initialized RX2, Cond.code yX2_fallBack cX2_fallBack 3 none, Cond.fieldLink RX2 24 "GooseCodex$Guests" "retreat" "[I", Cond.fieldLink RX2 15 "GooseCodex$Guests" "nerve" "[I", Cond.methodLink RX2 31 Lib.Math.min.name, Cond.fieldLink RX2 21 "GooseCodex$Guests" "passed" "[I"]
def wsX0_runBeat : List Cond := .code yX0_runBeat cX0_runBeat 2 none :: ((wsX0_runBeat_r1 ++ (wsX0_runBeat_r2 ++ (wsX0_runBeat_r3 ++ wsX0_runBeat_r4))) ++ wsX00 ++ wsX20 ++ wsX10)
def wsX0_runBeats_r1 : List Cond := [Cond.methodLink RX0 89 yX0_runBeat, Cond.instanceMethod yX0_runBeat, Cond.selects RX0 yX0_runBeat yX0_runBeat, Cond.initialized RX0, Cond.code yX0_runBeat cX0_runBeat 2 none, Cond.fieldLink RX0 18 "GooseCodex$Farm" "flock" "LGooseCodex$Flock;", Cond.fieldLink RX0 25 "GooseCodex$Farm" "guests" "LGooseCodex$Guests;", Cond.fieldLink RX0 58 "GooseCodex$Guests" "count" "I", Cond.fieldLink RX0 98 "GooseCodex$Farm" "beat" "I", Cond.methodLink RX0 92 yX1_wakeByABeat, Cond.instanceMethod yX1_wakeByABeat, Cond.selects RX1 yX1_wakeByABeat yX1_wakeByABeat, Cond.initialized RX1, Cond.code yX1_wakeByABeat cX1_wakeByABeat 2 none, Cond.fieldLink RX1 24 "GooseCodex$Flock" "count" "I", Cond.fieldLink RX1 18 "GooseCodex$Flock" "calm" "[I", Cond.methodLink RX0 61 yX0_isBehindAll, Cond.instanceMethod yX0_isBehindAll, Cond.selects RX0 yX0_isBehindAll yX0_isBehindAll, Cond.code yX0_isBehindAll cX0_isBehindAll 2 (some .boolean), Cond.fieldLink RX0 49 "GooseCodex$Guests" "passed" "[I", Cond.fieldLink RX0 29 "GooseCodex$Farm" "gateCount" "I", Cond.methodLink RX0 95 yX0_moveGuest, Cond.instanceMethod yX0_moveGuest]
def wsX0_runBeats_r2 : List Cond := [Cond.selects RX0 yX0_moveGuest yX0_moveGuest, Cond.code yX0_moveGuest cX0_moveGuest 5 none, Cond.fieldLink RX0 101 "GooseCodex$Guests" "retreat" "[I", Cond.fieldLink RX0 52 "GooseCodex$Guests" "rank" "[I", Cond.fieldLink RX0 79 "GooseCodex$Guests" "nerve" "[I", Cond.fieldLink RX0 64 "GooseCodex$Guests" "corns" "[I", Cond.fieldLink RX0 123 "GooseCodex$Farm" "retreatCount" "I", Cond.methodLink RX0 55 yX0_gateHiss, Cond.instanceMethod yX0_gateHiss, Cond.selects RX0 yX0_gateHiss yX0_gateHiss, Cond.code yX0_gateHiss cX0_gateHiss 3 (some .int), Cond.methodLink RX0 43 yX0_rankLack, Cond.instanceMethod yX0_rankLack, Cond.selects RX0 yX0_rankLack yX0_rankLack, Cond.code yX0_rankLack cX0_rankLack 3 (some .int), Cond.fieldLink RX0 9 "GooseCodex$Farm" "ranks" "[I", Cond.methodLink RX0 37 Lib.Math.max.name, Cond.static Lib.Math.max.name, Cond.initialized "java/lang/Math", Cond.code Lib.Math.max.name Lib.Math.max.code 2 (some .int), Cond.methodLink RX0 33 yX0_hasGate, Cond.instanceMethod yX0_hasGate, Cond.selects RX0 yX0_hasGate yX0_hasGate, Cond.code yX0_hasGate cX0_hasGate 2 (some .boolean)]
def wsX0_runBeats_r3 : List Cond := [Cond.methodLink RX0 46 yX1_hissThere, Cond.instanceMethod yX1_hissThere, Cond.selects RX1 yX1_hissThere yX1_hissThere, Cond.code yX1_hissThere cX1_hissThere 5 (some .int), Cond.fieldLink RX1 15 "GooseCodex$Flock" "temper" "[I", Cond.methodLink RX1 28 yX1_isAwakeThere, Cond.instanceMethod yX1_isAwakeThere, Cond.selects RX1 yX1_isAwakeThere yX1_isAwakeThere, Cond.code yX1_isAwakeThere cX1_isAwakeThere 3 (some .boolean), Cond.fieldLink RX1 9 "GooseCodex$Flock" "gate" "[I", Cond.methodLink RX0 104 yX1_enrage, Cond.instanceMethod yX1_enrage, Cond.selects RX1 yX1_enrage yX1_enrage, Cond.code yX1_enrage cX1_enrage 3 none, Cond.methodLink RX1 38 Lib.Math.min.name, Cond.static Lib.Math.min.name, Cond.code Lib.Math.min.name Lib.Math.min.code 2 (some .int), Cond.methodLink RX0 107 yX1_fiercestAwake, Cond.instanceMethod yX1_fiercestAwake, Cond.selects RX1 yX1_fiercestAwake yX1_fiercestAwake, Cond.code yX1_fiercestAwake cX1_fiercestAwake 5 (some .int), Cond.methodLink RX0 110 yX1_hasGoose, Cond.instanceMethod yX1_hasGoose, Cond.selects RX1 yX1_hasGoose yX1_hasGoose]
def wsX0_runBeats_r4 : List Cond := [Cond.code yX1_hasGoose cX1_hasGoose 2 (some .boolean), Cond.methodLink RX0 113 yX0_payGoose, Cond.instanceMethod yX0_payGoose, Cond.selects RX0 yX0_payGoose yX0_payGoose, Cond.code yX0_payGoose cX0_payGoose 3 none, Cond.fieldLink RX0 71 "GooseCodex$Farm" "bribeCount" "I", Cond.methodLink RX0 67 yX1_feed, Cond.instanceMethod yX1_feed, Cond.selects RX1 yX1_feed yX1_feed, Cond.code yX1_feed cX1_feed 2 none, Cond.fieldLink RX1 21 "GooseCodex$Flock" "eaten" "[I", Cond.methodLink RX1 32 Lib.Math.max.name, Cond.static yX3_gradeOfHiss, Cond.initialized RX3, Cond.code yX3_gradeOfHiss cX3_gradeOfHiss 1 (some .int), Cond.methodLink RX0 120 yX2_fallBack, Cond.instanceMethod yX2_fallBack, Cond.selects RX2 yX2_fallBack yX2_fallBack, Cond.initialized RX2, Cond.code yX2_fallBack cX2_fallBack 3 none, Cond.fieldLink RX2 24 "GooseCodex$Guests" "retreat" "[I", Cond.fieldLink RX2 15 "GooseCodex$Guests" "nerve" "[I", Cond.methodLink RX2 31 Lib.Math.min.name, Cond.fieldLink RX2 21 "GooseCodex$Guests" "passed" "[I"]
def wsX0_runBeats : List Cond := .code yX0_runBeats cX0_runBeats 3 none :: ((wsX0_runBeats_r1 ++ (wsX0_runBeats_r2 ++ (wsX0_runBeats_r3 ++ wsX0_runBeats_r4))) ++ wsX00 ++ wsX20 ++ wsX10)
def wsX1_putGoose : List Cond := .code yX1_putGoose cX1_putGoose 4 (some .int) :: ([.fieldLink RX1 24 "GooseCodex$Flock" "count" "I", .fieldLink RX1 9 "GooseCodex$Flock" "gate" "[I", .fieldLink RX1 15 "GooseCodex$Flock" "temper" "[I"] ++ wsX10)
def wsX1_countAwake : List Cond := .code yX1_countAwake cX1_countAwake 4 (some .int) :: ([.fieldLink RX1 24 "GooseCodex$Flock" "count" "I", .methodLink RX1 28 yX1_isAwakeThere, .instanceMethod yX1_isAwakeThere, .selects RX1 yX1_isAwakeThere yX1_isAwakeThere, .initialized RX1, .code yX1_isAwakeThere cX1_isAwakeThere 3 (some .boolean), .fieldLink RX1 9 "GooseCodex$Flock" "gate" "[I", .fieldLink RX1 18 "GooseCodex$Flock" "calm" "[I"] ++ wsX10)
def wsX1_sumOfTempers : List Cond := .code yX1_sumOfTempers cX1_sumOfTempers 3 (some .int) :: ([.fieldLink RX1 24 "GooseCodex$Flock" "count" "I", .fieldLink RX1 15 "GooseCodex$Flock" "temper" "[I"] ++ wsX10)
def wsX2_hasGuest : List Cond := .code yX2_hasGuest cX2_hasGuest 2 (some .boolean) :: ([.fieldLink RX2 27 "GooseCodex$Guests" "count" "I"] ++ wsX20)
def wsX2_putGuest : List Cond := .code yX2_putGuest cX2_putGuest 5 (some .int) :: ([.fieldLink RX2 27 "GooseCodex$Guests" "count" "I", .fieldLink RX2 9 "GooseCodex$Guests" "rank" "[I", .fieldLink RX2 15 "GooseCodex$Guests" "nerve" "[I", .fieldLink RX2 18 "GooseCodex$Guests" "corns" "[I"] ++ wsX20)
def wsX3_init_r1 : List Cond := [Cond.methodLink RX3 1 objectInit, Cond.instanceMethod objectInit, Cond.code objectInit ⟨#[0xb1]⟩ 1 none, Cond.classLink RX3 7 RX0, Cond.instantiable RX0 7, Cond.initialized RX0, Cond.fieldLink RX3 10 "GooseCodex" "now" "LGooseCodex$Farm;", Cond.fieldLink RX3 16 "GooseCodex" "trial" "LGooseCodex$Farm;", Cond.instanceMethod yX0_init, Cond.code yX0_init cX0_init 1 none, Cond.methodLink RX0 3 objectInit, Cond.arrayClass .int, Cond.fieldLink RX0 9 "GooseCodex$Farm" "ranks" "[I", Cond.classLink RX0 15 RX1, Cond.instantiable RX1 5, Cond.initialized RX1, Cond.fieldLink RX0 18 "GooseCodex$Farm" "flock" "LGooseCodex$Flock;", Cond.classLink RX0 22 RX2, Cond.instantiable RX2 6, Cond.initialized RX2, Cond.fieldLink RX0 25 "GooseCodex$Farm" "guests" "LGooseCodex$Guests;", Cond.instanceMethod yX1_init, Cond.code yX1_init cX1_init 1 none, Cond.methodLink RX1 3 objectInit]
def wsX3_init_r2 : List Cond := [Cond.fieldLink RX1 9 "GooseCodex$Flock" "gate" "[I", Cond.fieldLink RX1 15 "GooseCodex$Flock" "temper" "[I", Cond.fieldLink RX1 18 "GooseCodex$Flock" "calm" "[I", Cond.fieldLink RX1 21 "GooseCodex$Flock" "eaten" "[I", Cond.instanceMethod yX2_init, Cond.code yX2_init cX2_init 1 none, Cond.methodLink RX2 3 objectInit, Cond.fieldLink RX2 9 "GooseCodex$Guests" "rank" "[I", Cond.fieldLink RX2 15 "GooseCodex$Guests" "nerve" "[I", Cond.fieldLink RX2 18 "GooseCodex$Guests" "corns" "[I", Cond.fieldLink RX2 21 "GooseCodex$Guests" "passed" "[I", Cond.fieldLink RX2 24 "GooseCodex$Guests" "retreat" "[I"]
def wsX3_init : List Cond := .code yX3_init cX3_init 1 none :: ((wsX3_init_r1 ++ wsX3_init_r2) ++ wsX00 ++ wsX30 ++ wsX10 ++ wsX20)
def wsX3_isWithin : List Cond := .code yX3_isWithin cX3_isWithin 3 (some .boolean) :: ([])
def wsX3_isRank : List Cond := .code yX3_isRank cX3_isRank 1 (some .boolean) :: ([.methodLink RX3 53 yX3_isWithin, .static yX3_isWithin, .initialized RX3, .code yX3_isWithin cX3_isWithin 3 (some .boolean)])
def wsX3_demandArgument : List Cond := .code yX3_demandArgument cX3_demandArgument 1 none :: ([.classLink RX3 269 "java/lang/IllegalArgumentException", .initialized "java/lang/IllegalArgumentException"] ++ (vx_atS RX3 273 "java/lang/IllegalArgumentException" ["java/lang/RuntimeException", "java/lang/Exception"]).filter goodWord)
def wsX3_demandState : List Cond := .code yX3_demandState cX3_demandState 1 none :: ([.classLink RX3 274 "java/lang/IllegalStateException", .initialized "java/lang/IllegalStateException"] ++ (vx_atS RX3 278 "java/lang/IllegalStateException" ["java/lang/RuntimeException", "java/lang/Exception"]).filter goodWord)
def wsX3_addGate_r1 : List Cond := [Cond.fieldLink RX3 10 "GooseCodex" "now" "LGooseCodex$Farm;", Cond.fieldLink RX3 27 "GooseCodex$Farm" "gateCount" "I", Cond.fieldLink RX3 31 "GooseCodex$Farm" "guests" "LGooseCodex$Guests;", Cond.fieldLink RX3 35 "GooseCodex$Guests" "count" "I", Cond.methodLink RX3 19 yX3_isRank, Cond.static yX3_isRank, Cond.initialized RX3, Cond.code yX3_isRank cX3_isRank 1 (some .boolean), Cond.methodLink RX3 53 yX3_isWithin, Cond.static yX3_isWithin, Cond.code yX3_isWithin cX3_isWithin 3 (some .boolean), Cond.methodLink RX3 23 yX3_demandArgument, Cond.static yX3_demandArgument, Cond.code yX3_demandArgument cX3_demandArgument 1 none, Cond.classLink RX3 269 "java/lang/IllegalArgumentException", Cond.initialized "java/lang/IllegalArgumentException", Cond.methodLink RX3 40 yX3_demandState, Cond.static yX3_demandState, Cond.code yX3_demandState cX3_demandState 1 none, Cond.classLink RX3 274 "java/lang/IllegalStateException", Cond.initialized "java/lang/IllegalStateException", Cond.methodLink RX3 43 yX0_putGate, Cond.instanceMethod yX0_putGate, Cond.selects RX0 yX0_putGate yX0_putGate]
def wsX3_addGate_r2 : List Cond := [Cond.initialized RX0, Cond.code yX0_putGate cX0_putGate 3 (some .int), Cond.fieldLink RX0 29 "GooseCodex$Farm" "gateCount" "I", Cond.fieldLink RX0 9 "GooseCodex$Farm" "ranks" "[I"]
def wsX3_addGate : List Cond := .code yX3_addGate cX3_addGate 2 (some .int) :: ((wsX3_addGate_r1 ++ wsX3_addGate_r2) ++ wsX30 ++ wsX00 ++ wsX20 ++ (vx_atS RX3 273 "java/lang/IllegalArgumentException" ["java/lang/RuntimeException", "java/lang/Exception"]).filter goodWord ++ (vx_atS RX3 278 "java/lang/IllegalStateException" ["java/lang/RuntimeException", "java/lang/Exception"]).filter goodWord)
def wsX3_demandIndex : List Cond := .code yX3_demandIndex cX3_demandIndex 1 none :: ([.classLink RX3 262 "java/lang/IndexOutOfBoundsException", .initialized "java/lang/IndexOutOfBoundsException"] ++ (vx_atS RX3 266 "java/lang/IndexOutOfBoundsException" ["java/lang/RuntimeException", "java/lang/Exception"]).filter goodWord)
def wsX3_addGoose_r1 : List Cond := [Cond.fieldLink RX3 10 "GooseCodex" "now" "LGooseCodex$Farm;", Cond.fieldLink RX3 57 "GooseCodex$Farm" "flock" "LGooseCodex$Flock;", Cond.fieldLink RX3 61 "GooseCodex$Flock" "count" "I", Cond.methodLink RX3 47 yX0_hasGate, Cond.instanceMethod yX0_hasGate, Cond.selects RX0 yX0_hasGate yX0_hasGate, Cond.initialized RX0, Cond.code yX0_hasGate cX0_hasGate 2 (some .boolean), Cond.fieldLink RX0 29 "GooseCodex$Farm" "gateCount" "I", Cond.methodLink RX3 50 yX3_demandIndex, Cond.static yX3_demandIndex, Cond.initialized RX3, Cond.code yX3_demandIndex cX3_demandIndex 1 none, Cond.classLink RX3 262 "java/lang/IndexOutOfBoundsException", Cond.initialized "java/lang/IndexOutOfBoundsException", Cond.methodLink RX3 53 yX3_isWithin, Cond.static yX3_isWithin, Cond.code yX3_isWithin cX3_isWithin 3 (some .boolean), Cond.methodLink RX3 23 yX3_demandArgument, Cond.static yX3_demandArgument, Cond.code yX3_demandArgument cX3_demandArgument 1 none, Cond.classLink RX3 269 "java/lang/IllegalArgumentException", Cond.initialized "java/lang/IllegalArgumentException", Cond.methodLink RX3 40 yX3_demandState]
def wsX3_addGoose_r2 : List Cond := [Cond.static yX3_demandState, Cond.code yX3_demandState cX3_demandState 1 none, Cond.classLink RX3 274 "java/lang/IllegalStateException", Cond.initialized "java/lang/IllegalStateException", Cond.methodLink RX3 64 yX1_putGoose, Cond.instanceMethod yX1_putGoose, Cond.selects RX1 yX1_putGoose yX1_putGoose, Cond.initialized RX1, Cond.code yX1_putGoose cX1_putGoose 4 (some .int), Cond.fieldLink RX1 24 "GooseCodex$Flock" "count" "I", Cond.fieldLink RX1 9 "GooseCodex$Flock" "gate" "[I", Cond.fieldLink RX1 15 "GooseCodex$Flock" "temper" "[I"]
def wsX3_addGoose : List Cond := .code yX3_addGoose cX3_addGoose 3 (some .int) :: ((wsX3_addGoose_r1 ++ wsX3_addGoose_r2) ++ wsX30 ++ wsX00 ++ wsX10 ++ (vx_atS RX3 266 "java/lang/IndexOutOfBoundsException" ["java/lang/RuntimeException", "java/lang/Exception"]).filter goodWord ++ (vx_atS RX3 273 "java/lang/IllegalArgumentException" ["java/lang/RuntimeException", "java/lang/Exception"]).filter goodWord ++ (vx_atS RX3 278 "java/lang/IllegalStateException" ["java/lang/RuntimeException", "java/lang/Exception"]).filter goodWord)
def wsX3_isNerve : List Cond := .code yX3_isNerve cX3_isNerve 1 (some .boolean) :: ([.methodLink RX3 53 yX3_isWithin, .static yX3_isWithin, .initialized RX3, .code yX3_isWithin cX3_isWithin 3 (some .boolean)])
def wsX3_arrive_r1 : List Cond := [Cond.fieldLink RX3 10 "GooseCodex" "now" "LGooseCodex$Farm;", Cond.fieldLink RX3 27 "GooseCodex$Farm" "gateCount" "I", Cond.fieldLink RX3 31 "GooseCodex$Farm" "guests" "LGooseCodex$Guests;", Cond.fieldLink RX3 35 "GooseCodex$Guests" "count" "I", Cond.methodLink RX3 19 yX3_isRank, Cond.static yX3_isRank, Cond.initialized RX3, Cond.code yX3_isRank cX3_isRank 1 (some .boolean), Cond.methodLink RX3 53 yX3_isWithin, Cond.static yX3_isWithin, Cond.code yX3_isWithin cX3_isWithin 3 (some .boolean), Cond.methodLink RX3 68 yX3_isNerve, Cond.static yX3_isNerve, Cond.code yX3_isNerve cX3_isNerve 1 (some .boolean), Cond.methodLink RX3 23 yX3_demandArgument, Cond.static yX3_demandArgument, Cond.code yX3_demandArgument cX3_demandArgument 1 none, Cond.classLink RX3 269 "java/lang/IllegalArgumentException", Cond.initialized "java/lang/IllegalArgumentException", Cond.methodLink RX3 40 yX3_demandState, Cond.static yX3_demandState, Cond.code yX3_demandState cX3_demandState 1 none, Cond.classLink RX3 274 "java/lang/IllegalStateException", Cond.initialized "java/lang/IllegalStateException"]
def wsX3_arrive_r2 : List Cond := [Cond.methodLink RX3 71 yX2_putGuest, Cond.instanceMethod yX2_putGuest, Cond.selects RX2 yX2_putGuest yX2_putGuest, Cond.initialized RX2, Cond.code yX2_putGuest cX2_putGuest 5 (some .int), Cond.fieldLink RX2 27 "GooseCodex$Guests" "count" "I", Cond.fieldLink RX2 9 "GooseCodex$Guests" "rank" "[I", Cond.fieldLink RX2 15 "GooseCodex$Guests" "nerve" "[I", Cond.fieldLink RX2 18 "GooseCodex$Guests" "corns" "[I"]
def wsX3_arrive : List Cond := .code yX3_arrive cX3_arrive 4 (some .int) :: ((wsX3_arrive_r1 ++ wsX3_arrive_r2) ++ wsX30 ++ wsX00 ++ wsX20 ++ (vx_atS RX3 273 "java/lang/IllegalArgumentException" ["java/lang/RuntimeException", "java/lang/Exception"]).filter goodWord ++ (vx_atS RX3 278 "java/lang/IllegalStateException" ["java/lang/RuntimeException", "java/lang/Exception"]).filter goodWord)
def wsX3_setRank_r1 : List Cond := [Cond.fieldLink RX3 10 "GooseCodex" "now" "LGooseCodex$Farm;", Cond.fieldLink RX3 75 "GooseCodex$Farm" "ranks" "[I", Cond.methodLink RX3 47 yX0_hasGate, Cond.instanceMethod yX0_hasGate, Cond.selects RX0 yX0_hasGate yX0_hasGate, Cond.initialized RX0, Cond.code yX0_hasGate cX0_hasGate 2 (some .boolean), Cond.fieldLink RX0 29 "GooseCodex$Farm" "gateCount" "I", Cond.methodLink RX3 50 yX3_demandIndex, Cond.static yX3_demandIndex, Cond.initialized RX3, Cond.code yX3_demandIndex cX3_demandIndex 1 none, Cond.classLink RX3 262 "java/lang/IndexOutOfBoundsException", Cond.initialized "java/lang/IndexOutOfBoundsException", Cond.methodLink RX3 19 yX3_isRank, Cond.static yX3_isRank, Cond.code yX3_isRank cX3_isRank 1 (some .boolean), Cond.methodLink RX3 53 yX3_isWithin, Cond.static yX3_isWithin, Cond.code yX3_isWithin cX3_isWithin 3 (some .boolean), Cond.methodLink RX3 23 yX3_demandArgument, Cond.static yX3_demandArgument, Cond.code yX3_demandArgument cX3_demandArgument 1 none, Cond.classLink RX3 269 "java/lang/IllegalArgumentException"]
def wsX3_setRank_r2 : List Cond := [Cond.initialized "java/lang/IllegalArgumentException"]
def wsX3_setRank : List Cond := .code yX3_setRank cX3_setRank 4 (some .int) :: ((wsX3_setRank_r1 ++ wsX3_setRank_r2) ++ wsX30 ++ wsX00 ++ (vx_atS RX3 266 "java/lang/IndexOutOfBoundsException" ["java/lang/RuntimeException", "java/lang/Exception"]).filter goodWord ++ (vx_atS RX3 273 "java/lang/IllegalArgumentException" ["java/lang/RuntimeException", "java/lang/Exception"]).filter goodWord)
def wsX3_lead : List Cond := .code yX3_lead cX3_lead 4 (some .int) :: ([.fieldLink RX3 10 "GooseCodex" "now" "LGooseCodex$Farm;", .fieldLink RX3 57 "GooseCodex$Farm" "flock" "LGooseCodex$Flock;", .fieldLink RX3 82 "GooseCodex$Flock" "gate" "[I", .methodLink RX3 79 yX1_hasGoose, .instanceMethod yX1_hasGoose, .selects RX1 yX1_hasGoose yX1_hasGoose, .initialized RX1, .code yX1_hasGoose cX1_hasGoose 2 (some .boolean), .fieldLink RX1 24 "GooseCodex$Flock" "count" "I", .methodLink RX3 47 yX0_hasGate, .instanceMethod yX0_hasGate, .selects RX0 yX0_hasGate yX0_hasGate, .initialized RX0, .code yX0_hasGate cX0_hasGate 2 (some .boolean), .fieldLink RX0 29 "GooseCodex$Farm" "gateCount" "I", .methodLink RX3 50 yX3_demandIndex, .static yX3_demandIndex, .initialized RX3, .code yX3_demandIndex cX3_demandIndex 1 none, .classLink RX3 262 "java/lang/IndexOutOfBoundsException", .initialized "java/lang/IndexOutOfBoundsException"] ++ wsX30 ++ wsX00 ++ wsX10 ++ (vx_atS RX3 266 "java/lang/IndexOutOfBoundsException" ["java/lang/RuntimeException", "java/lang/Exception"]).filter goodWord)
def wsX3_demandVisitor : List Cond := .code yX3_demandVisitor cX3_demandVisitor 2 none :: ([.fieldLink RX3 10 "GooseCodex" "now" "LGooseCodex$Farm;", .fieldLink RX3 31 "GooseCodex$Farm" "guests" "LGooseCodex$Guests;", .methodLink RX3 259 yX2_hasGuest, .instanceMethod yX2_hasGuest, .selects RX2 yX2_hasGuest yX2_hasGuest, .initialized RX2, .code yX2_hasGuest cX2_hasGuest 2 (some .boolean), .fieldLink RX2 27 "GooseCodex$Guests" "count" "I", .methodLink RX3 50 yX3_demandIndex, .static yX3_demandIndex, .initialized RX3, .code yX3_demandIndex cX3_demandIndex 1 none, .classLink RX3 262 "java/lang/IndexOutOfBoundsException", .initialized "java/lang/IndexOutOfBoundsException"] ++ wsX30 ++ wsX00 ++ wsX20 ++ (vx_atS RX3 266 "java/lang/IndexOutOfBoundsException" ["java/lang/RuntimeException", "java/lang/Exception"]).filter goodWord)
def wsX3_giveCorns_r1 : List Cond := [Cond.fieldLink RX3 10 "GooseCodex" "now" "LGooseCodex$Farm;", Cond.fieldLink RX3 31 "GooseCodex$Farm" "guests" "LGooseCodex$Guests;", Cond.fieldLink RX3 89 "GooseCodex$Guests" "corns" "[I", Cond.methodLink RX3 92 Lib.Math.min.name, Cond.static Lib.Math.min.name, Cond.initialized "java/lang/Math", Cond.code Lib.Math.min.name Lib.Math.min.code 2 (some .int), Cond.methodLink RX3 85 yX3_demandVisitor, Cond.instanceMethod yX3_demandVisitor, Cond.selects RX3 yX3_demandVisitor yX3_demandVisitor, Cond.initialized RX3, Cond.code yX3_demandVisitor cX3_demandVisitor 2 none, Cond.methodLink RX3 259 yX2_hasGuest, Cond.instanceMethod yX2_hasGuest, Cond.selects RX2 yX2_hasGuest yX2_hasGuest, Cond.initialized RX2, Cond.code yX2_hasGuest cX2_hasGuest 2 (some .boolean), Cond.fieldLink RX2 27 "GooseCodex$Guests" "count" "I", Cond.methodLink RX3 50 yX3_demandIndex, Cond.static yX3_demandIndex, Cond.code yX3_demandIndex cX3_demandIndex 1 none, Cond.classLink RX3 262 "java/lang/IndexOutOfBoundsException", Cond.initialized "java/lang/IndexOutOfBoundsException", Cond.methodLink RX3 53 yX3_isWithin]
def wsX3_giveCorns_r2 : List Cond := [Cond.static yX3_isWithin, Cond.code yX3_isWithin cX3_isWithin 3 (some .boolean), Cond.methodLink RX3 23 yX3_demandArgument, Cond.static yX3_demandArgument, Cond.code yX3_demandArgument cX3_demandArgument 1 none, Cond.classLink RX3 269 "java/lang/IllegalArgumentException", Cond.initialized "java/lang/IllegalArgumentException"]
def wsX3_giveCorns : List Cond := .code yX3_giveCorns cX3_giveCorns 4 (some .int) :: ((wsX3_giveCorns_r1 ++ wsX3_giveCorns_r2) ++ wsX30 ++ wsX00 ++ wsX20 ++ (vx_atS RX3 266 "java/lang/IndexOutOfBoundsException" ["java/lang/RuntimeException", "java/lang/Exception"]).filter goodWord ++ (vx_atS RX3 273 "java/lang/IllegalArgumentException" ["java/lang/RuntimeException", "java/lang/Exception"]).filter goodWord)
def wsX3_demandGoose : List Cond := .code yX3_demandGoose cX3_demandGoose 2 none :: ([.fieldLink RX3 10 "GooseCodex" "now" "LGooseCodex$Farm;", .fieldLink RX3 57 "GooseCodex$Farm" "flock" "LGooseCodex$Flock;", .methodLink RX3 79 yX1_hasGoose, .instanceMethod yX1_hasGoose, .selects RX1 yX1_hasGoose yX1_hasGoose, .initialized RX1, .code yX1_hasGoose cX1_hasGoose 2 (some .boolean), .fieldLink RX1 24 "GooseCodex$Flock" "count" "I", .methodLink RX3 50 yX3_demandIndex, .static yX3_demandIndex, .initialized RX3, .code yX3_demandIndex cX3_demandIndex 1 none, .classLink RX3 262 "java/lang/IndexOutOfBoundsException", .initialized "java/lang/IndexOutOfBoundsException"] ++ wsX30 ++ wsX00 ++ wsX10 ++ (vx_atS RX3 266 "java/lang/IndexOutOfBoundsException" ["java/lang/RuntimeException", "java/lang/Exception"]).filter goodWord)
def wsX3_bribe_r1 : List Cond := [Cond.fieldLink RX3 10 "GooseCodex" "now" "LGooseCodex$Farm;", Cond.fieldLink RX3 31 "GooseCodex$Farm" "guests" "LGooseCodex$Guests;", Cond.fieldLink RX3 89 "GooseCodex$Guests" "corns" "[I", Cond.fieldLink RX3 57 "GooseCodex$Farm" "flock" "LGooseCodex$Flock;", Cond.fieldLink RX3 82 "GooseCodex$Flock" "gate" "[I", Cond.fieldLink RX3 103 "GooseCodex$Guests" "passed" "[I", Cond.fieldLink RX3 110 "GooseCodex$Flock" "temper" "[I", Cond.methodLink RX3 85 yX3_demandVisitor, Cond.instanceMethod yX3_demandVisitor, Cond.selects RX3 yX3_demandVisitor yX3_demandVisitor, Cond.initialized RX3, Cond.code yX3_demandVisitor cX3_demandVisitor 2 none, Cond.methodLink RX3 259 yX2_hasGuest, Cond.instanceMethod yX2_hasGuest, Cond.selects RX2 yX2_hasGuest yX2_hasGuest, Cond.initialized RX2, Cond.code yX2_hasGuest cX2_hasGuest 2 (some .boolean), Cond.fieldLink RX2 27 "GooseCodex$Guests" "count" "I", Cond.methodLink RX3 50 yX3_demandIndex, Cond.static yX3_demandIndex, Cond.code yX3_demandIndex cX3_demandIndex 1 none, Cond.classLink RX3 262 "java/lang/IndexOutOfBoundsException", Cond.initialized "java/lang/IndexOutOfBoundsException", Cond.methodLink RX3 97 yX3_demandGoose]
def wsX3_bribe_r2 : List Cond := [Cond.instanceMethod yX3_demandGoose, Cond.selects RX3 yX3_demandGoose yX3_demandGoose, Cond.code yX3_demandGoose cX3_demandGoose 2 none, Cond.methodLink RX3 79 yX1_hasGoose, Cond.instanceMethod yX1_hasGoose, Cond.selects RX1 yX1_hasGoose yX1_hasGoose, Cond.initialized RX1, Cond.code yX1_hasGoose cX1_hasGoose 2 (some .boolean), Cond.fieldLink RX1 24 "GooseCodex$Flock" "count" "I", Cond.methodLink RX3 100 yX0_isBehindAll, Cond.instanceMethod yX0_isBehindAll, Cond.selects RX0 yX0_isBehindAll yX0_isBehindAll, Cond.initialized RX0, Cond.code yX0_isBehindAll cX0_isBehindAll 2 (some .boolean), Cond.fieldLink RX0 25 "GooseCodex$Farm" "guests" "LGooseCodex$Guests;", Cond.fieldLink RX0 49 "GooseCodex$Guests" "passed" "[I", Cond.fieldLink RX0 29 "GooseCodex$Farm" "gateCount" "I", Cond.methodLink RX3 40 yX3_demandState, Cond.static yX3_demandState, Cond.code yX3_demandState cX3_demandState 1 none, Cond.classLink RX3 274 "java/lang/IllegalStateException", Cond.initialized "java/lang/IllegalStateException", Cond.methodLink RX3 106 yX0_payGoose, Cond.instanceMethod yX0_payGoose]
def wsX3_bribe_r3 : List Cond := [Cond.selects RX0 yX0_payGoose yX0_payGoose, Cond.code yX0_payGoose cX0_payGoose 3 none, Cond.fieldLink RX0 64 "GooseCodex$Guests" "corns" "[I", Cond.fieldLink RX0 18 "GooseCodex$Farm" "flock" "LGooseCodex$Flock;", Cond.fieldLink RX0 71 "GooseCodex$Farm" "bribeCount" "I", Cond.methodLink RX0 67 yX1_feed, Cond.instanceMethod yX1_feed, Cond.selects RX1 yX1_feed yX1_feed, Cond.code yX1_feed cX1_feed 2 none, Cond.fieldLink RX1 21 "GooseCodex$Flock" "eaten" "[I", Cond.fieldLink RX1 18 "GooseCodex$Flock" "calm" "[I", Cond.fieldLink RX1 15 "GooseCodex$Flock" "temper" "[I", Cond.methodLink RX1 32 Lib.Math.max.name, Cond.static Lib.Math.max.name, Cond.initialized "java/lang/Math", Cond.code Lib.Math.max.name Lib.Math.max.code 2 (some .int)]
def wsX3_bribe : List Cond := .code yX3_bribe cX3_bribe 3 (some .int) :: ((wsX3_bribe_r1 ++ (wsX3_bribe_r2 ++ wsX3_bribe_r3)) ++ wsX30 ++ wsX00 ++ wsX20 ++ wsX10 ++ (vx_atS RX3 266 "java/lang/IndexOutOfBoundsException" ["java/lang/RuntimeException", "java/lang/Exception"]).filter goodWord ++ (vx_atS RX3 278 "java/lang/IllegalStateException" ["java/lang/RuntimeException", "java/lang/Exception"]).filter goodWord)
def wsX3_isBeats : List Cond := .code yX3_isBeats cX3_isBeats 1 (some .boolean) :: ([.methodLink RX3 53 yX3_isWithin, .static yX3_isWithin, .initialized RX3, .code yX3_isWithin cX3_isWithin 3 (some .boolean)])
def wsX3_passBeats_r1 : List Cond := [Cond.fieldLink RX3 10 "GooseCodex" "now" "LGooseCodex$Farm;", Cond.methodLink RX3 113 yX3_isBeats, Cond.static yX3_isBeats, Cond.initialized RX3, Cond.code yX3_isBeats cX3_isBeats 1 (some .boolean), Cond.methodLink RX3 53 yX3_isWithin, Cond.static yX3_isWithin, Cond.code yX3_isWithin cX3_isWithin 3 (some .boolean), Cond.methodLink RX3 23 yX3_demandArgument, Cond.static yX3_demandArgument, Cond.code yX3_demandArgument cX3_demandArgument 1 none, Cond.classLink RX3 269 "java/lang/IllegalArgumentException", Cond.initialized "java/lang/IllegalArgumentException", Cond.methodLink RX3 116 yX0_countInside, Cond.instanceMethod yX0_countInside, Cond.selects RX0 yX0_countInside yX0_countInside, Cond.initialized RX0, Cond.code yX0_countInside cX0_countInside 3 (some .int), Cond.fieldLink RX0 25 "GooseCodex$Farm" "guests" "LGooseCodex$Guests;", Cond.fieldLink RX0 58 "GooseCodex$Guests" "count" "I", Cond.methodLink RX0 61 yX0_isBehindAll, Cond.instanceMethod yX0_isBehindAll, Cond.selects RX0 yX0_isBehindAll yX0_isBehindAll, Cond.code yX0_isBehindAll cX0_isBehindAll 2 (some .boolean)]
def wsX3_passBeats_r2 : List Cond := [Cond.fieldLink RX0 49 "GooseCodex$Guests" "passed" "[I", Cond.fieldLink RX0 29 "GooseCodex$Farm" "gateCount" "I", Cond.methodLink RX3 120 yX0_runBeats, Cond.instanceMethod yX0_runBeats, Cond.selects RX0 yX0_runBeats yX0_runBeats, Cond.code yX0_runBeats cX0_runBeats 3 none, Cond.methodLink RX0 89 yX0_runBeat, Cond.instanceMethod yX0_runBeat, Cond.selects RX0 yX0_runBeat yX0_runBeat, Cond.code yX0_runBeat cX0_runBeat 2 none, Cond.fieldLink RX0 18 "GooseCodex$Farm" "flock" "LGooseCodex$Flock;", Cond.fieldLink RX0 98 "GooseCodex$Farm" "beat" "I", Cond.methodLink RX0 92 yX1_wakeByABeat, Cond.instanceMethod yX1_wakeByABeat, Cond.selects RX1 yX1_wakeByABeat yX1_wakeByABeat, Cond.initialized RX1, Cond.code yX1_wakeByABeat cX1_wakeByABeat 2 none, Cond.fieldLink RX1 24 "GooseCodex$Flock" "count" "I", Cond.fieldLink RX1 18 "GooseCodex$Flock" "calm" "[I", Cond.methodLink RX0 95 yX0_moveGuest, Cond.instanceMethod yX0_moveGuest, Cond.selects RX0 yX0_moveGuest yX0_moveGuest, Cond.code yX0_moveGuest cX0_moveGuest 5 none, Cond.fieldLink RX0 101 "GooseCodex$Guests" "retreat" "[I"]
def wsX3_passBeats_r3 : List Cond := [Cond.fieldLink RX0 52 "GooseCodex$Guests" "rank" "[I", Cond.fieldLink RX0 79 "GooseCodex$Guests" "nerve" "[I", Cond.fieldLink RX0 64 "GooseCodex$Guests" "corns" "[I", Cond.fieldLink RX0 123 "GooseCodex$Farm" "retreatCount" "I", Cond.methodLink RX0 55 yX0_gateHiss, Cond.instanceMethod yX0_gateHiss, Cond.selects RX0 yX0_gateHiss yX0_gateHiss, Cond.code yX0_gateHiss cX0_gateHiss 3 (some .int), Cond.methodLink RX0 43 yX0_rankLack, Cond.instanceMethod yX0_rankLack, Cond.selects RX0 yX0_rankLack yX0_rankLack, Cond.code yX0_rankLack cX0_rankLack 3 (some .int), Cond.fieldLink RX0 9 "GooseCodex$Farm" "ranks" "[I", Cond.methodLink RX0 37 Lib.Math.max.name, Cond.static Lib.Math.max.name, Cond.initialized "java/lang/Math", Cond.code Lib.Math.max.name Lib.Math.max.code 2 (some .int), Cond.methodLink RX0 33 yX0_hasGate, Cond.instanceMethod yX0_hasGate, Cond.selects RX0 yX0_hasGate yX0_hasGate, Cond.code yX0_hasGate cX0_hasGate 2 (some .boolean), Cond.methodLink RX0 46 yX1_hissThere, Cond.instanceMethod yX1_hissThere, Cond.selects RX1 yX1_hissThere yX1_hissThere]
def wsX3_passBeats_r4 : List Cond := [Cond.code yX1_hissThere cX1_hissThere 5 (some .int), Cond.fieldLink RX1 15 "GooseCodex$Flock" "temper" "[I", Cond.methodLink RX1 28 yX1_isAwakeThere, Cond.instanceMethod yX1_isAwakeThere, Cond.selects RX1 yX1_isAwakeThere yX1_isAwakeThere, Cond.code yX1_isAwakeThere cX1_isAwakeThere 3 (some .boolean), Cond.fieldLink RX1 9 "GooseCodex$Flock" "gate" "[I", Cond.methodLink RX0 104 yX1_enrage, Cond.instanceMethod yX1_enrage, Cond.selects RX1 yX1_enrage yX1_enrage, Cond.code yX1_enrage cX1_enrage 3 none, Cond.methodLink RX1 38 Lib.Math.min.name, Cond.static Lib.Math.min.name, Cond.code Lib.Math.min.name Lib.Math.min.code 2 (some .int), Cond.methodLink RX0 107 yX1_fiercestAwake, Cond.instanceMethod yX1_fiercestAwake, Cond.selects RX1 yX1_fiercestAwake yX1_fiercestAwake, Cond.code yX1_fiercestAwake cX1_fiercestAwake 5 (some .int), Cond.methodLink RX0 110 yX1_hasGoose, Cond.instanceMethod yX1_hasGoose, Cond.selects RX1 yX1_hasGoose yX1_hasGoose, Cond.code yX1_hasGoose cX1_hasGoose 2 (some .boolean), Cond.methodLink RX0 113 yX0_payGoose, Cond.instanceMethod yX0_payGoose]
def wsX3_passBeats_r5 : List Cond := [Cond.selects RX0 yX0_payGoose yX0_payGoose, Cond.code yX0_payGoose cX0_payGoose 3 none, Cond.fieldLink RX0 71 "GooseCodex$Farm" "bribeCount" "I", Cond.methodLink RX0 67 yX1_feed, Cond.instanceMethod yX1_feed, Cond.selects RX1 yX1_feed yX1_feed, Cond.code yX1_feed cX1_feed 2 none, Cond.fieldLink RX1 21 "GooseCodex$Flock" "eaten" "[I", Cond.methodLink RX1 32 Lib.Math.max.name, Cond.static yX3_gradeOfHiss, Cond.code yX3_gradeOfHiss cX3_gradeOfHiss 1 (some .int), Cond.methodLink RX0 120 yX2_fallBack, Cond.instanceMethod yX2_fallBack, Cond.selects RX2 yX2_fallBack yX2_fallBack, Cond.initialized RX2, Cond.code yX2_fallBack cX2_fallBack 3 none, Cond.fieldLink RX2 24 "GooseCodex$Guests" "retreat" "[I", Cond.fieldLink RX2 15 "GooseCodex$Guests" "nerve" "[I", Cond.methodLink RX2 31 Lib.Math.min.name, Cond.fieldLink RX2 21 "GooseCodex$Guests" "passed" "[I"]
def wsX3_passBeats : List Cond := .code yX3_passBeats cX3_passBeats 3 (some .int) :: ((wsX3_passBeats_r1 ++ (wsX3_passBeats_r2 ++ (wsX3_passBeats_r3 ++ (wsX3_passBeats_r4 ++ wsX3_passBeats_r5)))) ++ wsX30 ++ wsX00 ++ wsX20 ++ wsX10 ++ (vx_atS RX3 273 "java/lang/IllegalArgumentException" ["java/lang/RuntimeException", "java/lang/Exception"]).filter goodWord)
def wsX3_beats : List Cond := .code yX3_beats cX3_beats 1 (some .int) :: ([.fieldLink RX3 10 "GooseCodex" "now" "LGooseCodex$Farm;", .fieldLink RX3 123 "GooseCodex$Farm" "beat" "I"] ++ wsX30 ++ wsX00)
def wsX3_gates : List Cond := .code yX3_gates cX3_gates 1 (some .int) :: ([.fieldLink RX3 10 "GooseCodex" "now" "LGooseCodex$Farm;", .fieldLink RX3 27 "GooseCodex$Farm" "gateCount" "I"] ++ wsX30 ++ wsX00)
def wsX3_geese : List Cond := .code yX3_geese cX3_geese 1 (some .int) :: ([.fieldLink RX3 10 "GooseCodex" "now" "LGooseCodex$Farm;", .fieldLink RX3 57 "GooseCodex$Farm" "flock" "LGooseCodex$Flock;", .fieldLink RX3 61 "GooseCodex$Flock" "count" "I"] ++ wsX30 ++ wsX00 ++ wsX10)
def wsX3_visitors : List Cond := .code yX3_visitors cX3_visitors 1 (some .int) :: ([.fieldLink RX3 10 "GooseCodex" "now" "LGooseCodex$Farm;", .fieldLink RX3 31 "GooseCodex$Farm" "guests" "LGooseCodex$Guests;", .fieldLink RX3 35 "GooseCodex$Guests" "count" "I"] ++ wsX30 ++ wsX00 ++ wsX20)
def wsX3_inFarm : List Cond := .code yX3_inFarm cX3_inFarm 1 (some .int) :: ([.fieldLink RX3 10 "GooseCodex" "now" "LGooseCodex$Farm;", .methodLink RX3 116 yX0_countInside, .instanceMethod yX0_countInside, .selects RX0 yX0_countInside yX0_countInside, .initialized RX0, .code yX0_countInside cX0_countInside 3 (some .int), .fieldLink RX0 25 "GooseCodex$Farm" "guests" "LGooseCodex$Guests;", .fieldLink RX0 58 "GooseCodex$Guests" "count" "I", .methodLink RX0 61 yX0_isBehindAll, .instanceMethod yX0_isBehindAll, .selects RX0 yX0_isBehindAll yX0_isBehindAll, .code yX0_isBehindAll cX0_isBehindAll 2 (some .boolean), .fieldLink RX0 49 "GooseCodex$Guests" "passed" "[I", .fieldLink RX0 29 "GooseCodex$Farm" "gateCount" "I"] ++ wsX30 ++ wsX00 ++ wsX20)
def wsX3_bribes : List Cond := .code yX3_bribes cX3_bribes 1 (some .int) :: ([.fieldLink RX3 10 "GooseCodex" "now" "LGooseCodex$Farm;", .fieldLink RX3 126 "GooseCodex$Farm" "bribeCount" "I"] ++ wsX30 ++ wsX00)
def wsX3_retreats : List Cond := .code yX3_retreats cX3_retreats 1 (some .int) :: ([.fieldLink RX3 10 "GooseCodex" "now" "LGooseCodex$Farm;", .fieldLink RX3 129 "GooseCodex$Farm" "retreatCount" "I"] ++ wsX30 ++ wsX00)
def wsX3_rankOf : List Cond := .code yX3_rankOf cX3_rankOf 2 (some .int) :: ([.fieldLink RX3 10 "GooseCodex" "now" "LGooseCodex$Farm;", .fieldLink RX3 75 "GooseCodex$Farm" "ranks" "[I", .methodLink RX3 47 yX0_hasGate, .instanceMethod yX0_hasGate, .selects RX0 yX0_hasGate yX0_hasGate, .initialized RX0, .code yX0_hasGate cX0_hasGate 2 (some .boolean), .fieldLink RX0 29 "GooseCodex$Farm" "gateCount" "I", .methodLink RX3 50 yX3_demandIndex, .static yX3_demandIndex, .initialized RX3, .code yX3_demandIndex cX3_demandIndex 1 none, .classLink RX3 262 "java/lang/IndexOutOfBoundsException", .initialized "java/lang/IndexOutOfBoundsException"] ++ wsX30 ++ wsX00 ++ (vx_atS RX3 266 "java/lang/IndexOutOfBoundsException" ["java/lang/RuntimeException", "java/lang/Exception"]).filter goodWord)
def wsX3_awakeAt_r1 : List Cond := [Cond.fieldLink RX3 10 "GooseCodex" "now" "LGooseCodex$Farm;", Cond.fieldLink RX3 57 "GooseCodex$Farm" "flock" "LGooseCodex$Flock;", Cond.methodLink RX3 47 yX0_hasGate, Cond.instanceMethod yX0_hasGate, Cond.selects RX0 yX0_hasGate yX0_hasGate, Cond.initialized RX0, Cond.code yX0_hasGate cX0_hasGate 2 (some .boolean), Cond.fieldLink RX0 29 "GooseCodex$Farm" "gateCount" "I", Cond.methodLink RX3 50 yX3_demandIndex, Cond.static yX3_demandIndex, Cond.initialized RX3, Cond.code yX3_demandIndex cX3_demandIndex 1 none, Cond.classLink RX3 262 "java/lang/IndexOutOfBoundsException", Cond.initialized "java/lang/IndexOutOfBoundsException", Cond.methodLink RX3 132 yX1_countAwake, Cond.instanceMethod yX1_countAwake, Cond.selects RX1 yX1_countAwake yX1_countAwake, Cond.initialized RX1, Cond.code yX1_countAwake cX1_countAwake 4 (some .int), Cond.fieldLink RX1 24 "GooseCodex$Flock" "count" "I", Cond.methodLink RX1 28 yX1_isAwakeThere, Cond.instanceMethod yX1_isAwakeThere, Cond.selects RX1 yX1_isAwakeThere yX1_isAwakeThere, Cond.code yX1_isAwakeThere cX1_isAwakeThere 3 (some .boolean)]
def wsX3_awakeAt_r2 : List Cond := [Cond.fieldLink RX1 9 "GooseCodex$Flock" "gate" "[I", Cond.fieldLink RX1 18 "GooseCodex$Flock" "calm" "[I"]
def wsX3_awakeAt : List Cond := .code yX3_awakeAt cX3_awakeAt 2 (some .int) :: ((wsX3_awakeAt_r1 ++ wsX3_awakeAt_r2) ++ wsX30 ++ wsX00 ++ wsX10 ++ (vx_atS RX3 266 "java/lang/IndexOutOfBoundsException" ["java/lang/RuntimeException", "java/lang/Exception"]).filter goodWord)
def wsX3_hissOf_r1 : List Cond := [Cond.fieldLink RX3 10 "GooseCodex" "now" "LGooseCodex$Farm;", Cond.methodLink RX3 47 yX0_hasGate, Cond.instanceMethod yX0_hasGate, Cond.selects RX0 yX0_hasGate yX0_hasGate, Cond.initialized RX0, Cond.code yX0_hasGate cX0_hasGate 2 (some .boolean), Cond.fieldLink RX0 29 "GooseCodex$Farm" "gateCount" "I", Cond.methodLink RX3 50 yX3_demandIndex, Cond.static yX3_demandIndex, Cond.initialized RX3, Cond.code yX3_demandIndex cX3_demandIndex 1 none, Cond.classLink RX3 262 "java/lang/IndexOutOfBoundsException", Cond.initialized "java/lang/IndexOutOfBoundsException", Cond.methodLink RX3 19 yX3_isRank, Cond.static yX3_isRank, Cond.code yX3_isRank cX3_isRank 1 (some .boolean), Cond.methodLink RX3 53 yX3_isWithin, Cond.static yX3_isWithin, Cond.code yX3_isWithin cX3_isWithin 3 (some .boolean), Cond.methodLink RX3 23 yX3_demandArgument, Cond.static yX3_demandArgument, Cond.code yX3_demandArgument cX3_demandArgument 1 none, Cond.classLink RX3 269 "java/lang/IllegalArgumentException", Cond.initialized "java/lang/IllegalArgumentException"]
def wsX3_hissOf_r2 : List Cond := [Cond.methodLink RX3 135 yX0_gateHiss, Cond.instanceMethod yX0_gateHiss, Cond.selects RX0 yX0_gateHiss yX0_gateHiss, Cond.code yX0_gateHiss cX0_gateHiss 3 (some .int), Cond.fieldLink RX0 18 "GooseCodex$Farm" "flock" "LGooseCodex$Flock;", Cond.methodLink RX0 43 yX0_rankLack, Cond.instanceMethod yX0_rankLack, Cond.selects RX0 yX0_rankLack yX0_rankLack, Cond.code yX0_rankLack cX0_rankLack 3 (some .int), Cond.fieldLink RX0 9 "GooseCodex$Farm" "ranks" "[I", Cond.methodLink RX0 37 Lib.Math.max.name, Cond.static Lib.Math.max.name, Cond.initialized "java/lang/Math", Cond.code Lib.Math.max.name Lib.Math.max.code 2 (some .int), Cond.methodLink RX0 33 yX0_hasGate, Cond.methodLink RX0 46 yX1_hissThere, Cond.instanceMethod yX1_hissThere, Cond.selects RX1 yX1_hissThere yX1_hissThere, Cond.initialized RX1, Cond.code yX1_hissThere cX1_hissThere 5 (some .int), Cond.fieldLink RX1 24 "GooseCodex$Flock" "count" "I", Cond.fieldLink RX1 15 "GooseCodex$Flock" "temper" "[I", Cond.methodLink RX1 28 yX1_isAwakeThere, Cond.instanceMethod yX1_isAwakeThere]
def wsX3_hissOf_r3 : List Cond := [Cond.selects RX1 yX1_isAwakeThere yX1_isAwakeThere, Cond.code yX1_isAwakeThere cX1_isAwakeThere 3 (some .boolean), Cond.fieldLink RX1 9 "GooseCodex$Flock" "gate" "[I", Cond.fieldLink RX1 18 "GooseCodex$Flock" "calm" "[I"]
def wsX3_hissOf : List Cond := .code yX3_hissOf cX3_hissOf 3 (some .int) :: ((wsX3_hissOf_r1 ++ (wsX3_hissOf_r2 ++ wsX3_hissOf_r3)) ++ wsX30 ++ wsX00 ++ wsX10 ++ (vx_atS RX3 266 "java/lang/IndexOutOfBoundsException" ["java/lang/RuntimeException", "java/lang/Exception"]).filter goodWord ++ (vx_atS RX3 273 "java/lang/IllegalArgumentException" ["java/lang/RuntimeException", "java/lang/Exception"]).filter goodWord)
def wsX3_loudestGate_r1 : List Cond := [Cond.fieldLink RX3 10 "GooseCodex" "now" "LGooseCodex$Farm;", Cond.fieldLink RX3 27 "GooseCodex$Farm" "gateCount" "I", Cond.methodLink RX3 135 yX0_gateHiss, Cond.instanceMethod yX0_gateHiss, Cond.selects RX0 yX0_gateHiss yX0_gateHiss, Cond.initialized RX0, Cond.code yX0_gateHiss cX0_gateHiss 3 (some .int), Cond.fieldLink RX0 18 "GooseCodex$Farm" "flock" "LGooseCodex$Flock;", Cond.methodLink RX0 43 yX0_rankLack, Cond.instanceMethod yX0_rankLack, Cond.selects RX0 yX0_rankLack yX0_rankLack, Cond.code yX0_rankLack cX0_rankLack 3 (some .int), Cond.fieldLink RX0 9 "GooseCodex$Farm" "ranks" "[I", Cond.methodLink RX0 37 Lib.Math.max.name, Cond.static Lib.Math.max.name, Cond.initialized "java/lang/Math", Cond.code Lib.Math.max.name Lib.Math.max.code 2 (some .int), Cond.methodLink RX0 33 yX0_hasGate, Cond.instanceMethod yX0_hasGate, Cond.selects RX0 yX0_hasGate yX0_hasGate, Cond.code yX0_hasGate cX0_hasGate 2 (some .boolean), Cond.fieldLink RX0 29 "GooseCodex$Farm" "gateCount" "I", Cond.methodLink RX0 46 yX1_hissThere, Cond.instanceMethod yX1_hissThere]
def wsX3_loudestGate_r2 : List Cond := [Cond.selects RX1 yX1_hissThere yX1_hissThere, Cond.initialized RX1, Cond.code yX1_hissThere cX1_hissThere 5 (some .int), Cond.fieldLink RX1 24 "GooseCodex$Flock" "count" "I", Cond.fieldLink RX1 15 "GooseCodex$Flock" "temper" "[I", Cond.methodLink RX1 28 yX1_isAwakeThere, Cond.instanceMethod yX1_isAwakeThere, Cond.selects RX1 yX1_isAwakeThere yX1_isAwakeThere, Cond.code yX1_isAwakeThere cX1_isAwakeThere 3 (some .boolean), Cond.fieldLink RX1 9 "GooseCodex$Flock" "gate" "[I", Cond.fieldLink RX1 18 "GooseCodex$Flock" "calm" "[I"]
def wsX3_loudestGate : List Cond := .code yX3_loudestGate cX3_loudestGate 5 (some .int) :: ((wsX3_loudestGate_r1 ++ wsX3_loudestGate_r2) ++ wsX30 ++ wsX00 ++ wsX10)
def wsX3_gateOf : List Cond := .code yX3_gateOf cX3_gateOf 2 (some .int) :: ([.fieldLink RX3 10 "GooseCodex" "now" "LGooseCodex$Farm;", .fieldLink RX3 57 "GooseCodex$Farm" "flock" "LGooseCodex$Flock;", .fieldLink RX3 82 "GooseCodex$Flock" "gate" "[I", .methodLink RX3 97 yX3_demandGoose, .instanceMethod yX3_demandGoose, .selects RX3 yX3_demandGoose yX3_demandGoose, .initialized RX3, .code yX3_demandGoose cX3_demandGoose 2 none, .methodLink RX3 79 yX1_hasGoose, .instanceMethod yX1_hasGoose, .selects RX1 yX1_hasGoose yX1_hasGoose, .initialized RX1, .code yX1_hasGoose cX1_hasGoose 2 (some .boolean), .fieldLink RX1 24 "GooseCodex$Flock" "count" "I", .methodLink RX3 50 yX3_demandIndex, .static yX3_demandIndex, .code yX3_demandIndex cX3_demandIndex 1 none, .classLink RX3 262 "java/lang/IndexOutOfBoundsException", .initialized "java/lang/IndexOutOfBoundsException"] ++ wsX30 ++ wsX00 ++ wsX10 ++ (vx_atS RX3 266 "java/lang/IndexOutOfBoundsException" ["java/lang/RuntimeException", "java/lang/Exception"]).filter goodWord)
def wsX3_temperOf : List Cond := .code yX3_temperOf cX3_temperOf 2 (some .int) :: ([.fieldLink RX3 10 "GooseCodex" "now" "LGooseCodex$Farm;", .fieldLink RX3 57 "GooseCodex$Farm" "flock" "LGooseCodex$Flock;", .fieldLink RX3 110 "GooseCodex$Flock" "temper" "[I", .methodLink RX3 97 yX3_demandGoose, .instanceMethod yX3_demandGoose, .selects RX3 yX3_demandGoose yX3_demandGoose, .initialized RX3, .code yX3_demandGoose cX3_demandGoose 2 none, .methodLink RX3 79 yX1_hasGoose, .instanceMethod yX1_hasGoose, .selects RX1 yX1_hasGoose yX1_hasGoose, .initialized RX1, .code yX1_hasGoose cX1_hasGoose 2 (some .boolean), .fieldLink RX1 24 "GooseCodex$Flock" "count" "I", .methodLink RX3 50 yX3_demandIndex, .static yX3_demandIndex, .code yX3_demandIndex cX3_demandIndex 1 none, .classLink RX3 262 "java/lang/IndexOutOfBoundsException", .initialized "java/lang/IndexOutOfBoundsException"] ++ wsX30 ++ wsX00 ++ wsX10 ++ (vx_atS RX3 266 "java/lang/IndexOutOfBoundsException" ["java/lang/RuntimeException", "java/lang/Exception"]).filter goodWord)
def wsX3_calmFor : List Cond := .code yX3_calmFor cX3_calmFor 2 (some .int) :: ([.fieldLink RX3 10 "GooseCodex" "now" "LGooseCodex$Farm;", .fieldLink RX3 57 "GooseCodex$Farm" "flock" "LGooseCodex$Flock;", .fieldLink RX3 138 "GooseCodex$Flock" "calm" "[I", .methodLink RX3 97 yX3_demandGoose, .instanceMethod yX3_demandGoose, .selects RX3 yX3_demandGoose yX3_demandGoose, .initialized RX3, .code yX3_demandGoose cX3_demandGoose 2 none, .methodLink RX3 79 yX1_hasGoose, .instanceMethod yX1_hasGoose, .selects RX1 yX1_hasGoose yX1_hasGoose, .initialized RX1, .code yX1_hasGoose cX1_hasGoose 2 (some .boolean), .fieldLink RX1 24 "GooseCodex$Flock" "count" "I", .methodLink RX3 50 yX3_demandIndex, .static yX3_demandIndex, .code yX3_demandIndex cX3_demandIndex 1 none, .classLink RX3 262 "java/lang/IndexOutOfBoundsException", .initialized "java/lang/IndexOutOfBoundsException"] ++ wsX30 ++ wsX00 ++ wsX10 ++ (vx_atS RX3 266 "java/lang/IndexOutOfBoundsException" ["java/lang/RuntimeException", "java/lang/Exception"]).filter goodWord)
def wsX3_eatenBy : List Cond := .code yX3_eatenBy cX3_eatenBy 2 (some .int) :: ([.fieldLink RX3 10 "GooseCodex" "now" "LGooseCodex$Farm;", .fieldLink RX3 57 "GooseCodex$Farm" "flock" "LGooseCodex$Flock;", .fieldLink RX3 141 "GooseCodex$Flock" "eaten" "[I", .methodLink RX3 97 yX3_demandGoose, .instanceMethod yX3_demandGoose, .selects RX3 yX3_demandGoose yX3_demandGoose, .initialized RX3, .code yX3_demandGoose cX3_demandGoose 2 none, .methodLink RX3 79 yX1_hasGoose, .instanceMethod yX1_hasGoose, .selects RX1 yX1_hasGoose yX1_hasGoose, .initialized RX1, .code yX1_hasGoose cX1_hasGoose 2 (some .boolean), .fieldLink RX1 24 "GooseCodex$Flock" "count" "I", .methodLink RX3 50 yX3_demandIndex, .static yX3_demandIndex, .code yX3_demandIndex cX3_demandIndex 1 none, .classLink RX3 262 "java/lang/IndexOutOfBoundsException", .initialized "java/lang/IndexOutOfBoundsException"] ++ wsX30 ++ wsX00 ++ wsX10 ++ (vx_atS RX3 266 "java/lang/IndexOutOfBoundsException" ["java/lang/RuntimeException", "java/lang/Exception"]).filter goodWord)
def wsX3_passedBy : List Cond := .code yX3_passedBy cX3_passedBy 2 (some .int) :: ([.fieldLink RX3 10 "GooseCodex" "now" "LGooseCodex$Farm;", .fieldLink RX3 31 "GooseCodex$Farm" "guests" "LGooseCodex$Guests;", .fieldLink RX3 103 "GooseCodex$Guests" "passed" "[I", .methodLink RX3 85 yX3_demandVisitor, .instanceMethod yX3_demandVisitor, .selects RX3 yX3_demandVisitor yX3_demandVisitor, .initialized RX3, .code yX3_demandVisitor cX3_demandVisitor 2 none, .methodLink RX3 259 yX2_hasGuest, .instanceMethod yX2_hasGuest, .selects RX2 yX2_hasGuest yX2_hasGuest, .initialized RX2, .code yX2_hasGuest cX2_hasGuest 2 (some .boolean), .fieldLink RX2 27 "GooseCodex$Guests" "count" "I", .methodLink RX3 50 yX3_demandIndex, .static yX3_demandIndex, .code yX3_demandIndex cX3_demandIndex 1 none, .classLink RX3 262 "java/lang/IndexOutOfBoundsException", .initialized "java/lang/IndexOutOfBoundsException"] ++ wsX30 ++ wsX00 ++ wsX20 ++ (vx_atS RX3 266 "java/lang/IndexOutOfBoundsException" ["java/lang/RuntimeException", "java/lang/Exception"]).filter goodWord)
def wsX3_isInFarm_r1 : List Cond := [Cond.fieldLink RX3 10 "GooseCodex" "now" "LGooseCodex$Farm;", Cond.methodLink RX3 85 yX3_demandVisitor, Cond.instanceMethod yX3_demandVisitor, Cond.selects RX3 yX3_demandVisitor yX3_demandVisitor, Cond.initialized RX3, Cond.code yX3_demandVisitor cX3_demandVisitor 2 none, Cond.fieldLink RX3 31 "GooseCodex$Farm" "guests" "LGooseCodex$Guests;", Cond.methodLink RX3 259 yX2_hasGuest, Cond.instanceMethod yX2_hasGuest, Cond.selects RX2 yX2_hasGuest yX2_hasGuest, Cond.initialized RX2, Cond.code yX2_hasGuest cX2_hasGuest 2 (some .boolean), Cond.fieldLink RX2 27 "GooseCodex$Guests" "count" "I", Cond.methodLink RX3 50 yX3_demandIndex, Cond.static yX3_demandIndex, Cond.code yX3_demandIndex cX3_demandIndex 1 none, Cond.classLink RX3 262 "java/lang/IndexOutOfBoundsException", Cond.initialized "java/lang/IndexOutOfBoundsException", Cond.methodLink RX3 100 yX0_isBehindAll, Cond.instanceMethod yX0_isBehindAll, Cond.selects RX0 yX0_isBehindAll yX0_isBehindAll, Cond.initialized RX0, Cond.code yX0_isBehindAll cX0_isBehindAll 2 (some .boolean), Cond.fieldLink RX0 25 "GooseCodex$Farm" "guests" "LGooseCodex$Guests;"]
def wsX3_isInFarm_r2 : List Cond := [Cond.fieldLink RX0 49 "GooseCodex$Guests" "passed" "[I", Cond.fieldLink RX0 29 "GooseCodex$Farm" "gateCount" "I"]
def wsX3_isInFarm : List Cond := .code yX3_isInFarm cX3_isInFarm 2 (some .boolean) :: ((wsX3_isInFarm_r1 ++ wsX3_isInFarm_r2) ++ wsX30 ++ wsX00 ++ wsX20 ++ (vx_atS RX3 266 "java/lang/IndexOutOfBoundsException" ["java/lang/RuntimeException", "java/lang/Exception"]).filter goodWord)
def wsX3_cornsOf : List Cond := .code yX3_cornsOf cX3_cornsOf 2 (some .int) :: ([.fieldLink RX3 10 "GooseCodex" "now" "LGooseCodex$Farm;", .fieldLink RX3 31 "GooseCodex$Farm" "guests" "LGooseCodex$Guests;", .fieldLink RX3 89 "GooseCodex$Guests" "corns" "[I", .methodLink RX3 85 yX3_demandVisitor, .instanceMethod yX3_demandVisitor, .selects RX3 yX3_demandVisitor yX3_demandVisitor, .initialized RX3, .code yX3_demandVisitor cX3_demandVisitor 2 none, .methodLink RX3 259 yX2_hasGuest, .instanceMethod yX2_hasGuest, .selects RX2 yX2_hasGuest yX2_hasGuest, .initialized RX2, .code yX2_hasGuest cX2_hasGuest 2 (some .boolean), .fieldLink RX2 27 "GooseCodex$Guests" "count" "I", .methodLink RX3 50 yX3_demandIndex, .static yX3_demandIndex, .code yX3_demandIndex cX3_demandIndex 1 none, .classLink RX3 262 "java/lang/IndexOutOfBoundsException", .initialized "java/lang/IndexOutOfBoundsException"] ++ wsX30 ++ wsX00 ++ wsX20 ++ (vx_atS RX3 266 "java/lang/IndexOutOfBoundsException" ["java/lang/RuntimeException", "java/lang/Exception"]).filter goodWord)
def wsX3_nerveOf : List Cond := .code yX3_nerveOf cX3_nerveOf 2 (some .int) :: ([.fieldLink RX3 10 "GooseCodex" "now" "LGooseCodex$Farm;", .fieldLink RX3 31 "GooseCodex$Farm" "guests" "LGooseCodex$Guests;", .fieldLink RX3 144 "GooseCodex$Guests" "nerve" "[I", .methodLink RX3 85 yX3_demandVisitor, .instanceMethod yX3_demandVisitor, .selects RX3 yX3_demandVisitor yX3_demandVisitor, .initialized RX3, .code yX3_demandVisitor cX3_demandVisitor 2 none, .methodLink RX3 259 yX2_hasGuest, .instanceMethod yX2_hasGuest, .selects RX2 yX2_hasGuest yX2_hasGuest, .initialized RX2, .code yX2_hasGuest cX2_hasGuest 2 (some .boolean), .fieldLink RX2 27 "GooseCodex$Guests" "count" "I", .methodLink RX3 50 yX3_demandIndex, .static yX3_demandIndex, .code yX3_demandIndex cX3_demandIndex 1 none, .classLink RX3 262 "java/lang/IndexOutOfBoundsException", .initialized "java/lang/IndexOutOfBoundsException"] ++ wsX30 ++ wsX00 ++ wsX20 ++ (vx_atS RX3 266 "java/lang/IndexOutOfBoundsException" ["java/lang/RuntimeException", "java/lang/Exception"]).filter goodWord)
def wsX3_retreatOf : List Cond := .code yX3_retreatOf cX3_retreatOf 2 (some .int) :: ([.fieldLink RX3 10 "GooseCodex" "now" "LGooseCodex$Farm;", .fieldLink RX3 31 "GooseCodex$Farm" "guests" "LGooseCodex$Guests;", .fieldLink RX3 147 "GooseCodex$Guests" "retreat" "[I", .methodLink RX3 85 yX3_demandVisitor, .instanceMethod yX3_demandVisitor, .selects RX3 yX3_demandVisitor yX3_demandVisitor, .initialized RX3, .code yX3_demandVisitor cX3_demandVisitor 2 none, .methodLink RX3 259 yX2_hasGuest, .instanceMethod yX2_hasGuest, .selects RX2 yX2_hasGuest yX2_hasGuest, .initialized RX2, .code yX2_hasGuest cX2_hasGuest 2 (some .boolean), .fieldLink RX2 27 "GooseCodex$Guests" "count" "I", .methodLink RX3 50 yX3_demandIndex, .static yX3_demandIndex, .code yX3_demandIndex cX3_demandIndex 1 none, .classLink RX3 262 "java/lang/IndexOutOfBoundsException", .initialized "java/lang/IndexOutOfBoundsException"] ++ wsX30 ++ wsX00 ++ wsX20 ++ (vx_atS RX3 266 "java/lang/IndexOutOfBoundsException" ["java/lang/RuntimeException", "java/lang/Exception"]).filter goodWord)
def wsX3_hissAt_r1 : List Cond := [Cond.fieldLink RX3 10 "GooseCodex" "now" "LGooseCodex$Farm;", Cond.methodLink RX3 85 yX3_demandVisitor, Cond.instanceMethod yX3_demandVisitor, Cond.selects RX3 yX3_demandVisitor yX3_demandVisitor, Cond.initialized RX3, Cond.code yX3_demandVisitor cX3_demandVisitor 2 none, Cond.fieldLink RX3 31 "GooseCodex$Farm" "guests" "LGooseCodex$Guests;", Cond.methodLink RX3 259 yX2_hasGuest, Cond.instanceMethod yX2_hasGuest, Cond.selects RX2 yX2_hasGuest yX2_hasGuest, Cond.initialized RX2, Cond.code yX2_hasGuest cX2_hasGuest 2 (some .boolean), Cond.fieldLink RX2 27 "GooseCodex$Guests" "count" "I", Cond.methodLink RX3 50 yX3_demandIndex, Cond.static yX3_demandIndex, Cond.code yX3_demandIndex cX3_demandIndex 1 none, Cond.classLink RX3 262 "java/lang/IndexOutOfBoundsException", Cond.initialized "java/lang/IndexOutOfBoundsException", Cond.methodLink RX3 150 yX0_guestHiss, Cond.instanceMethod yX0_guestHiss, Cond.selects RX0 yX0_guestHiss yX0_guestHiss, Cond.initialized RX0, Cond.code yX0_guestHiss cX0_guestHiss 2 (some .int), Cond.fieldLink RX0 25 "GooseCodex$Farm" "guests" "LGooseCodex$Guests;"]
def wsX3_hissAt_r2 : List Cond := [Cond.fieldLink RX0 49 "GooseCodex$Guests" "passed" "[I", Cond.fieldLink RX0 52 "GooseCodex$Guests" "rank" "[I", Cond.methodLink RX0 55 yX0_gateHiss, Cond.instanceMethod yX0_gateHiss, Cond.selects RX0 yX0_gateHiss yX0_gateHiss, Cond.code yX0_gateHiss cX0_gateHiss 3 (some .int), Cond.fieldLink RX0 18 "GooseCodex$Farm" "flock" "LGooseCodex$Flock;", Cond.methodLink RX0 43 yX0_rankLack, Cond.instanceMethod yX0_rankLack, Cond.selects RX0 yX0_rankLack yX0_rankLack, Cond.code yX0_rankLack cX0_rankLack 3 (some .int), Cond.fieldLink RX0 9 "GooseCodex$Farm" "ranks" "[I", Cond.methodLink RX0 37 Lib.Math.max.name, Cond.static Lib.Math.max.name, Cond.initialized "java/lang/Math", Cond.code Lib.Math.max.name Lib.Math.max.code 2 (some .int), Cond.methodLink RX0 33 yX0_hasGate, Cond.instanceMethod yX0_hasGate, Cond.selects RX0 yX0_hasGate yX0_hasGate, Cond.code yX0_hasGate cX0_hasGate 2 (some .boolean), Cond.fieldLink RX0 29 "GooseCodex$Farm" "gateCount" "I", Cond.methodLink RX0 46 yX1_hissThere, Cond.instanceMethod yX1_hissThere, Cond.selects RX1 yX1_hissThere yX1_hissThere]
def wsX3_hissAt_r3 : List Cond := [Cond.initialized RX1, Cond.code yX1_hissThere cX1_hissThere 5 (some .int), Cond.fieldLink RX1 24 "GooseCodex$Flock" "count" "I", Cond.fieldLink RX1 15 "GooseCodex$Flock" "temper" "[I", Cond.methodLink RX1 28 yX1_isAwakeThere, Cond.instanceMethod yX1_isAwakeThere, Cond.selects RX1 yX1_isAwakeThere yX1_isAwakeThere, Cond.code yX1_isAwakeThere cX1_isAwakeThere 3 (some .boolean), Cond.fieldLink RX1 9 "GooseCodex$Flock" "gate" "[I", Cond.fieldLink RX1 18 "GooseCodex$Flock" "calm" "[I"]
def wsX3_hissAt : List Cond := .code yX3_hissAt cX3_hissAt 2 (some .int) :: ((wsX3_hissAt_r1 ++ (wsX3_hissAt_r2 ++ wsX3_hissAt_r3)) ++ wsX30 ++ wsX00 ++ wsX20 ++ wsX10 ++ (vx_atS RX3 266 "java/lang/IndexOutOfBoundsException" ["java/lang/RuntimeException", "java/lang/Exception"]).filter goodWord)
def wsX3_gradeFor_r1 : List Cond := [Cond.fieldLink RX3 10 "GooseCodex" "now" "LGooseCodex$Farm;", Cond.methodLink RX3 85 yX3_demandVisitor, Cond.instanceMethod yX3_demandVisitor, Cond.selects RX3 yX3_demandVisitor yX3_demandVisitor, Cond.initialized RX3, Cond.code yX3_demandVisitor cX3_demandVisitor 2 none, Cond.fieldLink RX3 31 "GooseCodex$Farm" "guests" "LGooseCodex$Guests;", Cond.methodLink RX3 259 yX2_hasGuest, Cond.instanceMethod yX2_hasGuest, Cond.selects RX2 yX2_hasGuest yX2_hasGuest, Cond.initialized RX2, Cond.code yX2_hasGuest cX2_hasGuest 2 (some .boolean), Cond.fieldLink RX2 27 "GooseCodex$Guests" "count" "I", Cond.methodLink RX3 50 yX3_demandIndex, Cond.static yX3_demandIndex, Cond.code yX3_demandIndex cX3_demandIndex 1 none, Cond.classLink RX3 262 "java/lang/IndexOutOfBoundsException", Cond.initialized "java/lang/IndexOutOfBoundsException", Cond.methodLink RX3 150 yX0_guestHiss, Cond.instanceMethod yX0_guestHiss, Cond.selects RX0 yX0_guestHiss yX0_guestHiss, Cond.initialized RX0, Cond.code yX0_guestHiss cX0_guestHiss 2 (some .int), Cond.fieldLink RX0 25 "GooseCodex$Farm" "guests" "LGooseCodex$Guests;"]
def wsX3_gradeFor_r2 : List Cond := [Cond.fieldLink RX0 49 "GooseCodex$Guests" "passed" "[I", Cond.fieldLink RX0 52 "GooseCodex$Guests" "rank" "[I", Cond.methodLink RX0 55 yX0_gateHiss, Cond.instanceMethod yX0_gateHiss, Cond.selects RX0 yX0_gateHiss yX0_gateHiss, Cond.code yX0_gateHiss cX0_gateHiss 3 (some .int), Cond.fieldLink RX0 18 "GooseCodex$Farm" "flock" "LGooseCodex$Flock;", Cond.methodLink RX0 43 yX0_rankLack, Cond.instanceMethod yX0_rankLack, Cond.selects RX0 yX0_rankLack yX0_rankLack, Cond.code yX0_rankLack cX0_rankLack 3 (some .int), Cond.fieldLink RX0 9 "GooseCodex$Farm" "ranks" "[I", Cond.methodLink RX0 37 Lib.Math.max.name, Cond.static Lib.Math.max.name, Cond.initialized "java/lang/Math", Cond.code Lib.Math.max.name Lib.Math.max.code 2 (some .int), Cond.methodLink RX0 33 yX0_hasGate, Cond.instanceMethod yX0_hasGate, Cond.selects RX0 yX0_hasGate yX0_hasGate, Cond.code yX0_hasGate cX0_hasGate 2 (some .boolean), Cond.fieldLink RX0 29 "GooseCodex$Farm" "gateCount" "I", Cond.methodLink RX0 46 yX1_hissThere, Cond.instanceMethod yX1_hissThere, Cond.selects RX1 yX1_hissThere yX1_hissThere]
def wsX3_gradeFor_r3 : List Cond := [Cond.initialized RX1, Cond.code yX1_hissThere cX1_hissThere 5 (some .int), Cond.fieldLink RX1 24 "GooseCodex$Flock" "count" "I", Cond.fieldLink RX1 15 "GooseCodex$Flock" "temper" "[I", Cond.methodLink RX1 28 yX1_isAwakeThere, Cond.instanceMethod yX1_isAwakeThere, Cond.selects RX1 yX1_isAwakeThere yX1_isAwakeThere, Cond.code yX1_isAwakeThere cX1_isAwakeThere 3 (some .boolean), Cond.fieldLink RX1 9 "GooseCodex$Flock" "gate" "[I", Cond.fieldLink RX1 18 "GooseCodex$Flock" "calm" "[I", Cond.methodLink RX3 153 yX3_gradeOfHiss, Cond.static yX3_gradeOfHiss, Cond.code yX3_gradeOfHiss cX3_gradeOfHiss 1 (some .int)]
def wsX3_gradeFor : List Cond := .code yX3_gradeFor cX3_gradeFor 2 (some .int) :: ((wsX3_gradeFor_r1 ++ (wsX3_gradeFor_r2 ++ wsX3_gradeFor_r3)) ++ wsX30 ++ wsX00 ++ wsX20 ++ wsX10 ++ (vx_atS RX3 266 "java/lang/IndexOutOfBoundsException" ["java/lang/RuntimeException", "java/lang/Exception"]).filter goodWord)
def wsX3_dares_r1 : List Cond := [Cond.fieldLink RX3 10 "GooseCodex" "now" "LGooseCodex$Farm;", Cond.fieldLink RX3 31 "GooseCodex$Farm" "guests" "LGooseCodex$Guests;", Cond.fieldLink RX3 144 "GooseCodex$Guests" "nerve" "[I", Cond.methodLink RX3 85 yX3_demandVisitor, Cond.instanceMethod yX3_demandVisitor, Cond.selects RX3 yX3_demandVisitor yX3_demandVisitor, Cond.initialized RX3, Cond.code yX3_demandVisitor cX3_demandVisitor 2 none, Cond.methodLink RX3 259 yX2_hasGuest, Cond.instanceMethod yX2_hasGuest, Cond.selects RX2 yX2_hasGuest yX2_hasGuest, Cond.initialized RX2, Cond.code yX2_hasGuest cX2_hasGuest 2 (some .boolean), Cond.fieldLink RX2 27 "GooseCodex$Guests" "count" "I", Cond.methodLink RX3 50 yX3_demandIndex, Cond.static yX3_demandIndex, Cond.code yX3_demandIndex cX3_demandIndex 1 none, Cond.classLink RX3 262 "java/lang/IndexOutOfBoundsException", Cond.initialized "java/lang/IndexOutOfBoundsException", Cond.methodLink RX3 100 yX0_isBehindAll, Cond.instanceMethod yX0_isBehindAll, Cond.selects RX0 yX0_isBehindAll yX0_isBehindAll, Cond.initialized RX0, Cond.code yX0_isBehindAll cX0_isBehindAll 2 (some .boolean)]
def wsX3_dares_r2 : List Cond := [Cond.fieldLink RX0 25 "GooseCodex$Farm" "guests" "LGooseCodex$Guests;", Cond.fieldLink RX0 49 "GooseCodex$Guests" "passed" "[I", Cond.fieldLink RX0 29 "GooseCodex$Farm" "gateCount" "I", Cond.methodLink RX3 150 yX0_guestHiss, Cond.instanceMethod yX0_guestHiss, Cond.selects RX0 yX0_guestHiss yX0_guestHiss, Cond.code yX0_guestHiss cX0_guestHiss 2 (some .int), Cond.fieldLink RX0 52 "GooseCodex$Guests" "rank" "[I", Cond.methodLink RX0 55 yX0_gateHiss, Cond.instanceMethod yX0_gateHiss, Cond.selects RX0 yX0_gateHiss yX0_gateHiss, Cond.code yX0_gateHiss cX0_gateHiss 3 (some .int), Cond.fieldLink RX0 18 "GooseCodex$Farm" "flock" "LGooseCodex$Flock;", Cond.methodLink RX0 43 yX0_rankLack, Cond.instanceMethod yX0_rankLack, Cond.selects RX0 yX0_rankLack yX0_rankLack, Cond.code yX0_rankLack cX0_rankLack 3 (some .int), Cond.fieldLink RX0 9 "GooseCodex$Farm" "ranks" "[I", Cond.methodLink RX0 37 Lib.Math.max.name, Cond.static Lib.Math.max.name, Cond.initialized "java/lang/Math", Cond.code Lib.Math.max.name Lib.Math.max.code 2 (some .int), Cond.methodLink RX0 33 yX0_hasGate, Cond.instanceMethod yX0_hasGate]
def wsX3_dares_r3 : List Cond := [Cond.selects RX0 yX0_hasGate yX0_hasGate, Cond.code yX0_hasGate cX0_hasGate 2 (some .boolean), Cond.methodLink RX0 46 yX1_hissThere, Cond.instanceMethod yX1_hissThere, Cond.selects RX1 yX1_hissThere yX1_hissThere, Cond.initialized RX1, Cond.code yX1_hissThere cX1_hissThere 5 (some .int), Cond.fieldLink RX1 24 "GooseCodex$Flock" "count" "I", Cond.fieldLink RX1 15 "GooseCodex$Flock" "temper" "[I", Cond.methodLink RX1 28 yX1_isAwakeThere, Cond.instanceMethod yX1_isAwakeThere, Cond.selects RX1 yX1_isAwakeThere yX1_isAwakeThere, Cond.code yX1_isAwakeThere cX1_isAwakeThere 3 (some .boolean), Cond.fieldLink RX1 9 "GooseCodex$Flock" "gate" "[I", Cond.fieldLink RX1 18 "GooseCodex$Flock" "calm" "[I"]
def wsX3_dares : List Cond := .code yX3_dares cX3_dares 2 (some .boolean) :: ((wsX3_dares_r1 ++ (wsX3_dares_r2 ++ wsX3_dares_r3)) ++ wsX30 ++ wsX00 ++ wsX20 ++ wsX10 ++ (vx_atS RX3 266 "java/lang/IndexOutOfBoundsException" ["java/lang/RuntimeException", "java/lang/Exception"]).filter goodWord)
def wsX3_meanTemper : List Cond := .code yX3_meanTemper cX3_meanTemper 2 (some .double) :: ([.fieldLink RX3 10 "GooseCodex" "now" "LGooseCodex$Farm;", .fieldLink RX3 57 "GooseCodex$Farm" "flock" "LGooseCodex$Flock;", .fieldLink RX3 61 "GooseCodex$Flock" "count" "I", .methodLink RX3 169 yX1_sumOfTempers, .instanceMethod yX1_sumOfTempers, .selects RX1 yX1_sumOfTempers yX1_sumOfTempers, .initialized RX1, .code yX1_sumOfTempers cX1_sumOfTempers 3 (some .int), .fieldLink RX1 24 "GooseCodex$Flock" "count" "I", .fieldLink RX1 15 "GooseCodex$Flock" "temper" "[I"] ++ wsX30 ++ wsX00 ++ wsX10)
def wsX4_init : List Cond := .code yX4_init cX4_init 1 none :: ([.methodLink RX4 1 objectInit, .instanceMethod objectInit, .code objectInit ⟨#[0xb1]⟩ 1 none, .arrayClass .int, .fieldLink RX4 7 "GooseCodexLaw$Sim" "ranks" "[I", .classLink RX4 13 "[I", .fieldLink RX4 14 "GooseCodexLaw$Sim" "geese" "[[I", .fieldLink RX4 18 "GooseCodexLaw$Sim" "visitors" "[[I"] ++ wsX40)
def wsX4_with : List Cond := .code yX4_with cX4_with 4 (some (.array (.array .int))) :: ([.classLink RX4 13 "[I"])
def wsX4_addGate : List Cond := .code yX4_addGate cX4_addGate 4 none :: ([.fieldLink RX4 7 "GooseCodexLaw$Sim" "ranks" "[I", .arrayClass .int] ++ wsX40)
def wsX4_hiss : List Cond := .code yX4_hiss cX4_hiss 8 (some .int) :: ([.fieldLink RX4 14 "GooseCodexLaw$Sim" "geese" "[[I", .fieldLink RX4 7 "GooseCodexLaw$Sim" "ranks" "[I"] ++ wsX40)
def wsX4_isIn : List Cond := .code yX4_isIn cX4_isIn 2 (some .boolean) :: ([.fieldLink RX4 7 "GooseCodexLaw$Sim" "ranks" "[I"] ++ wsX40)
def wsX4_hissAt : List Cond := .code yX4_hissAt cX4_hissAt 2 (some .int) :: ([.methodLink RX4 21 yX4_isIn, .instanceMethod yX4_isIn, .selects RX4 yX4_isIn yX4_isIn, .initialized RX4, .code yX4_isIn cX4_isIn 2 (some .boolean), .fieldLink RX4 7 "GooseCodexLaw$Sim" "ranks" "[I", .methodLink RX4 25 yX4_hiss, .instanceMethod yX4_hiss, .selects RX4 yX4_hiss yX4_hiss, .code yX4_hiss cX4_hiss 8 (some .int), .fieldLink RX4 14 "GooseCodexLaw$Sim" "geese" "[[I"] ++ wsX40)
def wsX4_grade : List Cond := .code yX4_grade cX4_grade 7 (some .int) :: ([.arrayClass .int])
def wsX4_feed : List Cond := .code yX4_feed cX4_feed 3 none :: ([.fieldLink RX4 29 "GooseCodexLaw$Sim" "bribes" "I"] ++ wsX40)
def wsX4_pass_r1 : List Cond := [Cond.fieldLink RX4 14 "GooseCodexLaw$Sim" "geese" "[[I", Cond.fieldLink RX4 18 "GooseCodexLaw$Sim" "visitors" "[[I", Cond.fieldLink RX4 45 "GooseCodexLaw$Sim" "retreats" "I", Cond.fieldLink RX4 48 "GooseCodexLaw$Sim" "beat" "I", Cond.methodLink RX4 21 yX4_isIn, Cond.instanceMethod yX4_isIn, Cond.selects RX4 yX4_isIn yX4_isIn, Cond.initialized RX4, Cond.code yX4_isIn cX4_isIn 2 (some .boolean), Cond.fieldLink RX4 7 "GooseCodexLaw$Sim" "ranks" "[I", Cond.methodLink RX4 33 yX4_hissAt, Cond.instanceMethod yX4_hissAt, Cond.selects RX4 yX4_hissAt yX4_hissAt, Cond.code yX4_hissAt cX4_hissAt 2 (some .int), Cond.methodLink RX4 25 yX4_hiss, Cond.instanceMethod yX4_hiss, Cond.selects RX4 yX4_hiss yX4_hiss, Cond.code yX4_hiss cX4_hiss 8 (some .int), Cond.methodLink RX4 37 yX4_feed, Cond.instanceMethod yX4_feed, Cond.selects RX4 yX4_feed yX4_feed, Cond.code yX4_feed cX4_feed 3 none, Cond.fieldLink RX4 29 "GooseCodexLaw$Sim" "bribes" "I", Cond.methodLink RX4 41 yX4_grade]
def wsX4_pass_r2 : List Cond := [Cond.static yX4_grade, Cond.code yX4_grade cX4_grade 7 (some .int), Cond.arrayClass .int]
def wsX4_pass : List Cond := .code yX4_pass cX4_pass 11 none :: ((wsX4_pass_r1 ++ wsX4_pass_r2) ++ wsX40)
def wsX4_inFarm : List Cond := .code yX4_inFarm cX4_inFarm 6 (some .int) :: ([.fieldLink RX4 18 "GooseCodexLaw$Sim" "visitors" "[[I", .methodLink RX4 21 yX4_isIn, .instanceMethod yX4_isIn, .selects RX4 yX4_isIn yX4_isIn, .initialized RX4, .code yX4_isIn cX4_isIn 2 (some .boolean), .fieldLink RX4 7 "GooseCodexLaw$Sim" "ranks" "[I"] ++ wsX40)
def wsX4_behind_r1 : List Cond := [Cond.methodLink RX4 51 yX4_inFarm, Cond.instanceMethod yX4_inFarm, Cond.selects RX4 yX4_inFarm yX4_inFarm, Cond.initialized RX4, Cond.code yX4_inFarm cX4_inFarm 6 (some .int), Cond.fieldLink RX4 18 "GooseCodexLaw$Sim" "visitors" "[[I", Cond.methodLink RX4 21 yX4_isIn, Cond.instanceMethod yX4_isIn, Cond.selects RX4 yX4_isIn yX4_isIn, Cond.code yX4_isIn cX4_isIn 2 (some .boolean), Cond.fieldLink RX4 7 "GooseCodexLaw$Sim" "ranks" "[I", Cond.methodLink RX4 55 yX4_pass, Cond.instanceMethod yX4_pass, Cond.selects RX4 yX4_pass yX4_pass, Cond.code yX4_pass cX4_pass 11 none, Cond.fieldLink RX4 14 "GooseCodexLaw$Sim" "geese" "[[I", Cond.fieldLink RX4 45 "GooseCodexLaw$Sim" "retreats" "I", Cond.fieldLink RX4 48 "GooseCodexLaw$Sim" "beat" "I", Cond.methodLink RX4 33 yX4_hissAt, Cond.instanceMethod yX4_hissAt, Cond.selects RX4 yX4_hissAt yX4_hissAt, Cond.code yX4_hissAt cX4_hissAt 2 (some .int), Cond.methodLink RX4 25 yX4_hiss, Cond.instanceMethod yX4_hiss]
def wsX4_behind_r2 : List Cond := [Cond.selects RX4 yX4_hiss yX4_hiss, Cond.code yX4_hiss cX4_hiss 8 (some .int), Cond.methodLink RX4 37 yX4_feed, Cond.instanceMethod yX4_feed, Cond.selects RX4 yX4_feed yX4_feed, Cond.code yX4_feed cX4_feed 3 none, Cond.fieldLink RX4 29 "GooseCodexLaw$Sim" "bribes" "I", Cond.methodLink RX4 41 yX4_grade, Cond.static yX4_grade, Cond.code yX4_grade cX4_grade 7 (some .int), Cond.arrayClass .int]
def wsX4_behind : List Cond := .code yX4_behind cX4_behind 4 (some .int) :: ((wsX4_behind_r1 ++ wsX4_behind_r2) ++ wsX40)
def wsX4_isSame_r1 : List Cond := [Cond.fieldLink RX4 7 "GooseCodexLaw$Sim" "ranks" "[I", Cond.fieldLink RX4 48 "GooseCodexLaw$Sim" "beat" "I", Cond.fieldLink RX4 14 "GooseCodexLaw$Sim" "geese" "[[I", Cond.fieldLink RX4 18 "GooseCodexLaw$Sim" "visitors" "[[I", Cond.fieldLink RX4 29 "GooseCodexLaw$Sim" "bribes" "I", Cond.fieldLink RX4 45 "GooseCodexLaw$Sim" "retreats" "I", Cond.methodLink RX4 67 yX3_beats, Cond.instanceMethod yX3_beats, Cond.selects RX3 yX3_beats yX3_beats, Cond.initialized RX3, Cond.code yX3_beats cX3_beats 1 (some .int), Cond.fieldLink RX3 10 "GooseCodex" "now" "LGooseCodex$Farm;", Cond.fieldLink RX3 123 "GooseCodex$Farm" "beat" "I", Cond.methodLink RX4 72 yX3_gates, Cond.instanceMethod yX3_gates, Cond.selects RX3 yX3_gates yX3_gates, Cond.code yX3_gates cX3_gates 1 (some .int), Cond.fieldLink RX3 27 "GooseCodex$Farm" "gateCount" "I", Cond.methodLink RX4 75 yX3_geese, Cond.instanceMethod yX3_geese, Cond.selects RX3 yX3_geese yX3_geese, Cond.code yX3_geese cX3_geese 1 (some .int), Cond.fieldLink RX3 57 "GooseCodex$Farm" "flock" "LGooseCodex$Flock;", Cond.fieldLink RX3 61 "GooseCodex$Flock" "count" "I"]
def wsX4_isSame_r2 : List Cond := [Cond.methodLink RX4 77 yX3_visitors, Cond.instanceMethod yX3_visitors, Cond.selects RX3 yX3_visitors yX3_visitors, Cond.code yX3_visitors cX3_visitors 1 (some .int), Cond.fieldLink RX3 31 "GooseCodex$Farm" "guests" "LGooseCodex$Guests;", Cond.fieldLink RX3 35 "GooseCodex$Guests" "count" "I", Cond.methodLink RX4 79 yX3_inFarm, Cond.instanceMethod yX3_inFarm, Cond.selects RX3 yX3_inFarm yX3_inFarm, Cond.code yX3_inFarm cX3_inFarm 1 (some .int), Cond.methodLink RX3 116 yX0_countInside, Cond.instanceMethod yX0_countInside, Cond.selects RX0 yX0_countInside yX0_countInside, Cond.initialized RX0, Cond.code yX0_countInside cX0_countInside 3 (some .int), Cond.fieldLink RX0 25 "GooseCodex$Farm" "guests" "LGooseCodex$Guests;", Cond.fieldLink RX0 58 "GooseCodex$Guests" "count" "I", Cond.methodLink RX0 61 yX0_isBehindAll, Cond.instanceMethod yX0_isBehindAll, Cond.selects RX0 yX0_isBehindAll yX0_isBehindAll, Cond.code yX0_isBehindAll cX0_isBehindAll 2 (some .boolean), Cond.fieldLink RX0 49 "GooseCodex$Guests" "passed" "[I", Cond.fieldLink RX0 29 "GooseCodex$Farm" "gateCount" "I", Cond.methodLink RX4 51 yX4_inFarm]
def wsX4_isSame_r3 : List Cond := [Cond.instanceMethod yX4_inFarm, Cond.selects RX4 yX4_inFarm yX4_inFarm, Cond.initialized RX4, Cond.code yX4_inFarm cX4_inFarm 6 (some .int), Cond.methodLink RX4 21 yX4_isIn, Cond.instanceMethod yX4_isIn, Cond.selects RX4 yX4_isIn yX4_isIn, Cond.code yX4_isIn cX4_isIn 2 (some .boolean), Cond.methodLink RX4 80 yX3_bribes, Cond.instanceMethod yX3_bribes, Cond.selects RX3 yX3_bribes yX3_bribes, Cond.code yX3_bribes cX3_bribes 1 (some .int), Cond.fieldLink RX3 126 "GooseCodex$Farm" "bribeCount" "I", Cond.methodLink RX4 82 yX3_retreats, Cond.instanceMethod yX3_retreats, Cond.selects RX3 yX3_retreats yX3_retreats, Cond.code yX3_retreats cX3_retreats 1 (some .int), Cond.fieldLink RX3 129 "GooseCodex$Farm" "retreatCount" "I", Cond.methodLink RX4 25 yX4_hiss, Cond.instanceMethod yX4_hiss, Cond.selects RX4 yX4_hiss yX4_hiss, Cond.code yX4_hiss cX4_hiss 8 (some .int), Cond.methodLink RX4 84 yX3_rankOf, Cond.instanceMethod yX3_rankOf]
def wsX4_isSame_r4 : List Cond := [Cond.selects RX3 yX3_rankOf yX3_rankOf, Cond.code yX3_rankOf cX3_rankOf 2 (some .int), Cond.fieldLink RX3 75 "GooseCodex$Farm" "ranks" "[I", Cond.methodLink RX3 47 yX0_hasGate, Cond.instanceMethod yX0_hasGate, Cond.selects RX0 yX0_hasGate yX0_hasGate, Cond.code yX0_hasGate cX0_hasGate 2 (some .boolean), Cond.methodLink RX3 50 yX3_demandIndex, Cond.static yX3_demandIndex, Cond.code yX3_demandIndex cX3_demandIndex 1 none, Cond.classLink RX3 262 "java/lang/IndexOutOfBoundsException", Cond.initialized "java/lang/IndexOutOfBoundsException", Cond.methodLink RX4 87 yX3_awakeAt, Cond.instanceMethod yX3_awakeAt, Cond.selects RX3 yX3_awakeAt yX3_awakeAt, Cond.code yX3_awakeAt cX3_awakeAt 2 (some .int), Cond.methodLink RX3 132 yX1_countAwake, Cond.instanceMethod yX1_countAwake, Cond.selects RX1 yX1_countAwake yX1_countAwake, Cond.initialized RX1, Cond.code yX1_countAwake cX1_countAwake 4 (some .int), Cond.fieldLink RX1 24 "GooseCodex$Flock" "count" "I", Cond.methodLink RX1 28 yX1_isAwakeThere, Cond.instanceMethod yX1_isAwakeThere]
def wsX4_isSame_r5 : List Cond := [Cond.selects RX1 yX1_isAwakeThere yX1_isAwakeThere, Cond.code yX1_isAwakeThere cX1_isAwakeThere 3 (some .boolean), Cond.fieldLink RX1 9 "GooseCodex$Flock" "gate" "[I", Cond.fieldLink RX1 18 "GooseCodex$Flock" "calm" "[I", Cond.methodLink RX4 90 yX3_hissOf, Cond.instanceMethod yX3_hissOf, Cond.selects RX3 yX3_hissOf yX3_hissOf, Cond.code yX3_hissOf cX3_hissOf 3 (some .int), Cond.methodLink RX3 19 yX3_isRank, Cond.static yX3_isRank, Cond.code yX3_isRank cX3_isRank 1 (some .boolean), Cond.methodLink RX3 53 yX3_isWithin, Cond.static yX3_isWithin, Cond.code yX3_isWithin cX3_isWithin 3 (some .boolean), Cond.methodLink RX3 23 yX3_demandArgument, Cond.static yX3_demandArgument, Cond.code yX3_demandArgument cX3_demandArgument 1 none, Cond.classLink RX3 269 "java/lang/IllegalArgumentException", Cond.initialized "java/lang/IllegalArgumentException", Cond.methodLink RX3 135 yX0_gateHiss, Cond.instanceMethod yX0_gateHiss, Cond.selects RX0 yX0_gateHiss yX0_gateHiss, Cond.code yX0_gateHiss cX0_gateHiss 3 (some .int), Cond.fieldLink RX0 18 "GooseCodex$Farm" "flock" "LGooseCodex$Flock;"]
def wsX4_isSame_r6 : List Cond := [Cond.methodLink RX0 43 yX0_rankLack, Cond.instanceMethod yX0_rankLack, Cond.selects RX0 yX0_rankLack yX0_rankLack, Cond.code yX0_rankLack cX0_rankLack 3 (some .int), Cond.fieldLink RX0 9 "GooseCodex$Farm" "ranks" "[I", Cond.methodLink RX0 37 Lib.Math.max.name, Cond.static Lib.Math.max.name, Cond.initialized "java/lang/Math", Cond.code Lib.Math.max.name Lib.Math.max.code 2 (some .int), Cond.methodLink RX0 33 yX0_hasGate, Cond.methodLink RX0 46 yX1_hissThere, Cond.instanceMethod yX1_hissThere, Cond.selects RX1 yX1_hissThere yX1_hissThere, Cond.code yX1_hissThere cX1_hissThere 5 (some .int), Cond.fieldLink RX1 15 "GooseCodex$Flock" "temper" "[I", Cond.methodLink RX4 93 yX3_gateOf, Cond.instanceMethod yX3_gateOf, Cond.selects RX3 yX3_gateOf yX3_gateOf, Cond.code yX3_gateOf cX3_gateOf 2 (some .int), Cond.fieldLink RX3 82 "GooseCodex$Flock" "gate" "[I", Cond.methodLink RX3 97 yX3_demandGoose, Cond.instanceMethod yX3_demandGoose, Cond.selects RX3 yX3_demandGoose yX3_demandGoose, Cond.code yX3_demandGoose cX3_demandGoose 2 none]
def wsX4_isSame_r7 : List Cond := [Cond.methodLink RX3 79 yX1_hasGoose, Cond.instanceMethod yX1_hasGoose, Cond.selects RX1 yX1_hasGoose yX1_hasGoose, Cond.code yX1_hasGoose cX1_hasGoose 2 (some .boolean), Cond.methodLink RX4 96 yX3_temperOf, Cond.instanceMethod yX3_temperOf, Cond.selects RX3 yX3_temperOf yX3_temperOf, Cond.code yX3_temperOf cX3_temperOf 2 (some .int), Cond.fieldLink RX3 110 "GooseCodex$Flock" "temper" "[I", Cond.methodLink RX4 99 yX3_calmFor, Cond.instanceMethod yX3_calmFor, Cond.selects RX3 yX3_calmFor yX3_calmFor, Cond.code yX3_calmFor cX3_calmFor 2 (some .int), Cond.fieldLink RX3 138 "GooseCodex$Flock" "calm" "[I", Cond.methodLink RX4 102 yX3_eatenBy, Cond.instanceMethod yX3_eatenBy, Cond.selects RX3 yX3_eatenBy yX3_eatenBy, Cond.code yX3_eatenBy cX3_eatenBy 2 (some .int), Cond.fieldLink RX3 141 "GooseCodex$Flock" "eaten" "[I", Cond.methodLink RX4 33 yX4_hissAt, Cond.instanceMethod yX4_hissAt, Cond.selects RX4 yX4_hissAt yX4_hissAt, Cond.code yX4_hissAt cX4_hissAt 2 (some .int), Cond.methodLink RX4 105 yX3_passedBy]
def wsX4_isSame_r8 : List Cond := [Cond.instanceMethod yX3_passedBy, Cond.selects RX3 yX3_passedBy yX3_passedBy, Cond.code yX3_passedBy cX3_passedBy 2 (some .int), Cond.fieldLink RX3 103 "GooseCodex$Guests" "passed" "[I", Cond.methodLink RX3 85 yX3_demandVisitor, Cond.instanceMethod yX3_demandVisitor, Cond.selects RX3 yX3_demandVisitor yX3_demandVisitor, Cond.code yX3_demandVisitor cX3_demandVisitor 2 none, Cond.methodLink RX3 259 yX2_hasGuest, Cond.instanceMethod yX2_hasGuest, Cond.selects RX2 yX2_hasGuest yX2_hasGuest, Cond.initialized RX2, Cond.code yX2_hasGuest cX2_hasGuest 2 (some .boolean), Cond.fieldLink RX2 27 "GooseCodex$Guests" "count" "I", Cond.methodLink RX4 108 yX3_isInFarm, Cond.instanceMethod yX3_isInFarm, Cond.selects RX3 yX3_isInFarm yX3_isInFarm, Cond.code yX3_isInFarm cX3_isInFarm 2 (some .boolean), Cond.methodLink RX3 100 yX0_isBehindAll, Cond.methodLink RX4 112 yX3_cornsOf, Cond.instanceMethod yX3_cornsOf, Cond.selects RX3 yX3_cornsOf yX3_cornsOf, Cond.code yX3_cornsOf cX3_cornsOf 2 (some .int), Cond.fieldLink RX3 89 "GooseCodex$Guests" "corns" "[I"]
def wsX4_isSame_r9 : List Cond := [Cond.methodLink RX4 115 yX3_nerveOf, Cond.instanceMethod yX3_nerveOf, Cond.selects RX3 yX3_nerveOf yX3_nerveOf, Cond.code yX3_nerveOf cX3_nerveOf 2 (some .int), Cond.fieldLink RX3 144 "GooseCodex$Guests" "nerve" "[I", Cond.methodLink RX4 118 yX3_retreatOf, Cond.instanceMethod yX3_retreatOf, Cond.selects RX3 yX3_retreatOf yX3_retreatOf, Cond.code yX3_retreatOf cX3_retreatOf 2 (some .int), Cond.fieldLink RX3 147 "GooseCodex$Guests" "retreat" "[I", Cond.methodLink RX4 121 yX3_hissAt, Cond.instanceMethod yX3_hissAt, Cond.selects RX3 yX3_hissAt yX3_hissAt, Cond.code yX3_hissAt cX3_hissAt 2 (some .int), Cond.methodLink RX3 150 yX0_guestHiss, Cond.instanceMethod yX0_guestHiss, Cond.selects RX0 yX0_guestHiss yX0_guestHiss, Cond.code yX0_guestHiss cX0_guestHiss 2 (some .int), Cond.fieldLink RX0 52 "GooseCodex$Guests" "rank" "[I", Cond.methodLink RX0 55 yX0_gateHiss, Cond.methodLink RX4 123 yX3_gradeFor, Cond.instanceMethod yX3_gradeFor, Cond.selects RX3 yX3_gradeFor yX3_gradeFor, Cond.code yX3_gradeFor cX3_gradeFor 2 (some .int)]
def wsX4_isSame_r10 : List Cond := [Cond.methodLink RX3 153 yX3_gradeOfHiss, Cond.static yX3_gradeOfHiss, Cond.code yX3_gradeOfHiss cX3_gradeOfHiss 1 (some .int), Cond.methodLink RX4 41 yX4_grade, Cond.static yX4_grade, Cond.code yX4_grade cX4_grade 7 (some .int), Cond.arrayClass .int, Cond.methodLink RX4 126 yX3_dares, Cond.instanceMethod yX3_dares, Cond.selects RX3 yX3_dares yX3_dares, Cond.code yX3_dares cX3_dares 2 (some .boolean), Cond.methodLink RX4 129 yX3_loudestGate, Cond.instanceMethod yX3_loudestGate, Cond.selects RX3 yX3_loudestGate yX3_loudestGate, Cond.code yX3_loudestGate cX3_loudestGate 5 (some .int), Cond.methodLink RX4 132 yX3_meanTemper, Cond.instanceMethod yX3_meanTemper, Cond.selects RX3 yX3_meanTemper yX3_meanTemper, Cond.code yX3_meanTemper cX3_meanTemper 2 (some .double), Cond.methodLink RX3 169 yX1_sumOfTempers, Cond.instanceMethod yX1_sumOfTempers, Cond.selects RX1 yX1_sumOfTempers yX1_sumOfTempers, Cond.code yX1_sumOfTempers cX1_sumOfTempers 3 (some .int)]
def wsX4_isSame : List Cond := .code yX4_isSame cX4_isSame 10 (some .boolean) :: ((wsX4_isSame_r1 ++ (wsX4_isSame_r2 ++ (wsX4_isSame_r3 ++ (wsX4_isSame_r4 ++ (wsX4_isSame_r5 ++ (wsX4_isSame_r6 ++ (wsX4_isSame_r7 ++ (wsX4_isSame_r8 ++ (wsX4_isSame_r9 ++ wsX4_isSame_r10))))))))) ++ wsX40 ++ wsX30 ++ wsX00 ++ wsX10 ++ wsX20 ++ (vx_atS RX3 266 "java/lang/IndexOutOfBoundsException" ["java/lang/RuntimeException", "java/lang/Exception"]).filter goodWord ++ (vx_atS RX3 273 "java/lang/IllegalArgumentException" ["java/lang/RuntimeException", "java/lang/Exception"]).filter goodWord)
def wsJ9_max_7cf53 : List Cond := .code yJ9_max_7cf53 cJ9_max_7cf53 2 (some .int) :: ([])
def wsJ9_min_7cf53 : List Cond := .code yJ9_min_7cf53 cJ9_min_7cf53 2 (some .int) :: ([])
def wsL_below : List Cond := .code yL_below cL_below 2 (some .int) :: ([.constant RL 7 (2147483647)])
def wsL_cell : List Cond := .code yL_cell cL_cell 2 (some .int) :: ([.constant RL 8 (790386105)])
def wsL_act_r1 : List Cond := [Cond.fieldLink RL 9 "GooseCodexLaw$Sim" "ranks" "[I", Cond.fieldLink RL 15 "GooseCodexLaw$Sim" "geese" "[[I", Cond.fieldLink RL 19 "GooseCodexLaw$Sim" "visitors" "[[I", Cond.arrayClass .int, Cond.methodLink RL 54 Lib.Math.min.name, Cond.static Lib.Math.min.name, Cond.initialized "java/lang/Math", Cond.code Lib.Math.min.name Lib.Math.min.code 2 (some .int), Cond.methodLink RL 22 yL_below, Cond.static yL_below, Cond.initialized RL, Cond.code yL_below cL_below 2 (some .int), Cond.constant RL 7 (2147483647), Cond.methodLink RL 28 yX4_addGate, Cond.instanceMethod yX4_addGate, Cond.selects RX4 yX4_addGate yX4_addGate, Cond.initialized RX4, Cond.code yX4_addGate cX4_addGate 4 none, Cond.fieldLink RX4 7 "GooseCodexLaw$Sim" "ranks" "[I", Cond.methodLink RL 32 yX3_addGate, Cond.instanceMethod yX3_addGate, Cond.selects RX3 yX3_addGate yX3_addGate, Cond.initialized RX3, Cond.code yX3_addGate cX3_addGate 2 (some .int)]
def wsL_act_r2 : List Cond := [Cond.fieldLink RX3 10 "GooseCodex" "now" "LGooseCodex$Farm;", Cond.fieldLink RX3 27 "GooseCodex$Farm" "gateCount" "I", Cond.fieldLink RX3 31 "GooseCodex$Farm" "guests" "LGooseCodex$Guests;", Cond.fieldLink RX3 35 "GooseCodex$Guests" "count" "I", Cond.methodLink RX3 19 yX3_isRank, Cond.static yX3_isRank, Cond.code yX3_isRank cX3_isRank 1 (some .boolean), Cond.methodLink RX3 53 yX3_isWithin, Cond.static yX3_isWithin, Cond.code yX3_isWithin cX3_isWithin 3 (some .boolean), Cond.methodLink RX3 23 yX3_demandArgument, Cond.static yX3_demandArgument, Cond.code yX3_demandArgument cX3_demandArgument 1 none, Cond.classLink RX3 269 "java/lang/IllegalArgumentException", Cond.initialized "java/lang/IllegalArgumentException", Cond.methodLink RX3 40 yX3_demandState, Cond.static yX3_demandState, Cond.code yX3_demandState cX3_demandState 1 none, Cond.classLink RX3 274 "java/lang/IllegalStateException", Cond.initialized "java/lang/IllegalStateException", Cond.methodLink RX3 43 yX0_putGate, Cond.instanceMethod yX0_putGate, Cond.selects RX0 yX0_putGate yX0_putGate, Cond.initialized RX0]
def wsL_act_r3 : List Cond := [Cond.code yX0_putGate cX0_putGate 3 (some .int), Cond.fieldLink RX0 29 "GooseCodex$Farm" "gateCount" "I", Cond.fieldLink RX0 9 "GooseCodex$Farm" "ranks" "[I", Cond.methodLink RL 37 yX4_with, Cond.static yX4_with, Cond.code yX4_with cX4_with 4 (some (.array (.array .int))), Cond.classLink RX4 13 "[I", Cond.methodLink RL 41 yX3_addGoose, Cond.instanceMethod yX3_addGoose, Cond.selects RX3 yX3_addGoose yX3_addGoose, Cond.code yX3_addGoose cX3_addGoose 3 (some .int), Cond.fieldLink RX3 57 "GooseCodex$Farm" "flock" "LGooseCodex$Flock;", Cond.fieldLink RX3 61 "GooseCodex$Flock" "count" "I", Cond.methodLink RX3 47 yX0_hasGate, Cond.instanceMethod yX0_hasGate, Cond.selects RX0 yX0_hasGate yX0_hasGate, Cond.code yX0_hasGate cX0_hasGate 2 (some .boolean), Cond.methodLink RX3 50 yX3_demandIndex, Cond.static yX3_demandIndex, Cond.code yX3_demandIndex cX3_demandIndex 1 none, Cond.classLink RX3 262 "java/lang/IndexOutOfBoundsException", Cond.initialized "java/lang/IndexOutOfBoundsException", Cond.methodLink RX3 64 yX1_putGoose, Cond.instanceMethod yX1_putGoose]
def wsL_act_r4 : List Cond := [Cond.selects RX1 yX1_putGoose yX1_putGoose, Cond.initialized RX1, Cond.code yX1_putGoose cX1_putGoose 4 (some .int), Cond.fieldLink RX1 24 "GooseCodex$Flock" "count" "I", Cond.fieldLink RX1 9 "GooseCodex$Flock" "gate" "[I", Cond.fieldLink RX1 15 "GooseCodex$Flock" "temper" "[I", Cond.methodLink RL 44 yX3_arrive, Cond.instanceMethod yX3_arrive, Cond.selects RX3 yX3_arrive yX3_arrive, Cond.code yX3_arrive cX3_arrive 4 (some .int), Cond.methodLink RX3 68 yX3_isNerve, Cond.static yX3_isNerve, Cond.code yX3_isNerve cX3_isNerve 1 (some .boolean), Cond.methodLink RX3 71 yX2_putGuest, Cond.instanceMethod yX2_putGuest, Cond.selects RX2 yX2_putGuest yX2_putGuest, Cond.initialized RX2, Cond.code yX2_putGuest cX2_putGuest 5 (some .int), Cond.fieldLink RX2 27 "GooseCodex$Guests" "count" "I", Cond.fieldLink RX2 9 "GooseCodex$Guests" "rank" "[I", Cond.fieldLink RX2 15 "GooseCodex$Guests" "nerve" "[I", Cond.fieldLink RX2 18 "GooseCodex$Guests" "corns" "[I", Cond.methodLink RL 48 yX3_setRank, Cond.instanceMethod yX3_setRank]
def wsL_act_r5 : List Cond := [Cond.selects RX3 yX3_setRank yX3_setRank, Cond.code yX3_setRank cX3_setRank 4 (some .int), Cond.fieldLink RX3 75 "GooseCodex$Farm" "ranks" "[I", Cond.methodLink RL 51 yX3_lead, Cond.instanceMethod yX3_lead, Cond.selects RX3 yX3_lead yX3_lead, Cond.code yX3_lead cX3_lead 4 (some .int), Cond.fieldLink RX3 82 "GooseCodex$Flock" "gate" "[I", Cond.methodLink RX3 79 yX1_hasGoose, Cond.instanceMethod yX1_hasGoose, Cond.selects RX1 yX1_hasGoose yX1_hasGoose, Cond.code yX1_hasGoose cX1_hasGoose 2 (some .boolean), Cond.methodLink RL 59 yX3_giveCorns, Cond.instanceMethod yX3_giveCorns, Cond.selects RX3 yX3_giveCorns yX3_giveCorns, Cond.code yX3_giveCorns cX3_giveCorns 4 (some .int), Cond.fieldLink RX3 89 "GooseCodex$Guests" "corns" "[I", Cond.methodLink RX3 92 Lib.Math.min.name, Cond.methodLink RX3 85 yX3_demandVisitor, Cond.instanceMethod yX3_demandVisitor, Cond.selects RX3 yX3_demandVisitor yX3_demandVisitor, Cond.code yX3_demandVisitor cX3_demandVisitor 2 none, Cond.methodLink RX3 259 yX2_hasGuest, Cond.instanceMethod yX2_hasGuest]
def wsL_act_r6 : List Cond := [Cond.selects RX2 yX2_hasGuest yX2_hasGuest, Cond.code yX2_hasGuest cX2_hasGuest 2 (some .boolean), Cond.methodLink RL 62 yX4_isIn, Cond.instanceMethod yX4_isIn, Cond.selects RX4 yX4_isIn yX4_isIn, Cond.code yX4_isIn cX4_isIn 2 (some .boolean), Cond.methodLink RL 66 yX4_feed, Cond.instanceMethod yX4_feed, Cond.selects RX4 yX4_feed yX4_feed, Cond.code yX4_feed cX4_feed 3 none, Cond.fieldLink RX4 29 "GooseCodexLaw$Sim" "bribes" "I", Cond.methodLink RL 70 yX3_bribe, Cond.instanceMethod yX3_bribe, Cond.selects RX3 yX3_bribe yX3_bribe, Cond.code yX3_bribe cX3_bribe 3 (some .int), Cond.fieldLink RX3 103 "GooseCodex$Guests" "passed" "[I", Cond.fieldLink RX3 110 "GooseCodex$Flock" "temper" "[I", Cond.methodLink RX3 97 yX3_demandGoose, Cond.instanceMethod yX3_demandGoose, Cond.selects RX3 yX3_demandGoose yX3_demandGoose, Cond.code yX3_demandGoose cX3_demandGoose 2 none, Cond.methodLink RX3 100 yX0_isBehindAll, Cond.instanceMethod yX0_isBehindAll, Cond.selects RX0 yX0_isBehindAll yX0_isBehindAll]
def wsL_act_r7 : List Cond := [Cond.code yX0_isBehindAll cX0_isBehindAll 2 (some .boolean), Cond.fieldLink RX0 25 "GooseCodex$Farm" "guests" "LGooseCodex$Guests;", Cond.fieldLink RX0 49 "GooseCodex$Guests" "passed" "[I", Cond.methodLink RX3 106 yX0_payGoose, Cond.instanceMethod yX0_payGoose, Cond.selects RX0 yX0_payGoose yX0_payGoose, Cond.code yX0_payGoose cX0_payGoose 3 none, Cond.fieldLink RX0 64 "GooseCodex$Guests" "corns" "[I", Cond.fieldLink RX0 18 "GooseCodex$Farm" "flock" "LGooseCodex$Flock;", Cond.fieldLink RX0 71 "GooseCodex$Farm" "bribeCount" "I", Cond.methodLink RX0 67 yX1_feed, Cond.instanceMethod yX1_feed, Cond.selects RX1 yX1_feed yX1_feed, Cond.code yX1_feed cX1_feed 2 none, Cond.fieldLink RX1 21 "GooseCodex$Flock" "eaten" "[I", Cond.fieldLink RX1 18 "GooseCodex$Flock" "calm" "[I", Cond.methodLink RX1 32 Lib.Math.max.name, Cond.static Lib.Math.max.name, Cond.code Lib.Math.max.name Lib.Math.max.code 2 (some .int), Cond.methodLink RL 73 yX3_passBeats, Cond.instanceMethod yX3_passBeats, Cond.selects RX3 yX3_passBeats yX3_passBeats, Cond.code yX3_passBeats cX3_passBeats 3 (some .int), Cond.methodLink RX3 113 yX3_isBeats]
def wsL_act_r8 : List Cond := [Cond.static yX3_isBeats, Cond.code yX3_isBeats cX3_isBeats 1 (some .boolean), Cond.methodLink RX3 116 yX0_countInside, Cond.instanceMethod yX0_countInside, Cond.selects RX0 yX0_countInside yX0_countInside, Cond.code yX0_countInside cX0_countInside 3 (some .int), Cond.fieldLink RX0 58 "GooseCodex$Guests" "count" "I", Cond.methodLink RX0 61 yX0_isBehindAll, Cond.methodLink RX3 120 yX0_runBeats, Cond.instanceMethod yX0_runBeats, Cond.selects RX0 yX0_runBeats yX0_runBeats, Cond.code yX0_runBeats cX0_runBeats 3 none, Cond.methodLink RX0 89 yX0_runBeat, Cond.instanceMethod yX0_runBeat, Cond.selects RX0 yX0_runBeat yX0_runBeat, Cond.code yX0_runBeat cX0_runBeat 2 none, Cond.fieldLink RX0 98 "GooseCodex$Farm" "beat" "I", Cond.methodLink RX0 92 yX1_wakeByABeat, Cond.instanceMethod yX1_wakeByABeat, Cond.selects RX1 yX1_wakeByABeat yX1_wakeByABeat, Cond.code yX1_wakeByABeat cX1_wakeByABeat 2 none, Cond.methodLink RX0 95 yX0_moveGuest, Cond.instanceMethod yX0_moveGuest, Cond.selects RX0 yX0_moveGuest yX0_moveGuest]
def wsL_act_r9 : List Cond := [Cond.code yX0_moveGuest cX0_moveGuest 5 none, Cond.fieldLink RX0 101 "GooseCodex$Guests" "retreat" "[I", Cond.fieldLink RX0 52 "GooseCodex$Guests" "rank" "[I", Cond.fieldLink RX0 79 "GooseCodex$Guests" "nerve" "[I", Cond.fieldLink RX0 123 "GooseCodex$Farm" "retreatCount" "I", Cond.methodLink RX0 55 yX0_gateHiss, Cond.instanceMethod yX0_gateHiss, Cond.selects RX0 yX0_gateHiss yX0_gateHiss, Cond.code yX0_gateHiss cX0_gateHiss 3 (some .int), Cond.methodLink RX0 43 yX0_rankLack, Cond.instanceMethod yX0_rankLack, Cond.selects RX0 yX0_rankLack yX0_rankLack, Cond.code yX0_rankLack cX0_rankLack 3 (some .int), Cond.methodLink RX0 37 Lib.Math.max.name, Cond.methodLink RX0 33 yX0_hasGate, Cond.methodLink RX0 46 yX1_hissThere, Cond.instanceMethod yX1_hissThere, Cond.selects RX1 yX1_hissThere yX1_hissThere, Cond.code yX1_hissThere cX1_hissThere 5 (some .int), Cond.methodLink RX1 28 yX1_isAwakeThere, Cond.instanceMethod yX1_isAwakeThere, Cond.selects RX1 yX1_isAwakeThere yX1_isAwakeThere, Cond.code yX1_isAwakeThere cX1_isAwakeThere 3 (some .boolean), Cond.methodLink RX0 104 yX1_enrage]
def wsL_act_r10 : List Cond := [Cond.instanceMethod yX1_enrage, Cond.selects RX1 yX1_enrage yX1_enrage, Cond.code yX1_enrage cX1_enrage 3 none, Cond.methodLink RX1 38 Lib.Math.min.name, Cond.methodLink RX0 107 yX1_fiercestAwake, Cond.instanceMethod yX1_fiercestAwake, Cond.selects RX1 yX1_fiercestAwake yX1_fiercestAwake, Cond.code yX1_fiercestAwake cX1_fiercestAwake 5 (some .int), Cond.methodLink RX0 110 yX1_hasGoose, Cond.methodLink RX0 113 yX0_payGoose, Cond.static yX3_gradeOfHiss, Cond.code yX3_gradeOfHiss cX3_gradeOfHiss 1 (some .int), Cond.methodLink RX0 120 yX2_fallBack, Cond.instanceMethod yX2_fallBack, Cond.selects RX2 yX2_fallBack yX2_fallBack, Cond.code yX2_fallBack cX2_fallBack 3 none, Cond.fieldLink RX2 24 "GooseCodex$Guests" "retreat" "[I", Cond.methodLink RX2 31 Lib.Math.min.name, Cond.fieldLink RX2 21 "GooseCodex$Guests" "passed" "[I", Cond.methodLink RL 76 yX4_behind, Cond.instanceMethod yX4_behind, Cond.selects RX4 yX4_behind yX4_behind, Cond.code yX4_behind cX4_behind 4 (some .int), Cond.methodLink RX4 51 yX4_inFarm]
def wsL_act_r11 : List Cond := [Cond.instanceMethod yX4_inFarm, Cond.selects RX4 yX4_inFarm yX4_inFarm, Cond.code yX4_inFarm cX4_inFarm 6 (some .int), Cond.fieldLink RX4 18 "GooseCodexLaw$Sim" "visitors" "[[I", Cond.methodLink RX4 21 yX4_isIn, Cond.methodLink RX4 55 yX4_pass, Cond.instanceMethod yX4_pass, Cond.selects RX4 yX4_pass yX4_pass, Cond.code yX4_pass cX4_pass 11 none, Cond.fieldLink RX4 14 "GooseCodexLaw$Sim" "geese" "[[I", Cond.fieldLink RX4 45 "GooseCodexLaw$Sim" "retreats" "I", Cond.fieldLink RX4 48 "GooseCodexLaw$Sim" "beat" "I", Cond.methodLink RX4 33 yX4_hissAt, Cond.instanceMethod yX4_hissAt, Cond.selects RX4 yX4_hissAt yX4_hissAt, Cond.code yX4_hissAt cX4_hissAt 2 (some .int), Cond.methodLink RX4 25 yX4_hiss, Cond.instanceMethod yX4_hiss, Cond.selects RX4 yX4_hiss yX4_hiss, Cond.code yX4_hiss cX4_hiss 8 (some .int), Cond.methodLink RX4 37 yX4_feed, Cond.methodLink RX4 41 yX4_grade, Cond.static yX4_grade, Cond.code yX4_grade cX4_grade 7 (some .int)]
def wsL_act : List Cond := .code yL_act cL_act 15 (some .boolean) :: ((wsL_act_r1 ++ (wsL_act_r2 ++ (wsL_act_r3 ++ (wsL_act_r4 ++ (wsL_act_r5 ++ (wsL_act_r6 ++ (wsL_act_r7 ++ (wsL_act_r8 ++ (wsL_act_r9 ++ (wsL_act_r10 ++ wsL_act_r11)))))))))) ++ wsX40 ++ wsX30 ++ wsX00 ++ wsX20 ++ wsX10 ++ (vx_atS RX3 273 "java/lang/IllegalArgumentException" ["java/lang/RuntimeException", "java/lang/Exception"]).filter goodWord ++ (vx_atS RX3 278 "java/lang/IllegalStateException" ["java/lang/RuntimeException", "java/lang/Exception"]).filter goodWord ++ (vx_atS RX3 266 "java/lang/IndexOutOfBoundsException" ["java/lang/RuntimeException", "java/lang/Exception"]).filter goodWord)
def wsL_build_r1 : List Cond := [Cond.classLink RL 10 RX4, Cond.instantiable RX4 6, Cond.initialized RX4, Cond.fieldLink RL 9 "GooseCodexLaw$Sim" "ranks" "[I", Cond.instanceMethod yX4_init, Cond.code yX4_init cX4_init 1 none, Cond.methodLink RX4 1 objectInit, Cond.instanceMethod objectInit, Cond.code objectInit ⟨#[0xb1]⟩ 1 none, Cond.arrayClass .int, Cond.fieldLink RX4 7 "GooseCodexLaw$Sim" "ranks" "[I", Cond.classLink RX4 13 "[I", Cond.fieldLink RX4 14 "GooseCodexLaw$Sim" "geese" "[[I", Cond.fieldLink RX4 18 "GooseCodexLaw$Sim" "visitors" "[[I", Cond.methodLink RL 80 yL_cell, Cond.static yL_cell, Cond.initialized RL, Cond.code yL_cell cL_cell 2 (some .int), Cond.constant RL 8 (790386105), Cond.methodLink RL 22 yL_below, Cond.static yL_below, Cond.code yL_below cL_below 2 (some .int), Cond.constant RL 7 (2147483647), Cond.methodLink RL 28 yX4_addGate]
def wsL_build_r2 : List Cond := [Cond.instanceMethod yX4_addGate, Cond.selects RX4 yX4_addGate yX4_addGate, Cond.code yX4_addGate cX4_addGate 4 none, Cond.methodLink RL 32 yX3_addGate, Cond.instanceMethod yX3_addGate, Cond.selects RX3 yX3_addGate yX3_addGate, Cond.initialized RX3, Cond.code yX3_addGate cX3_addGate 2 (some .int), Cond.fieldLink RX3 10 "GooseCodex" "now" "LGooseCodex$Farm;", Cond.fieldLink RX3 27 "GooseCodex$Farm" "gateCount" "I", Cond.fieldLink RX3 31 "GooseCodex$Farm" "guests" "LGooseCodex$Guests;", Cond.fieldLink RX3 35 "GooseCodex$Guests" "count" "I", Cond.methodLink RX3 19 yX3_isRank, Cond.static yX3_isRank, Cond.code yX3_isRank cX3_isRank 1 (some .boolean), Cond.methodLink RX3 53 yX3_isWithin, Cond.static yX3_isWithin, Cond.code yX3_isWithin cX3_isWithin 3 (some .boolean), Cond.methodLink RX3 23 yX3_demandArgument, Cond.static yX3_demandArgument, Cond.code yX3_demandArgument cX3_demandArgument 1 none, Cond.classLink RX3 269 "java/lang/IllegalArgumentException", Cond.initialized "java/lang/IllegalArgumentException", Cond.methodLink RX3 40 yX3_demandState]
def wsL_build_r3 : List Cond := [Cond.static yX3_demandState, Cond.code yX3_demandState cX3_demandState 1 none, Cond.classLink RX3 274 "java/lang/IllegalStateException", Cond.initialized "java/lang/IllegalStateException", Cond.methodLink RX3 43 yX0_putGate, Cond.instanceMethod yX0_putGate, Cond.selects RX0 yX0_putGate yX0_putGate, Cond.initialized RX0, Cond.code yX0_putGate cX0_putGate 3 (some .int), Cond.fieldLink RX0 29 "GooseCodex$Farm" "gateCount" "I", Cond.fieldLink RX0 9 "GooseCodex$Farm" "ranks" "[I", Cond.methodLink RL 84 yL_act, Cond.static yL_act, Cond.code yL_act cL_act 15 (some .boolean), Cond.fieldLink RL 15 "GooseCodexLaw$Sim" "geese" "[[I", Cond.fieldLink RL 19 "GooseCodexLaw$Sim" "visitors" "[[I", Cond.methodLink RL 54 Lib.Math.min.name, Cond.static Lib.Math.min.name, Cond.initialized "java/lang/Math", Cond.code Lib.Math.min.name Lib.Math.min.code 2 (some .int), Cond.methodLink RL 37 yX4_with, Cond.static yX4_with, Cond.code yX4_with cX4_with 4 (some (.array (.array .int))), Cond.methodLink RL 41 yX3_addGoose]
def wsL_build_r4 : List Cond := [Cond.instanceMethod yX3_addGoose, Cond.selects RX3 yX3_addGoose yX3_addGoose, Cond.code yX3_addGoose cX3_addGoose 3 (some .int), Cond.fieldLink RX3 57 "GooseCodex$Farm" "flock" "LGooseCodex$Flock;", Cond.fieldLink RX3 61 "GooseCodex$Flock" "count" "I", Cond.methodLink RX3 47 yX0_hasGate, Cond.instanceMethod yX0_hasGate, Cond.selects RX0 yX0_hasGate yX0_hasGate, Cond.code yX0_hasGate cX0_hasGate 2 (some .boolean), Cond.methodLink RX3 50 yX3_demandIndex, Cond.static yX3_demandIndex, Cond.code yX3_demandIndex cX3_demandIndex 1 none, Cond.classLink RX3 262 "java/lang/IndexOutOfBoundsException", Cond.initialized "java/lang/IndexOutOfBoundsException", Cond.methodLink RX3 64 yX1_putGoose, Cond.instanceMethod yX1_putGoose, Cond.selects RX1 yX1_putGoose yX1_putGoose, Cond.initialized RX1, Cond.code yX1_putGoose cX1_putGoose 4 (some .int), Cond.fieldLink RX1 24 "GooseCodex$Flock" "count" "I", Cond.fieldLink RX1 9 "GooseCodex$Flock" "gate" "[I", Cond.fieldLink RX1 15 "GooseCodex$Flock" "temper" "[I", Cond.methodLink RL 44 yX3_arrive, Cond.instanceMethod yX3_arrive]
def wsL_build_r5 : List Cond := [Cond.selects RX3 yX3_arrive yX3_arrive, Cond.code yX3_arrive cX3_arrive 4 (some .int), Cond.methodLink RX3 68 yX3_isNerve, Cond.static yX3_isNerve, Cond.code yX3_isNerve cX3_isNerve 1 (some .boolean), Cond.methodLink RX3 71 yX2_putGuest, Cond.instanceMethod yX2_putGuest, Cond.selects RX2 yX2_putGuest yX2_putGuest, Cond.initialized RX2, Cond.code yX2_putGuest cX2_putGuest 5 (some .int), Cond.fieldLink RX2 27 "GooseCodex$Guests" "count" "I", Cond.fieldLink RX2 9 "GooseCodex$Guests" "rank" "[I", Cond.fieldLink RX2 15 "GooseCodex$Guests" "nerve" "[I", Cond.fieldLink RX2 18 "GooseCodex$Guests" "corns" "[I", Cond.methodLink RL 48 yX3_setRank, Cond.instanceMethod yX3_setRank, Cond.selects RX3 yX3_setRank yX3_setRank, Cond.code yX3_setRank cX3_setRank 4 (some .int), Cond.fieldLink RX3 75 "GooseCodex$Farm" "ranks" "[I", Cond.methodLink RL 51 yX3_lead, Cond.instanceMethod yX3_lead, Cond.selects RX3 yX3_lead yX3_lead, Cond.code yX3_lead cX3_lead 4 (some .int), Cond.fieldLink RX3 82 "GooseCodex$Flock" "gate" "[I"]
def wsL_build_r6 : List Cond := [Cond.methodLink RX3 79 yX1_hasGoose, Cond.instanceMethod yX1_hasGoose, Cond.selects RX1 yX1_hasGoose yX1_hasGoose, Cond.code yX1_hasGoose cX1_hasGoose 2 (some .boolean), Cond.methodLink RL 59 yX3_giveCorns, Cond.instanceMethod yX3_giveCorns, Cond.selects RX3 yX3_giveCorns yX3_giveCorns, Cond.code yX3_giveCorns cX3_giveCorns 4 (some .int), Cond.fieldLink RX3 89 "GooseCodex$Guests" "corns" "[I", Cond.methodLink RX3 92 Lib.Math.min.name, Cond.methodLink RX3 85 yX3_demandVisitor, Cond.instanceMethod yX3_demandVisitor, Cond.selects RX3 yX3_demandVisitor yX3_demandVisitor, Cond.code yX3_demandVisitor cX3_demandVisitor 2 none, Cond.methodLink RX3 259 yX2_hasGuest, Cond.instanceMethod yX2_hasGuest, Cond.selects RX2 yX2_hasGuest yX2_hasGuest, Cond.code yX2_hasGuest cX2_hasGuest 2 (some .boolean), Cond.methodLink RL 62 yX4_isIn, Cond.instanceMethod yX4_isIn, Cond.selects RX4 yX4_isIn yX4_isIn, Cond.code yX4_isIn cX4_isIn 2 (some .boolean), Cond.methodLink RL 66 yX4_feed, Cond.instanceMethod yX4_feed]
def wsL_build_r7 : List Cond := [Cond.selects RX4 yX4_feed yX4_feed, Cond.code yX4_feed cX4_feed 3 none, Cond.fieldLink RX4 29 "GooseCodexLaw$Sim" "bribes" "I", Cond.methodLink RL 70 yX3_bribe, Cond.instanceMethod yX3_bribe, Cond.selects RX3 yX3_bribe yX3_bribe, Cond.code yX3_bribe cX3_bribe 3 (some .int), Cond.fieldLink RX3 103 "GooseCodex$Guests" "passed" "[I", Cond.fieldLink RX3 110 "GooseCodex$Flock" "temper" "[I", Cond.methodLink RX3 97 yX3_demandGoose, Cond.instanceMethod yX3_demandGoose, Cond.selects RX3 yX3_demandGoose yX3_demandGoose, Cond.code yX3_demandGoose cX3_demandGoose 2 none, Cond.methodLink RX3 100 yX0_isBehindAll, Cond.instanceMethod yX0_isBehindAll, Cond.selects RX0 yX0_isBehindAll yX0_isBehindAll, Cond.code yX0_isBehindAll cX0_isBehindAll 2 (some .boolean), Cond.fieldLink RX0 25 "GooseCodex$Farm" "guests" "LGooseCodex$Guests;", Cond.fieldLink RX0 49 "GooseCodex$Guests" "passed" "[I", Cond.methodLink RX3 106 yX0_payGoose, Cond.instanceMethod yX0_payGoose, Cond.selects RX0 yX0_payGoose yX0_payGoose, Cond.code yX0_payGoose cX0_payGoose 3 none, Cond.fieldLink RX0 64 "GooseCodex$Guests" "corns" "[I"]
def wsL_build_r8 : List Cond := [Cond.fieldLink RX0 18 "GooseCodex$Farm" "flock" "LGooseCodex$Flock;", Cond.fieldLink RX0 71 "GooseCodex$Farm" "bribeCount" "I", Cond.methodLink RX0 67 yX1_feed, Cond.instanceMethod yX1_feed, Cond.selects RX1 yX1_feed yX1_feed, Cond.code yX1_feed cX1_feed 2 none, Cond.fieldLink RX1 21 "GooseCodex$Flock" "eaten" "[I", Cond.fieldLink RX1 18 "GooseCodex$Flock" "calm" "[I", Cond.methodLink RX1 32 Lib.Math.max.name, Cond.static Lib.Math.max.name, Cond.code Lib.Math.max.name Lib.Math.max.code 2 (some .int), Cond.methodLink RL 73 yX3_passBeats, Cond.instanceMethod yX3_passBeats, Cond.selects RX3 yX3_passBeats yX3_passBeats, Cond.code yX3_passBeats cX3_passBeats 3 (some .int), Cond.methodLink RX3 113 yX3_isBeats, Cond.static yX3_isBeats, Cond.code yX3_isBeats cX3_isBeats 1 (some .boolean), Cond.methodLink RX3 116 yX0_countInside, Cond.instanceMethod yX0_countInside, Cond.selects RX0 yX0_countInside yX0_countInside, Cond.code yX0_countInside cX0_countInside 3 (some .int), Cond.fieldLink RX0 58 "GooseCodex$Guests" "count" "I", Cond.methodLink RX0 61 yX0_isBehindAll]
def wsL_build_r9 : List Cond := [Cond.methodLink RX3 120 yX0_runBeats, Cond.instanceMethod yX0_runBeats, Cond.selects RX0 yX0_runBeats yX0_runBeats, Cond.code yX0_runBeats cX0_runBeats 3 none, Cond.methodLink RX0 89 yX0_runBeat, Cond.instanceMethod yX0_runBeat, Cond.selects RX0 yX0_runBeat yX0_runBeat, Cond.code yX0_runBeat cX0_runBeat 2 none, Cond.fieldLink RX0 98 "GooseCodex$Farm" "beat" "I", Cond.methodLink RX0 92 yX1_wakeByABeat, Cond.instanceMethod yX1_wakeByABeat, Cond.selects RX1 yX1_wakeByABeat yX1_wakeByABeat, Cond.code yX1_wakeByABeat cX1_wakeByABeat 2 none, Cond.methodLink RX0 95 yX0_moveGuest, Cond.instanceMethod yX0_moveGuest, Cond.selects RX0 yX0_moveGuest yX0_moveGuest, Cond.code yX0_moveGuest cX0_moveGuest 5 none, Cond.fieldLink RX0 101 "GooseCodex$Guests" "retreat" "[I", Cond.fieldLink RX0 52 "GooseCodex$Guests" "rank" "[I", Cond.fieldLink RX0 79 "GooseCodex$Guests" "nerve" "[I", Cond.fieldLink RX0 123 "GooseCodex$Farm" "retreatCount" "I", Cond.methodLink RX0 55 yX0_gateHiss, Cond.instanceMethod yX0_gateHiss, Cond.selects RX0 yX0_gateHiss yX0_gateHiss]
def wsL_build_r10 : List Cond := [Cond.code yX0_gateHiss cX0_gateHiss 3 (some .int), Cond.methodLink RX0 43 yX0_rankLack, Cond.instanceMethod yX0_rankLack, Cond.selects RX0 yX0_rankLack yX0_rankLack, Cond.code yX0_rankLack cX0_rankLack 3 (some .int), Cond.methodLink RX0 37 Lib.Math.max.name, Cond.methodLink RX0 33 yX0_hasGate, Cond.methodLink RX0 46 yX1_hissThere, Cond.instanceMethod yX1_hissThere, Cond.selects RX1 yX1_hissThere yX1_hissThere, Cond.code yX1_hissThere cX1_hissThere 5 (some .int), Cond.methodLink RX1 28 yX1_isAwakeThere, Cond.instanceMethod yX1_isAwakeThere, Cond.selects RX1 yX1_isAwakeThere yX1_isAwakeThere, Cond.code yX1_isAwakeThere cX1_isAwakeThere 3 (some .boolean), Cond.methodLink RX0 104 yX1_enrage, Cond.instanceMethod yX1_enrage, Cond.selects RX1 yX1_enrage yX1_enrage, Cond.code yX1_enrage cX1_enrage 3 none, Cond.methodLink RX1 38 Lib.Math.min.name, Cond.methodLink RX0 107 yX1_fiercestAwake, Cond.instanceMethod yX1_fiercestAwake, Cond.selects RX1 yX1_fiercestAwake yX1_fiercestAwake, Cond.code yX1_fiercestAwake cX1_fiercestAwake 5 (some .int)]
def wsL_build_r11 : List Cond := [Cond.methodLink RX0 110 yX1_hasGoose, Cond.methodLink RX0 113 yX0_payGoose, Cond.static yX3_gradeOfHiss, Cond.code yX3_gradeOfHiss cX3_gradeOfHiss 1 (some .int), Cond.methodLink RX0 120 yX2_fallBack, Cond.instanceMethod yX2_fallBack, Cond.selects RX2 yX2_fallBack yX2_fallBack, Cond.code yX2_fallBack cX2_fallBack 3 none, Cond.fieldLink RX2 24 "GooseCodex$Guests" "retreat" "[I", Cond.methodLink RX2 31 Lib.Math.min.name, Cond.fieldLink RX2 21 "GooseCodex$Guests" "passed" "[I", Cond.methodLink RL 76 yX4_behind, Cond.instanceMethod yX4_behind, Cond.selects RX4 yX4_behind yX4_behind, Cond.code yX4_behind cX4_behind 4 (some .int), Cond.methodLink RX4 51 yX4_inFarm, Cond.instanceMethod yX4_inFarm, Cond.selects RX4 yX4_inFarm yX4_inFarm, Cond.code yX4_inFarm cX4_inFarm 6 (some .int), Cond.methodLink RX4 21 yX4_isIn, Cond.methodLink RX4 55 yX4_pass, Cond.instanceMethod yX4_pass, Cond.selects RX4 yX4_pass yX4_pass, Cond.code yX4_pass cX4_pass 11 none]
def wsL_build_r12 : List Cond := [Cond.fieldLink RX4 45 "GooseCodexLaw$Sim" "retreats" "I", Cond.fieldLink RX4 48 "GooseCodexLaw$Sim" "beat" "I", Cond.methodLink RX4 33 yX4_hissAt, Cond.instanceMethod yX4_hissAt, Cond.selects RX4 yX4_hissAt yX4_hissAt, Cond.code yX4_hissAt cX4_hissAt 2 (some .int), Cond.methodLink RX4 25 yX4_hiss, Cond.instanceMethod yX4_hiss, Cond.selects RX4 yX4_hiss yX4_hiss, Cond.code yX4_hiss cX4_hiss 8 (some .int), Cond.methodLink RX4 37 yX4_feed, Cond.methodLink RX4 41 yX4_grade, Cond.static yX4_grade, Cond.code yX4_grade cX4_grade 7 (some .int)]
def wsL_build : List Cond := .code yL_build cL_build 6 (some (.object "GooseCodexLaw$Sim")) :: ((wsL_build_r1 ++ (wsL_build_r2 ++ (wsL_build_r3 ++ (wsL_build_r4 ++ (wsL_build_r5 ++ (wsL_build_r6 ++ (wsL_build_r7 ++ (wsL_build_r8 ++ (wsL_build_r9 ++ (wsL_build_r10 ++ (wsL_build_r11 ++ wsL_build_r12))))))))))) ++ wsX40 ++ wsX30 ++ wsX00 ++ wsX20 ++ wsX10 ++ (vx_atS RX3 273 "java/lang/IllegalArgumentException" ["java/lang/RuntimeException", "java/lang/Exception"]).filter goodWord ++ (vx_atS RX3 278 "java/lang/IllegalStateException" ["java/lang/RuntimeException", "java/lang/Exception"]).filter goodWord ++ (vx_atS RX3 266 "java/lang/IndexOutOfBoundsException" ["java/lang/RuntimeException", "java/lang/Exception"]).filter goodWord)
def wsL_law0_r1 : List Cond := [Cond.classLink RL 33 RX3, Cond.instantiable RX3 2, Cond.initialized RX3, Cond.arrayClass .int, Cond.methodLink RL 54 Lib.Math.min.name, Cond.static Lib.Math.min.name, Cond.initialized "java/lang/Math", Cond.code Lib.Math.min.name Lib.Math.min.code 2 (some .int), Cond.methodLink RL 166 Lib.Math.max.name, Cond.static Lib.Math.max.name, Cond.code Lib.Math.max.name Lib.Math.max.code 2 (some .int), Cond.methodLink RL 88 yX3_init, Cond.instanceMethod yX3_init, Cond.code yX3_init cX3_init 1 none, Cond.methodLink RX3 1 objectInit, Cond.instanceMethod objectInit, Cond.code objectInit ⟨#[0xb1]⟩ 1 none, Cond.classLink RX3 7 RX0, Cond.instantiable RX0 7, Cond.initialized RX0, Cond.fieldLink RX3 10 "GooseCodex" "now" "LGooseCodex$Farm;", Cond.fieldLink RX3 16 "GooseCodex" "trial" "LGooseCodex$Farm;", Cond.instanceMethod yX0_init, Cond.code yX0_init cX0_init 1 none]
def wsL_law0_r2 : List Cond := [Cond.methodLink RX0 3 objectInit, Cond.fieldLink RX0 9 "GooseCodex$Farm" "ranks" "[I", Cond.classLink RX0 15 RX1, Cond.instantiable RX1 5, Cond.initialized RX1, Cond.fieldLink RX0 18 "GooseCodex$Farm" "flock" "LGooseCodex$Flock;", Cond.classLink RX0 22 RX2, Cond.instantiable RX2 6, Cond.initialized RX2, Cond.fieldLink RX0 25 "GooseCodex$Farm" "guests" "LGooseCodex$Guests;", Cond.instanceMethod yX1_init, Cond.code yX1_init cX1_init 1 none, Cond.methodLink RX1 3 objectInit, Cond.fieldLink RX1 9 "GooseCodex$Flock" "gate" "[I", Cond.fieldLink RX1 15 "GooseCodex$Flock" "temper" "[I", Cond.fieldLink RX1 18 "GooseCodex$Flock" "calm" "[I", Cond.fieldLink RX1 21 "GooseCodex$Flock" "eaten" "[I", Cond.instanceMethod yX2_init, Cond.code yX2_init cX2_init 1 none, Cond.methodLink RX2 3 objectInit, Cond.fieldLink RX2 9 "GooseCodex$Guests" "rank" "[I", Cond.fieldLink RX2 15 "GooseCodex$Guests" "nerve" "[I", Cond.fieldLink RX2 18 "GooseCodex$Guests" "corns" "[I", Cond.fieldLink RX2 21 "GooseCodex$Guests" "passed" "[I"]
def wsL_law0_r3 : List Cond := [Cond.fieldLink RX2 24 "GooseCodex$Guests" "retreat" "[I", Cond.methodLink RL 89 yL_build, Cond.static yL_build, Cond.initialized RL, Cond.code yL_build cL_build 6 (some (.object "GooseCodexLaw$Sim")), Cond.classLink RL 10 RX4, Cond.instantiable RX4 6, Cond.initialized RX4, Cond.fieldLink RL 9 "GooseCodexLaw$Sim" "ranks" "[I", Cond.instanceMethod yX4_init, Cond.code yX4_init cX4_init 1 none, Cond.methodLink RX4 1 objectInit, Cond.fieldLink RX4 7 "GooseCodexLaw$Sim" "ranks" "[I", Cond.classLink RX4 13 "[I", Cond.fieldLink RX4 14 "GooseCodexLaw$Sim" "geese" "[[I", Cond.fieldLink RX4 18 "GooseCodexLaw$Sim" "visitors" "[[I", Cond.methodLink RL 80 yL_cell, Cond.static yL_cell, Cond.code yL_cell cL_cell 2 (some .int), Cond.constant RL 8 (790386105), Cond.methodLink RL 22 yL_below, Cond.static yL_below, Cond.code yL_below cL_below 2 (some .int), Cond.constant RL 7 (2147483647)]
def wsL_law0_r4 : List Cond := [Cond.methodLink RL 28 yX4_addGate, Cond.instanceMethod yX4_addGate, Cond.selects RX4 yX4_addGate yX4_addGate, Cond.code yX4_addGate cX4_addGate 4 none, Cond.methodLink RL 32 yX3_addGate, Cond.instanceMethod yX3_addGate, Cond.selects RX3 yX3_addGate yX3_addGate, Cond.code yX3_addGate cX3_addGate 2 (some .int), Cond.fieldLink RX3 27 "GooseCodex$Farm" "gateCount" "I", Cond.fieldLink RX3 31 "GooseCodex$Farm" "guests" "LGooseCodex$Guests;", Cond.fieldLink RX3 35 "GooseCodex$Guests" "count" "I", Cond.methodLink RX3 19 yX3_isRank, Cond.static yX3_isRank, Cond.code yX3_isRank cX3_isRank 1 (some .boolean), Cond.methodLink RX3 53 yX3_isWithin, Cond.static yX3_isWithin, Cond.code yX3_isWithin cX3_isWithin 3 (some .boolean), Cond.methodLink RX3 23 yX3_demandArgument, Cond.static yX3_demandArgument, Cond.code yX3_demandArgument cX3_demandArgument 1 none, Cond.classLink RX3 269 "java/lang/IllegalArgumentException", Cond.initialized "java/lang/IllegalArgumentException", Cond.methodLink RX3 40 yX3_demandState, Cond.static yX3_demandState]
def wsL_law0_r5 : List Cond := [Cond.code yX3_demandState cX3_demandState 1 none, Cond.classLink RX3 274 "java/lang/IllegalStateException", Cond.initialized "java/lang/IllegalStateException", Cond.methodLink RX3 43 yX0_putGate, Cond.instanceMethod yX0_putGate, Cond.selects RX0 yX0_putGate yX0_putGate, Cond.code yX0_putGate cX0_putGate 3 (some .int), Cond.fieldLink RX0 29 "GooseCodex$Farm" "gateCount" "I", Cond.methodLink RL 84 yL_act, Cond.static yL_act, Cond.code yL_act cL_act 15 (some .boolean), Cond.fieldLink RL 15 "GooseCodexLaw$Sim" "geese" "[[I", Cond.fieldLink RL 19 "GooseCodexLaw$Sim" "visitors" "[[I", Cond.methodLink RL 37 yX4_with, Cond.static yX4_with, Cond.code yX4_with cX4_with 4 (some (.array (.array .int))), Cond.methodLink RL 41 yX3_addGoose, Cond.instanceMethod yX3_addGoose, Cond.selects RX3 yX3_addGoose yX3_addGoose, Cond.code yX3_addGoose cX3_addGoose 3 (some .int), Cond.fieldLink RX3 57 "GooseCodex$Farm" "flock" "LGooseCodex$Flock;", Cond.fieldLink RX3 61 "GooseCodex$Flock" "count" "I", Cond.methodLink RX3 47 yX0_hasGate, Cond.instanceMethod yX0_hasGate]
def wsL_law0_r6 : List Cond := [Cond.selects RX0 yX0_hasGate yX0_hasGate, Cond.code yX0_hasGate cX0_hasGate 2 (some .boolean), Cond.methodLink RX3 50 yX3_demandIndex, Cond.static yX3_demandIndex, Cond.code yX3_demandIndex cX3_demandIndex 1 none, Cond.classLink RX3 262 "java/lang/IndexOutOfBoundsException", Cond.initialized "java/lang/IndexOutOfBoundsException", Cond.methodLink RX3 64 yX1_putGoose, Cond.instanceMethod yX1_putGoose, Cond.selects RX1 yX1_putGoose yX1_putGoose, Cond.code yX1_putGoose cX1_putGoose 4 (some .int), Cond.fieldLink RX1 24 "GooseCodex$Flock" "count" "I", Cond.methodLink RL 44 yX3_arrive, Cond.instanceMethod yX3_arrive, Cond.selects RX3 yX3_arrive yX3_arrive, Cond.code yX3_arrive cX3_arrive 4 (some .int), Cond.methodLink RX3 68 yX3_isNerve, Cond.static yX3_isNerve, Cond.code yX3_isNerve cX3_isNerve 1 (some .boolean), Cond.methodLink RX3 71 yX2_putGuest, Cond.instanceMethod yX2_putGuest, Cond.selects RX2 yX2_putGuest yX2_putGuest, Cond.code yX2_putGuest cX2_putGuest 5 (some .int), Cond.fieldLink RX2 27 "GooseCodex$Guests" "count" "I"]
def wsL_law0_r7 : List Cond := [Cond.methodLink RL 48 yX3_setRank, Cond.instanceMethod yX3_setRank, Cond.selects RX3 yX3_setRank yX3_setRank, Cond.code yX3_setRank cX3_setRank 4 (some .int), Cond.fieldLink RX3 75 "GooseCodex$Farm" "ranks" "[I", Cond.methodLink RL 51 yX3_lead, Cond.instanceMethod yX3_lead, Cond.selects RX3 yX3_lead yX3_lead, Cond.code yX3_lead cX3_lead 4 (some .int), Cond.fieldLink RX3 82 "GooseCodex$Flock" "gate" "[I", Cond.methodLink RX3 79 yX1_hasGoose, Cond.instanceMethod yX1_hasGoose, Cond.selects RX1 yX1_hasGoose yX1_hasGoose, Cond.code yX1_hasGoose cX1_hasGoose 2 (some .boolean), Cond.methodLink RL 59 yX3_giveCorns, Cond.instanceMethod yX3_giveCorns, Cond.selects RX3 yX3_giveCorns yX3_giveCorns, Cond.code yX3_giveCorns cX3_giveCorns 4 (some .int), Cond.fieldLink RX3 89 "GooseCodex$Guests" "corns" "[I", Cond.methodLink RX3 92 Lib.Math.min.name, Cond.methodLink RX3 85 yX3_demandVisitor, Cond.instanceMethod yX3_demandVisitor, Cond.selects RX3 yX3_demandVisitor yX3_demandVisitor, Cond.code yX3_demandVisitor cX3_demandVisitor 2 none]
def wsL_law0_r8 : List Cond := [Cond.methodLink RX3 259 yX2_hasGuest, Cond.instanceMethod yX2_hasGuest, Cond.selects RX2 yX2_hasGuest yX2_hasGuest, Cond.code yX2_hasGuest cX2_hasGuest 2 (some .boolean), Cond.methodLink RL 62 yX4_isIn, Cond.instanceMethod yX4_isIn, Cond.selects RX4 yX4_isIn yX4_isIn, Cond.code yX4_isIn cX4_isIn 2 (some .boolean), Cond.methodLink RL 66 yX4_feed, Cond.instanceMethod yX4_feed, Cond.selects RX4 yX4_feed yX4_feed, Cond.code yX4_feed cX4_feed 3 none, Cond.fieldLink RX4 29 "GooseCodexLaw$Sim" "bribes" "I", Cond.methodLink RL 70 yX3_bribe, Cond.instanceMethod yX3_bribe, Cond.selects RX3 yX3_bribe yX3_bribe, Cond.code yX3_bribe cX3_bribe 3 (some .int), Cond.fieldLink RX3 103 "GooseCodex$Guests" "passed" "[I", Cond.fieldLink RX3 110 "GooseCodex$Flock" "temper" "[I", Cond.methodLink RX3 97 yX3_demandGoose, Cond.instanceMethod yX3_demandGoose, Cond.selects RX3 yX3_demandGoose yX3_demandGoose, Cond.code yX3_demandGoose cX3_demandGoose 2 none, Cond.methodLink RX3 100 yX0_isBehindAll]
def wsL_law0_r9 : List Cond := [Cond.instanceMethod yX0_isBehindAll, Cond.selects RX0 yX0_isBehindAll yX0_isBehindAll, Cond.code yX0_isBehindAll cX0_isBehindAll 2 (some .boolean), Cond.fieldLink RX0 49 "GooseCodex$Guests" "passed" "[I", Cond.methodLink RX3 106 yX0_payGoose, Cond.instanceMethod yX0_payGoose, Cond.selects RX0 yX0_payGoose yX0_payGoose, Cond.code yX0_payGoose cX0_payGoose 3 none, Cond.fieldLink RX0 64 "GooseCodex$Guests" "corns" "[I", Cond.fieldLink RX0 71 "GooseCodex$Farm" "bribeCount" "I", Cond.methodLink RX0 67 yX1_feed, Cond.instanceMethod yX1_feed, Cond.selects RX1 yX1_feed yX1_feed, Cond.code yX1_feed cX1_feed 2 none, Cond.methodLink RX1 32 Lib.Math.max.name, Cond.methodLink RL 73 yX3_passBeats, Cond.instanceMethod yX3_passBeats, Cond.selects RX3 yX3_passBeats yX3_passBeats, Cond.code yX3_passBeats cX3_passBeats 3 (some .int), Cond.methodLink RX3 113 yX3_isBeats, Cond.static yX3_isBeats, Cond.code yX3_isBeats cX3_isBeats 1 (some .boolean), Cond.methodLink RX3 116 yX0_countInside, Cond.instanceMethod yX0_countInside]
def wsL_law0_r10 : List Cond := [Cond.selects RX0 yX0_countInside yX0_countInside, Cond.code yX0_countInside cX0_countInside 3 (some .int), Cond.fieldLink RX0 58 "GooseCodex$Guests" "count" "I", Cond.methodLink RX0 61 yX0_isBehindAll, Cond.methodLink RX3 120 yX0_runBeats, Cond.instanceMethod yX0_runBeats, Cond.selects RX0 yX0_runBeats yX0_runBeats, Cond.code yX0_runBeats cX0_runBeats 3 none, Cond.methodLink RX0 89 yX0_runBeat, Cond.instanceMethod yX0_runBeat, Cond.selects RX0 yX0_runBeat yX0_runBeat, Cond.code yX0_runBeat cX0_runBeat 2 none, Cond.fieldLink RX0 98 "GooseCodex$Farm" "beat" "I", Cond.methodLink RX0 92 yX1_wakeByABeat, Cond.instanceMethod yX1_wakeByABeat, Cond.selects RX1 yX1_wakeByABeat yX1_wakeByABeat, Cond.code yX1_wakeByABeat cX1_wakeByABeat 2 none, Cond.methodLink RX0 95 yX0_moveGuest, Cond.instanceMethod yX0_moveGuest, Cond.selects RX0 yX0_moveGuest yX0_moveGuest, Cond.code yX0_moveGuest cX0_moveGuest 5 none, Cond.fieldLink RX0 101 "GooseCodex$Guests" "retreat" "[I", Cond.fieldLink RX0 52 "GooseCodex$Guests" "rank" "[I", Cond.fieldLink RX0 79 "GooseCodex$Guests" "nerve" "[I"]
def wsL_law0_r11 : List Cond := [Cond.fieldLink RX0 123 "GooseCodex$Farm" "retreatCount" "I", Cond.methodLink RX0 55 yX0_gateHiss, Cond.instanceMethod yX0_gateHiss, Cond.selects RX0 yX0_gateHiss yX0_gateHiss, Cond.code yX0_gateHiss cX0_gateHiss 3 (some .int), Cond.methodLink RX0 43 yX0_rankLack, Cond.instanceMethod yX0_rankLack, Cond.selects RX0 yX0_rankLack yX0_rankLack, Cond.code yX0_rankLack cX0_rankLack 3 (some .int), Cond.methodLink RX0 37 Lib.Math.max.name, Cond.methodLink RX0 33 yX0_hasGate, Cond.methodLink RX0 46 yX1_hissThere, Cond.instanceMethod yX1_hissThere, Cond.selects RX1 yX1_hissThere yX1_hissThere, Cond.code yX1_hissThere cX1_hissThere 5 (some .int), Cond.methodLink RX1 28 yX1_isAwakeThere, Cond.instanceMethod yX1_isAwakeThere, Cond.selects RX1 yX1_isAwakeThere yX1_isAwakeThere, Cond.code yX1_isAwakeThere cX1_isAwakeThere 3 (some .boolean), Cond.methodLink RX0 104 yX1_enrage, Cond.instanceMethod yX1_enrage, Cond.selects RX1 yX1_enrage yX1_enrage, Cond.code yX1_enrage cX1_enrage 3 none, Cond.methodLink RX1 38 Lib.Math.min.name]
def wsL_law0_r12 : List Cond := [Cond.methodLink RX0 107 yX1_fiercestAwake, Cond.instanceMethod yX1_fiercestAwake, Cond.selects RX1 yX1_fiercestAwake yX1_fiercestAwake, Cond.code yX1_fiercestAwake cX1_fiercestAwake 5 (some .int), Cond.methodLink RX0 110 yX1_hasGoose, Cond.methodLink RX0 113 yX0_payGoose, Cond.static yX3_gradeOfHiss, Cond.code yX3_gradeOfHiss cX3_gradeOfHiss 1 (some .int), Cond.methodLink RX0 120 yX2_fallBack, Cond.instanceMethod yX2_fallBack, Cond.selects RX2 yX2_fallBack yX2_fallBack, Cond.code yX2_fallBack cX2_fallBack 3 none, Cond.methodLink RX2 31 Lib.Math.min.name, Cond.methodLink RL 76 yX4_behind, Cond.instanceMethod yX4_behind, Cond.selects RX4 yX4_behind yX4_behind, Cond.code yX4_behind cX4_behind 4 (some .int), Cond.methodLink RX4 51 yX4_inFarm, Cond.instanceMethod yX4_inFarm, Cond.selects RX4 yX4_inFarm yX4_inFarm, Cond.code yX4_inFarm cX4_inFarm 6 (some .int), Cond.methodLink RX4 21 yX4_isIn, Cond.methodLink RX4 55 yX4_pass, Cond.instanceMethod yX4_pass]
def wsL_law0_r13 : List Cond := [Cond.selects RX4 yX4_pass yX4_pass, Cond.code yX4_pass cX4_pass 11 none, Cond.fieldLink RX4 45 "GooseCodexLaw$Sim" "retreats" "I", Cond.fieldLink RX4 48 "GooseCodexLaw$Sim" "beat" "I", Cond.methodLink RX4 33 yX4_hissAt, Cond.instanceMethod yX4_hissAt, Cond.selects RX4 yX4_hissAt yX4_hissAt, Cond.code yX4_hissAt cX4_hissAt 2 (some .int), Cond.methodLink RX4 25 yX4_hiss, Cond.instanceMethod yX4_hiss, Cond.selects RX4 yX4_hiss yX4_hiss, Cond.code yX4_hiss cX4_hiss 8 (some .int), Cond.methodLink RX4 37 yX4_feed, Cond.methodLink RX4 41 yX4_grade, Cond.static yX4_grade, Cond.code yX4_grade cX4_grade 7 (some .int), Cond.methodLink RL 93 yX3_gates, Cond.instanceMethod yX3_gates, Cond.selects RX3 yX3_gates yX3_gates, Cond.code yX3_gates cX3_gates 1 (some .int), Cond.methodLink RL 97 yX3_geese, Cond.instanceMethod yX3_geese, Cond.selects RX3 yX3_geese yX3_geese, Cond.code yX3_geese cX3_geese 1 (some .int)]
def wsL_law0_r14 : List Cond := [Cond.methodLink RL 99 yX3_visitors, Cond.instanceMethod yX3_visitors, Cond.selects RX3 yX3_visitors yX3_visitors, Cond.code yX3_visitors cX3_visitors 1 (some .int), Cond.methodLink RL 101 yX3_hissOf, Cond.instanceMethod yX3_hissOf, Cond.selects RX3 yX3_hissOf yX3_hissOf, Cond.code yX3_hissOf cX3_hissOf 3 (some .int), Cond.methodLink RX3 135 yX0_gateHiss, Cond.methodLink RL 104 yX3_awakeAt, Cond.instanceMethod yX3_awakeAt, Cond.selects RX3 yX3_awakeAt yX3_awakeAt, Cond.code yX3_awakeAt cX3_awakeAt 2 (some .int), Cond.methodLink RX3 132 yX1_countAwake, Cond.instanceMethod yX1_countAwake, Cond.selects RX1 yX1_countAwake yX1_countAwake, Cond.code yX1_countAwake cX1_countAwake 4 (some .int), Cond.methodLink RL 107 yX3_loudestGate, Cond.instanceMethod yX3_loudestGate, Cond.selects RX3 yX3_loudestGate yX3_loudestGate, Cond.code yX3_loudestGate cX3_loudestGate 5 (some .int), Cond.methodLink RL 110 yX3_rankOf, Cond.instanceMethod yX3_rankOf, Cond.selects RX3 yX3_rankOf yX3_rankOf]
def wsL_law0_r15 : List Cond := [Cond.code yX3_rankOf cX3_rankOf 2 (some .int), Cond.methodLink RL 113 yX3_temperOf, Cond.instanceMethod yX3_temperOf, Cond.selects RX3 yX3_temperOf yX3_temperOf, Cond.code yX3_temperOf cX3_temperOf 2 (some .int), Cond.methodLink RL 116 yX3_calmFor, Cond.instanceMethod yX3_calmFor, Cond.selects RX3 yX3_calmFor yX3_calmFor, Cond.code yX3_calmFor cX3_calmFor 2 (some .int), Cond.fieldLink RX3 138 "GooseCodex$Flock" "calm" "[I", Cond.methodLink RL 119 yX3_eatenBy, Cond.instanceMethod yX3_eatenBy, Cond.selects RX3 yX3_eatenBy yX3_eatenBy, Cond.code yX3_eatenBy cX3_eatenBy 2 (some .int), Cond.fieldLink RX3 141 "GooseCodex$Flock" "eaten" "[I", Cond.methodLink RL 122 yX3_passedBy, Cond.instanceMethod yX3_passedBy, Cond.selects RX3 yX3_passedBy yX3_passedBy, Cond.code yX3_passedBy cX3_passedBy 2 (some .int), Cond.methodLink RL 125 yX3_cornsOf, Cond.instanceMethod yX3_cornsOf, Cond.selects RX3 yX3_cornsOf yX3_cornsOf, Cond.code yX3_cornsOf cX3_cornsOf 2 (some .int), Cond.methodLink RL 128 yX3_nerveOf]
def wsL_law0_r16 : List Cond := [Cond.instanceMethod yX3_nerveOf, Cond.selects RX3 yX3_nerveOf yX3_nerveOf, Cond.code yX3_nerveOf cX3_nerveOf 2 (some .int), Cond.fieldLink RX3 144 "GooseCodex$Guests" "nerve" "[I", Cond.methodLink RL 131 yX3_retreatOf, Cond.instanceMethod yX3_retreatOf, Cond.selects RX3 yX3_retreatOf yX3_retreatOf, Cond.code yX3_retreatOf cX3_retreatOf 2 (some .int), Cond.fieldLink RX3 147 "GooseCodex$Guests" "retreat" "[I", Cond.methodLink RL 134 yX3_gradeFor, Cond.instanceMethod yX3_gradeFor, Cond.selects RX3 yX3_gradeFor yX3_gradeFor, Cond.code yX3_gradeFor cX3_gradeFor 2 (some .int), Cond.methodLink RX3 150 yX0_guestHiss, Cond.instanceMethod yX0_guestHiss, Cond.selects RX0 yX0_guestHiss yX0_guestHiss, Cond.code yX0_guestHiss cX0_guestHiss 2 (some .int), Cond.methodLink RX3 153 yX3_gradeOfHiss, Cond.methodLink RL 137 yX3_hissAt, Cond.instanceMethod yX3_hissAt, Cond.selects RX3 yX3_hissAt yX3_hissAt, Cond.code yX3_hissAt cX3_hissAt 2 (some .int), Cond.methodLink RL 140 yX3_isInFarm, Cond.instanceMethod yX3_isInFarm]
def wsL_law0_r17 : List Cond := [Cond.selects RX3 yX3_isInFarm yX3_isInFarm, Cond.code yX3_isInFarm cX3_isInFarm 2 (some .boolean), Cond.methodLink RL 144 yX3_dares, Cond.instanceMethod yX3_dares, Cond.selects RX3 yX3_dares yX3_dares, Cond.code yX3_dares cX3_dares 2 (some .boolean), Cond.methodLink RL 147 yX3_bribes, Cond.instanceMethod yX3_bribes, Cond.selects RX3 yX3_bribes yX3_bribes, Cond.code yX3_bribes cX3_bribes 1 (some .int), Cond.fieldLink RX3 126 "GooseCodex$Farm" "bribeCount" "I", Cond.methodLink RL 150 yX3_inFarm, Cond.instanceMethod yX3_inFarm, Cond.selects RX3 yX3_inFarm yX3_inFarm, Cond.code yX3_inFarm cX3_inFarm 1 (some .int), Cond.methodLink RL 153 yX3_meanTemper, Cond.instanceMethod yX3_meanTemper, Cond.selects RX3 yX3_meanTemper yX3_meanTemper, Cond.code yX3_meanTemper cX3_meanTemper 2 (some .double), Cond.methodLink RX3 169 yX1_sumOfTempers, Cond.instanceMethod yX1_sumOfTempers, Cond.selects RX1 yX1_sumOfTempers yX1_sumOfTempers, Cond.code yX1_sumOfTempers cX1_sumOfTempers 3 (some .int), Cond.methodLink RL 157 yX3_retreats]
def wsL_law0_r18 : List Cond := [Cond.instanceMethod yX3_retreats, Cond.selects RX3 yX3_retreats yX3_retreats, Cond.code yX3_retreats cX3_retreats 1 (some .int), Cond.fieldLink RX3 129 "GooseCodex$Farm" "retreatCount" "I", Cond.methodLink RL 160 yX3_beats, Cond.instanceMethod yX3_beats, Cond.selects RX3 yX3_beats yX3_beats, Cond.code yX3_beats cX3_beats 1 (some .int), Cond.fieldLink RX3 123 "GooseCodex$Farm" "beat" "I", Cond.methodLink RL 163 yX4_pass, Cond.methodLink RL 169 yX4_isSame, Cond.instanceMethod yX4_isSame, Cond.selects RX4 yX4_isSame yX4_isSame, Cond.code yX4_isSame cX4_isSame 10 (some .boolean), Cond.methodLink RX4 67 yX3_beats, Cond.methodLink RX4 72 yX3_gates, Cond.methodLink RX4 75 yX3_geese, Cond.methodLink RX4 77 yX3_visitors, Cond.methodLink RX4 79 yX3_inFarm, Cond.methodLink RX4 80 yX3_bribes, Cond.methodLink RX4 82 yX3_retreats, Cond.methodLink RX4 84 yX3_rankOf, Cond.methodLink RX4 87 yX3_awakeAt, Cond.methodLink RX4 90 yX3_hissOf]
def wsL_law0_r19 : List Cond := [Cond.methodLink RX4 93 yX3_gateOf, Cond.instanceMethod yX3_gateOf, Cond.selects RX3 yX3_gateOf yX3_gateOf, Cond.code yX3_gateOf cX3_gateOf 2 (some .int), Cond.methodLink RX4 96 yX3_temperOf, Cond.methodLink RX4 99 yX3_calmFor, Cond.methodLink RX4 102 yX3_eatenBy, Cond.methodLink RX4 105 yX3_passedBy, Cond.methodLink RX4 108 yX3_isInFarm, Cond.methodLink RX4 112 yX3_cornsOf, Cond.methodLink RX4 115 yX3_nerveOf, Cond.methodLink RX4 118 yX3_retreatOf, Cond.methodLink RX4 121 yX3_hissAt, Cond.methodLink RX4 123 yX3_gradeFor, Cond.methodLink RX4 126 yX3_dares, Cond.methodLink RX4 129 yX3_loudestGate, Cond.methodLink RX4 132 yX3_meanTemper]
def wsL_law0 : List Cond := (wsL_law0_r1 ++ (wsL_law0_r2 ++ (wsL_law0_r3 ++ (wsL_law0_r4 ++ (wsL_law0_r5 ++ (wsL_law0_r6 ++ (wsL_law0_r7 ++ (wsL_law0_r8 ++ (wsL_law0_r9 ++ (wsL_law0_r10 ++ (wsL_law0_r11 ++ (wsL_law0_r12 ++ (wsL_law0_r13 ++ (wsL_law0_r14 ++ (wsL_law0_r15 ++ (wsL_law0_r16 ++ (wsL_law0_r17 ++ (wsL_law0_r18 ++ wsL_law0_r19)))))))))))))))))) ++ wsX30 ++ wsX00 ++ wsX10 ++ wsX20 ++ wsX40 ++ ([] : List Cond)
def wsL_law : List Cond := wsL_law0 ++ (vx_atS RX3 273 "java/lang/IllegalArgumentException" ["java/lang/RuntimeException", "java/lang/Exception"]).filter goodWord ++ (vx_atS RX3 278 "java/lang/IllegalStateException" ["java/lang/RuntimeException", "java/lang/Exception"]).filter goodWord ++ (vx_atS RX3 266 "java/lang/IndexOutOfBoundsException" ["java/lang/RuntimeException", "java/lang/Exception"]).filter goodWord
abbrev vwCl : List vw_C := [(RX0, TX0, 7), (RX1, TX1, 5), (RX2, TX2, 6), (RX3, TX3, 2), (RX4, TX4, 6)]
end
section
set_option maxRecDepth 20000 in
theorem ggX0_init_X1_init : GoodIn wsX0_init wsX1_init := goodIn_r _ [15, 16, 2, 3, 4, 17, 18, 19, 20, 36, 37, 38, 39, 40] (by decide +kernel) (by decide +kernel)
set_option maxRecDepth 20000 in
theorem gX0_init_X1_init_n17 : GoodIn wsX0_init (wsX1_init) := ggX0_init_X1_init
set_option maxRecDepth 20000 in
theorem ggX0_init_X2_init : GoodIn wsX0_init wsX2_init := goodIn_r _ [22, 23, 2, 3, 4, 24, 25, 26, 27, 28, 41, 42, 43, 44, 45, 46] (by decide +kernel) (by decide +kernel)
set_option maxRecDepth 20000 in
theorem gX0_init_X2_init_n24 : GoodIn wsX0_init (wsX2_init) := ggX0_init_X2_init
theorem dX0_init_0 : decode cX0_init 0 = .ok (.aload_n 0, 1) := by decide +kernel
theorem dX0_init_1 : decode cX0_init 1 = .ok (.invokespecial 3, 3) := by decide +kernel
theorem dX0_init_4 : decode cX0_init 4 = .ok (.aload_n 0, 1) := by decide +kernel
theorem dX0_init_5 : decode cX0_init 5 = .ok (.bipush 6, 2) := by decide +kernel
theorem dX0_init_7 : decode cX0_init 7 = .ok (.newarray .int, 2) := by decide +kernel
theorem dX0_init_9 : decode cX0_init 9 = .ok (.putfield 9, 3) := by decide +kernel
theorem dX0_init_12 : decode cX0_init 12 = .ok (.aload_n 0, 1) := by decide +kernel
theorem dX0_init_13 : decode cX0_init 13 = .ok (.new 15, 3) := by decide +kernel
theorem dX0_init_16 : decode cX0_init 16 = .ok (.dup, 1) := by decide +kernel
theorem dX0_init_17 : decode cX0_init 17 = .ok (.invokespecial 17, 3) := by decide +kernel
theorem dX0_init_20 : decode cX0_init 20 = .ok (.putfield 18, 3) := by decide +kernel
theorem dX0_init_23 : decode cX0_init 23 = .ok (.aload_n 0, 1) := by decide +kernel
theorem dX0_init_24 : decode cX0_init 24 = .ok (.new 22, 3) := by decide +kernel
theorem dX0_init_27 : decode cX0_init 27 = .ok (.dup, 1) := by decide +kernel
theorem dX0_init_28 : decode cX0_init 28 = .ok (.invokespecial 24, 3) := by decide +kernel
theorem dX0_init_31 : decode cX0_init 31 = .ok (.putfield 25, 3) := by decide +kernel
theorem dX0_init_34 : decode cX0_init 34 = .ok (.return_, 1) := by decide +kernel
theorem dX0_hasGate_0 : decode cX0_hasGate 0 = .ok (.iload_n 1, 1) := by decide +kernel
theorem dX0_hasGate_1 : decode cX0_hasGate 1 = .ok (.ifCond .lt 15, 3) := by decide +kernel
theorem dX0_hasGate_4 : decode cX0_hasGate 4 = .ok (.iload_n 1, 1) := by decide +kernel
theorem dX0_hasGate_5 : decode cX0_hasGate 5 = .ok (.aload_n 0, 1) := by decide +kernel
theorem dX0_hasGate_6 : decode cX0_hasGate 6 = .ok (.getfield 29, 3) := by decide +kernel
theorem dX0_hasGate_9 : decode cX0_hasGate 9 = .ok (.if_icmp .ge 7, 3) := by decide +kernel
theorem dX0_hasGate_12 : decode cX0_hasGate 12 = .ok (.iconst 1, 1) := by decide +kernel
theorem dX0_hasGate_13 : decode cX0_hasGate 13 = .ok (.goto 4, 3) := by decide +kernel
theorem dX0_hasGate_16 : decode cX0_hasGate 16 = .ok (.iconst 0, 1) := by decide +kernel
theorem dX0_hasGate_17 : decode cX0_hasGate 17 = .ok (.ireturn, 1) := by decide +kernel
theorem dX0_putGate_0 : decode cX0_putGate 0 = .ok (.aload_n 0, 1) := by decide +kernel
theorem dX0_putGate_1 : decode cX0_putGate 1 = .ok (.getfield 29, 3) := by decide +kernel
theorem dX0_putGate_4 : decode cX0_putGate 4 = .ok (.istore_n 2, 1) := by decide +kernel
theorem dX0_putGate_5 : decode cX0_putGate 5 = .ok (.aload_n 0, 1) := by decide +kernel
theorem dX0_putGate_6 : decode cX0_putGate 6 = .ok (.getfield 9, 3) := by decide +kernel
theorem dX0_putGate_9 : decode cX0_putGate 9 = .ok (.iload_n 2, 1) := by decide +kernel
theorem dX0_putGate_10 : decode cX0_putGate 10 = .ok (.iload_n 1, 1) := by decide +kernel
theorem dX0_putGate_11 : decode cX0_putGate 11 = .ok (.iastore, 1) := by decide +kernel
theorem dX0_putGate_12 : decode cX0_putGate 12 = .ok (.aload_n 0, 1) := by decide +kernel
theorem dX0_putGate_13 : decode cX0_putGate 13 = .ok (.dup, 1) := by decide +kernel
theorem dX0_putGate_14 : decode cX0_putGate 14 = .ok (.getfield 29, 3) := by decide +kernel
theorem dX0_putGate_17 : decode cX0_putGate 17 = .ok (.iconst 1, 1) := by decide +kernel
theorem dX0_putGate_18 : decode cX0_putGate 18 = .ok (.iadd, 1) := by decide +kernel
theorem dX0_putGate_19 : decode cX0_putGate 19 = .ok (.putfield 29, 3) := by decide +kernel
theorem dX0_putGate_22 : decode cX0_putGate 22 = .ok (.iload_n 2, 1) := by decide +kernel
theorem dX0_putGate_23 : decode cX0_putGate 23 = .ok (.ireturn, 1) := by decide +kernel
set_option maxRecDepth 20000 in
theorem ggX0_rankLack_X0_hasGate : GoodIn wsX0_rankLack wsX0_hasGate := goodIn_r _ [10, 11, 12, 13, 14, 15, 16, 17, 18] (by decide +kernel) (by decide +kernel)
set_option maxRecDepth 20000 in
theorem gX0_rankLack_X0_hasGate : GoodIn wsX0_rankLack (wsV RX0 33 RX0 yX0_hasGate wsX0_hasGate) := goodIn_app (goodIn_of _ (by decide +kernel)) ggX0_rankLack_X0_hasGate
theorem dX0_rankLack_0 : decode cX0_rankLack 0 = .ok (.aload_n 0, 1) := by decide +kernel
theorem dX0_rankLack_1 : decode cX0_rankLack 1 = .ok (.iload_n 1, 1) := by decide +kernel
theorem dX0_rankLack_2 : decode cX0_rankLack 2 = .ok (.invokevirtual 33, 3) := by decide +kernel
theorem dX0_rankLack_5 : decode cX0_rankLack 5 = .ok (.ifCond .eq 18, 3) := by decide +kernel
theorem dX0_rankLack_8 : decode cX0_rankLack 8 = .ok (.iconst 0, 1) := by decide +kernel
theorem dX0_rankLack_9 : decode cX0_rankLack 9 = .ok (.aload_n 0, 1) := by decide +kernel
theorem dX0_rankLack_10 : decode cX0_rankLack 10 = .ok (.getfield 9, 3) := by decide +kernel
theorem dX0_rankLack_13 : decode cX0_rankLack 13 = .ok (.iload_n 1, 1) := by decide +kernel
theorem dX0_rankLack_14 : decode cX0_rankLack 14 = .ok (.iaload, 1) := by decide +kernel
theorem dX0_rankLack_15 : decode cX0_rankLack 15 = .ok (.iload_n 2, 1) := by decide +kernel
theorem dX0_rankLack_16 : decode cX0_rankLack 16 = .ok (.isub, 1) := by decide +kernel
theorem dX0_rankLack_17 : decode cX0_rankLack 17 = .ok (.invokestatic 37, 3) := by decide +kernel
theorem dX0_rankLack_20 : decode cX0_rankLack 20 = .ok (.goto 4, 3) := by decide +kernel
theorem dX0_rankLack_23 : decode cX0_rankLack 23 = .ok (.iconst 0, 1) := by decide +kernel
theorem dX0_rankLack_24 : decode cX0_rankLack 24 = .ok (.ireturn, 1) := by decide +kernel
set_option maxRecDepth 20000 in
theorem ggX0_gateHiss_X0_rankLack : GoodIn wsX0_gateHiss wsX0_rankLack := goodIn_r _ [6, 7, 8, 9, 10, 11, 12, 13, 14, 5, 15, 16, 30, 31, 32, 33, 34, 35, 36] (by decide +kernel) (by decide +kernel)
set_option maxRecDepth 20000 in
theorem gX0_gateHiss_X0_rankLack : GoodIn wsX0_gateHiss (wsV RX0 43 RX0 yX0_rankLack wsX0_rankLack) := goodIn_app (goodIn_of _ (by decide +kernel)) ggX0_gateHiss_X0_rankLack
set_option maxRecDepth 20000 in
theorem ggX0_gateHiss_X1_hissThere : GoodIn wsX0_gateHiss wsX1_hissThere := goodIn_r _ [21, 22, 23, 24, 25, 26, 20, 27, 28, 29, 37, 38, 39, 40, 41] (by decide +kernel) (by decide +kernel)
set_option maxRecDepth 20000 in
theorem gX0_gateHiss_X1_hissThere : GoodIn wsX0_gateHiss (wsV RX0 46 RX1 yX1_hissThere wsX1_hissThere) := goodIn_app (goodIn_of _ (by decide +kernel)) ggX0_gateHiss_X1_hissThere
theorem dX0_gateHiss_0 : decode cX0_gateHiss 0 = .ok (.aload_n 0, 1) := by decide +kernel
theorem dX0_gateHiss_1 : decode cX0_gateHiss 1 = .ok (.getfield 18, 3) := by decide +kernel
theorem dX0_gateHiss_4 : decode cX0_gateHiss 4 = .ok (.iload_n 1, 1) := by decide +kernel
theorem dX0_gateHiss_5 : decode cX0_gateHiss 5 = .ok (.aload_n 0, 1) := by decide +kernel
theorem dX0_gateHiss_6 : decode cX0_gateHiss 6 = .ok (.iload_n 1, 1) := by decide +kernel
theorem dX0_gateHiss_7 : decode cX0_gateHiss 7 = .ok (.iload_n 2, 1) := by decide +kernel
theorem dX0_gateHiss_8 : decode cX0_gateHiss 8 = .ok (.invokevirtual 43, 3) := by decide +kernel
theorem dX0_gateHiss_11 : decode cX0_gateHiss 11 = .ok (.invokevirtual 46, 3) := by decide +kernel
theorem dX0_gateHiss_14 : decode cX0_gateHiss 14 = .ok (.ireturn, 1) := by decide +kernel
set_option maxRecDepth 20000 in
theorem ggX0_guestHiss_X0_gateHiss : GoodIn wsX0_guestHiss wsX0_gateHiss := goodIn_r _ [8, 9, 10, 11, 12, 7, 13, 14, 15, 16, 17, 18, 19, 20, 21, 22, 23, 24, 25, 26, 27, 28, 29, 30, 31, 32, 33, 34, 35, 36, 37, 38, 39, 40, 41, 42, 43, 50, 51, 52, 53, 54] (by decide +kernel) (by decide +kernel)
set_option maxRecDepth 20000 in
theorem gX0_guestHiss_X0_gateHiss : GoodIn wsX0_guestHiss (wsV RX0 55 RX0 yX0_gateHiss wsX0_gateHiss) := goodIn_app (goodIn_of _ (by decide +kernel)) ggX0_guestHiss_X0_gateHiss
theorem dX0_guestHiss_0 : decode cX0_guestHiss 0 = .ok (.aload_n 0, 1) := by decide +kernel
theorem dX0_guestHiss_1 : decode cX0_guestHiss 1 = .ok (.aload_n 0, 1) := by decide +kernel
theorem dX0_guestHiss_2 : decode cX0_guestHiss 2 = .ok (.getfield 25, 3) := by decide +kernel
theorem dX0_guestHiss_5 : decode cX0_guestHiss 5 = .ok (.getfield 49, 3) := by decide +kernel
theorem dX0_guestHiss_8 : decode cX0_guestHiss 8 = .ok (.iload_n 1, 1) := by decide +kernel
theorem dX0_guestHiss_9 : decode cX0_guestHiss 9 = .ok (.iaload, 1) := by decide +kernel
theorem dX0_guestHiss_10 : decode cX0_guestHiss 10 = .ok (.aload_n 0, 1) := by decide +kernel
theorem dX0_guestHiss_11 : decode cX0_guestHiss 11 = .ok (.getfield 25, 3) := by decide +kernel
theorem dX0_guestHiss_14 : decode cX0_guestHiss 14 = .ok (.getfield 52, 3) := by decide +kernel
theorem dX0_guestHiss_17 : decode cX0_guestHiss 17 = .ok (.iload_n 1, 1) := by decide +kernel
theorem dX0_guestHiss_18 : decode cX0_guestHiss 18 = .ok (.iaload, 1) := by decide +kernel
theorem dX0_guestHiss_19 : decode cX0_guestHiss 19 = .ok (.invokevirtual 55, 3) := by decide +kernel
theorem dX0_guestHiss_22 : decode cX0_guestHiss 22 = .ok (.ireturn, 1) := by decide +kernel
theorem dX0_isBehindAll_0 : decode cX0_isBehindAll 0 = .ok (.aload_n 0, 1) := by decide +kernel
theorem dX0_isBehindAll_1 : decode cX0_isBehindAll 1 = .ok (.getfield 25, 3) := by decide +kernel
theorem dX0_isBehindAll_4 : decode cX0_isBehindAll 4 = .ok (.getfield 49, 3) := by decide +kernel
theorem dX0_isBehindAll_7 : decode cX0_isBehindAll 7 = .ok (.iload_n 1, 1) := by decide +kernel
theorem dX0_isBehindAll_8 : decode cX0_isBehindAll 8 = .ok (.iaload, 1) := by decide +kernel
theorem dX0_isBehindAll_9 : decode cX0_isBehindAll 9 = .ok (.aload_n 0, 1) := by decide +kernel
theorem dX0_isBehindAll_10 : decode cX0_isBehindAll 10 = .ok (.getfield 29, 3) := by decide +kernel
theorem dX0_isBehindAll_13 : decode cX0_isBehindAll 13 = .ok (.if_icmp .lt 7, 3) := by decide +kernel
theorem dX0_isBehindAll_16 : decode cX0_isBehindAll 16 = .ok (.iconst 1, 1) := by decide +kernel
theorem dX0_isBehindAll_17 : decode cX0_isBehindAll 17 = .ok (.goto 4, 3) := by decide +kernel
theorem dX0_isBehindAll_20 : decode cX0_isBehindAll 20 = .ok (.iconst 0, 1) := by decide +kernel
theorem dX0_isBehindAll_21 : decode cX0_isBehindAll 21 = .ok (.ireturn, 1) := by decide +kernel
set_option maxRecDepth 20000 in
theorem ggX0_countInside_X0_isBehindAll : GoodIn wsX0_countInside wsX0_isBehindAll := goodIn_r _ [7, 1, 8, 9, 10, 11, 12, 13, 14, 15, 16, 17, 18, 19, 20, 21, 22] (by decide +kernel) (by decide +kernel)
set_option maxRecDepth 20000 in
theorem gX0_countInside_X0_isBehindAll : GoodIn wsX0_countInside (wsV RX0 61 RX0 yX0_isBehindAll wsX0_isBehindAll) := goodIn_app (goodIn_of _ (by decide +kernel)) ggX0_countInside_X0_isBehindAll
theorem dX0_countInside_0 : decode cX0_countInside 0 = .ok (.iconst 0, 1) := by decide +kernel
theorem dX0_countInside_1 : decode cX0_countInside 1 = .ok (.istore_n 1, 1) := by decide +kernel
theorem dX0_countInside_2 : decode cX0_countInside 2 = .ok (.iconst 0, 1) := by decide +kernel
theorem dX0_countInside_3 : decode cX0_countInside 3 = .ok (.istore_n 2, 1) := by decide +kernel
theorem dX0_countInside_4 : decode cX0_countInside 4 = .ok (.iload_n 2, 1) := by decide +kernel
theorem dX0_countInside_5 : decode cX0_countInside 5 = .ok (.aload_n 0, 1) := by decide +kernel
theorem dX0_countInside_6 : decode cX0_countInside 6 = .ok (.getfield 25, 3) := by decide +kernel
theorem dX0_countInside_9 : decode cX0_countInside 9 = .ok (.getfield 58, 3) := by decide +kernel
theorem dX0_countInside_12 : decode cX0_countInside 12 = .ok (.if_icmp .ge 20, 3) := by decide +kernel
theorem dX0_countInside_15 : decode cX0_countInside 15 = .ok (.aload_n 0, 1) := by decide +kernel
theorem dX0_countInside_16 : decode cX0_countInside 16 = .ok (.iload_n 2, 1) := by decide +kernel
theorem dX0_countInside_17 : decode cX0_countInside 17 = .ok (.invokevirtual 61, 3) := by decide +kernel
theorem dX0_countInside_20 : decode cX0_countInside 20 = .ok (.ifCond .eq 6, 3) := by decide +kernel
theorem dX0_countInside_23 : decode cX0_countInside 23 = .ok (.iinc 1 1, 3) := by decide +kernel
theorem dX0_countInside_26 : decode cX0_countInside 26 = .ok (.iinc 2 1, 3) := by decide +kernel
theorem dX0_countInside_29 : decode cX0_countInside 29 = .ok (.goto (-25), 3) := by decide +kernel
theorem dX0_countInside_32 : decode cX0_countInside 32 = .ok (.iload_n 1, 1) := by decide +kernel
theorem dX0_countInside_33 : decode cX0_countInside 33 = .ok (.ireturn, 1) := by decide +kernel
set_option maxRecDepth 20000 in
theorem ggX0_payGoose_X1_feed : GoodIn wsX0_payGoose wsX1_feed := goodIn_r _ [9, 10, 11, 12, 13, 14, 15, 16, 30, 31, 32, 33, 34] (by decide +kernel) (by decide +kernel)
set_option maxRecDepth 20000 in
theorem gX0_payGoose_X1_feed : GoodIn wsX0_payGoose (wsV RX0 67 RX1 yX1_feed wsX1_feed) := goodIn_app (goodIn_of _ (by decide +kernel)) ggX0_payGoose_X1_feed
theorem dX0_payGoose_0 : decode cX0_payGoose 0 = .ok (.aload_n 0, 1) := by decide +kernel
theorem dX0_payGoose_1 : decode cX0_payGoose 1 = .ok (.getfield 25, 3) := by decide +kernel
theorem dX0_payGoose_4 : decode cX0_payGoose 4 = .ok (.getfield 64, 3) := by decide +kernel
theorem dX0_payGoose_7 : decode cX0_payGoose 7 = .ok (.iload_n 1, 1) := by decide +kernel
theorem dX0_payGoose_8 : decode cX0_payGoose 8 = .ok (.dup2, 1) := by decide +kernel
theorem dX0_payGoose_9 : decode cX0_payGoose 9 = .ok (.iaload, 1) := by decide +kernel
theorem dX0_payGoose_10 : decode cX0_payGoose 10 = .ok (.iconst 1, 1) := by decide +kernel
theorem dX0_payGoose_11 : decode cX0_payGoose 11 = .ok (.isub, 1) := by decide +kernel
theorem dX0_payGoose_12 : decode cX0_payGoose 12 = .ok (.iastore, 1) := by decide +kernel
theorem dX0_payGoose_13 : decode cX0_payGoose 13 = .ok (.aload_n 0, 1) := by decide +kernel
theorem dX0_payGoose_14 : decode cX0_payGoose 14 = .ok (.getfield 18, 3) := by decide +kernel
theorem dX0_payGoose_17 : decode cX0_payGoose 17 = .ok (.iload_n 2, 1) := by decide +kernel
theorem dX0_payGoose_18 : decode cX0_payGoose 18 = .ok (.invokevirtual 67, 3) := by decide +kernel
theorem dX0_payGoose_21 : decode cX0_payGoose 21 = .ok (.aload_n 0, 1) := by decide +kernel
theorem dX0_payGoose_22 : decode cX0_payGoose 22 = .ok (.dup, 1) := by decide +kernel
theorem dX0_payGoose_23 : decode cX0_payGoose 23 = .ok (.getfield 71, 3) := by decide +kernel
theorem dX0_payGoose_26 : decode cX0_payGoose 26 = .ok (.iconst 1, 1) := by decide +kernel
theorem dX0_payGoose_27 : decode cX0_payGoose 27 = .ok (.iadd, 1) := by decide +kernel
theorem dX0_payGoose_28 : decode cX0_payGoose 28 = .ok (.putfield 71, 3) := by decide +kernel
theorem dX0_payGoose_31 : decode cX0_payGoose 31 = .ok (.return_, 1) := by decide +kernel
set_option maxRecDepth 20000 in
theorem ggX0_runBeats_X0_runBeat : GoodIn wsX0_runBeats wsX0_runBeat := goodIn_r _ [5, 6, 7, 8, 9, 10, 11, 12, 13, 14, 15, 16, 17, 18, 19, 4, 20, 21, 22, 23, 24, 25, 26, 27, 28, 29, 30, 31, 32, 33, 34, 35, 36, 37, 38, 39, 40, 41, 42, 43, 44, 45, 46, 47, 48, 49, 50, 51, 52, 53, 54, 55, 56, 57, 58, 59, 60, 61, 62, 63, 64, 65, 66, 67, 68, 69, 70, 71, 72, 73, 74, 75, 76, 77, 78, 79, 80, 81, 82, 83, 84, 85, 86, 87, 88, 89, 90, 91, 92, 93, 94, 95, 96, 97, 98, 99, 100, 101, 102, 103, 104, 105, 106, 107, 108, 109, 110, 111, 112, 113, 114] (by decide +kernel) (by decide +kernel)
set_option maxRecDepth 20000 in
theorem gX0_runBeats_X0_runBeat : GoodIn wsX0_runBeats (wsV RX0 89 RX0 yX0_runBeat wsX0_runBeat) := goodIn_app (goodIn_of _ (by decide +kernel)) ggX0_runBeats_X0_runBeat
theorem dX0_runBeats_0 : decode cX0_runBeats 0 = .ok (.iconst 0, 1) := by decide +kernel
theorem dX0_runBeats_1 : decode cX0_runBeats 1 = .ok (.istore_n 2, 1) := by decide +kernel
theorem dX0_runBeats_2 : decode cX0_runBeats 2 = .ok (.iload_n 2, 1) := by decide +kernel
theorem dX0_runBeats_3 : decode cX0_runBeats 3 = .ok (.iload_n 1, 1) := by decide +kernel
theorem dX0_runBeats_4 : decode cX0_runBeats 4 = .ok (.if_icmp .ge 13, 3) := by decide +kernel
theorem dX0_runBeats_7 : decode cX0_runBeats 7 = .ok (.aload_n 0, 1) := by decide +kernel
theorem dX0_runBeats_8 : decode cX0_runBeats 8 = .ok (.invokevirtual 89, 3) := by decide +kernel
theorem dX0_runBeats_11 : decode cX0_runBeats 11 = .ok (.iinc 2 1, 3) := by decide +kernel
theorem dX0_runBeats_14 : decode cX0_runBeats 14 = .ok (.goto (-12), 3) := by decide +kernel
theorem dX0_runBeats_17 : decode cX0_runBeats 17 = .ok (.return_, 1) := by decide +kernel
set_option maxRecDepth 20000 in
theorem ggX0_runBeat_X1_wakeByABeat : GoodIn wsX0_runBeat wsX1_wakeByABeat := goodIn_r _ [9, 10, 11, 106, 107, 108, 109, 110] (by decide +kernel) (by decide +kernel)
set_option maxRecDepth 20000 in
theorem gX0_runBeat_X1_wakeByABeat : GoodIn wsX0_runBeat (wsV RX0 92 RX1 yX1_wakeByABeat wsX1_wakeByABeat) := goodIn_app (goodIn_of _ (by decide +kernel)) ggX0_runBeat_X1_wakeByABeat
set_option maxRecDepth 20000 in
theorem ggX0_runBeat_X0_isBehindAll : GoodIn wsX0_runBeat wsX0_isBehindAll := goodIn_r _ [16, 2, 17, 18, 93, 94, 95, 96, 97, 98, 99, 100, 101, 102, 103, 104, 105] (by decide +kernel) (by decide +kernel)
set_option maxRecDepth 20000 in
theorem gX0_runBeat_X0_isBehindAll : GoodIn wsX0_runBeat (wsV RX0 61 RX0 yX0_isBehindAll wsX0_isBehindAll) := goodIn_app (goodIn_of _ (by decide +kernel)) ggX0_runBeat_X0_isBehindAll
set_option maxRecDepth 20000 in
theorem ggX0_runBeat_X0_moveGuest : GoodIn wsX0_runBeat wsX0_moveGuest := goodIn_r _ [22, 2, 23, 17, 24, 25, 1, 26, 27, 28, 29, 30, 15, 31, 32, 33, 34, 35, 36, 37, 38, 39, 40, 41, 42, 43, 44, 18, 45, 46, 47, 8, 48, 10, 49, 50, 51, 52, 53, 54, 11, 55, 56, 57, 58, 59, 60, 61, 62, 63, 64, 65, 66, 67, 68, 69, 70, 71, 72, 73, 74, 75, 76, 77, 78, 79, 80, 81, 82, 83, 84, 85, 86, 87, 88, 89, 90, 91, 92, 93, 94, 95, 96, 97, 98, 99, 100, 101, 102, 103, 104, 105, 106, 107, 108, 109, 110] (by decide +kernel) (by decide +kernel)
set_option maxRecDepth 20000 in
theorem gX0_runBeat_X0_moveGuest : GoodIn wsX0_runBeat (wsV RX0 95 RX0 yX0_moveGuest wsX0_moveGuest) := goodIn_app (goodIn_of _ (by decide +kernel)) ggX0_runBeat_X0_moveGuest
theorem dX0_runBeat_0 : decode cX0_runBeat 0 = .ok (.aload_n 0, 1) := by decide +kernel
theorem dX0_runBeat_1 : decode cX0_runBeat 1 = .ok (.getfield 18, 3) := by decide +kernel
theorem dX0_runBeat_4 : decode cX0_runBeat 4 = .ok (.invokevirtual 92, 3) := by decide +kernel
theorem dX0_runBeat_7 : decode cX0_runBeat 7 = .ok (.iconst 0, 1) := by decide +kernel
theorem dX0_runBeat_8 : decode cX0_runBeat 8 = .ok (.istore_n 1, 1) := by decide +kernel
theorem dX0_runBeat_9 : decode cX0_runBeat 9 = .ok (.iload_n 1, 1) := by decide +kernel
theorem dX0_runBeat_10 : decode cX0_runBeat 10 = .ok (.aload_n 0, 1) := by decide +kernel
theorem dX0_runBeat_11 : decode cX0_runBeat 11 = .ok (.getfield 25, 3) := by decide +kernel
theorem dX0_runBeat_14 : decode cX0_runBeat 14 = .ok (.getfield 58, 3) := by decide +kernel
theorem dX0_runBeat_17 : decode cX0_runBeat 17 = .ok (.if_icmp .ge 22, 3) := by decide +kernel
theorem dX0_runBeat_20 : decode cX0_runBeat 20 = .ok (.aload_n 0, 1) := by decide +kernel
theorem dX0_runBeat_21 : decode cX0_runBeat 21 = .ok (.iload_n 1, 1) := by decide +kernel
theorem dX0_runBeat_22 : decode cX0_runBeat 22 = .ok (.invokevirtual 61, 3) := by decide +kernel
theorem dX0_runBeat_25 : decode cX0_runBeat 25 = .ok (.ifCond .ne 8, 3) := by decide +kernel
theorem dX0_runBeat_28 : decode cX0_runBeat 28 = .ok (.aload_n 0, 1) := by decide +kernel
theorem dX0_runBeat_29 : decode cX0_runBeat 29 = .ok (.iload_n 1, 1) := by decide +kernel
theorem dX0_runBeat_30 : decode cX0_runBeat 30 = .ok (.invokevirtual 95, 3) := by decide +kernel
theorem dX0_runBeat_33 : decode cX0_runBeat 33 = .ok (.iinc 1 1, 3) := by decide +kernel
theorem dX0_runBeat_36 : decode cX0_runBeat 36 = .ok (.goto (-27), 3) := by decide +kernel
theorem dX0_runBeat_39 : decode cX0_runBeat 39 = .ok (.aload_n 0, 1) := by decide +kernel
theorem dX0_runBeat_40 : decode cX0_runBeat 40 = .ok (.dup, 1) := by decide +kernel
theorem dX0_runBeat_41 : decode cX0_runBeat 41 = .ok (.getfield 98, 3) := by decide +kernel
theorem dX0_runBeat_44 : decode cX0_runBeat 44 = .ok (.iconst 1, 1) := by decide +kernel
theorem dX0_runBeat_45 : decode cX0_runBeat 45 = .ok (.iadd, 1) := by decide +kernel
theorem dX0_runBeat_46 : decode cX0_runBeat 46 = .ok (.putfield 98, 3) := by decide +kernel
theorem dX0_runBeat_49 : decode cX0_runBeat 49 = .ok (.return_, 1) := by decide +kernel
set_option maxRecDepth 20000 in
theorem ggX0_moveGuest_X0_gateHiss : GoodIn wsX0_moveGuest wsX0_gateHiss := goodIn_r _ [13, 6, 14, 15, 16, 12, 17, 18, 19, 20, 21, 22, 23, 24, 25, 26, 27, 28, 29, 30, 31, 32, 33, 34, 35, 36, 37, 38, 39, 40, 79, 80, 81, 82, 83, 84, 85, 92, 93, 94, 95, 96] (by decide +kernel) (by decide +kernel)
set_option maxRecDepth 20000 in
theorem gX0_moveGuest_X0_gateHiss : GoodIn wsX0_moveGuest (wsV RX0 55 RX0 yX0_gateHiss wsX0_gateHiss) := goodIn_app (goodIn_of _ (by decide +kernel)) ggX0_moveGuest_X0_gateHiss
set_option maxRecDepth 20000 in
theorem ggX0_moveGuest_X1_enrage : GoodIn wsX0_moveGuest wsX1_enrage := goodIn_r _ [44, 33, 34, 45, 46, 21, 47, 35, 36, 37, 31, 38, 39, 40, 92, 93, 94, 95, 96] (by decide +kernel) (by decide +kernel)
set_option maxRecDepth 20000 in
theorem gX0_moveGuest_X1_enrage : GoodIn wsX0_moveGuest (wsV RX0 104 RX1 yX1_enrage wsX1_enrage) := goodIn_app (goodIn_of _ (by decide +kernel)) ggX0_moveGuest_X1_enrage
set_option maxRecDepth 20000 in
theorem ggX0_moveGuest_X1_fiercestAwake : GoodIn wsX0_moveGuest wsX1_fiercestAwake := goodIn_r _ [51, 33, 34, 35, 36, 37, 31, 38, 39, 40, 92, 93, 94, 95, 96] (by decide +kernel) (by decide +kernel)
set_option maxRecDepth 20000 in
theorem gX0_moveGuest_X1_fiercestAwake : GoodIn wsX0_moveGuest (wsV RX0 107 RX1 yX1_fiercestAwake wsX1_fiercestAwake) := goodIn_app (goodIn_of _ (by decide +kernel)) ggX0_moveGuest_X1_fiercestAwake
set_option maxRecDepth 20000 in
theorem ggX0_moveGuest_X1_hasGoose : GoodIn wsX0_moveGuest wsX1_hasGoose := goodIn_r _ [55, 33, 92, 93, 94, 95, 96] (by decide +kernel) (by decide +kernel)
set_option maxRecDepth 20000 in
theorem gX0_moveGuest_X1_hasGoose : GoodIn wsX0_moveGuest (wsV RX0 110 RX1 yX1_hasGoose wsX1_hasGoose) := goodIn_app (goodIn_of _ (by decide +kernel)) ggX0_moveGuest_X1_hasGoose
set_option maxRecDepth 20000 in
theorem ggX0_moveGuest_X0_payGoose : GoodIn wsX0_moveGuest wsX0_payGoose := goodIn_r _ [59, 1, 7, 6, 60, 61, 62, 63, 31, 64, 65, 40, 34, 66, 20, 21, 22, 79, 80, 81, 82, 83, 84, 85, 86, 87, 88, 89, 90, 91, 92, 93, 94, 95, 96] (by decide +kernel) (by decide +kernel)
set_option maxRecDepth 20000 in
theorem gX0_moveGuest_X0_payGoose : GoodIn wsX0_moveGuest (wsV RX0 113 RX0 yX0_payGoose wsX0_payGoose) := goodIn_app (goodIn_of _ (by decide +kernel)) ggX0_moveGuest_X0_payGoose
set_option maxRecDepth 20000 in
theorem ggX0_moveGuest_X3_gradeOfHiss : GoodIn wsX0_moveGuest wsX3_gradeOfHiss := goodIn_r _ [69] (by decide +kernel) (by decide +kernel)
set_option maxRecDepth 20000 in
theorem gX0_moveGuest_X3_gradeOfHiss_n117 : GoodIn wsX0_moveGuest (wsX3_gradeOfHiss) := ggX0_moveGuest_X3_gradeOfHiss
set_option maxRecDepth 20000 in
theorem ggX0_moveGuest_X2_fallBack : GoodIn wsX0_moveGuest wsX2_fallBack := goodIn_r _ [74, 75, 76, 77, 46, 21, 47, 78, 86, 87, 88, 89, 90, 91] (by decide +kernel) (by decide +kernel)
set_option maxRecDepth 20000 in
theorem gX0_moveGuest_X2_fallBack : GoodIn wsX0_moveGuest (wsV RX0 120 RX2 yX2_fallBack wsX2_fallBack) := goodIn_app (goodIn_of _ (by decide +kernel)) ggX0_moveGuest_X2_fallBack
theorem dX0_moveGuest_0 : decode cX0_moveGuest 0 = .ok (.aload_n 0, 1) := by decide +kernel
theorem dX0_moveGuest_1 : decode cX0_moveGuest 1 = .ok (.getfield 25, 3) := by decide +kernel
theorem dX0_moveGuest_4 : decode cX0_moveGuest 4 = .ok (.getfield 101, 3) := by decide +kernel
theorem dX0_moveGuest_7 : decode cX0_moveGuest 7 = .ok (.iload_n 1, 1) := by decide +kernel
theorem dX0_moveGuest_8 : decode cX0_moveGuest 8 = .ok (.iaload, 1) := by decide +kernel
theorem dX0_moveGuest_9 : decode cX0_moveGuest 9 = .ok (.ifCond .le 17, 3) := by decide +kernel
theorem dX0_moveGuest_12 : decode cX0_moveGuest 12 = .ok (.aload_n 0, 1) := by decide +kernel
theorem dX0_moveGuest_13 : decode cX0_moveGuest 13 = .ok (.getfield 25, 3) := by decide +kernel
theorem dX0_moveGuest_16 : decode cX0_moveGuest 16 = .ok (.getfield 101, 3) := by decide +kernel
theorem dX0_moveGuest_19 : decode cX0_moveGuest 19 = .ok (.iload_n 1, 1) := by decide +kernel
theorem dX0_moveGuest_20 : decode cX0_moveGuest 20 = .ok (.dup2, 1) := by decide +kernel
theorem dX0_moveGuest_21 : decode cX0_moveGuest 21 = .ok (.iaload, 1) := by decide +kernel
theorem dX0_moveGuest_22 : decode cX0_moveGuest 22 = .ok (.iconst 1, 1) := by decide +kernel
theorem dX0_moveGuest_23 : decode cX0_moveGuest 23 = .ok (.isub, 1) := by decide +kernel
theorem dX0_moveGuest_24 : decode cX0_moveGuest 24 = .ok (.iastore, 1) := by decide +kernel
theorem dX0_moveGuest_25 : decode cX0_moveGuest 25 = .ok (.return_, 1) := by decide +kernel
theorem dX0_moveGuest_26 : decode cX0_moveGuest 26 = .ok (.aload_n 0, 1) := by decide +kernel
theorem dX0_moveGuest_27 : decode cX0_moveGuest 27 = .ok (.getfield 25, 3) := by decide +kernel
theorem dX0_moveGuest_30 : decode cX0_moveGuest 30 = .ok (.getfield 49, 3) := by decide +kernel
theorem dX0_moveGuest_33 : decode cX0_moveGuest 33 = .ok (.iload_n 1, 1) := by decide +kernel
theorem dX0_moveGuest_34 : decode cX0_moveGuest 34 = .ok (.iaload, 1) := by decide +kernel
theorem dX0_moveGuest_35 : decode cX0_moveGuest 35 = .ok (.istore_n 2, 1) := by decide +kernel
theorem dX0_moveGuest_36 : decode cX0_moveGuest 36 = .ok (.aload_n 0, 1) := by decide +kernel
theorem dX0_moveGuest_37 : decode cX0_moveGuest 37 = .ok (.iload_n 2, 1) := by decide +kernel
theorem dX0_moveGuest_38 : decode cX0_moveGuest 38 = .ok (.aload_n 0, 1) := by decide +kernel
theorem dX0_moveGuest_39 : decode cX0_moveGuest 39 = .ok (.getfield 25, 3) := by decide +kernel
theorem dX0_moveGuest_42 : decode cX0_moveGuest 42 = .ok (.getfield 52, 3) := by decide +kernel
theorem dX0_moveGuest_45 : decode cX0_moveGuest 45 = .ok (.iload_n 1, 1) := by decide +kernel
theorem dX0_moveGuest_46 : decode cX0_moveGuest 46 = .ok (.iaload, 1) := by decide +kernel
theorem dX0_moveGuest_47 : decode cX0_moveGuest 47 = .ok (.invokevirtual 55, 3) := by decide +kernel
theorem dX0_moveGuest_50 : decode cX0_moveGuest 50 = .ok (.istore_n 3, 1) := by decide +kernel
theorem dX0_moveGuest_51 : decode cX0_moveGuest 51 = .ok (.iload_n 3, 1) := by decide +kernel
theorem dX0_moveGuest_52 : decode cX0_moveGuest 52 = .ok (.aload_n 0, 1) := by decide +kernel
theorem dX0_moveGuest_53 : decode cX0_moveGuest 53 = .ok (.getfield 25, 3) := by decide +kernel
theorem dX0_moveGuest_56 : decode cX0_moveGuest 56 = .ok (.getfield 79, 3) := by decide +kernel
theorem dX0_moveGuest_59 : decode cX0_moveGuest 59 = .ok (.iload_n 1, 1) := by decide +kernel
theorem dX0_moveGuest_60 : decode cX0_moveGuest 60 = .ok (.iaload, 1) := by decide +kernel
theorem dX0_moveGuest_61 : decode cX0_moveGuest 61 = .ok (.if_icmp .gt 24, 3) := by decide +kernel
theorem dX0_moveGuest_64 : decode cX0_moveGuest 64 = .ok (.aload_n 0, 1) := by decide +kernel
theorem dX0_moveGuest_65 : decode cX0_moveGuest 65 = .ok (.getfield 25, 3) := by decide +kernel
theorem dX0_moveGuest_68 : decode cX0_moveGuest 68 = .ok (.getfield 49, 3) := by decide +kernel
theorem dX0_moveGuest_71 : decode cX0_moveGuest 71 = .ok (.iload_n 1, 1) := by decide +kernel
theorem dX0_moveGuest_72 : decode cX0_moveGuest 72 = .ok (.iload_n 2, 1) := by decide +kernel
theorem dX0_moveGuest_73 : decode cX0_moveGuest 73 = .ok (.iconst 1, 1) := by decide +kernel
theorem dX0_moveGuest_74 : decode cX0_moveGuest 74 = .ok (.iadd, 1) := by decide +kernel
theorem dX0_moveGuest_75 : decode cX0_moveGuest 75 = .ok (.iastore, 1) := by decide +kernel
theorem dX0_moveGuest_76 : decode cX0_moveGuest 76 = .ok (.aload_n 0, 1) := by decide +kernel
theorem dX0_moveGuest_77 : decode cX0_moveGuest 77 = .ok (.getfield 18, 3) := by decide +kernel
theorem dX0_moveGuest_80 : decode cX0_moveGuest 80 = .ok (.iload_n 2, 1) := by decide +kernel
theorem dX0_moveGuest_81 : decode cX0_moveGuest 81 = .ok (.invokevirtual 104, 3) := by decide +kernel
theorem dX0_moveGuest_84 : decode cX0_moveGuest 84 = .ok (.return_, 1) := by decide +kernel
theorem dX0_moveGuest_85 : decode cX0_moveGuest 85 = .ok (.aload_n 0, 1) := by decide +kernel
theorem dX0_moveGuest_86 : decode cX0_moveGuest 86 = .ok (.getfield 18, 3) := by decide +kernel
theorem dX0_moveGuest_89 : decode cX0_moveGuest 89 = .ok (.iload_n 2, 1) := by decide +kernel
theorem dX0_moveGuest_90 : decode cX0_moveGuest 90 = .ok (.invokevirtual 107, 3) := by decide +kernel
theorem dX0_moveGuest_93 : decode cX0_moveGuest 93 = .ok (.istore 4, 2) := by decide +kernel
theorem dX0_moveGuest_95 : decode cX0_moveGuest 95 = .ok (.aload_n 0, 1) := by decide +kernel
theorem dX0_moveGuest_96 : decode cX0_moveGuest 96 = .ok (.getfield 25, 3) := by decide +kernel
theorem dX0_moveGuest_99 : decode cX0_moveGuest 99 = .ok (.getfield 64, 3) := by decide +kernel
theorem dX0_moveGuest_102 : decode cX0_moveGuest 102 = .ok (.iload_n 1, 1) := by decide +kernel
theorem dX0_moveGuest_103 : decode cX0_moveGuest 103 = .ok (.iaload, 1) := by decide +kernel
theorem dX0_moveGuest_104 : decode cX0_moveGuest 104 = .ok (.ifCond .le 25, 3) := by decide +kernel
theorem dX0_moveGuest_107 : decode cX0_moveGuest 107 = .ok (.aload_n 0, 1) := by decide +kernel
theorem dX0_moveGuest_108 : decode cX0_moveGuest 108 = .ok (.getfield 18, 3) := by decide +kernel
theorem dX0_moveGuest_111 : decode cX0_moveGuest 111 = .ok (.iload 4, 2) := by decide +kernel
theorem dX0_moveGuest_113 : decode cX0_moveGuest 113 = .ok (.invokevirtual 110, 3) := by decide +kernel
theorem dX0_moveGuest_116 : decode cX0_moveGuest 116 = .ok (.ifCond .eq 13, 3) := by decide +kernel
theorem dX0_moveGuest_119 : decode cX0_moveGuest 119 = .ok (.aload_n 0, 1) := by decide +kernel
theorem dX0_moveGuest_120 : decode cX0_moveGuest 120 = .ok (.iload_n 1, 1) := by decide +kernel
theorem dX0_moveGuest_121 : decode cX0_moveGuest 121 = .ok (.iload 4, 2) := by decide +kernel
theorem dX0_moveGuest_123 : decode cX0_moveGuest 123 = .ok (.invokevirtual 113, 3) := by decide +kernel
theorem dX0_moveGuest_126 : decode cX0_moveGuest 126 = .ok (.goto 25, 3) := by decide +kernel
theorem dX0_moveGuest_129 : decode cX0_moveGuest 129 = .ok (.aload_n 0, 1) := by decide +kernel
theorem dX0_moveGuest_130 : decode cX0_moveGuest 130 = .ok (.getfield 25, 3) := by decide +kernel
theorem dX0_moveGuest_133 : decode cX0_moveGuest 133 = .ok (.iload_n 1, 1) := by decide +kernel
theorem dX0_moveGuest_134 : decode cX0_moveGuest 134 = .ok (.iload_n 3, 1) := by decide +kernel
theorem dX0_moveGuest_135 : decode cX0_moveGuest 135 = .ok (.invokestatic 117, 3) := by decide +kernel
theorem dX0_moveGuest_138 : decode cX0_moveGuest 138 = .ok (.invokevirtual 120, 3) := by decide +kernel
theorem dX0_moveGuest_141 : decode cX0_moveGuest 141 = .ok (.aload_n 0, 1) := by decide +kernel
theorem dX0_moveGuest_142 : decode cX0_moveGuest 142 = .ok (.dup, 1) := by decide +kernel
theorem dX0_moveGuest_143 : decode cX0_moveGuest 143 = .ok (.getfield 123, 3) := by decide +kernel
theorem dX0_moveGuest_146 : decode cX0_moveGuest 146 = .ok (.iconst 1, 1) := by decide +kernel
theorem dX0_moveGuest_147 : decode cX0_moveGuest 147 = .ok (.iadd, 1) := by decide +kernel
theorem dX0_moveGuest_148 : decode cX0_moveGuest 148 = .ok (.putfield 123, 3) := by decide +kernel
theorem dX0_moveGuest_151 : decode cX0_moveGuest 151 = .ok (.return_, 1) := by decide +kernel
theorem dX1_init_0 : decode cX1_init 0 = .ok (.aload_n 0, 1) := by decide +kernel
theorem dX1_init_1 : decode cX1_init 1 = .ok (.invokespecial 3, 3) := by decide +kernel
theorem dX1_init_4 : decode cX1_init 4 = .ok (.aload_n 0, 1) := by decide +kernel
theorem dX1_init_5 : decode cX1_init 5 = .ok (.bipush 8, 2) := by decide +kernel
theorem dX1_init_7 : decode cX1_init 7 = .ok (.newarray .int, 2) := by decide +kernel
theorem dX1_init_9 : decode cX1_init 9 = .ok (.putfield 9, 3) := by decide +kernel
theorem dX1_init_12 : decode cX1_init 12 = .ok (.aload_n 0, 1) := by decide +kernel
theorem dX1_init_13 : decode cX1_init 13 = .ok (.bipush 8, 2) := by decide +kernel
theorem dX1_init_15 : decode cX1_init 15 = .ok (.newarray .int, 2) := by decide +kernel
theorem dX1_init_17 : decode cX1_init 17 = .ok (.putfield 15, 3) := by decide +kernel
theorem dX1_init_20 : decode cX1_init 20 = .ok (.aload_n 0, 1) := by decide +kernel
theorem dX1_init_21 : decode cX1_init 21 = .ok (.bipush 8, 2) := by decide +kernel
theorem dX1_init_23 : decode cX1_init 23 = .ok (.newarray .int, 2) := by decide +kernel
theorem dX1_init_25 : decode cX1_init 25 = .ok (.putfield 18, 3) := by decide +kernel
theorem dX1_init_28 : decode cX1_init 28 = .ok (.aload_n 0, 1) := by decide +kernel
theorem dX1_init_29 : decode cX1_init 29 = .ok (.bipush 8, 2) := by decide +kernel
theorem dX1_init_31 : decode cX1_init 31 = .ok (.newarray .int, 2) := by decide +kernel
theorem dX1_init_33 : decode cX1_init 33 = .ok (.putfield 21, 3) := by decide +kernel
theorem dX1_init_36 : decode cX1_init 36 = .ok (.return_, 1) := by decide +kernel
theorem dX1_hasGoose_0 : decode cX1_hasGoose 0 = .ok (.iload_n 1, 1) := by decide +kernel
theorem dX1_hasGoose_1 : decode cX1_hasGoose 1 = .ok (.ifCond .lt 15, 3) := by decide +kernel
theorem dX1_hasGoose_4 : decode cX1_hasGoose 4 = .ok (.iload_n 1, 1) := by decide +kernel
theorem dX1_hasGoose_5 : decode cX1_hasGoose 5 = .ok (.aload_n 0, 1) := by decide +kernel
theorem dX1_hasGoose_6 : decode cX1_hasGoose 6 = .ok (.getfield 24, 3) := by decide +kernel
theorem dX1_hasGoose_9 : decode cX1_hasGoose 9 = .ok (.if_icmp .ge 7, 3) := by decide +kernel
theorem dX1_hasGoose_12 : decode cX1_hasGoose 12 = .ok (.iconst 1, 1) := by decide +kernel
theorem dX1_hasGoose_13 : decode cX1_hasGoose 13 = .ok (.goto 4, 3) := by decide +kernel
theorem dX1_hasGoose_16 : decode cX1_hasGoose 16 = .ok (.iconst 0, 1) := by decide +kernel
theorem dX1_hasGoose_17 : decode cX1_hasGoose 17 = .ok (.ireturn, 1) := by decide +kernel
theorem dX1_putGoose_0 : decode cX1_putGoose 0 = .ok (.aload_n 0, 1) := by decide +kernel
theorem dX1_putGoose_1 : decode cX1_putGoose 1 = .ok (.getfield 24, 3) := by decide +kernel
theorem dX1_putGoose_4 : decode cX1_putGoose 4 = .ok (.istore_n 3, 1) := by decide +kernel
theorem dX1_putGoose_5 : decode cX1_putGoose 5 = .ok (.aload_n 0, 1) := by decide +kernel
theorem dX1_putGoose_6 : decode cX1_putGoose 6 = .ok (.getfield 9, 3) := by decide +kernel
theorem dX1_putGoose_9 : decode cX1_putGoose 9 = .ok (.iload_n 3, 1) := by decide +kernel
theorem dX1_putGoose_10 : decode cX1_putGoose 10 = .ok (.iload_n 1, 1) := by decide +kernel
theorem dX1_putGoose_11 : decode cX1_putGoose 11 = .ok (.iastore, 1) := by decide +kernel
theorem dX1_putGoose_12 : decode cX1_putGoose 12 = .ok (.aload_n 0, 1) := by decide +kernel
theorem dX1_putGoose_13 : decode cX1_putGoose 13 = .ok (.getfield 15, 3) := by decide +kernel
theorem dX1_putGoose_16 : decode cX1_putGoose 16 = .ok (.iload_n 3, 1) := by decide +kernel
theorem dX1_putGoose_17 : decode cX1_putGoose 17 = .ok (.iload_n 2, 1) := by decide +kernel
theorem dX1_putGoose_18 : decode cX1_putGoose 18 = .ok (.iastore, 1) := by decide +kernel
theorem dX1_putGoose_19 : decode cX1_putGoose 19 = .ok (.aload_n 0, 1) := by decide +kernel
theorem dX1_putGoose_20 : decode cX1_putGoose 20 = .ok (.dup, 1) := by decide +kernel
theorem dX1_putGoose_21 : decode cX1_putGoose 21 = .ok (.getfield 24, 3) := by decide +kernel
theorem dX1_putGoose_24 : decode cX1_putGoose 24 = .ok (.iconst 1, 1) := by decide +kernel
theorem dX1_putGoose_25 : decode cX1_putGoose 25 = .ok (.iadd, 1) := by decide +kernel
theorem dX1_putGoose_26 : decode cX1_putGoose 26 = .ok (.putfield 24, 3) := by decide +kernel
theorem dX1_putGoose_29 : decode cX1_putGoose 29 = .ok (.iload_n 3, 1) := by decide +kernel
theorem dX1_putGoose_30 : decode cX1_putGoose 30 = .ok (.ireturn, 1) := by decide +kernel
theorem dX1_isAwakeThere_0 : decode cX1_isAwakeThere 0 = .ok (.aload_n 0, 1) := by decide +kernel
theorem dX1_isAwakeThere_1 : decode cX1_isAwakeThere 1 = .ok (.getfield 9, 3) := by decide +kernel
theorem dX1_isAwakeThere_4 : decode cX1_isAwakeThere 4 = .ok (.iload_n 1, 1) := by decide +kernel
theorem dX1_isAwakeThere_5 : decode cX1_isAwakeThere 5 = .ok (.iaload, 1) := by decide +kernel
theorem dX1_isAwakeThere_6 : decode cX1_isAwakeThere 6 = .ok (.iload_n 2, 1) := by decide +kernel
theorem dX1_isAwakeThere_7 : decode cX1_isAwakeThere 7 = .ok (.if_icmp .ne 16, 3) := by decide +kernel
theorem dX1_isAwakeThere_10 : decode cX1_isAwakeThere 10 = .ok (.aload_n 0, 1) := by decide +kernel
theorem dX1_isAwakeThere_11 : decode cX1_isAwakeThere 11 = .ok (.getfield 18, 3) := by decide +kernel
theorem dX1_isAwakeThere_14 : decode cX1_isAwakeThere 14 = .ok (.iload_n 1, 1) := by decide +kernel
theorem dX1_isAwakeThere_15 : decode cX1_isAwakeThere 15 = .ok (.iaload, 1) := by decide +kernel
theorem dX1_isAwakeThere_16 : decode cX1_isAwakeThere 16 = .ok (.ifCond .ne 7, 3) := by decide +kernel
theorem dX1_isAwakeThere_19 : decode cX1_isAwakeThere 19 = .ok (.iconst 1, 1) := by decide +kernel
theorem dX1_isAwakeThere_20 : decode cX1_isAwakeThere 20 = .ok (.goto 4, 3) := by decide +kernel
theorem dX1_isAwakeThere_23 : decode cX1_isAwakeThere 23 = .ok (.iconst 0, 1) := by decide +kernel
theorem dX1_isAwakeThere_24 : decode cX1_isAwakeThere 24 = .ok (.ireturn, 1) := by decide +kernel
set_option maxRecDepth 20000 in
theorem ggX1_countAwake_X1_isAwakeThere : GoodIn wsX1_countAwake wsX1_isAwakeThere := goodIn_r _ [6, 7, 8, 9, 10, 11, 12, 13] (by decide +kernel) (by decide +kernel)
set_option maxRecDepth 20000 in
theorem gX1_countAwake_X1_isAwakeThere : GoodIn wsX1_countAwake (wsV RX1 28 RX1 yX1_isAwakeThere wsX1_isAwakeThere) := goodIn_app (goodIn_of _ (by decide +kernel)) ggX1_countAwake_X1_isAwakeThere
theorem dX1_countAwake_0 : decode cX1_countAwake 0 = .ok (.iconst 0, 1) := by decide +kernel
theorem dX1_countAwake_1 : decode cX1_countAwake 1 = .ok (.istore_n 2, 1) := by decide +kernel
theorem dX1_countAwake_2 : decode cX1_countAwake 2 = .ok (.iconst 0, 1) := by decide +kernel
theorem dX1_countAwake_3 : decode cX1_countAwake 3 = .ok (.istore_n 3, 1) := by decide +kernel
theorem dX1_countAwake_4 : decode cX1_countAwake 4 = .ok (.iload_n 3, 1) := by decide +kernel
theorem dX1_countAwake_5 : decode cX1_countAwake 5 = .ok (.aload_n 0, 1) := by decide +kernel
theorem dX1_countAwake_6 : decode cX1_countAwake 6 = .ok (.getfield 24, 3) := by decide +kernel
theorem dX1_countAwake_9 : decode cX1_countAwake 9 = .ok (.if_icmp .ge 21, 3) := by decide +kernel
theorem dX1_countAwake_12 : decode cX1_countAwake 12 = .ok (.aload_n 0, 1) := by decide +kernel
theorem dX1_countAwake_13 : decode cX1_countAwake 13 = .ok (.iload_n 3, 1) := by decide +kernel
theorem dX1_countAwake_14 : decode cX1_countAwake 14 = .ok (.iload_n 1, 1) := by decide +kernel
theorem dX1_countAwake_15 : decode cX1_countAwake 15 = .ok (.invokevirtual 28, 3) := by decide +kernel
theorem dX1_countAwake_18 : decode cX1_countAwake 18 = .ok (.ifCond .eq 6, 3) := by decide +kernel
theorem dX1_countAwake_21 : decode cX1_countAwake 21 = .ok (.iinc 2 1, 3) := by decide +kernel
theorem dX1_countAwake_24 : decode cX1_countAwake 24 = .ok (.iinc 3 1, 3) := by decide +kernel
theorem dX1_countAwake_27 : decode cX1_countAwake 27 = .ok (.goto (-23), 3) := by decide +kernel
theorem dX1_countAwake_30 : decode cX1_countAwake 30 = .ok (.iload_n 2, 1) := by decide +kernel
theorem dX1_countAwake_31 : decode cX1_countAwake 31 = .ok (.ireturn, 1) := by decide +kernel
set_option maxRecDepth 20000 in
theorem ggX1_hissThere_X1_isAwakeThere : GoodIn wsX1_hissThere wsX1_isAwakeThere := goodIn_r _ [7, 8, 9, 10, 11, 12, 13, 14] (by decide +kernel) (by decide +kernel)
set_option maxRecDepth 20000 in
theorem gX1_hissThere_X1_isAwakeThere : GoodIn wsX1_hissThere (wsV RX1 28 RX1 yX1_isAwakeThere wsX1_isAwakeThere) := goodIn_app (goodIn_of _ (by decide +kernel)) ggX1_hissThere_X1_isAwakeThere
theorem dX1_hissThere_0 : decode cX1_hissThere 0 = .ok (.iconst 0, 1) := by decide +kernel
theorem dX1_hissThere_1 : decode cX1_hissThere 1 = .ok (.istore_n 3, 1) := by decide +kernel
theorem dX1_hissThere_2 : decode cX1_hissThere 2 = .ok (.iconst 0, 1) := by decide +kernel
theorem dX1_hissThere_3 : decode cX1_hissThere 3 = .ok (.istore 4, 2) := by decide +kernel
theorem dX1_hissThere_5 : decode cX1_hissThere 5 = .ok (.iload 4, 2) := by decide +kernel
theorem dX1_hissThere_7 : decode cX1_hissThere 7 = .ok (.aload_n 0, 1) := by decide +kernel
theorem dX1_hissThere_8 : decode cX1_hissThere 8 = .ok (.getfield 24, 3) := by decide +kernel
theorem dX1_hissThere_11 : decode cX1_hissThere 11 = .ok (.if_icmp .ge 31, 3) := by decide +kernel
theorem dX1_hissThere_14 : decode cX1_hissThere 14 = .ok (.aload_n 0, 1) := by decide +kernel
theorem dX1_hissThere_15 : decode cX1_hissThere 15 = .ok (.iload 4, 2) := by decide +kernel
theorem dX1_hissThere_17 : decode cX1_hissThere 17 = .ok (.iload_n 1, 1) := by decide +kernel
theorem dX1_hissThere_18 : decode cX1_hissThere 18 = .ok (.invokevirtual 28, 3) := by decide +kernel
theorem dX1_hissThere_21 : decode cX1_hissThere 21 = .ok (.ifCond .eq 15, 3) := by decide +kernel
theorem dX1_hissThere_24 : decode cX1_hissThere 24 = .ok (.iload_n 3, 1) := by decide +kernel
theorem dX1_hissThere_25 : decode cX1_hissThere 25 = .ok (.aload_n 0, 1) := by decide +kernel
theorem dX1_hissThere_26 : decode cX1_hissThere 26 = .ok (.getfield 15, 3) := by decide +kernel
theorem dX1_hissThere_29 : decode cX1_hissThere 29 = .ok (.iload 4, 2) := by decide +kernel
theorem dX1_hissThere_31 : decode cX1_hissThere 31 = .ok (.iaload, 1) := by decide +kernel
theorem dX1_hissThere_32 : decode cX1_hissThere 32 = .ok (.iload_n 2, 1) := by decide +kernel
theorem dX1_hissThere_33 : decode cX1_hissThere 33 = .ok (.iadd, 1) := by decide +kernel
theorem dX1_hissThere_34 : decode cX1_hissThere 34 = .ok (.iadd, 1) := by decide +kernel
theorem dX1_hissThere_35 : decode cX1_hissThere 35 = .ok (.istore_n 3, 1) := by decide +kernel
theorem dX1_hissThere_36 : decode cX1_hissThere 36 = .ok (.iinc 4 1, 3) := by decide +kernel
theorem dX1_hissThere_39 : decode cX1_hissThere 39 = .ok (.goto (-34), 3) := by decide +kernel
theorem dX1_hissThere_42 : decode cX1_hissThere 42 = .ok (.iload_n 3, 1) := by decide +kernel
theorem dX1_hissThere_43 : decode cX1_hissThere 43 = .ok (.ireturn, 1) := by decide +kernel
set_option maxRecDepth 20000 in
theorem ggX1_fiercestAwake_X1_isAwakeThere : GoodIn wsX1_fiercestAwake wsX1_isAwakeThere := goodIn_r _ [7, 8, 9, 10, 11, 12, 13, 14] (by decide +kernel) (by decide +kernel)
set_option maxRecDepth 20000 in
theorem gX1_fiercestAwake_X1_isAwakeThere : GoodIn wsX1_fiercestAwake (wsV RX1 28 RX1 yX1_isAwakeThere wsX1_isAwakeThere) := goodIn_app (goodIn_of _ (by decide +kernel)) ggX1_fiercestAwake_X1_isAwakeThere
theorem dX1_fiercestAwake_0 : decode cX1_fiercestAwake 0 = .ok (.iconst (-1), 1) := by decide +kernel
theorem dX1_fiercestAwake_1 : decode cX1_fiercestAwake 1 = .ok (.istore_n 2, 1) := by decide +kernel
theorem dX1_fiercestAwake_2 : decode cX1_fiercestAwake 2 = .ok (.iconst 0, 1) := by decide +kernel
theorem dX1_fiercestAwake_3 : decode cX1_fiercestAwake 3 = .ok (.istore_n 3, 1) := by decide +kernel
theorem dX1_fiercestAwake_4 : decode cX1_fiercestAwake 4 = .ok (.iconst 0, 1) := by decide +kernel
theorem dX1_fiercestAwake_5 : decode cX1_fiercestAwake 5 = .ok (.istore 4, 2) := by decide +kernel
theorem dX1_fiercestAwake_7 : decode cX1_fiercestAwake 7 = .ok (.iload 4, 2) := by decide +kernel
theorem dX1_fiercestAwake_9 : decode cX1_fiercestAwake 9 = .ok (.aload_n 0, 1) := by decide +kernel
theorem dX1_fiercestAwake_10 : decode cX1_fiercestAwake 10 = .ok (.getfield 24, 3) := by decide +kernel
theorem dX1_fiercestAwake_13 : decode cX1_fiercestAwake 13 = .ok (.if_icmp .ge 41, 3) := by decide +kernel
theorem dX1_fiercestAwake_16 : decode cX1_fiercestAwake 16 = .ok (.aload_n 0, 1) := by decide +kernel
theorem dX1_fiercestAwake_17 : decode cX1_fiercestAwake 17 = .ok (.iload 4, 2) := by decide +kernel
theorem dX1_fiercestAwake_19 : decode cX1_fiercestAwake 19 = .ok (.iload_n 1, 1) := by decide +kernel
theorem dX1_fiercestAwake_20 : decode cX1_fiercestAwake 20 = .ok (.invokevirtual 28, 3) := by decide +kernel
theorem dX1_fiercestAwake_23 : decode cX1_fiercestAwake 23 = .ok (.ifCond .eq 25, 3) := by decide +kernel
theorem dX1_fiercestAwake_26 : decode cX1_fiercestAwake 26 = .ok (.aload_n 0, 1) := by decide +kernel
theorem dX1_fiercestAwake_27 : decode cX1_fiercestAwake 27 = .ok (.getfield 15, 3) := by decide +kernel
theorem dX1_fiercestAwake_30 : decode cX1_fiercestAwake 30 = .ok (.iload 4, 2) := by decide +kernel
theorem dX1_fiercestAwake_32 : decode cX1_fiercestAwake 32 = .ok (.iaload, 1) := by decide +kernel
theorem dX1_fiercestAwake_33 : decode cX1_fiercestAwake 33 = .ok (.iload_n 3, 1) := by decide +kernel
theorem dX1_fiercestAwake_34 : decode cX1_fiercestAwake 34 = .ok (.if_icmp .le 14, 3) := by decide +kernel
theorem dX1_fiercestAwake_37 : decode cX1_fiercestAwake 37 = .ok (.aload_n 0, 1) := by decide +kernel
theorem dX1_fiercestAwake_38 : decode cX1_fiercestAwake 38 = .ok (.getfield 15, 3) := by decide +kernel
theorem dX1_fiercestAwake_41 : decode cX1_fiercestAwake 41 = .ok (.iload 4, 2) := by decide +kernel
theorem dX1_fiercestAwake_43 : decode cX1_fiercestAwake 43 = .ok (.iaload, 1) := by decide +kernel
theorem dX1_fiercestAwake_44 : decode cX1_fiercestAwake 44 = .ok (.istore_n 3, 1) := by decide +kernel
theorem dX1_fiercestAwake_45 : decode cX1_fiercestAwake 45 = .ok (.iload 4, 2) := by decide +kernel
theorem dX1_fiercestAwake_47 : decode cX1_fiercestAwake 47 = .ok (.istore_n 2, 1) := by decide +kernel
theorem dX1_fiercestAwake_48 : decode cX1_fiercestAwake 48 = .ok (.iinc 4 1, 3) := by decide +kernel
theorem dX1_fiercestAwake_51 : decode cX1_fiercestAwake 51 = .ok (.goto (-44), 3) := by decide +kernel
theorem dX1_fiercestAwake_54 : decode cX1_fiercestAwake 54 = .ok (.iload_n 2, 1) := by decide +kernel
theorem dX1_fiercestAwake_55 : decode cX1_fiercestAwake 55 = .ok (.ireturn, 1) := by decide +kernel
end
section
theorem dX1_feed_0 : decode cX1_feed 0 = .ok (.aload_n 0, 1) := by decide +kernel
theorem dX1_feed_1 : decode cX1_feed 1 = .ok (.getfield 21, 3) := by decide +kernel
theorem dX1_feed_4 : decode cX1_feed 4 = .ok (.iload_n 1, 1) := by decide +kernel
theorem dX1_feed_5 : decode cX1_feed 5 = .ok (.dup2, 1) := by decide +kernel
theorem dX1_feed_6 : decode cX1_feed 6 = .ok (.iaload, 1) := by decide +kernel
theorem dX1_feed_7 : decode cX1_feed 7 = .ok (.iconst 1, 1) := by decide +kernel
theorem dX1_feed_8 : decode cX1_feed 8 = .ok (.iadd, 1) := by decide +kernel
theorem dX1_feed_9 : decode cX1_feed 9 = .ok (.iastore, 1) := by decide +kernel
theorem dX1_feed_10 : decode cX1_feed 10 = .ok (.aload_n 0, 1) := by decide +kernel
theorem dX1_feed_11 : decode cX1_feed 11 = .ok (.getfield 18, 3) := by decide +kernel
theorem dX1_feed_14 : decode cX1_feed 14 = .ok (.iload_n 1, 1) := by decide +kernel
theorem dX1_feed_15 : decode cX1_feed 15 = .ok (.iconst 3, 1) := by decide +kernel
theorem dX1_feed_16 : decode cX1_feed 16 = .ok (.iastore, 1) := by decide +kernel
theorem dX1_feed_17 : decode cX1_feed 17 = .ok (.aload_n 0, 1) := by decide +kernel
theorem dX1_feed_18 : decode cX1_feed 18 = .ok (.getfield 15, 3) := by decide +kernel
theorem dX1_feed_21 : decode cX1_feed 21 = .ok (.iload_n 1, 1) := by decide +kernel
theorem dX1_feed_22 : decode cX1_feed 22 = .ok (.iconst 1, 1) := by decide +kernel
theorem dX1_feed_23 : decode cX1_feed 23 = .ok (.aload_n 0, 1) := by decide +kernel
theorem dX1_feed_24 : decode cX1_feed 24 = .ok (.getfield 15, 3) := by decide +kernel
theorem dX1_feed_27 : decode cX1_feed 27 = .ok (.iload_n 1, 1) := by decide +kernel
theorem dX1_feed_28 : decode cX1_feed 28 = .ok (.iaload, 1) := by decide +kernel
theorem dX1_feed_29 : decode cX1_feed 29 = .ok (.iconst 1, 1) := by decide +kernel
theorem dX1_feed_30 : decode cX1_feed 30 = .ok (.isub, 1) := by decide +kernel
theorem dX1_feed_31 : decode cX1_feed 31 = .ok (.invokestatic 32, 3) := by decide +kernel
theorem dX1_feed_34 : decode cX1_feed 34 = .ok (.iastore, 1) := by decide +kernel
theorem dX1_feed_35 : decode cX1_feed 35 = .ok (.return_, 1) := by decide +kernel
set_option maxRecDepth 20000 in
theorem ggX1_enrage_X1_isAwakeThere : GoodIn wsX1_enrage wsX1_isAwakeThere := goodIn_r _ [11, 12, 13, 14, 15, 16, 17, 18] (by decide +kernel) (by decide +kernel)
set_option maxRecDepth 20000 in
theorem gX1_enrage_X1_isAwakeThere : GoodIn wsX1_enrage (wsV RX1 28 RX1 yX1_isAwakeThere wsX1_isAwakeThere) := goodIn_app (goodIn_of _ (by decide +kernel)) ggX1_enrage_X1_isAwakeThere
theorem dX1_enrage_0 : decode cX1_enrage 0 = .ok (.iconst 0, 1) := by decide +kernel
theorem dX1_enrage_1 : decode cX1_enrage 1 = .ok (.istore_n 2, 1) := by decide +kernel
theorem dX1_enrage_2 : decode cX1_enrage 2 = .ok (.iload_n 2, 1) := by decide +kernel
theorem dX1_enrage_3 : decode cX1_enrage 3 = .ok (.aload_n 0, 1) := by decide +kernel
theorem dX1_enrage_4 : decode cX1_enrage 4 = .ok (.getfield 24, 3) := by decide +kernel
theorem dX1_enrage_7 : decode cX1_enrage 7 = .ok (.if_icmp .ge 37, 3) := by decide +kernel
theorem dX1_enrage_10 : decode cX1_enrage 10 = .ok (.aload_n 0, 1) := by decide +kernel
theorem dX1_enrage_11 : decode cX1_enrage 11 = .ok (.iload_n 2, 1) := by decide +kernel
theorem dX1_enrage_12 : decode cX1_enrage 12 = .ok (.iload_n 1, 1) := by decide +kernel
theorem dX1_enrage_13 : decode cX1_enrage 13 = .ok (.invokevirtual 28, 3) := by decide +kernel
theorem dX1_enrage_16 : decode cX1_enrage 16 = .ok (.ifCond .eq 22, 3) := by decide +kernel
theorem dX1_enrage_19 : decode cX1_enrage 19 = .ok (.aload_n 0, 1) := by decide +kernel
theorem dX1_enrage_20 : decode cX1_enrage 20 = .ok (.getfield 15, 3) := by decide +kernel
theorem dX1_enrage_23 : decode cX1_enrage 23 = .ok (.iload_n 2, 1) := by decide +kernel
theorem dX1_enrage_24 : decode cX1_enrage 24 = .ok (.bipush 9, 2) := by decide +kernel
theorem dX1_enrage_26 : decode cX1_enrage 26 = .ok (.aload_n 0, 1) := by decide +kernel
theorem dX1_enrage_27 : decode cX1_enrage 27 = .ok (.getfield 15, 3) := by decide +kernel
theorem dX1_enrage_30 : decode cX1_enrage 30 = .ok (.iload_n 2, 1) := by decide +kernel
theorem dX1_enrage_31 : decode cX1_enrage 31 = .ok (.iaload, 1) := by decide +kernel
theorem dX1_enrage_32 : decode cX1_enrage 32 = .ok (.iconst 1, 1) := by decide +kernel
theorem dX1_enrage_33 : decode cX1_enrage 33 = .ok (.iadd, 1) := by decide +kernel
theorem dX1_enrage_34 : decode cX1_enrage 34 = .ok (.invokestatic 38, 3) := by decide +kernel
theorem dX1_enrage_37 : decode cX1_enrage 37 = .ok (.iastore, 1) := by decide +kernel
theorem dX1_enrage_38 : decode cX1_enrage 38 = .ok (.iinc 2 1, 3) := by decide +kernel
theorem dX1_enrage_41 : decode cX1_enrage 41 = .ok (.goto (-39), 3) := by decide +kernel
theorem dX1_enrage_44 : decode cX1_enrage 44 = .ok (.return_, 1) := by decide +kernel
theorem dX1_wakeByABeat_0 : decode cX1_wakeByABeat 0 = .ok (.iconst 0, 1) := by decide +kernel
theorem dX1_wakeByABeat_1 : decode cX1_wakeByABeat 1 = .ok (.istore_n 1, 1) := by decide +kernel
theorem dX1_wakeByABeat_2 : decode cX1_wakeByABeat 2 = .ok (.iload_n 1, 1) := by decide +kernel
theorem dX1_wakeByABeat_3 : decode cX1_wakeByABeat 3 = .ok (.aload_n 0, 1) := by decide +kernel
theorem dX1_wakeByABeat_4 : decode cX1_wakeByABeat 4 = .ok (.getfield 24, 3) := by decide +kernel
theorem dX1_wakeByABeat_7 : decode cX1_wakeByABeat 7 = .ok (.if_icmp .ge 28, 3) := by decide +kernel
theorem dX1_wakeByABeat_10 : decode cX1_wakeByABeat 10 = .ok (.aload_n 0, 1) := by decide +kernel
theorem dX1_wakeByABeat_11 : decode cX1_wakeByABeat 11 = .ok (.getfield 18, 3) := by decide +kernel
theorem dX1_wakeByABeat_14 : decode cX1_wakeByABeat 14 = .ok (.iload_n 1, 1) := by decide +kernel
theorem dX1_wakeByABeat_15 : decode cX1_wakeByABeat 15 = .ok (.iaload, 1) := by decide +kernel
theorem dX1_wakeByABeat_16 : decode cX1_wakeByABeat 16 = .ok (.ifCond .le 13, 3) := by decide +kernel
theorem dX1_wakeByABeat_19 : decode cX1_wakeByABeat 19 = .ok (.aload_n 0, 1) := by decide +kernel
theorem dX1_wakeByABeat_20 : decode cX1_wakeByABeat 20 = .ok (.getfield 18, 3) := by decide +kernel
theorem dX1_wakeByABeat_23 : decode cX1_wakeByABeat 23 = .ok (.iload_n 1, 1) := by decide +kernel
theorem dX1_wakeByABeat_24 : decode cX1_wakeByABeat 24 = .ok (.dup2, 1) := by decide +kernel
theorem dX1_wakeByABeat_25 : decode cX1_wakeByABeat 25 = .ok (.iaload, 1) := by decide +kernel
theorem dX1_wakeByABeat_26 : decode cX1_wakeByABeat 26 = .ok (.iconst 1, 1) := by decide +kernel
theorem dX1_wakeByABeat_27 : decode cX1_wakeByABeat 27 = .ok (.isub, 1) := by decide +kernel
theorem dX1_wakeByABeat_28 : decode cX1_wakeByABeat 28 = .ok (.iastore, 1) := by decide +kernel
theorem dX1_wakeByABeat_29 : decode cX1_wakeByABeat 29 = .ok (.iinc 1 1, 3) := by decide +kernel
theorem dX1_wakeByABeat_32 : decode cX1_wakeByABeat 32 = .ok (.goto (-30), 3) := by decide +kernel
theorem dX1_wakeByABeat_35 : decode cX1_wakeByABeat 35 = .ok (.return_, 1) := by decide +kernel
theorem dX1_sumOfTempers_0 : decode cX1_sumOfTempers 0 = .ok (.iconst 0, 1) := by decide +kernel
theorem dX1_sumOfTempers_1 : decode cX1_sumOfTempers 1 = .ok (.istore_n 1, 1) := by decide +kernel
theorem dX1_sumOfTempers_2 : decode cX1_sumOfTempers 2 = .ok (.iconst 0, 1) := by decide +kernel
theorem dX1_sumOfTempers_3 : decode cX1_sumOfTempers 3 = .ok (.istore_n 2, 1) := by decide +kernel
theorem dX1_sumOfTempers_4 : decode cX1_sumOfTempers 4 = .ok (.iload_n 2, 1) := by decide +kernel
theorem dX1_sumOfTempers_5 : decode cX1_sumOfTempers 5 = .ok (.aload_n 0, 1) := by decide +kernel
theorem dX1_sumOfTempers_6 : decode cX1_sumOfTempers 6 = .ok (.getfield 24, 3) := by decide +kernel
theorem dX1_sumOfTempers_9 : decode cX1_sumOfTempers 9 = .ok (.if_icmp .ge 18, 3) := by decide +kernel
theorem dX1_sumOfTempers_12 : decode cX1_sumOfTempers 12 = .ok (.iload_n 1, 1) := by decide +kernel
theorem dX1_sumOfTempers_13 : decode cX1_sumOfTempers 13 = .ok (.aload_n 0, 1) := by decide +kernel
theorem dX1_sumOfTempers_14 : decode cX1_sumOfTempers 14 = .ok (.getfield 15, 3) := by decide +kernel
theorem dX1_sumOfTempers_17 : decode cX1_sumOfTempers 17 = .ok (.iload_n 2, 1) := by decide +kernel
theorem dX1_sumOfTempers_18 : decode cX1_sumOfTempers 18 = .ok (.iaload, 1) := by decide +kernel
theorem dX1_sumOfTempers_19 : decode cX1_sumOfTempers 19 = .ok (.iadd, 1) := by decide +kernel
theorem dX1_sumOfTempers_20 : decode cX1_sumOfTempers 20 = .ok (.istore_n 1, 1) := by decide +kernel
theorem dX1_sumOfTempers_21 : decode cX1_sumOfTempers 21 = .ok (.iinc 2 1, 3) := by decide +kernel
theorem dX1_sumOfTempers_24 : decode cX1_sumOfTempers 24 = .ok (.goto (-20), 3) := by decide +kernel
theorem dX1_sumOfTempers_27 : decode cX1_sumOfTempers 27 = .ok (.iload_n 1, 1) := by decide +kernel
theorem dX1_sumOfTempers_28 : decode cX1_sumOfTempers 28 = .ok (.ireturn, 1) := by decide +kernel
theorem dX2_init_0 : decode cX2_init 0 = .ok (.aload_n 0, 1) := by decide +kernel
theorem dX2_init_1 : decode cX2_init 1 = .ok (.invokespecial 3, 3) := by decide +kernel
theorem dX2_init_4 : decode cX2_init 4 = .ok (.aload_n 0, 1) := by decide +kernel
theorem dX2_init_5 : decode cX2_init 5 = .ok (.bipush 8, 2) := by decide +kernel
theorem dX2_init_7 : decode cX2_init 7 = .ok (.newarray .int, 2) := by decide +kernel
theorem dX2_init_9 : decode cX2_init 9 = .ok (.putfield 9, 3) := by decide +kernel
theorem dX2_init_12 : decode cX2_init 12 = .ok (.aload_n 0, 1) := by decide +kernel
theorem dX2_init_13 : decode cX2_init 13 = .ok (.bipush 8, 2) := by decide +kernel
theorem dX2_init_15 : decode cX2_init 15 = .ok (.newarray .int, 2) := by decide +kernel
theorem dX2_init_17 : decode cX2_init 17 = .ok (.putfield 15, 3) := by decide +kernel
theorem dX2_init_20 : decode cX2_init 20 = .ok (.aload_n 0, 1) := by decide +kernel
theorem dX2_init_21 : decode cX2_init 21 = .ok (.bipush 8, 2) := by decide +kernel
theorem dX2_init_23 : decode cX2_init 23 = .ok (.newarray .int, 2) := by decide +kernel
theorem dX2_init_25 : decode cX2_init 25 = .ok (.putfield 18, 3) := by decide +kernel
theorem dX2_init_28 : decode cX2_init 28 = .ok (.aload_n 0, 1) := by decide +kernel
theorem dX2_init_29 : decode cX2_init 29 = .ok (.bipush 8, 2) := by decide +kernel
theorem dX2_init_31 : decode cX2_init 31 = .ok (.newarray .int, 2) := by decide +kernel
theorem dX2_init_33 : decode cX2_init 33 = .ok (.putfield 21, 3) := by decide +kernel
theorem dX2_init_36 : decode cX2_init 36 = .ok (.aload_n 0, 1) := by decide +kernel
theorem dX2_init_37 : decode cX2_init 37 = .ok (.bipush 8, 2) := by decide +kernel
theorem dX2_init_39 : decode cX2_init 39 = .ok (.newarray .int, 2) := by decide +kernel
theorem dX2_init_41 : decode cX2_init 41 = .ok (.putfield 24, 3) := by decide +kernel
theorem dX2_init_44 : decode cX2_init 44 = .ok (.return_, 1) := by decide +kernel
theorem dX2_hasGuest_0 : decode cX2_hasGuest 0 = .ok (.iload_n 1, 1) := by decide +kernel
theorem dX2_hasGuest_1 : decode cX2_hasGuest 1 = .ok (.ifCond .lt 15, 3) := by decide +kernel
theorem dX2_hasGuest_4 : decode cX2_hasGuest 4 = .ok (.iload_n 1, 1) := by decide +kernel
theorem dX2_hasGuest_5 : decode cX2_hasGuest 5 = .ok (.aload_n 0, 1) := by decide +kernel
theorem dX2_hasGuest_6 : decode cX2_hasGuest 6 = .ok (.getfield 27, 3) := by decide +kernel
theorem dX2_hasGuest_9 : decode cX2_hasGuest 9 = .ok (.if_icmp .ge 7, 3) := by decide +kernel
theorem dX2_hasGuest_12 : decode cX2_hasGuest 12 = .ok (.iconst 1, 1) := by decide +kernel
theorem dX2_hasGuest_13 : decode cX2_hasGuest 13 = .ok (.goto 4, 3) := by decide +kernel
theorem dX2_hasGuest_16 : decode cX2_hasGuest 16 = .ok (.iconst 0, 1) := by decide +kernel
theorem dX2_hasGuest_17 : decode cX2_hasGuest 17 = .ok (.ireturn, 1) := by decide +kernel
theorem dX2_putGuest_0 : decode cX2_putGuest 0 = .ok (.aload_n 0, 1) := by decide +kernel
theorem dX2_putGuest_1 : decode cX2_putGuest 1 = .ok (.getfield 27, 3) := by decide +kernel
theorem dX2_putGuest_4 : decode cX2_putGuest 4 = .ok (.istore 4, 2) := by decide +kernel
theorem dX2_putGuest_6 : decode cX2_putGuest 6 = .ok (.aload_n 0, 1) := by decide +kernel
theorem dX2_putGuest_7 : decode cX2_putGuest 7 = .ok (.getfield 9, 3) := by decide +kernel
theorem dX2_putGuest_10 : decode cX2_putGuest 10 = .ok (.iload 4, 2) := by decide +kernel
theorem dX2_putGuest_12 : decode cX2_putGuest 12 = .ok (.iload_n 1, 1) := by decide +kernel
theorem dX2_putGuest_13 : decode cX2_putGuest 13 = .ok (.iastore, 1) := by decide +kernel
theorem dX2_putGuest_14 : decode cX2_putGuest 14 = .ok (.aload_n 0, 1) := by decide +kernel
theorem dX2_putGuest_15 : decode cX2_putGuest 15 = .ok (.getfield 15, 3) := by decide +kernel
theorem dX2_putGuest_18 : decode cX2_putGuest 18 = .ok (.iload 4, 2) := by decide +kernel
theorem dX2_putGuest_20 : decode cX2_putGuest 20 = .ok (.iload_n 2, 1) := by decide +kernel
theorem dX2_putGuest_21 : decode cX2_putGuest 21 = .ok (.iastore, 1) := by decide +kernel
theorem dX2_putGuest_22 : decode cX2_putGuest 22 = .ok (.aload_n 0, 1) := by decide +kernel
theorem dX2_putGuest_23 : decode cX2_putGuest 23 = .ok (.getfield 18, 3) := by decide +kernel
theorem dX2_putGuest_26 : decode cX2_putGuest 26 = .ok (.iload 4, 2) := by decide +kernel
theorem dX2_putGuest_28 : decode cX2_putGuest 28 = .ok (.iload_n 3, 1) := by decide +kernel
theorem dX2_putGuest_29 : decode cX2_putGuest 29 = .ok (.iastore, 1) := by decide +kernel
theorem dX2_putGuest_30 : decode cX2_putGuest 30 = .ok (.aload_n 0, 1) := by decide +kernel
theorem dX2_putGuest_31 : decode cX2_putGuest 31 = .ok (.dup, 1) := by decide +kernel
theorem dX2_putGuest_32 : decode cX2_putGuest 32 = .ok (.getfield 27, 3) := by decide +kernel
theorem dX2_putGuest_35 : decode cX2_putGuest 35 = .ok (.iconst 1, 1) := by decide +kernel
theorem dX2_putGuest_36 : decode cX2_putGuest 36 = .ok (.iadd, 1) := by decide +kernel
theorem dX2_putGuest_37 : decode cX2_putGuest 37 = .ok (.putfield 27, 3) := by decide +kernel
theorem dX2_putGuest_40 : decode cX2_putGuest 40 = .ok (.iload 4, 2) := by decide +kernel
theorem dX2_putGuest_42 : decode cX2_putGuest 42 = .ok (.ireturn, 1) := by decide +kernel
theorem dX2_fallBack_0 : decode cX2_fallBack 0 = .ok (.aload_n 0, 1) := by decide +kernel
theorem dX2_fallBack_1 : decode cX2_fallBack 1 = .ok (.getfield 24, 3) := by decide +kernel
theorem dX2_fallBack_4 : decode cX2_fallBack 4 = .ok (.iload_n 1, 1) := by decide +kernel
theorem dX2_fallBack_5 : decode cX2_fallBack 5 = .ok (.iload_n 2, 1) := by decide +kernel
theorem dX2_fallBack_6 : decode cX2_fallBack 6 = .ok (.iastore, 1) := by decide +kernel
theorem dX2_fallBack_7 : decode cX2_fallBack 7 = .ok (.aload_n 0, 1) := by decide +kernel
theorem dX2_fallBack_8 : decode cX2_fallBack 8 = .ok (.getfield 15, 3) := by decide +kernel
theorem dX2_fallBack_11 : decode cX2_fallBack 11 = .ok (.iload_n 1, 1) := by decide +kernel
theorem dX2_fallBack_12 : decode cX2_fallBack 12 = .ok (.bipush 20, 2) := by decide +kernel
theorem dX2_fallBack_14 : decode cX2_fallBack 14 = .ok (.aload_n 0, 1) := by decide +kernel
theorem dX2_fallBack_15 : decode cX2_fallBack 15 = .ok (.getfield 15, 3) := by decide +kernel
theorem dX2_fallBack_18 : decode cX2_fallBack 18 = .ok (.iload_n 1, 1) := by decide +kernel
theorem dX2_fallBack_19 : decode cX2_fallBack 19 = .ok (.iaload, 1) := by decide +kernel
theorem dX2_fallBack_20 : decode cX2_fallBack 20 = .ok (.iconst 1, 1) := by decide +kernel
theorem dX2_fallBack_21 : decode cX2_fallBack 21 = .ok (.iadd, 1) := by decide +kernel
theorem dX2_fallBack_22 : decode cX2_fallBack 22 = .ok (.invokestatic 31, 3) := by decide +kernel
theorem dX2_fallBack_25 : decode cX2_fallBack 25 = .ok (.iastore, 1) := by decide +kernel
theorem dX2_fallBack_26 : decode cX2_fallBack 26 = .ok (.aload_n 0, 1) := by decide +kernel
theorem dX2_fallBack_27 : decode cX2_fallBack 27 = .ok (.getfield 21, 3) := by decide +kernel
theorem dX2_fallBack_30 : decode cX2_fallBack 30 = .ok (.iload_n 1, 1) := by decide +kernel
theorem dX2_fallBack_31 : decode cX2_fallBack 31 = .ok (.iaload, 1) := by decide +kernel
theorem dX2_fallBack_32 : decode cX2_fallBack 32 = .ok (.ifCond .le 13, 3) := by decide +kernel
theorem dX2_fallBack_35 : decode cX2_fallBack 35 = .ok (.aload_n 0, 1) := by decide +kernel
theorem dX2_fallBack_36 : decode cX2_fallBack 36 = .ok (.getfield 21, 3) := by decide +kernel
theorem dX2_fallBack_39 : decode cX2_fallBack 39 = .ok (.iload_n 1, 1) := by decide +kernel
theorem dX2_fallBack_40 : decode cX2_fallBack 40 = .ok (.dup2, 1) := by decide +kernel
theorem dX2_fallBack_41 : decode cX2_fallBack 41 = .ok (.iaload, 1) := by decide +kernel
theorem dX2_fallBack_42 : decode cX2_fallBack 42 = .ok (.iconst 1, 1) := by decide +kernel
theorem dX2_fallBack_43 : decode cX2_fallBack 43 = .ok (.isub, 1) := by decide +kernel
theorem dX2_fallBack_44 : decode cX2_fallBack 44 = .ok (.iastore, 1) := by decide +kernel
theorem dX2_fallBack_45 : decode cX2_fallBack 45 = .ok (.return_, 1) := by decide +kernel
theorem dJ9_max_7cf53_0 : decode cJ9_max_7cf53 0 = .ok (.iload_n 0, 1) := by decide +kernel
theorem dJ9_max_7cf53_1 : decode cJ9_max_7cf53 1 = .ok (.iload_n 1, 1) := by decide +kernel
theorem dJ9_max_7cf53_2 : decode cJ9_max_7cf53 2 = .ok (.if_icmp .lt 7, 3) := by decide +kernel
theorem dJ9_max_7cf53_5 : decode cJ9_max_7cf53 5 = .ok (.iload_n 0, 1) := by decide +kernel
theorem dJ9_max_7cf53_6 : decode cJ9_max_7cf53 6 = .ok (.goto 4, 3) := by decide +kernel
theorem dJ9_max_7cf53_9 : decode cJ9_max_7cf53 9 = .ok (.iload_n 1, 1) := by decide +kernel
theorem dJ9_max_7cf53_10 : decode cJ9_max_7cf53 10 = .ok (.ireturn, 1) := by decide +kernel
theorem dJ9_min_7cf53_0 : decode cJ9_min_7cf53 0 = .ok (.iload_n 0, 1) := by decide +kernel
theorem dJ9_min_7cf53_1 : decode cJ9_min_7cf53 1 = .ok (.iload_n 1, 1) := by decide +kernel
theorem dJ9_min_7cf53_2 : decode cJ9_min_7cf53 2 = .ok (.if_icmp .gt 7, 3) := by decide +kernel
theorem dJ9_min_7cf53_5 : decode cJ9_min_7cf53 5 = .ok (.iload_n 0, 1) := by decide +kernel
theorem dJ9_min_7cf53_6 : decode cJ9_min_7cf53 6 = .ok (.goto 4, 3) := by decide +kernel
theorem dJ9_min_7cf53_9 : decode cJ9_min_7cf53 9 = .ok (.iload_n 1, 1) := by decide +kernel
theorem dJ9_min_7cf53_10 : decode cJ9_min_7cf53 10 = .ok (.ireturn, 1) := by decide +kernel
end
section
set_option maxRecDepth 20000 in
theorem ggX3_init_X0_init : GoodIn wsX3_init wsX0_init := goodIn_r _ [10, 11, 2, 3, 12, 13, 14, 15, 16, 17, 18, 19, 20, 21, 22, 23, 24, 25, 26, 27, 28, 29, 30, 31, 32, 33, 34, 35, 36, 37, 38, 39, 40, 41, 42, 43, 46, 47, 48, 49, 50, 51, 52, 53, 54, 55, 56] (by decide +kernel) (by decide +kernel)
set_option maxRecDepth 20000 in
theorem gX3_init_X0_init_n9 : GoodIn wsX3_init (wsX0_init) := ggX3_init_X0_init
theorem dX3_init_0 : decode cX3_init 0 = .ok (.aload_n 0, 1) := by decide +kernel
theorem dX3_init_1 : decode cX3_init 1 = .ok (.invokespecial 1, 3) := by decide +kernel
theorem dX3_init_4 : decode cX3_init 4 = .ok (.aload_n 0, 1) := by decide +kernel
theorem dX3_init_5 : decode cX3_init 5 = .ok (.new 7, 3) := by decide +kernel
theorem dX3_init_8 : decode cX3_init 8 = .ok (.dup, 1) := by decide +kernel
theorem dX3_init_9 : decode cX3_init 9 = .ok (.invokespecial 9, 3) := by decide +kernel
theorem dX3_init_12 : decode cX3_init 12 = .ok (.putfield 10, 3) := by decide +kernel
theorem dX3_init_15 : decode cX3_init 15 = .ok (.aload_n 0, 1) := by decide +kernel
theorem dX3_init_16 : decode cX3_init 16 = .ok (.new 7, 3) := by decide +kernel
theorem dX3_init_19 : decode cX3_init 19 = .ok (.dup, 1) := by decide +kernel
theorem dX3_init_20 : decode cX3_init 20 = .ok (.invokespecial 9, 3) := by decide +kernel
theorem dX3_init_23 : decode cX3_init 23 = .ok (.putfield 16, 3) := by decide +kernel
theorem dX3_init_26 : decode cX3_init 26 = .ok (.return_, 1) := by decide +kernel
set_option maxRecDepth 20000 in
theorem ggX3_addGate_X3_isRank : GoodIn wsX3_addGate wsX3_isRank := goodIn_r _ [8, 9, 10, 7, 11] (by decide +kernel) (by decide +kernel)
set_option maxRecDepth 20000 in
theorem gX3_addGate_X3_isRank : GoodIn wsX3_addGate (va_wsS RX3 19 yX3_isRank wsX3_isRank) := goodIn_app (goodIn_of _ (by decide +kernel)) ggX3_addGate_X3_isRank
set_option maxRecDepth 20000 in
theorem ggX3_addGate_X3_demandArgument : GoodIn wsX3_addGate wsX3_demandArgument := goodIn_ca (goodIn_r _ [14, 15, 16] (by decide +kernel) (by decide +kernel)) (goodIn_sub (fun _ h => List.mem_cons_of_mem _ (List.mem_append_left _ (List.mem_append_right _ h))) (by decide +kernel))
set_option maxRecDepth 20000 in
theorem gX3_addGate_X3_demandArgument : GoodIn wsX3_addGate (va_wsS RX3 23 yX3_demandArgument wsX3_demandArgument) := goodIn_app (goodIn_of _ (by decide +kernel)) ggX3_addGate_X3_demandArgument
set_option maxRecDepth 20000 in
theorem ggX3_addGate_X3_demandState : GoodIn wsX3_addGate wsX3_demandState := goodIn_ca (goodIn_r _ [19, 20, 21] (by decide +kernel) (by decide +kernel)) (goodIn_sub (fun _ h => List.mem_cons_of_mem _ (List.mem_append_right _ h)) (by decide +kernel))
set_option maxRecDepth 20000 in
theorem gX3_addGate_X3_demandState : GoodIn wsX3_addGate (va_wsS RX3 40 yX3_demandState wsX3_demandState) := goodIn_app (goodIn_of _ (by decide +kernel)) ggX3_addGate_X3_demandState
set_option maxRecDepth 20000 in
theorem ggX3_addGate_X0_putGate : GoodIn wsX3_addGate wsX0_putGate := goodIn_r _ [26, 27, 28, 31, 32, 33, 34, 35, 36, 37] (by decide +kernel) (by decide +kernel)
set_option maxRecDepth 20000 in
theorem gX3_addGate_X0_putGate : GoodIn wsX3_addGate (wsV RX3 43 RX0 yX0_putGate wsX0_putGate) := goodIn_app (goodIn_of _ (by decide +kernel)) ggX3_addGate_X0_putGate
theorem dX3_addGate_0 : decode cX3_addGate 0 = .ok (.iload_n 1, 1) := by decide +kernel
theorem dX3_addGate_1 : decode cX3_addGate 1 = .ok (.invokestatic 19, 3) := by decide +kernel
theorem dX3_addGate_4 : decode cX3_addGate 4 = .ok (.invokestatic 23, 3) := by decide +kernel
theorem dX3_addGate_7 : decode cX3_addGate 7 = .ok (.aload_n 0, 1) := by decide +kernel
theorem dX3_addGate_8 : decode cX3_addGate 8 = .ok (.getfield 10, 3) := by decide +kernel
theorem dX3_addGate_11 : decode cX3_addGate 11 = .ok (.getfield 27, 3) := by decide +kernel
theorem dX3_addGate_14 : decode cX3_addGate 14 = .ok (.bipush 6, 2) := by decide +kernel
theorem dX3_addGate_16 : decode cX3_addGate 16 = .ok (.if_icmp .ge 20, 3) := by decide +kernel
theorem dX3_addGate_19 : decode cX3_addGate 19 = .ok (.aload_n 0, 1) := by decide +kernel
theorem dX3_addGate_20 : decode cX3_addGate 20 = .ok (.getfield 10, 3) := by decide +kernel
theorem dX3_addGate_23 : decode cX3_addGate 23 = .ok (.getfield 31, 3) := by decide +kernel
theorem dX3_addGate_26 : decode cX3_addGate 26 = .ok (.getfield 35, 3) := by decide +kernel
theorem dX3_addGate_29 : decode cX3_addGate 29 = .ok (.ifCond .ne 7, 3) := by decide +kernel
theorem dX3_addGate_32 : decode cX3_addGate 32 = .ok (.iconst 1, 1) := by decide +kernel
theorem dX3_addGate_33 : decode cX3_addGate 33 = .ok (.goto 4, 3) := by decide +kernel
theorem dX3_addGate_36 : decode cX3_addGate 36 = .ok (.iconst 0, 1) := by decide +kernel
theorem dX3_addGate_37 : decode cX3_addGate 37 = .ok (.invokestatic 40, 3) := by decide +kernel
theorem dX3_addGate_40 : decode cX3_addGate 40 = .ok (.aload_n 0, 1) := by decide +kernel
theorem dX3_addGate_41 : decode cX3_addGate 41 = .ok (.getfield 10, 3) := by decide +kernel
theorem dX3_addGate_44 : decode cX3_addGate 44 = .ok (.iload_n 1, 1) := by decide +kernel
theorem dX3_addGate_45 : decode cX3_addGate 45 = .ok (.invokevirtual 43, 3) := by decide +kernel
theorem dX3_addGate_48 : decode cX3_addGate 48 = .ok (.ireturn, 1) := by decide +kernel
set_option maxRecDepth 20000 in
theorem ggX3_addGoose_X0_hasGate : GoodIn wsX3_addGoose wsX0_hasGate := goodIn_r _ [8, 9, 39, 40, 41, 42, 43, 44, 45] (by decide +kernel) (by decide +kernel)
set_option maxRecDepth 20000 in
theorem gX3_addGoose_X0_hasGate : GoodIn wsX3_addGoose (wsV RX3 47 RX0 yX0_hasGate wsX0_hasGate) := goodIn_app (goodIn_of _ (by decide +kernel)) ggX3_addGoose_X0_hasGate
set_option maxRecDepth 20000 in
theorem ggX3_addGoose_X3_demandIndex : GoodIn wsX3_addGoose wsX3_demandIndex := goodIn_ca (goodIn_r _ [13, 14, 15] (by decide +kernel) (by decide +kernel)) (goodIn_sub (fun _ h => List.mem_cons_of_mem _ (List.mem_append_left _ (List.mem_append_left _ (List.mem_append_right _ h)))) (by decide +kernel))
set_option maxRecDepth 20000 in
theorem gX3_addGoose_X3_demandIndex : GoodIn wsX3_addGoose (va_wsS RX3 50 yX3_demandIndex wsX3_demandIndex) := goodIn_app (goodIn_of _ (by decide +kernel)) ggX3_addGoose_X3_demandIndex
set_option maxRecDepth 20000 in
theorem ggX3_addGoose_X3_isWithin : GoodIn wsX3_addGoose wsX3_isWithin := goodIn_r _ [18] (by decide +kernel) (by decide +kernel)
set_option maxRecDepth 20000 in
theorem gX3_addGoose_X3_isWithin : GoodIn wsX3_addGoose (va_wsS RX3 53 yX3_isWithin wsX3_isWithin) := goodIn_app (goodIn_of _ (by decide +kernel)) ggX3_addGoose_X3_isWithin
set_option maxRecDepth 20000 in
theorem ggX3_addGoose_X3_demandArgument : GoodIn wsX3_addGoose wsX3_demandArgument := goodIn_ca (goodIn_r _ [21, 22, 23] (by decide +kernel) (by decide +kernel)) (goodIn_sub (fun _ h => List.mem_cons_of_mem _ (List.mem_append_left _ (List.mem_append_right _ h))) (by decide +kernel))
set_option maxRecDepth 20000 in
theorem gX3_addGoose_X3_demandArgument : GoodIn wsX3_addGoose (va_wsS RX3 23 yX3_demandArgument wsX3_demandArgument) := goodIn_app (goodIn_of _ (by decide +kernel)) ggX3_addGoose_X3_demandArgument
set_option maxRecDepth 20000 in
theorem ggX3_addGoose_X3_demandState : GoodIn wsX3_addGoose wsX3_demandState := goodIn_ca (goodIn_r _ [26, 27, 28] (by decide +kernel) (by decide +kernel)) (goodIn_sub (fun _ h => List.mem_cons_of_mem _ (List.mem_append_right _ h)) (by decide +kernel))
set_option maxRecDepth 20000 in
theorem gX3_addGoose_X3_demandState : GoodIn wsX3_addGoose (va_wsS RX3 40 yX3_demandState wsX3_demandState) := goodIn_app (goodIn_of _ (by decide +kernel)) ggX3_addGoose_X3_demandState
set_option maxRecDepth 20000 in
theorem ggX3_addGoose_X1_putGoose : GoodIn wsX3_addGoose wsX1_putGoose := goodIn_r _ [33, 34, 35, 36, 46, 47, 48, 49, 50] (by decide +kernel) (by decide +kernel)
set_option maxRecDepth 20000 in
theorem gX3_addGoose_X1_putGoose : GoodIn wsX3_addGoose (wsV RX3 64 RX1 yX1_putGoose wsX1_putGoose) := goodIn_app (goodIn_of _ (by decide +kernel)) ggX3_addGoose_X1_putGoose
theorem dX3_addGoose_0 : decode cX3_addGoose 0 = .ok (.aload_n 0, 1) := by decide +kernel
theorem dX3_addGoose_1 : decode cX3_addGoose 1 = .ok (.getfield 10, 3) := by decide +kernel
theorem dX3_addGoose_4 : decode cX3_addGoose 4 = .ok (.iload_n 1, 1) := by decide +kernel
theorem dX3_addGoose_5 : decode cX3_addGoose 5 = .ok (.invokevirtual 47, 3) := by decide +kernel
theorem dX3_addGoose_8 : decode cX3_addGoose 8 = .ok (.invokestatic 50, 3) := by decide +kernel
theorem dX3_addGoose_11 : decode cX3_addGoose 11 = .ok (.iload_n 2, 1) := by decide +kernel
theorem dX3_addGoose_12 : decode cX3_addGoose 12 = .ok (.iconst 1, 1) := by decide +kernel
theorem dX3_addGoose_13 : decode cX3_addGoose 13 = .ok (.bipush 9, 2) := by decide +kernel
theorem dX3_addGoose_15 : decode cX3_addGoose 15 = .ok (.invokestatic 53, 3) := by decide +kernel
theorem dX3_addGoose_18 : decode cX3_addGoose 18 = .ok (.invokestatic 23, 3) := by decide +kernel
theorem dX3_addGoose_21 : decode cX3_addGoose 21 = .ok (.aload_n 0, 1) := by decide +kernel
theorem dX3_addGoose_22 : decode cX3_addGoose 22 = .ok (.getfield 10, 3) := by decide +kernel
theorem dX3_addGoose_25 : decode cX3_addGoose 25 = .ok (.getfield 57, 3) := by decide +kernel
theorem dX3_addGoose_28 : decode cX3_addGoose 28 = .ok (.getfield 61, 3) := by decide +kernel
theorem dX3_addGoose_31 : decode cX3_addGoose 31 = .ok (.bipush 8, 2) := by decide +kernel
theorem dX3_addGoose_33 : decode cX3_addGoose 33 = .ok (.if_icmp .ge 7, 3) := by decide +kernel
theorem dX3_addGoose_36 : decode cX3_addGoose 36 = .ok (.iconst 1, 1) := by decide +kernel
theorem dX3_addGoose_37 : decode cX3_addGoose 37 = .ok (.goto 4, 3) := by decide +kernel
theorem dX3_addGoose_40 : decode cX3_addGoose 40 = .ok (.iconst 0, 1) := by decide +kernel
theorem dX3_addGoose_41 : decode cX3_addGoose 41 = .ok (.invokestatic 40, 3) := by decide +kernel
theorem dX3_addGoose_44 : decode cX3_addGoose 44 = .ok (.aload_n 0, 1) := by decide +kernel
theorem dX3_addGoose_45 : decode cX3_addGoose 45 = .ok (.getfield 10, 3) := by decide +kernel
theorem dX3_addGoose_48 : decode cX3_addGoose 48 = .ok (.getfield 57, 3) := by decide +kernel
theorem dX3_addGoose_51 : decode cX3_addGoose 51 = .ok (.iload_n 1, 1) := by decide +kernel
theorem dX3_addGoose_52 : decode cX3_addGoose 52 = .ok (.iload_n 2, 1) := by decide +kernel
theorem dX3_addGoose_53 : decode cX3_addGoose 53 = .ok (.invokevirtual 64, 3) := by decide +kernel
theorem dX3_addGoose_56 : decode cX3_addGoose 56 = .ok (.ireturn, 1) := by decide +kernel
set_option maxRecDepth 20000 in
theorem ggX3_arrive_X3_isRank : GoodIn wsX3_arrive wsX3_isRank := goodIn_r _ [8, 9, 10, 7, 11] (by decide +kernel) (by decide +kernel)
set_option maxRecDepth 20000 in
theorem gX3_arrive_X3_isRank : GoodIn wsX3_arrive (va_wsS RX3 19 yX3_isRank wsX3_isRank) := goodIn_app (goodIn_of _ (by decide +kernel)) ggX3_arrive_X3_isRank
set_option maxRecDepth 20000 in
theorem ggX3_arrive_X3_isNerve : GoodIn wsX3_arrive wsX3_isNerve := goodIn_r _ [14, 9, 10, 7, 11] (by decide +kernel) (by decide +kernel)
set_option maxRecDepth 20000 in
theorem gX3_arrive_X3_isNerve : GoodIn wsX3_arrive (va_wsS RX3 68 yX3_isNerve wsX3_isNerve) := goodIn_app (goodIn_of _ (by decide +kernel)) ggX3_arrive_X3_isNerve
set_option maxRecDepth 20000 in
theorem ggX3_arrive_X3_isWithin : GoodIn wsX3_arrive wsX3_isWithin := goodIn_r _ [11] (by decide +kernel) (by decide +kernel)
set_option maxRecDepth 20000 in
theorem gX3_arrive_X3_isWithin : GoodIn wsX3_arrive (va_wsS RX3 53 yX3_isWithin wsX3_isWithin) := goodIn_app (goodIn_of _ (by decide +kernel)) ggX3_arrive_X3_isWithin
set_option maxRecDepth 20000 in
theorem ggX3_arrive_X3_demandArgument : GoodIn wsX3_arrive wsX3_demandArgument := goodIn_ca (goodIn_r _ [17, 18, 19] (by decide +kernel) (by decide +kernel)) (goodIn_sub (fun _ h => List.mem_cons_of_mem _ (List.mem_append_left _ (List.mem_append_right _ h))) (by decide +kernel))
set_option maxRecDepth 20000 in
theorem gX3_arrive_X3_demandArgument : GoodIn wsX3_arrive (va_wsS RX3 23 yX3_demandArgument wsX3_demandArgument) := goodIn_app (goodIn_of _ (by decide +kernel)) ggX3_arrive_X3_demandArgument
set_option maxRecDepth 20000 in
theorem ggX3_arrive_X3_demandState : GoodIn wsX3_arrive wsX3_demandState := goodIn_ca (goodIn_r _ [22, 23, 24] (by decide +kernel) (by decide +kernel)) (goodIn_sub (fun _ h => List.mem_cons_of_mem _ (List.mem_append_right _ h)) (by decide +kernel))
set_option maxRecDepth 20000 in
theorem gX3_arrive_X3_demandState : GoodIn wsX3_arrive (va_wsS RX3 40 yX3_demandState wsX3_demandState) := goodIn_app (goodIn_of _ (by decide +kernel)) ggX3_arrive_X3_demandState
set_option maxRecDepth 20000 in
theorem ggX3_arrive_X2_putGuest : GoodIn wsX3_arrive wsX2_putGuest := goodIn_r _ [29, 30, 31, 32, 33, 43, 44, 45, 46, 47, 48] (by decide +kernel) (by decide +kernel)
set_option maxRecDepth 20000 in
theorem gX3_arrive_X2_putGuest : GoodIn wsX3_arrive (wsV RX3 71 RX2 yX2_putGuest wsX2_putGuest) := goodIn_app (goodIn_of _ (by decide +kernel)) ggX3_arrive_X2_putGuest
theorem dX3_arrive_0 : decode cX3_arrive 0 = .ok (.iload_n 1, 1) := by decide +kernel
theorem dX3_arrive_1 : decode cX3_arrive 1 = .ok (.invokestatic 19, 3) := by decide +kernel
theorem dX3_arrive_4 : decode cX3_arrive 4 = .ok (.ifCond .eq 24, 3) := by decide +kernel
theorem dX3_arrive_7 : decode cX3_arrive 7 = .ok (.iload_n 2, 1) := by decide +kernel
theorem dX3_arrive_8 : decode cX3_arrive 8 = .ok (.invokestatic 68, 3) := by decide +kernel
theorem dX3_arrive_11 : decode cX3_arrive 11 = .ok (.ifCond .eq 17, 3) := by decide +kernel
theorem dX3_arrive_14 : decode cX3_arrive 14 = .ok (.iload_n 3, 1) := by decide +kernel
theorem dX3_arrive_15 : decode cX3_arrive 15 = .ok (.iconst 0, 1) := by decide +kernel
theorem dX3_arrive_16 : decode cX3_arrive 16 = .ok (.bipush 20, 2) := by decide +kernel
theorem dX3_arrive_18 : decode cX3_arrive 18 = .ok (.invokestatic 53, 3) := by decide +kernel
theorem dX3_arrive_21 : decode cX3_arrive 21 = .ok (.ifCond .eq 7, 3) := by decide +kernel
theorem dX3_arrive_24 : decode cX3_arrive 24 = .ok (.iconst 1, 1) := by decide +kernel
theorem dX3_arrive_25 : decode cX3_arrive 25 = .ok (.goto 4, 3) := by decide +kernel
theorem dX3_arrive_28 : decode cX3_arrive 28 = .ok (.iconst 0, 1) := by decide +kernel
theorem dX3_arrive_29 : decode cX3_arrive 29 = .ok (.invokestatic 23, 3) := by decide +kernel
theorem dX3_arrive_32 : decode cX3_arrive 32 = .ok (.aload_n 0, 1) := by decide +kernel
theorem dX3_arrive_33 : decode cX3_arrive 33 = .ok (.getfield 10, 3) := by decide +kernel
theorem dX3_arrive_36 : decode cX3_arrive 36 = .ok (.getfield 27, 3) := by decide +kernel
theorem dX3_arrive_39 : decode cX3_arrive 39 = .ok (.ifCond .le 22, 3) := by decide +kernel
theorem dX3_arrive_42 : decode cX3_arrive 42 = .ok (.aload_n 0, 1) := by decide +kernel
theorem dX3_arrive_43 : decode cX3_arrive 43 = .ok (.getfield 10, 3) := by decide +kernel
theorem dX3_arrive_46 : decode cX3_arrive 46 = .ok (.getfield 31, 3) := by decide +kernel
theorem dX3_arrive_49 : decode cX3_arrive 49 = .ok (.getfield 35, 3) := by decide +kernel
theorem dX3_arrive_52 : decode cX3_arrive 52 = .ok (.bipush 8, 2) := by decide +kernel
theorem dX3_arrive_54 : decode cX3_arrive 54 = .ok (.if_icmp .ge 7, 3) := by decide +kernel
theorem dX3_arrive_57 : decode cX3_arrive 57 = .ok (.iconst 1, 1) := by decide +kernel
theorem dX3_arrive_58 : decode cX3_arrive 58 = .ok (.goto 4, 3) := by decide +kernel
theorem dX3_arrive_61 : decode cX3_arrive 61 = .ok (.iconst 0, 1) := by decide +kernel
theorem dX3_arrive_62 : decode cX3_arrive 62 = .ok (.invokestatic 40, 3) := by decide +kernel
theorem dX3_arrive_65 : decode cX3_arrive 65 = .ok (.aload_n 0, 1) := by decide +kernel
theorem dX3_arrive_66 : decode cX3_arrive 66 = .ok (.getfield 10, 3) := by decide +kernel
theorem dX3_arrive_69 : decode cX3_arrive 69 = .ok (.getfield 31, 3) := by decide +kernel
theorem dX3_arrive_72 : decode cX3_arrive 72 = .ok (.iload_n 1, 1) := by decide +kernel
theorem dX3_arrive_73 : decode cX3_arrive 73 = .ok (.iload_n 2, 1) := by decide +kernel
theorem dX3_arrive_74 : decode cX3_arrive 74 = .ok (.iload_n 3, 1) := by decide +kernel
theorem dX3_arrive_75 : decode cX3_arrive 75 = .ok (.invokevirtual 71, 3) := by decide +kernel
theorem dX3_arrive_78 : decode cX3_arrive 78 = .ok (.ireturn, 1) := by decide +kernel
set_option maxRecDepth 20000 in
theorem ggX3_setRank_X0_hasGate : GoodIn wsX3_setRank wsX0_hasGate := goodIn_r _ [7, 8, 28, 29, 30, 31, 32, 33, 34] (by decide +kernel) (by decide +kernel)
set_option maxRecDepth 20000 in
theorem gX3_setRank_X0_hasGate : GoodIn wsX3_setRank (wsV RX3 47 RX0 yX0_hasGate wsX0_hasGate) := goodIn_app (goodIn_of _ (by decide +kernel)) ggX3_setRank_X0_hasGate
set_option maxRecDepth 20000 in
theorem ggX3_setRank_X3_demandIndex : GoodIn wsX3_setRank wsX3_demandIndex := goodIn_ca (goodIn_r _ [12, 13, 14] (by decide +kernel) (by decide +kernel)) (goodIn_sub (fun _ h => List.mem_cons_of_mem _ (List.mem_append_left _ (List.mem_append_right _ h))) (by decide +kernel))
set_option maxRecDepth 20000 in
theorem gX3_setRank_X3_demandIndex : GoodIn wsX3_setRank (va_wsS RX3 50 yX3_demandIndex wsX3_demandIndex) := goodIn_app (goodIn_of _ (by decide +kernel)) ggX3_setRank_X3_demandIndex
set_option maxRecDepth 20000 in
theorem ggX3_setRank_X3_isRank : GoodIn wsX3_setRank wsX3_isRank := goodIn_r _ [17, 18, 19, 11, 20] (by decide +kernel) (by decide +kernel)
set_option maxRecDepth 20000 in
theorem gX3_setRank_X3_isRank : GoodIn wsX3_setRank (va_wsS RX3 19 yX3_isRank wsX3_isRank) := goodIn_app (goodIn_of _ (by decide +kernel)) ggX3_setRank_X3_isRank
set_option maxRecDepth 20000 in
theorem ggX3_setRank_X3_demandArgument : GoodIn wsX3_setRank wsX3_demandArgument := goodIn_ca (goodIn_r _ [23, 24, 25] (by decide +kernel) (by decide +kernel)) (goodIn_sub (fun _ h => List.mem_cons_of_mem _ (List.mem_append_right _ h)) (by decide +kernel))
set_option maxRecDepth 20000 in
theorem gX3_setRank_X3_demandArgument : GoodIn wsX3_setRank (va_wsS RX3 23 yX3_demandArgument wsX3_demandArgument) := goodIn_app (goodIn_of _ (by decide +kernel)) ggX3_setRank_X3_demandArgument
theorem dX3_setRank_0 : decode cX3_setRank 0 = .ok (.aload_n 0, 1) := by decide +kernel
theorem dX3_setRank_1 : decode cX3_setRank 1 = .ok (.getfield 10, 3) := by decide +kernel
theorem dX3_setRank_4 : decode cX3_setRank 4 = .ok (.iload_n 1, 1) := by decide +kernel
theorem dX3_setRank_5 : decode cX3_setRank 5 = .ok (.invokevirtual 47, 3) := by decide +kernel
theorem dX3_setRank_8 : decode cX3_setRank 8 = .ok (.invokestatic 50, 3) := by decide +kernel
theorem dX3_setRank_11 : decode cX3_setRank 11 = .ok (.iload_n 2, 1) := by decide +kernel
theorem dX3_setRank_12 : decode cX3_setRank 12 = .ok (.invokestatic 19, 3) := by decide +kernel
theorem dX3_setRank_15 : decode cX3_setRank 15 = .ok (.invokestatic 23, 3) := by decide +kernel
theorem dX3_setRank_18 : decode cX3_setRank 18 = .ok (.aload_n 0, 1) := by decide +kernel
theorem dX3_setRank_19 : decode cX3_setRank 19 = .ok (.getfield 10, 3) := by decide +kernel
theorem dX3_setRank_22 : decode cX3_setRank 22 = .ok (.getfield 75, 3) := by decide +kernel
theorem dX3_setRank_25 : decode cX3_setRank 25 = .ok (.iload_n 1, 1) := by decide +kernel
theorem dX3_setRank_26 : decode cX3_setRank 26 = .ok (.iaload, 1) := by decide +kernel
theorem dX3_setRank_27 : decode cX3_setRank 27 = .ok (.istore_n 3, 1) := by decide +kernel
theorem dX3_setRank_28 : decode cX3_setRank 28 = .ok (.aload_n 0, 1) := by decide +kernel
theorem dX3_setRank_29 : decode cX3_setRank 29 = .ok (.getfield 10, 3) := by decide +kernel
theorem dX3_setRank_32 : decode cX3_setRank 32 = .ok (.getfield 75, 3) := by decide +kernel
theorem dX3_setRank_35 : decode cX3_setRank 35 = .ok (.iload_n 1, 1) := by decide +kernel
theorem dX3_setRank_36 : decode cX3_setRank 36 = .ok (.iload_n 2, 1) := by decide +kernel
theorem dX3_setRank_37 : decode cX3_setRank 37 = .ok (.iastore, 1) := by decide +kernel
theorem dX3_setRank_38 : decode cX3_setRank 38 = .ok (.iload_n 3, 1) := by decide +kernel
theorem dX3_setRank_39 : decode cX3_setRank 39 = .ok (.ireturn, 1) := by decide +kernel
set_option maxRecDepth 20000 in
theorem ggX3_lead_X1_hasGoose : GoodIn wsX3_lead wsX1_hasGoose := goodIn_r _ [8, 9, 31, 32, 33, 34, 35] (by decide +kernel) (by decide +kernel)
set_option maxRecDepth 20000 in
theorem gX3_lead_X1_hasGoose : GoodIn wsX3_lead (wsV RX3 79 RX1 yX1_hasGoose wsX1_hasGoose) := goodIn_app (goodIn_of _ (by decide +kernel)) ggX3_lead_X1_hasGoose
set_option maxRecDepth 20000 in
theorem ggX3_lead_X0_hasGate : GoodIn wsX3_lead wsX0_hasGate := goodIn_r _ [14, 15, 24, 25, 26, 27, 28, 29, 30] (by decide +kernel) (by decide +kernel)
set_option maxRecDepth 20000 in
theorem gX3_lead_X0_hasGate : GoodIn wsX3_lead (wsV RX3 47 RX0 yX0_hasGate wsX0_hasGate) := goodIn_app (goodIn_of _ (by decide +kernel)) ggX3_lead_X0_hasGate
set_option maxRecDepth 20000 in
theorem ggX3_lead_X3_demandIndex : GoodIn wsX3_lead wsX3_demandIndex := goodIn_ca (goodIn_r _ [19, 20, 21] (by decide +kernel) (by decide +kernel)) (goodIn_sub (fun _ h => List.mem_cons_of_mem _ (List.mem_append_right _ h)) (by decide +kernel))
set_option maxRecDepth 20000 in
theorem gX3_lead_X3_demandIndex : GoodIn wsX3_lead (va_wsS RX3 50 yX3_demandIndex wsX3_demandIndex) := goodIn_app (goodIn_of _ (by decide +kernel)) ggX3_lead_X3_demandIndex
theorem dX3_lead_0 : decode cX3_lead 0 = .ok (.aload_n 0, 1) := by decide +kernel
theorem dX3_lead_1 : decode cX3_lead 1 = .ok (.getfield 10, 3) := by decide +kernel
theorem dX3_lead_4 : decode cX3_lead 4 = .ok (.getfield 57, 3) := by decide +kernel
theorem dX3_lead_7 : decode cX3_lead 7 = .ok (.iload_n 1, 1) := by decide +kernel
theorem dX3_lead_8 : decode cX3_lead 8 = .ok (.invokevirtual 79, 3) := by decide +kernel
theorem dX3_lead_11 : decode cX3_lead 11 = .ok (.ifCond .eq 18, 3) := by decide +kernel
theorem dX3_lead_14 : decode cX3_lead 14 = .ok (.aload_n 0, 1) := by decide +kernel
theorem dX3_lead_15 : decode cX3_lead 15 = .ok (.getfield 10, 3) := by decide +kernel
theorem dX3_lead_18 : decode cX3_lead 18 = .ok (.iload_n 2, 1) := by decide +kernel
theorem dX3_lead_19 : decode cX3_lead 19 = .ok (.invokevirtual 47, 3) := by decide +kernel
theorem dX3_lead_22 : decode cX3_lead 22 = .ok (.ifCond .eq 7, 3) := by decide +kernel
theorem dX3_lead_25 : decode cX3_lead 25 = .ok (.iconst 1, 1) := by decide +kernel
theorem dX3_lead_26 : decode cX3_lead 26 = .ok (.goto 4, 3) := by decide +kernel
theorem dX3_lead_29 : decode cX3_lead 29 = .ok (.iconst 0, 1) := by decide +kernel
theorem dX3_lead_30 : decode cX3_lead 30 = .ok (.invokestatic 50, 3) := by decide +kernel
theorem dX3_lead_33 : decode cX3_lead 33 = .ok (.aload_n 0, 1) := by decide +kernel
theorem dX3_lead_34 : decode cX3_lead 34 = .ok (.getfield 10, 3) := by decide +kernel
theorem dX3_lead_37 : decode cX3_lead 37 = .ok (.getfield 57, 3) := by decide +kernel
theorem dX3_lead_40 : decode cX3_lead 40 = .ok (.getfield 82, 3) := by decide +kernel
theorem dX3_lead_43 : decode cX3_lead 43 = .ok (.iload_n 1, 1) := by decide +kernel
theorem dX3_lead_44 : decode cX3_lead 44 = .ok (.iaload, 1) := by decide +kernel
theorem dX3_lead_45 : decode cX3_lead 45 = .ok (.istore_n 3, 1) := by decide +kernel
theorem dX3_lead_46 : decode cX3_lead 46 = .ok (.aload_n 0, 1) := by decide +kernel
theorem dX3_lead_47 : decode cX3_lead 47 = .ok (.getfield 10, 3) := by decide +kernel
theorem dX3_lead_50 : decode cX3_lead 50 = .ok (.getfield 57, 3) := by decide +kernel
theorem dX3_lead_53 : decode cX3_lead 53 = .ok (.getfield 82, 3) := by decide +kernel
theorem dX3_lead_56 : decode cX3_lead 56 = .ok (.iload_n 1, 1) := by decide +kernel
theorem dX3_lead_57 : decode cX3_lead 57 = .ok (.iload_n 2, 1) := by decide +kernel
theorem dX3_lead_58 : decode cX3_lead 58 = .ok (.iastore, 1) := by decide +kernel
theorem dX3_lead_59 : decode cX3_lead 59 = .ok (.iload_n 3, 1) := by decide +kernel
theorem dX3_lead_60 : decode cX3_lead 60 = .ok (.ireturn, 1) := by decide +kernel
set_option maxRecDepth 20000 in
theorem ggX3_giveCorns_X3_demandVisitor : GoodIn wsX3_giveCorns wsX3_demandVisitor := goodIn_ca (goodIn_r _ [12, 1, 2, 13, 14, 15, 16, 17, 18, 19, 20, 11, 21, 22, 23, 32, 33, 34, 35, 36, 37, 38, 39, 40, 41, 42, 43, 44, 45, 46] (by decide +kernel) (by decide +kernel)) (goodIn_sub (fun _ h => List.mem_cons_of_mem _ (List.mem_append_left _ (List.mem_append_right _ h))) (by decide +kernel))
set_option maxRecDepth 20000 in
theorem gX3_giveCorns_X3_demandVisitor : GoodIn wsX3_giveCorns (wsV RX3 85 RX3 yX3_demandVisitor wsX3_demandVisitor) := goodIn_app (goodIn_of _ (by decide +kernel)) ggX3_giveCorns_X3_demandVisitor
set_option maxRecDepth 20000 in
theorem ggX3_giveCorns_X3_isWithin : GoodIn wsX3_giveCorns wsX3_isWithin := goodIn_r _ [26] (by decide +kernel) (by decide +kernel)
set_option maxRecDepth 20000 in
theorem gX3_giveCorns_X3_isWithin : GoodIn wsX3_giveCorns (va_wsS RX3 53 yX3_isWithin wsX3_isWithin) := goodIn_app (goodIn_of _ (by decide +kernel)) ggX3_giveCorns_X3_isWithin
set_option maxRecDepth 20000 in
theorem ggX3_giveCorns_X3_demandArgument : GoodIn wsX3_giveCorns wsX3_demandArgument := goodIn_ca (goodIn_r _ [29, 30, 31] (by decide +kernel) (by decide +kernel)) (goodIn_sub (fun _ h => List.mem_cons_of_mem _ (List.mem_append_right _ h)) (by decide +kernel))
set_option maxRecDepth 20000 in
theorem gX3_giveCorns_X3_demandArgument : GoodIn wsX3_giveCorns (va_wsS RX3 23 yX3_demandArgument wsX3_demandArgument) := goodIn_app (goodIn_of _ (by decide +kernel)) ggX3_giveCorns_X3_demandArgument
theorem dX3_giveCorns_0 : decode cX3_giveCorns 0 = .ok (.aload_n 0, 1) := by decide +kernel
theorem dX3_giveCorns_1 : decode cX3_giveCorns 1 = .ok (.iload_n 1, 1) := by decide +kernel
theorem dX3_giveCorns_2 : decode cX3_giveCorns 2 = .ok (.invokevirtual 85, 3) := by decide +kernel
theorem dX3_giveCorns_5 : decode cX3_giveCorns 5 = .ok (.iload_n 2, 1) := by decide +kernel
theorem dX3_giveCorns_6 : decode cX3_giveCorns 6 = .ok (.iconst 1, 1) := by decide +kernel
theorem dX3_giveCorns_7 : decode cX3_giveCorns 7 = .ok (.bipush 20, 2) := by decide +kernel
theorem dX3_giveCorns_9 : decode cX3_giveCorns 9 = .ok (.invokestatic 53, 3) := by decide +kernel
theorem dX3_giveCorns_12 : decode cX3_giveCorns 12 = .ok (.invokestatic 23, 3) := by decide +kernel
theorem dX3_giveCorns_15 : decode cX3_giveCorns 15 = .ok (.bipush 20, 2) := by decide +kernel
theorem dX3_giveCorns_17 : decode cX3_giveCorns 17 = .ok (.aload_n 0, 1) := by decide +kernel
theorem dX3_giveCorns_18 : decode cX3_giveCorns 18 = .ok (.getfield 10, 3) := by decide +kernel
theorem dX3_giveCorns_21 : decode cX3_giveCorns 21 = .ok (.getfield 31, 3) := by decide +kernel
theorem dX3_giveCorns_24 : decode cX3_giveCorns 24 = .ok (.getfield 89, 3) := by decide +kernel
theorem dX3_giveCorns_27 : decode cX3_giveCorns 27 = .ok (.iload_n 1, 1) := by decide +kernel
theorem dX3_giveCorns_28 : decode cX3_giveCorns 28 = .ok (.iaload, 1) := by decide +kernel
theorem dX3_giveCorns_29 : decode cX3_giveCorns 29 = .ok (.iload_n 2, 1) := by decide +kernel
theorem dX3_giveCorns_30 : decode cX3_giveCorns 30 = .ok (.iadd, 1) := by decide +kernel
theorem dX3_giveCorns_31 : decode cX3_giveCorns 31 = .ok (.invokestatic 92, 3) := by decide +kernel
theorem dX3_giveCorns_34 : decode cX3_giveCorns 34 = .ok (.istore_n 3, 1) := by decide +kernel
theorem dX3_giveCorns_35 : decode cX3_giveCorns 35 = .ok (.aload_n 0, 1) := by decide +kernel
theorem dX3_giveCorns_36 : decode cX3_giveCorns 36 = .ok (.getfield 10, 3) := by decide +kernel
theorem dX3_giveCorns_39 : decode cX3_giveCorns 39 = .ok (.getfield 31, 3) := by decide +kernel
theorem dX3_giveCorns_42 : decode cX3_giveCorns 42 = .ok (.getfield 89, 3) := by decide +kernel
theorem dX3_giveCorns_45 : decode cX3_giveCorns 45 = .ok (.iload_n 1, 1) := by decide +kernel
theorem dX3_giveCorns_46 : decode cX3_giveCorns 46 = .ok (.iload_n 3, 1) := by decide +kernel
theorem dX3_giveCorns_47 : decode cX3_giveCorns 47 = .ok (.iastore, 1) := by decide +kernel
theorem dX3_giveCorns_48 : decode cX3_giveCorns 48 = .ok (.iload_n 3, 1) := by decide +kernel
theorem dX3_giveCorns_49 : decode cX3_giveCorns 49 = .ok (.ireturn, 1) := by decide +kernel
set_option maxRecDepth 20000 in
theorem ggX3_bribe_X3_demandVisitor : GoodIn wsX3_bribe wsX3_demandVisitor := goodIn_ca (goodIn_r _ [12, 1, 2, 13, 14, 15, 16, 17, 18, 19, 20, 11, 21, 22, 23, 65, 66, 67, 68, 69, 70, 71, 72, 73, 74, 75, 76, 77, 78, 79] (by decide +kernel) (by decide +kernel)) (goodIn_sub (fun _ h => List.mem_cons_of_mem _ (List.mem_append_left _ (List.mem_append_right _ h))) (by decide +kernel))
set_option maxRecDepth 20000 in
theorem gX3_bribe_X3_demandVisitor : GoodIn wsX3_bribe (wsV RX3 85 RX3 yX3_demandVisitor wsX3_demandVisitor) := goodIn_app (goodIn_of _ (by decide +kernel)) ggX3_bribe_X3_demandVisitor
set_option maxRecDepth 20000 in
theorem ggX3_bribe_X3_demandGoose : GoodIn wsX3_bribe wsX3_demandGoose := goodIn_ca (goodIn_r _ [27, 1, 4, 28, 29, 30, 31, 32, 33, 19, 20, 11, 21, 22, 23, 65, 66, 67, 68, 69, 70, 71, 72, 73, 80, 81, 82, 83, 84] (by decide +kernel) (by decide +kernel)) (goodIn_sub (fun _ h => List.mem_cons_of_mem _ (List.mem_append_left _ (List.mem_append_right _ h))) (by decide +kernel))
set_option maxRecDepth 20000 in
theorem gX3_bribe_X3_demandGoose : GoodIn wsX3_bribe (wsV RX3 97 RX3 yX3_demandGoose wsX3_demandGoose) := goodIn_app (goodIn_of _ (by decide +kernel)) ggX3_bribe_X3_demandGoose
set_option maxRecDepth 20000 in
theorem ggX3_bribe_X0_isBehindAll : GoodIn wsX3_bribe wsX0_isBehindAll := goodIn_r _ [38, 39, 40, 41, 67, 68, 69, 70, 71, 72, 73, 74, 75, 76, 77, 78, 79] (by decide +kernel) (by decide +kernel)
set_option maxRecDepth 20000 in
theorem gX3_bribe_X0_isBehindAll : GoodIn wsX3_bribe (wsV RX3 100 RX0 yX0_isBehindAll wsX0_isBehindAll) := goodIn_app (goodIn_of _ (by decide +kernel)) ggX3_bribe_X0_isBehindAll
set_option maxRecDepth 20000 in
theorem ggX3_bribe_X3_demandState : GoodIn wsX3_bribe wsX3_demandState := goodIn_ca (goodIn_r _ [44, 45, 46] (by decide +kernel) (by decide +kernel)) (goodIn_sub (fun _ h => List.mem_cons_of_mem _ (List.mem_append_right _ h)) (by decide +kernel))
set_option maxRecDepth 20000 in
theorem gX3_bribe_X3_demandState : GoodIn wsX3_bribe (va_wsS RX3 40 yX3_demandState wsX3_demandState) := goodIn_app (goodIn_of _ (by decide +kernel)) ggX3_bribe_X3_demandState
set_option maxRecDepth 20000 in
theorem ggX3_bribe_X0_payGoose : GoodIn wsX3_bribe wsX0_payGoose := goodIn_r _ [50, 39, 51, 52, 53, 54, 55, 56, 31, 57, 58, 59, 60, 61, 62, 63, 64, 67, 68, 69, 70, 71, 72, 73, 74, 75, 76, 77, 78, 79, 80, 81, 82, 83, 84] (by decide +kernel) (by decide +kernel)
set_option maxRecDepth 20000 in
theorem gX3_bribe_X0_payGoose : GoodIn wsX3_bribe (wsV RX3 106 RX0 yX0_payGoose wsX0_payGoose) := goodIn_app (goodIn_of _ (by decide +kernel)) ggX3_bribe_X0_payGoose
theorem dX3_bribe_0 : decode cX3_bribe 0 = .ok (.aload_n 0, 1) := by decide +kernel
theorem dX3_bribe_1 : decode cX3_bribe 1 = .ok (.iload_n 1, 1) := by decide +kernel
theorem dX3_bribe_2 : decode cX3_bribe 2 = .ok (.invokevirtual 85, 3) := by decide +kernel
theorem dX3_bribe_5 : decode cX3_bribe 5 = .ok (.aload_n 0, 1) := by decide +kernel
theorem dX3_bribe_6 : decode cX3_bribe 6 = .ok (.iload_n 2, 1) := by decide +kernel
theorem dX3_bribe_7 : decode cX3_bribe 7 = .ok (.invokevirtual 97, 3) := by decide +kernel
theorem dX3_bribe_10 : decode cX3_bribe 10 = .ok (.aload_n 0, 1) := by decide +kernel
theorem dX3_bribe_11 : decode cX3_bribe 11 = .ok (.getfield 10, 3) := by decide +kernel
theorem dX3_bribe_14 : decode cX3_bribe 14 = .ok (.getfield 31, 3) := by decide +kernel
theorem dX3_bribe_17 : decode cX3_bribe 17 = .ok (.getfield 89, 3) := by decide +kernel
theorem dX3_bribe_20 : decode cX3_bribe 20 = .ok (.iload_n 1, 1) := by decide +kernel
theorem dX3_bribe_21 : decode cX3_bribe 21 = .ok (.iaload, 1) := by decide +kernel
theorem dX3_bribe_22 : decode cX3_bribe 22 = .ok (.ifCond .le 45, 3) := by decide +kernel
theorem dX3_bribe_25 : decode cX3_bribe 25 = .ok (.aload_n 0, 1) := by decide +kernel
theorem dX3_bribe_26 : decode cX3_bribe 26 = .ok (.getfield 10, 3) := by decide +kernel
theorem dX3_bribe_29 : decode cX3_bribe 29 = .ok (.iload_n 1, 1) := by decide +kernel
theorem dX3_bribe_30 : decode cX3_bribe 30 = .ok (.invokevirtual 100, 3) := by decide +kernel
theorem dX3_bribe_33 : decode cX3_bribe 33 = .ok (.ifCond .ne 34, 3) := by decide +kernel
theorem dX3_bribe_36 : decode cX3_bribe 36 = .ok (.aload_n 0, 1) := by decide +kernel
theorem dX3_bribe_37 : decode cX3_bribe 37 = .ok (.getfield 10, 3) := by decide +kernel
theorem dX3_bribe_40 : decode cX3_bribe 40 = .ok (.getfield 57, 3) := by decide +kernel
theorem dX3_bribe_43 : decode cX3_bribe 43 = .ok (.getfield 82, 3) := by decide +kernel
theorem dX3_bribe_46 : decode cX3_bribe 46 = .ok (.iload_n 2, 1) := by decide +kernel
theorem dX3_bribe_47 : decode cX3_bribe 47 = .ok (.iaload, 1) := by decide +kernel
theorem dX3_bribe_48 : decode cX3_bribe 48 = .ok (.aload_n 0, 1) := by decide +kernel
theorem dX3_bribe_49 : decode cX3_bribe 49 = .ok (.getfield 10, 3) := by decide +kernel
theorem dX3_bribe_52 : decode cX3_bribe 52 = .ok (.getfield 31, 3) := by decide +kernel
theorem dX3_bribe_55 : decode cX3_bribe 55 = .ok (.getfield 103, 3) := by decide +kernel
theorem dX3_bribe_58 : decode cX3_bribe 58 = .ok (.iload_n 1, 1) := by decide +kernel
theorem dX3_bribe_59 : decode cX3_bribe 59 = .ok (.iaload, 1) := by decide +kernel
theorem dX3_bribe_60 : decode cX3_bribe 60 = .ok (.if_icmp .ne 7, 3) := by decide +kernel
theorem dX3_bribe_63 : decode cX3_bribe 63 = .ok (.iconst 1, 1) := by decide +kernel
theorem dX3_bribe_64 : decode cX3_bribe 64 = .ok (.goto 4, 3) := by decide +kernel
theorem dX3_bribe_67 : decode cX3_bribe 67 = .ok (.iconst 0, 1) := by decide +kernel
theorem dX3_bribe_68 : decode cX3_bribe 68 = .ok (.invokestatic 40, 3) := by decide +kernel
theorem dX3_bribe_71 : decode cX3_bribe 71 = .ok (.aload_n 0, 1) := by decide +kernel
theorem dX3_bribe_72 : decode cX3_bribe 72 = .ok (.getfield 10, 3) := by decide +kernel
theorem dX3_bribe_75 : decode cX3_bribe 75 = .ok (.iload_n 1, 1) := by decide +kernel
theorem dX3_bribe_76 : decode cX3_bribe 76 = .ok (.iload_n 2, 1) := by decide +kernel
theorem dX3_bribe_77 : decode cX3_bribe 77 = .ok (.invokevirtual 106, 3) := by decide +kernel
theorem dX3_bribe_80 : decode cX3_bribe 80 = .ok (.aload_n 0, 1) := by decide +kernel
theorem dX3_bribe_81 : decode cX3_bribe 81 = .ok (.getfield 10, 3) := by decide +kernel
theorem dX3_bribe_84 : decode cX3_bribe 84 = .ok (.getfield 57, 3) := by decide +kernel
theorem dX3_bribe_87 : decode cX3_bribe 87 = .ok (.getfield 110, 3) := by decide +kernel
theorem dX3_bribe_90 : decode cX3_bribe 90 = .ok (.iload_n 2, 1) := by decide +kernel
theorem dX3_bribe_91 : decode cX3_bribe 91 = .ok (.iaload, 1) := by decide +kernel
theorem dX3_bribe_92 : decode cX3_bribe 92 = .ok (.ireturn, 1) := by decide +kernel
set_option maxRecDepth 20000 in
theorem ggX3_passBeats_X3_isBeats : GoodIn wsX3_passBeats wsX3_isBeats := goodIn_r _ [5, 6, 7, 4, 8] (by decide +kernel) (by decide +kernel)
set_option maxRecDepth 20000 in
theorem gX3_passBeats_X3_isBeats : GoodIn wsX3_passBeats (va_wsS RX3 113 yX3_isBeats wsX3_isBeats) := goodIn_app (goodIn_of _ (by decide +kernel)) ggX3_passBeats_X3_isBeats
set_option maxRecDepth 20000 in
theorem ggX3_passBeats_X3_demandArgument : GoodIn wsX3_passBeats wsX3_demandArgument := goodIn_ca (goodIn_r _ [11, 12, 13] (by decide +kernel) (by decide +kernel)) (goodIn_sub (fun _ h => List.mem_cons_of_mem _ (List.mem_append_right _ h)) (by decide +kernel))
set_option maxRecDepth 20000 in
theorem gX3_passBeats_X3_demandArgument : GoodIn wsX3_passBeats (va_wsS RX3 23 yX3_demandArgument wsX3_demandArgument) := goodIn_app (goodIn_of _ (by decide +kernel)) ggX3_passBeats_X3_demandArgument
set_option maxRecDepth 20000 in
theorem ggX3_passBeats_X0_countInside : GoodIn wsX3_passBeats wsX0_countInside := goodIn_r _ [18, 19, 20, 21, 22, 23, 17, 24, 25, 26, 119, 120, 121, 122, 123, 124, 125, 126, 127, 128, 129, 130, 131] (by decide +kernel) (by decide +kernel)
set_option maxRecDepth 20000 in
theorem gX3_passBeats_X0_countInside : GoodIn wsX3_passBeats (wsV RX3 116 RX0 yX0_countInside wsX0_countInside) := goodIn_app (goodIn_of _ (by decide +kernel)) ggX3_passBeats_X0_countInside
set_option maxRecDepth 20000 in
theorem ggX3_passBeats_X0_runBeats : GoodIn wsX3_passBeats wsX0_runBeats := goodIn_r _ [30, 31, 32, 33, 17, 34, 35, 19, 20, 36, 37, 38, 39, 40, 41, 42, 43, 21, 22, 23, 24, 25, 26, 44, 45, 46, 47, 48, 49, 50, 51, 52, 53, 54, 55, 56, 57, 58, 59, 60, 61, 62, 63, 64, 65, 66, 67, 68, 69, 70, 71, 72, 73, 74, 75, 76, 77, 78, 79, 80, 81, 82, 83, 84, 85, 86, 87, 88, 89, 90, 91, 92, 93, 94, 95, 96, 97, 98, 99, 100, 101, 102, 103, 104, 105, 106, 4, 107, 108, 109, 110, 111, 112, 113, 114, 115, 116, 119, 120, 121, 122, 123, 124, 125, 126, 127, 128, 129, 130, 131, 132, 133, 134, 135, 136] (by decide +kernel) (by decide +kernel)
set_option maxRecDepth 20000 in
theorem gX3_passBeats_X0_runBeats : GoodIn wsX3_passBeats (wsV RX3 120 RX0 yX0_runBeats wsX0_runBeats) := goodIn_app (goodIn_of _ (by decide +kernel)) ggX3_passBeats_X0_runBeats
theorem dX3_passBeats_0 : decode cX3_passBeats 0 = .ok (.iload_n 1, 1) := by decide +kernel
theorem dX3_passBeats_1 : decode cX3_passBeats 1 = .ok (.invokestatic 113, 3) := by decide +kernel
theorem dX3_passBeats_4 : decode cX3_passBeats 4 = .ok (.invokestatic 23, 3) := by decide +kernel
theorem dX3_passBeats_7 : decode cX3_passBeats 7 = .ok (.aload_n 0, 1) := by decide +kernel
theorem dX3_passBeats_8 : decode cX3_passBeats 8 = .ok (.getfield 10, 3) := by decide +kernel
theorem dX3_passBeats_11 : decode cX3_passBeats 11 = .ok (.invokevirtual 116, 3) := by decide +kernel
theorem dX3_passBeats_14 : decode cX3_passBeats 14 = .ok (.istore_n 2, 1) := by decide +kernel
theorem dX3_passBeats_15 : decode cX3_passBeats 15 = .ok (.aload_n 0, 1) := by decide +kernel
theorem dX3_passBeats_16 : decode cX3_passBeats 16 = .ok (.getfield 10, 3) := by decide +kernel
theorem dX3_passBeats_19 : decode cX3_passBeats 19 = .ok (.iload_n 1, 1) := by decide +kernel
theorem dX3_passBeats_20 : decode cX3_passBeats 20 = .ok (.invokevirtual 120, 3) := by decide +kernel
theorem dX3_passBeats_23 : decode cX3_passBeats 23 = .ok (.aload_n 0, 1) := by decide +kernel
theorem dX3_passBeats_24 : decode cX3_passBeats 24 = .ok (.getfield 10, 3) := by decide +kernel
theorem dX3_passBeats_27 : decode cX3_passBeats 27 = .ok (.invokevirtual 116, 3) := by decide +kernel
theorem dX3_passBeats_30 : decode cX3_passBeats 30 = .ok (.iload_n 2, 1) := by decide +kernel
theorem dX3_passBeats_31 : decode cX3_passBeats 31 = .ok (.isub, 1) := by decide +kernel
theorem dX3_passBeats_32 : decode cX3_passBeats 32 = .ok (.ireturn, 1) := by decide +kernel
theorem dX3_beats_0 : decode cX3_beats 0 = .ok (.aload_n 0, 1) := by decide +kernel
theorem dX3_beats_1 : decode cX3_beats 1 = .ok (.getfield 10, 3) := by decide +kernel
theorem dX3_beats_4 : decode cX3_beats 4 = .ok (.getfield 123, 3) := by decide +kernel
theorem dX3_beats_7 : decode cX3_beats 7 = .ok (.ireturn, 1) := by decide +kernel
theorem dX3_gates_0 : decode cX3_gates 0 = .ok (.aload_n 0, 1) := by decide +kernel
theorem dX3_gates_1 : decode cX3_gates 1 = .ok (.getfield 10, 3) := by decide +kernel
theorem dX3_gates_4 : decode cX3_gates 4 = .ok (.getfield 27, 3) := by decide +kernel
theorem dX3_gates_7 : decode cX3_gates 7 = .ok (.ireturn, 1) := by decide +kernel
theorem dX3_geese_0 : decode cX3_geese 0 = .ok (.aload_n 0, 1) := by decide +kernel
theorem dX3_geese_1 : decode cX3_geese 1 = .ok (.getfield 10, 3) := by decide +kernel
theorem dX3_geese_4 : decode cX3_geese 4 = .ok (.getfield 57, 3) := by decide +kernel
theorem dX3_geese_7 : decode cX3_geese 7 = .ok (.getfield 61, 3) := by decide +kernel
theorem dX3_geese_10 : decode cX3_geese 10 = .ok (.ireturn, 1) := by decide +kernel
theorem dX3_visitors_0 : decode cX3_visitors 0 = .ok (.aload_n 0, 1) := by decide +kernel
theorem dX3_visitors_1 : decode cX3_visitors 1 = .ok (.getfield 10, 3) := by decide +kernel
theorem dX3_visitors_4 : decode cX3_visitors 4 = .ok (.getfield 31, 3) := by decide +kernel
theorem dX3_visitors_7 : decode cX3_visitors 7 = .ok (.getfield 35, 3) := by decide +kernel
theorem dX3_visitors_10 : decode cX3_visitors 10 = .ok (.ireturn, 1) := by decide +kernel
set_option maxRecDepth 20000 in
theorem ggX3_inFarm_X0_countInside : GoodIn wsX3_inFarm wsX0_countInside := goodIn_r _ [6, 7, 8, 9, 10, 11, 5, 12, 13, 14, 17, 18, 19, 20, 21, 22, 23, 24, 25, 26, 27, 28, 29] (by decide +kernel) (by decide +kernel)
set_option maxRecDepth 20000 in
theorem gX3_inFarm_X0_countInside : GoodIn wsX3_inFarm (wsV RX3 116 RX0 yX0_countInside wsX0_countInside) := goodIn_app (goodIn_of _ (by decide +kernel)) ggX3_inFarm_X0_countInside
theorem dX3_inFarm_0 : decode cX3_inFarm 0 = .ok (.aload_n 0, 1) := by decide +kernel
theorem dX3_inFarm_1 : decode cX3_inFarm 1 = .ok (.getfield 10, 3) := by decide +kernel
theorem dX3_inFarm_4 : decode cX3_inFarm 4 = .ok (.invokevirtual 116, 3) := by decide +kernel
theorem dX3_inFarm_7 : decode cX3_inFarm 7 = .ok (.ireturn, 1) := by decide +kernel
theorem dX3_bribes_0 : decode cX3_bribes 0 = .ok (.aload_n 0, 1) := by decide +kernel
theorem dX3_bribes_1 : decode cX3_bribes 1 = .ok (.getfield 10, 3) := by decide +kernel
theorem dX3_bribes_4 : decode cX3_bribes 4 = .ok (.getfield 126, 3) := by decide +kernel
theorem dX3_bribes_7 : decode cX3_bribes 7 = .ok (.ireturn, 1) := by decide +kernel
theorem dX3_retreats_0 : decode cX3_retreats 0 = .ok (.aload_n 0, 1) := by decide +kernel
theorem dX3_retreats_1 : decode cX3_retreats 1 = .ok (.getfield 10, 3) := by decide +kernel
theorem dX3_retreats_4 : decode cX3_retreats 4 = .ok (.getfield 129, 3) := by decide +kernel
theorem dX3_retreats_7 : decode cX3_retreats 7 = .ok (.ireturn, 1) := by decide +kernel
set_option maxRecDepth 20000 in
theorem ggX3_rankOf_X0_hasGate : GoodIn wsX3_rankOf wsX0_hasGate := goodIn_r _ [7, 8, 17, 18, 19, 20, 21, 22, 23] (by decide +kernel) (by decide +kernel)
set_option maxRecDepth 20000 in
theorem gX3_rankOf_X0_hasGate : GoodIn wsX3_rankOf (wsV RX3 47 RX0 yX0_hasGate wsX0_hasGate) := goodIn_app (goodIn_of _ (by decide +kernel)) ggX3_rankOf_X0_hasGate
set_option maxRecDepth 20000 in
theorem ggX3_rankOf_X3_demandIndex : GoodIn wsX3_rankOf wsX3_demandIndex := goodIn_ca (goodIn_r _ [12, 13, 14] (by decide +kernel) (by decide +kernel)) (goodIn_sub (fun _ h => List.mem_cons_of_mem _ (List.mem_append_right _ h)) (by decide +kernel))
set_option maxRecDepth 20000 in
theorem gX3_rankOf_X3_demandIndex : GoodIn wsX3_rankOf (va_wsS RX3 50 yX3_demandIndex wsX3_demandIndex) := goodIn_app (goodIn_of _ (by decide +kernel)) ggX3_rankOf_X3_demandIndex
theorem dX3_rankOf_0 : decode cX3_rankOf 0 = .ok (.aload_n 0, 1) := by decide +kernel
theorem dX3_rankOf_1 : decode cX3_rankOf 1 = .ok (.getfield 10, 3) := by decide +kernel
theorem dX3_rankOf_4 : decode cX3_rankOf 4 = .ok (.iload_n 1, 1) := by decide +kernel
theorem dX3_rankOf_5 : decode cX3_rankOf 5 = .ok (.invokevirtual 47, 3) := by decide +kernel
theorem dX3_rankOf_8 : decode cX3_rankOf 8 = .ok (.invokestatic 50, 3) := by decide +kernel
theorem dX3_rankOf_11 : decode cX3_rankOf 11 = .ok (.aload_n 0, 1) := by decide +kernel
theorem dX3_rankOf_12 : decode cX3_rankOf 12 = .ok (.getfield 10, 3) := by decide +kernel
theorem dX3_rankOf_15 : decode cX3_rankOf 15 = .ok (.getfield 75, 3) := by decide +kernel
theorem dX3_rankOf_18 : decode cX3_rankOf 18 = .ok (.iload_n 1, 1) := by decide +kernel
theorem dX3_rankOf_19 : decode cX3_rankOf 19 = .ok (.iaload, 1) := by decide +kernel
theorem dX3_rankOf_20 : decode cX3_rankOf 20 = .ok (.ireturn, 1) := by decide +kernel
set_option maxRecDepth 20000 in
theorem ggX3_awakeAt_X0_hasGate : GoodIn wsX3_awakeAt wsX0_hasGate := goodIn_r _ [7, 8, 29, 30, 31, 32, 33, 34, 35] (by decide +kernel) (by decide +kernel)
set_option maxRecDepth 20000 in
theorem gX3_awakeAt_X0_hasGate : GoodIn wsX3_awakeAt (wsV RX3 47 RX0 yX0_hasGate wsX0_hasGate) := goodIn_app (goodIn_of _ (by decide +kernel)) ggX3_awakeAt_X0_hasGate
set_option maxRecDepth 20000 in
theorem ggX3_awakeAt_X3_demandIndex : GoodIn wsX3_awakeAt wsX3_demandIndex := goodIn_ca (goodIn_r _ [12, 13, 14] (by decide +kernel) (by decide +kernel)) (goodIn_sub (fun _ h => List.mem_cons_of_mem _ (List.mem_append_right _ h)) (by decide +kernel))
set_option maxRecDepth 20000 in
theorem gX3_awakeAt_X3_demandIndex : GoodIn wsX3_awakeAt (va_wsS RX3 50 yX3_demandIndex wsX3_demandIndex) := goodIn_app (goodIn_of _ (by decide +kernel)) ggX3_awakeAt_X3_demandIndex
set_option maxRecDepth 20000 in
theorem ggX3_awakeAt_X1_countAwake : GoodIn wsX3_awakeAt wsX1_countAwake := goodIn_r _ [19, 20, 21, 22, 23, 18, 24, 25, 26, 36, 37, 38, 39, 40] (by decide +kernel) (by decide +kernel)
set_option maxRecDepth 20000 in
theorem gX3_awakeAt_X1_countAwake : GoodIn wsX3_awakeAt (wsV RX3 132 RX1 yX1_countAwake wsX1_countAwake) := goodIn_app (goodIn_of _ (by decide +kernel)) ggX3_awakeAt_X1_countAwake
theorem dX3_awakeAt_0 : decode cX3_awakeAt 0 = .ok (.aload_n 0, 1) := by decide +kernel
theorem dX3_awakeAt_1 : decode cX3_awakeAt 1 = .ok (.getfield 10, 3) := by decide +kernel
theorem dX3_awakeAt_4 : decode cX3_awakeAt 4 = .ok (.iload_n 1, 1) := by decide +kernel
theorem dX3_awakeAt_5 : decode cX3_awakeAt 5 = .ok (.invokevirtual 47, 3) := by decide +kernel
theorem dX3_awakeAt_8 : decode cX3_awakeAt 8 = .ok (.invokestatic 50, 3) := by decide +kernel
theorem dX3_awakeAt_11 : decode cX3_awakeAt 11 = .ok (.aload_n 0, 1) := by decide +kernel
theorem dX3_awakeAt_12 : decode cX3_awakeAt 12 = .ok (.getfield 10, 3) := by decide +kernel
theorem dX3_awakeAt_15 : decode cX3_awakeAt 15 = .ok (.getfield 57, 3) := by decide +kernel
theorem dX3_awakeAt_18 : decode cX3_awakeAt 18 = .ok (.iload_n 1, 1) := by decide +kernel
theorem dX3_awakeAt_19 : decode cX3_awakeAt 19 = .ok (.invokevirtual 132, 3) := by decide +kernel
theorem dX3_awakeAt_22 : decode cX3_awakeAt 22 = .ok (.ireturn, 1) := by decide +kernel
set_option maxRecDepth 20000 in
theorem ggX3_hissOf_X0_hasGate : GoodIn wsX3_hissOf wsX0_hasGate := goodIn_r _ [6, 7, 55, 56, 57, 58, 59, 60, 61] (by decide +kernel) (by decide +kernel)
set_option maxRecDepth 20000 in
theorem gX3_hissOf_X0_hasGate : GoodIn wsX3_hissOf (wsV RX3 47 RX0 yX0_hasGate wsX0_hasGate) := goodIn_app (goodIn_of _ (by decide +kernel)) ggX3_hissOf_X0_hasGate
set_option maxRecDepth 20000 in
theorem ggX3_hissOf_X3_demandIndex : GoodIn wsX3_hissOf wsX3_demandIndex := goodIn_ca (goodIn_r _ [11, 12, 13] (by decide +kernel) (by decide +kernel)) (goodIn_sub (fun _ h => List.mem_cons_of_mem _ (List.mem_append_left _ (List.mem_append_right _ h))) (by decide +kernel))
set_option maxRecDepth 20000 in
theorem gX3_hissOf_X3_demandIndex : GoodIn wsX3_hissOf (va_wsS RX3 50 yX3_demandIndex wsX3_demandIndex) := goodIn_app (goodIn_of _ (by decide +kernel)) ggX3_hissOf_X3_demandIndex
set_option maxRecDepth 20000 in
theorem ggX3_hissOf_X3_isRank : GoodIn wsX3_hissOf wsX3_isRank := goodIn_r _ [16, 17, 18, 10, 19] (by decide +kernel) (by decide +kernel)
set_option maxRecDepth 20000 in
theorem gX3_hissOf_X3_isRank : GoodIn wsX3_hissOf (va_wsS RX3 19 yX3_isRank wsX3_isRank) := goodIn_app (goodIn_of _ (by decide +kernel)) ggX3_hissOf_X3_isRank
set_option maxRecDepth 20000 in
theorem ggX3_hissOf_X3_demandArgument : GoodIn wsX3_hissOf wsX3_demandArgument := goodIn_ca (goodIn_r _ [22, 23, 24] (by decide +kernel) (by decide +kernel)) (goodIn_sub (fun _ h => List.mem_cons_of_mem _ (List.mem_append_right _ h)) (by decide +kernel))
set_option maxRecDepth 20000 in
theorem gX3_hissOf_X3_demandArgument : GoodIn wsX3_hissOf (va_wsS RX3 23 yX3_demandArgument wsX3_demandArgument) := goodIn_app (goodIn_of _ (by decide +kernel)) ggX3_hissOf_X3_demandArgument
end
section
set_option maxRecDepth 20000 in
theorem ggX3_hissOf_X0_gateHiss : GoodIn wsX3_hissOf wsX0_gateHiss := goodIn_r _ [28, 29, 30, 31, 32, 5, 33, 34, 35, 36, 37, 38, 39, 3, 4, 6, 7, 40, 41, 42, 43, 44, 45, 46, 47, 48, 49, 50, 51, 52, 55, 56, 57, 58, 59, 60, 61, 62, 63, 64, 65, 66] (by decide +kernel) (by decide +kernel)
set_option maxRecDepth 20000 in
theorem gX3_hissOf_X0_gateHiss : GoodIn wsX3_hissOf (wsV RX3 135 RX0 yX0_gateHiss wsX0_gateHiss) := goodIn_app (goodIn_of _ (by decide +kernel)) ggX3_hissOf_X0_gateHiss
theorem dX3_hissOf_0 : decode cX3_hissOf 0 = .ok (.aload_n 0, 1) := by decide +kernel
theorem dX3_hissOf_1 : decode cX3_hissOf 1 = .ok (.getfield 10, 3) := by decide +kernel
theorem dX3_hissOf_4 : decode cX3_hissOf 4 = .ok (.iload_n 1, 1) := by decide +kernel
theorem dX3_hissOf_5 : decode cX3_hissOf 5 = .ok (.invokevirtual 47, 3) := by decide +kernel
theorem dX3_hissOf_8 : decode cX3_hissOf 8 = .ok (.invokestatic 50, 3) := by decide +kernel
theorem dX3_hissOf_11 : decode cX3_hissOf 11 = .ok (.iload_n 2, 1) := by decide +kernel
theorem dX3_hissOf_12 : decode cX3_hissOf 12 = .ok (.invokestatic 19, 3) := by decide +kernel
theorem dX3_hissOf_15 : decode cX3_hissOf 15 = .ok (.invokestatic 23, 3) := by decide +kernel
theorem dX3_hissOf_18 : decode cX3_hissOf 18 = .ok (.aload_n 0, 1) := by decide +kernel
theorem dX3_hissOf_19 : decode cX3_hissOf 19 = .ok (.getfield 10, 3) := by decide +kernel
theorem dX3_hissOf_22 : decode cX3_hissOf 22 = .ok (.iload_n 1, 1) := by decide +kernel
theorem dX3_hissOf_23 : decode cX3_hissOf 23 = .ok (.iload_n 2, 1) := by decide +kernel
theorem dX3_hissOf_24 : decode cX3_hissOf 24 = .ok (.invokevirtual 135, 3) := by decide +kernel
theorem dX3_hissOf_27 : decode cX3_hissOf 27 = .ok (.ireturn, 1) := by decide +kernel
set_option maxRecDepth 20000 in
theorem ggX3_loudestGate_X0_gateHiss : GoodIn wsX3_loudestGate wsX0_gateHiss := goodIn_r _ [7, 8, 9, 10, 11, 6, 12, 13, 14, 15, 16, 17, 18, 19, 20, 21, 22, 23, 24, 25, 26, 27, 28, 29, 30, 31, 32, 33, 34, 35, 38, 39, 40, 41, 42, 43, 44, 45, 46, 47, 48, 49] (by decide +kernel) (by decide +kernel)
set_option maxRecDepth 20000 in
theorem gX3_loudestGate_X0_gateHiss : GoodIn wsX3_loudestGate (wsV RX3 135 RX0 yX0_gateHiss wsX0_gateHiss) := goodIn_app (goodIn_of _ (by decide +kernel)) ggX3_loudestGate_X0_gateHiss
theorem dX3_loudestGate_0 : decode cX3_loudestGate 0 = .ok (.iconst (-1), 1) := by decide +kernel
theorem dX3_loudestGate_1 : decode cX3_loudestGate 1 = .ok (.istore_n 1, 1) := by decide +kernel
theorem dX3_loudestGate_2 : decode cX3_loudestGate 2 = .ok (.iconst (-1), 1) := by decide +kernel
theorem dX3_loudestGate_3 : decode cX3_loudestGate 3 = .ok (.istore_n 2, 1) := by decide +kernel
theorem dX3_loudestGate_4 : decode cX3_loudestGate 4 = .ok (.iconst 0, 1) := by decide +kernel
theorem dX3_loudestGate_5 : decode cX3_loudestGate 5 = .ok (.istore_n 3, 1) := by decide +kernel
theorem dX3_loudestGate_6 : decode cX3_loudestGate 6 = .ok (.iload_n 3, 1) := by decide +kernel
theorem dX3_loudestGate_7 : decode cX3_loudestGate 7 = .ok (.aload_n 0, 1) := by decide +kernel
theorem dX3_loudestGate_8 : decode cX3_loudestGate 8 = .ok (.getfield 10, 3) := by decide +kernel
theorem dX3_loudestGate_11 : decode cX3_loudestGate 11 = .ok (.getfield 27, 3) := by decide +kernel
theorem dX3_loudestGate_14 : decode cX3_loudestGate 14 = .ok (.if_icmp .ge 31, 3) := by decide +kernel
theorem dX3_loudestGate_17 : decode cX3_loudestGate 17 = .ok (.aload_n 0, 1) := by decide +kernel
theorem dX3_loudestGate_18 : decode cX3_loudestGate 18 = .ok (.getfield 10, 3) := by decide +kernel
theorem dX3_loudestGate_21 : decode cX3_loudestGate 21 = .ok (.iload_n 3, 1) := by decide +kernel
theorem dX3_loudestGate_22 : decode cX3_loudestGate 22 = .ok (.iconst 0, 1) := by decide +kernel
theorem dX3_loudestGate_23 : decode cX3_loudestGate 23 = .ok (.invokevirtual 135, 3) := by decide +kernel
theorem dX3_loudestGate_26 : decode cX3_loudestGate 26 = .ok (.istore 4, 2) := by decide +kernel
theorem dX3_loudestGate_28 : decode cX3_loudestGate 28 = .ok (.iload 4, 2) := by decide +kernel
theorem dX3_loudestGate_30 : decode cX3_loudestGate 30 = .ok (.iload_n 2, 1) := by decide +kernel
theorem dX3_loudestGate_31 : decode cX3_loudestGate 31 = .ok (.if_icmp .le 8, 3) := by decide +kernel
theorem dX3_loudestGate_34 : decode cX3_loudestGate 34 = .ok (.iload 4, 2) := by decide +kernel
theorem dX3_loudestGate_36 : decode cX3_loudestGate 36 = .ok (.istore_n 2, 1) := by decide +kernel
theorem dX3_loudestGate_37 : decode cX3_loudestGate 37 = .ok (.iload_n 3, 1) := by decide +kernel
theorem dX3_loudestGate_38 : decode cX3_loudestGate 38 = .ok (.istore_n 1, 1) := by decide +kernel
theorem dX3_loudestGate_39 : decode cX3_loudestGate 39 = .ok (.iinc 3 1, 3) := by decide +kernel
theorem dX3_loudestGate_42 : decode cX3_loudestGate 42 = .ok (.goto (-36), 3) := by decide +kernel
theorem dX3_loudestGate_45 : decode cX3_loudestGate 45 = .ok (.iload_n 1, 1) := by decide +kernel
theorem dX3_loudestGate_46 : decode cX3_loudestGate 46 = .ok (.ireturn, 1) := by decide +kernel
set_option maxRecDepth 20000 in
theorem ggX3_gateOf_X3_demandGoose : GoodIn wsX3_gateOf wsX3_demandGoose := goodIn_ca (goodIn_r _ [8, 1, 2, 9, 10, 11, 12, 13, 14, 15, 16, 7, 17, 18, 19, 20, 21, 22, 23, 24, 25, 26, 27, 28, 29, 30, 31, 32, 33] (by decide +kernel) (by decide +kernel)) (goodIn_sub (fun _ h => List.mem_cons_of_mem _ (List.mem_append_right _ h)) (by decide +kernel))
set_option maxRecDepth 20000 in
theorem gX3_gateOf_X3_demandGoose : GoodIn wsX3_gateOf (wsV RX3 97 RX3 yX3_demandGoose wsX3_demandGoose) := goodIn_app (goodIn_of _ (by decide +kernel)) ggX3_gateOf_X3_demandGoose
theorem dX3_gateOf_0 : decode cX3_gateOf 0 = .ok (.aload_n 0, 1) := by decide +kernel
theorem dX3_gateOf_1 : decode cX3_gateOf 1 = .ok (.iload_n 1, 1) := by decide +kernel
theorem dX3_gateOf_2 : decode cX3_gateOf 2 = .ok (.invokevirtual 97, 3) := by decide +kernel
theorem dX3_gateOf_5 : decode cX3_gateOf 5 = .ok (.aload_n 0, 1) := by decide +kernel
theorem dX3_gateOf_6 : decode cX3_gateOf 6 = .ok (.getfield 10, 3) := by decide +kernel
theorem dX3_gateOf_9 : decode cX3_gateOf 9 = .ok (.getfield 57, 3) := by decide +kernel
theorem dX3_gateOf_12 : decode cX3_gateOf 12 = .ok (.getfield 82, 3) := by decide +kernel
theorem dX3_gateOf_15 : decode cX3_gateOf 15 = .ok (.iload_n 1, 1) := by decide +kernel
theorem dX3_gateOf_16 : decode cX3_gateOf 16 = .ok (.iaload, 1) := by decide +kernel
theorem dX3_gateOf_17 : decode cX3_gateOf 17 = .ok (.ireturn, 1) := by decide +kernel
set_option maxRecDepth 20000 in
theorem ggX3_temperOf_X3_demandGoose : GoodIn wsX3_temperOf wsX3_demandGoose := goodIn_ca (goodIn_r _ [8, 1, 2, 9, 10, 11, 12, 13, 14, 15, 16, 7, 17, 18, 19, 20, 21, 22, 23, 24, 25, 26, 27, 28, 29, 30, 31, 32, 33] (by decide +kernel) (by decide +kernel)) (goodIn_sub (fun _ h => List.mem_cons_of_mem _ (List.mem_append_right _ h)) (by decide +kernel))
set_option maxRecDepth 20000 in
theorem gX3_temperOf_X3_demandGoose : GoodIn wsX3_temperOf (wsV RX3 97 RX3 yX3_demandGoose wsX3_demandGoose) := goodIn_app (goodIn_of _ (by decide +kernel)) ggX3_temperOf_X3_demandGoose
theorem dX3_temperOf_0 : decode cX3_temperOf 0 = .ok (.aload_n 0, 1) := by decide +kernel
theorem dX3_temperOf_1 : decode cX3_temperOf 1 = .ok (.iload_n 1, 1) := by decide +kernel
theorem dX3_temperOf_2 : decode cX3_temperOf 2 = .ok (.invokevirtual 97, 3) := by decide +kernel
theorem dX3_temperOf_5 : decode cX3_temperOf 5 = .ok (.aload_n 0, 1) := by decide +kernel
theorem dX3_temperOf_6 : decode cX3_temperOf 6 = .ok (.getfield 10, 3) := by decide +kernel
theorem dX3_temperOf_9 : decode cX3_temperOf 9 = .ok (.getfield 57, 3) := by decide +kernel
theorem dX3_temperOf_12 : decode cX3_temperOf 12 = .ok (.getfield 110, 3) := by decide +kernel
theorem dX3_temperOf_15 : decode cX3_temperOf 15 = .ok (.iload_n 1, 1) := by decide +kernel
theorem dX3_temperOf_16 : decode cX3_temperOf 16 = .ok (.iaload, 1) := by decide +kernel
theorem dX3_temperOf_17 : decode cX3_temperOf 17 = .ok (.ireturn, 1) := by decide +kernel
set_option maxRecDepth 20000 in
theorem ggX3_calmFor_X3_demandGoose : GoodIn wsX3_calmFor wsX3_demandGoose := goodIn_ca (goodIn_r _ [8, 1, 2, 9, 10, 11, 12, 13, 14, 15, 16, 7, 17, 18, 19, 20, 21, 22, 23, 24, 25, 26, 27, 28, 29, 30, 31, 32, 33] (by decide +kernel) (by decide +kernel)) (goodIn_sub (fun _ h => List.mem_cons_of_mem _ (List.mem_append_right _ h)) (by decide +kernel))
set_option maxRecDepth 20000 in
theorem gX3_calmFor_X3_demandGoose : GoodIn wsX3_calmFor (wsV RX3 97 RX3 yX3_demandGoose wsX3_demandGoose) := goodIn_app (goodIn_of _ (by decide +kernel)) ggX3_calmFor_X3_demandGoose
theorem dX3_calmFor_0 : decode cX3_calmFor 0 = .ok (.aload_n 0, 1) := by decide +kernel
theorem dX3_calmFor_1 : decode cX3_calmFor 1 = .ok (.iload_n 1, 1) := by decide +kernel
theorem dX3_calmFor_2 : decode cX3_calmFor 2 = .ok (.invokevirtual 97, 3) := by decide +kernel
theorem dX3_calmFor_5 : decode cX3_calmFor 5 = .ok (.aload_n 0, 1) := by decide +kernel
theorem dX3_calmFor_6 : decode cX3_calmFor 6 = .ok (.getfield 10, 3) := by decide +kernel
theorem dX3_calmFor_9 : decode cX3_calmFor 9 = .ok (.getfield 57, 3) := by decide +kernel
theorem dX3_calmFor_12 : decode cX3_calmFor 12 = .ok (.getfield 138, 3) := by decide +kernel
theorem dX3_calmFor_15 : decode cX3_calmFor 15 = .ok (.iload_n 1, 1) := by decide +kernel
theorem dX3_calmFor_16 : decode cX3_calmFor 16 = .ok (.iaload, 1) := by decide +kernel
theorem dX3_calmFor_17 : decode cX3_calmFor 17 = .ok (.ireturn, 1) := by decide +kernel
set_option maxRecDepth 20000 in
theorem ggX3_eatenBy_X3_demandGoose : GoodIn wsX3_eatenBy wsX3_demandGoose := goodIn_ca (goodIn_r _ [8, 1, 2, 9, 10, 11, 12, 13, 14, 15, 16, 7, 17, 18, 19, 20, 21, 22, 23, 24, 25, 26, 27, 28, 29, 30, 31, 32, 33] (by decide +kernel) (by decide +kernel)) (goodIn_sub (fun _ h => List.mem_cons_of_mem _ (List.mem_append_right _ h)) (by decide +kernel))
set_option maxRecDepth 20000 in
theorem gX3_eatenBy_X3_demandGoose : GoodIn wsX3_eatenBy (wsV RX3 97 RX3 yX3_demandGoose wsX3_demandGoose) := goodIn_app (goodIn_of _ (by decide +kernel)) ggX3_eatenBy_X3_demandGoose
theorem dX3_eatenBy_0 : decode cX3_eatenBy 0 = .ok (.aload_n 0, 1) := by decide +kernel
theorem dX3_eatenBy_1 : decode cX3_eatenBy 1 = .ok (.iload_n 1, 1) := by decide +kernel
theorem dX3_eatenBy_2 : decode cX3_eatenBy 2 = .ok (.invokevirtual 97, 3) := by decide +kernel
theorem dX3_eatenBy_5 : decode cX3_eatenBy 5 = .ok (.aload_n 0, 1) := by decide +kernel
theorem dX3_eatenBy_6 : decode cX3_eatenBy 6 = .ok (.getfield 10, 3) := by decide +kernel
theorem dX3_eatenBy_9 : decode cX3_eatenBy 9 = .ok (.getfield 57, 3) := by decide +kernel
theorem dX3_eatenBy_12 : decode cX3_eatenBy 12 = .ok (.getfield 141, 3) := by decide +kernel
theorem dX3_eatenBy_15 : decode cX3_eatenBy 15 = .ok (.iload_n 1, 1) := by decide +kernel
theorem dX3_eatenBy_16 : decode cX3_eatenBy 16 = .ok (.iaload, 1) := by decide +kernel
theorem dX3_eatenBy_17 : decode cX3_eatenBy 17 = .ok (.ireturn, 1) := by decide +kernel
set_option maxRecDepth 20000 in
theorem ggX3_passedBy_X3_demandVisitor : GoodIn wsX3_passedBy wsX3_demandVisitor := goodIn_ca (goodIn_r _ [8, 1, 2, 9, 10, 11, 12, 13, 14, 15, 16, 7, 17, 18, 19, 20, 21, 22, 23, 24, 25, 26, 27, 28, 29, 30, 31, 32, 33, 34] (by decide +kernel) (by decide +kernel)) (goodIn_sub (fun _ h => List.mem_cons_of_mem _ (List.mem_append_right _ h)) (by decide +kernel))
set_option maxRecDepth 20000 in
theorem gX3_passedBy_X3_demandVisitor : GoodIn wsX3_passedBy (wsV RX3 85 RX3 yX3_demandVisitor wsX3_demandVisitor) := goodIn_app (goodIn_of _ (by decide +kernel)) ggX3_passedBy_X3_demandVisitor
theorem dX3_passedBy_0 : decode cX3_passedBy 0 = .ok (.aload_n 0, 1) := by decide +kernel
theorem dX3_passedBy_1 : decode cX3_passedBy 1 = .ok (.iload_n 1, 1) := by decide +kernel
theorem dX3_passedBy_2 : decode cX3_passedBy 2 = .ok (.invokevirtual 85, 3) := by decide +kernel
theorem dX3_passedBy_5 : decode cX3_passedBy 5 = .ok (.aload_n 0, 1) := by decide +kernel
theorem dX3_passedBy_6 : decode cX3_passedBy 6 = .ok (.getfield 10, 3) := by decide +kernel
theorem dX3_passedBy_9 : decode cX3_passedBy 9 = .ok (.getfield 31, 3) := by decide +kernel
theorem dX3_passedBy_12 : decode cX3_passedBy 12 = .ok (.getfield 103, 3) := by decide +kernel
theorem dX3_passedBy_15 : decode cX3_passedBy 15 = .ok (.iload_n 1, 1) := by decide +kernel
theorem dX3_passedBy_16 : decode cX3_passedBy 16 = .ok (.iaload, 1) := by decide +kernel
theorem dX3_passedBy_17 : decode cX3_passedBy 17 = .ok (.ireturn, 1) := by decide +kernel
set_option maxRecDepth 20000 in
theorem ggX3_isInFarm_X3_demandVisitor : GoodIn wsX3_isInFarm wsX3_demandVisitor := goodIn_ca (goodIn_r _ [6, 1, 7, 8, 9, 10, 11, 12, 13, 14, 15, 5, 16, 17, 18, 27, 28, 29, 30, 31, 32, 33, 34, 35, 36, 37, 38, 39, 40, 41] (by decide +kernel) (by decide +kernel)) (goodIn_sub (fun _ h => List.mem_cons_of_mem _ (List.mem_append_right _ h)) (by decide +kernel))
set_option maxRecDepth 20000 in
theorem gX3_isInFarm_X3_demandVisitor : GoodIn wsX3_isInFarm (wsV RX3 85 RX3 yX3_demandVisitor wsX3_demandVisitor) := goodIn_app (goodIn_of _ (by decide +kernel)) ggX3_isInFarm_X3_demandVisitor
set_option maxRecDepth 20000 in
theorem ggX3_isInFarm_X0_isBehindAll : GoodIn wsX3_isInFarm wsX0_isBehindAll := goodIn_r _ [23, 24, 25, 26, 29, 30, 31, 32, 33, 34, 35, 36, 37, 38, 39, 40, 41] (by decide +kernel) (by decide +kernel)
set_option maxRecDepth 20000 in
theorem gX3_isInFarm_X0_isBehindAll : GoodIn wsX3_isInFarm (wsV RX3 100 RX0 yX0_isBehindAll wsX0_isBehindAll) := goodIn_app (goodIn_of _ (by decide +kernel)) ggX3_isInFarm_X0_isBehindAll
theorem dX3_isInFarm_0 : decode cX3_isInFarm 0 = .ok (.aload_n 0, 1) := by decide +kernel
theorem dX3_isInFarm_1 : decode cX3_isInFarm 1 = .ok (.iload_n 1, 1) := by decide +kernel
theorem dX3_isInFarm_2 : decode cX3_isInFarm 2 = .ok (.invokevirtual 85, 3) := by decide +kernel
theorem dX3_isInFarm_5 : decode cX3_isInFarm 5 = .ok (.aload_n 0, 1) := by decide +kernel
theorem dX3_isInFarm_6 : decode cX3_isInFarm 6 = .ok (.getfield 10, 3) := by decide +kernel
theorem dX3_isInFarm_9 : decode cX3_isInFarm 9 = .ok (.iload_n 1, 1) := by decide +kernel
theorem dX3_isInFarm_10 : decode cX3_isInFarm 10 = .ok (.invokevirtual 100, 3) := by decide +kernel
theorem dX3_isInFarm_13 : decode cX3_isInFarm 13 = .ok (.ireturn, 1) := by decide +kernel
set_option maxRecDepth 20000 in
theorem ggX3_cornsOf_X3_demandVisitor : GoodIn wsX3_cornsOf wsX3_demandVisitor := goodIn_ca (goodIn_r _ [8, 1, 2, 9, 10, 11, 12, 13, 14, 15, 16, 7, 17, 18, 19, 20, 21, 22, 23, 24, 25, 26, 27, 28, 29, 30, 31, 32, 33, 34] (by decide +kernel) (by decide +kernel)) (goodIn_sub (fun _ h => List.mem_cons_of_mem _ (List.mem_append_right _ h)) (by decide +kernel))
set_option maxRecDepth 20000 in
theorem gX3_cornsOf_X3_demandVisitor : GoodIn wsX3_cornsOf (wsV RX3 85 RX3 yX3_demandVisitor wsX3_demandVisitor) := goodIn_app (goodIn_of _ (by decide +kernel)) ggX3_cornsOf_X3_demandVisitor
theorem dX3_cornsOf_0 : decode cX3_cornsOf 0 = .ok (.aload_n 0, 1) := by decide +kernel
theorem dX3_cornsOf_1 : decode cX3_cornsOf 1 = .ok (.iload_n 1, 1) := by decide +kernel
theorem dX3_cornsOf_2 : decode cX3_cornsOf 2 = .ok (.invokevirtual 85, 3) := by decide +kernel
theorem dX3_cornsOf_5 : decode cX3_cornsOf 5 = .ok (.aload_n 0, 1) := by decide +kernel
theorem dX3_cornsOf_6 : decode cX3_cornsOf 6 = .ok (.getfield 10, 3) := by decide +kernel
theorem dX3_cornsOf_9 : decode cX3_cornsOf 9 = .ok (.getfield 31, 3) := by decide +kernel
theorem dX3_cornsOf_12 : decode cX3_cornsOf 12 = .ok (.getfield 89, 3) := by decide +kernel
theorem dX3_cornsOf_15 : decode cX3_cornsOf 15 = .ok (.iload_n 1, 1) := by decide +kernel
theorem dX3_cornsOf_16 : decode cX3_cornsOf 16 = .ok (.iaload, 1) := by decide +kernel
theorem dX3_cornsOf_17 : decode cX3_cornsOf 17 = .ok (.ireturn, 1) := by decide +kernel
set_option maxRecDepth 20000 in
theorem ggX3_nerveOf_X3_demandVisitor : GoodIn wsX3_nerveOf wsX3_demandVisitor := goodIn_ca (goodIn_r _ [8, 1, 2, 9, 10, 11, 12, 13, 14, 15, 16, 7, 17, 18, 19, 20, 21, 22, 23, 24, 25, 26, 27, 28, 29, 30, 31, 32, 33, 34] (by decide +kernel) (by decide +kernel)) (goodIn_sub (fun _ h => List.mem_cons_of_mem _ (List.mem_append_right _ h)) (by decide +kernel))
set_option maxRecDepth 20000 in
theorem gX3_nerveOf_X3_demandVisitor : GoodIn wsX3_nerveOf (wsV RX3 85 RX3 yX3_demandVisitor wsX3_demandVisitor) := goodIn_app (goodIn_of _ (by decide +kernel)) ggX3_nerveOf_X3_demandVisitor
theorem dX3_nerveOf_0 : decode cX3_nerveOf 0 = .ok (.aload_n 0, 1) := by decide +kernel
theorem dX3_nerveOf_1 : decode cX3_nerveOf 1 = .ok (.iload_n 1, 1) := by decide +kernel
theorem dX3_nerveOf_2 : decode cX3_nerveOf 2 = .ok (.invokevirtual 85, 3) := by decide +kernel
theorem dX3_nerveOf_5 : decode cX3_nerveOf 5 = .ok (.aload_n 0, 1) := by decide +kernel
theorem dX3_nerveOf_6 : decode cX3_nerveOf 6 = .ok (.getfield 10, 3) := by decide +kernel
theorem dX3_nerveOf_9 : decode cX3_nerveOf 9 = .ok (.getfield 31, 3) := by decide +kernel
theorem dX3_nerveOf_12 : decode cX3_nerveOf 12 = .ok (.getfield 144, 3) := by decide +kernel
theorem dX3_nerveOf_15 : decode cX3_nerveOf 15 = .ok (.iload_n 1, 1) := by decide +kernel
theorem dX3_nerveOf_16 : decode cX3_nerveOf 16 = .ok (.iaload, 1) := by decide +kernel
theorem dX3_nerveOf_17 : decode cX3_nerveOf 17 = .ok (.ireturn, 1) := by decide +kernel
set_option maxRecDepth 20000 in
theorem ggX3_retreatOf_X3_demandVisitor : GoodIn wsX3_retreatOf wsX3_demandVisitor := goodIn_ca (goodIn_r _ [8, 1, 2, 9, 10, 11, 12, 13, 14, 15, 16, 7, 17, 18, 19, 20, 21, 22, 23, 24, 25, 26, 27, 28, 29, 30, 31, 32, 33, 34] (by decide +kernel) (by decide +kernel)) (goodIn_sub (fun _ h => List.mem_cons_of_mem _ (List.mem_append_right _ h)) (by decide +kernel))
set_option maxRecDepth 20000 in
theorem gX3_retreatOf_X3_demandVisitor : GoodIn wsX3_retreatOf (wsV RX3 85 RX3 yX3_demandVisitor wsX3_demandVisitor) := goodIn_app (goodIn_of _ (by decide +kernel)) ggX3_retreatOf_X3_demandVisitor
theorem dX3_retreatOf_0 : decode cX3_retreatOf 0 = .ok (.aload_n 0, 1) := by decide +kernel
theorem dX3_retreatOf_1 : decode cX3_retreatOf 1 = .ok (.iload_n 1, 1) := by decide +kernel
theorem dX3_retreatOf_2 : decode cX3_retreatOf 2 = .ok (.invokevirtual 85, 3) := by decide +kernel
theorem dX3_retreatOf_5 : decode cX3_retreatOf 5 = .ok (.aload_n 0, 1) := by decide +kernel
theorem dX3_retreatOf_6 : decode cX3_retreatOf 6 = .ok (.getfield 10, 3) := by decide +kernel
theorem dX3_retreatOf_9 : decode cX3_retreatOf 9 = .ok (.getfield 31, 3) := by decide +kernel
theorem dX3_retreatOf_12 : decode cX3_retreatOf 12 = .ok (.getfield 147, 3) := by decide +kernel
theorem dX3_retreatOf_15 : decode cX3_retreatOf 15 = .ok (.iload_n 1, 1) := by decide +kernel
theorem dX3_retreatOf_16 : decode cX3_retreatOf 16 = .ok (.iaload, 1) := by decide +kernel
theorem dX3_retreatOf_17 : decode cX3_retreatOf 17 = .ok (.ireturn, 1) := by decide +kernel
set_option maxRecDepth 20000 in
theorem ggX3_hissAt_X3_demandVisitor : GoodIn wsX3_hissAt wsX3_demandVisitor := goodIn_ca (goodIn_r _ [6, 1, 7, 8, 9, 10, 11, 12, 13, 14, 15, 5, 16, 17, 18, 59, 60, 61, 62, 63, 64, 65, 66, 67, 68, 69, 70, 71, 72, 73] (by decide +kernel) (by decide +kernel)) (goodIn_sub (fun _ h => List.mem_cons_of_mem _ (List.mem_append_right _ h)) (by decide +kernel))
set_option maxRecDepth 20000 in
theorem gX3_hissAt_X3_demandVisitor : GoodIn wsX3_hissAt (wsV RX3 85 RX3 yX3_demandVisitor wsX3_demandVisitor) := goodIn_app (goodIn_of _ (by decide +kernel)) ggX3_hissAt_X3_demandVisitor
set_option maxRecDepth 20000 in
theorem ggX3_hissAt_X0_guestHiss : GoodIn wsX3_hissAt wsX0_guestHiss := goodIn_r _ [23, 24, 25, 26, 27, 28, 29, 22, 30, 31, 32, 33, 34, 35, 36, 37, 38, 39, 40, 41, 42, 43, 44, 45, 46, 47, 48, 49, 50, 51, 52, 53, 54, 55, 56, 57, 58, 61, 62, 63, 64, 65, 66, 67, 68, 69, 70, 71, 72, 73, 74, 75, 76, 77, 78] (by decide +kernel) (by decide +kernel)
set_option maxRecDepth 20000 in
theorem gX3_hissAt_X0_guestHiss : GoodIn wsX3_hissAt (wsV RX3 150 RX0 yX0_guestHiss wsX0_guestHiss) := goodIn_app (goodIn_of _ (by decide +kernel)) ggX3_hissAt_X0_guestHiss
theorem dX3_hissAt_0 : decode cX3_hissAt 0 = .ok (.aload_n 0, 1) := by decide +kernel
theorem dX3_hissAt_1 : decode cX3_hissAt 1 = .ok (.iload_n 1, 1) := by decide +kernel
theorem dX3_hissAt_2 : decode cX3_hissAt 2 = .ok (.invokevirtual 85, 3) := by decide +kernel
theorem dX3_hissAt_5 : decode cX3_hissAt 5 = .ok (.aload_n 0, 1) := by decide +kernel
theorem dX3_hissAt_6 : decode cX3_hissAt 6 = .ok (.getfield 10, 3) := by decide +kernel
theorem dX3_hissAt_9 : decode cX3_hissAt 9 = .ok (.iload_n 1, 1) := by decide +kernel
theorem dX3_hissAt_10 : decode cX3_hissAt 10 = .ok (.invokevirtual 150, 3) := by decide +kernel
theorem dX3_hissAt_13 : decode cX3_hissAt 13 = .ok (.ireturn, 1) := by decide +kernel
set_option maxRecDepth 20000 in
theorem ggX3_gradeFor_X3_demandVisitor : GoodIn wsX3_gradeFor wsX3_demandVisitor := goodIn_ca (goodIn_r _ [6, 1, 7, 8, 9, 10, 11, 12, 13, 14, 15, 5, 16, 17, 18, 62, 63, 64, 65, 66, 67, 68, 69, 70, 71, 72, 73, 74, 75, 76] (by decide +kernel) (by decide +kernel)) (goodIn_sub (fun _ h => List.mem_cons_of_mem _ (List.mem_append_right _ h)) (by decide +kernel))
set_option maxRecDepth 20000 in
theorem gX3_gradeFor_X3_demandVisitor : GoodIn wsX3_gradeFor (wsV RX3 85 RX3 yX3_demandVisitor wsX3_demandVisitor) := goodIn_app (goodIn_of _ (by decide +kernel)) ggX3_gradeFor_X3_demandVisitor
set_option maxRecDepth 20000 in
theorem ggX3_gradeFor_X0_guestHiss : GoodIn wsX3_gradeFor wsX0_guestHiss := goodIn_r _ [23, 24, 25, 26, 27, 28, 29, 22, 30, 31, 32, 33, 34, 35, 36, 37, 38, 39, 40, 41, 42, 43, 44, 45, 46, 47, 48, 49, 50, 51, 52, 53, 54, 55, 56, 57, 58, 64, 65, 66, 67, 68, 69, 70, 71, 72, 73, 74, 75, 76, 77, 78, 79, 80, 81] (by decide +kernel) (by decide +kernel)
set_option maxRecDepth 20000 in
theorem gX3_gradeFor_X0_guestHiss : GoodIn wsX3_gradeFor (wsV RX3 150 RX0 yX0_guestHiss wsX0_guestHiss) := goodIn_app (goodIn_of _ (by decide +kernel)) ggX3_gradeFor_X0_guestHiss
set_option maxRecDepth 20000 in
theorem ggX3_gradeFor_X3_gradeOfHiss : GoodIn wsX3_gradeFor wsX3_gradeOfHiss := goodIn_r _ [61] (by decide +kernel) (by decide +kernel)
set_option maxRecDepth 20000 in
theorem gX3_gradeFor_X3_gradeOfHiss : GoodIn wsX3_gradeFor (va_wsS RX3 153 yX3_gradeOfHiss wsX3_gradeOfHiss) := goodIn_app (goodIn_of _ (by decide +kernel)) ggX3_gradeFor_X3_gradeOfHiss
theorem dX3_gradeFor_0 : decode cX3_gradeFor 0 = .ok (.aload_n 0, 1) := by decide +kernel
theorem dX3_gradeFor_1 : decode cX3_gradeFor 1 = .ok (.iload_n 1, 1) := by decide +kernel
theorem dX3_gradeFor_2 : decode cX3_gradeFor 2 = .ok (.invokevirtual 85, 3) := by decide +kernel
theorem dX3_gradeFor_5 : decode cX3_gradeFor 5 = .ok (.aload_n 0, 1) := by decide +kernel
theorem dX3_gradeFor_6 : decode cX3_gradeFor 6 = .ok (.getfield 10, 3) := by decide +kernel
theorem dX3_gradeFor_9 : decode cX3_gradeFor 9 = .ok (.iload_n 1, 1) := by decide +kernel
theorem dX3_gradeFor_10 : decode cX3_gradeFor 10 = .ok (.invokevirtual 150, 3) := by decide +kernel
theorem dX3_gradeFor_13 : decode cX3_gradeFor 13 = .ok (.invokestatic 153, 3) := by decide +kernel
theorem dX3_gradeFor_16 : decode cX3_gradeFor 16 = .ok (.ireturn, 1) := by decide +kernel
set_option maxRecDepth 20000 in
theorem ggX3_dares_X3_demandVisitor : GoodIn wsX3_dares wsX3_demandVisitor := goodIn_ca (goodIn_r _ [8, 1, 2, 9, 10, 11, 12, 13, 14, 15, 16, 7, 17, 18, 19, 64, 65, 66, 67, 68, 69, 70, 71, 72, 73, 74, 75, 76, 77, 78] (by decide +kernel) (by decide +kernel)) (goodIn_sub (fun _ h => List.mem_cons_of_mem _ (List.mem_append_right _ h)) (by decide +kernel))
set_option maxRecDepth 20000 in
theorem gX3_dares_X3_demandVisitor : GoodIn wsX3_dares (wsV RX3 85 RX3 yX3_demandVisitor wsX3_demandVisitor) := goodIn_app (goodIn_of _ (by decide +kernel)) ggX3_dares_X3_demandVisitor
set_option maxRecDepth 20000 in
theorem ggX3_dares_X0_isBehindAll : GoodIn wsX3_dares wsX0_isBehindAll := goodIn_r _ [24, 25, 26, 27, 66, 67, 68, 69, 70, 71, 72, 73, 74, 75, 76, 77, 78] (by decide +kernel) (by decide +kernel)
set_option maxRecDepth 20000 in
theorem gX3_dares_X0_isBehindAll : GoodIn wsX3_dares (wsV RX3 100 RX0 yX0_isBehindAll wsX0_isBehindAll) := goodIn_app (goodIn_of _ (by decide +kernel)) ggX3_dares_X0_isBehindAll
set_option maxRecDepth 20000 in
theorem ggX3_dares_X0_guestHiss : GoodIn wsX3_dares wsX0_guestHiss := goodIn_r _ [31, 25, 26, 32, 33, 34, 35, 23, 36, 37, 38, 39, 40, 41, 42, 43, 44, 45, 46, 47, 48, 49, 50, 27, 51, 52, 53, 54, 55, 56, 57, 58, 59, 60, 61, 62, 63, 66, 67, 68, 69, 70, 71, 72, 73, 74, 75, 76, 77, 78, 79, 80, 81, 82, 83] (by decide +kernel) (by decide +kernel)
set_option maxRecDepth 20000 in
theorem gX3_dares_X0_guestHiss : GoodIn wsX3_dares (wsV RX3 150 RX0 yX0_guestHiss wsX0_guestHiss) := goodIn_app (goodIn_of _ (by decide +kernel)) ggX3_dares_X0_guestHiss
theorem dX3_dares_0 : decode cX3_dares 0 = .ok (.aload_n 0, 1) := by decide +kernel
theorem dX3_dares_1 : decode cX3_dares 1 = .ok (.iload_n 1, 1) := by decide +kernel
theorem dX3_dares_2 : decode cX3_dares 2 = .ok (.invokevirtual 85, 3) := by decide +kernel
theorem dX3_dares_5 : decode cX3_dares 5 = .ok (.aload_n 0, 1) := by decide +kernel
theorem dX3_dares_6 : decode cX3_dares 6 = .ok (.getfield 10, 3) := by decide +kernel
theorem dX3_dares_9 : decode cX3_dares 9 = .ok (.iload_n 1, 1) := by decide +kernel
theorem dX3_dares_10 : decode cX3_dares 10 = .ok (.invokevirtual 100, 3) := by decide +kernel
theorem dX3_dares_13 : decode cX3_dares 13 = .ok (.ifCond .ne 30, 3) := by decide +kernel
theorem dX3_dares_16 : decode cX3_dares 16 = .ok (.aload_n 0, 1) := by decide +kernel
theorem dX3_dares_17 : decode cX3_dares 17 = .ok (.getfield 10, 3) := by decide +kernel
theorem dX3_dares_20 : decode cX3_dares 20 = .ok (.iload_n 1, 1) := by decide +kernel
theorem dX3_dares_21 : decode cX3_dares 21 = .ok (.invokevirtual 150, 3) := by decide +kernel
theorem dX3_dares_24 : decode cX3_dares 24 = .ok (.aload_n 0, 1) := by decide +kernel
theorem dX3_dares_25 : decode cX3_dares 25 = .ok (.getfield 10, 3) := by decide +kernel
theorem dX3_dares_28 : decode cX3_dares 28 = .ok (.getfield 31, 3) := by decide +kernel
theorem dX3_dares_31 : decode cX3_dares 31 = .ok (.getfield 144, 3) := by decide +kernel
theorem dX3_dares_34 : decode cX3_dares 34 = .ok (.iload_n 1, 1) := by decide +kernel
theorem dX3_dares_35 : decode cX3_dares 35 = .ok (.iaload, 1) := by decide +kernel
theorem dX3_dares_36 : decode cX3_dares 36 = .ok (.if_icmp .gt 7, 3) := by decide +kernel
theorem dX3_dares_39 : decode cX3_dares 39 = .ok (.iconst 1, 1) := by decide +kernel
theorem dX3_dares_40 : decode cX3_dares 40 = .ok (.goto 4, 3) := by decide +kernel
theorem dX3_dares_43 : decode cX3_dares 43 = .ok (.iconst 0, 1) := by decide +kernel
theorem dX3_dares_44 : decode cX3_dares 44 = .ok (.ireturn, 1) := by decide +kernel
set_option maxRecDepth 20000 in
theorem ggX3_meanTemper_X1_sumOfTempers : GoodIn wsX3_meanTemper wsX1_sumOfTempers := goodIn_r _ [8, 9, 10, 20, 21, 22, 23, 24] (by decide +kernel) (by decide +kernel)
set_option maxRecDepth 20000 in
theorem gX3_meanTemper_X1_sumOfTempers : GoodIn wsX3_meanTemper (wsV RX3 169 RX1 yX1_sumOfTempers wsX1_sumOfTempers) := goodIn_app (goodIn_of _ (by decide +kernel)) ggX3_meanTemper_X1_sumOfTempers
theorem dX3_meanTemper_0 : decode cX3_meanTemper 0 = .ok (.aload_n 0, 1) := by decide +kernel
theorem dX3_meanTemper_1 : decode cX3_meanTemper 1 = .ok (.getfield 10, 3) := by decide +kernel
theorem dX3_meanTemper_4 : decode cX3_meanTemper 4 = .ok (.getfield 57, 3) := by decide +kernel
theorem dX3_meanTemper_7 : decode cX3_meanTemper 7 = .ok (.getfield 61, 3) := by decide +kernel
theorem dX3_meanTemper_10 : decode cX3_meanTemper 10 = .ok (.istore_n 1, 1) := by decide +kernel
theorem dX3_meanTemper_11 : decode cX3_meanTemper 11 = .ok (.iload_n 1, 1) := by decide +kernel
theorem dX3_meanTemper_12 : decode cX3_meanTemper 12 = .ok (.ifCond .ne 5, 3) := by decide +kernel
theorem dX3_meanTemper_15 : decode cX3_meanTemper 15 = .ok (.dconst 0, 1) := by decide +kernel
theorem dX3_meanTemper_16 : decode cX3_meanTemper 16 = .ok (.dreturn, 1) := by decide +kernel
theorem dX3_meanTemper_17 : decode cX3_meanTemper 17 = .ok (.aload_n 0, 1) := by decide +kernel
theorem dX3_meanTemper_18 : decode cX3_meanTemper 18 = .ok (.getfield 10, 3) := by decide +kernel
theorem dX3_meanTemper_21 : decode cX3_meanTemper 21 = .ok (.getfield 57, 3) := by decide +kernel
theorem dX3_meanTemper_24 : decode cX3_meanTemper 24 = .ok (.invokevirtual 169, 3) := by decide +kernel
theorem dX3_meanTemper_27 : decode cX3_meanTemper 27 = .ok (.i2d, 1) := by decide +kernel
theorem dX3_meanTemper_28 : decode cX3_meanTemper 28 = .ok (.iload_n 1, 1) := by decide +kernel
theorem dX3_meanTemper_29 : decode cX3_meanTemper 29 = .ok (.i2d, 1) := by decide +kernel
theorem dX3_meanTemper_30 : decode cX3_meanTemper 30 = .ok (.ddiv, 1) := by decide +kernel
theorem dX3_meanTemper_31 : decode cX3_meanTemper 31 = .ok (.dreturn, 1) := by decide +kernel
theorem dX3_gradeOfHiss_0 : decode cX3_gradeOfHiss 0 = .ok (.iload_n 0, 1) := by decide +kernel
theorem dX3_gradeOfHiss_1 : decode cX3_gradeOfHiss 1 = .ok (.ifCond .gt 5, 3) := by decide +kernel
theorem dX3_gradeOfHiss_4 : decode cX3_gradeOfHiss 4 = .ok (.iconst 0, 1) := by decide +kernel
theorem dX3_gradeOfHiss_5 : decode cX3_gradeOfHiss 5 = .ok (.ireturn, 1) := by decide +kernel
theorem dX3_gradeOfHiss_6 : decode cX3_gradeOfHiss 6 = .ok (.iload_n 0, 1) := by decide +kernel
theorem dX3_gradeOfHiss_7 : decode cX3_gradeOfHiss 7 = .ok (.iconst 5, 1) := by decide +kernel
theorem dX3_gradeOfHiss_8 : decode cX3_gradeOfHiss 8 = .ok (.if_icmp .gt 5, 3) := by decide +kernel
theorem dX3_gradeOfHiss_11 : decode cX3_gradeOfHiss 11 = .ok (.iconst 1, 1) := by decide +kernel
theorem dX3_gradeOfHiss_12 : decode cX3_gradeOfHiss 12 = .ok (.ireturn, 1) := by decide +kernel
theorem dX3_gradeOfHiss_13 : decode cX3_gradeOfHiss 13 = .ok (.iload_n 0, 1) := by decide +kernel
theorem dX3_gradeOfHiss_14 : decode cX3_gradeOfHiss 14 = .ok (.bipush 10, 2) := by decide +kernel
theorem dX3_gradeOfHiss_16 : decode cX3_gradeOfHiss 16 = .ok (.if_icmp .gt 5, 3) := by decide +kernel
theorem dX3_gradeOfHiss_19 : decode cX3_gradeOfHiss 19 = .ok (.iconst 2, 1) := by decide +kernel
theorem dX3_gradeOfHiss_20 : decode cX3_gradeOfHiss 20 = .ok (.ireturn, 1) := by decide +kernel
theorem dX3_gradeOfHiss_21 : decode cX3_gradeOfHiss 21 = .ok (.iload_n 0, 1) := by decide +kernel
theorem dX3_gradeOfHiss_22 : decode cX3_gradeOfHiss 22 = .ok (.bipush 20, 2) := by decide +kernel
theorem dX3_gradeOfHiss_24 : decode cX3_gradeOfHiss 24 = .ok (.if_icmp .gt 7, 3) := by decide +kernel
theorem dX3_gradeOfHiss_27 : decode cX3_gradeOfHiss 27 = .ok (.iconst 3, 1) := by decide +kernel
theorem dX3_gradeOfHiss_28 : decode cX3_gradeOfHiss 28 = .ok (.goto 4, 3) := by decide +kernel
theorem dX3_gradeOfHiss_31 : decode cX3_gradeOfHiss 31 = .ok (.iconst 4, 1) := by decide +kernel
theorem dX3_gradeOfHiss_32 : decode cX3_gradeOfHiss 32 = .ok (.ireturn, 1) := by decide +kernel
theorem dX3_isWithin_0 : decode cX3_isWithin 0 = .ok (.iload_n 0, 1) := by decide +kernel
theorem dX3_isWithin_1 : decode cX3_isWithin 1 = .ok (.iload_n 1, 1) := by decide +kernel
theorem dX3_isWithin_2 : decode cX3_isWithin 2 = .ok (.if_icmp .lt 12, 3) := by decide +kernel
theorem dX3_isWithin_5 : decode cX3_isWithin 5 = .ok (.iload_n 0, 1) := by decide +kernel
theorem dX3_isWithin_6 : decode cX3_isWithin 6 = .ok (.iload_n 2, 1) := by decide +kernel
theorem dX3_isWithin_7 : decode cX3_isWithin 7 = .ok (.if_icmp .gt 7, 3) := by decide +kernel
theorem dX3_isWithin_10 : decode cX3_isWithin 10 = .ok (.iconst 1, 1) := by decide +kernel
theorem dX3_isWithin_11 : decode cX3_isWithin 11 = .ok (.goto 4, 3) := by decide +kernel
theorem dX3_isWithin_14 : decode cX3_isWithin 14 = .ok (.iconst 0, 1) := by decide +kernel
theorem dX3_isWithin_15 : decode cX3_isWithin 15 = .ok (.ireturn, 1) := by decide +kernel
set_option maxRecDepth 20000 in
theorem ggX3_isRank_X3_isWithin : GoodIn wsX3_isRank wsX3_isWithin := goodIn_r _ [4] (by decide +kernel) (by decide +kernel)
set_option maxRecDepth 20000 in
theorem gX3_isRank_X3_isWithin : GoodIn wsX3_isRank (va_wsS RX3 53 yX3_isWithin wsX3_isWithin) := goodIn_app (goodIn_of _ (by decide +kernel)) ggX3_isRank_X3_isWithin
theorem dX3_isRank_0 : decode cX3_isRank 0 = .ok (.iload_n 0, 1) := by decide +kernel
theorem dX3_isRank_1 : decode cX3_isRank 1 = .ok (.iconst 0, 1) := by decide +kernel
theorem dX3_isRank_2 : decode cX3_isRank 2 = .ok (.bipush 9, 2) := by decide +kernel
theorem dX3_isRank_4 : decode cX3_isRank 4 = .ok (.invokestatic 53, 3) := by decide +kernel
theorem dX3_isRank_7 : decode cX3_isRank 7 = .ok (.ireturn, 1) := by decide +kernel
set_option maxRecDepth 20000 in
theorem ggX3_isNerve_X3_isWithin : GoodIn wsX3_isNerve wsX3_isWithin := goodIn_r _ [4] (by decide +kernel) (by decide +kernel)
set_option maxRecDepth 20000 in
theorem gX3_isNerve_X3_isWithin : GoodIn wsX3_isNerve (va_wsS RX3 53 yX3_isWithin wsX3_isWithin) := goodIn_app (goodIn_of _ (by decide +kernel)) ggX3_isNerve_X3_isWithin
theorem dX3_isNerve_0 : decode cX3_isNerve 0 = .ok (.iload_n 0, 1) := by decide +kernel
theorem dX3_isNerve_1 : decode cX3_isNerve 1 = .ok (.iconst 0, 1) := by decide +kernel
theorem dX3_isNerve_2 : decode cX3_isNerve 2 = .ok (.bipush 20, 2) := by decide +kernel
theorem dX3_isNerve_4 : decode cX3_isNerve 4 = .ok (.invokestatic 53, 3) := by decide +kernel
theorem dX3_isNerve_7 : decode cX3_isNerve 7 = .ok (.ireturn, 1) := by decide +kernel
set_option maxRecDepth 20000 in
theorem ggX3_isBeats_X3_isWithin : GoodIn wsX3_isBeats wsX3_isWithin := goodIn_r _ [4] (by decide +kernel) (by decide +kernel)
set_option maxRecDepth 20000 in
theorem gX3_isBeats_X3_isWithin : GoodIn wsX3_isBeats (va_wsS RX3 53 yX3_isWithin wsX3_isWithin) := goodIn_app (goodIn_of _ (by decide +kernel)) ggX3_isBeats_X3_isWithin
theorem dX3_isBeats_0 : decode cX3_isBeats 0 = .ok (.iload_n 0, 1) := by decide +kernel
theorem dX3_isBeats_1 : decode cX3_isBeats 1 = .ok (.iconst 1, 1) := by decide +kernel
theorem dX3_isBeats_2 : decode cX3_isBeats 2 = .ok (.bipush 60, 2) := by decide +kernel
theorem dX3_isBeats_4 : decode cX3_isBeats 4 = .ok (.invokestatic 53, 3) := by decide +kernel
theorem dX3_isBeats_7 : decode cX3_isBeats 7 = .ok (.ireturn, 1) := by decide +kernel
set_option maxRecDepth 20000 in
theorem ggX3_demandGoose_X1_hasGoose : GoodIn wsX3_demandGoose wsX1_hasGoose := goodIn_r _ [7, 8, 24, 25, 26, 27, 28] (by decide +kernel) (by decide +kernel)
set_option maxRecDepth 20000 in
theorem gX3_demandGoose_X1_hasGoose : GoodIn wsX3_demandGoose (wsV RX3 79 RX1 yX1_hasGoose wsX1_hasGoose) := goodIn_app (goodIn_of _ (by decide +kernel)) ggX3_demandGoose_X1_hasGoose
set_option maxRecDepth 20000 in
theorem ggX3_demandGoose_X3_demandIndex : GoodIn wsX3_demandGoose wsX3_demandIndex := goodIn_ca (goodIn_r _ [12, 13, 14] (by decide +kernel) (by decide +kernel)) (goodIn_sub (fun _ h => List.mem_cons_of_mem _ (List.mem_append_right _ h)) (by decide +kernel))
set_option maxRecDepth 20000 in
theorem gX3_demandGoose_X3_demandIndex : GoodIn wsX3_demandGoose (va_wsS RX3 50 yX3_demandIndex wsX3_demandIndex) := goodIn_app (goodIn_of _ (by decide +kernel)) ggX3_demandGoose_X3_demandIndex
theorem dX3_demandGoose_0 : decode cX3_demandGoose 0 = .ok (.aload_n 0, 1) := by decide +kernel
theorem dX3_demandGoose_1 : decode cX3_demandGoose 1 = .ok (.getfield 10, 3) := by decide +kernel
theorem dX3_demandGoose_4 : decode cX3_demandGoose 4 = .ok (.getfield 57, 3) := by decide +kernel
theorem dX3_demandGoose_7 : decode cX3_demandGoose 7 = .ok (.iload_n 1, 1) := by decide +kernel
theorem dX3_demandGoose_8 : decode cX3_demandGoose 8 = .ok (.invokevirtual 79, 3) := by decide +kernel
theorem dX3_demandGoose_11 : decode cX3_demandGoose 11 = .ok (.invokestatic 50, 3) := by decide +kernel
theorem dX3_demandGoose_14 : decode cX3_demandGoose 14 = .ok (.return_, 1) := by decide +kernel
set_option maxRecDepth 20000 in
theorem ggX3_demandVisitor_X2_hasGuest : GoodIn wsX3_demandVisitor wsX2_hasGuest := goodIn_r _ [7, 8, 24, 25, 26, 27, 28, 29] (by decide +kernel) (by decide +kernel)
set_option maxRecDepth 20000 in
theorem gX3_demandVisitor_X2_hasGuest : GoodIn wsX3_demandVisitor (wsV RX3 259 RX2 yX2_hasGuest wsX2_hasGuest) := goodIn_app (goodIn_of _ (by decide +kernel)) ggX3_demandVisitor_X2_hasGuest
set_option maxRecDepth 20000 in
theorem ggX3_demandVisitor_X3_demandIndex : GoodIn wsX3_demandVisitor wsX3_demandIndex := goodIn_ca (goodIn_r _ [12, 13, 14] (by decide +kernel) (by decide +kernel)) (goodIn_sub (fun _ h => List.mem_cons_of_mem _ (List.mem_append_right _ h)) (by decide +kernel))
set_option maxRecDepth 20000 in
theorem gX3_demandVisitor_X3_demandIndex : GoodIn wsX3_demandVisitor (va_wsS RX3 50 yX3_demandIndex wsX3_demandIndex) := goodIn_app (goodIn_of _ (by decide +kernel)) ggX3_demandVisitor_X3_demandIndex
theorem dX3_demandVisitor_0 : decode cX3_demandVisitor 0 = .ok (.aload_n 0, 1) := by decide +kernel
theorem dX3_demandVisitor_1 : decode cX3_demandVisitor 1 = .ok (.getfield 10, 3) := by decide +kernel
theorem dX3_demandVisitor_4 : decode cX3_demandVisitor 4 = .ok (.getfield 31, 3) := by decide +kernel
theorem dX3_demandVisitor_7 : decode cX3_demandVisitor 7 = .ok (.iload_n 1, 1) := by decide +kernel
theorem dX3_demandVisitor_8 : decode cX3_demandVisitor 8 = .ok (.invokevirtual 259, 3) := by decide +kernel
theorem dX3_demandVisitor_11 : decode cX3_demandVisitor 11 = .ok (.invokestatic 50, 3) := by decide +kernel
theorem dX3_demandVisitor_14 : decode cX3_demandVisitor 14 = .ok (.return_, 1) := by decide +kernel
theorem dX3_demandIndex_0 : decode cX3_demandIndex 0 = .ok (.iload_n 0, 1) := by decide +kernel
theorem dX3_demandIndex_1 : decode cX3_demandIndex 1 = .ok (.ifCond .ne 14, 3) := by decide +kernel
theorem dX3_demandIndex_4 : decode cX3_demandIndex 4 = .ok (.new 262, 3) := by decide +kernel
theorem dX3_demandIndex_7 : decode cX3_demandIndex 7 = .ok (.dup, 1) := by decide +kernel
theorem dX3_demandIndex_8 : decode cX3_demandIndex 8 = .ok (.ldc_w 264, 3) := by decide +kernel
theorem dX3_demandIndex_11 : decode cX3_demandIndex 11 = .ok (.invokespecial 266, 3) := by decide +kernel
theorem dX3_demandIndex_14 : decode cX3_demandIndex 14 = .ok (.athrow, 1) := by decide +kernel
theorem dX3_demandIndex_15 : decode cX3_demandIndex 15 = .ok (.return_, 1) := by decide +kernel
theorem dX3_demandArgument_0 : decode cX3_demandArgument 0 = .ok (.iload_n 0, 1) := by decide +kernel
theorem dX3_demandArgument_1 : decode cX3_demandArgument 1 = .ok (.ifCond .ne 14, 3) := by decide +kernel
theorem dX3_demandArgument_4 : decode cX3_demandArgument 4 = .ok (.new 269, 3) := by decide +kernel
theorem dX3_demandArgument_7 : decode cX3_demandArgument 7 = .ok (.dup, 1) := by decide +kernel
theorem dX3_demandArgument_8 : decode cX3_demandArgument 8 = .ok (.ldc_w 271, 3) := by decide +kernel
theorem dX3_demandArgument_11 : decode cX3_demandArgument 11 = .ok (.invokespecial 273, 3) := by decide +kernel
theorem dX3_demandArgument_14 : decode cX3_demandArgument 14 = .ok (.athrow, 1) := by decide +kernel
theorem dX3_demandArgument_15 : decode cX3_demandArgument 15 = .ok (.return_, 1) := by decide +kernel
theorem dX3_demandState_0 : decode cX3_demandState 0 = .ok (.iload_n 0, 1) := by decide +kernel
theorem dX3_demandState_1 : decode cX3_demandState 1 = .ok (.ifCond .ne 14, 3) := by decide +kernel
theorem dX3_demandState_4 : decode cX3_demandState 4 = .ok (.new 274, 3) := by decide +kernel
theorem dX3_demandState_7 : decode cX3_demandState 7 = .ok (.dup, 1) := by decide +kernel
theorem dX3_demandState_8 : decode cX3_demandState 8 = .ok (.ldc_w 276, 3) := by decide +kernel
theorem dX3_demandState_11 : decode cX3_demandState 11 = .ok (.invokespecial 278, 3) := by decide +kernel
theorem dX3_demandState_14 : decode cX3_demandState 14 = .ok (.athrow, 1) := by decide +kernel
theorem dX3_demandState_15 : decode cX3_demandState 15 = .ok (.return_, 1) := by decide +kernel
end
section
theorem dX4_init_0 : decode cX4_init 0 = .ok (.aload_n 0, 1) := by decide +kernel
theorem dX4_init_1 : decode cX4_init 1 = .ok (.invokespecial 1, 3) := by decide +kernel
theorem dX4_init_4 : decode cX4_init 4 = .ok (.aload_n 0, 1) := by decide +kernel
theorem dX4_init_5 : decode cX4_init 5 = .ok (.iconst 0, 1) := by decide +kernel
theorem dX4_init_6 : decode cX4_init 6 = .ok (.newarray .int, 2) := by decide +kernel
theorem dX4_init_8 : decode cX4_init 8 = .ok (.putfield 7, 3) := by decide +kernel
theorem dX4_init_11 : decode cX4_init 11 = .ok (.aload_n 0, 1) := by decide +kernel
theorem dX4_init_12 : decode cX4_init 12 = .ok (.iconst 0, 1) := by decide +kernel
theorem dX4_init_13 : decode cX4_init 13 = .ok (.anewarray 13, 3) := by decide +kernel
theorem dX4_init_16 : decode cX4_init 16 = .ok (.putfield 14, 3) := by decide +kernel
theorem dX4_init_19 : decode cX4_init 19 = .ok (.aload_n 0, 1) := by decide +kernel
theorem dX4_init_20 : decode cX4_init 20 = .ok (.iconst 0, 1) := by decide +kernel
theorem dX4_init_21 : decode cX4_init 21 = .ok (.anewarray 13, 3) := by decide +kernel
theorem dX4_init_24 : decode cX4_init 24 = .ok (.putfield 18, 3) := by decide +kernel
theorem dX4_init_27 : decode cX4_init 27 = .ok (.return_, 1) := by decide +kernel
theorem dX4_with_0 : decode cX4_with 0 = .ok (.aload_n 0, 1) := by decide +kernel
theorem dX4_with_1 : decode cX4_with 1 = .ok (.arraylength, 1) := by decide +kernel
theorem dX4_with_2 : decode cX4_with 2 = .ok (.iconst 1, 1) := by decide +kernel
theorem dX4_with_3 : decode cX4_with 3 = .ok (.iadd, 1) := by decide +kernel
theorem dX4_with_4 : decode cX4_with 4 = .ok (.anewarray 13, 3) := by decide +kernel
theorem dX4_with_7 : decode cX4_with 7 = .ok (.astore_n 2, 1) := by decide +kernel
theorem dX4_with_8 : decode cX4_with 8 = .ok (.iconst 0, 1) := by decide +kernel
theorem dX4_with_9 : decode cX4_with 9 = .ok (.istore_n 3, 1) := by decide +kernel
theorem dX4_with_10 : decode cX4_with 10 = .ok (.iload_n 3, 1) := by decide +kernel
theorem dX4_with_11 : decode cX4_with 11 = .ok (.aload_n 0, 1) := by decide +kernel
theorem dX4_with_12 : decode cX4_with 12 = .ok (.arraylength, 1) := by decide +kernel
theorem dX4_with_13 : decode cX4_with 13 = .ok (.if_icmp .ge 15, 3) := by decide +kernel
theorem dX4_with_16 : decode cX4_with 16 = .ok (.aload_n 2, 1) := by decide +kernel
theorem dX4_with_17 : decode cX4_with 17 = .ok (.iload_n 3, 1) := by decide +kernel
theorem dX4_with_18 : decode cX4_with 18 = .ok (.aload_n 0, 1) := by decide +kernel
theorem dX4_with_19 : decode cX4_with 19 = .ok (.iload_n 3, 1) := by decide +kernel
theorem dX4_with_20 : decode cX4_with 20 = .ok (.aaload, 1) := by decide +kernel
theorem dX4_with_21 : decode cX4_with 21 = .ok (.aastore, 1) := by decide +kernel
theorem dX4_with_22 : decode cX4_with 22 = .ok (.iinc 3 1, 3) := by decide +kernel
theorem dX4_with_25 : decode cX4_with 25 = .ok (.goto (-15), 3) := by decide +kernel
theorem dX4_with_28 : decode cX4_with 28 = .ok (.aload_n 2, 1) := by decide +kernel
theorem dX4_with_29 : decode cX4_with 29 = .ok (.aload_n 0, 1) := by decide +kernel
theorem dX4_with_30 : decode cX4_with 30 = .ok (.arraylength, 1) := by decide +kernel
theorem dX4_with_31 : decode cX4_with 31 = .ok (.aload_n 1, 1) := by decide +kernel
theorem dX4_with_32 : decode cX4_with 32 = .ok (.aastore, 1) := by decide +kernel
theorem dX4_with_33 : decode cX4_with 33 = .ok (.aload_n 2, 1) := by decide +kernel
theorem dX4_with_34 : decode cX4_with 34 = .ok (.areturn, 1) := by decide +kernel
theorem dX4_addGate_0 : decode cX4_addGate 0 = .ok (.aload_n 0, 1) := by decide +kernel
theorem dX4_addGate_1 : decode cX4_addGate 1 = .ok (.getfield 7, 3) := by decide +kernel
theorem dX4_addGate_4 : decode cX4_addGate 4 = .ok (.arraylength, 1) := by decide +kernel
theorem dX4_addGate_5 : decode cX4_addGate 5 = .ok (.iconst 1, 1) := by decide +kernel
theorem dX4_addGate_6 : decode cX4_addGate 6 = .ok (.iadd, 1) := by decide +kernel
theorem dX4_addGate_7 : decode cX4_addGate 7 = .ok (.newarray .int, 2) := by decide +kernel
theorem dX4_addGate_9 : decode cX4_addGate 9 = .ok (.astore_n 2, 1) := by decide +kernel
theorem dX4_addGate_10 : decode cX4_addGate 10 = .ok (.iconst 0, 1) := by decide +kernel
theorem dX4_addGate_11 : decode cX4_addGate 11 = .ok (.istore_n 3, 1) := by decide +kernel
theorem dX4_addGate_12 : decode cX4_addGate 12 = .ok (.iload_n 3, 1) := by decide +kernel
theorem dX4_addGate_13 : decode cX4_addGate 13 = .ok (.aload_n 0, 1) := by decide +kernel
theorem dX4_addGate_14 : decode cX4_addGate 14 = .ok (.getfield 7, 3) := by decide +kernel
theorem dX4_addGate_17 : decode cX4_addGate 17 = .ok (.arraylength, 1) := by decide +kernel
theorem dX4_addGate_18 : decode cX4_addGate 18 = .ok (.if_icmp .ge 18, 3) := by decide +kernel
theorem dX4_addGate_21 : decode cX4_addGate 21 = .ok (.aload_n 2, 1) := by decide +kernel
theorem dX4_addGate_22 : decode cX4_addGate 22 = .ok (.iload_n 3, 1) := by decide +kernel
theorem dX4_addGate_23 : decode cX4_addGate 23 = .ok (.aload_n 0, 1) := by decide +kernel
theorem dX4_addGate_24 : decode cX4_addGate 24 = .ok (.getfield 7, 3) := by decide +kernel
theorem dX4_addGate_27 : decode cX4_addGate 27 = .ok (.iload_n 3, 1) := by decide +kernel
theorem dX4_addGate_28 : decode cX4_addGate 28 = .ok (.iaload, 1) := by decide +kernel
theorem dX4_addGate_29 : decode cX4_addGate 29 = .ok (.iastore, 1) := by decide +kernel
theorem dX4_addGate_30 : decode cX4_addGate 30 = .ok (.iinc 3 1, 3) := by decide +kernel
theorem dX4_addGate_33 : decode cX4_addGate 33 = .ok (.goto (-21), 3) := by decide +kernel
theorem dX4_addGate_36 : decode cX4_addGate 36 = .ok (.aload_n 2, 1) := by decide +kernel
theorem dX4_addGate_37 : decode cX4_addGate 37 = .ok (.aload_n 0, 1) := by decide +kernel
theorem dX4_addGate_38 : decode cX4_addGate 38 = .ok (.getfield 7, 3) := by decide +kernel
theorem dX4_addGate_41 : decode cX4_addGate 41 = .ok (.arraylength, 1) := by decide +kernel
theorem dX4_addGate_42 : decode cX4_addGate 42 = .ok (.iload_n 1, 1) := by decide +kernel
theorem dX4_addGate_43 : decode cX4_addGate 43 = .ok (.iastore, 1) := by decide +kernel
theorem dX4_addGate_44 : decode cX4_addGate 44 = .ok (.aload_n 0, 1) := by decide +kernel
theorem dX4_addGate_45 : decode cX4_addGate 45 = .ok (.aload_n 2, 1) := by decide +kernel
theorem dX4_addGate_46 : decode cX4_addGate 46 = .ok (.putfield 7, 3) := by decide +kernel
theorem dX4_addGate_49 : decode cX4_addGate 49 = .ok (.return_, 1) := by decide +kernel
theorem dX4_hiss_0 : decode cX4_hiss 0 = .ok (.iconst 0, 1) := by decide +kernel
theorem dX4_hiss_1 : decode cX4_hiss 1 = .ok (.istore_n 3, 1) := by decide +kernel
theorem dX4_hiss_2 : decode cX4_hiss 2 = .ok (.aload_n 0, 1) := by decide +kernel
theorem dX4_hiss_3 : decode cX4_hiss 3 = .ok (.getfield 14, 3) := by decide +kernel
theorem dX4_hiss_6 : decode cX4_hiss 6 = .ok (.astore 4, 2) := by decide +kernel
theorem dX4_hiss_8 : decode cX4_hiss 8 = .ok (.aload 4, 2) := by decide +kernel
theorem dX4_hiss_10 : decode cX4_hiss 10 = .ok (.arraylength, 1) := by decide +kernel
theorem dX4_hiss_11 : decode cX4_hiss 11 = .ok (.istore 5, 2) := by decide +kernel
theorem dX4_hiss_13 : decode cX4_hiss 13 = .ok (.iconst 0, 1) := by decide +kernel
theorem dX4_hiss_14 : decode cX4_hiss 14 = .ok (.istore 6, 2) := by decide +kernel
theorem dX4_hiss_16 : decode cX4_hiss 16 = .ok (.iload 6, 2) := by decide +kernel
theorem dX4_hiss_18 : decode cX4_hiss 18 = .ok (.iload 5, 2) := by decide +kernel
theorem dX4_hiss_20 : decode cX4_hiss 20 = .ok (.if_icmp .ge 62, 3) := by decide +kernel
theorem dX4_hiss_23 : decode cX4_hiss 23 = .ok (.aload 4, 2) := by decide +kernel
theorem dX4_hiss_25 : decode cX4_hiss 25 = .ok (.iload 6, 2) := by decide +kernel
theorem dX4_hiss_27 : decode cX4_hiss 27 = .ok (.aaload, 1) := by decide +kernel
theorem dX4_hiss_28 : decode cX4_hiss 28 = .ok (.astore 7, 2) := by decide +kernel
theorem dX4_hiss_30 : decode cX4_hiss 30 = .ok (.aload 7, 2) := by decide +kernel
theorem dX4_hiss_32 : decode cX4_hiss 32 = .ok (.iconst 0, 1) := by decide +kernel
theorem dX4_hiss_33 : decode cX4_hiss 33 = .ok (.iaload, 1) := by decide +kernel
theorem dX4_hiss_34 : decode cX4_hiss 34 = .ok (.iload_n 1, 1) := by decide +kernel
theorem dX4_hiss_35 : decode cX4_hiss 35 = .ok (.if_icmp .ne 41, 3) := by decide +kernel
theorem dX4_hiss_38 : decode cX4_hiss 38 = .ok (.aload 7, 2) := by decide +kernel
theorem dX4_hiss_40 : decode cX4_hiss 40 = .ok (.iconst 2, 1) := by decide +kernel
theorem dX4_hiss_41 : decode cX4_hiss 41 = .ok (.iaload, 1) := by decide +kernel
theorem dX4_hiss_42 : decode cX4_hiss 42 = .ok (.ifCond .le 6, 3) := by decide +kernel
theorem dX4_hiss_45 : decode cX4_hiss 45 = .ok (.goto 31, 3) := by decide +kernel
theorem dX4_hiss_48 : decode cX4_hiss 48 = .ok (.iload_n 3, 1) := by decide +kernel
theorem dX4_hiss_49 : decode cX4_hiss 49 = .ok (.aload 7, 2) := by decide +kernel
theorem dX4_hiss_51 : decode cX4_hiss 51 = .ok (.iconst 1, 1) := by decide +kernel
theorem dX4_hiss_52 : decode cX4_hiss 52 = .ok (.iaload, 1) := by decide +kernel
theorem dX4_hiss_53 : decode cX4_hiss 53 = .ok (.iadd, 1) := by decide +kernel
theorem dX4_hiss_54 : decode cX4_hiss 54 = .ok (.istore_n 3, 1) := by decide +kernel
theorem dX4_hiss_55 : decode cX4_hiss 55 = .ok (.aload_n 0, 1) := by decide +kernel
theorem dX4_hiss_56 : decode cX4_hiss 56 = .ok (.getfield 7, 3) := by decide +kernel
theorem dX4_hiss_59 : decode cX4_hiss 59 = .ok (.iload_n 1, 1) := by decide +kernel
theorem dX4_hiss_60 : decode cX4_hiss 60 = .ok (.iaload, 1) := by decide +kernel
theorem dX4_hiss_61 : decode cX4_hiss 61 = .ok (.iload_n 2, 1) := by decide +kernel
theorem dX4_hiss_62 : decode cX4_hiss 62 = .ok (.if_icmp .le 14, 3) := by decide +kernel
theorem dX4_hiss_65 : decode cX4_hiss 65 = .ok (.iload_n 3, 1) := by decide +kernel
theorem dX4_hiss_66 : decode cX4_hiss 66 = .ok (.aload_n 0, 1) := by decide +kernel
theorem dX4_hiss_67 : decode cX4_hiss 67 = .ok (.getfield 7, 3) := by decide +kernel
theorem dX4_hiss_70 : decode cX4_hiss 70 = .ok (.iload_n 1, 1) := by decide +kernel
theorem dX4_hiss_71 : decode cX4_hiss 71 = .ok (.iaload, 1) := by decide +kernel
theorem dX4_hiss_72 : decode cX4_hiss 72 = .ok (.iload_n 2, 1) := by decide +kernel
theorem dX4_hiss_73 : decode cX4_hiss 73 = .ok (.isub, 1) := by decide +kernel
theorem dX4_hiss_74 : decode cX4_hiss 74 = .ok (.iadd, 1) := by decide +kernel
theorem dX4_hiss_75 : decode cX4_hiss 75 = .ok (.istore_n 3, 1) := by decide +kernel
theorem dX4_hiss_76 : decode cX4_hiss 76 = .ok (.iinc 6 1, 3) := by decide +kernel
theorem dX4_hiss_79 : decode cX4_hiss 79 = .ok (.goto (-63), 3) := by decide +kernel
theorem dX4_hiss_82 : decode cX4_hiss 82 = .ok (.iload_n 3, 1) := by decide +kernel
theorem dX4_hiss_83 : decode cX4_hiss 83 = .ok (.ireturn, 1) := by decide +kernel
theorem dX4_isIn_0 : decode cX4_isIn 0 = .ok (.aload_n 1, 1) := by decide +kernel
theorem dX4_isIn_1 : decode cX4_isIn 1 = .ok (.iconst 3, 1) := by decide +kernel
theorem dX4_isIn_2 : decode cX4_isIn 2 = .ok (.iaload, 1) := by decide +kernel
theorem dX4_isIn_3 : decode cX4_isIn 3 = .ok (.aload_n 0, 1) := by decide +kernel
theorem dX4_isIn_4 : decode cX4_isIn 4 = .ok (.getfield 7, 3) := by decide +kernel
theorem dX4_isIn_7 : decode cX4_isIn 7 = .ok (.arraylength, 1) := by decide +kernel
theorem dX4_isIn_8 : decode cX4_isIn 8 = .ok (.if_icmp .ne 7, 3) := by decide +kernel
theorem dX4_isIn_11 : decode cX4_isIn 11 = .ok (.iconst 1, 1) := by decide +kernel
theorem dX4_isIn_12 : decode cX4_isIn 12 = .ok (.goto 4, 3) := by decide +kernel
theorem dX4_isIn_15 : decode cX4_isIn 15 = .ok (.iconst 0, 1) := by decide +kernel
theorem dX4_isIn_16 : decode cX4_isIn 16 = .ok (.ireturn, 1) := by decide +kernel
set_option maxRecDepth 20000 in
theorem ggX4_hissAt_X4_isIn : GoodIn wsX4_hissAt wsX4_isIn := goodIn_r _ [5, 6, 12, 13, 14, 15, 16, 17] (by decide +kernel) (by decide +kernel)
set_option maxRecDepth 20000 in
theorem gX4_hissAt_X4_isIn : GoodIn wsX4_hissAt (wsV RX4 21 RX4 yX4_isIn wsX4_isIn) := goodIn_app (goodIn_of _ (by decide +kernel)) ggX4_hissAt_X4_isIn
set_option maxRecDepth 20000 in
theorem ggX4_hissAt_X4_hiss : GoodIn wsX4_hissAt wsX4_hiss := goodIn_r _ [10, 11, 6, 12, 13, 14, 15, 16, 17] (by decide +kernel) (by decide +kernel)
set_option maxRecDepth 20000 in
theorem gX4_hissAt_X4_hiss : GoodIn wsX4_hissAt (wsV RX4 25 RX4 yX4_hiss wsX4_hiss) := goodIn_app (goodIn_of _ (by decide +kernel)) ggX4_hissAt_X4_hiss
theorem dX4_hissAt_0 : decode cX4_hissAt 0 = .ok (.aload_n 0, 1) := by decide +kernel
theorem dX4_hissAt_1 : decode cX4_hissAt 1 = .ok (.aload_n 1, 1) := by decide +kernel
theorem dX4_hissAt_2 : decode cX4_hissAt 2 = .ok (.invokevirtual 21, 3) := by decide +kernel
theorem dX4_hissAt_5 : decode cX4_hissAt 5 = .ok (.ifCond .eq 7, 3) := by decide +kernel
theorem dX4_hissAt_8 : decode cX4_hissAt 8 = .ok (.iconst 0, 1) := by decide +kernel
theorem dX4_hissAt_9 : decode cX4_hissAt 9 = .ok (.goto 13, 3) := by decide +kernel
theorem dX4_hissAt_12 : decode cX4_hissAt 12 = .ok (.aload_n 0, 1) := by decide +kernel
theorem dX4_hissAt_13 : decode cX4_hissAt 13 = .ok (.aload_n 1, 1) := by decide +kernel
theorem dX4_hissAt_14 : decode cX4_hissAt 14 = .ok (.iconst 3, 1) := by decide +kernel
theorem dX4_hissAt_15 : decode cX4_hissAt 15 = .ok (.iaload, 1) := by decide +kernel
theorem dX4_hissAt_16 : decode cX4_hissAt 16 = .ok (.aload_n 1, 1) := by decide +kernel
theorem dX4_hissAt_17 : decode cX4_hissAt 17 = .ok (.iconst 0, 1) := by decide +kernel
theorem dX4_hissAt_18 : decode cX4_hissAt 18 = .ok (.iaload, 1) := by decide +kernel
theorem dX4_hissAt_19 : decode cX4_hissAt 19 = .ok (.invokevirtual 25, 3) := by decide +kernel
theorem dX4_hissAt_22 : decode cX4_hissAt 22 = .ok (.ireturn, 1) := by decide +kernel
theorem dX4_grade_0 : decode cX4_grade 0 = .ok (.iconst 4, 1) := by decide +kernel
theorem dX4_grade_1 : decode cX4_grade 1 = .ok (.newarray .int, 2) := by decide +kernel
theorem dX4_grade_3 : decode cX4_grade 3 = .ok (.dup, 1) := by decide +kernel
theorem dX4_grade_4 : decode cX4_grade 4 = .ok (.iconst 0, 1) := by decide +kernel
theorem dX4_grade_5 : decode cX4_grade 5 = .ok (.iconst 0, 1) := by decide +kernel
theorem dX4_grade_6 : decode cX4_grade 6 = .ok (.iastore, 1) := by decide +kernel
theorem dX4_grade_7 : decode cX4_grade 7 = .ok (.dup, 1) := by decide +kernel
theorem dX4_grade_8 : decode cX4_grade 8 = .ok (.iconst 1, 1) := by decide +kernel
theorem dX4_grade_9 : decode cX4_grade 9 = .ok (.iconst 5, 1) := by decide +kernel
theorem dX4_grade_10 : decode cX4_grade 10 = .ok (.iastore, 1) := by decide +kernel
theorem dX4_grade_11 : decode cX4_grade 11 = .ok (.dup, 1) := by decide +kernel
theorem dX4_grade_12 : decode cX4_grade 12 = .ok (.iconst 2, 1) := by decide +kernel
theorem dX4_grade_13 : decode cX4_grade 13 = .ok (.bipush 10, 2) := by decide +kernel
theorem dX4_grade_15 : decode cX4_grade 15 = .ok (.iastore, 1) := by decide +kernel
theorem dX4_grade_16 : decode cX4_grade 16 = .ok (.dup, 1) := by decide +kernel
theorem dX4_grade_17 : decode cX4_grade 17 = .ok (.iconst 3, 1) := by decide +kernel
theorem dX4_grade_18 : decode cX4_grade 18 = .ok (.bipush 20, 2) := by decide +kernel
theorem dX4_grade_20 : decode cX4_grade 20 = .ok (.iastore, 1) := by decide +kernel
theorem dX4_grade_21 : decode cX4_grade 21 = .ok (.astore_n 1, 1) := by decide +kernel
theorem dX4_grade_22 : decode cX4_grade 22 = .ok (.iconst 0, 1) := by decide +kernel
theorem dX4_grade_23 : decode cX4_grade 23 = .ok (.istore_n 2, 1) := by decide +kernel
theorem dX4_grade_24 : decode cX4_grade 24 = .ok (.aload_n 1, 1) := by decide +kernel
theorem dX4_grade_25 : decode cX4_grade 25 = .ok (.astore_n 3, 1) := by decide +kernel
theorem dX4_grade_26 : decode cX4_grade 26 = .ok (.aload_n 3, 1) := by decide +kernel
theorem dX4_grade_27 : decode cX4_grade 27 = .ok (.arraylength, 1) := by decide +kernel
theorem dX4_grade_28 : decode cX4_grade 28 = .ok (.istore 4, 2) := by decide +kernel
theorem dX4_grade_30 : decode cX4_grade 30 = .ok (.iconst 0, 1) := by decide +kernel
theorem dX4_grade_31 : decode cX4_grade 31 = .ok (.istore 5, 2) := by decide +kernel
theorem dX4_grade_33 : decode cX4_grade 33 = .ok (.iload 5, 2) := by decide +kernel
theorem dX4_grade_35 : decode cX4_grade 35 = .ok (.iload 4, 2) := by decide +kernel
theorem dX4_grade_37 : decode cX4_grade 37 = .ok (.if_icmp .ge 24, 3) := by decide +kernel
theorem dX4_grade_40 : decode cX4_grade 40 = .ok (.aload_n 3, 1) := by decide +kernel
theorem dX4_grade_41 : decode cX4_grade 41 = .ok (.iload 5, 2) := by decide +kernel
theorem dX4_grade_43 : decode cX4_grade 43 = .ok (.iaload, 1) := by decide +kernel
theorem dX4_grade_44 : decode cX4_grade 44 = .ok (.istore 6, 2) := by decide +kernel
theorem dX4_grade_46 : decode cX4_grade 46 = .ok (.iload_n 0, 1) := by decide +kernel
theorem dX4_grade_47 : decode cX4_grade 47 = .ok (.iload 6, 2) := by decide +kernel
theorem dX4_grade_49 : decode cX4_grade 49 = .ok (.if_icmp .le 6, 3) := by decide +kernel
theorem dX4_grade_52 : decode cX4_grade 52 = .ok (.iinc 2 1, 3) := by decide +kernel
theorem dX4_grade_55 : decode cX4_grade 55 = .ok (.iinc 5 1, 3) := by decide +kernel
theorem dX4_grade_58 : decode cX4_grade 58 = .ok (.goto (-25), 3) := by decide +kernel
theorem dX4_grade_61 : decode cX4_grade 61 = .ok (.iload_n 2, 1) := by decide +kernel
theorem dX4_grade_62 : decode cX4_grade 62 = .ok (.ireturn, 1) := by decide +kernel
theorem dX4_feed_0 : decode cX4_feed 0 = .ok (.aload_n 1, 1) := by decide +kernel
theorem dX4_feed_1 : decode cX4_feed 1 = .ok (.iconst 2, 1) := by decide +kernel
theorem dX4_feed_2 : decode cX4_feed 2 = .ok (.dup2, 1) := by decide +kernel
theorem dX4_feed_3 : decode cX4_feed 3 = .ok (.iaload, 1) := by decide +kernel
theorem dX4_feed_4 : decode cX4_feed 4 = .ok (.iconst 1, 1) := by decide +kernel
theorem dX4_feed_5 : decode cX4_feed 5 = .ok (.isub, 1) := by decide +kernel
theorem dX4_feed_6 : decode cX4_feed 6 = .ok (.iastore, 1) := by decide +kernel
theorem dX4_feed_7 : decode cX4_feed 7 = .ok (.aload_n 2, 1) := by decide +kernel
theorem dX4_feed_8 : decode cX4_feed 8 = .ok (.iconst 3, 1) := by decide +kernel
theorem dX4_feed_9 : decode cX4_feed 9 = .ok (.dup2, 1) := by decide +kernel
theorem dX4_feed_10 : decode cX4_feed 10 = .ok (.iaload, 1) := by decide +kernel
theorem dX4_feed_11 : decode cX4_feed 11 = .ok (.iconst 1, 1) := by decide +kernel
theorem dX4_feed_12 : decode cX4_feed 12 = .ok (.iadd, 1) := by decide +kernel
theorem dX4_feed_13 : decode cX4_feed 13 = .ok (.iastore, 1) := by decide +kernel
theorem dX4_feed_14 : decode cX4_feed 14 = .ok (.aload_n 2, 1) := by decide +kernel
theorem dX4_feed_15 : decode cX4_feed 15 = .ok (.iconst 2, 1) := by decide +kernel
theorem dX4_feed_16 : decode cX4_feed 16 = .ok (.iconst 3, 1) := by decide +kernel
theorem dX4_feed_17 : decode cX4_feed 17 = .ok (.iastore, 1) := by decide +kernel
theorem dX4_feed_18 : decode cX4_feed 18 = .ok (.aload_n 2, 1) := by decide +kernel
theorem dX4_feed_19 : decode cX4_feed 19 = .ok (.iconst 1, 1) := by decide +kernel
theorem dX4_feed_20 : decode cX4_feed 20 = .ok (.iaload, 1) := by decide +kernel
theorem dX4_feed_21 : decode cX4_feed 21 = .ok (.iconst 1, 1) := by decide +kernel
theorem dX4_feed_22 : decode cX4_feed 22 = .ok (.if_icmp .le 10, 3) := by decide +kernel
theorem dX4_feed_25 : decode cX4_feed 25 = .ok (.aload_n 2, 1) := by decide +kernel
theorem dX4_feed_26 : decode cX4_feed 26 = .ok (.iconst 1, 1) := by decide +kernel
theorem dX4_feed_27 : decode cX4_feed 27 = .ok (.dup2, 1) := by decide +kernel
theorem dX4_feed_28 : decode cX4_feed 28 = .ok (.iaload, 1) := by decide +kernel
theorem dX4_feed_29 : decode cX4_feed 29 = .ok (.iconst 1, 1) := by decide +kernel
theorem dX4_feed_30 : decode cX4_feed 30 = .ok (.isub, 1) := by decide +kernel
theorem dX4_feed_31 : decode cX4_feed 31 = .ok (.iastore, 1) := by decide +kernel
theorem dX4_feed_32 : decode cX4_feed 32 = .ok (.aload_n 0, 1) := by decide +kernel
theorem dX4_feed_33 : decode cX4_feed 33 = .ok (.dup, 1) := by decide +kernel
theorem dX4_feed_34 : decode cX4_feed 34 = .ok (.getfield 29, 3) := by decide +kernel
theorem dX4_feed_37 : decode cX4_feed 37 = .ok (.iconst 1, 1) := by decide +kernel
theorem dX4_feed_38 : decode cX4_feed 38 = .ok (.iadd, 1) := by decide +kernel
theorem dX4_feed_39 : decode cX4_feed 39 = .ok (.putfield 29, 3) := by decide +kernel
theorem dX4_feed_42 : decode cX4_feed 42 = .ok (.return_, 1) := by decide +kernel
set_option maxRecDepth 20000 in
theorem ggX4_pass_X4_isIn : GoodIn wsX4_pass wsX4_isIn := goodIn_r _ [9, 10, 28, 29, 30, 31, 32, 33] (by decide +kernel) (by decide +kernel)
set_option maxRecDepth 20000 in
theorem gX4_pass_X4_isIn : GoodIn wsX4_pass (wsV RX4 21 RX4 yX4_isIn wsX4_isIn) := goodIn_app (goodIn_of _ (by decide +kernel)) ggX4_pass_X4_isIn
set_option maxRecDepth 20000 in
theorem ggX4_pass_X4_hissAt : GoodIn wsX4_pass wsX4_hissAt := goodIn_r _ [14, 5, 6, 7, 8, 9, 10, 15, 16, 17, 18, 1, 28, 29, 30, 31, 32, 33] (by decide +kernel) (by decide +kernel)
set_option maxRecDepth 20000 in
theorem gX4_pass_X4_hissAt : GoodIn wsX4_pass (wsV RX4 33 RX4 yX4_hissAt wsX4_hissAt) := goodIn_app (goodIn_of _ (by decide +kernel)) ggX4_pass_X4_hissAt
set_option maxRecDepth 20000 in
theorem ggX4_pass_X4_feed : GoodIn wsX4_pass wsX4_feed := goodIn_r _ [22, 23, 28, 29, 30, 31, 32, 33] (by decide +kernel) (by decide +kernel)
set_option maxRecDepth 20000 in
theorem gX4_pass_X4_feed : GoodIn wsX4_pass (wsV RX4 37 RX4 yX4_feed wsX4_feed) := goodIn_app (goodIn_of _ (by decide +kernel)) ggX4_pass_X4_feed
set_option maxRecDepth 20000 in
theorem ggX4_pass_X4_grade : GoodIn wsX4_pass wsX4_grade := goodIn_r _ [26, 27] (by decide +kernel) (by decide +kernel)
set_option maxRecDepth 20000 in
theorem gX4_pass_X4_grade : GoodIn wsX4_pass (va_wsS RX4 41 yX4_grade wsX4_grade) := goodIn_app (goodIn_of _ (by decide +kernel)) ggX4_pass_X4_grade
theorem dX4_pass_0 : decode cX4_pass 0 = .ok (.aload_n 0, 1) := by decide +kernel
theorem dX4_pass_1 : decode cX4_pass 1 = .ok (.getfield 14, 3) := by decide +kernel
theorem dX4_pass_4 : decode cX4_pass 4 = .ok (.astore_n 1, 1) := by decide +kernel
theorem dX4_pass_5 : decode cX4_pass 5 = .ok (.aload_n 1, 1) := by decide +kernel
theorem dX4_pass_6 : decode cX4_pass 6 = .ok (.arraylength, 1) := by decide +kernel
theorem dX4_pass_7 : decode cX4_pass 7 = .ok (.istore_n 2, 1) := by decide +kernel
theorem dX4_pass_8 : decode cX4_pass 8 = .ok (.iconst 0, 1) := by decide +kernel
theorem dX4_pass_9 : decode cX4_pass 9 = .ok (.istore_n 3, 1) := by decide +kernel
theorem dX4_pass_10 : decode cX4_pass 10 = .ok (.iload_n 3, 1) := by decide +kernel
theorem dX4_pass_11 : decode cX4_pass 11 = .ok (.iload_n 2, 1) := by decide +kernel
theorem dX4_pass_12 : decode cX4_pass 12 = .ok (.if_icmp .ge 29, 3) := by decide +kernel
theorem dX4_pass_15 : decode cX4_pass 15 = .ok (.aload_n 1, 1) := by decide +kernel
theorem dX4_pass_16 : decode cX4_pass 16 = .ok (.iload_n 3, 1) := by decide +kernel
theorem dX4_pass_17 : decode cX4_pass 17 = .ok (.aaload, 1) := by decide +kernel
theorem dX4_pass_18 : decode cX4_pass 18 = .ok (.astore 4, 2) := by decide +kernel
theorem dX4_pass_20 : decode cX4_pass 20 = .ok (.aload 4, 2) := by decide +kernel
theorem dX4_pass_22 : decode cX4_pass 22 = .ok (.iconst 2, 1) := by decide +kernel
theorem dX4_pass_23 : decode cX4_pass 23 = .ok (.iaload, 1) := by decide +kernel
theorem dX4_pass_24 : decode cX4_pass 24 = .ok (.ifCond .le 11, 3) := by decide +kernel
theorem dX4_pass_27 : decode cX4_pass 27 = .ok (.aload 4, 2) := by decide +kernel
theorem dX4_pass_29 : decode cX4_pass 29 = .ok (.iconst 2, 1) := by decide +kernel
theorem dX4_pass_30 : decode cX4_pass 30 = .ok (.dup2, 1) := by decide +kernel
theorem dX4_pass_31 : decode cX4_pass 31 = .ok (.iaload, 1) := by decide +kernel
theorem dX4_pass_32 : decode cX4_pass 32 = .ok (.iconst 1, 1) := by decide +kernel
theorem dX4_pass_33 : decode cX4_pass 33 = .ok (.isub, 1) := by decide +kernel
theorem dX4_pass_34 : decode cX4_pass 34 = .ok (.iastore, 1) := by decide +kernel
theorem dX4_pass_35 : decode cX4_pass 35 = .ok (.iinc 3 1, 3) := by decide +kernel
theorem dX4_pass_38 : decode cX4_pass 38 = .ok (.goto (-28), 3) := by decide +kernel
theorem dX4_pass_41 : decode cX4_pass 41 = .ok (.aload_n 0, 1) := by decide +kernel
theorem dX4_pass_42 : decode cX4_pass 42 = .ok (.getfield 18, 3) := by decide +kernel
theorem dX4_pass_45 : decode cX4_pass 45 = .ok (.astore_n 1, 1) := by decide +kernel
theorem dX4_pass_46 : decode cX4_pass 46 = .ok (.aload_n 1, 1) := by decide +kernel
theorem dX4_pass_47 : decode cX4_pass 47 = .ok (.arraylength, 1) := by decide +kernel
theorem dX4_pass_48 : decode cX4_pass 48 = .ok (.istore_n 2, 1) := by decide +kernel
theorem dX4_pass_49 : decode cX4_pass 49 = .ok (.iconst 0, 1) := by decide +kernel
theorem dX4_pass_50 : decode cX4_pass 50 = .ok (.istore_n 3, 1) := by decide +kernel
theorem dX4_pass_51 : decode cX4_pass 51 = .ok (.iload_n 3, 1) := by decide +kernel
theorem dX4_pass_52 : decode cX4_pass 52 = .ok (.iload_n 2, 1) := by decide +kernel
theorem dX4_pass_53 : decode cX4_pass 53 = .ok (.if_icmp .ge 285, 3) := by decide +kernel
theorem dX4_pass_56 : decode cX4_pass 56 = .ok (.aload_n 1, 1) := by decide +kernel
theorem dX4_pass_57 : decode cX4_pass 57 = .ok (.iload_n 3, 1) := by decide +kernel
theorem dX4_pass_58 : decode cX4_pass 58 = .ok (.aaload, 1) := by decide +kernel
theorem dX4_pass_59 : decode cX4_pass 59 = .ok (.astore 4, 2) := by decide +kernel
theorem dX4_pass_61 : decode cX4_pass 61 = .ok (.aload_n 0, 1) := by decide +kernel
theorem dX4_pass_62 : decode cX4_pass 62 = .ok (.aload 4, 2) := by decide +kernel
theorem dX4_pass_64 : decode cX4_pass 64 = .ok (.invokevirtual 21, 3) := by decide +kernel
theorem dX4_pass_67 : decode cX4_pass 67 = .ok (.ifCond .eq 6, 3) := by decide +kernel
theorem dX4_pass_70 : decode cX4_pass 70 = .ok (.goto 262, 3) := by decide +kernel
theorem dX4_pass_73 : decode cX4_pass 73 = .ok (.aload 4, 2) := by decide +kernel
theorem dX4_pass_75 : decode cX4_pass 75 = .ok (.iconst 4, 1) := by decide +kernel
theorem dX4_pass_76 : decode cX4_pass 76 = .ok (.iaload, 1) := by decide +kernel
theorem dX4_pass_77 : decode cX4_pass 77 = .ok (.ifCond .le 14, 3) := by decide +kernel
theorem dX4_pass_80 : decode cX4_pass 80 = .ok (.aload 4, 2) := by decide +kernel
theorem dX4_pass_82 : decode cX4_pass 82 = .ok (.iconst 4, 1) := by decide +kernel
theorem dX4_pass_83 : decode cX4_pass 83 = .ok (.dup2, 1) := by decide +kernel
theorem dX4_pass_84 : decode cX4_pass 84 = .ok (.iaload, 1) := by decide +kernel
theorem dX4_pass_85 : decode cX4_pass 85 = .ok (.iconst 1, 1) := by decide +kernel
theorem dX4_pass_86 : decode cX4_pass 86 = .ok (.isub, 1) := by decide +kernel
theorem dX4_pass_87 : decode cX4_pass 87 = .ok (.iastore, 1) := by decide +kernel
theorem dX4_pass_88 : decode cX4_pass 88 = .ok (.goto 244, 3) := by decide +kernel
theorem dX4_pass_91 : decode cX4_pass 91 = .ok (.aload_n 0, 1) := by decide +kernel
theorem dX4_pass_92 : decode cX4_pass 92 = .ok (.aload 4, 2) := by decide +kernel
theorem dX4_pass_94 : decode cX4_pass 94 = .ok (.invokevirtual 33, 3) := by decide +kernel
theorem dX4_pass_97 : decode cX4_pass 97 = .ok (.istore 5, 2) := by decide +kernel
theorem dX4_pass_99 : decode cX4_pass 99 = .ok (.aconst_null, 1) := by decide +kernel
theorem dX4_pass_100 : decode cX4_pass 100 = .ok (.astore 6, 2) := by decide +kernel
theorem dX4_pass_102 : decode cX4_pass 102 = .ok (.aload_n 0, 1) := by decide +kernel
theorem dX4_pass_103 : decode cX4_pass 103 = .ok (.getfield 14, 3) := by decide +kernel
theorem dX4_pass_106 : decode cX4_pass 106 = .ok (.astore 7, 2) := by decide +kernel
theorem dX4_pass_108 : decode cX4_pass 108 = .ok (.aload 7, 2) := by decide +kernel
theorem dX4_pass_110 : decode cX4_pass 110 = .ok (.arraylength, 1) := by decide +kernel
theorem dX4_pass_111 : decode cX4_pass 111 = .ok (.istore 8, 2) := by decide +kernel
theorem dX4_pass_113 : decode cX4_pass 113 = .ok (.iconst 0, 1) := by decide +kernel
theorem dX4_pass_114 : decode cX4_pass 114 = .ok (.istore 9, 2) := by decide +kernel
theorem dX4_pass_116 : decode cX4_pass 116 = .ok (.iload 9, 2) := by decide +kernel
theorem dX4_pass_118 : decode cX4_pass 118 = .ok (.iload 8, 2) := by decide +kernel
theorem dX4_pass_120 : decode cX4_pass 120 = .ok (.if_icmp .ge 54, 3) := by decide +kernel
theorem dX4_pass_123 : decode cX4_pass 123 = .ok (.aload 7, 2) := by decide +kernel
theorem dX4_pass_125 : decode cX4_pass 125 = .ok (.iload 9, 2) := by decide +kernel
theorem dX4_pass_127 : decode cX4_pass 127 = .ok (.aaload, 1) := by decide +kernel
theorem dX4_pass_128 : decode cX4_pass 128 = .ok (.astore 10, 2) := by decide +kernel
theorem dX4_pass_130 : decode cX4_pass 130 = .ok (.aload 10, 2) := by decide +kernel
theorem dX4_pass_132 : decode cX4_pass 132 = .ok (.iconst 0, 1) := by decide +kernel
theorem dX4_pass_133 : decode cX4_pass 133 = .ok (.iaload, 1) := by decide +kernel
theorem dX4_pass_134 : decode cX4_pass 134 = .ok (.aload 4, 2) := by decide +kernel
theorem dX4_pass_136 : decode cX4_pass 136 = .ok (.iconst 3, 1) := by decide +kernel
theorem dX4_pass_137 : decode cX4_pass 137 = .ok (.iaload, 1) := by decide +kernel
theorem dX4_pass_138 : decode cX4_pass 138 = .ok (.if_icmp .ne 30, 3) := by decide +kernel
theorem dX4_pass_141 : decode cX4_pass 141 = .ok (.aload 10, 2) := by decide +kernel
theorem dX4_pass_143 : decode cX4_pass 143 = .ok (.iconst 2, 1) := by decide +kernel
theorem dX4_pass_144 : decode cX4_pass 144 = .ok (.iaload, 1) := by decide +kernel
theorem dX4_pass_145 : decode cX4_pass 145 = .ok (.ifCond .ne 23, 3) := by decide +kernel
theorem dX4_pass_148 : decode cX4_pass 148 = .ok (.aload 6, 2) := by decide +kernel
theorem dX4_pass_150 : decode cX4_pass 150 = .ok (.ifnull 14, 3) := by decide +kernel
theorem dX4_pass_153 : decode cX4_pass 153 = .ok (.aload 10, 2) := by decide +kernel
theorem dX4_pass_155 : decode cX4_pass 155 = .ok (.iconst 1, 1) := by decide +kernel
theorem dX4_pass_156 : decode cX4_pass 156 = .ok (.iaload, 1) := by decide +kernel
theorem dX4_pass_157 : decode cX4_pass 157 = .ok (.aload 6, 2) := by decide +kernel
theorem dX4_pass_159 : decode cX4_pass 159 = .ok (.iconst 1, 1) := by decide +kernel
theorem dX4_pass_160 : decode cX4_pass 160 = .ok (.iaload, 1) := by decide +kernel
theorem dX4_pass_161 : decode cX4_pass 161 = .ok (.if_icmp .le 7, 3) := by decide +kernel
theorem dX4_pass_164 : decode cX4_pass 164 = .ok (.aload 10, 2) := by decide +kernel
theorem dX4_pass_166 : decode cX4_pass 166 = .ok (.astore 6, 2) := by decide +kernel
theorem dX4_pass_168 : decode cX4_pass 168 = .ok (.iinc 9 1, 3) := by decide +kernel
theorem dX4_pass_171 : decode cX4_pass 171 = .ok (.goto (-55), 3) := by decide +kernel
theorem dX4_pass_174 : decode cX4_pass 174 = .ok (.iload 5, 2) := by decide +kernel
theorem dX4_pass_176 : decode cX4_pass 176 = .ok (.aload 4, 2) := by decide +kernel
theorem dX4_pass_178 : decode cX4_pass 178 = .ok (.iconst 1, 1) := by decide +kernel
theorem dX4_pass_179 : decode cX4_pass 179 = .ok (.iaload, 1) := by decide +kernel
theorem dX4_pass_180 : decode cX4_pass 180 = .ok (.if_icmp .gt 83, 3) := by decide +kernel
theorem dX4_pass_183 : decode cX4_pass 183 = .ok (.aload_n 0, 1) := by decide +kernel
theorem dX4_pass_184 : decode cX4_pass 184 = .ok (.getfield 14, 3) := by decide +kernel
theorem dX4_pass_187 : decode cX4_pass 187 = .ok (.astore 7, 2) := by decide +kernel
theorem dX4_pass_189 : decode cX4_pass 189 = .ok (.aload 7, 2) := by decide +kernel
theorem dX4_pass_191 : decode cX4_pass 191 = .ok (.arraylength, 1) := by decide +kernel
theorem dX4_pass_192 : decode cX4_pass 192 = .ok (.istore 8, 2) := by decide +kernel
theorem dX4_pass_194 : decode cX4_pass 194 = .ok (.iconst 0, 1) := by decide +kernel
theorem dX4_pass_195 : decode cX4_pass 195 = .ok (.istore 9, 2) := by decide +kernel
theorem dX4_pass_197 : decode cX4_pass 197 = .ok (.iload 9, 2) := by decide +kernel
theorem dX4_pass_199 : decode cX4_pass 199 = .ok (.iload 8, 2) := by decide +kernel
theorem dX4_pass_201 : decode cX4_pass 201 = .ok (.if_icmp .ge 51, 3) := by decide +kernel
theorem dX4_pass_204 : decode cX4_pass 204 = .ok (.aload 7, 2) := by decide +kernel
theorem dX4_pass_206 : decode cX4_pass 206 = .ok (.iload 9, 2) := by decide +kernel
theorem dX4_pass_208 : decode cX4_pass 208 = .ok (.aaload, 1) := by decide +kernel
theorem dX4_pass_209 : decode cX4_pass 209 = .ok (.astore 10, 2) := by decide +kernel
theorem dX4_pass_211 : decode cX4_pass 211 = .ok (.aload 10, 2) := by decide +kernel
theorem dX4_pass_213 : decode cX4_pass 213 = .ok (.iconst 0, 1) := by decide +kernel
theorem dX4_pass_214 : decode cX4_pass 214 = .ok (.iaload, 1) := by decide +kernel
theorem dX4_pass_215 : decode cX4_pass 215 = .ok (.aload 4, 2) := by decide +kernel
theorem dX4_pass_217 : decode cX4_pass 217 = .ok (.iconst 3, 1) := by decide +kernel
theorem dX4_pass_218 : decode cX4_pass 218 = .ok (.iaload, 1) := by decide +kernel
theorem dX4_pass_219 : decode cX4_pass 219 = .ok (.if_icmp .ne 27, 3) := by decide +kernel
theorem dX4_pass_222 : decode cX4_pass 222 = .ok (.aload 10, 2) := by decide +kernel
theorem dX4_pass_224 : decode cX4_pass 224 = .ok (.iconst 2, 1) := by decide +kernel
theorem dX4_pass_225 : decode cX4_pass 225 = .ok (.iaload, 1) := by decide +kernel
theorem dX4_pass_226 : decode cX4_pass 226 = .ok (.ifCond .ne 20, 3) := by decide +kernel
theorem dX4_pass_229 : decode cX4_pass 229 = .ok (.aload 10, 2) := by decide +kernel
theorem dX4_pass_231 : decode cX4_pass 231 = .ok (.iconst 1, 1) := by decide +kernel
theorem dX4_pass_232 : decode cX4_pass 232 = .ok (.iaload, 1) := by decide +kernel
theorem dX4_pass_233 : decode cX4_pass 233 = .ok (.bipush 9, 2) := by decide +kernel
theorem dX4_pass_235 : decode cX4_pass 235 = .ok (.if_icmp .ge 11, 3) := by decide +kernel
theorem dX4_pass_238 : decode cX4_pass 238 = .ok (.aload 10, 2) := by decide +kernel
theorem dX4_pass_240 : decode cX4_pass 240 = .ok (.iconst 1, 1) := by decide +kernel
theorem dX4_pass_241 : decode cX4_pass 241 = .ok (.dup2, 1) := by decide +kernel
theorem dX4_pass_242 : decode cX4_pass 242 = .ok (.iaload, 1) := by decide +kernel
theorem dX4_pass_243 : decode cX4_pass 243 = .ok (.iconst 1, 1) := by decide +kernel
theorem dX4_pass_244 : decode cX4_pass 244 = .ok (.iadd, 1) := by decide +kernel
theorem dX4_pass_245 : decode cX4_pass 245 = .ok (.iastore, 1) := by decide +kernel
theorem dX4_pass_246 : decode cX4_pass 246 = .ok (.iinc 9 1, 3) := by decide +kernel
theorem dX4_pass_249 : decode cX4_pass 249 = .ok (.goto (-52), 3) := by decide +kernel
theorem dX4_pass_252 : decode cX4_pass 252 = .ok (.aload 4, 2) := by decide +kernel
theorem dX4_pass_254 : decode cX4_pass 254 = .ok (.iconst 3, 1) := by decide +kernel
theorem dX4_pass_255 : decode cX4_pass 255 = .ok (.dup2, 1) := by decide +kernel
theorem dX4_pass_256 : decode cX4_pass 256 = .ok (.iaload, 1) := by decide +kernel
theorem dX4_pass_257 : decode cX4_pass 257 = .ok (.iconst 1, 1) := by decide +kernel
theorem dX4_pass_258 : decode cX4_pass 258 = .ok (.iadd, 1) := by decide +kernel
theorem dX4_pass_259 : decode cX4_pass 259 = .ok (.iastore, 1) := by decide +kernel
theorem dX4_pass_260 : decode cX4_pass 260 = .ok (.goto 72, 3) := by decide +kernel
theorem dX4_pass_263 : decode cX4_pass 263 = .ok (.aload 4, 2) := by decide +kernel
theorem dX4_pass_265 : decode cX4_pass 265 = .ok (.iconst 2, 1) := by decide +kernel
theorem dX4_pass_266 : decode cX4_pass 266 = .ok (.iaload, 1) := by decide +kernel
theorem dX4_pass_267 : decode cX4_pass 267 = .ok (.ifCond .le 14, 3) := by decide +kernel
theorem dX4_pass_270 : decode cX4_pass 270 = .ok (.aload_n 0, 1) := by decide +kernel
theorem dX4_pass_271 : decode cX4_pass 271 = .ok (.aload 4, 2) := by decide +kernel
theorem dX4_pass_273 : decode cX4_pass 273 = .ok (.aload 6, 2) := by decide +kernel
theorem dX4_pass_275 : decode cX4_pass 275 = .ok (.invokevirtual 37, 3) := by decide +kernel
theorem dX4_pass_278 : decode cX4_pass 278 = .ok (.goto 54, 3) := by decide +kernel
theorem dX4_pass_281 : decode cX4_pass 281 = .ok (.aload 4, 2) := by decide +kernel
theorem dX4_pass_283 : decode cX4_pass 283 = .ok (.iconst 4, 1) := by decide +kernel
theorem dX4_pass_284 : decode cX4_pass 284 = .ok (.iload 5, 2) := by decide +kernel
theorem dX4_pass_286 : decode cX4_pass 286 = .ok (.invokestatic 41, 3) := by decide +kernel
theorem dX4_pass_289 : decode cX4_pass 289 = .ok (.iastore, 1) := by decide +kernel
theorem dX4_pass_290 : decode cX4_pass 290 = .ok (.aload 4, 2) := by decide +kernel
theorem dX4_pass_292 : decode cX4_pass 292 = .ok (.iconst 1, 1) := by decide +kernel
theorem dX4_pass_293 : decode cX4_pass 293 = .ok (.iaload, 1) := by decide +kernel
theorem dX4_pass_294 : decode cX4_pass 294 = .ok (.bipush 20, 2) := by decide +kernel
theorem dX4_pass_296 : decode cX4_pass 296 = .ok (.if_icmp .ge 11, 3) := by decide +kernel
theorem dX4_pass_299 : decode cX4_pass 299 = .ok (.aload 4, 2) := by decide +kernel
theorem dX4_pass_301 : decode cX4_pass 301 = .ok (.iconst 1, 1) := by decide +kernel
theorem dX4_pass_302 : decode cX4_pass 302 = .ok (.dup2, 1) := by decide +kernel
theorem dX4_pass_303 : decode cX4_pass 303 = .ok (.iaload, 1) := by decide +kernel
theorem dX4_pass_304 : decode cX4_pass 304 = .ok (.iconst 1, 1) := by decide +kernel
theorem dX4_pass_305 : decode cX4_pass 305 = .ok (.iadd, 1) := by decide +kernel
theorem dX4_pass_306 : decode cX4_pass 306 = .ok (.iastore, 1) := by decide +kernel
theorem dX4_pass_307 : decode cX4_pass 307 = .ok (.aload 4, 2) := by decide +kernel
theorem dX4_pass_309 : decode cX4_pass 309 = .ok (.iconst 3, 1) := by decide +kernel
theorem dX4_pass_310 : decode cX4_pass 310 = .ok (.iaload, 1) := by decide +kernel
theorem dX4_pass_311 : decode cX4_pass 311 = .ok (.ifCond .le 11, 3) := by decide +kernel
theorem dX4_pass_314 : decode cX4_pass 314 = .ok (.aload 4, 2) := by decide +kernel
theorem dX4_pass_316 : decode cX4_pass 316 = .ok (.iconst 3, 1) := by decide +kernel
theorem dX4_pass_317 : decode cX4_pass 317 = .ok (.dup2, 1) := by decide +kernel
theorem dX4_pass_318 : decode cX4_pass 318 = .ok (.iaload, 1) := by decide +kernel
theorem dX4_pass_319 : decode cX4_pass 319 = .ok (.iconst 1, 1) := by decide +kernel
theorem dX4_pass_320 : decode cX4_pass 320 = .ok (.isub, 1) := by decide +kernel
theorem dX4_pass_321 : decode cX4_pass 321 = .ok (.iastore, 1) := by decide +kernel
theorem dX4_pass_322 : decode cX4_pass 322 = .ok (.aload_n 0, 1) := by decide +kernel
theorem dX4_pass_323 : decode cX4_pass 323 = .ok (.dup, 1) := by decide +kernel
theorem dX4_pass_324 : decode cX4_pass 324 = .ok (.getfield 45, 3) := by decide +kernel
theorem dX4_pass_327 : decode cX4_pass 327 = .ok (.iconst 1, 1) := by decide +kernel
theorem dX4_pass_328 : decode cX4_pass 328 = .ok (.iadd, 1) := by decide +kernel
theorem dX4_pass_329 : decode cX4_pass 329 = .ok (.putfield 45, 3) := by decide +kernel
theorem dX4_pass_332 : decode cX4_pass 332 = .ok (.iinc 3 1, 3) := by decide +kernel
theorem dX4_pass_335 : decode cX4_pass 335 = .ok (.goto (-284), 3) := by decide +kernel
theorem dX4_pass_338 : decode cX4_pass 338 = .ok (.aload_n 0, 1) := by decide +kernel
theorem dX4_pass_339 : decode cX4_pass 339 = .ok (.dup, 1) := by decide +kernel
theorem dX4_pass_340 : decode cX4_pass 340 = .ok (.getfield 48, 3) := by decide +kernel
theorem dX4_pass_343 : decode cX4_pass 343 = .ok (.iconst 1, 1) := by decide +kernel
theorem dX4_pass_344 : decode cX4_pass 344 = .ok (.iadd, 1) := by decide +kernel
theorem dX4_pass_345 : decode cX4_pass 345 = .ok (.putfield 48, 3) := by decide +kernel
theorem dX4_pass_348 : decode cX4_pass 348 = .ok (.return_, 1) := by decide +kernel
set_option maxRecDepth 20000 in
theorem ggX4_inFarm_X4_isIn : GoodIn wsX4_inFarm wsX4_isIn := goodIn_r _ [6, 7, 8, 9, 10, 11, 12, 13] (by decide +kernel) (by decide +kernel)
set_option maxRecDepth 20000 in
theorem gX4_inFarm_X4_isIn : GoodIn wsX4_inFarm (wsV RX4 21 RX4 yX4_isIn wsX4_isIn) := goodIn_app (goodIn_of _ (by decide +kernel)) ggX4_inFarm_X4_isIn
theorem dX4_inFarm_0 : decode cX4_inFarm 0 = .ok (.iconst 0, 1) := by decide +kernel
theorem dX4_inFarm_1 : decode cX4_inFarm 1 = .ok (.istore_n 1, 1) := by decide +kernel
theorem dX4_inFarm_2 : decode cX4_inFarm 2 = .ok (.aload_n 0, 1) := by decide +kernel
theorem dX4_inFarm_3 : decode cX4_inFarm 3 = .ok (.getfield 18, 3) := by decide +kernel
theorem dX4_inFarm_6 : decode cX4_inFarm 6 = .ok (.astore_n 2, 1) := by decide +kernel
theorem dX4_inFarm_7 : decode cX4_inFarm 7 = .ok (.aload_n 2, 1) := by decide +kernel
theorem dX4_inFarm_8 : decode cX4_inFarm 8 = .ok (.arraylength, 1) := by decide +kernel
theorem dX4_inFarm_9 : decode cX4_inFarm 9 = .ok (.istore_n 3, 1) := by decide +kernel
theorem dX4_inFarm_10 : decode cX4_inFarm 10 = .ok (.iconst 0, 1) := by decide +kernel
end
section
theorem dX4_inFarm_11 : decode cX4_inFarm 11 = .ok (.istore 4, 2) := by decide +kernel
theorem dX4_inFarm_13 : decode cX4_inFarm 13 = .ok (.iload 4, 2) := by decide +kernel
theorem dX4_inFarm_15 : decode cX4_inFarm 15 = .ok (.iload_n 3, 1) := by decide +kernel
theorem dX4_inFarm_16 : decode cX4_inFarm 16 = .ok (.if_icmp .ge 27, 3) := by decide +kernel
theorem dX4_inFarm_19 : decode cX4_inFarm 19 = .ok (.aload_n 2, 1) := by decide +kernel
theorem dX4_inFarm_20 : decode cX4_inFarm 20 = .ok (.iload 4, 2) := by decide +kernel
theorem dX4_inFarm_22 : decode cX4_inFarm 22 = .ok (.aaload, 1) := by decide +kernel
theorem dX4_inFarm_23 : decode cX4_inFarm 23 = .ok (.astore 5, 2) := by decide +kernel
theorem dX4_inFarm_25 : decode cX4_inFarm 25 = .ok (.aload_n 0, 1) := by decide +kernel
theorem dX4_inFarm_26 : decode cX4_inFarm 26 = .ok (.aload 5, 2) := by decide +kernel
theorem dX4_inFarm_28 : decode cX4_inFarm 28 = .ok (.invokevirtual 21, 3) := by decide +kernel
theorem dX4_inFarm_31 : decode cX4_inFarm 31 = .ok (.ifCond .eq 6, 3) := by decide +kernel
theorem dX4_inFarm_34 : decode cX4_inFarm 34 = .ok (.iinc 1 1, 3) := by decide +kernel
theorem dX4_inFarm_37 : decode cX4_inFarm 37 = .ok (.iinc 4 1, 3) := by decide +kernel
theorem dX4_inFarm_40 : decode cX4_inFarm 40 = .ok (.goto (-27), 3) := by decide +kernel
theorem dX4_inFarm_43 : decode cX4_inFarm 43 = .ok (.iload_n 1, 1) := by decide +kernel
theorem dX4_inFarm_44 : decode cX4_inFarm 44 = .ok (.ireturn, 1) := by decide +kernel
set_option maxRecDepth 20000 in
theorem ggX4_behind_X4_inFarm : GoodIn wsX4_behind wsX4_inFarm := goodIn_r _ [5, 6, 7, 8, 9, 4, 10, 11, 36, 37, 38, 39, 40, 41] (by decide +kernel) (by decide +kernel)
set_option maxRecDepth 20000 in
theorem gX4_behind_X4_inFarm : GoodIn wsX4_behind (wsV RX4 51 RX4 yX4_inFarm wsX4_inFarm) := goodIn_app (goodIn_of _ (by decide +kernel)) ggX4_behind_X4_inFarm
set_option maxRecDepth 20000 in
theorem ggX4_behind_X4_pass : GoodIn wsX4_behind wsX4_pass := goodIn_r _ [15, 16, 6, 17, 18, 7, 8, 9, 4, 10, 11, 19, 20, 21, 22, 23, 24, 25, 26, 27, 28, 29, 30, 31, 32, 33, 34, 35, 36, 37, 38, 39, 40, 41] (by decide +kernel) (by decide +kernel)
set_option maxRecDepth 20000 in
theorem gX4_behind_X4_pass : GoodIn wsX4_behind (wsV RX4 55 RX4 yX4_pass wsX4_pass) := goodIn_app (goodIn_of _ (by decide +kernel)) ggX4_behind_X4_pass
theorem dX4_behind_0 : decode cX4_behind 0 = .ok (.aload_n 0, 1) := by decide +kernel
theorem dX4_behind_1 : decode cX4_behind 1 = .ok (.invokevirtual 51, 3) := by decide +kernel
theorem dX4_behind_4 : decode cX4_behind 4 = .ok (.istore_n 2, 1) := by decide +kernel
theorem dX4_behind_5 : decode cX4_behind 5 = .ok (.iconst 0, 1) := by decide +kernel
theorem dX4_behind_6 : decode cX4_behind 6 = .ok (.istore_n 3, 1) := by decide +kernel
theorem dX4_behind_7 : decode cX4_behind 7 = .ok (.iload_n 3, 1) := by decide +kernel
theorem dX4_behind_8 : decode cX4_behind 8 = .ok (.iload_n 1, 1) := by decide +kernel
theorem dX4_behind_9 : decode cX4_behind 9 = .ok (.if_icmp .ge 13, 3) := by decide +kernel
theorem dX4_behind_12 : decode cX4_behind 12 = .ok (.aload_n 0, 1) := by decide +kernel
theorem dX4_behind_13 : decode cX4_behind 13 = .ok (.invokevirtual 55, 3) := by decide +kernel
theorem dX4_behind_16 : decode cX4_behind 16 = .ok (.iinc 3 1, 3) := by decide +kernel
theorem dX4_behind_19 : decode cX4_behind 19 = .ok (.goto (-12), 3) := by decide +kernel
theorem dX4_behind_22 : decode cX4_behind 22 = .ok (.aload_n 0, 1) := by decide +kernel
theorem dX4_behind_23 : decode cX4_behind 23 = .ok (.invokevirtual 51, 3) := by decide +kernel
theorem dX4_behind_26 : decode cX4_behind 26 = .ok (.iload_n 2, 1) := by decide +kernel
theorem dX4_behind_27 : decode cX4_behind 27 = .ok (.isub, 1) := by decide +kernel
theorem dX4_behind_28 : decode cX4_behind 28 = .ok (.ireturn, 1) := by decide +kernel
set_option maxRecDepth 20000 in
theorem ggX4_isSame_X3_beats : GoodIn wsX4_isSame wsX3_beats := goodIn_r _ [11, 12, 13, 246, 247, 248, 249, 250, 251, 252, 253, 254] (by decide +kernel) (by decide +kernel)
set_option maxRecDepth 20000 in
theorem gX4_isSame_X3_beats : GoodIn wsX4_isSame (wsV RX4 67 RX3 yX3_beats wsX3_beats) := goodIn_app (goodIn_of _ (by decide +kernel)) ggX4_isSame_X3_beats
set_option maxRecDepth 20000 in
theorem ggX4_isSame_X3_gates : GoodIn wsX4_isSame wsX3_gates := goodIn_r _ [17, 12, 18, 246, 247, 248, 249, 250, 251, 252, 253, 254] (by decide +kernel) (by decide +kernel)
set_option maxRecDepth 20000 in
theorem gX4_isSame_X3_gates : GoodIn wsX4_isSame (wsV RX4 72 RX3 yX3_gates wsX3_gates) := goodIn_app (goodIn_of _ (by decide +kernel)) ggX4_isSame_X3_gates
set_option maxRecDepth 20000 in
theorem ggX4_isSame_X3_geese : GoodIn wsX4_isSame wsX3_geese := goodIn_r _ [22, 12, 23, 24, 246, 247, 248, 249, 250, 251, 252, 253, 254, 255, 256, 257, 258, 259] (by decide +kernel) (by decide +kernel)
set_option maxRecDepth 20000 in
theorem gX4_isSame_X3_geese : GoodIn wsX4_isSame (wsV RX4 75 RX3 yX3_geese wsX3_geese) := goodIn_app (goodIn_of _ (by decide +kernel)) ggX4_isSame_X3_geese
set_option maxRecDepth 20000 in
theorem ggX4_isSame_X3_visitors : GoodIn wsX4_isSame wsX3_visitors := goodIn_r _ [28, 12, 29, 30, 246, 247, 248, 249, 250, 251, 252, 253, 254, 260, 261, 262, 263, 264, 265] (by decide +kernel) (by decide +kernel)
set_option maxRecDepth 20000 in
theorem gX4_isSame_X3_visitors : GoodIn wsX4_isSame (wsV RX4 77 RX3 yX3_visitors wsX3_visitors) := goodIn_app (goodIn_of _ (by decide +kernel)) ggX4_isSame_X3_visitors
set_option maxRecDepth 20000 in
theorem ggX4_isSame_X3_inFarm : GoodIn wsX4_isSame wsX3_inFarm := goodIn_r _ [34, 12, 35, 36, 37, 38, 39, 40, 41, 42, 43, 44, 45, 46, 47, 246, 247, 248, 249, 250, 251, 252, 253, 254, 260, 261, 262, 263, 264, 265] (by decide +kernel) (by decide +kernel)
set_option maxRecDepth 20000 in
theorem gX4_isSame_X3_inFarm : GoodIn wsX4_isSame (wsV RX4 79 RX3 yX3_inFarm wsX3_inFarm) := goodIn_app (goodIn_of _ (by decide +kernel)) ggX4_isSame_X3_inFarm
set_option maxRecDepth 20000 in
theorem ggX4_isSame_X4_inFarm : GoodIn wsX4_isSame wsX4_inFarm := goodIn_r _ [52, 4, 53, 54, 55, 51, 56, 1, 240, 241, 242, 243, 244, 245] (by decide +kernel) (by decide +kernel)
set_option maxRecDepth 20000 in
theorem gX4_isSame_X4_inFarm : GoodIn wsX4_isSame (wsV RX4 51 RX4 yX4_inFarm wsX4_inFarm) := goodIn_app (goodIn_of _ (by decide +kernel)) ggX4_isSame_X4_inFarm
set_option maxRecDepth 20000 in
theorem ggX4_isSame_X3_bribes : GoodIn wsX4_isSame wsX3_bribes := goodIn_r _ [60, 12, 61, 246, 247, 248, 249, 250, 251, 252, 253, 254] (by decide +kernel) (by decide +kernel)
set_option maxRecDepth 20000 in
theorem gX4_isSame_X3_bribes : GoodIn wsX4_isSame (wsV RX4 80 RX3 yX3_bribes wsX3_bribes) := goodIn_app (goodIn_of _ (by decide +kernel)) ggX4_isSame_X3_bribes
set_option maxRecDepth 20000 in
theorem ggX4_isSame_X3_retreats : GoodIn wsX4_isSame wsX3_retreats := goodIn_r _ [65, 12, 66, 246, 247, 248, 249, 250, 251, 252, 253, 254] (by decide +kernel) (by decide +kernel)
set_option maxRecDepth 20000 in
theorem gX4_isSame_X3_retreats : GoodIn wsX4_isSame (wsV RX4 82 RX3 yX3_retreats wsX3_retreats) := goodIn_app (goodIn_of _ (by decide +kernel)) ggX4_isSame_X3_retreats
set_option maxRecDepth 20000 in
theorem ggX4_isSame_X4_hiss : GoodIn wsX4_isSame wsX4_hiss := goodIn_r _ [70, 3, 1, 240, 241, 242, 243, 244, 245] (by decide +kernel) (by decide +kernel)
set_option maxRecDepth 20000 in
theorem gX4_isSame_X4_hiss : GoodIn wsX4_isSame (wsV RX4 25 RX4 yX4_hiss wsX4_hiss) := goodIn_app (goodIn_of _ (by decide +kernel)) ggX4_isSame_X4_hiss
set_option maxRecDepth 20000 in
theorem ggX4_isSame_X3_rankOf : GoodIn wsX4_isSame wsX3_rankOf := goodIn_ca (goodIn_r _ [74, 12, 75, 76, 77, 78, 38, 79, 47, 80, 81, 10, 82, 83, 84, 246, 247, 248, 249, 250, 251, 252, 253, 254] (by decide +kernel) (by decide +kernel)) (goodIn_sub (fun _ h => List.mem_cons_of_mem _ (List.mem_append_left _ (List.mem_append_right _ h))) (by decide +kernel))
set_option maxRecDepth 20000 in
theorem gX4_isSame_X3_rankOf : GoodIn wsX4_isSame (wsV RX4 84 RX3 yX3_rankOf wsX3_rankOf) := goodIn_app (goodIn_of _ (by decide +kernel)) ggX4_isSame_X3_rankOf
set_option maxRecDepth 20000 in
theorem ggX4_isSame_X3_awakeAt : GoodIn wsX4_isSame wsX3_awakeAt := goodIn_ca (goodIn_r _ [88, 12, 23, 76, 77, 78, 38, 79, 47, 80, 81, 10, 82, 83, 84, 89, 90, 91, 92, 93, 94, 95, 96, 97, 98, 99, 100, 246, 247, 248, 249, 250, 251, 252, 253, 254, 255, 256, 257, 258, 259] (by decide +kernel) (by decide +kernel)) (goodIn_sub (fun _ h => List.mem_cons_of_mem _ (List.mem_append_left _ (List.mem_append_right _ h))) (by decide +kernel))
set_option maxRecDepth 20000 in
theorem gX4_isSame_X3_awakeAt : GoodIn wsX4_isSame (wsV RX4 87 RX3 yX3_awakeAt wsX3_awakeAt) := goodIn_app (goodIn_of _ (by decide +kernel)) ggX4_isSame_X3_awakeAt
set_option maxRecDepth 20000 in
theorem ggX4_isSame_X3_hissOf : GoodIn wsX4_isSame wsX3_hissOf := goodIn_ca (goodIn_ca (goodIn_r _ [104, 12, 76, 77, 78, 38, 79, 47, 80, 81, 10, 82, 83, 84, 105, 106, 107, 108, 109, 110, 111, 112, 113, 114, 115, 116, 117, 118, 119, 120, 121, 122, 123, 124, 125, 126, 127, 128, 129, 130, 131, 132, 133, 92, 134, 94, 135, 95, 96, 97, 98, 99, 100, 246, 247, 248, 249, 250, 251, 252, 253, 254, 255, 256, 257, 258, 259] (by decide +kernel) (by decide +kernel)) (goodIn_sub (fun _ h => List.mem_cons_of_mem _ (List.mem_append_left _ (List.mem_append_right _ h))) (by decide +kernel))) (goodIn_sub (fun _ h => List.mem_cons_of_mem _ (List.mem_append_right _ h)) (by decide +kernel))
set_option maxRecDepth 20000 in
theorem gX4_isSame_X3_hissOf : GoodIn wsX4_isSame (wsV RX4 90 RX3 yX3_hissOf wsX3_hissOf) := goodIn_app (goodIn_of _ (by decide +kernel)) ggX4_isSame_X3_hissOf
set_option maxRecDepth 20000 in
theorem ggX4_isSame_X3_gateOf : GoodIn wsX4_isSame wsX3_gateOf := goodIn_ca (goodIn_r _ [139, 12, 23, 140, 141, 142, 143, 10, 144, 145, 146, 147, 92, 148, 94, 80, 81, 82, 83, 84, 246, 247, 248, 249, 250, 251, 252, 253, 254, 255, 256, 257, 258, 259] (by decide +kernel) (by decide +kernel)) (goodIn_sub (fun _ h => List.mem_cons_of_mem _ (List.mem_append_left _ (List.mem_append_right _ h))) (by decide +kernel))
set_option maxRecDepth 20000 in
theorem gX4_isSame_X3_gateOf : GoodIn wsX4_isSame (wsV RX4 93 RX3 yX3_gateOf wsX3_gateOf) := goodIn_app (goodIn_of _ (by decide +kernel)) ggX4_isSame_X3_gateOf
set_option maxRecDepth 20000 in
theorem ggX4_isSame_X3_temperOf : GoodIn wsX4_isSame wsX3_temperOf := goodIn_ca (goodIn_r _ [152, 12, 23, 153, 141, 142, 143, 10, 144, 145, 146, 147, 92, 148, 94, 80, 81, 82, 83, 84, 246, 247, 248, 249, 250, 251, 252, 253, 254, 255, 256, 257, 258, 259] (by decide +kernel) (by decide +kernel)) (goodIn_sub (fun _ h => List.mem_cons_of_mem _ (List.mem_append_left _ (List.mem_append_right _ h))) (by decide +kernel))
set_option maxRecDepth 20000 in
theorem gX4_isSame_X3_temperOf : GoodIn wsX4_isSame (wsV RX4 96 RX3 yX3_temperOf wsX3_temperOf) := goodIn_app (goodIn_of _ (by decide +kernel)) ggX4_isSame_X3_temperOf
set_option maxRecDepth 20000 in
theorem ggX4_isSame_X3_calmFor : GoodIn wsX4_isSame wsX3_calmFor := goodIn_ca (goodIn_r _ [157, 12, 23, 158, 141, 142, 143, 10, 144, 145, 146, 147, 92, 148, 94, 80, 81, 82, 83, 84, 246, 247, 248, 249, 250, 251, 252, 253, 254, 255, 256, 257, 258, 259] (by decide +kernel) (by decide +kernel)) (goodIn_sub (fun _ h => List.mem_cons_of_mem _ (List.mem_append_left _ (List.mem_append_right _ h))) (by decide +kernel))
set_option maxRecDepth 20000 in
theorem gX4_isSame_X3_calmFor : GoodIn wsX4_isSame (wsV RX4 99 RX3 yX3_calmFor wsX3_calmFor) := goodIn_app (goodIn_of _ (by decide +kernel)) ggX4_isSame_X3_calmFor
set_option maxRecDepth 20000 in
theorem ggX4_isSame_X3_eatenBy : GoodIn wsX4_isSame wsX3_eatenBy := goodIn_ca (goodIn_r _ [162, 12, 23, 163, 141, 142, 143, 10, 144, 145, 146, 147, 92, 148, 94, 80, 81, 82, 83, 84, 246, 247, 248, 249, 250, 251, 252, 253, 254, 255, 256, 257, 258, 259] (by decide +kernel) (by decide +kernel)) (goodIn_sub (fun _ h => List.mem_cons_of_mem _ (List.mem_append_left _ (List.mem_append_right _ h))) (by decide +kernel))
set_option maxRecDepth 20000 in
theorem gX4_isSame_X3_eatenBy : GoodIn wsX4_isSame (wsV RX4 102 RX3 yX3_eatenBy wsX3_eatenBy) := goodIn_app (goodIn_of _ (by decide +kernel)) ggX4_isSame_X3_eatenBy
set_option maxRecDepth 20000 in
theorem ggX4_isSame_X4_hissAt : GoodIn wsX4_isSame wsX4_hissAt := goodIn_r _ [167, 53, 54, 55, 51, 56, 1, 67, 68, 69, 70, 3, 240, 241, 242, 243, 244, 245] (by decide +kernel) (by decide +kernel)
set_option maxRecDepth 20000 in
theorem gX4_isSame_X4_hissAt : GoodIn wsX4_isSame (wsV RX4 33 RX4 yX4_hissAt wsX4_hissAt) := goodIn_app (goodIn_of _ (by decide +kernel)) ggX4_isSame_X4_hissAt
set_option maxRecDepth 20000 in
theorem ggX4_isSame_X3_passedBy : GoodIn wsX4_isSame wsX3_passedBy := goodIn_ca (goodIn_r _ [171, 12, 29, 172, 173, 174, 175, 10, 176, 177, 178, 179, 180, 181, 182, 80, 81, 82, 83, 84, 246, 247, 248, 249, 250, 251, 252, 253, 254, 260, 261, 262, 263, 264, 265] (by decide +kernel) (by decide +kernel)) (goodIn_sub (fun _ h => List.mem_cons_of_mem _ (List.mem_append_left _ (List.mem_append_right _ h))) (by decide +kernel))
set_option maxRecDepth 20000 in
theorem gX4_isSame_X3_passedBy : GoodIn wsX4_isSame (wsV RX4 105 RX3 yX3_passedBy wsX3_passedBy) := goodIn_app (goodIn_of _ (by decide +kernel)) ggX4_isSame_X3_passedBy
set_option maxRecDepth 20000 in
theorem ggX4_isSame_X3_isInFarm : GoodIn wsX4_isSame wsX3_isInFarm := goodIn_ca (goodIn_r _ [186, 12, 173, 174, 175, 10, 176, 29, 177, 178, 179, 180, 181, 182, 80, 81, 82, 83, 84, 187, 43, 44, 38, 45, 40, 46, 47, 246, 247, 248, 249, 250, 251, 252, 253, 254, 260, 261, 262, 263, 264, 265] (by decide +kernel) (by decide +kernel)) (goodIn_sub (fun _ h => List.mem_cons_of_mem _ (List.mem_append_left _ (List.mem_append_right _ h))) (by decide +kernel))
set_option maxRecDepth 20000 in
theorem gX4_isSame_X3_isInFarm : GoodIn wsX4_isSame (wsV RX4 108 RX3 yX3_isInFarm wsX3_isInFarm) := goodIn_app (goodIn_of _ (by decide +kernel)) ggX4_isSame_X3_isInFarm
set_option maxRecDepth 20000 in
theorem ggX4_isSame_X4_isIn : GoodIn wsX4_isSame wsX4_isIn := goodIn_r _ [56, 1, 240, 241, 242, 243, 244, 245] (by decide +kernel) (by decide +kernel)
set_option maxRecDepth 20000 in
theorem gX4_isSame_X4_isIn : GoodIn wsX4_isSame (wsV RX4 21 RX4 yX4_isIn wsX4_isIn) := goodIn_app (goodIn_of _ (by decide +kernel)) ggX4_isSame_X4_isIn
set_option maxRecDepth 20000 in
theorem ggX4_isSame_X3_cornsOf : GoodIn wsX4_isSame wsX3_cornsOf := goodIn_ca (goodIn_r _ [191, 12, 29, 192, 173, 174, 175, 10, 176, 177, 178, 179, 180, 181, 182, 80, 81, 82, 83, 84, 246, 247, 248, 249, 250, 251, 252, 253, 254, 260, 261, 262, 263, 264, 265] (by decide +kernel) (by decide +kernel)) (goodIn_sub (fun _ h => List.mem_cons_of_mem _ (List.mem_append_left _ (List.mem_append_right _ h))) (by decide +kernel))
set_option maxRecDepth 20000 in
theorem gX4_isSame_X3_cornsOf : GoodIn wsX4_isSame (wsV RX4 112 RX3 yX3_cornsOf wsX3_cornsOf) := goodIn_app (goodIn_of _ (by decide +kernel)) ggX4_isSame_X3_cornsOf
set_option maxRecDepth 20000 in
theorem ggX4_isSame_X3_nerveOf : GoodIn wsX4_isSame wsX3_nerveOf := goodIn_ca (goodIn_r _ [196, 12, 29, 197, 173, 174, 175, 10, 176, 177, 178, 179, 180, 181, 182, 80, 81, 82, 83, 84, 246, 247, 248, 249, 250, 251, 252, 253, 254, 260, 261, 262, 263, 264, 265] (by decide +kernel) (by decide +kernel)) (goodIn_sub (fun _ h => List.mem_cons_of_mem _ (List.mem_append_left _ (List.mem_append_right _ h))) (by decide +kernel))
set_option maxRecDepth 20000 in
theorem gX4_isSame_X3_nerveOf : GoodIn wsX4_isSame (wsV RX4 115 RX3 yX3_nerveOf wsX3_nerveOf) := goodIn_app (goodIn_of _ (by decide +kernel)) ggX4_isSame_X3_nerveOf
set_option maxRecDepth 20000 in
theorem ggX4_isSame_X3_retreatOf : GoodIn wsX4_isSame wsX3_retreatOf := goodIn_ca (goodIn_r _ [201, 12, 29, 202, 173, 174, 175, 10, 176, 177, 178, 179, 180, 181, 182, 80, 81, 82, 83, 84, 246, 247, 248, 249, 250, 251, 252, 253, 254, 260, 261, 262, 263, 264, 265] (by decide +kernel) (by decide +kernel)) (goodIn_sub (fun _ h => List.mem_cons_of_mem _ (List.mem_append_left _ (List.mem_append_right _ h))) (by decide +kernel))
set_option maxRecDepth 20000 in
theorem gX4_isSame_X3_retreatOf : GoodIn wsX4_isSame (wsV RX4 118 RX3 yX3_retreatOf wsX3_retreatOf) := goodIn_app (goodIn_of _ (by decide +kernel)) ggX4_isSame_X3_retreatOf
set_option maxRecDepth 20000 in
theorem ggX4_isSame_X3_hissAt : GoodIn wsX4_isSame wsX3_hissAt := goodIn_ca (goodIn_r _ [206, 12, 173, 174, 175, 10, 176, 29, 177, 178, 179, 180, 181, 182, 80, 81, 82, 83, 84, 207, 208, 209, 38, 210, 40, 46, 211, 212, 117, 118, 119, 120, 121, 122, 123, 124, 125, 126, 127, 128, 129, 130, 77, 78, 79, 47, 131, 132, 133, 92, 134, 94, 135, 95, 96, 97, 98, 99, 100, 246, 247, 248, 249, 250, 251, 252, 253, 254, 260, 261, 262, 263, 264, 265, 255, 256, 257, 258, 259] (by decide +kernel) (by decide +kernel)) (goodIn_sub (fun _ h => List.mem_cons_of_mem _ (List.mem_append_left _ (List.mem_append_right _ h))) (by decide +kernel))
set_option maxRecDepth 20000 in
theorem gX4_isSame_X3_hissAt : GoodIn wsX4_isSame (wsV RX4 121 RX3 yX3_hissAt wsX3_hissAt) := goodIn_app (goodIn_of _ (by decide +kernel)) ggX4_isSame_X3_hissAt
set_option maxRecDepth 20000 in
theorem ggX4_isSame_X3_gradeFor : GoodIn wsX4_isSame wsX3_gradeFor := goodIn_ca (goodIn_r _ [216, 12, 173, 174, 175, 10, 176, 29, 177, 178, 179, 180, 181, 182, 80, 81, 82, 83, 84, 207, 208, 209, 38, 210, 40, 46, 211, 212, 117, 118, 119, 120, 121, 122, 123, 124, 125, 126, 127, 128, 129, 130, 77, 78, 79, 47, 131, 132, 133, 92, 134, 94, 135, 95, 96, 97, 98, 99, 100, 217, 218, 219, 246, 247, 248, 249, 250, 251, 252, 253, 254, 260, 261, 262, 263, 264, 265, 255, 256, 257, 258, 259] (by decide +kernel) (by decide +kernel)) (goodIn_sub (fun _ h => List.mem_cons_of_mem _ (List.mem_append_left _ (List.mem_append_right _ h))) (by decide +kernel))
set_option maxRecDepth 20000 in
theorem gX4_isSame_X3_gradeFor : GoodIn wsX4_isSame (wsV RX4 123 RX3 yX3_gradeFor wsX3_gradeFor) := goodIn_app (goodIn_of _ (by decide +kernel)) ggX4_isSame_X3_gradeFor
set_option maxRecDepth 20000 in
theorem ggX4_isSame_X4_grade : GoodIn wsX4_isSame wsX4_grade := goodIn_r _ [222, 223] (by decide +kernel) (by decide +kernel)
set_option maxRecDepth 20000 in
theorem gX4_isSame_X4_grade : GoodIn wsX4_isSame (va_wsS RX4 41 yX4_grade wsX4_grade) := goodIn_app (goodIn_of _ (by decide +kernel)) ggX4_isSame_X4_grade
set_option maxRecDepth 20000 in
theorem ggX4_isSame_X3_dares : GoodIn wsX4_isSame wsX3_dares := goodIn_ca (goodIn_r _ [227, 12, 29, 197, 173, 174, 175, 10, 176, 177, 178, 179, 180, 181, 182, 80, 81, 82, 83, 84, 187, 43, 44, 38, 45, 40, 46, 47, 207, 208, 209, 210, 211, 212, 117, 118, 119, 120, 121, 122, 123, 124, 125, 126, 127, 128, 129, 130, 77, 78, 79, 131, 132, 133, 92, 134, 94, 135, 95, 96, 97, 98, 99, 100, 246, 247, 248, 249, 250, 251, 252, 253, 254, 260, 261, 262, 263, 264, 265, 255, 256, 257, 258, 259] (by decide +kernel) (by decide +kernel)) (goodIn_sub (fun _ h => List.mem_cons_of_mem _ (List.mem_append_left _ (List.mem_append_right _ h))) (by decide +kernel))
set_option maxRecDepth 20000 in
theorem gX4_isSame_X3_dares : GoodIn wsX4_isSame (wsV RX4 126 RX3 yX3_dares wsX3_dares) := goodIn_app (goodIn_of _ (by decide +kernel)) ggX4_isSame_X3_dares
set_option maxRecDepth 20000 in
theorem ggX4_isSame_X3_loudestGate : GoodIn wsX4_isSame wsX3_loudestGate := goodIn_r _ [231, 12, 18, 116, 117, 118, 38, 119, 120, 121, 122, 123, 124, 125, 126, 127, 128, 129, 130, 77, 78, 79, 47, 131, 132, 133, 92, 134, 94, 135, 95, 96, 97, 98, 99, 100, 246, 247, 248, 249, 250, 251, 252, 253, 254, 255, 256, 257, 258, 259] (by decide +kernel) (by decide +kernel)
set_option maxRecDepth 20000 in
theorem gX4_isSame_X3_loudestGate : GoodIn wsX4_isSame (wsV RX4 129 RX3 yX3_loudestGate wsX3_loudestGate) := goodIn_app (goodIn_of _ (by decide +kernel)) ggX4_isSame_X3_loudestGate
set_option maxRecDepth 20000 in
theorem ggX4_isSame_X3_meanTemper : GoodIn wsX4_isSame wsX3_meanTemper := goodIn_r _ [235, 12, 23, 24, 236, 237, 238, 92, 239, 94, 135, 246, 247, 248, 249, 250, 251, 252, 253, 254, 255, 256, 257, 258, 259] (by decide +kernel) (by decide +kernel)
set_option maxRecDepth 20000 in
theorem gX4_isSame_X3_meanTemper : GoodIn wsX4_isSame (wsV RX4 132 RX3 yX3_meanTemper wsX3_meanTemper) := goodIn_app (goodIn_of _ (by decide +kernel)) ggX4_isSame_X3_meanTemper
theorem dX4_isSame_0 : decode cX4_isSame 0 = .ok (.aload_n 0, 1) := by decide +kernel
theorem dX4_isSame_1 : decode cX4_isSame 1 = .ok (.getfield 7, 3) := by decide +kernel
theorem dX4_isSame_4 : decode cX4_isSame 4 = .ok (.arraylength, 1) := by decide +kernel
theorem dX4_isSame_5 : decode cX4_isSame 5 = .ok (.istore_n 2, 1) := by decide +kernel
theorem dX4_isSame_6 : decode cX4_isSame 6 = .ok (.aload_n 1, 1) := by decide +kernel
theorem dX4_isSame_7 : decode cX4_isSame 7 = .ok (.invokevirtual 67, 3) := by decide +kernel
theorem dX4_isSame_10 : decode cX4_isSame 10 = .ok (.aload_n 0, 1) := by decide +kernel
theorem dX4_isSame_11 : decode cX4_isSame 11 = .ok (.getfield 48, 3) := by decide +kernel
theorem dX4_isSame_14 : decode cX4_isSame 14 = .ok (.if_icmp .ne 68, 3) := by decide +kernel
theorem dX4_isSame_17 : decode cX4_isSame 17 = .ok (.aload_n 1, 1) := by decide +kernel
theorem dX4_isSame_18 : decode cX4_isSame 18 = .ok (.invokevirtual 72, 3) := by decide +kernel
theorem dX4_isSame_21 : decode cX4_isSame 21 = .ok (.iload_n 2, 1) := by decide +kernel
theorem dX4_isSame_22 : decode cX4_isSame 22 = .ok (.if_icmp .ne 60, 3) := by decide +kernel
theorem dX4_isSame_25 : decode cX4_isSame 25 = .ok (.aload_n 1, 1) := by decide +kernel
theorem dX4_isSame_26 : decode cX4_isSame 26 = .ok (.invokevirtual 75, 3) := by decide +kernel
theorem dX4_isSame_29 : decode cX4_isSame 29 = .ok (.aload_n 0, 1) := by decide +kernel
theorem dX4_isSame_30 : decode cX4_isSame 30 = .ok (.getfield 14, 3) := by decide +kernel
theorem dX4_isSame_33 : decode cX4_isSame 33 = .ok (.arraylength, 1) := by decide +kernel
theorem dX4_isSame_34 : decode cX4_isSame 34 = .ok (.if_icmp .ne 48, 3) := by decide +kernel
theorem dX4_isSame_37 : decode cX4_isSame 37 = .ok (.aload_n 1, 1) := by decide +kernel
theorem dX4_isSame_38 : decode cX4_isSame 38 = .ok (.invokevirtual 77, 3) := by decide +kernel
theorem dX4_isSame_41 : decode cX4_isSame 41 = .ok (.aload_n 0, 1) := by decide +kernel
theorem dX4_isSame_42 : decode cX4_isSame 42 = .ok (.getfield 18, 3) := by decide +kernel
theorem dX4_isSame_45 : decode cX4_isSame 45 = .ok (.arraylength, 1) := by decide +kernel
theorem dX4_isSame_46 : decode cX4_isSame 46 = .ok (.if_icmp .ne 36, 3) := by decide +kernel
theorem dX4_isSame_49 : decode cX4_isSame 49 = .ok (.aload_n 1, 1) := by decide +kernel
theorem dX4_isSame_50 : decode cX4_isSame 50 = .ok (.invokevirtual 79, 3) := by decide +kernel
theorem dX4_isSame_53 : decode cX4_isSame 53 = .ok (.aload_n 0, 1) := by decide +kernel
theorem dX4_isSame_54 : decode cX4_isSame 54 = .ok (.invokevirtual 51, 3) := by decide +kernel
theorem dX4_isSame_57 : decode cX4_isSame 57 = .ok (.if_icmp .ne 25, 3) := by decide +kernel
theorem dX4_isSame_60 : decode cX4_isSame 60 = .ok (.aload_n 1, 1) := by decide +kernel
theorem dX4_isSame_61 : decode cX4_isSame 61 = .ok (.invokevirtual 80, 3) := by decide +kernel
theorem dX4_isSame_64 : decode cX4_isSame 64 = .ok (.aload_n 0, 1) := by decide +kernel
theorem dX4_isSame_65 : decode cX4_isSame 65 = .ok (.getfield 29, 3) := by decide +kernel
theorem dX4_isSame_68 : decode cX4_isSame 68 = .ok (.if_icmp .ne 14, 3) := by decide +kernel
theorem dX4_isSame_71 : decode cX4_isSame 71 = .ok (.aload_n 1, 1) := by decide +kernel
theorem dX4_isSame_72 : decode cX4_isSame 72 = .ok (.invokevirtual 82, 3) := by decide +kernel
theorem dX4_isSame_75 : decode cX4_isSame 75 = .ok (.aload_n 0, 1) := by decide +kernel
theorem dX4_isSame_76 : decode cX4_isSame 76 = .ok (.getfield 45, 3) := by decide +kernel
theorem dX4_isSame_79 : decode cX4_isSame 79 = .ok (.if_icmp .eq 5, 3) := by decide +kernel
theorem dX4_isSame_82 : decode cX4_isSame 82 = .ok (.iconst 0, 1) := by decide +kernel
theorem dX4_isSame_83 : decode cX4_isSame 83 = .ok (.ireturn, 1) := by decide +kernel
theorem dX4_isSame_84 : decode cX4_isSame 84 = .ok (.iconst (-1), 1) := by decide +kernel
theorem dX4_isSame_85 : decode cX4_isSame 85 = .ok (.istore_n 3, 1) := by decide +kernel
theorem dX4_isSame_86 : decode cX4_isSame 86 = .ok (.iconst 0, 1) := by decide +kernel
theorem dX4_isSame_87 : decode cX4_isSame 87 = .ok (.istore 4, 2) := by decide +kernel
theorem dX4_isSame_89 : decode cX4_isSame 89 = .ok (.iload 4, 2) := by decide +kernel
theorem dX4_isSame_91 : decode cX4_isSame 91 = .ok (.iload_n 2, 1) := by decide +kernel
theorem dX4_isSame_92 : decode cX4_isSame 92 = .ok (.if_icmp .ge 146, 3) := by decide +kernel
theorem dX4_isSame_95 : decode cX4_isSame 95 = .ok (.iconst 0, 1) := by decide +kernel
theorem dX4_isSame_96 : decode cX4_isSame 96 = .ok (.istore 5, 2) := by decide +kernel
theorem dX4_isSame_98 : decode cX4_isSame 98 = .ok (.aload_n 0, 1) := by decide +kernel
theorem dX4_isSame_99 : decode cX4_isSame 99 = .ok (.getfield 14, 3) := by decide +kernel
theorem dX4_isSame_102 : decode cX4_isSame 102 = .ok (.astore 6, 2) := by decide +kernel
theorem dX4_isSame_104 : decode cX4_isSame 104 = .ok (.aload 6, 2) := by decide +kernel
theorem dX4_isSame_106 : decode cX4_isSame 106 = .ok (.arraylength, 1) := by decide +kernel
theorem dX4_isSame_107 : decode cX4_isSame 107 = .ok (.istore 7, 2) := by decide +kernel
theorem dX4_isSame_109 : decode cX4_isSame 109 = .ok (.iconst 0, 1) := by decide +kernel
theorem dX4_isSame_110 : decode cX4_isSame 110 = .ok (.istore 8, 2) := by decide +kernel
theorem dX4_isSame_112 : decode cX4_isSame 112 = .ok (.iload 8, 2) := by decide +kernel
theorem dX4_isSame_114 : decode cX4_isSame 114 = .ok (.iload 7, 2) := by decide +kernel
theorem dX4_isSame_116 : decode cX4_isSame 116 = .ok (.if_icmp .ge 35, 3) := by decide +kernel
theorem dX4_isSame_119 : decode cX4_isSame 119 = .ok (.aload 6, 2) := by decide +kernel
theorem dX4_isSame_121 : decode cX4_isSame 121 = .ok (.iload 8, 2) := by decide +kernel
theorem dX4_isSame_123 : decode cX4_isSame 123 = .ok (.aaload, 1) := by decide +kernel
theorem dX4_isSame_124 : decode cX4_isSame 124 = .ok (.astore 9, 2) := by decide +kernel
theorem dX4_isSame_126 : decode cX4_isSame 126 = .ok (.aload 9, 2) := by decide +kernel
theorem dX4_isSame_128 : decode cX4_isSame 128 = .ok (.iconst 0, 1) := by decide +kernel
theorem dX4_isSame_129 : decode cX4_isSame 129 = .ok (.iaload, 1) := by decide +kernel
theorem dX4_isSame_130 : decode cX4_isSame 130 = .ok (.iload 4, 2) := by decide +kernel
theorem dX4_isSame_132 : decode cX4_isSame 132 = .ok (.if_icmp .ne 13, 3) := by decide +kernel
theorem dX4_isSame_135 : decode cX4_isSame 135 = .ok (.aload 9, 2) := by decide +kernel
theorem dX4_isSame_137 : decode cX4_isSame 137 = .ok (.iconst 2, 1) := by decide +kernel
theorem dX4_isSame_138 : decode cX4_isSame 138 = .ok (.iaload, 1) := by decide +kernel
theorem dX4_isSame_139 : decode cX4_isSame 139 = .ok (.ifCond .ne 6, 3) := by decide +kernel
theorem dX4_isSame_142 : decode cX4_isSame 142 = .ok (.iinc 5 1, 3) := by decide +kernel
theorem dX4_isSame_145 : decode cX4_isSame 145 = .ok (.iinc 8 1, 3) := by decide +kernel
theorem dX4_isSame_148 : decode cX4_isSame 148 = .ok (.goto (-36), 3) := by decide +kernel
theorem dX4_isSame_151 : decode cX4_isSame 151 = .ok (.iload_n 3, 1) := by decide +kernel
theorem dX4_isSame_152 : decode cX4_isSame 152 = .ok (.ifCond .lt 19, 3) := by decide +kernel
theorem dX4_isSame_155 : decode cX4_isSame 155 = .ok (.aload_n 0, 1) := by decide +kernel
theorem dX4_isSame_156 : decode cX4_isSame 156 = .ok (.iload 4, 2) := by decide +kernel
theorem dX4_isSame_158 : decode cX4_isSame 158 = .ok (.iconst 0, 1) := by decide +kernel
theorem dX4_isSame_159 : decode cX4_isSame 159 = .ok (.invokevirtual 25, 3) := by decide +kernel
theorem dX4_isSame_162 : decode cX4_isSame 162 = .ok (.aload_n 0, 1) := by decide +kernel
theorem dX4_isSame_163 : decode cX4_isSame 163 = .ok (.iload_n 3, 1) := by decide +kernel
theorem dX4_isSame_164 : decode cX4_isSame 164 = .ok (.iconst 0, 1) := by decide +kernel
theorem dX4_isSame_165 : decode cX4_isSame 165 = .ok (.invokevirtual 25, 3) := by decide +kernel
theorem dX4_isSame_168 : decode cX4_isSame 168 = .ok (.if_icmp .le 6, 3) := by decide +kernel
theorem dX4_isSame_171 : decode cX4_isSame 171 = .ok (.iload 4, 2) := by decide +kernel
theorem dX4_isSame_173 : decode cX4_isSame 173 = .ok (.istore_n 3, 1) := by decide +kernel
theorem dX4_isSame_174 : decode cX4_isSame 174 = .ok (.aload_n 1, 1) := by decide +kernel
theorem dX4_isSame_175 : decode cX4_isSame 175 = .ok (.iload 4, 2) := by decide +kernel
theorem dX4_isSame_177 : decode cX4_isSame 177 = .ok (.invokevirtual 84, 3) := by decide +kernel
theorem dX4_isSame_180 : decode cX4_isSame 180 = .ok (.aload_n 0, 1) := by decide +kernel
theorem dX4_isSame_181 : decode cX4_isSame 181 = .ok (.getfield 7, 3) := by decide +kernel
theorem dX4_isSame_184 : decode cX4_isSame 184 = .ok (.iload 4, 2) := by decide +kernel
theorem dX4_isSame_186 : decode cX4_isSame 186 = .ok (.iaload, 1) := by decide +kernel
theorem dX4_isSame_187 : decode cX4_isSame 187 = .ok (.if_icmp .ne 43, 3) := by decide +kernel
theorem dX4_isSame_190 : decode cX4_isSame 190 = .ok (.aload_n 1, 1) := by decide +kernel
theorem dX4_isSame_191 : decode cX4_isSame 191 = .ok (.iload 4, 2) := by decide +kernel
theorem dX4_isSame_193 : decode cX4_isSame 193 = .ok (.invokevirtual 87, 3) := by decide +kernel
theorem dX4_isSame_196 : decode cX4_isSame 196 = .ok (.iload 5, 2) := by decide +kernel
theorem dX4_isSame_198 : decode cX4_isSame 198 = .ok (.if_icmp .ne 32, 3) := by decide +kernel
theorem dX4_isSame_201 : decode cX4_isSame 201 = .ok (.aload_n 1, 1) := by decide +kernel
theorem dX4_isSame_202 : decode cX4_isSame 202 = .ok (.iload 4, 2) := by decide +kernel
theorem dX4_isSame_204 : decode cX4_isSame 204 = .ok (.aload_n 0, 1) := by decide +kernel
theorem dX4_isSame_205 : decode cX4_isSame 205 = .ok (.getfield 48, 3) := by decide +kernel
theorem dX4_isSame_208 : decode cX4_isSame 208 = .ok (.bipush 10, 2) := by decide +kernel
theorem dX4_isSame_210 : decode cX4_isSame 210 = .ok (.irem, 1) := by decide +kernel
theorem dX4_isSame_211 : decode cX4_isSame 211 = .ok (.invokevirtual 90, 3) := by decide +kernel
theorem dX4_isSame_214 : decode cX4_isSame 214 = .ok (.aload_n 0, 1) := by decide +kernel
theorem dX4_isSame_215 : decode cX4_isSame 215 = .ok (.iload 4, 2) := by decide +kernel
theorem dX4_isSame_217 : decode cX4_isSame 217 = .ok (.aload_n 0, 1) := by decide +kernel
theorem dX4_isSame_218 : decode cX4_isSame 218 = .ok (.getfield 48, 3) := by decide +kernel
theorem dX4_isSame_221 : decode cX4_isSame 221 = .ok (.bipush 10, 2) := by decide +kernel
theorem dX4_isSame_223 : decode cX4_isSame 223 = .ok (.irem, 1) := by decide +kernel
theorem dX4_isSame_224 : decode cX4_isSame 224 = .ok (.invokevirtual 25, 3) := by decide +kernel
theorem dX4_isSame_227 : decode cX4_isSame 227 = .ok (.if_icmp .eq 5, 3) := by decide +kernel
theorem dX4_isSame_230 : decode cX4_isSame 230 = .ok (.iconst 0, 1) := by decide +kernel
theorem dX4_isSame_231 : decode cX4_isSame 231 = .ok (.ireturn, 1) := by decide +kernel
theorem dX4_isSame_232 : decode cX4_isSame 232 = .ok (.iinc 4 1, 3) := by decide +kernel
theorem dX4_isSame_235 : decode cX4_isSame 235 = .ok (.goto (-146), 3) := by decide +kernel
theorem dX4_isSame_238 : decode cX4_isSame 238 = .ok (.iconst 0, 1) := by decide +kernel
theorem dX4_isSame_239 : decode cX4_isSame 239 = .ok (.istore 4, 2) := by decide +kernel
theorem dX4_isSame_241 : decode cX4_isSame 241 = .ok (.iconst 0, 1) := by decide +kernel
theorem dX4_isSame_242 : decode cX4_isSame 242 = .ok (.istore 5, 2) := by decide +kernel
theorem dX4_isSame_244 : decode cX4_isSame 244 = .ok (.iload 5, 2) := by decide +kernel
theorem dX4_isSame_246 : decode cX4_isSame 246 = .ok (.aload_n 0, 1) := by decide +kernel
theorem dX4_isSame_247 : decode cX4_isSame 247 = .ok (.getfield 14, 3) := by decide +kernel
theorem dX4_isSame_250 : decode cX4_isSame 250 = .ok (.arraylength, 1) := by decide +kernel
theorem dX4_isSame_251 : decode cX4_isSame 251 = .ok (.if_icmp .ge 81, 3) := by decide +kernel
theorem dX4_isSame_254 : decode cX4_isSame 254 = .ok (.aload_n 0, 1) := by decide +kernel
theorem dX4_isSame_255 : decode cX4_isSame 255 = .ok (.getfield 14, 3) := by decide +kernel
theorem dX4_isSame_258 : decode cX4_isSame 258 = .ok (.iload 5, 2) := by decide +kernel
theorem dX4_isSame_260 : decode cX4_isSame 260 = .ok (.aaload, 1) := by decide +kernel
theorem dX4_isSame_261 : decode cX4_isSame 261 = .ok (.astore 6, 2) := by decide +kernel
theorem dX4_isSame_263 : decode cX4_isSame 263 = .ok (.iload 4, 2) := by decide +kernel
theorem dX4_isSame_265 : decode cX4_isSame 265 = .ok (.aload 6, 2) := by decide +kernel
theorem dX4_isSame_267 : decode cX4_isSame 267 = .ok (.iconst 1, 1) := by decide +kernel
theorem dX4_isSame_268 : decode cX4_isSame 268 = .ok (.iaload, 1) := by decide +kernel
theorem dX4_isSame_269 : decode cX4_isSame 269 = .ok (.iadd, 1) := by decide +kernel
theorem dX4_isSame_270 : decode cX4_isSame 270 = .ok (.istore 4, 2) := by decide +kernel
theorem dX4_isSame_272 : decode cX4_isSame 272 = .ok (.aload_n 1, 1) := by decide +kernel
theorem dX4_isSame_273 : decode cX4_isSame 273 = .ok (.iload 5, 2) := by decide +kernel
theorem dX4_isSame_275 : decode cX4_isSame 275 = .ok (.invokevirtual 93, 3) := by decide +kernel
theorem dX4_isSame_278 : decode cX4_isSame 278 = .ok (.aload 6, 2) := by decide +kernel
theorem dX4_isSame_280 : decode cX4_isSame 280 = .ok (.iconst 0, 1) := by decide +kernel
theorem dX4_isSame_281 : decode cX4_isSame 281 = .ok (.iaload, 1) := by decide +kernel
theorem dX4_isSame_282 : decode cX4_isSame 282 = .ok (.if_icmp .ne 42, 3) := by decide +kernel
theorem dX4_isSame_285 : decode cX4_isSame 285 = .ok (.aload_n 1, 1) := by decide +kernel
theorem dX4_isSame_286 : decode cX4_isSame 286 = .ok (.iload 5, 2) := by decide +kernel
theorem dX4_isSame_288 : decode cX4_isSame 288 = .ok (.invokevirtual 96, 3) := by decide +kernel
theorem dX4_isSame_291 : decode cX4_isSame 291 = .ok (.aload 6, 2) := by decide +kernel
theorem dX4_isSame_293 : decode cX4_isSame 293 = .ok (.iconst 1, 1) := by decide +kernel
theorem dX4_isSame_294 : decode cX4_isSame 294 = .ok (.iaload, 1) := by decide +kernel
theorem dX4_isSame_295 : decode cX4_isSame 295 = .ok (.if_icmp .ne 29, 3) := by decide +kernel
theorem dX4_isSame_298 : decode cX4_isSame 298 = .ok (.aload_n 1, 1) := by decide +kernel
theorem dX4_isSame_299 : decode cX4_isSame 299 = .ok (.iload 5, 2) := by decide +kernel
theorem dX4_isSame_301 : decode cX4_isSame 301 = .ok (.invokevirtual 99, 3) := by decide +kernel
theorem dX4_isSame_304 : decode cX4_isSame 304 = .ok (.aload 6, 2) := by decide +kernel
theorem dX4_isSame_306 : decode cX4_isSame 306 = .ok (.iconst 2, 1) := by decide +kernel
theorem dX4_isSame_307 : decode cX4_isSame 307 = .ok (.iaload, 1) := by decide +kernel
theorem dX4_isSame_308 : decode cX4_isSame 308 = .ok (.if_icmp .ne 16, 3) := by decide +kernel
theorem dX4_isSame_311 : decode cX4_isSame 311 = .ok (.aload_n 1, 1) := by decide +kernel
theorem dX4_isSame_312 : decode cX4_isSame 312 = .ok (.iload 5, 2) := by decide +kernel
theorem dX4_isSame_314 : decode cX4_isSame 314 = .ok (.invokevirtual 102, 3) := by decide +kernel
theorem dX4_isSame_317 : decode cX4_isSame 317 = .ok (.aload 6, 2) := by decide +kernel
theorem dX4_isSame_319 : decode cX4_isSame 319 = .ok (.iconst 3, 1) := by decide +kernel
theorem dX4_isSame_320 : decode cX4_isSame 320 = .ok (.iaload, 1) := by decide +kernel
theorem dX4_isSame_321 : decode cX4_isSame 321 = .ok (.if_icmp .eq 5, 3) := by decide +kernel
theorem dX4_isSame_324 : decode cX4_isSame 324 = .ok (.iconst 0, 1) := by decide +kernel
theorem dX4_isSame_325 : decode cX4_isSame 325 = .ok (.ireturn, 1) := by decide +kernel
theorem dX4_isSame_326 : decode cX4_isSame 326 = .ok (.iinc 5 1, 3) := by decide +kernel
theorem dX4_isSame_329 : decode cX4_isSame 329 = .ok (.goto (-85), 3) := by decide +kernel
theorem dX4_isSame_332 : decode cX4_isSame 332 = .ok (.iconst 0, 1) := by decide +kernel
theorem dX4_isSame_333 : decode cX4_isSame 333 = .ok (.istore 5, 2) := by decide +kernel
theorem dX4_isSame_335 : decode cX4_isSame 335 = .ok (.iload 5, 2) := by decide +kernel
theorem dX4_isSame_337 : decode cX4_isSame 337 = .ok (.aload_n 0, 1) := by decide +kernel
theorem dX4_isSame_338 : decode cX4_isSame 338 = .ok (.getfield 18, 3) := by decide +kernel
theorem dX4_isSame_341 : decode cX4_isSame 341 = .ok (.arraylength, 1) := by decide +kernel
theorem dX4_isSame_342 : decode cX4_isSame 342 = .ok (.if_icmp .ge 152, 3) := by decide +kernel
theorem dX4_isSame_345 : decode cX4_isSame 345 = .ok (.aload_n 0, 1) := by decide +kernel
theorem dX4_isSame_346 : decode cX4_isSame 346 = .ok (.getfield 18, 3) := by decide +kernel
theorem dX4_isSame_349 : decode cX4_isSame 349 = .ok (.iload 5, 2) := by decide +kernel
theorem dX4_isSame_351 : decode cX4_isSame 351 = .ok (.aaload, 1) := by decide +kernel
theorem dX4_isSame_352 : decode cX4_isSame 352 = .ok (.astore 6, 2) := by decide +kernel
theorem dX4_isSame_354 : decode cX4_isSame 354 = .ok (.aload_n 0, 1) := by decide +kernel
theorem dX4_isSame_355 : decode cX4_isSame 355 = .ok (.aload 6, 2) := by decide +kernel
theorem dX4_isSame_357 : decode cX4_isSame 357 = .ok (.invokevirtual 33, 3) := by decide +kernel
theorem dX4_isSame_360 : decode cX4_isSame 360 = .ok (.istore 7, 2) := by decide +kernel
theorem dX4_isSame_362 : decode cX4_isSame 362 = .ok (.aload_n 1, 1) := by decide +kernel
theorem dX4_isSame_363 : decode cX4_isSame 363 = .ok (.iload 5, 2) := by decide +kernel
theorem dX4_isSame_365 : decode cX4_isSame 365 = .ok (.invokevirtual 105, 3) := by decide +kernel
theorem dX4_isSame_368 : decode cX4_isSame 368 = .ok (.aload 6, 2) := by decide +kernel
theorem dX4_isSame_370 : decode cX4_isSame 370 = .ok (.iconst 3, 1) := by decide +kernel
theorem dX4_isSame_371 : decode cX4_isSame 371 = .ok (.iaload, 1) := by decide +kernel
theorem dX4_isSame_372 : decode cX4_isSame 372 = .ok (.if_icmp .ne 114, 3) := by decide +kernel
theorem dX4_isSame_375 : decode cX4_isSame 375 = .ok (.aload_n 1, 1) := by decide +kernel
theorem dX4_isSame_376 : decode cX4_isSame 376 = .ok (.iload 5, 2) := by decide +kernel
theorem dX4_isSame_378 : decode cX4_isSame 378 = .ok (.invokevirtual 108, 3) := by decide +kernel
theorem dX4_isSame_381 : decode cX4_isSame 381 = .ok (.aload_n 0, 1) := by decide +kernel
theorem dX4_isSame_382 : decode cX4_isSame 382 = .ok (.aload 6, 2) := by decide +kernel
theorem dX4_isSame_384 : decode cX4_isSame 384 = .ok (.invokevirtual 21, 3) := by decide +kernel
theorem dX4_isSame_387 : decode cX4_isSame 387 = .ok (.if_icmp .ne 99, 3) := by decide +kernel
theorem dX4_isSame_390 : decode cX4_isSame 390 = .ok (.aload_n 1, 1) := by decide +kernel
theorem dX4_isSame_391 : decode cX4_isSame 391 = .ok (.iload 5, 2) := by decide +kernel
theorem dX4_isSame_393 : decode cX4_isSame 393 = .ok (.invokevirtual 112, 3) := by decide +kernel
theorem dX4_isSame_396 : decode cX4_isSame 396 = .ok (.aload 6, 2) := by decide +kernel
theorem dX4_isSame_398 : decode cX4_isSame 398 = .ok (.iconst 2, 1) := by decide +kernel
theorem dX4_isSame_399 : decode cX4_isSame 399 = .ok (.iaload, 1) := by decide +kernel
theorem dX4_isSame_400 : decode cX4_isSame 400 = .ok (.if_icmp .ne 86, 3) := by decide +kernel
theorem dX4_isSame_403 : decode cX4_isSame 403 = .ok (.aload_n 1, 1) := by decide +kernel
theorem dX4_isSame_404 : decode cX4_isSame 404 = .ok (.iload 5, 2) := by decide +kernel
theorem dX4_isSame_406 : decode cX4_isSame 406 = .ok (.invokevirtual 115, 3) := by decide +kernel
theorem dX4_isSame_409 : decode cX4_isSame 409 = .ok (.aload 6, 2) := by decide +kernel
theorem dX4_isSame_411 : decode cX4_isSame 411 = .ok (.iconst 1, 1) := by decide +kernel
theorem dX4_isSame_412 : decode cX4_isSame 412 = .ok (.iaload, 1) := by decide +kernel
theorem dX4_isSame_413 : decode cX4_isSame 413 = .ok (.if_icmp .ne 73, 3) := by decide +kernel
theorem dX4_isSame_416 : decode cX4_isSame 416 = .ok (.aload_n 1, 1) := by decide +kernel
theorem dX4_isSame_417 : decode cX4_isSame 417 = .ok (.iload 5, 2) := by decide +kernel
theorem dX4_isSame_419 : decode cX4_isSame 419 = .ok (.invokevirtual 118, 3) := by decide +kernel
theorem dX4_isSame_422 : decode cX4_isSame 422 = .ok (.aload 6, 2) := by decide +kernel
theorem dX4_isSame_424 : decode cX4_isSame 424 = .ok (.iconst 4, 1) := by decide +kernel
theorem dX4_isSame_425 : decode cX4_isSame 425 = .ok (.iaload, 1) := by decide +kernel
theorem dX4_isSame_426 : decode cX4_isSame 426 = .ok (.if_icmp .ne 60, 3) := by decide +kernel
theorem dX4_isSame_429 : decode cX4_isSame 429 = .ok (.aload_n 1, 1) := by decide +kernel
theorem dX4_isSame_430 : decode cX4_isSame 430 = .ok (.iload 5, 2) := by decide +kernel
theorem dX4_isSame_432 : decode cX4_isSame 432 = .ok (.invokevirtual 121, 3) := by decide +kernel
theorem dX4_isSame_435 : decode cX4_isSame 435 = .ok (.iload 7, 2) := by decide +kernel
theorem dX4_isSame_437 : decode cX4_isSame 437 = .ok (.if_icmp .ne 49, 3) := by decide +kernel
theorem dX4_isSame_440 : decode cX4_isSame 440 = .ok (.aload_n 1, 1) := by decide +kernel
theorem dX4_isSame_441 : decode cX4_isSame 441 = .ok (.iload 5, 2) := by decide +kernel
theorem dX4_isSame_443 : decode cX4_isSame 443 = .ok (.invokevirtual 123, 3) := by decide +kernel
theorem dX4_isSame_446 : decode cX4_isSame 446 = .ok (.iload 7, 2) := by decide +kernel
theorem dX4_isSame_448 : decode cX4_isSame 448 = .ok (.invokestatic 41, 3) := by decide +kernel
theorem dX4_isSame_451 : decode cX4_isSame 451 = .ok (.if_icmp .ne 35, 3) := by decide +kernel
theorem dX4_isSame_454 : decode cX4_isSame 454 = .ok (.aload_n 1, 1) := by decide +kernel
theorem dX4_isSame_455 : decode cX4_isSame 455 = .ok (.iload 5, 2) := by decide +kernel
theorem dX4_isSame_457 : decode cX4_isSame 457 = .ok (.invokevirtual 126, 3) := by decide +kernel
theorem dX4_isSame_460 : decode cX4_isSame 460 = .ok (.aload_n 0, 1) := by decide +kernel
theorem dX4_isSame_461 : decode cX4_isSame 461 = .ok (.aload 6, 2) := by decide +kernel
theorem dX4_isSame_463 : decode cX4_isSame 463 = .ok (.invokevirtual 21, 3) := by decide +kernel
theorem dX4_isSame_466 : decode cX4_isSame 466 = .ok (.ifCond .ne 16, 3) := by decide +kernel
theorem dX4_isSame_469 : decode cX4_isSame 469 = .ok (.iload 7, 2) := by decide +kernel
theorem dX4_isSame_471 : decode cX4_isSame 471 = .ok (.aload 6, 2) := by decide +kernel
theorem dX4_isSame_473 : decode cX4_isSame 473 = .ok (.iconst 1, 1) := by decide +kernel
theorem dX4_isSame_474 : decode cX4_isSame 474 = .ok (.iaload, 1) := by decide +kernel
theorem dX4_isSame_475 : decode cX4_isSame 475 = .ok (.if_icmp .gt 7, 3) := by decide +kernel
theorem dX4_isSame_478 : decode cX4_isSame 478 = .ok (.iconst 1, 1) := by decide +kernel
theorem dX4_isSame_479 : decode cX4_isSame 479 = .ok (.goto 4, 3) := by decide +kernel
theorem dX4_isSame_482 : decode cX4_isSame 482 = .ok (.iconst 0, 1) := by decide +kernel
theorem dX4_isSame_483 : decode cX4_isSame 483 = .ok (.if_icmp .eq 5, 3) := by decide +kernel
theorem dX4_isSame_486 : decode cX4_isSame 486 = .ok (.iconst 0, 1) := by decide +kernel
theorem dX4_isSame_487 : decode cX4_isSame 487 = .ok (.ireturn, 1) := by decide +kernel
theorem dX4_isSame_488 : decode cX4_isSame 488 = .ok (.iinc 5 1, 3) := by decide +kernel
theorem dX4_isSame_491 : decode cX4_isSame 491 = .ok (.goto (-156), 3) := by decide +kernel
theorem dX4_isSame_494 : decode cX4_isSame 494 = .ok (.aload_n 1, 1) := by decide +kernel
theorem dX4_isSame_495 : decode cX4_isSame 495 = .ok (.invokevirtual 129, 3) := by decide +kernel
theorem dX4_isSame_498 : decode cX4_isSame 498 = .ok (.iload_n 3, 1) := by decide +kernel
theorem dX4_isSame_499 : decode cX4_isSame 499 = .ok (.if_icmp .ne 37, 3) := by decide +kernel
theorem dX4_isSame_502 : decode cX4_isSame 502 = .ok (.aload_n 1, 1) := by decide +kernel
theorem dX4_isSame_503 : decode cX4_isSame 503 = .ok (.invokevirtual 132, 3) := by decide +kernel
theorem dX4_isSame_506 : decode cX4_isSame 506 = .ok (.aload_n 0, 1) := by decide +kernel
theorem dX4_isSame_507 : decode cX4_isSame 507 = .ok (.getfield 14, 3) := by decide +kernel
theorem dX4_isSame_510 : decode cX4_isSame 510 = .ok (.arraylength, 1) := by decide +kernel
theorem dX4_isSame_511 : decode cX4_isSame 511 = .ok (.ifCond .ne 7, 3) := by decide +kernel
theorem dX4_isSame_514 : decode cX4_isSame 514 = .ok (.dconst 0, 1) := by decide +kernel
theorem dX4_isSame_515 : decode cX4_isSame 515 = .ok (.goto 13, 3) := by decide +kernel
theorem dX4_isSame_518 : decode cX4_isSame 518 = .ok (.iload 4, 2) := by decide +kernel
theorem dX4_isSame_520 : decode cX4_isSame 520 = .ok (.i2d, 1) := by decide +kernel
theorem dX4_isSame_521 : decode cX4_isSame 521 = .ok (.aload_n 0, 1) := by decide +kernel
theorem dX4_isSame_522 : decode cX4_isSame 522 = .ok (.getfield 14, 3) := by decide +kernel
theorem dX4_isSame_525 : decode cX4_isSame 525 = .ok (.arraylength, 1) := by decide +kernel
theorem dX4_isSame_526 : decode cX4_isSame 526 = .ok (.i2d, 1) := by decide +kernel
theorem dX4_isSame_527 : decode cX4_isSame 527 = .ok (.ddiv, 1) := by decide +kernel
theorem dX4_isSame_528 : decode cX4_isSame 528 = .ok (.dcmp .l, 1) := by decide +kernel
theorem dX4_isSame_529 : decode cX4_isSame 529 = .ok (.ifCond .ne 7, 3) := by decide +kernel
theorem dX4_isSame_532 : decode cX4_isSame 532 = .ok (.iconst 1, 1) := by decide +kernel
theorem dX4_isSame_533 : decode cX4_isSame 533 = .ok (.goto 4, 3) := by decide +kernel
theorem dX4_isSame_536 : decode cX4_isSame 536 = .ok (.iconst 0, 1) := by decide +kernel
theorem dX4_isSame_537 : decode cX4_isSame 537 = .ok (.ireturn, 1) := by decide +kernel
end
section
theorem dL_below_0 : decode cL_below 0 = .ok (.iload_n 0, 1) := by decide +kernel
theorem dL_below_1 : decode cL_below 1 = .ok (.ldc 7, 2) := by decide +kernel
theorem dL_below_3 : decode cL_below 3 = .ok (.iand, 1) := by decide +kernel
theorem dL_below_4 : decode cL_below 4 = .ok (.iload_n 1, 1) := by decide +kernel
theorem dL_below_5 : decode cL_below 5 = .ok (.irem, 1) := by decide +kernel
theorem dL_below_6 : decode cL_below 6 = .ok (.ireturn, 1) := by decide +kernel
theorem dL_cell_0 : decode cL_cell 0 = .ok (.iload_n 1, 1) := by decide +kernel
theorem dL_cell_1 : decode cL_cell 1 = .ok (.aload_n 0, 1) := by decide +kernel
theorem dL_cell_2 : decode cL_cell 2 = .ok (.arraylength, 1) := by decide +kernel
theorem dL_cell_3 : decode cL_cell 3 = .ok (.if_icmp .ge 9, 3) := by decide +kernel
theorem dL_cell_6 : decode cL_cell 6 = .ok (.aload_n 0, 1) := by decide +kernel
theorem dL_cell_7 : decode cL_cell 7 = .ok (.iload_n 1, 1) := by decide +kernel
theorem dL_cell_8 : decode cL_cell 8 = .ok (.iaload, 1) := by decide +kernel
theorem dL_cell_9 : decode cL_cell 9 = .ok (.goto 9, 3) := by decide +kernel
theorem dL_cell_12 : decode cL_cell 12 = .ok (.ldc 8, 2) := by decide +kernel
theorem dL_cell_14 : decode cL_cell 14 = .ok (.iload_n 1, 1) := by decide +kernel
theorem dL_cell_15 : decode cL_cell 15 = .ok (.iconst 3, 1) := by decide +kernel
theorem dL_cell_16 : decode cL_cell 16 = .ok (.iadd, 1) := by decide +kernel
theorem dL_cell_17 : decode cL_cell 17 = .ok (.imul, 1) := by decide +kernel
theorem dL_cell_18 : decode cL_cell 18 = .ok (.ireturn, 1) := by decide +kernel
theorem dL_act_0 : decode cL_act 0 = .ok (.aload_n 1, 1) := by decide +kernel
theorem dL_act_1 : decode cL_act 1 = .ok (.getfield 9, 3) := by decide +kernel
theorem dL_act_4 : decode cL_act 4 = .ok (.arraylength, 1) := by decide +kernel
theorem dL_act_5 : decode cL_act 5 = .ok (.istore_n 3, 1) := by decide +kernel
theorem dL_act_6 : decode cL_act 6 = .ok (.aload_n 1, 1) := by decide +kernel
theorem dL_act_7 : decode cL_act 7 = .ok (.getfield 15, 3) := by decide +kernel
theorem dL_act_10 : decode cL_act 10 = .ok (.arraylength, 1) := by decide +kernel
theorem dL_act_11 : decode cL_act 11 = .ok (.istore 4, 2) := by decide +kernel
theorem dL_act_13 : decode cL_act 13 = .ok (.aload_n 1, 1) := by decide +kernel
theorem dL_act_14 : decode cL_act 14 = .ok (.getfield 19, 3) := by decide +kernel
theorem dL_act_17 : decode cL_act 17 = .ok (.arraylength, 1) := by decide +kernel
theorem dL_act_18 : decode cL_act 18 = .ok (.istore 5, 2) := by decide +kernel
theorem dL_act_20 : decode cL_act 20 = .ok (.iload_n 2, 1) := by decide +kernel
theorem dL_act_21 : decode cL_act 21 = .ok (.bipush 9, 2) := by decide +kernel
theorem dL_act_23 : decode cL_act 23 = .ok (.ishr, 1) := by decide +kernel
theorem dL_act_24 : decode cL_act 24 = .ok (.bipush 18, 2) := by decide +kernel
theorem dL_act_26 : decode cL_act 26 = .ok (.invokestatic 22, 3) := by decide +kernel
theorem dL_act_29 : decode cL_act 29 = .ok (.istore 6, 2) := by decide +kernel
theorem dL_act_31 : decode cL_act 31 = .ok (.iload_n 3, 1) := by decide +kernel
theorem dL_act_32 : decode cL_act 32 = .ok (.ifCond .eq 8, 3) := by decide +kernel
theorem dL_act_35 : decode cL_act 35 = .ok (.iload 6, 2) := by decide +kernel
theorem dL_act_37 : decode cL_act 37 = .ok (.ifCond .ne 50, 3) := by decide +kernel
theorem dL_act_40 : decode cL_act 40 = .ok (.iload_n 3, 1) := by decide +kernel
theorem dL_act_41 : decode cL_act 41 = .ok (.bipush 6, 2) := by decide +kernel
theorem dL_act_43 : decode cL_act 43 = .ok (.if_icmp .eq 8, 3) := by decide +kernel
theorem dL_act_46 : decode cL_act 46 = .ok (.iload 5, 2) := by decide +kernel
theorem dL_act_48 : decode cL_act 48 = .ok (.ifCond .le 5, 3) := by decide +kernel
theorem dL_act_51 : decode cL_act 51 = .ok (.iconst 1, 1) := by decide +kernel
theorem dL_act_52 : decode cL_act 52 = .ok (.ireturn, 1) := by decide +kernel
theorem dL_act_53 : decode cL_act 53 = .ok (.aload_n 1, 1) := by decide +kernel
theorem dL_act_54 : decode cL_act 54 = .ok (.iload_n 2, 1) := by decide +kernel
theorem dL_act_55 : decode cL_act 55 = .ok (.iconst 2, 1) := by decide +kernel
theorem dL_act_56 : decode cL_act 56 = .ok (.ishr, 1) := by decide +kernel
theorem dL_act_57 : decode cL_act 57 = .ok (.bipush 10, 2) := by decide +kernel
theorem dL_act_59 : decode cL_act 59 = .ok (.invokestatic 22, 3) := by decide +kernel
theorem dL_act_62 : decode cL_act 62 = .ok (.invokevirtual 28, 3) := by decide +kernel
theorem dL_act_65 : decode cL_act 65 = .ok (.aload_n 0, 1) := by decide +kernel
theorem dL_act_66 : decode cL_act 66 = .ok (.iload_n 2, 1) := by decide +kernel
theorem dL_act_67 : decode cL_act 67 = .ok (.iconst 2, 1) := by decide +kernel
theorem dL_act_68 : decode cL_act 68 = .ok (.ishr, 1) := by decide +kernel
theorem dL_act_69 : decode cL_act 69 = .ok (.bipush 10, 2) := by decide +kernel
theorem dL_act_71 : decode cL_act 71 = .ok (.invokestatic 22, 3) := by decide +kernel
theorem dL_act_74 : decode cL_act 74 = .ok (.invokevirtual 32, 3) := by decide +kernel
theorem dL_act_77 : decode cL_act 77 = .ok (.iload_n 3, 1) := by decide +kernel
theorem dL_act_78 : decode cL_act 78 = .ok (.if_icmp .ne 7, 3) := by decide +kernel
theorem dL_act_81 : decode cL_act 81 = .ok (.iconst 1, 1) := by decide +kernel
theorem dL_act_82 : decode cL_act 82 = .ok (.goto 4, 3) := by decide +kernel
theorem dL_act_85 : decode cL_act 85 = .ok (.iconst 0, 1) := by decide +kernel
theorem dL_act_86 : decode cL_act 86 = .ok (.ireturn, 1) := by decide +kernel
theorem dL_act_87 : decode cL_act 87 = .ok (.iload_n 2, 1) := by decide +kernel
theorem dL_act_88 : decode cL_act 88 = .ok (.iconst 1, 1) := by decide +kernel
theorem dL_act_89 : decode cL_act 89 = .ok (.ishr, 1) := by decide +kernel
theorem dL_act_90 : decode cL_act 90 = .ok (.iload_n 3, 1) := by decide +kernel
theorem dL_act_91 : decode cL_act 91 = .ok (.invokestatic 22, 3) := by decide +kernel
theorem dL_act_94 : decode cL_act 94 = .ok (.istore 7, 2) := by decide +kernel
theorem dL_act_96 : decode cL_act 96 = .ok (.iload 4, 2) := by decide +kernel
theorem dL_act_98 : decode cL_act 98 = .ok (.ifCond .eq 9, 3) := by decide +kernel
theorem dL_act_101 : decode cL_act 101 = .ok (.iload 6, 2) := by decide +kernel
theorem dL_act_103 : decode cL_act 103 = .ok (.iconst 4, 1) := by decide +kernel
theorem dL_act_104 : decode cL_act 104 = .ok (.if_icmp .ge 79, 3) := by decide +kernel
theorem dL_act_107 : decode cL_act 107 = .ok (.iload 4, 2) := by decide +kernel
theorem dL_act_109 : decode cL_act 109 = .ok (.bipush 8, 2) := by decide +kernel
theorem dL_act_111 : decode cL_act 111 = .ok (.if_icmp .ne 5, 3) := by decide +kernel
theorem dL_act_114 : decode cL_act 114 = .ok (.iconst 1, 1) := by decide +kernel
theorem dL_act_115 : decode cL_act 115 = .ok (.ireturn, 1) := by decide +kernel
theorem dL_act_116 : decode cL_act 116 = .ok (.aload_n 1, 1) := by decide +kernel
theorem dL_act_117 : decode cL_act 117 = .ok (.aload_n 1, 1) := by decide +kernel
theorem dL_act_118 : decode cL_act 118 = .ok (.getfield 15, 3) := by decide +kernel
theorem dL_act_121 : decode cL_act 121 = .ok (.iconst 4, 1) := by decide +kernel
theorem dL_act_122 : decode cL_act 122 = .ok (.newarray .int, 2) := by decide +kernel
theorem dL_act_124 : decode cL_act 124 = .ok (.dup, 1) := by decide +kernel
theorem dL_act_125 : decode cL_act 125 = .ok (.iconst 0, 1) := by decide +kernel
theorem dL_act_126 : decode cL_act 126 = .ok (.iload 7, 2) := by decide +kernel
theorem dL_act_128 : decode cL_act 128 = .ok (.iastore, 1) := by decide +kernel
theorem dL_act_129 : decode cL_act 129 = .ok (.dup, 1) := by decide +kernel
theorem dL_act_130 : decode cL_act 130 = .ok (.iconst 1, 1) := by decide +kernel
theorem dL_act_131 : decode cL_act 131 = .ok (.iconst 1, 1) := by decide +kernel
theorem dL_act_132 : decode cL_act 132 = .ok (.iload_n 2, 1) := by decide +kernel
theorem dL_act_133 : decode cL_act 133 = .ok (.iconst 4, 1) := by decide +kernel
theorem dL_act_134 : decode cL_act 134 = .ok (.ishr, 1) := by decide +kernel
theorem dL_act_135 : decode cL_act 135 = .ok (.bipush 9, 2) := by decide +kernel
theorem dL_act_137 : decode cL_act 137 = .ok (.invokestatic 22, 3) := by decide +kernel
theorem dL_act_140 : decode cL_act 140 = .ok (.iadd, 1) := by decide +kernel
theorem dL_act_141 : decode cL_act 141 = .ok (.iastore, 1) := by decide +kernel
theorem dL_act_142 : decode cL_act 142 = .ok (.dup, 1) := by decide +kernel
theorem dL_act_143 : decode cL_act 143 = .ok (.iconst 2, 1) := by decide +kernel
theorem dL_act_144 : decode cL_act 144 = .ok (.iconst 0, 1) := by decide +kernel
theorem dL_act_145 : decode cL_act 145 = .ok (.iastore, 1) := by decide +kernel
theorem dL_act_146 : decode cL_act 146 = .ok (.dup, 1) := by decide +kernel
theorem dL_act_147 : decode cL_act 147 = .ok (.iconst 3, 1) := by decide +kernel
theorem dL_act_148 : decode cL_act 148 = .ok (.iconst 0, 1) := by decide +kernel
theorem dL_act_149 : decode cL_act 149 = .ok (.iastore, 1) := by decide +kernel
theorem dL_act_150 : decode cL_act 150 = .ok (.invokestatic 37, 3) := by decide +kernel
theorem dL_act_153 : decode cL_act 153 = .ok (.putfield 15, 3) := by decide +kernel
theorem dL_act_156 : decode cL_act 156 = .ok (.aload_n 0, 1) := by decide +kernel
theorem dL_act_157 : decode cL_act 157 = .ok (.iload 7, 2) := by decide +kernel
theorem dL_act_159 : decode cL_act 159 = .ok (.iconst 1, 1) := by decide +kernel
theorem dL_act_160 : decode cL_act 160 = .ok (.iload_n 2, 1) := by decide +kernel
theorem dL_act_161 : decode cL_act 161 = .ok (.iconst 4, 1) := by decide +kernel
theorem dL_act_162 : decode cL_act 162 = .ok (.ishr, 1) := by decide +kernel
theorem dL_act_163 : decode cL_act 163 = .ok (.bipush 9, 2) := by decide +kernel
theorem dL_act_165 : decode cL_act 165 = .ok (.invokestatic 22, 3) := by decide +kernel
theorem dL_act_168 : decode cL_act 168 = .ok (.iadd, 1) := by decide +kernel
theorem dL_act_169 : decode cL_act 169 = .ok (.invokevirtual 41, 3) := by decide +kernel
theorem dL_act_172 : decode cL_act 172 = .ok (.iload 4, 2) := by decide +kernel
theorem dL_act_174 : decode cL_act 174 = .ok (.if_icmp .ne 7, 3) := by decide +kernel
theorem dL_act_177 : decode cL_act 177 = .ok (.iconst 1, 1) := by decide +kernel
theorem dL_act_178 : decode cL_act 178 = .ok (.goto 4, 3) := by decide +kernel
theorem dL_act_181 : decode cL_act 181 = .ok (.iconst 0, 1) := by decide +kernel
theorem dL_act_182 : decode cL_act 182 = .ok (.ireturn, 1) := by decide +kernel
theorem dL_act_183 : decode cL_act 183 = .ok (.iload 5, 2) := by decide +kernel
theorem dL_act_185 : decode cL_act 185 = .ok (.ifCond .eq 10, 3) := by decide +kernel
theorem dL_act_188 : decode cL_act 188 = .ok (.iload 6, 2) := by decide +kernel
theorem dL_act_190 : decode cL_act 190 = .ok (.bipush 7, 2) := by decide +kernel
theorem dL_act_192 : decode cL_act 192 = .ok (.if_icmp .ge 111, 3) := by decide +kernel
theorem dL_act_195 : decode cL_act 195 = .ok (.iload 5, 2) := by decide +kernel
theorem dL_act_197 : decode cL_act 197 = .ok (.bipush 8, 2) := by decide +kernel
theorem dL_act_199 : decode cL_act 199 = .ok (.if_icmp .ne 5, 3) := by decide +kernel
theorem dL_act_202 : decode cL_act 202 = .ok (.iconst 1, 1) := by decide +kernel
theorem dL_act_203 : decode cL_act 203 = .ok (.ireturn, 1) := by decide +kernel
theorem dL_act_204 : decode cL_act 204 = .ok (.iconst 5, 1) := by decide +kernel
theorem dL_act_205 : decode cL_act 205 = .ok (.newarray .int, 2) := by decide +kernel
theorem dL_act_207 : decode cL_act 207 = .ok (.dup, 1) := by decide +kernel
theorem dL_act_208 : decode cL_act 208 = .ok (.iconst 0, 1) := by decide +kernel
theorem dL_act_209 : decode cL_act 209 = .ok (.iload_n 2, 1) := by decide +kernel
theorem dL_act_210 : decode cL_act 210 = .ok (.iconst 2, 1) := by decide +kernel
theorem dL_act_211 : decode cL_act 211 = .ok (.ishr, 1) := by decide +kernel
theorem dL_act_212 : decode cL_act 212 = .ok (.bipush 10, 2) := by decide +kernel
theorem dL_act_214 : decode cL_act 214 = .ok (.invokestatic 22, 3) := by decide +kernel
theorem dL_act_217 : decode cL_act 217 = .ok (.iastore, 1) := by decide +kernel
theorem dL_act_218 : decode cL_act 218 = .ok (.dup, 1) := by decide +kernel
theorem dL_act_219 : decode cL_act 219 = .ok (.iconst 1, 1) := by decide +kernel
theorem dL_act_220 : decode cL_act 220 = .ok (.iload_n 2, 1) := by decide +kernel
theorem dL_act_221 : decode cL_act 221 = .ok (.iconst 4, 1) := by decide +kernel
theorem dL_act_222 : decode cL_act 222 = .ok (.ishr, 1) := by decide +kernel
theorem dL_act_223 : decode cL_act 223 = .ok (.bipush 21, 2) := by decide +kernel
theorem dL_act_225 : decode cL_act 225 = .ok (.invokestatic 22, 3) := by decide +kernel
theorem dL_act_228 : decode cL_act 228 = .ok (.iastore, 1) := by decide +kernel
theorem dL_act_229 : decode cL_act 229 = .ok (.dup, 1) := by decide +kernel
theorem dL_act_230 : decode cL_act 230 = .ok (.iconst 2, 1) := by decide +kernel
theorem dL_act_231 : decode cL_act 231 = .ok (.iload_n 2, 1) := by decide +kernel
theorem dL_act_232 : decode cL_act 232 = .ok (.bipush 6, 2) := by decide +kernel
theorem dL_act_234 : decode cL_act 234 = .ok (.ishr, 1) := by decide +kernel
theorem dL_act_235 : decode cL_act 235 = .ok (.iload_n 2, 1) := by decide +kernel
theorem dL_act_236 : decode cL_act 236 = .ok (.iconst 3, 1) := by decide +kernel
theorem dL_act_237 : decode cL_act 237 = .ok (.invokestatic 22, 3) := by decide +kernel
theorem dL_act_240 : decode cL_act 240 = .ok (.ifCond .ne 8, 3) := by decide +kernel
theorem dL_act_243 : decode cL_act 243 = .ok (.bipush 21, 2) := by decide +kernel
theorem dL_act_245 : decode cL_act 245 = .ok (.goto 4, 3) := by decide +kernel
theorem dL_act_248 : decode cL_act 248 = .ok (.iconst 4, 1) := by decide +kernel
theorem dL_act_249 : decode cL_act 249 = .ok (.invokestatic 22, 3) := by decide +kernel
theorem dL_act_252 : decode cL_act 252 = .ok (.iastore, 1) := by decide +kernel
theorem dL_act_253 : decode cL_act 253 = .ok (.dup, 1) := by decide +kernel
theorem dL_act_254 : decode cL_act 254 = .ok (.iconst 3, 1) := by decide +kernel
theorem dL_act_255 : decode cL_act 255 = .ok (.iconst 0, 1) := by decide +kernel
theorem dL_act_256 : decode cL_act 256 = .ok (.iastore, 1) := by decide +kernel
theorem dL_act_257 : decode cL_act 257 = .ok (.dup, 1) := by decide +kernel
theorem dL_act_258 : decode cL_act 258 = .ok (.iconst 4, 1) := by decide +kernel
theorem dL_act_259 : decode cL_act 259 = .ok (.iconst 0, 1) := by decide +kernel
theorem dL_act_260 : decode cL_act 260 = .ok (.iastore, 1) := by decide +kernel
theorem dL_act_261 : decode cL_act 261 = .ok (.astore 8, 2) := by decide +kernel
theorem dL_act_263 : decode cL_act 263 = .ok (.aload_n 1, 1) := by decide +kernel
theorem dL_act_264 : decode cL_act 264 = .ok (.aload_n 1, 1) := by decide +kernel
theorem dL_act_265 : decode cL_act 265 = .ok (.getfield 19, 3) := by decide +kernel
theorem dL_act_268 : decode cL_act 268 = .ok (.aload 8, 2) := by decide +kernel
theorem dL_act_270 : decode cL_act 270 = .ok (.invokestatic 37, 3) := by decide +kernel
theorem dL_act_273 : decode cL_act 273 = .ok (.putfield 19, 3) := by decide +kernel
theorem dL_act_276 : decode cL_act 276 = .ok (.aload_n 0, 1) := by decide +kernel
theorem dL_act_277 : decode cL_act 277 = .ok (.aload 8, 2) := by decide +kernel
theorem dL_act_279 : decode cL_act 279 = .ok (.iconst 0, 1) := by decide +kernel
theorem dL_act_280 : decode cL_act 280 = .ok (.iaload, 1) := by decide +kernel
theorem dL_act_281 : decode cL_act 281 = .ok (.aload 8, 2) := by decide +kernel
theorem dL_act_283 : decode cL_act 283 = .ok (.iconst 1, 1) := by decide +kernel
theorem dL_act_284 : decode cL_act 284 = .ok (.iaload, 1) := by decide +kernel
theorem dL_act_285 : decode cL_act 285 = .ok (.aload 8, 2) := by decide +kernel
theorem dL_act_287 : decode cL_act 287 = .ok (.iconst 2, 1) := by decide +kernel
theorem dL_act_288 : decode cL_act 288 = .ok (.iaload, 1) := by decide +kernel
theorem dL_act_289 : decode cL_act 289 = .ok (.invokevirtual 44, 3) := by decide +kernel
theorem dL_act_292 : decode cL_act 292 = .ok (.iload 5, 2) := by decide +kernel
theorem dL_act_294 : decode cL_act 294 = .ok (.if_icmp .ne 7, 3) := by decide +kernel
theorem dL_act_297 : decode cL_act 297 = .ok (.iconst 1, 1) := by decide +kernel
theorem dL_act_298 : decode cL_act 298 = .ok (.goto 4, 3) := by decide +kernel
theorem dL_act_301 : decode cL_act 301 = .ok (.iconst 0, 1) := by decide +kernel
theorem dL_act_302 : decode cL_act 302 = .ok (.ireturn, 1) := by decide +kernel
theorem dL_act_303 : decode cL_act 303 = .ok (.iload_n 2, 1) := by decide +kernel
theorem dL_act_304 : decode cL_act 304 = .ok (.iconst 2, 1) := by decide +kernel
theorem dL_act_305 : decode cL_act 305 = .ok (.ishr, 1) := by decide +kernel
theorem dL_act_306 : decode cL_act 306 = .ok (.iload 5, 2) := by decide +kernel
theorem dL_act_308 : decode cL_act 308 = .ok (.invokestatic 22, 3) := by decide +kernel
theorem dL_act_311 : decode cL_act 311 = .ok (.istore 8, 2) := by decide +kernel
theorem dL_act_313 : decode cL_act 313 = .ok (.iload_n 2, 1) := by decide +kernel
theorem dL_act_314 : decode cL_act 314 = .ok (.iconst 3, 1) := by decide +kernel
theorem dL_act_315 : decode cL_act 315 = .ok (.ishr, 1) := by decide +kernel
theorem dL_act_316 : decode cL_act 316 = .ok (.iload 4, 2) := by decide +kernel
theorem dL_act_318 : decode cL_act 318 = .ok (.invokestatic 22, 3) := by decide +kernel
theorem dL_act_321 : decode cL_act 321 = .ok (.istore 9, 2) := by decide +kernel
theorem dL_act_323 : decode cL_act 323 = .ok (.aload_n 1, 1) := by decide +kernel
theorem dL_act_324 : decode cL_act 324 = .ok (.getfield 19, 3) := by decide +kernel
theorem dL_act_327 : decode cL_act 327 = .ok (.iload 8, 2) := by decide +kernel
theorem dL_act_329 : decode cL_act 329 = .ok (.aaload, 1) := by decide +kernel
theorem dL_act_330 : decode cL_act 330 = .ok (.astore 10, 2) := by decide +kernel
theorem dL_act_332 : decode cL_act 332 = .ok (.aload_n 1, 1) := by decide +kernel
theorem dL_act_333 : decode cL_act 333 = .ok (.getfield 15, 3) := by decide +kernel
theorem dL_act_336 : decode cL_act 336 = .ok (.iload 9, 2) := by decide +kernel
theorem dL_act_338 : decode cL_act 338 = .ok (.aaload, 1) := by decide +kernel
theorem dL_act_339 : decode cL_act 339 = .ok (.astore 11, 2) := by decide +kernel
theorem dL_act_341 : decode cL_act 341 = .ok (.iload 6, 2) := by decide +kernel
theorem dL_act_343 : decode cL_act 343 = .ok (.tableswitch 217 7 10 #[29, 77, 108, 159], 29) := by decide +kernel
theorem dL_act_372 : decode cL_act 372 = .ok (.aload_n 1, 1) := by decide +kernel
theorem dL_act_373 : decode cL_act 373 = .ok (.getfield 9, 3) := by decide +kernel
theorem dL_act_376 : decode cL_act 376 = .ok (.iload 7, 2) := by decide +kernel
theorem dL_act_378 : decode cL_act 378 = .ok (.iaload, 1) := by decide +kernel
theorem dL_act_379 : decode cL_act 379 = .ok (.istore 12, 2) := by decide +kernel
theorem dL_act_381 : decode cL_act 381 = .ok (.aload_n 1, 1) := by decide +kernel
theorem dL_act_382 : decode cL_act 382 = .ok (.getfield 9, 3) := by decide +kernel
theorem dL_act_385 : decode cL_act 385 = .ok (.iload 7, 2) := by decide +kernel
theorem dL_act_387 : decode cL_act 387 = .ok (.iload_n 2, 1) := by decide +kernel
theorem dL_act_388 : decode cL_act 388 = .ok (.iconst 5, 1) := by decide +kernel
theorem dL_act_389 : decode cL_act 389 = .ok (.ishr, 1) := by decide +kernel
theorem dL_act_390 : decode cL_act 390 = .ok (.bipush 10, 2) := by decide +kernel
theorem dL_act_392 : decode cL_act 392 = .ok (.invokestatic 22, 3) := by decide +kernel
theorem dL_act_395 : decode cL_act 395 = .ok (.iastore, 1) := by decide +kernel
theorem dL_act_396 : decode cL_act 396 = .ok (.aload_n 0, 1) := by decide +kernel
theorem dL_act_397 : decode cL_act 397 = .ok (.iload 7, 2) := by decide +kernel
theorem dL_act_399 : decode cL_act 399 = .ok (.aload_n 1, 1) := by decide +kernel
theorem dL_act_400 : decode cL_act 400 = .ok (.getfield 9, 3) := by decide +kernel
theorem dL_act_403 : decode cL_act 403 = .ok (.iload 7, 2) := by decide +kernel
theorem dL_act_405 : decode cL_act 405 = .ok (.iaload, 1) := by decide +kernel
theorem dL_act_406 : decode cL_act 406 = .ok (.invokevirtual 48, 3) := by decide +kernel
theorem dL_act_409 : decode cL_act 409 = .ok (.iload 12, 2) := by decide +kernel
end
section
theorem dL_act_411 : decode cL_act 411 = .ok (.if_icmp .ne 7, 3) := by decide +kernel
theorem dL_act_414 : decode cL_act 414 = .ok (.iconst 1, 1) := by decide +kernel
theorem dL_act_415 : decode cL_act 415 = .ok (.goto 4, 3) := by decide +kernel
theorem dL_act_418 : decode cL_act 418 = .ok (.iconst 0, 1) := by decide +kernel
theorem dL_act_419 : decode cL_act 419 = .ok (.ireturn, 1) := by decide +kernel
theorem dL_act_420 : decode cL_act 420 = .ok (.aload 11, 2) := by decide +kernel
theorem dL_act_422 : decode cL_act 422 = .ok (.iconst 0, 1) := by decide +kernel
theorem dL_act_423 : decode cL_act 423 = .ok (.iaload, 1) := by decide +kernel
theorem dL_act_424 : decode cL_act 424 = .ok (.istore 13, 2) := by decide +kernel
theorem dL_act_426 : decode cL_act 426 = .ok (.aload 11, 2) := by decide +kernel
theorem dL_act_428 : decode cL_act 428 = .ok (.iconst 0, 1) := by decide +kernel
theorem dL_act_429 : decode cL_act 429 = .ok (.iload 7, 2) := by decide +kernel
theorem dL_act_431 : decode cL_act 431 = .ok (.iastore, 1) := by decide +kernel
theorem dL_act_432 : decode cL_act 432 = .ok (.aload_n 0, 1) := by decide +kernel
theorem dL_act_433 : decode cL_act 433 = .ok (.iload 9, 2) := by decide +kernel
theorem dL_act_435 : decode cL_act 435 = .ok (.iload 7, 2) := by decide +kernel
theorem dL_act_437 : decode cL_act 437 = .ok (.invokevirtual 51, 3) := by decide +kernel
theorem dL_act_440 : decode cL_act 440 = .ok (.iload 13, 2) := by decide +kernel
theorem dL_act_442 : decode cL_act 442 = .ok (.if_icmp .ne 7, 3) := by decide +kernel
theorem dL_act_445 : decode cL_act 445 = .ok (.iconst 1, 1) := by decide +kernel
theorem dL_act_446 : decode cL_act 446 = .ok (.goto 4, 3) := by decide +kernel
theorem dL_act_449 : decode cL_act 449 = .ok (.iconst 0, 1) := by decide +kernel
theorem dL_act_450 : decode cL_act 450 = .ok (.ireturn, 1) := by decide +kernel
theorem dL_act_451 : decode cL_act 451 = .ok (.aload 10, 2) := by decide +kernel
theorem dL_act_453 : decode cL_act 453 = .ok (.iconst 2, 1) := by decide +kernel
theorem dL_act_454 : decode cL_act 454 = .ok (.bipush 20, 2) := by decide +kernel
theorem dL_act_456 : decode cL_act 456 = .ok (.aload 10, 2) := by decide +kernel
theorem dL_act_458 : decode cL_act 458 = .ok (.iconst 2, 1) := by decide +kernel
theorem dL_act_459 : decode cL_act 459 = .ok (.iaload, 1) := by decide +kernel
theorem dL_act_460 : decode cL_act 460 = .ok (.iconst 1, 1) := by decide +kernel
theorem dL_act_461 : decode cL_act 461 = .ok (.iadd, 1) := by decide +kernel
theorem dL_act_462 : decode cL_act 462 = .ok (.iload_n 2, 1) := by decide +kernel
theorem dL_act_463 : decode cL_act 463 = .ok (.iconst 5, 1) := by decide +kernel
theorem dL_act_464 : decode cL_act 464 = .ok (.ishr, 1) := by decide +kernel
theorem dL_act_465 : decode cL_act 465 = .ok (.iconst 5, 1) := by decide +kernel
theorem dL_act_466 : decode cL_act 466 = .ok (.invokestatic 22, 3) := by decide +kernel
theorem dL_act_469 : decode cL_act 469 = .ok (.iadd, 1) := by decide +kernel
theorem dL_act_470 : decode cL_act 470 = .ok (.invokestatic 54, 3) := by decide +kernel
theorem dL_act_473 : decode cL_act 473 = .ok (.iastore, 1) := by decide +kernel
theorem dL_act_474 : decode cL_act 474 = .ok (.aload_n 0, 1) := by decide +kernel
theorem dL_act_475 : decode cL_act 475 = .ok (.iload 8, 2) := by decide +kernel
theorem dL_act_477 : decode cL_act 477 = .ok (.iconst 1, 1) := by decide +kernel
theorem dL_act_478 : decode cL_act 478 = .ok (.iload_n 2, 1) := by decide +kernel
theorem dL_act_479 : decode cL_act 479 = .ok (.iconst 5, 1) := by decide +kernel
theorem dL_act_480 : decode cL_act 480 = .ok (.ishr, 1) := by decide +kernel
theorem dL_act_481 : decode cL_act 481 = .ok (.iconst 5, 1) := by decide +kernel
theorem dL_act_482 : decode cL_act 482 = .ok (.invokestatic 22, 3) := by decide +kernel
theorem dL_act_485 : decode cL_act 485 = .ok (.iadd, 1) := by decide +kernel
theorem dL_act_486 : decode cL_act 486 = .ok (.invokevirtual 59, 3) := by decide +kernel
theorem dL_act_489 : decode cL_act 489 = .ok (.aload 10, 2) := by decide +kernel
theorem dL_act_491 : decode cL_act 491 = .ok (.iconst 2, 1) := by decide +kernel
theorem dL_act_492 : decode cL_act 492 = .ok (.iaload, 1) := by decide +kernel
theorem dL_act_493 : decode cL_act 493 = .ok (.if_icmp .ne 7, 3) := by decide +kernel
theorem dL_act_496 : decode cL_act 496 = .ok (.iconst 1, 1) := by decide +kernel
theorem dL_act_497 : decode cL_act 497 = .ok (.goto 4, 3) := by decide +kernel
theorem dL_act_500 : decode cL_act 500 = .ok (.iconst 0, 1) := by decide +kernel
theorem dL_act_501 : decode cL_act 501 = .ok (.ireturn, 1) := by decide +kernel
theorem dL_act_502 : decode cL_act 502 = .ok (.aload 10, 2) := by decide +kernel
theorem dL_act_504 : decode cL_act 504 = .ok (.iconst 2, 1) := by decide +kernel
theorem dL_act_505 : decode cL_act 505 = .ok (.iaload, 1) := by decide +kernel
theorem dL_act_506 : decode cL_act 506 = .ok (.ifCond .eq 23, 3) := by decide +kernel
theorem dL_act_509 : decode cL_act 509 = .ok (.aload_n 1, 1) := by decide +kernel
theorem dL_act_510 : decode cL_act 510 = .ok (.aload 10, 2) := by decide +kernel
theorem dL_act_512 : decode cL_act 512 = .ok (.invokevirtual 62, 3) := by decide +kernel
theorem dL_act_515 : decode cL_act 515 = .ok (.ifCond .ne 14, 3) := by decide +kernel
theorem dL_act_518 : decode cL_act 518 = .ok (.aload 11, 2) := by decide +kernel
theorem dL_act_520 : decode cL_act 520 = .ok (.iconst 0, 1) := by decide +kernel
theorem dL_act_521 : decode cL_act 521 = .ok (.iaload, 1) := by decide +kernel
theorem dL_act_522 : decode cL_act 522 = .ok (.aload 10, 2) := by decide +kernel
theorem dL_act_524 : decode cL_act 524 = .ok (.iconst 3, 1) := by decide +kernel
theorem dL_act_525 : decode cL_act 525 = .ok (.iaload, 1) := by decide +kernel
theorem dL_act_526 : decode cL_act 526 = .ok (.if_icmp .eq 5, 3) := by decide +kernel
theorem dL_act_529 : decode cL_act 529 = .ok (.iconst 1, 1) := by decide +kernel
theorem dL_act_530 : decode cL_act 530 = .ok (.ireturn, 1) := by decide +kernel
theorem dL_act_531 : decode cL_act 531 = .ok (.aload_n 1, 1) := by decide +kernel
theorem dL_act_532 : decode cL_act 532 = .ok (.aload 10, 2) := by decide +kernel
theorem dL_act_534 : decode cL_act 534 = .ok (.aload 11, 2) := by decide +kernel
theorem dL_act_536 : decode cL_act 536 = .ok (.invokevirtual 66, 3) := by decide +kernel
theorem dL_act_539 : decode cL_act 539 = .ok (.aload_n 0, 1) := by decide +kernel
theorem dL_act_540 : decode cL_act 540 = .ok (.iload 8, 2) := by decide +kernel
theorem dL_act_542 : decode cL_act 542 = .ok (.iload 9, 2) := by decide +kernel
theorem dL_act_544 : decode cL_act 544 = .ok (.invokevirtual 70, 3) := by decide +kernel
theorem dL_act_547 : decode cL_act 547 = .ok (.aload 11, 2) := by decide +kernel
theorem dL_act_549 : decode cL_act 549 = .ok (.iconst 1, 1) := by decide +kernel
theorem dL_act_550 : decode cL_act 550 = .ok (.iaload, 1) := by decide +kernel
theorem dL_act_551 : decode cL_act 551 = .ok (.if_icmp .ne 7, 3) := by decide +kernel
theorem dL_act_554 : decode cL_act 554 = .ok (.iconst 1, 1) := by decide +kernel
theorem dL_act_555 : decode cL_act 555 = .ok (.goto 4, 3) := by decide +kernel
theorem dL_act_558 : decode cL_act 558 = .ok (.iconst 0, 1) := by decide +kernel
theorem dL_act_559 : decode cL_act 559 = .ok (.ireturn, 1) := by decide +kernel
theorem dL_act_560 : decode cL_act 560 = .ok (.iconst 1, 1) := by decide +kernel
theorem dL_act_561 : decode cL_act 561 = .ok (.iload_n 2, 1) := by decide +kernel
theorem dL_act_562 : decode cL_act 562 = .ok (.iconst 2, 1) := by decide +kernel
theorem dL_act_563 : decode cL_act 563 = .ok (.ishr, 1) := by decide +kernel
theorem dL_act_564 : decode cL_act 564 = .ok (.iload_n 2, 1) := by decide +kernel
theorem dL_act_565 : decode cL_act 565 = .ok (.bipush 9, 2) := by decide +kernel
theorem dL_act_567 : decode cL_act 567 = .ok (.invokestatic 22, 3) := by decide +kernel
theorem dL_act_570 : decode cL_act 570 = .ok (.ifCond .ne 8, 3) := by decide +kernel
theorem dL_act_573 : decode cL_act 573 = .ok (.bipush 60, 2) := by decide +kernel
theorem dL_act_575 : decode cL_act 575 = .ok (.goto 4, 3) := by decide +kernel
theorem dL_act_578 : decode cL_act 578 = .ok (.iconst 3, 1) := by decide +kernel
theorem dL_act_579 : decode cL_act 579 = .ok (.invokestatic 22, 3) := by decide +kernel
theorem dL_act_582 : decode cL_act 582 = .ok (.iadd, 1) := by decide +kernel
theorem dL_act_583 : decode cL_act 583 = .ok (.istore 14, 2) := by decide +kernel
theorem dL_act_585 : decode cL_act 585 = .ok (.aload_n 0, 1) := by decide +kernel
theorem dL_act_586 : decode cL_act 586 = .ok (.iload 14, 2) := by decide +kernel
theorem dL_act_588 : decode cL_act 588 = .ok (.invokevirtual 73, 3) := by decide +kernel
theorem dL_act_591 : decode cL_act 591 = .ok (.aload_n 1, 1) := by decide +kernel
theorem dL_act_592 : decode cL_act 592 = .ok (.iload 14, 2) := by decide +kernel
theorem dL_act_594 : decode cL_act 594 = .ok (.invokevirtual 76, 3) := by decide +kernel
theorem dL_act_597 : decode cL_act 597 = .ok (.if_icmp .ne 7, 3) := by decide +kernel
theorem dL_act_600 : decode cL_act 600 = .ok (.iconst 1, 1) := by decide +kernel
theorem dL_act_601 : decode cL_act 601 = .ok (.goto 4, 3) := by decide +kernel
theorem dL_act_604 : decode cL_act 604 = .ok (.iconst 0, 1) := by decide +kernel
theorem dL_act_605 : decode cL_act 605 = .ok (.ireturn, 1) := by decide +kernel
theorem dL_build_0 : decode cL_build 0 = .ok (.new 10, 3) := by decide +kernel
theorem dL_build_3 : decode cL_build 3 = .ok (.dup, 1) := by decide +kernel
theorem dL_build_4 : decode cL_build 4 = .ok (.invokespecial 79, 3) := by decide +kernel
theorem dL_build_7 : decode cL_build 7 = .ok (.astore_n 2, 1) := by decide +kernel
theorem dL_build_8 : decode cL_build 8 = .ok (.iconst 1, 1) := by decide +kernel
theorem dL_build_9 : decode cL_build 9 = .ok (.aload_n 1, 1) := by decide +kernel
theorem dL_build_10 : decode cL_build 10 = .ok (.iconst 1, 1) := by decide +kernel
theorem dL_build_11 : decode cL_build 11 = .ok (.invokestatic 80, 3) := by decide +kernel
theorem dL_build_14 : decode cL_build 14 = .ok (.bipush 6, 2) := by decide +kernel
theorem dL_build_16 : decode cL_build 16 = .ok (.invokestatic 22, 3) := by decide +kernel
theorem dL_build_19 : decode cL_build 19 = .ok (.iadd, 1) := by decide +kernel
theorem dL_build_20 : decode cL_build 20 = .ok (.istore_n 3, 1) := by decide +kernel
theorem dL_build_21 : decode cL_build 21 = .ok (.iconst 0, 1) := by decide +kernel
theorem dL_build_22 : decode cL_build 22 = .ok (.istore 4, 2) := by decide +kernel
theorem dL_build_24 : decode cL_build 24 = .ok (.iload 4, 2) := by decide +kernel
theorem dL_build_26 : decode cL_build 26 = .ok (.iload_n 3, 1) := by decide +kernel
theorem dL_build_27 : decode cL_build 27 = .ok (.if_icmp .ge 44, 3) := by decide +kernel
theorem dL_build_30 : decode cL_build 30 = .ok (.aload_n 2, 1) := by decide +kernel
theorem dL_build_31 : decode cL_build 31 = .ok (.aload_n 1, 1) := by decide +kernel
theorem dL_build_32 : decode cL_build 32 = .ok (.iconst 2, 1) := by decide +kernel
theorem dL_build_33 : decode cL_build 33 = .ok (.iload 4, 2) := by decide +kernel
theorem dL_build_35 : decode cL_build 35 = .ok (.iadd, 1) := by decide +kernel
theorem dL_build_36 : decode cL_build 36 = .ok (.invokestatic 80, 3) := by decide +kernel
theorem dL_build_39 : decode cL_build 39 = .ok (.bipush 10, 2) := by decide +kernel
theorem dL_build_41 : decode cL_build 41 = .ok (.invokestatic 22, 3) := by decide +kernel
theorem dL_build_44 : decode cL_build 44 = .ok (.invokevirtual 28, 3) := by decide +kernel
theorem dL_build_47 : decode cL_build 47 = .ok (.aload_n 0, 1) := by decide +kernel
theorem dL_build_48 : decode cL_build 48 = .ok (.aload_n 2, 1) := by decide +kernel
theorem dL_build_49 : decode cL_build 49 = .ok (.getfield 9, 3) := by decide +kernel
theorem dL_build_52 : decode cL_build 52 = .ok (.iload 4, 2) := by decide +kernel
theorem dL_build_54 : decode cL_build 54 = .ok (.iaload, 1) := by decide +kernel
theorem dL_build_55 : decode cL_build 55 = .ok (.invokevirtual 32, 3) := by decide +kernel
theorem dL_build_58 : decode cL_build 58 = .ok (.iload 4, 2) := by decide +kernel
theorem dL_build_60 : decode cL_build 60 = .ok (.if_icmp .eq 5, 3) := by decide +kernel
theorem dL_build_63 : decode cL_build 63 = .ok (.aconst_null, 1) := by decide +kernel
theorem dL_build_64 : decode cL_build 64 = .ok (.areturn, 1) := by decide +kernel
theorem dL_build_65 : decode cL_build 65 = .ok (.iinc 4 1, 3) := by decide +kernel
theorem dL_build_68 : decode cL_build 68 = .ok (.goto (-44), 3) := by decide +kernel
theorem dL_build_71 : decode cL_build 71 = .ok (.bipush 10, 2) := by decide +kernel
theorem dL_build_73 : decode cL_build 73 = .ok (.aload_n 1, 1) := by decide +kernel
theorem dL_build_74 : decode cL_build 74 = .ok (.iconst 0, 1) := by decide +kernel
theorem dL_build_75 : decode cL_build 75 = .ok (.invokestatic 80, 3) := by decide +kernel
theorem dL_build_78 : decode cL_build 78 = .ok (.bipush 44, 2) := by decide +kernel
theorem dL_build_80 : decode cL_build 80 = .ok (.invokestatic 22, 3) := by decide +kernel
theorem dL_build_83 : decode cL_build 83 = .ok (.iadd, 1) := by decide +kernel
theorem dL_build_84 : decode cL_build 84 = .ok (.istore 4, 2) := by decide +kernel
theorem dL_build_86 : decode cL_build 86 = .ok (.iconst 0, 1) := by decide +kernel
theorem dL_build_87 : decode cL_build 87 = .ok (.istore 5, 2) := by decide +kernel
theorem dL_build_89 : decode cL_build 89 = .ok (.iload 5, 2) := by decide +kernel
theorem dL_build_91 : decode cL_build 91 = .ok (.iload 4, 2) := by decide +kernel
theorem dL_build_93 : decode cL_build 93 = .ok (.if_icmp .ge 43, 3) := by decide +kernel
theorem dL_build_96 : decode cL_build 96 = .ok (.aload_n 0, 1) := by decide +kernel
theorem dL_build_97 : decode cL_build 97 = .ok (.aload_n 2, 1) := by decide +kernel
theorem dL_build_98 : decode cL_build 98 = .ok (.aload_n 1, 1) := by decide +kernel
theorem dL_build_99 : decode cL_build 99 = .ok (.iload 5, 2) := by decide +kernel
theorem dL_build_101 : decode cL_build 101 = .ok (.bipush 16, 2) := by decide +kernel
theorem dL_build_103 : decode cL_build 103 = .ok (.irem, 1) := by decide +kernel
theorem dL_build_104 : decode cL_build 104 = .ok (.invokestatic 80, 3) := by decide +kernel
theorem dL_build_107 : decode cL_build 107 = .ok (.iload 5, 2) := by decide +kernel
theorem dL_build_109 : decode cL_build 109 = .ok (.bipush 16, 2) := by decide +kernel
theorem dL_build_111 : decode cL_build 111 = .ok (.idiv, 1) := by decide +kernel
theorem dL_build_112 : decode cL_build 112 = .ok (.iconst 3, 1) := by decide +kernel
theorem dL_build_113 : decode cL_build 113 = .ok (.imul, 1) := by decide +kernel
theorem dL_build_114 : decode cL_build 114 = .ok (.ishr, 1) := by decide +kernel
theorem dL_build_115 : decode cL_build 115 = .ok (.sipush 673, 3) := by decide +kernel
theorem dL_build_118 : decode cL_build 118 = .ok (.iload 5, 2) := by decide +kernel
theorem dL_build_120 : decode cL_build 120 = .ok (.imul, 1) := by decide +kernel
theorem dL_build_121 : decode cL_build 121 = .ok (.iadd, 1) := by decide +kernel
theorem dL_build_122 : decode cL_build 122 = .ok (.invokestatic 84, 3) := by decide +kernel
theorem dL_build_125 : decode cL_build 125 = .ok (.ifCond .ne 5, 3) := by decide +kernel
theorem dL_build_128 : decode cL_build 128 = .ok (.aconst_null, 1) := by decide +kernel
theorem dL_build_129 : decode cL_build 129 = .ok (.areturn, 1) := by decide +kernel
theorem dL_build_130 : decode cL_build 130 = .ok (.iinc 5 1, 3) := by decide +kernel
theorem dL_build_133 : decode cL_build 133 = .ok (.goto (-44), 3) := by decide +kernel
theorem dL_build_136 : decode cL_build 136 = .ok (.aload_n 2, 1) := by decide +kernel
theorem dL_build_137 : decode cL_build 137 = .ok (.areturn, 1) := by decide +kernel
theorem dL_law_0 : decode cL_law 0 = .ok (.new 33, 3) := by decide +kernel
theorem dL_law_3 : decode cL_law 3 = .ok (.dup, 1) := by decide +kernel
theorem dL_law_4 : decode cL_law 4 = .ok (.invokespecial 88, 3) := by decide +kernel
theorem dL_law_7 : decode cL_law 7 = .ok (.astore_n 1, 1) := by decide +kernel
theorem dL_law_8 : decode cL_law 8 = .ok (.aload_n 1, 1) := by decide +kernel
theorem dL_law_9 : decode cL_law 9 = .ok (.aload_n 0, 1) := by decide +kernel
theorem dL_law_10 : decode cL_law 10 = .ok (.invokestatic 89, 3) := by decide +kernel
theorem dL_law_13 : decode cL_law 13 = .ok (.astore_n 2, 1) := by decide +kernel
theorem dL_law_14 : decode cL_law 14 = .ok (.aload_n 2, 1) := by decide +kernel
theorem dL_law_15 : decode cL_law 15 = .ok (.ifnonnull 5, 3) := by decide +kernel
theorem dL_law_18 : decode cL_law 18 = .ok (.iconst 0, 1) := by decide +kernel
theorem dL_law_19 : decode cL_law 19 = .ok (.ireturn, 1) := by decide +kernel
theorem dL_law_20 : decode cL_law 20 = .ok (.iconst 0, 1) := by decide +kernel
theorem dL_law_21 : decode cL_law 21 = .ok (.istore_n 3, 1) := by decide +kernel
theorem dL_law_22 : decode cL_law 22 = .ok (.iload_n 3, 1) := by decide +kernel
theorem dL_law_23 : decode cL_law 23 = .ok (.bipush 36, 2) := by decide +kernel
theorem dL_law_25 : decode cL_law 25 = .ok (.if_icmp .ge 1326, 3) := by decide +kernel
theorem dL_law_28 : decode cL_law 28 = .ok (.aload_n 0, 1) := by decide +kernel
theorem dL_law_29 : decode cL_law 29 = .ok (.iload_n 3, 1) := by decide +kernel
theorem dL_law_30 : decode cL_law 30 = .ok (.bipush 16, 2) := by decide +kernel
theorem dL_law_32 : decode cL_law 32 = .ok (.irem, 1) := by decide +kernel
theorem dL_law_33 : decode cL_law 33 = .ok (.invokestatic 80, 3) := by decide +kernel
theorem dL_law_36 : decode cL_law 36 = .ok (.iload_n 3, 1) := by decide +kernel
theorem dL_law_37 : decode cL_law 37 = .ok (.bipush 16, 2) := by decide +kernel
theorem dL_law_39 : decode cL_law 39 = .ok (.idiv, 1) := by decide +kernel
theorem dL_law_40 : decode cL_law 40 = .ok (.iconst 3, 1) := by decide +kernel
theorem dL_law_41 : decode cL_law 41 = .ok (.imul, 1) := by decide +kernel
theorem dL_law_42 : decode cL_law 42 = .ok (.ishr, 1) := by decide +kernel
theorem dL_law_43 : decode cL_law 43 = .ok (.sipush 673, 3) := by decide +kernel
theorem dL_law_46 : decode cL_law 46 = .ok (.iload_n 3, 1) := by decide +kernel
theorem dL_law_47 : decode cL_law 47 = .ok (.imul, 1) := by decide +kernel
theorem dL_law_48 : decode cL_law 48 = .ok (.iadd, 1) := by decide +kernel
theorem dL_law_49 : decode cL_law 49 = .ok (.istore 4, 2) := by decide +kernel
theorem dL_law_51 : decode cL_law 51 = .ok (.aload_n 1, 1) := by decide +kernel
theorem dL_law_52 : decode cL_law 52 = .ok (.aload_n 2, 1) := by decide +kernel
theorem dL_law_53 : decode cL_law 53 = .ok (.iload 4, 2) := by decide +kernel
theorem dL_law_55 : decode cL_law 55 = .ok (.invokestatic 84, 3) := by decide +kernel
theorem dL_law_58 : decode cL_law 58 = .ok (.ifCond .ne 5, 3) := by decide +kernel
theorem dL_law_61 : decode cL_law 61 = .ok (.iconst 0, 1) := by decide +kernel
theorem dL_law_62 : decode cL_law 62 = .ok (.ireturn, 1) := by decide +kernel
theorem dL_law_63 : decode cL_law 63 = .ok (.aload_n 1, 1) := by decide +kernel
theorem dL_law_64 : decode cL_law 64 = .ok (.invokevirtual 93, 3) := by decide +kernel
theorem dL_law_67 : decode cL_law 67 = .ok (.istore 5, 2) := by decide +kernel
theorem dL_law_69 : decode cL_law 69 = .ok (.aload_n 1, 1) := by decide +kernel
theorem dL_law_70 : decode cL_law 70 = .ok (.invokevirtual 97, 3) := by decide +kernel
theorem dL_law_73 : decode cL_law 73 = .ok (.istore 6, 2) := by decide +kernel
theorem dL_law_75 : decode cL_law 75 = .ok (.aload_n 1, 1) := by decide +kernel
theorem dL_law_76 : decode cL_law 76 = .ok (.invokevirtual 99, 3) := by decide +kernel
theorem dL_law_79 : decode cL_law 79 = .ok (.istore 7, 2) := by decide +kernel
theorem dL_law_81 : decode cL_law 81 = .ok (.iload 4, 2) := by decide +kernel
theorem dL_law_83 : decode cL_law 83 = .ok (.iconst 2, 1) := by decide +kernel
theorem dL_law_84 : decode cL_law 84 = .ok (.ishr, 1) := by decide +kernel
theorem dL_law_85 : decode cL_law 85 = .ok (.bipush 9, 2) := by decide +kernel
theorem dL_law_87 : decode cL_law 87 = .ok (.invokestatic 22, 3) := by decide +kernel
theorem dL_law_90 : decode cL_law 90 = .ok (.istore 8, 2) := by decide +kernel
theorem dL_law_92 : decode cL_law 92 = .ok (.iconst 0, 1) := by decide +kernel
theorem dL_law_93 : decode cL_law 93 = .ok (.istore 9, 2) := by decide +kernel
theorem dL_law_95 : decode cL_law 95 = .ok (.iload 9, 2) := by decide +kernel
theorem dL_law_97 : decode cL_law 97 = .ok (.iload 5, 2) := by decide +kernel
end
section
theorem dL_law_99 : decode cL_law 99 = .ok (.if_icmp .ge 113, 3) := by decide +kernel
theorem dL_law_102 : decode cL_law 102 = .ok (.aload_n 1, 1) := by decide +kernel
theorem dL_law_103 : decode cL_law 103 = .ok (.iload 9, 2) := by decide +kernel
theorem dL_law_105 : decode cL_law 105 = .ok (.iload 8, 2) := by decide +kernel
theorem dL_law_107 : decode cL_law 107 = .ok (.invokevirtual 101, 3) := by decide +kernel
theorem dL_law_110 : decode cL_law 110 = .ok (.istore 10, 2) := by decide +kernel
theorem dL_law_112 : decode cL_law 112 = .ok (.iload 10, 2) := by decide +kernel
theorem dL_law_114 : decode cL_law 114 = .ok (.ifCond .ne 7, 3) := by decide +kernel
theorem dL_law_117 : decode cL_law 117 = .ok (.iconst 1, 1) := by decide +kernel
theorem dL_law_118 : decode cL_law 118 = .ok (.goto 4, 3) := by decide +kernel
theorem dL_law_121 : decode cL_law 121 = .ok (.iconst 0, 1) := by decide +kernel
theorem dL_law_122 : decode cL_law 122 = .ok (.aload_n 1, 1) := by decide +kernel
theorem dL_law_123 : decode cL_law 123 = .ok (.iload 9, 2) := by decide +kernel
theorem dL_law_125 : decode cL_law 125 = .ok (.invokevirtual 104, 3) := by decide +kernel
theorem dL_law_128 : decode cL_law 128 = .ok (.ifCond .ne 7, 3) := by decide +kernel
theorem dL_law_131 : decode cL_law 131 = .ok (.iconst 1, 1) := by decide +kernel
theorem dL_law_132 : decode cL_law 132 = .ok (.goto 4, 3) := by decide +kernel
theorem dL_law_135 : decode cL_law 135 = .ok (.iconst 0, 1) := by decide +kernel
theorem dL_law_136 : decode cL_law 136 = .ok (.if_icmp .ne 68, 3) := by decide +kernel
theorem dL_law_139 : decode cL_law 139 = .ok (.iload 10, 2) := by decide +kernel
theorem dL_law_141 : decode cL_law 141 = .ok (.aload_n 1, 1) := by decide +kernel
theorem dL_law_142 : decode cL_law 142 = .ok (.iload 9, 2) := by decide +kernel
theorem dL_law_144 : decode cL_law 144 = .ok (.invokevirtual 104, 3) := by decide +kernel
theorem dL_law_147 : decode cL_law 147 = .ok (.if_icmp .lt 57, 3) := by decide +kernel
theorem dL_law_150 : decode cL_law 150 = .ok (.aload_n 1, 1) := by decide +kernel
theorem dL_law_151 : decode cL_law 151 = .ok (.iload 9, 2) := by decide +kernel
theorem dL_law_153 : decode cL_law 153 = .ok (.iload 8, 2) := by decide +kernel
theorem dL_law_155 : decode cL_law 155 = .ok (.iconst 1, 1) := by decide +kernel
theorem dL_law_156 : decode cL_law 156 = .ok (.iadd, 1) := by decide +kernel
theorem dL_law_157 : decode cL_law 157 = .ok (.invokevirtual 101, 3) := by decide +kernel
theorem dL_law_160 : decode cL_law 160 = .ok (.iload 10, 2) := by decide +kernel
theorem dL_law_162 : decode cL_law 162 = .ok (.if_icmp .gt 42, 3) := by decide +kernel
theorem dL_law_165 : decode cL_law 165 = .ok (.aload_n 1, 1) := by decide +kernel
theorem dL_law_166 : decode cL_law 166 = .ok (.iload 9, 2) := by decide +kernel
theorem dL_law_168 : decode cL_law 168 = .ok (.iconst 0, 1) := by decide +kernel
theorem dL_law_169 : decode cL_law 169 = .ok (.invokevirtual 101, 3) := by decide +kernel
theorem dL_law_172 : decode cL_law 172 = .ok (.aload_n 1, 1) := by decide +kernel
theorem dL_law_173 : decode cL_law 173 = .ok (.aload_n 1, 1) := by decide +kernel
theorem dL_law_174 : decode cL_law 174 = .ok (.invokevirtual 107, 3) := by decide +kernel
theorem dL_law_177 : decode cL_law 177 = .ok (.iconst 0, 1) := by decide +kernel
theorem dL_law_178 : decode cL_law 178 = .ok (.invokevirtual 101, 3) := by decide +kernel
theorem dL_law_181 : decode cL_law 181 = .ok (.if_icmp .gt 23, 3) := by decide +kernel
theorem dL_law_184 : decode cL_law 184 = .ok (.aload_n 1, 1) := by decide +kernel
theorem dL_law_185 : decode cL_law 185 = .ok (.iload 9, 2) := by decide +kernel
theorem dL_law_187 : decode cL_law 187 = .ok (.invokevirtual 110, 3) := by decide +kernel
theorem dL_law_190 : decode cL_law 190 = .ok (.ifCond .lt 14, 3) := by decide +kernel
theorem dL_law_193 : decode cL_law 193 = .ok (.aload_n 1, 1) := by decide +kernel
theorem dL_law_194 : decode cL_law 194 = .ok (.iload 9, 2) := by decide +kernel
theorem dL_law_196 : decode cL_law 196 = .ok (.invokevirtual 110, 3) := by decide +kernel
theorem dL_law_199 : decode cL_law 199 = .ok (.bipush 9, 2) := by decide +kernel
theorem dL_law_201 : decode cL_law 201 = .ok (.if_icmp .le 5, 3) := by decide +kernel
theorem dL_law_204 : decode cL_law 204 = .ok (.iconst 0, 1) := by decide +kernel
theorem dL_law_205 : decode cL_law 205 = .ok (.ireturn, 1) := by decide +kernel
theorem dL_law_206 : decode cL_law 206 = .ok (.iinc 9 1, 3) := by decide +kernel
theorem dL_law_209 : decode cL_law 209 = .ok (.goto (-114), 3) := by decide +kernel
theorem dL_law_212 : decode cL_law 212 = .ok (.iconst 0, 1) := by decide +kernel
theorem dL_law_213 : decode cL_law 213 = .ok (.istore 9, 2) := by decide +kernel
theorem dL_law_215 : decode cL_law 215 = .ok (.iconst 0, 1) := by decide +kernel
theorem dL_law_216 : decode cL_law 216 = .ok (.istore 10, 2) := by decide +kernel
theorem dL_law_218 : decode cL_law 218 = .ok (.iconst 0, 1) := by decide +kernel
theorem dL_law_219 : decode cL_law 219 = .ok (.istore 11, 2) := by decide +kernel
theorem dL_law_221 : decode cL_law 221 = .ok (.iload 6, 2) := by decide +kernel
theorem dL_law_223 : decode cL_law 223 = .ok (.newarray .int, 2) := by decide +kernel
theorem dL_law_225 : decode cL_law 225 = .ok (.astore 12, 2) := by decide +kernel
theorem dL_law_227 : decode cL_law 227 = .ok (.iload 6, 2) := by decide +kernel
theorem dL_law_229 : decode cL_law 229 = .ok (.newarray .int, 2) := by decide +kernel
theorem dL_law_231 : decode cL_law 231 = .ok (.astore 13, 2) := by decide +kernel
theorem dL_law_233 : decode cL_law 233 = .ok (.iload 6, 2) := by decide +kernel
theorem dL_law_235 : decode cL_law 235 = .ok (.newarray .int, 2) := by decide +kernel
theorem dL_law_237 : decode cL_law 237 = .ok (.astore 14, 2) := by decide +kernel
theorem dL_law_239 : decode cL_law 239 = .ok (.iconst 0, 1) := by decide +kernel
theorem dL_law_240 : decode cL_law 240 = .ok (.istore 15, 2) := by decide +kernel
theorem dL_law_242 : decode cL_law 242 = .ok (.iload 15, 2) := by decide +kernel
theorem dL_law_244 : decode cL_law 244 = .ok (.iload 6, 2) := by decide +kernel
theorem dL_law_246 : decode cL_law 246 = .ok (.if_icmp .ge 118, 3) := by decide +kernel
theorem dL_law_249 : decode cL_law 249 = .ok (.aload 12, 2) := by decide +kernel
theorem dL_law_251 : decode cL_law 251 = .ok (.iload 15, 2) := by decide +kernel
theorem dL_law_253 : decode cL_law 253 = .ok (.aload_n 1, 1) := by decide +kernel
theorem dL_law_254 : decode cL_law 254 = .ok (.iload 15, 2) := by decide +kernel
theorem dL_law_256 : decode cL_law 256 = .ok (.invokevirtual 113, 3) := by decide +kernel
theorem dL_law_259 : decode cL_law 259 = .ok (.iastore, 1) := by decide +kernel
theorem dL_law_260 : decode cL_law 260 = .ok (.aload 13, 2) := by decide +kernel
theorem dL_law_262 : decode cL_law 262 = .ok (.iload 15, 2) := by decide +kernel
theorem dL_law_264 : decode cL_law 264 = .ok (.aload_n 1, 1) := by decide +kernel
theorem dL_law_265 : decode cL_law 265 = .ok (.iload 15, 2) := by decide +kernel
theorem dL_law_267 : decode cL_law 267 = .ok (.invokevirtual 116, 3) := by decide +kernel
theorem dL_law_270 : decode cL_law 270 = .ok (.iastore, 1) := by decide +kernel
theorem dL_law_271 : decode cL_law 271 = .ok (.aload 14, 2) := by decide +kernel
theorem dL_law_273 : decode cL_law 273 = .ok (.iload 15, 2) := by decide +kernel
theorem dL_law_275 : decode cL_law 275 = .ok (.aload_n 1, 1) := by decide +kernel
theorem dL_law_276 : decode cL_law 276 = .ok (.iload 15, 2) := by decide +kernel
theorem dL_law_278 : decode cL_law 278 = .ok (.invokevirtual 119, 3) := by decide +kernel
theorem dL_law_281 : decode cL_law 281 = .ok (.iastore, 1) := by decide +kernel
theorem dL_law_282 : decode cL_law 282 = .ok (.iload 9, 2) := by decide +kernel
theorem dL_law_284 : decode cL_law 284 = .ok (.aload 14, 2) := by decide +kernel
theorem dL_law_286 : decode cL_law 286 = .ok (.iload 15, 2) := by decide +kernel
theorem dL_law_288 : decode cL_law 288 = .ok (.iaload, 1) := by decide +kernel
theorem dL_law_289 : decode cL_law 289 = .ok (.iadd, 1) := by decide +kernel
theorem dL_law_290 : decode cL_law 290 = .ok (.istore 9, 2) := by decide +kernel
theorem dL_law_292 : decode cL_law 292 = .ok (.iload 11, 2) := by decide +kernel
theorem dL_law_294 : decode cL_law 294 = .ok (.aload 12, 2) := by decide +kernel
theorem dL_law_296 : decode cL_law 296 = .ok (.iload 15, 2) := by decide +kernel
theorem dL_law_298 : decode cL_law 298 = .ok (.iaload, 1) := by decide +kernel
theorem dL_law_299 : decode cL_law 299 = .ok (.iadd, 1) := by decide +kernel
theorem dL_law_300 : decode cL_law 300 = .ok (.istore 11, 2) := by decide +kernel
theorem dL_law_302 : decode cL_law 302 = .ok (.iload 10, 2) := by decide +kernel
theorem dL_law_304 : decode cL_law 304 = .ok (.aload 13, 2) := by decide +kernel
theorem dL_law_306 : decode cL_law 306 = .ok (.iload 15, 2) := by decide +kernel
theorem dL_law_308 : decode cL_law 308 = .ok (.iaload, 1) := by decide +kernel
theorem dL_law_309 : decode cL_law 309 = .ok (.ifCond .ne 7, 3) := by decide +kernel
theorem dL_law_312 : decode cL_law 312 = .ok (.iconst 1, 1) := by decide +kernel
theorem dL_law_313 : decode cL_law 313 = .ok (.goto 4, 3) := by decide +kernel
theorem dL_law_316 : decode cL_law 316 = .ok (.iconst 0, 1) := by decide +kernel
theorem dL_law_317 : decode cL_law 317 = .ok (.iadd, 1) := by decide +kernel
theorem dL_law_318 : decode cL_law 318 = .ok (.istore 10, 2) := by decide +kernel
theorem dL_law_320 : decode cL_law 320 = .ok (.aload 12, 2) := by decide +kernel
theorem dL_law_322 : decode cL_law 322 = .ok (.iload 15, 2) := by decide +kernel
theorem dL_law_324 : decode cL_law 324 = .ok (.iaload, 1) := by decide +kernel
theorem dL_law_325 : decode cL_law 325 = .ok (.iconst 1, 1) := by decide +kernel
theorem dL_law_326 : decode cL_law 326 = .ok (.if_icmp .lt 30, 3) := by decide +kernel
theorem dL_law_329 : decode cL_law 329 = .ok (.aload 12, 2) := by decide +kernel
theorem dL_law_331 : decode cL_law 331 = .ok (.iload 15, 2) := by decide +kernel
theorem dL_law_333 : decode cL_law 333 = .ok (.iaload, 1) := by decide +kernel
theorem dL_law_334 : decode cL_law 334 = .ok (.bipush 9, 2) := by decide +kernel
theorem dL_law_336 : decode cL_law 336 = .ok (.if_icmp .gt 20, 3) := by decide +kernel
theorem dL_law_339 : decode cL_law 339 = .ok (.aload 13, 2) := by decide +kernel
theorem dL_law_341 : decode cL_law 341 = .ok (.iload 15, 2) := by decide +kernel
theorem dL_law_343 : decode cL_law 343 = .ok (.iaload, 1) := by decide +kernel
theorem dL_law_344 : decode cL_law 344 = .ok (.ifCond .lt 12, 3) := by decide +kernel
theorem dL_law_347 : decode cL_law 347 = .ok (.aload 13, 2) := by decide +kernel
theorem dL_law_349 : decode cL_law 349 = .ok (.iload 15, 2) := by decide +kernel
theorem dL_law_351 : decode cL_law 351 = .ok (.iaload, 1) := by decide +kernel
theorem dL_law_352 : decode cL_law 352 = .ok (.iconst 3, 1) := by decide +kernel
theorem dL_law_353 : decode cL_law 353 = .ok (.if_icmp .le 5, 3) := by decide +kernel
theorem dL_law_356 : decode cL_law 356 = .ok (.iconst 0, 1) := by decide +kernel
theorem dL_law_357 : decode cL_law 357 = .ok (.ireturn, 1) := by decide +kernel
theorem dL_law_358 : decode cL_law 358 = .ok (.iinc 15 1, 3) := by decide +kernel
theorem dL_law_361 : decode cL_law 361 = .ok (.goto (-119), 3) := by decide +kernel
theorem dL_law_364 : decode cL_law 364 = .ok (.iconst 0, 1) := by decide +kernel
theorem dL_law_365 : decode cL_law 365 = .ok (.istore 15, 2) := by decide +kernel
theorem dL_law_367 : decode cL_law 367 = .ok (.iload 15, 2) := by decide +kernel
theorem dL_law_369 : decode cL_law 369 = .ok (.iload 5, 2) := by decide +kernel
theorem dL_law_371 : decode cL_law 371 = .ok (.if_icmp .ge 20, 3) := by decide +kernel
theorem dL_law_374 : decode cL_law 374 = .ok (.iload 10, 2) := by decide +kernel
theorem dL_law_376 : decode cL_law 376 = .ok (.aload_n 1, 1) := by decide +kernel
theorem dL_law_377 : decode cL_law 377 = .ok (.iload 15, 2) := by decide +kernel
theorem dL_law_379 : decode cL_law 379 = .ok (.invokevirtual 104, 3) := by decide +kernel
theorem dL_law_382 : decode cL_law 382 = .ok (.isub, 1) := by decide +kernel
theorem dL_law_383 : decode cL_law 383 = .ok (.istore 10, 2) := by decide +kernel
theorem dL_law_385 : decode cL_law 385 = .ok (.iinc 15 1, 3) := by decide +kernel
theorem dL_law_388 : decode cL_law 388 = .ok (.goto (-21), 3) := by decide +kernel
theorem dL_law_391 : decode cL_law 391 = .ok (.iconst 0, 1) := by decide +kernel
theorem dL_law_392 : decode cL_law 392 = .ok (.istore 15, 2) := by decide +kernel
theorem dL_law_394 : decode cL_law 394 = .ok (.iload 7, 2) := by decide +kernel
theorem dL_law_396 : decode cL_law 396 = .ok (.newarray .int, 2) := by decide +kernel
theorem dL_law_398 : decode cL_law 398 = .ok (.astore 16, 2) := by decide +kernel
theorem dL_law_400 : decode cL_law 400 = .ok (.iload 7, 2) := by decide +kernel
theorem dL_law_402 : decode cL_law 402 = .ok (.newarray .int, 2) := by decide +kernel
theorem dL_law_404 : decode cL_law 404 = .ok (.astore 17, 2) := by decide +kernel
theorem dL_law_406 : decode cL_law 406 = .ok (.iload 7, 2) := by decide +kernel
theorem dL_law_408 : decode cL_law 408 = .ok (.newarray .int, 2) := by decide +kernel
theorem dL_law_410 : decode cL_law 410 = .ok (.astore 18, 2) := by decide +kernel
theorem dL_law_412 : decode cL_law 412 = .ok (.iload 7, 2) := by decide +kernel
theorem dL_law_414 : decode cL_law 414 = .ok (.newarray .int, 2) := by decide +kernel
theorem dL_law_416 : decode cL_law 416 = .ok (.astore 19, 2) := by decide +kernel
theorem dL_law_418 : decode cL_law 418 = .ok (.iconst 0, 1) := by decide +kernel
theorem dL_law_419 : decode cL_law 419 = .ok (.istore 20, 2) := by decide +kernel
theorem dL_law_421 : decode cL_law 421 = .ok (.iload 20, 2) := by decide +kernel
theorem dL_law_423 : decode cL_law 423 = .ok (.iload 7, 2) := by decide +kernel
theorem dL_law_425 : decode cL_law 425 = .ok (.if_icmp .ge 331, 3) := by decide +kernel
theorem dL_law_428 : decode cL_law 428 = .ok (.aload 16, 2) := by decide +kernel
theorem dL_law_430 : decode cL_law 430 = .ok (.iload 20, 2) := by decide +kernel
theorem dL_law_432 : decode cL_law 432 = .ok (.aload_n 1, 1) := by decide +kernel
theorem dL_law_433 : decode cL_law 433 = .ok (.iload 20, 2) := by decide +kernel
theorem dL_law_435 : decode cL_law 435 = .ok (.invokevirtual 122, 3) := by decide +kernel
theorem dL_law_438 : decode cL_law 438 = .ok (.iastore, 1) := by decide +kernel
theorem dL_law_439 : decode cL_law 439 = .ok (.aload 17, 2) := by decide +kernel
theorem dL_law_441 : decode cL_law 441 = .ok (.iload 20, 2) := by decide +kernel
theorem dL_law_443 : decode cL_law 443 = .ok (.aload_n 1, 1) := by decide +kernel
theorem dL_law_444 : decode cL_law 444 = .ok (.iload 20, 2) := by decide +kernel
theorem dL_law_446 : decode cL_law 446 = .ok (.invokevirtual 125, 3) := by decide +kernel
theorem dL_law_449 : decode cL_law 449 = .ok (.iastore, 1) := by decide +kernel
theorem dL_law_450 : decode cL_law 450 = .ok (.aload 18, 2) := by decide +kernel
theorem dL_law_452 : decode cL_law 452 = .ok (.iload 20, 2) := by decide +kernel
theorem dL_law_454 : decode cL_law 454 = .ok (.aload_n 1, 1) := by decide +kernel
theorem dL_law_455 : decode cL_law 455 = .ok (.iload 20, 2) := by decide +kernel
theorem dL_law_457 : decode cL_law 457 = .ok (.invokevirtual 128, 3) := by decide +kernel
theorem dL_law_460 : decode cL_law 460 = .ok (.iastore, 1) := by decide +kernel
theorem dL_law_461 : decode cL_law 461 = .ok (.aload 19, 2) := by decide +kernel
theorem dL_law_463 : decode cL_law 463 = .ok (.iload 20, 2) := by decide +kernel
theorem dL_law_465 : decode cL_law 465 = .ok (.aload_n 1, 1) := by decide +kernel
theorem dL_law_466 : decode cL_law 466 = .ok (.iload 20, 2) := by decide +kernel
theorem dL_law_468 : decode cL_law 468 = .ok (.invokevirtual 131, 3) := by decide +kernel
theorem dL_law_471 : decode cL_law 471 = .ok (.iastore, 1) := by decide +kernel
theorem dL_law_472 : decode cL_law 472 = .ok (.aload_n 1, 1) := by decide +kernel
theorem dL_law_473 : decode cL_law 473 = .ok (.iload 20, 2) := by decide +kernel
theorem dL_law_475 : decode cL_law 475 = .ok (.invokevirtual 134, 3) := by decide +kernel
theorem dL_law_478 : decode cL_law 478 = .ok (.istore 21, 2) := by decide +kernel
theorem dL_law_480 : decode cL_law 480 = .ok (.aload_n 1, 1) := by decide +kernel
theorem dL_law_481 : decode cL_law 481 = .ok (.iload 20, 2) := by decide +kernel
theorem dL_law_483 : decode cL_law 483 = .ok (.invokevirtual 137, 3) := by decide +kernel
theorem dL_law_486 : decode cL_law 486 = .ok (.istore 22, 2) := by decide +kernel
theorem dL_law_488 : decode cL_law 488 = .ok (.iload 15, 2) := by decide +kernel
theorem dL_law_490 : decode cL_law 490 = .ok (.aload 16, 2) := by decide +kernel
theorem dL_law_492 : decode cL_law 492 = .ok (.iload 20, 2) := by decide +kernel
theorem dL_law_494 : decode cL_law 494 = .ok (.iaload, 1) := by decide +kernel
theorem dL_law_495 : decode cL_law 495 = .ok (.iload 5, 2) := by decide +kernel
theorem dL_law_497 : decode cL_law 497 = .ok (.if_icmp .ne 7, 3) := by decide +kernel
theorem dL_law_500 : decode cL_law 500 = .ok (.iconst 1, 1) := by decide +kernel
theorem dL_law_501 : decode cL_law 501 = .ok (.goto 4, 3) := by decide +kernel
theorem dL_law_504 : decode cL_law 504 = .ok (.iconst 0, 1) := by decide +kernel
theorem dL_law_505 : decode cL_law 505 = .ok (.iadd, 1) := by decide +kernel
theorem dL_law_506 : decode cL_law 506 = .ok (.istore 15, 2) := by decide +kernel
theorem dL_law_508 : decode cL_law 508 = .ok (.aload 16, 2) := by decide +kernel
theorem dL_law_510 : decode cL_law 510 = .ok (.iload 20, 2) := by decide +kernel
theorem dL_law_512 : decode cL_law 512 = .ok (.iaload, 1) := by decide +kernel
theorem dL_law_513 : decode cL_law 513 = .ok (.ifCond .lt 235, 3) := by decide +kernel
theorem dL_law_516 : decode cL_law 516 = .ok (.aload 16, 2) := by decide +kernel
theorem dL_law_518 : decode cL_law 518 = .ok (.iload 20, 2) := by decide +kernel
theorem dL_law_520 : decode cL_law 520 = .ok (.iaload, 1) := by decide +kernel
theorem dL_law_521 : decode cL_law 521 = .ok (.iload 5, 2) := by decide +kernel
theorem dL_law_523 : decode cL_law 523 = .ok (.if_icmp .gt 225, 3) := by decide +kernel
theorem dL_law_526 : decode cL_law 526 = .ok (.aload 17, 2) := by decide +kernel
theorem dL_law_528 : decode cL_law 528 = .ok (.iload 20, 2) := by decide +kernel
theorem dL_law_530 : decode cL_law 530 = .ok (.iaload, 1) := by decide +kernel
theorem dL_law_531 : decode cL_law 531 = .ok (.ifCond .lt 217, 3) := by decide +kernel
theorem dL_law_534 : decode cL_law 534 = .ok (.aload 17, 2) := by decide +kernel
theorem dL_law_536 : decode cL_law 536 = .ok (.iload 20, 2) := by decide +kernel
theorem dL_law_538 : decode cL_law 538 = .ok (.iaload, 1) := by decide +kernel
theorem dL_law_539 : decode cL_law 539 = .ok (.bipush 20, 2) := by decide +kernel
theorem dL_law_541 : decode cL_law 541 = .ok (.if_icmp .gt 207, 3) := by decide +kernel
theorem dL_law_544 : decode cL_law 544 = .ok (.aload 18, 2) := by decide +kernel
theorem dL_law_546 : decode cL_law 546 = .ok (.iload 20, 2) := by decide +kernel
theorem dL_law_548 : decode cL_law 548 = .ok (.iaload, 1) := by decide +kernel
theorem dL_law_549 : decode cL_law 549 = .ok (.ifCond .lt 199, 3) := by decide +kernel
theorem dL_law_552 : decode cL_law 552 = .ok (.aload 18, 2) := by decide +kernel
theorem dL_law_554 : decode cL_law 554 = .ok (.iload 20, 2) := by decide +kernel
theorem dL_law_556 : decode cL_law 556 = .ok (.iaload, 1) := by decide +kernel
theorem dL_law_557 : decode cL_law 557 = .ok (.bipush 20, 2) := by decide +kernel
theorem dL_law_559 : decode cL_law 559 = .ok (.if_icmp .gt 189, 3) := by decide +kernel
theorem dL_law_562 : decode cL_law 562 = .ok (.aload 19, 2) := by decide +kernel
theorem dL_law_564 : decode cL_law 564 = .ok (.iload 20, 2) := by decide +kernel
theorem dL_law_566 : decode cL_law 566 = .ok (.iaload, 1) := by decide +kernel
theorem dL_law_567 : decode cL_law 567 = .ok (.ifCond .lt 181, 3) := by decide +kernel
theorem dL_law_570 : decode cL_law 570 = .ok (.aload 19, 2) := by decide +kernel
theorem dL_law_572 : decode cL_law 572 = .ok (.iload 20, 2) := by decide +kernel
theorem dL_law_574 : decode cL_law 574 = .ok (.iaload, 1) := by decide +kernel
theorem dL_law_575 : decode cL_law 575 = .ok (.iconst 4, 1) := by decide +kernel
theorem dL_law_576 : decode cL_law 576 = .ok (.if_icmp .gt 172, 3) := by decide +kernel
theorem dL_law_579 : decode cL_law 579 = .ok (.aload_n 1, 1) := by decide +kernel
end
section
theorem dL_law_580 : decode cL_law 580 = .ok (.iload 20, 2) := by decide +kernel
theorem dL_law_582 : decode cL_law 582 = .ok (.invokevirtual 140, 3) := by decide +kernel
theorem dL_law_585 : decode cL_law 585 = .ok (.aload 16, 2) := by decide +kernel
theorem dL_law_587 : decode cL_law 587 = .ok (.iload 20, 2) := by decide +kernel
theorem dL_law_589 : decode cL_law 589 = .ok (.iaload, 1) := by decide +kernel
theorem dL_law_590 : decode cL_law 590 = .ok (.iload 5, 2) := by decide +kernel
theorem dL_law_592 : decode cL_law 592 = .ok (.if_icmp .ne 7, 3) := by decide +kernel
theorem dL_law_595 : decode cL_law 595 = .ok (.iconst 1, 1) := by decide +kernel
theorem dL_law_596 : decode cL_law 596 = .ok (.goto 4, 3) := by decide +kernel
theorem dL_law_599 : decode cL_law 599 = .ok (.iconst 0, 1) := by decide +kernel
theorem dL_law_600 : decode cL_law 600 = .ok (.if_icmp .ne 148, 3) := by decide +kernel
theorem dL_law_603 : decode cL_law 603 = .ok (.iload 21, 2) := by decide +kernel
theorem dL_law_605 : decode cL_law 605 = .ok (.ifCond .ne 7, 3) := by decide +kernel
theorem dL_law_608 : decode cL_law 608 = .ok (.iconst 1, 1) := by decide +kernel
theorem dL_law_609 : decode cL_law 609 = .ok (.goto 4, 3) := by decide +kernel
theorem dL_law_612 : decode cL_law 612 = .ok (.iconst 0, 1) := by decide +kernel
theorem dL_law_613 : decode cL_law 613 = .ok (.iload 22, 2) := by decide +kernel
theorem dL_law_615 : decode cL_law 615 = .ok (.ifCond .ne 7, 3) := by decide +kernel
theorem dL_law_618 : decode cL_law 618 = .ok (.iconst 1, 1) := by decide +kernel
theorem dL_law_619 : decode cL_law 619 = .ok (.goto 4, 3) := by decide +kernel
theorem dL_law_622 : decode cL_law 622 = .ok (.iconst 0, 1) := by decide +kernel
theorem dL_law_623 : decode cL_law 623 = .ok (.if_icmp .ne 125, 3) := by decide +kernel
theorem dL_law_626 : decode cL_law 626 = .ok (.iload 21, 2) := by decide +kernel
theorem dL_law_628 : decode cL_law 628 = .ok (.ifCond .lt 120, 3) := by decide +kernel
theorem dL_law_631 : decode cL_law 631 = .ok (.iload 21, 2) := by decide +kernel
theorem dL_law_633 : decode cL_law 633 = .ok (.iconst 4, 1) := by decide +kernel
theorem dL_law_634 : decode cL_law 634 = .ok (.if_icmp .gt 114, 3) := by decide +kernel
theorem dL_law_637 : decode cL_law 637 = .ok (.iload 22, 2) := by decide +kernel
theorem dL_law_639 : decode cL_law 639 = .ok (.iconst 5, 1) := by decide +kernel
theorem dL_law_640 : decode cL_law 640 = .ok (.if_icmp .le 7, 3) := by decide +kernel
theorem dL_law_643 : decode cL_law 643 = .ok (.iconst 1, 1) := by decide +kernel
theorem dL_law_644 : decode cL_law 644 = .ok (.goto 4, 3) := by decide +kernel
theorem dL_law_647 : decode cL_law 647 = .ok (.iconst 0, 1) := by decide +kernel
theorem dL_law_648 : decode cL_law 648 = .ok (.iload 21, 2) := by decide +kernel
theorem dL_law_650 : decode cL_law 650 = .ok (.iconst 1, 1) := by decide +kernel
theorem dL_law_651 : decode cL_law 651 = .ok (.if_icmp .le 7, 3) := by decide +kernel
theorem dL_law_654 : decode cL_law 654 = .ok (.iconst 1, 1) := by decide +kernel
theorem dL_law_655 : decode cL_law 655 = .ok (.goto 4, 3) := by decide +kernel
theorem dL_law_658 : decode cL_law 658 = .ok (.iconst 0, 1) := by decide +kernel
theorem dL_law_659 : decode cL_law 659 = .ok (.if_icmp .ne 89, 3) := by decide +kernel
theorem dL_law_662 : decode cL_law 662 = .ok (.iload 22, 2) := by decide +kernel
theorem dL_law_664 : decode cL_law 664 = .ok (.bipush 10, 2) := by decide +kernel
theorem dL_law_666 : decode cL_law 666 = .ok (.if_icmp .le 7, 3) := by decide +kernel
theorem dL_law_669 : decode cL_law 669 = .ok (.iconst 1, 1) := by decide +kernel
theorem dL_law_670 : decode cL_law 670 = .ok (.goto 4, 3) := by decide +kernel
theorem dL_law_673 : decode cL_law 673 = .ok (.iconst 0, 1) := by decide +kernel
theorem dL_law_674 : decode cL_law 674 = .ok (.iload 21, 2) := by decide +kernel
theorem dL_law_676 : decode cL_law 676 = .ok (.iconst 2, 1) := by decide +kernel
theorem dL_law_677 : decode cL_law 677 = .ok (.if_icmp .le 7, 3) := by decide +kernel
theorem dL_law_680 : decode cL_law 680 = .ok (.iconst 1, 1) := by decide +kernel
theorem dL_law_681 : decode cL_law 681 = .ok (.goto 4, 3) := by decide +kernel
theorem dL_law_684 : decode cL_law 684 = .ok (.iconst 0, 1) := by decide +kernel
theorem dL_law_685 : decode cL_law 685 = .ok (.if_icmp .ne 63, 3) := by decide +kernel
theorem dL_law_688 : decode cL_law 688 = .ok (.iload 22, 2) := by decide +kernel
theorem dL_law_690 : decode cL_law 690 = .ok (.bipush 20, 2) := by decide +kernel
theorem dL_law_692 : decode cL_law 692 = .ok (.if_icmp .le 7, 3) := by decide +kernel
theorem dL_law_695 : decode cL_law 695 = .ok (.iconst 1, 1) := by decide +kernel
theorem dL_law_696 : decode cL_law 696 = .ok (.goto 4, 3) := by decide +kernel
theorem dL_law_699 : decode cL_law 699 = .ok (.iconst 0, 1) := by decide +kernel
theorem dL_law_700 : decode cL_law 700 = .ok (.iload 21, 2) := by decide +kernel
theorem dL_law_702 : decode cL_law 702 = .ok (.iconst 3, 1) := by decide +kernel
theorem dL_law_703 : decode cL_law 703 = .ok (.if_icmp .le 7, 3) := by decide +kernel
theorem dL_law_706 : decode cL_law 706 = .ok (.iconst 1, 1) := by decide +kernel
theorem dL_law_707 : decode cL_law 707 = .ok (.goto 4, 3) := by decide +kernel
theorem dL_law_710 : decode cL_law 710 = .ok (.iconst 0, 1) := by decide +kernel
theorem dL_law_711 : decode cL_law 711 = .ok (.if_icmp .ne 37, 3) := by decide +kernel
theorem dL_law_714 : decode cL_law 714 = .ok (.aload_n 1, 1) := by decide +kernel
theorem dL_law_715 : decode cL_law 715 = .ok (.iload 20, 2) := by decide +kernel
theorem dL_law_717 : decode cL_law 717 = .ok (.invokevirtual 144, 3) := by decide +kernel
theorem dL_law_720 : decode cL_law 720 = .ok (.aload 16, 2) := by decide +kernel
theorem dL_law_722 : decode cL_law 722 = .ok (.iload 20, 2) := by decide +kernel
theorem dL_law_724 : decode cL_law 724 = .ok (.iaload, 1) := by decide +kernel
theorem dL_law_725 : decode cL_law 725 = .ok (.iload 5, 2) := by decide +kernel
theorem dL_law_727 : decode cL_law 727 = .ok (.if_icmp .ge 17, 3) := by decide +kernel
theorem dL_law_730 : decode cL_law 730 = .ok (.iload 22, 2) := by decide +kernel
theorem dL_law_732 : decode cL_law 732 = .ok (.aload 18, 2) := by decide +kernel
theorem dL_law_734 : decode cL_law 734 = .ok (.iload 20, 2) := by decide +kernel
theorem dL_law_736 : decode cL_law 736 = .ok (.iaload, 1) := by decide +kernel
theorem dL_law_737 : decode cL_law 737 = .ok (.if_icmp .gt 7, 3) := by decide +kernel
theorem dL_law_740 : decode cL_law 740 = .ok (.iconst 1, 1) := by decide +kernel
theorem dL_law_741 : decode cL_law 741 = .ok (.goto 4, 3) := by decide +kernel
theorem dL_law_744 : decode cL_law 744 = .ok (.iconst 0, 1) := by decide +kernel
theorem dL_law_745 : decode cL_law 745 = .ok (.if_icmp .eq 5, 3) := by decide +kernel
theorem dL_law_748 : decode cL_law 748 = .ok (.iconst 0, 1) := by decide +kernel
theorem dL_law_749 : decode cL_law 749 = .ok (.ireturn, 1) := by decide +kernel
theorem dL_law_750 : decode cL_law 750 = .ok (.iinc 20 1, 3) := by decide +kernel
theorem dL_law_753 : decode cL_law 753 = .ok (.goto (-332), 3) := by decide +kernel
theorem dL_law_756 : decode cL_law 756 = .ok (.iload 9, 2) := by decide +kernel
theorem dL_law_758 : decode cL_law 758 = .ok (.aload_n 1, 1) := by decide +kernel
theorem dL_law_759 : decode cL_law 759 = .ok (.invokevirtual 147, 3) := by decide +kernel
theorem dL_law_762 : decode cL_law 762 = .ok (.if_icmp .ne 41, 3) := by decide +kernel
theorem dL_law_765 : decode cL_law 765 = .ok (.iload 10, 2) := by decide +kernel
theorem dL_law_767 : decode cL_law 767 = .ok (.ifCond .ne 36, 3) := by decide +kernel
theorem dL_law_770 : decode cL_law 770 = .ok (.iload 15, 2) := by decide +kernel
theorem dL_law_772 : decode cL_law 772 = .ok (.aload_n 1, 1) := by decide +kernel
theorem dL_law_773 : decode cL_law 773 = .ok (.invokevirtual 150, 3) := by decide +kernel
theorem dL_law_776 : decode cL_law 776 = .ok (.if_icmp .ne 27, 3) := by decide +kernel
theorem dL_law_779 : decode cL_law 779 = .ok (.aload_n 1, 1) := by decide +kernel
theorem dL_law_780 : decode cL_law 780 = .ok (.invokevirtual 153, 3) := by decide +kernel
theorem dL_law_783 : decode cL_law 783 = .ok (.iload 6, 2) := by decide +kernel
theorem dL_law_785 : decode cL_law 785 = .ok (.ifCond .ne 7, 3) := by decide +kernel
theorem dL_law_788 : decode cL_law 788 = .ok (.dconst 0, 1) := by decide +kernel
theorem dL_law_789 : decode cL_law 789 = .ok (.goto 10, 3) := by decide +kernel
theorem dL_law_792 : decode cL_law 792 = .ok (.iload 11, 2) := by decide +kernel
theorem dL_law_794 : decode cL_law 794 = .ok (.i2d, 1) := by decide +kernel
theorem dL_law_795 : decode cL_law 795 = .ok (.iload 6, 2) := by decide +kernel
theorem dL_law_797 : decode cL_law 797 = .ok (.i2d, 1) := by decide +kernel
theorem dL_law_798 : decode cL_law 798 = .ok (.ddiv, 1) := by decide +kernel
theorem dL_law_799 : decode cL_law 799 = .ok (.dcmp .l, 1) := by decide +kernel
theorem dL_law_800 : decode cL_law 800 = .ok (.ifCond .eq 5, 3) := by decide +kernel
theorem dL_law_803 : decode cL_law 803 = .ok (.iconst 0, 1) := by decide +kernel
theorem dL_law_804 : decode cL_law 804 = .ok (.ireturn, 1) := by decide +kernel
theorem dL_law_805 : decode cL_law 805 = .ok (.aload_n 1, 1) := by decide +kernel
theorem dL_law_806 : decode cL_law 806 = .ok (.invokevirtual 147, 3) := by decide +kernel
theorem dL_law_809 : decode cL_law 809 = .ok (.istore 20, 2) := by decide +kernel
theorem dL_law_811 : decode cL_law 811 = .ok (.aload_n 1, 1) := by decide +kernel
theorem dL_law_812 : decode cL_law 812 = .ok (.invokevirtual 157, 3) := by decide +kernel
theorem dL_law_815 : decode cL_law 815 = .ok (.istore 21, 2) := by decide +kernel
theorem dL_law_817 : decode cL_law 817 = .ok (.aload_n 1, 1) := by decide +kernel
theorem dL_law_818 : decode cL_law 818 = .ok (.invokevirtual 160, 3) := by decide +kernel
theorem dL_law_821 : decode cL_law 821 = .ok (.istore 22, 2) := by decide +kernel
theorem dL_law_823 : decode cL_law 823 = .ok (.aload_n 1, 1) := by decide +kernel
theorem dL_law_824 : decode cL_law 824 = .ok (.iconst 1, 1) := by decide +kernel
theorem dL_law_825 : decode cL_law 825 = .ok (.invokevirtual 73, 3) := by decide +kernel
theorem dL_law_828 : decode cL_law 828 = .ok (.istore 23, 2) := by decide +kernel
theorem dL_law_830 : decode cL_law 830 = .ok (.aload_n 2, 1) := by decide +kernel
theorem dL_law_831 : decode cL_law 831 = .ok (.invokevirtual 163, 3) := by decide +kernel
theorem dL_law_834 : decode cL_law 834 = .ok (.iconst 0, 1) := by decide +kernel
theorem dL_law_835 : decode cL_law 835 = .ok (.istore 24, 2) := by decide +kernel
theorem dL_law_837 : decode cL_law 837 = .ok (.iconst 0, 1) := by decide +kernel
theorem dL_law_838 : decode cL_law 838 = .ok (.istore 25, 2) := by decide +kernel
theorem dL_law_840 : decode cL_law 840 = .ok (.iconst 0, 1) := by decide +kernel
theorem dL_law_841 : decode cL_law 841 = .ok (.istore 26, 2) := by decide +kernel
theorem dL_law_843 : decode cL_law 843 = .ok (.iconst 0, 1) := by decide +kernel
theorem dL_law_844 : decode cL_law 844 = .ok (.istore 27, 2) := by decide +kernel
theorem dL_law_846 : decode cL_law 846 = .ok (.iload 27, 2) := by decide +kernel
theorem dL_law_848 : decode cL_law 848 = .ok (.iload 7, 2) := by decide +kernel
theorem dL_law_850 : decode cL_law 850 = .ok (.if_icmp .ge 333, 3) := by decide +kernel
theorem dL_law_853 : decode cL_law 853 = .ok (.aload_n 1, 1) := by decide +kernel
theorem dL_law_854 : decode cL_law 854 = .ok (.iload 27, 2) := by decide +kernel
theorem dL_law_856 : decode cL_law 856 = .ok (.invokevirtual 122, 3) := by decide +kernel
theorem dL_law_859 : decode cL_law 859 = .ok (.istore 28, 2) := by decide +kernel
theorem dL_law_861 : decode cL_law 861 = .ok (.iload 28, 2) := by decide +kernel
theorem dL_law_863 : decode cL_law 863 = .ok (.aload 16, 2) := by decide +kernel
theorem dL_law_865 : decode cL_law 865 = .ok (.iload 27, 2) := by decide +kernel
theorem dL_law_867 : decode cL_law 867 = .ok (.iaload, 1) := by decide +kernel
theorem dL_law_868 : decode cL_law 868 = .ok (.iconst 1, 1) := by decide +kernel
theorem dL_law_869 : decode cL_law 869 = .ok (.iadd, 1) := by decide +kernel
theorem dL_law_870 : decode cL_law 870 = .ok (.if_icmp .ne 7, 3) := by decide +kernel
theorem dL_law_873 : decode cL_law 873 = .ok (.iconst 1, 1) := by decide +kernel
theorem dL_law_874 : decode cL_law 874 = .ok (.goto 4, 3) := by decide +kernel
theorem dL_law_877 : decode cL_law 877 = .ok (.iconst 0, 1) := by decide +kernel
theorem dL_law_878 : decode cL_law 878 = .ok (.istore 29, 2) := by decide +kernel
theorem dL_law_880 : decode cL_law 880 = .ok (.aload_n 1, 1) := by decide +kernel
theorem dL_law_881 : decode cL_law 881 = .ok (.iload 27, 2) := by decide +kernel
theorem dL_law_883 : decode cL_law 883 = .ok (.invokevirtual 125, 3) := by decide +kernel
theorem dL_law_886 : decode cL_law 886 = .ok (.aload 17, 2) := by decide +kernel
theorem dL_law_888 : decode cL_law 888 = .ok (.iload 27, 2) := by decide +kernel
theorem dL_law_890 : decode cL_law 890 = .ok (.iaload, 1) := by decide +kernel
theorem dL_law_891 : decode cL_law 891 = .ok (.iconst 1, 1) := by decide +kernel
theorem dL_law_892 : decode cL_law 892 = .ok (.isub, 1) := by decide +kernel
theorem dL_law_893 : decode cL_law 893 = .ok (.if_icmp .ne 7, 3) := by decide +kernel
theorem dL_law_896 : decode cL_law 896 = .ok (.iconst 1, 1) := by decide +kernel
theorem dL_law_897 : decode cL_law 897 = .ok (.goto 4, 3) := by decide +kernel
theorem dL_law_900 : decode cL_law 900 = .ok (.iconst 0, 1) := by decide +kernel
theorem dL_law_901 : decode cL_law 901 = .ok (.istore 30, 2) := by decide +kernel
theorem dL_law_903 : decode cL_law 903 = .ok (.aload_n 1, 1) := by decide +kernel
theorem dL_law_904 : decode cL_law 904 = .ok (.iload 27, 2) := by decide +kernel
theorem dL_law_906 : decode cL_law 906 = .ok (.invokevirtual 131, 3) := by decide +kernel
theorem dL_law_909 : decode cL_law 909 = .ok (.aload 19, 2) := by decide +kernel
theorem dL_law_911 : decode cL_law 911 = .ok (.iload 27, 2) := by decide +kernel
theorem dL_law_913 : decode cL_law 913 = .ok (.iaload, 1) := by decide +kernel
theorem dL_law_914 : decode cL_law 914 = .ok (.if_icmp .le 7, 3) := by decide +kernel
theorem dL_law_917 : decode cL_law 917 = .ok (.iconst 1, 1) := by decide +kernel
theorem dL_law_918 : decode cL_law 918 = .ok (.goto 4, 3) := by decide +kernel
theorem dL_law_921 : decode cL_law 921 = .ok (.iconst 0, 1) := by decide +kernel
theorem dL_law_922 : decode cL_law 922 = .ok (.istore 31, 2) := by decide +kernel
theorem dL_law_924 : decode cL_law 924 = .ok (.iload 24, 2) := by decide +kernel
theorem dL_law_926 : decode cL_law 926 = .ok (.iload 29, 2) := by decide +kernel
theorem dL_law_928 : decode cL_law 928 = .ok (.ifCond .eq 14, 3) := by decide +kernel
theorem dL_law_931 : decode cL_law 931 = .ok (.iload 28, 2) := by decide +kernel
theorem dL_law_933 : decode cL_law 933 = .ok (.iload 5, 2) := by decide +kernel
theorem dL_law_935 : decode cL_law 935 = .ok (.if_icmp .ne 7, 3) := by decide +kernel
theorem dL_law_938 : decode cL_law 938 = .ok (.iconst 1, 1) := by decide +kernel
theorem dL_law_939 : decode cL_law 939 = .ok (.goto 4, 3) := by decide +kernel
theorem dL_law_942 : decode cL_law 942 = .ok (.iconst 0, 1) := by decide +kernel
theorem dL_law_943 : decode cL_law 943 = .ok (.iadd, 1) := by decide +kernel
theorem dL_law_944 : decode cL_law 944 = .ok (.istore 24, 2) := by decide +kernel
theorem dL_law_946 : decode cL_law 946 = .ok (.iload 25, 2) := by decide +kernel
theorem dL_law_948 : decode cL_law 948 = .ok (.iload 30, 2) := by decide +kernel
theorem dL_law_950 : decode cL_law 950 = .ok (.ifCond .eq 7, 3) := by decide +kernel
theorem dL_law_953 : decode cL_law 953 = .ok (.iconst 1, 1) := by decide +kernel
theorem dL_law_954 : decode cL_law 954 = .ok (.goto 4, 3) := by decide +kernel
theorem dL_law_957 : decode cL_law 957 = .ok (.iconst 0, 1) := by decide +kernel
theorem dL_law_958 : decode cL_law 958 = .ok (.iadd, 1) := by decide +kernel
theorem dL_law_959 : decode cL_law 959 = .ok (.istore 25, 2) := by decide +kernel
theorem dL_law_961 : decode cL_law 961 = .ok (.iload 26, 2) := by decide +kernel
theorem dL_law_963 : decode cL_law 963 = .ok (.iload 31, 2) := by decide +kernel
theorem dL_law_965 : decode cL_law 965 = .ok (.ifCond .eq 7, 3) := by decide +kernel
theorem dL_law_968 : decode cL_law 968 = .ok (.iconst 1, 1) := by decide +kernel
theorem dL_law_969 : decode cL_law 969 = .ok (.goto 4, 3) := by decide +kernel
theorem dL_law_972 : decode cL_law 972 = .ok (.iconst 0, 1) := by decide +kernel
theorem dL_law_973 : decode cL_law 973 = .ok (.iadd, 1) := by decide +kernel
theorem dL_law_974 : decode cL_law 974 = .ok (.istore 26, 2) := by decide +kernel
theorem dL_law_976 : decode cL_law 976 = .ok (.iload 29, 2) := by decide +kernel
theorem dL_law_978 : decode cL_law 978 = .ok (.ifCond .eq 7, 3) := by decide +kernel
theorem dL_law_981 : decode cL_law 981 = .ok (.iconst 1, 1) := by decide +kernel
theorem dL_law_982 : decode cL_law 982 = .ok (.goto 4, 3) := by decide +kernel
theorem dL_law_985 : decode cL_law 985 = .ok (.iconst 0, 1) := by decide +kernel
theorem dL_law_986 : decode cL_law 986 = .ok (.iload 30, 2) := by decide +kernel
theorem dL_law_988 : decode cL_law 988 = .ok (.ifCond .eq 7, 3) := by decide +kernel
theorem dL_law_991 : decode cL_law 991 = .ok (.iconst 1, 1) := by decide +kernel
theorem dL_law_992 : decode cL_law 992 = .ok (.goto 4, 3) := by decide +kernel
theorem dL_law_995 : decode cL_law 995 = .ok (.iconst 0, 1) := by decide +kernel
theorem dL_law_996 : decode cL_law 996 = .ok (.iadd, 1) := by decide +kernel
theorem dL_law_997 : decode cL_law 997 = .ok (.iload 31, 2) := by decide +kernel
theorem dL_law_999 : decode cL_law 999 = .ok (.ifCond .eq 7, 3) := by decide +kernel
theorem dL_law_1002 : decode cL_law 1002 = .ok (.iconst 1, 1) := by decide +kernel
theorem dL_law_1003 : decode cL_law 1003 = .ok (.goto 4, 3) := by decide +kernel
theorem dL_law_1006 : decode cL_law 1006 = .ok (.iconst 0, 1) := by decide +kernel
theorem dL_law_1007 : decode cL_law 1007 = .ok (.iadd, 1) := by decide +kernel
theorem dL_law_1008 : decode cL_law 1008 = .ok (.istore 32, 2) := by decide +kernel
theorem dL_law_1010 : decode cL_law 1010 = .ok (.aload 16, 2) := by decide +kernel
theorem dL_law_1012 : decode cL_law 1012 = .ok (.iload 27, 2) := by decide +kernel
theorem dL_law_1014 : decode cL_law 1014 = .ok (.iaload, 1) := by decide +kernel
theorem dL_law_1015 : decode cL_law 1015 = .ok (.iload 5, 2) := by decide +kernel
theorem dL_law_1017 : decode cL_law 1017 = .ok (.if_icmp .eq 11, 3) := by decide +kernel
theorem dL_law_1020 : decode cL_law 1020 = .ok (.aload 19, 2) := by decide +kernel
theorem dL_law_1022 : decode cL_law 1022 = .ok (.iload 27, 2) := by decide +kernel
theorem dL_law_1024 : decode cL_law 1024 = .ok (.iaload, 1) := by decide +kernel
theorem dL_law_1025 : decode cL_law 1025 = .ok (.ifCond .le 7, 3) := by decide +kernel
theorem dL_law_1028 : decode cL_law 1028 = .ok (.iconst 1, 1) := by decide +kernel
theorem dL_law_1029 : decode cL_law 1029 = .ok (.goto 4, 3) := by decide +kernel
theorem dL_law_1032 : decode cL_law 1032 = .ok (.iconst 0, 1) := by decide +kernel
theorem dL_law_1033 : decode cL_law 1033 = .ok (.istore 33, 2) := by decide +kernel
theorem dL_law_1035 : decode cL_law 1035 = .ok (.iload 32, 2) := by decide +kernel
theorem dL_law_1037 : decode cL_law 1037 = .ok (.iload 33, 2) := by decide +kernel
theorem dL_law_1039 : decode cL_law 1039 = .ok (.ifCond .eq 7, 3) := by decide +kernel
theorem dL_law_1042 : decode cL_law 1042 = .ok (.iconst 0, 1) := by decide +kernel
theorem dL_law_1043 : decode cL_law 1043 = .ok (.goto 4, 3) := by decide +kernel
theorem dL_law_1046 : decode cL_law 1046 = .ok (.iconst 1, 1) := by decide +kernel
theorem dL_law_1047 : decode cL_law 1047 = .ok (.if_icmp .ne 128, 3) := by decide +kernel
theorem dL_law_1050 : decode cL_law 1050 = .ok (.iload 30, 2) := by decide +kernel
theorem dL_law_1052 : decode cL_law 1052 = .ok (.ifCond .ne 17, 3) := by decide +kernel
theorem dL_law_1055 : decode cL_law 1055 = .ok (.aload_n 1, 1) := by decide +kernel
theorem dL_law_1056 : decode cL_law 1056 = .ok (.iload 27, 2) := by decide +kernel
theorem dL_law_1058 : decode cL_law 1058 = .ok (.invokevirtual 125, 3) := by decide +kernel
theorem dL_law_1061 : decode cL_law 1061 = .ok (.aload 17, 2) := by decide +kernel
theorem dL_law_1063 : decode cL_law 1063 = .ok (.iload 27, 2) := by decide +kernel
theorem dL_law_1065 : decode cL_law 1065 = .ok (.iaload, 1) := by decide +kernel
end
section
theorem dL_law_1066 : decode cL_law 1066 = .ok (.if_icmp .ne 109, 3) := by decide +kernel
theorem dL_law_1069 : decode cL_law 1069 = .ok (.aload_n 1, 1) := by decide +kernel
theorem dL_law_1070 : decode cL_law 1070 = .ok (.iload 27, 2) := by decide +kernel
theorem dL_law_1072 : decode cL_law 1072 = .ok (.invokevirtual 128, 3) := by decide +kernel
theorem dL_law_1075 : decode cL_law 1075 = .ok (.iload 31, 2) := by decide +kernel
theorem dL_law_1077 : decode cL_law 1077 = .ok (.ifCond .eq 18, 3) := by decide +kernel
theorem dL_law_1080 : decode cL_law 1080 = .ok (.bipush 20, 2) := by decide +kernel
theorem dL_law_1082 : decode cL_law 1082 = .ok (.aload 18, 2) := by decide +kernel
theorem dL_law_1084 : decode cL_law 1084 = .ok (.iload 27, 2) := by decide +kernel
theorem dL_law_1086 : decode cL_law 1086 = .ok (.iaload, 1) := by decide +kernel
theorem dL_law_1087 : decode cL_law 1087 = .ok (.iconst 1, 1) := by decide +kernel
theorem dL_law_1088 : decode cL_law 1088 = .ok (.iadd, 1) := by decide +kernel
theorem dL_law_1089 : decode cL_law 1089 = .ok (.invokestatic 54, 3) := by decide +kernel
theorem dL_law_1092 : decode cL_law 1092 = .ok (.goto 8, 3) := by decide +kernel
theorem dL_law_1095 : decode cL_law 1095 = .ok (.aload 18, 2) := by decide +kernel
theorem dL_law_1097 : decode cL_law 1097 = .ok (.iload 27, 2) := by decide +kernel
theorem dL_law_1099 : decode cL_law 1099 = .ok (.iaload, 1) := by decide +kernel
theorem dL_law_1100 : decode cL_law 1100 = .ok (.if_icmp .ne 75, 3) := by decide +kernel
theorem dL_law_1103 : decode cL_law 1103 = .ok (.iload 29, 2) := by decide +kernel
theorem dL_law_1105 : decode cL_law 1105 = .ok (.ifCond .ne 32, 3) := by decide +kernel
theorem dL_law_1108 : decode cL_law 1108 = .ok (.iload 28, 2) := by decide +kernel
theorem dL_law_1110 : decode cL_law 1110 = .ok (.iload 31, 2) := by decide +kernel
theorem dL_law_1112 : decode cL_law 1112 = .ok (.ifCond .eq 17, 3) := by decide +kernel
theorem dL_law_1115 : decode cL_law 1115 = .ok (.iconst 0, 1) := by decide +kernel
theorem dL_law_1116 : decode cL_law 1116 = .ok (.aload 16, 2) := by decide +kernel
theorem dL_law_1118 : decode cL_law 1118 = .ok (.iload 27, 2) := by decide +kernel
theorem dL_law_1120 : decode cL_law 1120 = .ok (.iaload, 1) := by decide +kernel
theorem dL_law_1121 : decode cL_law 1121 = .ok (.iconst 1, 1) := by decide +kernel
theorem dL_law_1122 : decode cL_law 1122 = .ok (.isub, 1) := by decide +kernel
theorem dL_law_1123 : decode cL_law 1123 = .ok (.invokestatic 166, 3) := by decide +kernel
theorem dL_law_1126 : decode cL_law 1126 = .ok (.goto 8, 3) := by decide +kernel
theorem dL_law_1129 : decode cL_law 1129 = .ok (.aload 16, 2) := by decide +kernel
theorem dL_law_1131 : decode cL_law 1131 = .ok (.iload 27, 2) := by decide +kernel
theorem dL_law_1133 : decode cL_law 1133 = .ok (.iaload, 1) := by decide +kernel
theorem dL_law_1134 : decode cL_law 1134 = .ok (.if_icmp .ne 41, 3) := by decide +kernel
theorem dL_law_1137 : decode cL_law 1137 = .ok (.iload 31, 2) := by decide +kernel
theorem dL_law_1139 : decode cL_law 1139 = .ok (.ifCond .ne 23, 3) := by decide +kernel
theorem dL_law_1142 : decode cL_law 1142 = .ok (.aload_n 1, 1) := by decide +kernel
theorem dL_law_1143 : decode cL_law 1143 = .ok (.iload 27, 2) := by decide +kernel
theorem dL_law_1145 : decode cL_law 1145 = .ok (.invokevirtual 131, 3) := by decide +kernel
theorem dL_law_1148 : decode cL_law 1148 = .ok (.iconst 0, 1) := by decide +kernel
theorem dL_law_1149 : decode cL_law 1149 = .ok (.aload 19, 2) := by decide +kernel
theorem dL_law_1151 : decode cL_law 1151 = .ok (.iload 27, 2) := by decide +kernel
theorem dL_law_1153 : decode cL_law 1153 = .ok (.iaload, 1) := by decide +kernel
theorem dL_law_1154 : decode cL_law 1154 = .ok (.iconst 1, 1) := by decide +kernel
theorem dL_law_1155 : decode cL_law 1155 = .ok (.isub, 1) := by decide +kernel
theorem dL_law_1156 : decode cL_law 1156 = .ok (.invokestatic 166, 3) := by decide +kernel
theorem dL_law_1159 : decode cL_law 1159 = .ok (.if_icmp .ne 16, 3) := by decide +kernel
theorem dL_law_1162 : decode cL_law 1162 = .ok (.iload 31, 2) := by decide +kernel
theorem dL_law_1164 : decode cL_law 1164 = .ok (.ifCond .eq 13, 3) := by decide +kernel
theorem dL_law_1167 : decode cL_law 1167 = .ok (.aload 17, 2) := by decide +kernel
theorem dL_law_1169 : decode cL_law 1169 = .ok (.iload 27, 2) := by decide +kernel
theorem dL_law_1171 : decode cL_law 1171 = .ok (.iaload, 1) := by decide +kernel
theorem dL_law_1172 : decode cL_law 1172 = .ok (.ifCond .le 5, 3) := by decide +kernel
theorem dL_law_1175 : decode cL_law 1175 = .ok (.iconst 0, 1) := by decide +kernel
theorem dL_law_1176 : decode cL_law 1176 = .ok (.ireturn, 1) := by decide +kernel
theorem dL_law_1177 : decode cL_law 1177 = .ok (.iinc 27 1, 3) := by decide +kernel
theorem dL_law_1180 : decode cL_law 1180 = .ok (.goto (-334), 3) := by decide +kernel
theorem dL_law_1183 : decode cL_law 1183 = .ok (.iload 24, 2) := by decide +kernel
theorem dL_law_1185 : decode cL_law 1185 = .ok (.iload 23, 2) := by decide +kernel
theorem dL_law_1187 : decode cL_law 1187 = .ok (.if_icmp .ne 38, 3) := by decide +kernel
theorem dL_law_1190 : decode cL_law 1190 = .ok (.aload_n 1, 1) := by decide +kernel
theorem dL_law_1191 : decode cL_law 1191 = .ok (.invokevirtual 147, 3) := by decide +kernel
theorem dL_law_1194 : decode cL_law 1194 = .ok (.iload 20, 2) := by decide +kernel
theorem dL_law_1196 : decode cL_law 1196 = .ok (.iload 25, 2) := by decide +kernel
theorem dL_law_1198 : decode cL_law 1198 = .ok (.iadd, 1) := by decide +kernel
theorem dL_law_1199 : decode cL_law 1199 = .ok (.if_icmp .ne 26, 3) := by decide +kernel
theorem dL_law_1202 : decode cL_law 1202 = .ok (.aload_n 1, 1) := by decide +kernel
theorem dL_law_1203 : decode cL_law 1203 = .ok (.invokevirtual 157, 3) := by decide +kernel
theorem dL_law_1206 : decode cL_law 1206 = .ok (.iload 21, 2) := by decide +kernel
theorem dL_law_1208 : decode cL_law 1208 = .ok (.iload 26, 2) := by decide +kernel
theorem dL_law_1210 : decode cL_law 1210 = .ok (.iadd, 1) := by decide +kernel
theorem dL_law_1211 : decode cL_law 1211 = .ok (.if_icmp .ne 14, 3) := by decide +kernel
theorem dL_law_1214 : decode cL_law 1214 = .ok (.aload_n 1, 1) := by decide +kernel
theorem dL_law_1215 : decode cL_law 1215 = .ok (.invokevirtual 160, 3) := by decide +kernel
theorem dL_law_1218 : decode cL_law 1218 = .ok (.iload 22, 2) := by decide +kernel
theorem dL_law_1220 : decode cL_law 1220 = .ok (.iconst 1, 1) := by decide +kernel
theorem dL_law_1221 : decode cL_law 1221 = .ok (.iadd, 1) := by decide +kernel
theorem dL_law_1222 : decode cL_law 1222 = .ok (.if_icmp .eq 5, 3) := by decide +kernel
theorem dL_law_1225 : decode cL_law 1225 = .ok (.iconst 0, 1) := by decide +kernel
theorem dL_law_1226 : decode cL_law 1226 = .ok (.ireturn, 1) := by decide +kernel
theorem dL_law_1227 : decode cL_law 1227 = .ok (.iconst 0, 1) := by decide +kernel
theorem dL_law_1228 : decode cL_law 1228 = .ok (.istore 27, 2) := by decide +kernel
theorem dL_law_1230 : decode cL_law 1230 = .ok (.iload 27, 2) := by decide +kernel
theorem dL_law_1232 : decode cL_law 1232 = .ok (.iload 6, 2) := by decide +kernel
theorem dL_law_1234 : decode cL_law 1234 = .ok (.if_icmp .ge 111, 3) := by decide +kernel
theorem dL_law_1237 : decode cL_law 1237 = .ok (.aload_n 1, 1) := by decide +kernel
theorem dL_law_1238 : decode cL_law 1238 = .ok (.iload 27, 2) := by decide +kernel
theorem dL_law_1240 : decode cL_law 1240 = .ok (.invokevirtual 119, 3) := by decide +kernel
theorem dL_law_1243 : decode cL_law 1243 = .ok (.aload 14, 2) := by decide +kernel
theorem dL_law_1245 : decode cL_law 1245 = .ok (.iload 27, 2) := by decide +kernel
theorem dL_law_1247 : decode cL_law 1247 = .ok (.iaload, 1) := by decide +kernel
theorem dL_law_1248 : decode cL_law 1248 = .ok (.iconst 1, 1) := by decide +kernel
theorem dL_law_1249 : decode cL_law 1249 = .ok (.iadd, 1) := by decide +kernel
theorem dL_law_1250 : decode cL_law 1250 = .ok (.if_icmp .ne 7, 3) := by decide +kernel
theorem dL_law_1253 : decode cL_law 1253 = .ok (.iconst 1, 1) := by decide +kernel
theorem dL_law_1254 : decode cL_law 1254 = .ok (.goto 4, 3) := by decide +kernel
theorem dL_law_1257 : decode cL_law 1257 = .ok (.iconst 0, 1) := by decide +kernel
theorem dL_law_1258 : decode cL_law 1258 = .ok (.istore 28, 2) := by decide +kernel
theorem dL_law_1260 : decode cL_law 1260 = .ok (.iload 28, 2) := by decide +kernel
theorem dL_law_1262 : decode cL_law 1262 = .ok (.ifCond .ne 51, 3) := by decide +kernel
theorem dL_law_1265 : decode cL_law 1265 = .ok (.aload_n 1, 1) := by decide +kernel
theorem dL_law_1266 : decode cL_law 1266 = .ok (.iload 27, 2) := by decide +kernel
theorem dL_law_1268 : decode cL_law 1268 = .ok (.invokevirtual 119, 3) := by decide +kernel
theorem dL_law_1271 : decode cL_law 1271 = .ok (.aload 14, 2) := by decide +kernel
theorem dL_law_1273 : decode cL_law 1273 = .ok (.iload 27, 2) := by decide +kernel
theorem dL_law_1275 : decode cL_law 1275 = .ok (.iaload, 1) := by decide +kernel
theorem dL_law_1276 : decode cL_law 1276 = .ok (.if_icmp .ne 61, 3) := by decide +kernel
theorem dL_law_1279 : decode cL_law 1279 = .ok (.aload_n 1, 1) := by decide +kernel
theorem dL_law_1280 : decode cL_law 1280 = .ok (.iload 27, 2) := by decide +kernel
theorem dL_law_1282 : decode cL_law 1282 = .ok (.invokevirtual 116, 3) := by decide +kernel
theorem dL_law_1285 : decode cL_law 1285 = .ok (.iconst 0, 1) := by decide +kernel
theorem dL_law_1286 : decode cL_law 1286 = .ok (.aload 13, 2) := by decide +kernel
theorem dL_law_1288 : decode cL_law 1288 = .ok (.iload 27, 2) := by decide +kernel
theorem dL_law_1290 : decode cL_law 1290 = .ok (.iaload, 1) := by decide +kernel
theorem dL_law_1291 : decode cL_law 1291 = .ok (.iconst 1, 1) := by decide +kernel
theorem dL_law_1292 : decode cL_law 1292 = .ok (.isub, 1) := by decide +kernel
theorem dL_law_1293 : decode cL_law 1293 = .ok (.invokestatic 166, 3) := by decide +kernel
theorem dL_law_1296 : decode cL_law 1296 = .ok (.if_icmp .ne 41, 3) := by decide +kernel
theorem dL_law_1299 : decode cL_law 1299 = .ok (.aload_n 1, 1) := by decide +kernel
theorem dL_law_1300 : decode cL_law 1300 = .ok (.iload 27, 2) := by decide +kernel
theorem dL_law_1302 : decode cL_law 1302 = .ok (.invokevirtual 113, 3) := by decide +kernel
theorem dL_law_1305 : decode cL_law 1305 = .ok (.aload 12, 2) := by decide +kernel
theorem dL_law_1307 : decode cL_law 1307 = .ok (.iload 27, 2) := by decide +kernel
theorem dL_law_1309 : decode cL_law 1309 = .ok (.iaload, 1) := by decide +kernel
theorem dL_law_1310 : decode cL_law 1310 = .ok (.if_icmp .lt 27, 3) := by decide +kernel
theorem dL_law_1313 : decode cL_law 1313 = .ok (.iload 28, 2) := by decide +kernel
theorem dL_law_1315 : decode cL_law 1315 = .ok (.ifCond .eq 24, 3) := by decide +kernel
theorem dL_law_1318 : decode cL_law 1318 = .ok (.aload_n 1, 1) := by decide +kernel
theorem dL_law_1319 : decode cL_law 1319 = .ok (.iload 27, 2) := by decide +kernel
theorem dL_law_1321 : decode cL_law 1321 = .ok (.invokevirtual 116, 3) := by decide +kernel
theorem dL_law_1324 : decode cL_law 1324 = .ok (.iconst 3, 1) := by decide +kernel
theorem dL_law_1325 : decode cL_law 1325 = .ok (.if_icmp .ne 12, 3) := by decide +kernel
theorem dL_law_1328 : decode cL_law 1328 = .ok (.aload 13, 2) := by decide +kernel
theorem dL_law_1330 : decode cL_law 1330 = .ok (.iload 27, 2) := by decide +kernel
theorem dL_law_1332 : decode cL_law 1332 = .ok (.iaload, 1) := by decide +kernel
theorem dL_law_1333 : decode cL_law 1333 = .ok (.iconst 1, 1) := by decide +kernel
theorem dL_law_1334 : decode cL_law 1334 = .ok (.if_icmp .le 5, 3) := by decide +kernel
theorem dL_law_1337 : decode cL_law 1337 = .ok (.iconst 0, 1) := by decide +kernel
theorem dL_law_1338 : decode cL_law 1338 = .ok (.ireturn, 1) := by decide +kernel
theorem dL_law_1339 : decode cL_law 1339 = .ok (.iinc 27 1, 3) := by decide +kernel
theorem dL_law_1342 : decode cL_law 1342 = .ok (.goto (-112), 3) := by decide +kernel
theorem dL_law_1345 : decode cL_law 1345 = .ok (.iinc 3 1, 3) := by decide +kernel
theorem dL_law_1348 : decode cL_law 1348 = .ok (.goto (-1326), 3) := by decide +kernel
theorem dL_law_1351 : decode cL_law 1351 = .ok (.aload_n 2, 1) := by decide +kernel
theorem dL_law_1352 : decode cL_law 1352 = .ok (.aload_n 1, 1) := by decide +kernel
theorem dL_law_1353 : decode cL_law 1353 = .ok (.invokevirtual 169, 3) := by decide +kernel
theorem dL_law_1356 : decode cL_law 1356 = .ok (.ireturn, 1) := by decide +kernel
end
section
set_option maxRecDepth 20000 in
theorem ggL_build_L_act : GoodIn wsL_build wsL_act := goodIn_ca (goodIn_ca (goodIn_ca (goodIn_r _ [62, 4, 63, 64, 10, 65, 66, 67, 68, 20, 21, 17, 22, 23, 24, 25, 26, 3, 27, 11, 28, 29, 30, 31, 32, 33, 34, 35, 36, 37, 38, 39, 40, 41, 42, 43, 44, 45, 46, 47, 48, 49, 50, 51, 52, 53, 54, 55, 56, 57, 58, 59, 69, 70, 71, 12, 72, 73, 74, 75, 76, 77, 78, 79, 80, 81, 82, 83, 84, 85, 86, 87, 88, 89, 90, 91, 92, 93, 94, 95, 96, 97, 98, 99, 100, 101, 102, 103, 104, 105, 106, 107, 108, 109, 110, 111, 112, 113, 114, 115, 116, 117, 118, 119, 120, 121, 122, 123, 124, 125, 126, 127, 128, 129, 130, 131, 132, 133, 134, 135, 136, 137, 138, 139, 140, 141, 142, 143, 144, 145, 146, 147, 148, 149, 150, 151, 152, 153, 154, 155, 156, 157, 158, 159, 160, 161, 162, 163, 164, 165, 166, 167, 168, 169, 170, 171, 172, 173, 174, 175, 176, 177, 178, 179, 180, 181, 182, 183, 184, 185, 186, 187, 188, 189, 190, 191, 192, 193, 194, 195, 196, 197, 198, 199, 200, 201, 202, 203, 204, 205, 206, 207, 208, 209, 210, 211, 212, 213, 214, 215, 216, 217, 218, 219, 220, 221, 222, 223, 224, 225, 226, 227, 228, 229, 230, 231, 232, 233, 234, 235, 236, 237, 238, 239, 240, 241, 242, 243, 244, 245, 246, 247, 248, 249, 250, 251, 252, 253, 254, 255, 256, 257, 258, 259, 14, 260, 261, 262, 263, 264, 13, 265, 266, 267, 268, 269, 270, 271, 272, 273, 274, 275, 276, 277, 278, 279, 280, 281, 282, 283, 284, 285, 286, 287, 288, 289, 290, 291, 292, 293, 294, 295, 296, 297, 298, 299, 300, 301, 302, 303, 304] rfl (by decide +kernel)) (goodIn_sub (fun _ h => List.mem_cons_of_mem _ (List.mem_append_left _ (List.mem_append_left _ (List.mem_append_right _ h)))) (by decide +kernel))) (goodIn_sub (fun _ h => List.mem_cons_of_mem _ (List.mem_append_left _ (List.mem_append_right _ h))) (by decide +kernel))) (goodIn_sub (fun _ h => List.mem_cons_of_mem _ (List.mem_append_right _ h)) (by decide +kernel))
end
section
/-! the rows of this claim's own: numbers as naturals, calls that change nothing, calls that change their own cells -/
def setF (S : Nat → Nat → Nat) (f : Nat) (g : Nat → Nat) : Nat → Nat → Nat := fun a => if a = f then g else S a
def updN (g : Nat → Nat) (k v : Nat) : Nat → Nat := fun j => if j = k then v else g j
abbrev setf (S : Nat → Nat → Nat) (f k v : Nat) : Nat → Nat → Nat := setF S f (updN (S f) k v)
def row (g : Nat → Nat) : Nat → Int32 := fun j => nI (g j)
/-- the Int32 of a truth -/
abbrev bI (b : Prop) [Decidable b] : Int32 := if b then 1 else 0
theorem row_upd (g : Nat → Nat) (k v : Nat) : upd (row g) k (nI v) = row (updN g k v) := by
  funext j
  by_cases h : j = k <;> simp [upd, row, updN, h]
theorem setF_ne (S : Nat → Nat → Nat) {f a : Nat} (g : Nat → Nat) (h : a ≠ f) : setF S f g a = S a := by simp [setF, h]
theorem setF_self (S : Nat → Nat → Nat) (f : Nat) (g : Nat → Nat) : setF S f g f = g := by simp [setF]
def va_B (w : va_W) : Nat → Prop := fun q => ∃ (k : Nat) (e : va_E), w[k]? = some (q, e)
theorem D_re {A : Nat → Prop} {ws ws' : va_W} (hD : va_D A ws) (h : ws'.map (·.1) = ws.map (·.1)) : va_D A ws' := by
  have at' : ∀ (k : Nat) (q : Nat × va_E), ws'[k]? = some q → ∃ q2, ws[k]? = some q2 ∧ q2.1 = q.1 := by
    intro k q hq
    have h1 : (ws'.map (·.1))[k]? = some q.1 := by rw [List.getElem?_map, hq]; rfl
    rw [h, List.getElem?_map] at h1
    cases h2 : ws[k]? with
    | none => rw [h2] at h1; cases h1
    | some q2 => rw [h2] at h1; exact ⟨q2, rfl, Option.some.inj h1⟩
  refine ⟨fun i j p q hp hq e => ?_, fun k q hq => ?_⟩
  · obtain ⟨p2, h1, e1⟩ := at' i p hp
    obtain ⟨q2, h2, e2⟩ := at' j q hq
    exact hD.1 i j p2 q2 h1 h2 (by rw [e1, e2, e])
  · obtain ⟨q2, h1, e1⟩ := at' k q hq
    have := hD.2 k q2 h1
    rw [e1] at this
    exact this
/-- the cells at the places is are put anew -/
def mset : va_W → List Nat → va_W → va_W
  | w, i :: is, x :: xs => mset (w.set i x) is xs
  | w, _, _ => w
theorem mset_at : ∀ (is : List Nat) (xs w : va_W) (k : Nat) (q : Nat × va_E), is.length = xs.length → (mset w is xs)[k]? = some q → (k ∉ is ∧ w[k]? = some q) ∨ ∃ j : Nat, xs[j]? = some q
  | [], [], w, k, q, _, h => Or.inl ⟨List.not_mem_nil, h⟩
  | i :: is, x :: xs, w, k, q, hl, h => by
    rcases mset_at is xs (w.set i x) k q (by simpa using hl) h with ⟨h1, h2⟩ | ⟨j, hj⟩
    · by_cases hk : i = k
      · subst hk
        rw [List.getElem?_set_self'] at h2
        cases hw : w[i]? with
        | none => rw [hw] at h2; cases h2
        | some y => rw [hw] at h2; exact Or.inr ⟨0, h2⟩
      · rw [List.getElem?_set_ne hk] at h2
        exact Or.inl ⟨fun hm => (List.mem_cons.mp hm).elim (fun e => hk e.symm) h1, h2⟩
    · exact Or.inr ⟨j + 1, hj⟩
theorem map_at {is : List Nat} {ws w : va_W} (hs : is.map (fun i => ws[i]?) = w.map some) (k : Nat) (q : Nat × va_E) (hq : w[k]? = some q) : ∃ i, is[k]? = some i ∧ ws[i]? = some q := by
  have h1 : (is.map (fun i => ws[i]?))[k]? = some (some q) := by rw [hs, List.getElem?_map, hq]; rfl
  rw [List.getElem?_map] at h1
  cases hi : is[k]? with
  | none => rw [hi] at h1; cases h1
  | some i => rw [hi] at h1; exact ⟨i, rfl, Option.some.inj h1⟩
theorem sub_at {D : va_G} {cl : List vw_C} {ws wc : va_W} {H : Heap} (hP : va_P D cl ws H) (is : List Nat) (hC : is.map (fun i => ws[i]?) = wc.map some) : va_P D cl wc H := fun k q hq => by
  obtain ⟨i, -, h⟩ := map_at hC k q hq
  exact hP i q h
theorem subD_at {A : Nat → Prop} {ws wc : va_W} (hD : va_D A ws) (is : List Nat) (hn : va_nd is = true) (hC : is.map (fun i => ws[i]?) = wc.map some) : va_D A wc := hD.sub is hn hC
theorem keep_P {D : va_G} {cl : List vw_C} {ws : va_W} {H H1 : Heap} (hP : va_P D cl ws H) (hk : ∀ q : Nat, q < H.size → ¬ False → H1[q]? = H[q]?) : va_P D cl ws H1 := hP.kept (fun k q hq => hk q.1 ((hP k q hq).lt) (fun h => h))
theorem mjoin {A0 : Nat → Prop} {D : va_G} {cl : List vw_C} {ws wc w1 : va_W} {H H1 : Heap} (hP : va_P D cl ws H) (hD : va_D A0 ws) (isC : List Nat) (hC : isC.map (fun i => ws[i]?) = wc.map some) (hl : isC.length = w1.length)
    (hk : ∀ q : Nat, q < H.size → ¬ va_B wc q → H1[q]? = H[q]?) (hP1 : va_P D cl w1 H1) : va_P D cl (mset ws isC w1) H1 := by
  intro k q hq
  rcases mset_at isC w1 ws k q hl hq with ⟨h1, h2⟩ | ⟨j, hj⟩
  · refine (hP k q h2).kept (hk q.1 (hP k q h2).lt ?_)
    rintro ⟨k2, e, h⟩
    obtain ⟨i, h3, h4⟩ := map_at hC k2 (q.1, e) h
    have := hD.1 k i q (q.1, e) h2 h4 rfl
    subst this
    exact h1 (List.mem_of_getElem? h3)
  · exact hP1 j q hj
theorem B_in {A0 : Nat → Prop} {ws wc : va_W} (hD : va_D A0 ws) (isC : List Nat) (hC : isC.map (fun i => ws[i]?) = wc.map some) : ∀ q, va_B wc q → A0 q := by
  rintro q ⟨k, e, h⟩
  obtain ⟨i, -, h2⟩ := map_at hC k (q, e) h
  exact hD.2 i (q, e) h2
theorem D_B {A : Nat → Prop} {w : va_W} (h : va_D A w) : va_D (va_B w) w := ⟨h.1, fun k q hq => ⟨k, q.2, hq⟩⟩
theorem fin1 {b : Prop} [Decidable b] (h : b) : nI 1 = bI b := by show nI 1 = (if b then 1 else 0); rw [if_pos h]; rfl
theorem fin0 {b : Prop} [Decidable b] (h : ¬ b) : nI 0 = bI b := by show nI 0 = (if b then 1 else 0); rw [if_neg h]; rfl
theorem setf_same (S : Nat → Nat → Nat) (f k v : Nat) (h : S f k = v) : setf S f k v = S := by
  funext a j
  by_cases ha : a = f
  · subst ha
    by_cases hj : j = k
    · subst hj; simp [setF, updN, h]
    · simp [setF, updN, hj]
  · simp [setF, ha]
/-! contracts -/
/-- what a state's tables say: the classes, and one private call between nest mates -/
def KK (D : va_G) (tys : List (ClassId × FieldType)) (U : State) : Prop := va_K D vwCl tys U ∧ va_Nw (.methodLinkNest RX0 117 yX3_gradeOfHiss "GooseCodex") U
theorem KK.moved {D : va_G} {tys : List (ClassId × FieldType)} {s U : State} (hW : s.WarmedH U.vm) (h : KK D tys s) : KK D tys U := ⟨va_K.moved hW.alike h.1, va_Nw.warmM hW h.2⟩
theorem KK.call {D : va_G} {tys : List (ClassId × FieldType)} {U : State} {g : JFrame} {mk : MethodId} {a : Array Value} (h : KK D tys U) : KK D tys (U.calling g mk a) := ⟨va_K.moved (u := U) (U := U.calling g mk a) (Vm.Alike.refl U.vm) h.1, va_Nw.same (u := U) (U := U.calling g mk a) rfl rfl h.2⟩
abbrev rmN (fr lo : Nat) : Room := { frames := fr, cells := 0, slots := 0, locals := lo }
/-- y answers v, and changes nothing -/
def PI (l : Launch) (y : MethodName) (ws : List Cond) (fr lo : Nat) (D : va_G) (tys : List (ClassId × FieldType)) (av : List Value) (w : va_W) (v : Int32) : Prop :=
  Met l y ws (rmN fr lo) (va_Pc av (fun U => va_P D vwCl w U.heap ∧ KK D tys U)) (va_Qi (fun r (_ : Unit) => r = v) (fun _ _ => True) (fun _ => False)) 0 0 (fun _ => False)
def PL (l : Launch) (y : MethodName) (ws : List Cond) (fr lo : Nat) (D : va_G) (tys : List (ClassId × FieldType)) (av : List Value) (w : va_W) (v : Int64) : Prop :=
  Met l y ws (rmN fr lo) (va_Pc av (fun U => va_P D vwCl w U.heap ∧ KK D tys U)) (va_Ql (fun r (_ : Unit) => r = v) (fun _ _ => True) (fun _ => False)) 0 0 (fun _ => False)
def PD (l : Launch) (y : MethodName) (ws : List Cond) (fr lo : Nat) (D : va_G) (tys : List (ClassId × FieldType)) (av : List Value) (w : va_W) (v : UInt64) : Prop :=
  Met l y ws (rmN fr lo) (va_Pc av (fun U => va_P D vwCl w U.heap ∧ KK D tys U)) (va_Qd (fun r (_ : Unit) => r = v) (fun _ _ => True) (fun _ => False)) 0 0 (fun _ => False)
/-- y answers v, and its cells w are w1 then -/
def MI (l : Launch) (y : MethodName) (ws : List Cond) (fr lo : Nat) (D : va_G) (tys : List (ClassId × FieldType)) (av : List Value) (w w1 : va_W) (v : Int32) : Prop :=
  Met l y ws (rmN fr lo) (va_Pc av (fun U => va_P D vwCl w U.heap ∧ KK D tys U ∧ va_D (fun _ => True) w)) (va_Qi (fun r (_ : Unit) => r = v) (fun _ t => va_P D vwCl w1 t.heap) (va_B w)) 0 0 (va_B w)
def MD (l : Launch) (y : MethodName) (ws : List Cond) (fr lo : Nat) (D : va_G) (tys : List (ClassId × FieldType)) (av : List Value) (w w1 : va_W) (v : UInt64) : Prop :=
  Met l y ws (rmN fr lo) (va_Pc av (fun U => va_P D vwCl w U.heap ∧ KK D tys U ∧ va_D (fun _ => True) w)) (va_Qd (fun r (_ : Unit) => r = v) (fun _ t => va_P D vwCl w1 t.heap) (va_B w)) 0 0 (va_B w)
def MV (l : Launch) (y : MethodName) (ws : List Cond) (fr lo : Nat) (D : va_G) (tys : List (ClassId × FieldType)) (av : List Value) (w w1 : va_W) : Prop :=
  Met l y ws (rmN fr lo) (va_Pc av (fun U => va_P D vwCl w U.heap ∧ KK D tys U ∧ va_D (fun _ => True) w)) (va_Qv (fun _ : Unit => True) (fun _ t => va_P D vwCl w1 t.heap) (va_B w)) 0 0 (va_B w)
section
variable {l : Launch} {y : MethodName} {ws ws' : List Cond} {fr lo : Nat} {D : va_G} {tys : List (ClassId × FieldType)} {av : List Value} {w w1 : va_W} {cc : ByteArray} {maxL : Nat} {ret : Option FieldType} {Qc : Array Value → State → Outcome → State → Prop} {free : Addr → Prop}
theorem k_bodyP (hy : plainName y.cls = true) (hw : ws = Cond.code y cc maxL ret :: ws') (hav : (lg_sl av).length ≤ maxL)
    (body : ∀ p e s m args below meth c H ls, CallFix p m c cc maxL s args ws y.cls → meth.sig.returnType = ret → meth.locks = false → lv_has ls maxL (lv_args 0 av) → va_P D vwCl w H → KK D tys s → va_S (fun _ => False) s.heap H [] →
      W p l e (rmN fr lo) s m args below meth c H [] 0 0 (MQ below Qc args s 0 0 free) (F0 m 0 ls [])) :
    Met l y ws (rmN fr lo) (va_Pc av (fun U => va_P D vwCl w U.heap ∧ KK D tys U)) Qc 0 0 free := by
  refine Met.ofW (cc := cc) (maxL := maxL) (ret := ret) hy hw ?_
  intro p e s m args below meth c s₁ B hml hv
  obtain ⟨rfl, hP, hK⟩ := hv
  have hl := lv_entry av (n := maxL) hav
  rw [lg_entry_eq]
  exact body p e s m _ below meth c s.heap _ ⟨B.exec, B.bytes, hml, findClass_of_methodNamed B.named, atoms_spec (ws := ws) B.pre⟩ B.returns B.notSynchronized hl hP hK va_S.rf
theorem k_bodyM (hy : plainName y.cls = true) (hw : ws = Cond.code y cc maxL ret :: ws') (hav : (lg_sl av).length ≤ maxL)
    (body : ∀ p e s m args below meth c H ls, CallFix p m c cc maxL s args ws y.cls → meth.sig.returnType = ret → meth.locks = false → lv_has ls maxL (lv_args 0 av) → va_P D vwCl w H → KK D tys s → va_D (va_B w) w → va_S (va_B w) s.heap H [] →
      W p l e (rmN fr lo) s m args below meth c H [] 0 0 (MQ below Qc args s 0 0 free) (F0 m 0 ls [])) :
    Met l y ws (rmN fr lo) (va_Pc av (fun U => va_P D vwCl w U.heap ∧ KK D tys U ∧ va_D (fun _ => True) w)) Qc 0 0 free := by
  refine Met.ofW (cc := cc) (maxL := maxL) (ret := ret) hy hw ?_
  intro p e s m args below meth c s₁ B hml hv
  obtain ⟨rfl, hP, hK, hD⟩ := hv
  have hl := lv_entry av (n := maxL) hav
  rw [lg_entry_eq]
  exact body p e s m _ below meth c s.heap _ ⟨B.exec, B.bytes, hml, findClass_of_methodNamed B.named, atoms_spec (ws := ws) B.pre⟩ B.returns B.notSynchronized hl hP hK (D_B hD) va_S.rf
theorem blindP : FrameBlind (va_Pc av (fun U => va_P D vwCl w U.heap ∧ KK D tys U)) := fun a U g mk q => ⟨q.1, q.2.1, KK.call q.2.2⟩
theorem blindM : FrameBlind (va_Pc av (fun U => va_P D vwCl w U.heap ∧ KK D tys U ∧ va_D (fun _ => True) w)) := fun a U g mk q => ⟨q.1, q.2.1, KK.call q.2.2.1, q.2.2.2⟩
end
section
variable {p : Program} {l : Launch} {e : Env} {R : Room} {s : State} {m : MethodId} {args : Array Value} {below : List Frame} {meth : Method} {c : Code} {H : Heap} {locs : List Loc} {cells slots : Nat} {Q : State → Prop}
variable {cc : ByteArray} {pc nL : Nat} {ls : Array Slot} {rest st0 : List Value} {D : va_G} {cl : List vw_C} {A A0 : Nat → Prop} {a : Nat} {tys tysC : List (ClassId × FieldType)} {w wc w1 : va_W} {H0 : Heap} {Ts : List Cond} {own : String}
/-! numbers -/
theorem k_iadd (S : CallFix p m c cc nL s args Ts own) {x y : Nat} (hdg : decode cc pc = .ok (.iadd, 1)) (k : W p l e R s m args below meth c H locs cells slots Q (F0 m (pc + 1) ls (.int (nI (x + y)) :: rest))) : W p l e R s m args below meth c H locs cells slots Q (F0 m pc ls (.int (nI y) :: .int (nI x) :: rest)) := lv_iadd S.1 S.2.1 hdg (by rw [nI_add]; exact k)
theorem k_isub (S : CallFix p m c cc nL s args Ts own) {x y : Nat} (h : y ≤ x) (hdg : decode cc pc = .ok (.isub, 1)) (k : W p l e R s m args below meth c H locs cells slots Q (F0 m (pc + 1) ls (.int (nI (x - y)) :: rest))) : W p l e R s m args below meth c H locs cells slots Q (F0 m pc ls (.int (nI y) :: .int (nI x) :: rest)) := lv_isub S.1 S.2.1 hdg (by rw [pk_sub h]; exact k)
theorem k_imul (S : CallFix p m c cc nL s args Ts own) {x y : Nat} (hdg : decode cc pc = .ok (.imul, 1)) (k : W p l e R s m args below meth c H locs cells slots Q (F0 m (pc + 1) ls (.int (nI (x * y)) :: rest))) : W p l e R s m args below meth c H locs cells slots Q (F0 m pc ls (.int (nI y) :: .int (nI x) :: rest)) := lv_imul S.1 S.2.1 hdg (by rw [pk_mul]; exact k)
theorem k_inc (S : CallFix p m c cc nL s args Ts own) {i k x : Nat} {lv lv' : List (Nat × Value)} (hdg : decode cc pc = .ok (.iinc i 1, 3)) (h : lv_has ls nL lv) (hk : lv[k]? = some (i, .int (nI x))) (hn : i < nL) (hl : (i, Value.int (nI (x + 1))) :: lv.filter (fun q => !(q.1 == i) && !(q.1 + 1 == i && q.2.category == 2)) = lv')
    (kk : ∀ ls' : Array Slot, lv_has ls' nL lv' → W p l e R s m args below meth c H locs cells slots Q (F0 m (pc + 3) ls' rest)) : W p l e R s m args below meth c H locs cells slots Q (F0 m pc ls rest) := lv_iinc S.1 S.2.1 hdg h hk (nI_1 x) hn hl kk
theorem k_dec (S : CallFix p m c cc nL s args Ts own) {i k x : Nat} {lv lv' : List (Nat × Value)} (h0 : 0 < x) (hdg : decode cc pc = .ok (.iinc i (-1), 3)) (h : lv_has ls nL lv) (hk : lv[k]? = some (i, .int (nI x))) (hn : i < nL) (hl : (i, Value.int (nI (x - 1))) :: lv.filter (fun q => !(q.1 == i) && !(q.1 + 1 == i && q.2.category == 2)) = lv')
    (kk : ∀ ls' : Array Slot, lv_has ls' nL lv' → W p l e R s m args below meth c H locs cells slots Q (F0 m (pc + 3) ls' rest)) : W p l e R s m args below meth c H locs cells slots Q (F0 m pc ls rest) := lv_iinc S.1 S.2.1 hdg h hk (by have e := pk_m1 (x - 1); rw [Nat.sub_add_cancel h0] at e; exact e) hn hl kk
theorem k_icmp_lt (S : CallFix p m c cc nL s args Ts own) {x y tgt : Nat} {off : Int} (hx : x < 2 ^ 31) (hy : y < 2 ^ 31) (hdg : decode cc pc = .ok (.if_icmp .lt off, 3)) (ht : (pc : Int) + off = (tgt : Int))
    (kt : x < y → W p l e R s m args below meth c H locs cells slots Q (F0 m tgt ls rest)) (kf : ¬ x < y → W p l e R s m args below meth c H locs cells slots Q (F0 m (pc + 3) ls rest)) : W p l e R s m args below meth c H locs cells slots Q (F0 m pc ls (.int (nI y) :: .int (nI x) :: rest)) :=
  lv_icmp_lt S.1 S.2.1 hdg ht (fun h => kt ((nI_ltI hx hy).mp h)) (fun h => kf (fun q => h ((nI_ltI hx hy).mpr q)))
theorem k_icmp_ge (S : CallFix p m c cc nL s args Ts own) {x y tgt : Nat} {off : Int} (hx : x < 2 ^ 31) (hy : y < 2 ^ 31) (hdg : decode cc pc = .ok (.if_icmp .ge off, 3)) (ht : (pc : Int) + off = (tgt : Int))
    (kt : y ≤ x → W p l e R s m args below meth c H locs cells slots Q (F0 m tgt ls rest)) (kf : ¬ y ≤ x → W p l e R s m args below meth c H locs cells slots Q (F0 m (pc + 3) ls rest)) : W p l e R s m args below meth c H locs cells slots Q (F0 m pc ls (.int (nI y) :: .int (nI x) :: rest)) :=
  lv_icmp_ge S.1 S.2.1 hdg ht (fun h => kt ((nI_leI hy hx).mp h)) (fun h => kf (fun q => h ((nI_leI hy hx).mpr q)))
theorem k_icmp_gt (S : CallFix p m c cc nL s args Ts own) {x y tgt : Nat} {off : Int} (hx : x < 2 ^ 31) (hy : y < 2 ^ 31) (hdg : decode cc pc = .ok (.if_icmp .gt off, 3)) (ht : (pc : Int) + off = (tgt : Int))
    (kt : y < x → W p l e R s m args below meth c H locs cells slots Q (F0 m tgt ls rest)) (kf : ¬ y < x → W p l e R s m args below meth c H locs cells slots Q (F0 m (pc + 3) ls rest)) : W p l e R s m args below meth c H locs cells slots Q (F0 m pc ls (.int (nI y) :: .int (nI x) :: rest)) :=
  lv_icmp_gt S.1 S.2.1 hdg ht (fun h => kt ((nI_ltI hy hx).mp h)) (fun h => kf (fun q => h ((nI_ltI hy hx).mpr q)))
theorem k_icmp_le (S : CallFix p m c cc nL s args Ts own) {x y tgt : Nat} {off : Int} (hx : x < 2 ^ 31) (hy : y < 2 ^ 31) (hdg : decode cc pc = .ok (.if_icmp .le off, 3)) (ht : (pc : Int) + off = (tgt : Int))
    (kt : x ≤ y → W p l e R s m args below meth c H locs cells slots Q (F0 m tgt ls rest)) (kf : ¬ x ≤ y → W p l e R s m args below meth c H locs cells slots Q (F0 m (pc + 3) ls rest)) : W p l e R s m args below meth c H locs cells slots Q (F0 m pc ls (.int (nI y) :: .int (nI x) :: rest)) :=
  lv_icmp_le S.1 S.2.1 hdg ht (fun h => kt ((nI_leI hx hy).mp h)) (fun h => kf (fun q => h ((nI_leI hx hy).mpr q)))
theorem k_icmp_eq (S : CallFix p m c cc nL s args Ts own) {x y tgt : Nat} {off : Int} (hx : x < 2 ^ 31) (hy : y < 2 ^ 31) (hdg : decode cc pc = .ok (.if_icmp .eq off, 3)) (ht : (pc : Int) + off = (tgt : Int))
    (kt : x = y → W p l e R s m args below meth c H locs cells slots Q (F0 m tgt ls rest)) (kf : ¬ x = y → W p l e R s m args below meth c H locs cells slots Q (F0 m (pc + 3) ls rest)) : W p l e R s m args below meth c H locs cells slots Q (F0 m pc ls (.int (nI y) :: .int (nI x) :: rest)) :=
  lv_icmp_eq S.1 S.2.1 hdg ht (fun h => kt ((nI_eq hx hy).mp h)) (fun h => kf (fun q => h ((nI_eq hx hy).mpr q)))
theorem k_icmp_ne (S : CallFix p m c cc nL s args Ts own) {x y tgt : Nat} {off : Int} (hx : x < 2 ^ 31) (hy : y < 2 ^ 31) (hdg : decode cc pc = .ok (.if_icmp .ne off, 3)) (ht : (pc : Int) + off = (tgt : Int))
    (kt : ¬ x = y → W p l e R s m args below meth c H locs cells slots Q (F0 m tgt ls rest)) (kf : x = y → W p l e R s m args below meth c H locs cells slots Q (F0 m (pc + 3) ls rest)) : W p l e R s m args below meth c H locs cells slots Q (F0 m pc ls (.int (nI y) :: .int (nI x) :: rest)) :=
  lv_icmp_ne S.1 S.2.1 hdg ht (fun h => kt (fun q => h ((nI_eq hx hy).mpr q))) (fun h => kf ((nI_eq hx hy).mp h))
theorem k_if_eq (S : CallFix p m c cc nL s args Ts own) {x tgt : Nat} {off : Int} (hx : x < 2 ^ 31) (hdg : decode cc pc = .ok (.ifCond .eq off, 3)) (ht : (pc : Int) + off = (tgt : Int))
    (kt : x = 0 → W p l e R s m args below meth c H locs cells slots Q (F0 m tgt ls rest)) (kf : ¬ x = 0 → W p l e R s m args below meth c H locs cells slots Q (F0 m (pc + 3) ls rest)) : W p l e R s m args below meth c H locs cells slots Q (F0 m pc ls (.int (nI x) :: rest)) :=
  lv_if_eq S.1 S.2.1 hdg ht (fun h => kt ((nI_eq hx (b := 0) (by decide)).mp h)) (fun h => kf (fun q => h ((nI_eq hx (b := 0) (by decide)).mpr q)))
theorem k_if_ne (S : CallFix p m c cc nL s args Ts own) {x tgt : Nat} {off : Int} (hx : x < 2 ^ 31) (hdg : decode cc pc = .ok (.ifCond .ne off, 3)) (ht : (pc : Int) + off = (tgt : Int))
    (kt : ¬ x = 0 → W p l e R s m args below meth c H locs cells slots Q (F0 m tgt ls rest)) (kf : x = 0 → W p l e R s m args below meth c H locs cells slots Q (F0 m (pc + 3) ls rest)) : W p l e R s m args below meth c H locs cells slots Q (F0 m pc ls (.int (nI x) :: rest)) :=
  lv_if_ne S.1 S.2.1 hdg ht (fun h => kt (fun q => h ((nI_eq hx (b := 0) (by decide)).mpr q))) (fun h => kf ((nI_eq hx (b := 0) (by decide)).mp h))
theorem k_if_le (S : CallFix p m c cc nL s args Ts own) {x tgt : Nat} {off : Int} (hx : x < 2 ^ 31) (hdg : decode cc pc = .ok (.ifCond .le off, 3)) (ht : (pc : Int) + off = (tgt : Int))
    (kt : x = 0 → W p l e R s m args below meth c H locs cells slots Q (F0 m tgt ls rest)) (kf : 0 < x → W p l e R s m args below meth c H locs cells slots Q (F0 m (pc + 3) ls rest)) : W p l e R s m args below meth c H locs cells slots Q (F0 m pc ls (.int (nI x) :: rest)) :=
  lv_if_le S.1 S.2.1 hdg ht (fun h => kt (Nat.le_zero.mp ((nI_leI hx (b := 0) (by decide)).mp h))) (fun h => kf (Nat.pos_of_ne_zero fun q => h ((nI_leI hx (b := 0) (by decide)).mpr (by omega))))
theorem k_if_gt (S : CallFix p m c cc nL s args Ts own) {x tgt : Nat} {off : Int} (hx : x < 2 ^ 31) (hdg : decode cc pc = .ok (.ifCond .gt off, 3)) (ht : (pc : Int) + off = (tgt : Int))
    (kt : 0 < x → W p l e R s m args below meth c H locs cells slots Q (F0 m tgt ls rest)) (kf : x = 0 → W p l e R s m args below meth c H locs cells slots Q (F0 m (pc + 3) ls rest)) : W p l e R s m args below meth c H locs cells slots Q (F0 m pc ls (.int (nI x) :: rest)) :=
  lv_if_gt S.1 S.2.1 hdg ht (fun h => kt ((nI_ltI (a := 0) (by decide) hx).mp h)) (fun h => kf (by have : ¬ 0 < x := fun q => h ((nI_ltI (a := 0) (by decide) hx).mpr q)
                                                                                                   omega))
/-- a truth, asked -/
theorem k_ifeq_b (S : CallFix p m c cc nL s args Ts own) {tgt : Nat} {off : Int} {b : Prop} {db : Decidable b} (hdg : decode cc pc = .ok (.ifCond .eq off, 3)) (ht : (pc : Int) + off = (tgt : Int))
    (kt : ¬ b → W p l e R s m args below meth c H locs cells slots Q (F0 m tgt ls rest)) (kf : b → W p l e R s m args below meth c H locs cells slots Q (F0 m (pc + 3) ls rest)) : W p l e R s m args below meth c H locs cells slots Q (F0 m pc ls (.int (@ite Int32 b db 1 0) :: rest)) := by
  by_cases h : b
  · rw [if_pos h]; exact lv_if_eq S.1 S.2.1 hdg ht (fun q => absurd q (by decide)) (fun _ => kf h)
  · rw [if_neg h]; exact lv_if_eq S.1 S.2.1 hdg ht (fun _ => kt h) (fun q => absurd rfl q)
theorem k_ifne_b (S : CallFix p m c cc nL s args Ts own) {tgt : Nat} {off : Int} {b : Prop} {db : Decidable b} (hdg : decode cc pc = .ok (.ifCond .ne off, 3)) (ht : (pc : Int) + off = (tgt : Int))
    (kt : b → W p l e R s m args below meth c H locs cells slots Q (F0 m tgt ls rest)) (kf : ¬ b → W p l e R s m args below meth c H locs cells slots Q (F0 m (pc + 3) ls rest)) : W p l e R s m args below meth c H locs cells slots Q (F0 m pc ls (.int (@ite Int32 b db 1 0) :: rest)) := by
  by_cases h : b
  · rw [if_pos h]; exact lv_if_ne S.1 S.2.1 hdg ht (fun _ => kt h) (fun q => absurd q (by decide))
  · rw [if_neg h]; exact lv_if_ne S.1 S.2.1 hdg ht (fun q => absurd rfl q) (fun _ => kf h)
theorem k_max (S : CallFix p m c cc nL s args Ts own) (hsize : ls.size = nL) {index : Nat} (m1 : Cond.methodLink own index Lib.Math.max.name ∈ Ts) (m2 : Cond.static Lib.Math.max.name ∈ Ts) (m3 : Cond.initialized "java/lang/Math" ∈ Ts) (m4 : Cond.code Lib.Math.max.name Lib.Math.max.code 2 (some .int) ∈ Ts) (hfr : 1 ≤ R.frames) (hlo : (rest.map fun v => v.category).sum + 13 ≤ R.locals) (hf : cells ≤ R.cells ∧ slots ≤ R.slots) {x y : Nat} (hx : x < 2 ^ 31) (hy : y < 2 ^ 31) (hdg : decode cc pc = .ok (.invokestatic index, 3))
    (kk : W p l e R s m args below meth c H locs cells slots Q (F0 m (pc + 3) ls (.int (nI (max x y)) :: rest))) : W p l e R s m args below meth c H locs cells slots Q (F0 m pc ls (.int (nI y) :: .int (nI x) :: rest)) := by
  refine va_mmax S.1 S.2.1 (S.2.2.1.trans hsize.symm) S.2.2.2.1 (S.2.2.2.2 _ m1) (S.2.2.2.2 _ m2) (S.2.2.2.2 _ m3) (S.2.2.2.2 _ m4) hfr hlo hf.1 hf.2 hdg ?_
  have e : (if nI x < nI y then nI y else nI x) = nI (max x y) := by
    by_cases h : x < y
    · rw [if_pos ((nI_ltI hx hy).mpr h)]; congr 1; omega
    · rw [if_neg (fun q => h ((nI_ltI hx hy).mp q))]; congr 1; omega
  rw [e]; exact kk
theorem k_min (S : CallFix p m c cc nL s args Ts own) (hsize : ls.size = nL) {index : Nat} (m1 : Cond.methodLink own index Lib.Math.min.name ∈ Ts) (m2 : Cond.static Lib.Math.min.name ∈ Ts) (m3 : Cond.initialized "java/lang/Math" ∈ Ts) (m4 : Cond.code Lib.Math.min.name Lib.Math.min.code 2 (some .int) ∈ Ts) (hfr : 1 ≤ R.frames) (hlo : (rest.map fun v => v.category).sum + 13 ≤ R.locals) (hf : cells ≤ R.cells ∧ slots ≤ R.slots) {x y : Nat} (hx : x < 2 ^ 31) (hy : y < 2 ^ 31) (hdg : decode cc pc = .ok (.invokestatic index, 3))
    (kk : W p l e R s m args below meth c H locs cells slots Q (F0 m (pc + 3) ls (.int (nI (min x y)) :: rest))) : W p l e R s m args below meth c H locs cells slots Q (F0 m pc ls (.int (nI y) :: .int (nI x) :: rest)) := by
  refine va_mmin S.1 S.2.1 (S.2.2.1.trans hsize.symm) S.2.2.2.1 (S.2.2.2.2 _ m1) (S.2.2.2.2 _ m2) (S.2.2.2.2 _ m3) (S.2.2.2.2 _ m4) hfr hlo hf.1 hf.2 hdg ?_
  have e : (if nI y < nI x then nI y else nI x) = nI (min x y) := by
    by_cases h : y < x
    · rw [if_pos ((nI_ltI hy hx).mpr h)]; congr 1; omega
    · rw [if_neg (fun q => h ((nI_ltI hy hx).mp q))]; congr 1; omega
  rw [e]; exact kk
theorem k_max0 (S : CallFix p m c cc nL s args Ts own) (hsize : ls.size = nL) {index : Nat} (m1 : Cond.methodLink own index Lib.Math.max.name ∈ Ts) (m2 : Cond.static Lib.Math.max.name ∈ Ts) (m3 : Cond.initialized "java/lang/Math" ∈ Ts) (m4 : Cond.code Lib.Math.max.name Lib.Math.max.code 2 (some .int) ∈ Ts) (hfr : 1 ≤ R.frames) (hlo : (rest.map fun v => v.category).sum + 13 ≤ R.locals) (hf : cells ≤ R.cells ∧ slots ≤ R.slots) {x y z : Nat} (hz : z ≤ 1) (hx : x < 2 ^ 30) (hy : y < 2 ^ 30) (hdg : decode cc pc = .ok (.invokestatic index, 3))
    (kk : W p l e R s m args below meth c H locs cells slots Q (F0 m (pc + 3) ls (.int (nI (max z (x - y))) :: rest))) : W p l e R s m args below meth c H locs cells slots Q (F0 m pc ls (.int (nI x - nI y) :: .int (nI z) :: rest)) := by
  by_cases h : y ≤ x
  · rw [pk_sub h]
    exact k_max S hsize m1 m2 m3 m4 hfr hlo hf (by omega) (by omega) hdg kk
  · refine va_mmax S.1 S.2.1 (S.2.2.1.trans hsize.symm) S.2.2.2.1 (S.2.2.2.2 _ m1) (S.2.2.2.2 _ m2) (S.2.2.2.2 _ m3) (S.2.2.2.2 _ m4) hfr hlo hf.1 hf.2 hdg ?_
    have h1 : nI x - nI y < 0 := pk_sneg hy (by omega)
    have h2 : ¬ nI z < nI x - nI y := by
      intro q
      have h3 : nI z < nI 0 := Int32.lt_trans q h1
      have := (nI_ltI (by omega) (by decide)).mp h3
      omega
    rw [if_neg h2]
    have e : max z (x - y) = z := by omega
    rw [e] at kk
    exact kk
/-! cells -/
theorem k_iald (S : CallFix p m c cc nL s args Ts own) (hK : va_K D cl tys s) (hP : va_P D cl w H) (q0 t0 : Nat) {cA : ClassId} {n k : Nat} {f : Nat → Nat} (ha : w[q0]? = some (a, .inl (cA, n, .inl (row f)))) (ht : tys[t0]? = some (cA, .int)) (hk : k < n) (hn : n < 2 ^ 31) (hdg : decode cc pc = .ok (.iaload, 1))
    (kk : W p l e R s m args below meth c H locs cells slots Q (F0 m (pc + 1) ls (.int (nI (f k)) :: rest))) : W p l e R s m args below meth c H locs cells slots Q (F0 m pc ls (.int (nI k) :: .ref a :: rest)) :=
  va_iald S.1 S.2.1 hK hP q0 t0 ha ht (vp_in_nI hk hn) hdg (by rw [nI_clamp (Nat.lt_trans hk hn)]; exact kk)
theorem k_iast (S : CallFix p m c cc nL s args Ts own) (hK : va_K D cl tys s) (hP : va_P D cl w H) (hD : va_D A w) (hS : va_S A H0 H locs) (q0 t0 : Nat) {cA : ClassId} {n k x : Nat} {f : Nat → Nat} (ha : w[q0]? = some (a, .inl (cA, n, .inl (row f)))) (ht : tys[t0]? = some (cA, .int)) (hk : k < n) (hn : n < 2 ^ 31) (hdg : decode cc pc = .ok (.iastore, 1)) (w' : va_W) (hw : w.set q0 (a, .inl (cA, n, .inl (row (updN f k x)))) = w')
    (kk : ∀ (H1 : Heap) (locs1 : List Loc), va_P D cl w' H1 → va_D A w' → va_S A H0 H1 locs1 → W p l e R s m args below meth c H1 locs1 cells slots Q (F0 m (pc + 1) ls rest)) : W p l e R s m args below meth c H locs cells slots Q (F0 m pc ls (.int (nI x) :: .int (nI k) :: .ref a :: rest)) :=
  va_iast S.1 S.2.1 hK hP hD hS q0 t0 ha ht (vp_in_nI hk hn) hdg (fun H1 locs1 h1 h2 h3 => by
    rw [nI_clamp (Nat.lt_trans hk hn), row_upd, hw] at h1 h2
    exact kk H1 locs1 h1 h2 h3)
theorem k_get (S : CallFix p m c cc nL s args Ts own) {C : String} {T : u_T} {N ci index : Nat} (hin : ∀ x ∈ u_ws C T N, x ∈ Ts) (hK : va_K D cl tys s) (hP : va_P D cl w H) (q0 : Nat) {fs : List Value} (he : w[q0]? = some (a, .inr (ci, fs))) (hc : cl[ci]? = some (C, T, N)) (k : Nat) (hk : k < N) (hm : Cond.fieldLink own index (T k).1 (T k).2.1 (T k).2.2.1 ∈ Ts) {v : Value} (hv : fs[k]? = some v) (hdg : decode cc pc = .ok (.getfield index, 3))
    (kk : W p l e R s m args below meth c H locs cells slots Q (F0 m (pc + 3) ls (v :: rest))) : W p l e R s m args below meth c H locs cells slots Q (F0 m pc ls (.ref a :: rest)) :=
  va_get S.1 S.2.1 S.2.2.2.2 hin S.2.2.2.1 hK hP q0 he hc k hk (S.2.2.2.2 _ hm) (fun _ h => h) hv hdg kk
theorem k_put (S : CallFix p m c cc nL s args Ts own) {C : String} {T : u_T} {N ci index : Nat} (hin : ∀ x ∈ u_ws C T N, x ∈ Ts) (ty0 : Nat → FieldType) (hty : ∀ k, k < N → parseFieldDescriptor (T k).2.2.1 = some (ty0 k)) (hnm : ∀ a, a < N → ∀ b, b < N → a ≠ b → (T a).2.1 ≠ (T b).2.1) (hK : va_K D cl tys s) (hP : va_P D cl w H) (hD : va_D A w) (hS : va_S A H0 H locs) (q0 : Nat) {fs : List Value} (he : w[q0]? = some (a, .inr (ci, fs))) (hc : cl[ci]? = some (C, T, N)) (k : Nat) (hk : k < N) (hm : Cond.fieldLink own index (T k).1 (T k).2.1 (T k).2.2.1 ∈ Ts) (hfin : (T k).2.2.2 = false) {x : Int32} (hd : parseFieldDescriptor (T k).2.2.1 = some .int) (hl : k < fs.length)
    (hdg : decode cc pc = .ok (.putfield index, 3)) (w' : va_W) (hw : w.set q0 (a, .inr (ci, fs.set k (.int x))) = w') (kk : ∀ (H1 : Heap) (locs1 : List Loc), va_P D cl w' H1 → va_D A w' → va_S A H0 H1 locs1 → W p l e R s m args below meth c H1 locs1 cells slots Q (F0 m (pc + 3) ls rest)) : W p l e R s m args below meth c H locs cells slots Q (F0 m pc ls (.int x :: .ref a :: rest)) :=
  va_put S.1 S.2.1 S.2.2.2.2 hin ty0 hty hnm S.2.2.2.1 hK hP hD hS q0 he hc k hk (S.2.2.2.2 _ hm) (fun _ h => h) hfin hd rfl rfl hl hdg (fun H1 locs1 h1 h2 h3 => by
    rw [hw] at h1 h2
    exact kk H1 locs1 h1 h2 h3)
/-! calls -/
variable {C : String} {y : MethodName} {bytes : ByteArray} {maxL fr lo index n : Nat} {ret : Option FieldType} {ws ws' : List Cond} {As : List Value} {b : Nat}
theorem k_pV (S : CallFix p m c cc nL s args Ts own) {v : Int32} (hM : PI l y ws fr lo D tysC (.ref b :: As) wc v) (hT : GoodIn Ts (wsV own index C y ws)) (hw : ws = Cond.code y bytes maxL ret :: ws')
    (hd : y.cls = C ∧ y.cls ≠ "java/lang/invoke/MethodHandle" ∧ y.cls ≠ "java/lang/invoke/VarHandle" ∧ (parseMethodDescriptor y.desc).map (fun d => d.parameters.length) = some n) (hR : fr + 1 ≤ R.frames ∧ 8 + (maxL + 11) + lo ≤ R.locals)
    (hn : As.length = n) (hsize : ls.size = nL) (hstack : st0 = As.reverse ++ .ref b :: rest) (hc8 : (rest.map fun v => v.category).sum ≤ 8) (hdg : decode cc pc = .ok (.invokevirtual index, 3)) (hf : cells ≤ R.cells ∧ slots ≤ R.slots)
    (hK : KK D tysC s) (hP : va_P D vwCl w H) (hS : va_S A0 H0 H locs) (isC : List Nat) (hC : isC.map (fun i => w[i]?) = wc.map some) {q0 ci N : Nat} {T : u_T} {fs : List Value} (he : w[q0]? = some (b, .inr (ci, fs))) (hc : vwCl[ci]? = some (C, T, N))
    (kk : ∀ (H1 : Heap) (locs1 : List Loc), va_P D vwCl w H1 → va_S A0 H0 H1 locs1 → W p l e R s m args below meth c H1 locs1 cells slots Q (F0 m (pc + 3) ls (.int v :: rest))) : W p l e R s m args below meth c H locs cells slots Q (F0 m pc ls st0) := by
  have hPc := sub_at hP isC hC
  refine va_calli (va_runV (As := As) (rest := rest) S hM (cwV n S.2.2.2.2 hT hw rfl rfl hd hR) ⟨blindP, va_recv hK.1 hP hc he, fun U hU hW => ⟨rfl, by rw [hU]; exact hPc, KK.moved hW hK⟩⟩ rfl hn hsize hstack (lv_room hc8) hdg hf) hS (fun q _ h => h.elim) (fun q h => h.elim) (fun r u t H1 locs1 ht hvm hw1 hB hz1 hk1 hS => ?_)
  subst hw1
  exact kk H1 locs1 (keep_P hP hk1) hS
theorem k_pLV (S : CallFix p m c cc nL s args Ts own) {v : Int64} (hM : PL l y ws fr lo D tysC (.ref b :: As) wc v) (hT : GoodIn Ts (wsV own index C y ws)) (hw : ws = Cond.code y bytes maxL ret :: ws')
    (hd : y.cls = C ∧ y.cls ≠ "java/lang/invoke/MethodHandle" ∧ y.cls ≠ "java/lang/invoke/VarHandle" ∧ (parseMethodDescriptor y.desc).map (fun d => d.parameters.length) = some n) (hR : fr + 1 ≤ R.frames ∧ 8 + (maxL + 11) + lo ≤ R.locals)
    (hn : As.length = n) (hsize : ls.size = nL) (hstack : st0 = As.reverse ++ .ref b :: rest) (hc8 : (rest.map fun v => v.category).sum ≤ 8) (hdg : decode cc pc = .ok (.invokevirtual index, 3)) (hf : cells ≤ R.cells ∧ slots ≤ R.slots)
    (hK : KK D tysC s) (hP : va_P D vwCl w H) (hS : va_S A0 H0 H locs) (isC : List Nat) (hC : isC.map (fun i => w[i]?) = wc.map some) {q0 ci N : Nat} {T : u_T} {fs : List Value} (he : w[q0]? = some (b, .inr (ci, fs))) (hc : vwCl[ci]? = some (C, T, N))
    (kk : ∀ (H1 : Heap) (locs1 : List Loc), va_P D vwCl w H1 → va_S A0 H0 H1 locs1 → W p l e R s m args below meth c H1 locs1 cells slots Q (F0 m (pc + 3) ls (.long v :: rest))) : W p l e R s m args below meth c H locs cells slots Q (F0 m pc ls st0) := by
  have hPc := sub_at hP isC hC
  refine va_calll (va_runV (As := As) (rest := rest) S hM (cwV n S.2.2.2.2 hT hw rfl rfl hd hR) ⟨blindP, va_recv hK.1 hP hc he, fun U hU hW => ⟨rfl, by rw [hU]; exact hPc, KK.moved hW hK⟩⟩ rfl hn hsize hstack (lv_room hc8) hdg hf) hS (fun q _ h => h.elim) (fun q h => h.elim) (fun r u t H1 locs1 ht hvm hw1 hB hz1 hk1 hS => ?_)
  subst hw1
  exact kk H1 locs1 (keep_P hP hk1) hS
theorem k_pDV (S : CallFix p m c cc nL s args Ts own) {v : UInt64} (hM : PD l y ws fr lo D tysC (.ref b :: As) wc v) (hT : GoodIn Ts (wsV own index C y ws)) (hw : ws = Cond.code y bytes maxL ret :: ws')
    (hd : y.cls = C ∧ y.cls ≠ "java/lang/invoke/MethodHandle" ∧ y.cls ≠ "java/lang/invoke/VarHandle" ∧ (parseMethodDescriptor y.desc).map (fun d => d.parameters.length) = some n) (hR : fr + 1 ≤ R.frames ∧ 8 + (maxL + 11) + lo ≤ R.locals)
    (hn : As.length = n) (hsize : ls.size = nL) (hstack : st0 = As.reverse ++ .ref b :: rest) (hc8 : (rest.map fun v => v.category).sum ≤ 8) (hdg : decode cc pc = .ok (.invokevirtual index, 3)) (hf : cells ≤ R.cells ∧ slots ≤ R.slots)
    (hK : KK D tysC s) (hP : va_P D vwCl w H) (hS : va_S A0 H0 H locs) (isC : List Nat) (hC : isC.map (fun i => w[i]?) = wc.map some) {q0 ci N : Nat} {T : u_T} {fs : List Value} (he : w[q0]? = some (b, .inr (ci, fs))) (hc : vwCl[ci]? = some (C, T, N))
    (kk : ∀ (H1 : Heap) (locs1 : List Loc), va_P D vwCl w H1 → va_S A0 H0 H1 locs1 → W p l e R s m args below meth c H1 locs1 cells slots Q (F0 m (pc + 3) ls (.double v :: rest))) : W p l e R s m args below meth c H locs cells slots Q (F0 m pc ls st0) := by
  have hPc := sub_at hP isC hC
  refine va_calld (va_runV (As := As) (rest := rest) S hM (cwV n S.2.2.2.2 hT hw rfl rfl hd hR) ⟨blindP, va_recv hK.1 hP hc he, fun U hU hW => ⟨rfl, by rw [hU]; exact hPc, KK.moved hW hK⟩⟩ rfl hn hsize hstack (lv_room hc8) hdg hf) hS (fun q _ h => h.elim) (fun q h => h.elim) (fun r u t H1 locs1 ht hvm hw1 hB hz1 hk1 hS => ?_)
  subst hw1
  exact kk H1 locs1 (keep_P hP hk1) hS
/-- a static one without cells -/
theorem k_pS (S : CallFix p m c cc nL s args Ts own) {v : Int32} (hM : PI l y ws fr lo D tysC As [] v) (hT : GoodIn Ts (va_wsS own index y ws)) (hw : ws = Cond.code y bytes maxL ret :: ws')
    (hd : y.cls ≠ "java/lang/invoke/MethodHandle" ∧ y.cls ≠ "java/lang/invoke/VarHandle" ∧ (parseMethodDescriptor y.desc).map (fun d => d.parameters.length) = some n) (hR : fr + 1 ≤ R.frames ∧ 8 + (maxL + 11) + lo ≤ R.locals)
    (hn : As.length = n) (hsize : ls.size = nL) (hstack : st0 = As.reverse ++ rest) (hc8 : (rest.map fun v => v.category).sum ≤ 8) (hdg : decode cc pc = .ok (.invokestatic index, 3)) (hf : cells ≤ R.cells ∧ slots ≤ R.slots)
    (hK : KK D tysC s) (hP : va_P D vwCl w H) (hS : va_S A0 H0 H locs)
    (kk : ∀ (H1 : Heap) (locs1 : List Loc), va_P D vwCl w H1 → va_S A0 H0 H1 locs1 → W p l e R s m args below meth c H1 locs1 cells slots Q (F0 m (pc + 3) ls (.int v :: rest))) : W p l e R s m args below meth c H locs cells slots Q (F0 m pc ls st0) := by
  refine va_calli (va_runS (As := As) (rest := rest) S hM (va_cwS n S.2.2.2.2 hT hw rfl rfl hd hR) ⟨blindP, fun U hU hW => ⟨rfl, fun k q h => by simp at h, KK.moved hW hK⟩⟩ rfl hn hsize hstack (lv_room hc8) hdg hf) hS (fun q _ h => h.elim) (fun q h => h.elim) (fun r u t H1 locs1 ht hvm hw1 hB hz1 hk1 hS => ?_)
  subst hw1
  exact kk H1 locs1 (keep_P hP hk1) hS
theorem k_pLS (S : CallFix p m c cc nL s args Ts own) {v : Int64} (hM : PL l y ws fr lo D tysC As [] v) (hT : GoodIn Ts (va_wsS own index y ws)) (hw : ws = Cond.code y bytes maxL ret :: ws')
    (hd : y.cls ≠ "java/lang/invoke/MethodHandle" ∧ y.cls ≠ "java/lang/invoke/VarHandle" ∧ (parseMethodDescriptor y.desc).map (fun d => d.parameters.length) = some n) (hR : fr + 1 ≤ R.frames ∧ 8 + (maxL + 11) + lo ≤ R.locals)
    (hn : As.length = n) (hsize : ls.size = nL) (hstack : st0 = As.reverse ++ rest) (hc8 : (rest.map fun v => v.category).sum ≤ 8) (hdg : decode cc pc = .ok (.invokestatic index, 3)) (hf : cells ≤ R.cells ∧ slots ≤ R.slots)
    (hK : KK D tysC s) (hP : va_P D vwCl w H) (hS : va_S A0 H0 H locs)
    (kk : ∀ (H1 : Heap) (locs1 : List Loc), va_P D vwCl w H1 → va_S A0 H0 H1 locs1 → W p l e R s m args below meth c H1 locs1 cells slots Q (F0 m (pc + 3) ls (.long v :: rest))) : W p l e R s m args below meth c H locs cells slots Q (F0 m pc ls st0) := by
  refine va_calll (va_runS (As := As) (rest := rest) S hM (va_cwS n S.2.2.2.2 hT hw rfl rfl hd hR) ⟨blindP, fun U hU hW => ⟨rfl, fun k q h => by simp at h, KK.moved hW hK⟩⟩ rfl hn hsize hstack (lv_room hc8) hdg hf) hS (fun q _ h => h.elim) (fun q h => h.elim) (fun r u t H1 locs1 ht hvm hw1 hB hz1 hk1 hS => ?_)
  subst hw1
  exact kk H1 locs1 (keep_P hP hk1) hS
theorem k_mV (S : CallFix p m c cc nL s args Ts own) (hM : MV l y ws fr lo D tysC (.ref b :: As) wc w1) (hT : GoodIn Ts (wsV own index C y ws)) (hw : ws = Cond.code y bytes maxL ret :: ws')
    (hd : y.cls = C ∧ y.cls ≠ "java/lang/invoke/MethodHandle" ∧ y.cls ≠ "java/lang/invoke/VarHandle" ∧ (parseMethodDescriptor y.desc).map (fun d => d.parameters.length) = some n) (hR : fr + 1 ≤ R.frames ∧ 8 + (maxL + 11) + lo ≤ R.locals)
    (hn : As.length = n) (hsize : ls.size = nL) (hstack : st0 = As.reverse ++ .ref b :: rest) (hc8 : (rest.map fun v => v.category).sum ≤ 8) (hdg : decode cc pc = .ok (.invokevirtual index, 3)) (hf : cells ≤ R.cells ∧ slots ≤ R.slots)
    (hK : KK D tysC s) (hP : va_P D vwCl w H) (hD : va_D A0 w) (hS : va_S A0 H0 H locs) (isC : List Nat) (hC : isC.map (fun i => w[i]?) = wc.map some) (hnd : va_nd isC = true) (hl : isC.length = w1.length) (w' : va_W) (hw' : mset w isC w1 = w') (ha : w'.map (·.1) = w.map (·.1)) {q0 ci N : Nat} {T : u_T} {fs : List Value} (he : w[q0]? = some (b, .inr (ci, fs))) (hc : vwCl[ci]? = some (C, T, N))
    (kk : ∀ (H1 : Heap) (locs1 : List Loc), va_P D vwCl w' H1 → va_D A0 w' → va_S A0 H0 H1 locs1 → W p l e R s m args below meth c H1 locs1 cells slots Q (F0 m (pc + 3) ls rest)) : W p l e R s m args below meth c H locs cells slots Q (F0 m pc ls st0) := by
  have hPc := sub_at hP isC hC
  have hDc := subD_at hD isC hnd hC
  refine va_callv (va_runV (As := As) (rest := rest) S hM (cwV n S.2.2.2.2 hT hw rfl rfl hd hR) ⟨blindM, va_recv hK.1 hP hc he, fun U hU hW => ⟨rfl, by rw [hU]; exact hPc, KK.moved hW hK, hDc.weaken (fun _ _ _ _ => trivial)⟩⟩ rfl hn hsize hstack (lv_room hc8) hdg hf) hS (fun q _ h => B_in hD isC hC q h) (fun q h => B_in hD isC hC q h) (fun u t H1 locs1 ht hvm hw1 hB hz1 hk1 hS => ?_)
  rw [ht] at hB
  exact kk H1 locs1 (by rw [← hw']; exact mjoin hP hD isC hC hl hk1 hB) (D_re hD ha) hS
theorem k_mI (S : CallFix p m c cc nL s args Ts own) {v : Int32} (hM : MI l y ws fr lo D tysC (.ref b :: As) wc w1 v) (hT : GoodIn Ts (wsV own index C y ws)) (hw : ws = Cond.code y bytes maxL ret :: ws')
    (hd : y.cls = C ∧ y.cls ≠ "java/lang/invoke/MethodHandle" ∧ y.cls ≠ "java/lang/invoke/VarHandle" ∧ (parseMethodDescriptor y.desc).map (fun d => d.parameters.length) = some n) (hR : fr + 1 ≤ R.frames ∧ 8 + (maxL + 11) + lo ≤ R.locals)
    (hn : As.length = n) (hsize : ls.size = nL) (hstack : st0 = As.reverse ++ .ref b :: rest) (hc8 : (rest.map fun v => v.category).sum ≤ 8) (hdg : decode cc pc = .ok (.invokevirtual index, 3)) (hf : cells ≤ R.cells ∧ slots ≤ R.slots)
    (hK : KK D tysC s) (hP : va_P D vwCl w H) (hD : va_D A0 w) (hS : va_S A0 H0 H locs) (isC : List Nat) (hC : isC.map (fun i => w[i]?) = wc.map some) (hnd : va_nd isC = true) (hl : isC.length = w1.length) (w' : va_W) (hw' : mset w isC w1 = w') (ha : w'.map (·.1) = w.map (·.1)) {q0 ci N : Nat} {T : u_T} {fs : List Value} (he : w[q0]? = some (b, .inr (ci, fs))) (hc : vwCl[ci]? = some (C, T, N))
    (kk : ∀ (H1 : Heap) (locs1 : List Loc), va_P D vwCl w' H1 → va_D A0 w' → va_S A0 H0 H1 locs1 → W p l e R s m args below meth c H1 locs1 cells slots Q (F0 m (pc + 3) ls (.int v :: rest))) : W p l e R s m args below meth c H locs cells slots Q (F0 m pc ls st0) := by
  have hPc := sub_at hP isC hC
  have hDc := subD_at hD isC hnd hC
  refine va_calli (va_runV (As := As) (rest := rest) S hM (cwV n S.2.2.2.2 hT hw rfl rfl hd hR) ⟨blindM, va_recv hK.1 hP hc he, fun U hU hW => ⟨rfl, by rw [hU]; exact hPc, KK.moved hW hK, hDc.weaken (fun _ _ _ _ => trivial)⟩⟩ rfl hn hsize hstack (lv_room hc8) hdg hf) hS (fun q _ h => B_in hD isC hC q h) (fun q h => B_in hD isC hC q h) (fun r u t H1 locs1 ht hvm hw1 hB hz1 hk1 hS => ?_)
  rw [ht] at hB
  subst hw1
  exact kk H1 locs1 (by rw [← hw']; exact mjoin hP hD isC hC hl hk1 hB) (D_re hD ha) hS
/-- a private static one of a nest mate -/
theorem k_pSN (S : CallFix p m c cc nL s args Ts own) {v : Int32} {host : String} (hM : PI l y ws fr lo D tysC As [] v) (hG : GoodIn Ts ws) (hN : va_Nw (.methodLinkNest own index y host) s) (hini : Cond.initialized y.cls ∈ Ts) (hst : Cond.static y ∈ Ts) (hw : ws = Cond.code y bytes maxL ret :: ws')
    (hd : y.cls ≠ "java/lang/invoke/MethodHandle" ∧ y.cls ≠ "java/lang/invoke/VarHandle" ∧ (parseMethodDescriptor y.desc).map (fun d => d.parameters.length) = some n) (hR : fr + 1 ≤ R.frames ∧ 8 + (maxL + 11) + lo ≤ R.locals)
    (hn : As.length = n) (hsize : ls.size = nL) (hstack : st0 = As.reverse ++ rest) (hc8 : (rest.map fun v => v.category).sum ≤ 8) (hdg : decode cc pc = .ok (.invokestatic index, 3)) (hf : cells ≤ R.cells ∧ slots ≤ R.slots)
    (hK : KK D tysC s) (hP : va_P D vwCl w H) (hS : va_S A0 H0 H locs)
    (kk : ∀ (H1 : Heap) (locs1 : List Loc), va_P D vwCl w H1 → va_S A0 H0 H1 locs1 → W p l e R s m args below meth c H1 locs1 cells slots Q (F0 m (pc + 3) ls (.int v :: rest))) : W p l e R s m args below meth c H locs cells slots Q (F0 m pc ls st0) := by
  refine va_calli (va_runSN (As := As) (rest := rest) S hM ⟨va_cnB n S.2.2.2.2 hG hw rfl rfl hN (S.2.2.2.2 _ hini) hd hR, S.2.2.2.2 _ hst, trivial⟩ ⟨blindP, fun U hU hW => ⟨rfl, fun k q h => by simp at h, KK.moved hW hK⟩⟩ rfl hn hsize hstack (lv_room hc8) hdg hf) hS (fun q _ h => h.elim) (fun q h => h.elim) (fun r u t H1 locs1 ht hvm hw1 hB hz1 hk1 hS => ?_)
  subst hw1
  exact kk H1 locs1 (keep_P hP hk1) hS
theorem k_copy (S : CallFix p m c cc nL s args Ts own) (hsize : ls.size = nL) {index : Nat} (m1 : Cond.methodLink own index arraycopyName ∈ Ts) (m2 : Cond.native arraycopyName ∈ Ts) (m3 : Cond.static arraycopyName ∈ Ts) (m4 : Cond.initialized "java/lang/System" ∈ Ts)
    (hK : va_K D cl tys s) (hP : va_P D cl w H) (hD : va_D A w) (hS : va_S A H0 H locs) (q0 q1 t0 : Nat) {a0 : Nat} {cA : ClassId} {n : Nat} {f g : Nat → Int32} (ha0 : w[q0]? = some (a0, .inl (cA, n, .inl f))) (ha1 : w[q1]? = some (a, .inl (cA, n, .inl g))) (ht : tys[t0]? = some (cA, .int)) (hn : n < 2 ^ 31)
    (hfr : 1 ≤ R.frames) (hlo : (rest.map fun v => v.category).sum + 18 ≤ R.locals) (hdg : decode cc pc = .ok (.invokestatic index, 3)) (w' : va_W) (hw : w.set q1 (a, .inl (cA, n, .inl f)) = w')
    (kk : ∀ (H1 : Heap) (locs1 : List Loc), va_P D cl w' H1 → va_D A w' → va_S A H0 H1 locs1 → W p l e R s m args below meth c H1 locs1 cells slots Q (F0 m (pc + 3) ls rest)) : W p l e R s m args below meth c H locs cells slots Q (F0 m pc ls (.int (nI n) :: .int (nI 0) :: .ref a :: .int (nI 0) :: .ref a0 :: rest)) := by
  have e0 : (nI 0).toNatClampNeg = 0 := by decide
  have en : (nI n).toNatClampNeg = n := nI_clamp hn
  refine va_copyi S.1 S.2.1 (S.2.2.1.trans hsize.symm) S.2.2.2.1 (S.2.2.2.2 _ m1) (S.2.2.2.2 _ m2) (S.2.2.2.2 _ m3) (S.2.2.2.2 _ m4) hK hP hD hS q0 q1 t0 t0 ha0 ha1 ht ht rfl (by decide) (by decide) (nI_pos hn) (by rw [e0, en]; omega) (by rw [e0, en]; omega) (fun i _ => rfl) hfr hlo hdg (fun H1 locs1 h1 h2 h3 => ?_)
  rw [e0, en] at h1 h2
  have hlt : q1 < w.length := (List.getElem?_eq_some_iff.mp ha1).1
  have e1 : vp_cell cA (n, .inl (va_cpy f g 0 0 n)) = vp_cell cA (n, .inl f) := by
    rw [vp_cell_i, vp_cell_i]
    unfold arrV
    congr 1
    congr 1
    funext j
    show Value.int (va_cpy f g 0 0 n j.val) = Value.int (f j.val)
    rw [pk_cpy_in (Nat.zero_le _) (by have := j.isLt; omega)]
    congr 2
    omega
  have hP2 : va_P D cl w' H1 := by
    rw [← hw]
    intro k q hq
    by_cases hk : k = q1
    · subst hk
      rw [List.getElem?_set_self hlt] at hq
      cases hq
      have := h1 k _ (List.getElem?_set_self hlt)
      show H1[a]? = some (vp_cell cA (n, .inl f))
      rw [← e1]
      exact this
    · rw [List.getElem?_set_ne (fun e => hk e.symm)] at hq
      exact h1 k q (by rw [List.getElem?_set_ne (fun e => hk e.symm)]; exact hq)
  refine kk H1 locs1 hP2 (D_re h2 ?_) h3
  rw [← hw, List.map_set, List.map_set]
/-! ends -/
theorem k_retP (S : CallFix p m c cc nL s args Ts own) {ty : FieldType} {v v1 : Int32} (hr : meth.sig.returnType = some ty) (hlk : meth.locks = false) (hS : va_S (fun _ => False) s.heap H locs) (hv : v1 = v) (hn : narrow ty (.int v1) = .int v1) (hdg : decode cc pc = .ok (.ireturn, 1)) :
    W p l e R s m args below meth c H locs cells slots (MQ below (va_Qi (fun r (_ : Unit) => r = v) (fun _ _ => True) (fun _ => False)) args s cells slots (fun _ => False)) (F0 m pc ls [.int v1]) :=
  W.zret S.1 S.2.1 hr hn (fun t ht hW => ⟨⟨v1, (), rfl, hv, trivial⟩, hS.F ht⟩) hS.2.2 hdg hlk
theorem k_retL (S : CallFix p m c cc nL s args Ts own) {v v1 : Int64} (hr : meth.sig.returnType = some .long) (hlk : meth.locks = false) (hS : va_S (fun _ => False) s.heap H locs) (hv : v1 = v) (hdg : decode cc pc = .ok (.lreturn, 1)) :
    W p l e R s m args below meth c H locs cells slots (MQ below (va_Ql (fun r (_ : Unit) => r = v) (fun _ _ => True) (fun _ => False)) args s cells slots (fun _ => False)) (F0 m pc ls [.long v1]) :=
  W.lret S.1 S.2.1 hr (fun t ht hW => ⟨⟨v1, (), rfl, hv, trivial⟩, hS.F ht⟩) hS.2.2 hdg hlk
theorem k_retD (S : CallFix p m c cc nL s args Ts own) {v v1 : UInt64} (hr : meth.sig.returnType = some .double) (hlk : meth.locks = false) (hS : va_S (fun _ => False) s.heap H locs) (hv : v1 = v) (hdg : decode cc pc = .ok (.dreturn, 1)) :
    W p l e R s m args below meth c H locs cells slots (MQ below (va_Qd (fun r (_ : Unit) => r = v) (fun _ _ => True) (fun _ => False)) args s cells slots (fun _ => False)) (F0 m pc ls [.double v1]) :=
  W.dret S.1 S.2.1 hr (fun t ht hW => ⟨⟨v1, (), rfl, hv, trivial⟩, hS.F ht⟩) hS.2.2 hdg hlk
theorem k_retMI (S : CallFix p m c cc nL s args Ts own) {ty : FieldType} {v v1 : Int32} {w0 : va_W} (hr : meth.sig.returnType = some ty) (hlk : meth.locks = false) (hP : va_P D vwCl w H) (hw : w = w1) (hS : va_S (va_B w0) s.heap H locs) (hv : v1 = v) (hn : narrow ty (.int v1) = .int v1) (hdg : decode cc pc = .ok (.ireturn, 1)) :
    W p l e R s m args below meth c H locs cells slots (MQ below (va_Qi (fun r (_ : Unit) => r = v) (fun _ t => va_P D vwCl w1 t.heap) (va_B w0)) args s cells slots (va_B w0)) (F0 m pc ls [.int v1]) :=
  W.zret S.1 S.2.1 hr hn (fun t ht hW => ⟨⟨v1, (), rfl, hv, by show va_P D vwCl w1 t.heap; rw [ht, ← hw]; exact hP⟩, hS.F ht⟩) hS.2.2 hdg hlk
theorem k_retMD (S : CallFix p m c cc nL s args Ts own) {v v1 : UInt64} {w0 : va_W} (hr : meth.sig.returnType = some .double) (hlk : meth.locks = false) (hP : va_P D vwCl w H) (hw : w = w1) (hS : va_S (va_B w0) s.heap H locs) (hv : v1 = v) (hdg : decode cc pc = .ok (.dreturn, 1)) :
    W p l e R s m args below meth c H locs cells slots (MQ below (va_Qd (fun r (_ : Unit) => r = v) (fun _ t => va_P D vwCl w1 t.heap) (va_B w0)) args s cells slots (va_B w0)) (F0 m pc ls [.double v1]) :=
  W.dret S.1 S.2.1 hr (fun t ht hW => ⟨⟨v1, (), rfl, hv, by show va_P D vwCl w1 t.heap; rw [ht, ← hw]; exact hP⟩, hS.F ht⟩) hS.2.2 hdg hlk
theorem k_retMV (S : CallFix p m c cc nL s args Ts own) {w0 : va_W} (hr : meth.sig.returnType = none) (hlk : meth.locks = false) (hP : va_P D vwCl w H) (hw : w = w1) (hS : va_S (va_B w0) s.heap H locs) (hdg : decode cc pc = .ok (.return_, 1)) :
    W p l e R s m args below meth c H locs cells slots (MQ below (va_Qv (fun _ : Unit => True) (fun _ t => va_P D vwCl w1 t.heap) (va_B w0)) args s cells slots (va_B w0)) (F0 m pc ls []) :=
  W.vret S.1 S.2.1 hr (fun t ht hW => ⟨⟨(), rfl, trivial, by show va_P D vwCl w1 t.heap; rw [ht, ← hw]; exact hP⟩, hS.F ht⟩) hS.2.2 hdg hlk
end
end
section
/-! worlds and words of this claim. A state S: S 0 = [gates, geese, visitors, beat, bribes, retreats]; S 1 ranks; S 2 a goose's gate, S 3 temper, S 4 calm, S 5 eaten; S 6 a visitor's rank, S 7 passed, S 8 corns, S 9 nerve, S 10 retreat -/
def wFl (cI : ClassId) (a : Nat → Nat) (S : Nat → Nat → Nat) : va_W := [(a 2, .inr (1, [.int (nI (S 0 1)), .ref (a 3), .ref (a 4), .ref (a 5), .ref (a 6)])), (a 3, .inl (cI, 8, .inl (row (S 2)))), (a 4, .inl (cI, 8, .inl (row (S 3)))), (a 5, .inl (cI, 8, .inl (row (S 4)))), (a 6, .inl (cI, 8, .inl (row (S 5))))]
def wGu (cI : ClassId) (a : Nat → Nat) (S : Nat → Nat → Nat) : va_W := [(a 7, .inr (2, [.int (nI (S 0 2)), .ref (a 8), .ref (a 9), .ref (a 10), .ref (a 11), .ref (a 12)])), (a 8, .inl (cI, 8, .inl (row (S 6)))), (a 9, .inl (cI, 8, .inl (row (S 9)))), (a 10, .inl (cI, 8, .inl (row (S 8)))), (a 11, .inl (cI, 8, .inl (row (S 7)))), (a 12, .inl (cI, 8, .inl (row (S 10))))]
def wFa (cI : ClassId) (a : Nat → Nat) (S : Nat → Nat → Nat) : va_W := [(a 0, .inr (0, [.int (nI (S 0 0)), .ref (a 1), .ref (a 2), .ref (a 7), .int (nI (S 0 3)), .int (nI (S 0 4)), .int (nI (S 0 5))])), (a 1, .inl (cI, 6, .inl (row (S 1)))),
  (a 2, .inr (1, [.int (nI (S 0 1)), .ref (a 3), .ref (a 4), .ref (a 5), .ref (a 6)])), (a 3, .inl (cI, 8, .inl (row (S 2)))), (a 4, .inl (cI, 8, .inl (row (S 3)))), (a 5, .inl (cI, 8, .inl (row (S 4)))), (a 6, .inl (cI, 8, .inl (row (S 5)))),
  (a 7, .inr (2, [.int (nI (S 0 2)), .ref (a 8), .ref (a 9), .ref (a 10), .ref (a 11), .ref (a 12)])), (a 8, .inl (cI, 8, .inl (row (S 6)))), (a 9, .inl (cI, 8, .inl (row (S 9)))), (a 10, .inl (cI, 8, .inl (row (S 8)))), (a 11, .inl (cI, 8, .inl (row (S 7)))), (a 12, .inl (cI, 8, .inl (row (S 10))))]
def wFF (cI : ClassId) (a b : Nat → Nat) (S S2 : Nat → Nat → Nat) : va_W := wFa cI b S2 ++ wFa cI a S
def wCo (cI : ClassId) (a b : Nat → Nat) (S S2 : Nat → Nat → Nat) : va_W := (a 13, .inr (3, [.ref (a 0), .ref (b 0)])) :: (wFa cI a S ++ wFa cI b S2)
abbrev QPI (below : List Frame) (args : Array Value) (s : State) (v : Int32) : State → Prop := MQ below (va_Qi (fun r (_ : Unit) => r = v) (fun _ _ => True) (fun _ => False)) args s 0 0 (fun _ => False)
abbrev QPL (below : List Frame) (args : Array Value) (s : State) (v : Int64) : State → Prop := MQ below (va_Ql (fun r (_ : Unit) => r = v) (fun _ _ => True) (fun _ => False)) args s 0 0 (fun _ => False)
abbrev QPD (below : List Frame) (args : Array Value) (s : State) (v : UInt64) : State → Prop := MQ below (va_Qd (fun r (_ : Unit) => r = v) (fun _ _ => True) (fun _ => False)) args s 0 0 (fun _ => False)
abbrev QMV (below : List Frame) (args : Array Value) (s : State) (D : va_G) (w0 w1 : va_W) : State → Prop := MQ below (va_Qv (fun _ : Unit => True) (fun _ t => va_P D vwCl w1 t.heap) (va_B w0)) args s 0 0 (va_B w0)
abbrev QMI (below : List Frame) (args : Array Value) (s : State) (D : va_G) (w0 w1 : va_W) (v : Int32) : State → Prop := MQ below (va_Qi (fun r (_ : Unit) => r = v) (fun _ t => va_P D vwCl w1 t.heap) (va_B w0)) args s 0 0 (va_B w0)
abbrev QMD (below : List Frame) (args : Array Value) (s : State) (D : va_G) (w0 w1 : va_W) (v : UInt64) : State → Prop := MQ below (va_Qd (fun r (_ : Unit) => r = v) (fun _ t => va_P D vwCl w1 t.heap) (va_B w0)) args s 0 0 (va_B w0)
/-! what holds of a state always -/
def Inv (S : Nat → Nat → Nat) : Prop := S 0 0 ≤ 6 ∧ S 0 1 ≤ 8 ∧ S 0 2 ≤ 8 ∧ (∀ j, S 1 j ≤ 9) ∧ (∀ j, S 2 j ≤ 6) ∧ (∀ j, j < S 0 1 → S 2 j < S 0 0) ∧ (∀ j, S 3 j ≤ 9) ∧ (∀ j, j < S 0 1 → 1 ≤ S 3 j) ∧ (∀ j, S 4 j ≤ 3) ∧ (∀ j, S 6 j ≤ 9) ∧ (∀ j, S 7 j ≤ S 0 0) ∧ (∀ j, S 8 j ≤ 20) ∧ (∀ j, S 9 j ≤ 20) ∧ (∀ j, S 10 j ≤ 4)
theorem Inv.gates {S : Nat → Nat → Nat} (h : Inv S) : S 0 0 ≤ 6 := h.1
theorem Inv.geese {S : Nat → Nat → Nat} (h : Inv S) : S 0 1 ≤ 8 := h.2.1
theorem Inv.guests {S : Nat → Nat → Nat} (h : Inv S) : S 0 2 ≤ 8 := h.2.2.1
theorem Inv.rank {S : Nat → Nat → Nat} (h : Inv S) (j : Nat) : S 1 j ≤ 9 := h.2.2.2.1 j
theorem Inv.keep {S : Nat → Nat → Nat} (h : Inv S) (j : Nat) : S 2 j ≤ 6 := h.2.2.2.2.1 j
theorem Inv.keepIn {S : Nat → Nat → Nat} (h : Inv S) (j : Nat) (hj : j < S 0 1) : S 2 j < S 0 0 := h.2.2.2.2.2.1 j hj
theorem Inv.mood {S : Nat → Nat → Nat} (h : Inv S) (j : Nat) : S 3 j ≤ 9 := h.2.2.2.2.2.2.1 j
theorem Inv.mood1 {S : Nat → Nat → Nat} (h : Inv S) (j : Nat) (hj : j < S 0 1) : 1 ≤ S 3 j := h.2.2.2.2.2.2.2.1 j hj
theorem Inv.rest {S : Nat → Nat → Nat} (h : Inv S) (j : Nat) : S 4 j ≤ 3 := h.2.2.2.2.2.2.2.2.1 j
theorem Inv.own {S : Nat → Nat → Nat} (h : Inv S) (j : Nat) : S 6 j ≤ 9 := h.2.2.2.2.2.2.2.2.2.1 j
theorem Inv.went {S : Nat → Nat → Nat} (h : Inv S) (j : Nat) : S 7 j ≤ S 0 0 := h.2.2.2.2.2.2.2.2.2.2.1 j
theorem Inv.has {S : Nat → Nat → Nat} (h : Inv S) (j : Nat) : S 8 j ≤ 20 := h.2.2.2.2.2.2.2.2.2.2.2.1 j
theorem Inv.brave {S : Nat → Nat → Nat} (h : Inv S) (j : Nat) : S 9 j ≤ 20 := h.2.2.2.2.2.2.2.2.2.2.2.2.1 j
theorem Inv.back {S : Nat → Nat → Nat} (h : Inv S) (j : Nat) : S 10 j ≤ 4 := h.2.2.2.2.2.2.2.2.2.2.2.2.2 j
/-- the entries of a flock that are compared are small -/
def Bd (S : Nat → Nat → Nat) : Prop := S 0 1 ≤ 8 ∧ ∀ j, S 2 j ≤ 6 ∧ S 3 j ≤ 9 ∧ S 4 j ≤ 3
/-- what isAwakeThere compares -/
def Bk (S : Nat → Nat → Nat) : Prop := ∀ j, S 2 j ≤ 6 ∧ S 4 j ≤ 3
theorem Bd.k {S : Nat → Nat → Nat} (h : Bd S) : Bk S := fun j => ⟨(h.2 j).1, (h.2 j).2.2⟩
theorem Inv.bd {S : Nat → Nat → Nat} (h : Inv S) : Bd S := ⟨h.geese, fun j => ⟨h.keep j, h.mood j, h.rest j⟩⟩
/-- a goose is awake at a gate -/
abbrev awk (S : Nat → Nat → Nat) (k t : Nat) : Prop := S 2 k = t ∧ S 4 k = 0
def cntN (S : Nat → Nat → Nat) (t : Nat) : Nat → Nat
  | 0 => 0
  | n + 1 => if awk S n t then cntN S t n + 1 else cntN S t n
def hisN (S : Nat → Nat → Nat) (t x : Nat) : Nat → Nat
  | 0 => 0
  | n + 1 => if awk S n t then hisN S t x n + (S 3 n + x) else hisN S t x n
/-- the fiercest of the first n awake there, by number + 1 (0: none), and its temper -/
def frcN (S : Nat → Nat → Nat) (t : Nat) : Nat → Nat × Nat
  | 0 => (0, 0)
  | n + 1 => if awk S n t ∧ (frcN S t n).2 < S 3 n then (n + 1, S 3 n) else frcN S t n
theorem frcN_le (S : Nat → Nat → Nat) (hb : ∀ j, S 3 j ≤ 9) (t : Nat) : ∀ n, (frcN S t n).2 ≤ 9 ∧ (frcN S t n).1 ≤ n
  | 0 => ⟨Nat.zero_le _, Nat.le_refl _⟩
  | n + 1 => by
    have := frcN_le S hb t n
    unfold frcN
    split
    · exact ⟨hb n, Nat.le_refl _⟩
    · exact ⟨this.1, by omega⟩
theorem hisN_le (S : Nat → Nat → Nat) (hb : ∀ j, S 3 j ≤ 9) (t x : Nat) : ∀ n, hisN S t x n ≤ n * (9 + x)
  | 0 => by simp [hisN]
  | n + 1 => by
    have h1 := hisN_le S hb t x n
    have h2 := hb n
    rw [Nat.succ_mul]
    unfold hisN
    split <;> omega
/-- a number or, for 0, -1: the number + 1 is given -/
abbrev oI (n : Nat) : Int32 := nI n - 1
theorem oI_succ (n : Nat) : oI (n + 1) = nI n := nI_pred n
theorem oI_0 : oI 0 = -1 := by decide
def sumN (S : Nat → Nat → Nat) : Nat → Nat
  | 0 => 0
  | n + 1 => sumN S n + S 3 n
theorem sumN_le (S : Nat → Nat → Nat) (hb : ∀ j, S 3 j ≤ 9) : ∀ n, sumN S n ≤ n * 9
  | 0 => by simp [sumN]
  | n + 1 => by
    have h1 := sumN_le S hb n
    have h2 := hb n
    simp only [sumN]
    omega
/-- tempers behind a going through at t, of the first n -/
def enrN (S : Nat → Nat → Nat) (t n : Nat) : Nat → Nat := fun j => if j < n ∧ awk S j t then min 9 (S 3 j + 1) else S 3 j
/-- calm a beat less, of the first n -/
def wakN (S : Nat → Nat → Nat) (n : Nat) : Nat → Nat := fun j => if j < n then S 4 j - 1 else S 4 j
theorem enrN_0 (S : Nat → Nat → Nat) (t : Nat) : setF S 3 (enrN S t 0) = S := by
  funext f j
  by_cases h : f = 3
  · subst h; simp [setF, enrN]
  · simp [setF, h]
theorem enrN_at (S : Nat → Nat → Nat) (t i : Nat) : enrN S t i i = S 3 i := by simp [enrN]
theorem enrN_y {S : Nat → Nat → Nat} {t i : Nat} (h : awk S i t) : setf (setF S 3 (enrN S t i)) 3 i (min 9 (S 3 i + 1)) = setF S 3 (enrN S t (i + 1)) := by
  funext f j
  by_cases hf : f = 3
  · subst hf
    by_cases hj : j = i
    · subst hj; simp [setF, enrN, updN, h]
    · have : j < i + 1 ↔ j < i := by omega
      simp [setF, enrN, updN, hj, this]
  · simp [setF, hf]
theorem enrN_n {S : Nat → Nat → Nat} {t i : Nat} (h : ¬ awk S i t) : setF S 3 (enrN S t i) = setF S 3 (enrN S t (i + 1)) := by
  funext f j
  by_cases hf : f = 3
  · subst hf
    by_cases hj : j = i
    · subst hj; show (if (3:Nat) = 3 then enrN S t j else S 3) j = (if (3:Nat) = 3 then enrN S t (j + 1) else S 3) j
      rw [if_pos rfl, if_pos rfl]; unfold enrN; rw [if_neg (fun q => h q.2), if_neg (fun q => h q.2)]
    · have : j < i + 1 ↔ j < i := by omega
      simp [setF, enrN, this]
  · simp [setF, hf]
theorem wakN_0 (S : Nat → Nat → Nat) : setF S 4 (wakN S 0) = S := by
  funext f j
  by_cases h : f = 4
  · subst h; simp [setF, wakN]
  · simp [setF, h]
theorem wakN_at (S : Nat → Nat → Nat) (i : Nat) : wakN S i i = S 4 i := by simp [wakN]
theorem wakN_y (S : Nat → Nat → Nat) (i : Nat) : setf (setF S 4 (wakN S i)) 4 i (S 4 i - 1) = setF S 4 (wakN S (i + 1)) := by
  funext f j
  by_cases hf : f = 4
  · subst hf
    by_cases hj : j = i
    · subst hj; simp [setF, wakN, updN]
    · have : j < i + 1 ↔ j < i := by omega
      simp [setF, wakN, updN, hj, this]
  · simp [setF, hf]
theorem wakN_n {S : Nat → Nat → Nat} {i : Nat} (h : S 4 i = 0) : setF S 4 (wakN S i) = setF S 4 (wakN S (i + 1)) := by
  funext f j
  by_cases hf : f = 4
  · subst hf
    by_cases hj : j = i
    · subst hj; simp [setF, wakN, h]
    · have : j < i + 1 ↔ j < i := by omega
      simp [setF, wakN, this]
  · simp [setF, hf]
end
section
def wF2 (cI : ClassId) (a b : Nat → Nat) (S S2 : Nat → Nat → Nat) : va_W := wFl cI b S2 ++ wFl cI a S
def wG2 (cI : ClassId) (a b : Nat → Nat) (S S2 : Nat → Nat → Nat) : va_W := wGu cI b S2 ++ wGu cI a S
def lackN (S : Nat → Nat → Nat) (g r : Nat) : Nat := if g < S 0 0 then max 0 (S 1 g - r) else 0
/-- the hiss of a gate at a rank -/
def hisG (S : Nat → Nat → Nat) (g r : Nat) : Nat := hisN S g (lackN S g r) (S 0 1)
theorem lackN_le {S : Nat → Nat → Nat} (h : Inv S) (g r : Nat) : lackN S g r ≤ 9 := by
  have := h.rank g
  unfold lackN
  split <;> omega
theorem hisG_le {S : Nat → Nat → Nat} (h : Inv S) (g r : Nat) : hisG S g r ≤ 144 := by
  have h1 := hisN_le S h.mood g (lackN S g r) (S 0 1)
  have h2 := lackN_le h g r
  have h3 := h.geese
  unfold hisG
  calc hisN S g (lackN S g r) (S 0 1) ≤ S 0 1 * (9 + lackN S g r) := h1
    _ ≤ 8 * 18 := Nat.mul_le_mul h3 (by omega)
    _ = 144 := rfl
def inN (S : Nat → Nat → Nat) : Nat → Nat
  | 0 => 0
  | n + 1 => if S 0 0 ≤ S 7 n then inN S n + 1 else inN S n
theorem inN_le (S : Nat → Nat → Nat) : ∀ n, inN S n ≤ n
  | 0 => Nat.le_refl _
  | n + 1 => by
    have := inN_le S n
    unfold inN
    split <;> omega
def grdN (h : Nat) : Nat := if h = 0 then 0 else if h ≤ 5 then 1 else if h ≤ 10 then 2 else if h ≤ 20 then 3 else 4
theorem grdN_le (h : Nat) : grdN h ≤ 4 := by
  unfold grdN
  repeat' split
  all_goals omega
def payS (S : Nat → Nat → Nat) (v k : Nat) : Nat → Nat → Nat := setf (setf (setf (setf (setf S 8 v (S 8 v - 1)) 5 k (S 5 k + 1)) 4 k 3) 3 k (max 1 (S 3 k - 1))) 0 4 (S 0 4 + 1)
def fallS (S : Nat → Nat → Nat) (v b : Nat) : Nat → Nat → Nat := setf (setf (setf (setf S 10 v b) 9 v (min 20 (S 9 v + 1))) 7 v (S 7 v - 1)) 0 5 (S 0 5 + 1)
def goS (S : Nat → Nat → Nat) (v : Nat) : Nat → Nat → Nat := setF (setf S 7 v (S 7 v + 1)) 3 (enrN S (S 7 v) (S 0 1))
/-- a visitor who is not in the farm, in a beat -/
def moveS (S : Nat → Nat → Nat) (v : Nat) : Nat → Nat → Nat :=
  if 0 < S 10 v then setf S 10 v (S 10 v - 1) else if hisG S (S 7 v) (S 6 v) ≤ S 9 v then goS S v
  else if 0 < S 8 v then payS S v ((frcN S (S 7 v) (S 0 1)).1 - 1) else fallS S v (grdN (hisG S (S 7 v) (S 6 v)))
theorem moveS_r {S : Nat → Nat → Nat} {v : Nat} (h : 0 < S 10 v) : setf S 10 v (S 10 v - 1) = moveS S v := by unfold moveS; rw [if_pos h]
theorem moveS_d {S : Nat → Nat → Nat} {v : Nat} (h0 : ¬ 0 < S 10 v) (h1 : hisG S (S 7 v) (S 6 v) ≤ S 9 v) : goS S v = moveS S v := by unfold moveS; rw [if_neg h0, if_pos h1]
theorem moveS_p {S : Nat → Nat → Nat} {v k : Nat} (h0 : ¬ 0 < S 10 v) (h1 : ¬ hisG S (S 7 v) (S 6 v) ≤ S 9 v) (h2 : 0 < S 8 v) (hk : (frcN S (S 7 v) (S 0 1)).1 = k + 1) : payS S v k = moveS S v := by unfold moveS; rw [if_neg h0, if_neg h1, if_pos h2, hk, Nat.add_sub_cancel]
theorem moveS_f {S : Nat → Nat → Nat} {v : Nat} (h0 : ¬ 0 < S 10 v) (h1 : ¬ hisG S (S 7 v) (S 6 v) ≤ S 9 v) (h2 : ¬ 0 < S 8 v) : fallS S v (grdN (hisG S (S 7 v) (S 6 v))) = moveS S v := by unfold moveS; rw [if_neg h0, if_neg h1, if_neg h2]
theorem hisN_pos (S : Nat → Nat → Nat) (t x : Nat) : ∀ n, 0 < hisN S t x n → ∃ j, j < n ∧ awk S j t
  | 0, h => absurd h (by simp [hisN])
  | n + 1, h => by
    by_cases a : awk S n t
    · exact ⟨n, by omega, a⟩
    · unfold hisN at h
      rw [if_neg a] at h
      obtain ⟨j, h1, h2⟩ := hisN_pos S t x n h
      exact ⟨j, by omega, h2⟩
theorem frcN_some (S : Nat → Nat → Nat) (t : Nat) : ∀ n, (∀ j, j < n → 1 ≤ S 3 j) → (∃ j, j < n ∧ awk S j t) → ∃ k, (frcN S t n).1 = k + 1 ∧ k < n ∧ awk S k t ∧ (frcN S t n).2 = S 3 k
  | 0, _, h => absurd h (by rintro ⟨j, h, -⟩; omega)
  | n + 1, hm, h => by
    unfold frcN
    by_cases a : awk S n t ∧ (frcN S t n).2 < S 3 n
    · rw [if_pos a]; exact ⟨n, rfl, by omega, a.1, rfl⟩
    · rw [if_neg a]
      obtain ⟨j, h1, h2⟩ := h
      by_cases hj : ∃ j, j < n ∧ awk S j t
      · obtain ⟨k, e1, e2, e3, e4⟩ := frcN_some S t n (fun j h => hm j (by omega)) hj
        exact ⟨k, e1, by omega, e3, e4⟩
      · exfalso
        have hjn : j = n := by
          by_cases q : j = n
          · exact q
          · exact absurd ⟨j, by omega, h2⟩ hj
        subst hjn
        have h0 : (frcN S t j).2 = 0 := by
          clear a hm h1 h2
          induction j with
          | zero => rfl
          | succ n ih =>
            unfold frcN
            rw [if_neg (fun q => hj ⟨n, by omega, q.1⟩)]
            exact ih (fun ⟨k, h1, h2⟩ => hj ⟨k, by omega, h2⟩)
        exact a ⟨h2, by rw [h0]; exact hm j (by omega)⟩
theorem frc_get {S : Nat → Nat → Nat} (hI : Inv S) {t r : Nat} (h : 0 < hisG S t r) : ∃ k, (frcN S t (S 0 1)).1 = k + 1 ∧ k < S 0 1 ∧ awk S k t ∧ (frcN S t (S 0 1)).2 = S 3 k := frcN_some S t _ (fun j hj => hI.mood1 j hj) (hisN_pos S t _ _ h)
/-- a visitor in a beat -/
def mvS (S : Nat → Nat → Nat) (v : Nat) : Nat → Nat → Nat := if S 0 0 ≤ S 7 v then S else moveS S v
def movN (S : Nat → Nat → Nat) : Nat → Nat → Nat → Nat
  | 0 => S
  | n + 1 => mvS (movN S n) n
theorem movN_y {S : Nat → Nat → Nat} {n : Nat} (h : movN S n 0 0 ≤ movN S n 7 n) : movN S n = movN S (n + 1) := by show _ = mvS (movN S n) n; unfold mvS; rw [if_pos h]
theorem movN_n {S : Nat → Nat → Nat} {n : Nat} (h : ¬ movN S n 0 0 ≤ movN S n 7 n) : moveS (movN S n) n = movN S (n + 1) := by show _ = mvS (movN S n) n; unfold mvS; rw [if_neg h]
abbrev wakS (S : Nat → Nat → Nat) : Nat → Nat → Nat := setF S 4 (wakN S (S 0 1))
def beatS (S : Nat → Nat → Nat) : Nat → Nat → Nat := setf (movN (wakS S) (S 0 2)) 0 3 (movN (wakS S) (S 0 2) 0 3 + 1)
def beatsN (S : Nat → Nat → Nat) : Nat → Nat → Nat → Nat
  | 0 => S
  | n + 1 => beatS (beatsN S n)
theorem setf_sc (S : Nat → Nat → Nat) (k v j : Nat) (h : j ≠ k) : setf S 0 k v 0 j = S 0 j := by show (if (0:Nat) = 0 then updN (S 0) k v else S 0) j = _; rw [if_pos rfl]; simp [updN, h]
theorem setF_at (S : Nat → Nat → Nat) (f a j : Nat) (g : Nat → Nat) : setF S f g a j = if a = f then g j else S a j := by unfold setF; split <;> rfl
theorem setf_at (S : Nat → Nat → Nat) (f a k v j : Nat) : setf S f k v a j = if a = f ∧ j = k then v else S a j := by
  show setF S f (updN (S f) k v) a j = _
  rw [setF_at]
  by_cases h : a = f
  · subst h
    by_cases hj : j = k <;> simp [updN, hj]
  · simp [h]
theorem moveS_sc (S : Nat → Nat → Nat) (v j : Nat) (hj : j < 4) : moveS S v 0 j = S 0 j := by
  unfold moveS
  split
  · simp [setf_at]
  · split
    · simp [goS, setF_at, setf_at]
    · split
      · simp only [payS, setf_at]; simp; omega
      · simp only [fallS, setf_at]; simp; omega
theorem movN_sc (S : Nat → Nat → Nat) (j : Nat) (hj : j < 4) : ∀ n, movN S n 0 j = S 0 j
  | 0 => rfl
  | n + 1 => by
    have h := movN_sc S j hj n
    show mvS (movN S n) n 0 j = _
    unfold mvS
    split
    · exact h
    · rw [moveS_sc _ _ _ hj]; exact h
theorem inv_wakS {S : Nat → Nat → Nat} (h : Inv S) : Inv (wakS S) := by
  refine ⟨h.gates, h.geese, h.guests, h.rank, h.keep, h.keepIn, h.mood, h.mood1, fun j => ?_, h.own, h.went, h.has, h.brave, h.back⟩
  have := h.rest j
  show wakN S (S 0 1) j ≤ 3
  unfold wakN
  split <;> omega
theorem inv_goS {S : Nat → Nat → Nat} (h : Inv S) {v : Nat} (hv : ¬ S 0 0 ≤ S 7 v) : Inv (goS S v) := by
  refine ⟨h.gates, h.geese, h.guests, h.rank, h.keep, h.keepIn, fun j => ?_, fun j hj => ?_, h.rest, h.own, fun j => ?_, h.has, h.brave, h.back⟩
  · have := h.mood j
    show enrN S (S 7 v) (S 0 1) j ≤ 9
    unfold enrN
    split <;> omega
  · have := h.mood1 j hj
    show 1 ≤ enrN S (S 7 v) (S 0 1) j
    unfold enrN
    split <;> omega
  · have := h.went j
    show (if j = v then S 7 v + 1 else S 7 j) ≤ S 0 0
    split <;> omega
theorem inv_payS {S : Nat → Nat → Nat} (h : Inv S) (v k : Nat) : Inv (payS S v k) := by
  refine ⟨h.gates, h.geese, h.guests, h.rank, h.keep, h.keepIn, fun j => ?_, fun j hj => ?_, fun j => ?_, h.own, h.went, fun j => ?_, h.brave, h.back⟩
  · have := h.mood j
    have := h.mood k
    show (if j = k then max 1 (S 3 k - 1) else S 3 j) ≤ 9
    split <;> omega
  · have := h.mood1 j hj
    show 1 ≤ (if j = k then max 1 (S 3 k - 1) else S 3 j)
    split <;> omega
  · have := h.rest j
    show (if j = k then 3 else S 4 j) ≤ 3
    split <;> omega
  · have := h.has j
    have := h.has v
    show (if j = v then S 8 v - 1 else S 8 j) ≤ 20
    split <;> omega
theorem inv_fallS {S : Nat → Nat → Nat} (h : Inv S) (v b : Nat) (hb : b ≤ 4) : Inv (fallS S v b) := by
  refine ⟨h.gates, h.geese, h.guests, h.rank, h.keep, h.keepIn, h.mood, h.mood1, h.rest, h.own, fun j => ?_, h.has, fun j => ?_, fun j => ?_⟩
  · have := h.went j
    have := h.went v
    show (if j = v then S 7 v - 1 else S 7 j) ≤ S 0 0
    split <;> omega
  · have := h.brave j
    show (if j = v then min 20 (S 9 v + 1) else S 9 j) ≤ 20
    split <;> omega
  · have := h.back j
    show (if j = v then b else S 10 j) ≤ 4
    split <;> omega
theorem inv_ret {S : Nat → Nat → Nat} (h : Inv S) (v : Nat) : Inv (setf S 10 v (S 10 v - 1)) := by
  refine ⟨h.gates, h.geese, h.guests, h.rank, h.keep, h.keepIn, h.mood, h.mood1, h.rest, h.own, h.went, h.has, h.brave, fun j => ?_⟩
  have := h.back j
  have := h.back v
  show (if j = v then S 10 v - 1 else S 10 j) ≤ 4
  split <;> omega
theorem inv_moveS {S : Nat → Nat → Nat} (h : Inv S) {v : Nat} (hv : ¬ S 0 0 ≤ S 7 v) : Inv (moveS S v) := by
  unfold moveS
  split
  · exact inv_ret h v
  · split
    · exact inv_goS h hv
    · split
      · exact inv_payS h v _
      · exact inv_fallS h v _ (grdN_le _)
theorem inv_movN {S : Nat → Nat → Nat} (h : Inv S) : ∀ n, Inv (movN S n)
  | 0 => h
  | n + 1 => by
    have := inv_movN h n
    show Inv (mvS (movN S n) n)
    unfold mvS
    split
    · exact this
    · rename_i q; exact inv_moveS this q
theorem inv_beatS {S : Nat → Nat → Nat} (h : Inv S) : Inv (beatS S) := by
  have := inv_movN (inv_wakS h) (S 0 2)
  exact ⟨this.gates, this.geese, this.guests, this.rank, this.keep, this.keepIn, this.mood, this.mood1, this.rest, this.own, this.went, this.has, this.brave, this.back⟩
theorem inv_beatsN {S : Nat → Nat → Nat} (h : Inv S) : ∀ n, Inv (beatsN S n)
  | 0 => h
  | n + 1 => inv_beatS (inv_beatsN h n)
theorem beatS_sc (S : Nat → Nat → Nat) (j : Nat) (hj : j < 3) : beatS S 0 j = S 0 j := by
  show setf _ 0 3 _ 0 j = _
  rw [setf_sc _ _ _ _ (by omega), movN_sc _ _ (by omega)]
  rfl
theorem beatsN_sc (S : Nat → Nat → Nat) (j : Nat) (hj : j < 3) : ∀ n, beatsN S n 0 j = S 0 j
  | 0 => rfl
  | n + 1 => by show beatS _ 0 j = _; rw [beatS_sc _ _ hj]; exact beatsN_sc S j hj n
/-- how many beats are waited, at most m -/
def waitN (S : Nat → Nat → Nat) (v : Nat) : Nat → Nat
  | 0 => 0
  | m + 1 => if waitN S v m = m ∧ ¬ beatsN S m 0 0 ≤ beatsN S m 7 v then m + 1 else waitN S v m
theorem wait_to {S : Nat → Nat → Nat} {v i : Nat} (hw : ∀ j, j < i → ¬ beatsN S j 0 0 ≤ beatsN S j 7 v) : ∀ j, j ≤ i → waitN S v j = j
  | 0, _ => rfl
  | j + 1, h => by
    unfold waitN
    rw [if_pos ⟨wait_to hw j (by omega), hw j (by omega)⟩]
theorem wait_eq {S : Nat → Nat → Nat} {v i : Nat} (hw : ∀ j, j < i → ¬ beatsN S j 0 0 ≤ beatsN S j 7 v) (h : beatsN S i 0 0 ≤ beatsN S i 7 v) : ∀ q, i ≤ q → waitN S v q = i
  | 0, hq => by rw [show i = 0 by omega]; rfl
  | q + 1, hq => by
    by_cases e : i = q + 1
    · subst e; exact wait_to hw _ (Nat.le_refl _)
    · have h1 := wait_eq hw h q (by omega)
      unfold waitN
      rw [if_neg, h1]
      rintro ⟨a, b⟩
      rw [h1] at a
      subst a
      exact b h
theorem wait_eq2 {S : Nat → Nat → Nat} {v i q : Nat} (hw : ∀ j, j < i → ¬ beatsN S j 0 0 ≤ beatsN S j 7 v) (hi : i ≤ q) (h : q ≤ i ∨ beatsN S i 0 0 ≤ beatsN S i 7 v) : waitN S v q = i := by
  rcases h with h | h
  · rw [show q = i by omega]; exact wait_to hw i (Nat.le_refl _)
  · exact wait_eq hw h q hi
/-- in how many beats a visitor is in the farm, at most q; -1 if not -/
def arrI (S : Nat → Nat → Nat) (v q : Nat) : Int32 := if beatsN S (waitN S v q) 0 0 ≤ beatsN S (waitN S v q) 7 v then nI (waitN S v q) else -1
theorem waitN_le (S : Nat → Nat → Nat) (v : Nat) : ∀ q, waitN S v q ≤ q
  | 0 => Nat.le_refl _
  | q + 1 => by
    have := waitN_le S v q
    unfold waitN
    split <;> omega
/-! how many geese to calm -/
def remN (S : Nat → Nat → Nat) (t x m g : Nat) : Nat → Nat
  | 0 => 0
  | n + 1 => if awk S n t ∧ (S 3 n < m ∨ (S 3 n = m ∧ g ≤ n)) then remN S t x m g n + (S 3 n + x) else remN S t x m g n
theorem remN_all {S : Nat → Nat → Nat} {t x : Nat} (h : ∀ j, S 3 j ≤ 9) : ∀ n, remN S t x 9 0 n = hisN S t x n
  | 0 => rfl
  | n + 1 => by
    have := h n
    unfold remN hisN
    rw [remN_all h n]
    by_cases a : awk S n t
    · rw [if_pos a, if_pos ⟨a, by omega⟩]
    · rw [if_neg a, if_neg (fun q => a q.1)]
theorem remN_low {S : Nat → Nat → Nat} {t x m g : Nat} : ∀ n, n ≤ g → remN S t x (m + 1) g n = remN S t x m 0 n
  | 0, _ => rfl
  | n + 1, h => by
    unfold remN
    rw [remN_low n (by omega)]
    have : (S 3 n < m + 1 ∨ (S 3 n = m + 1 ∧ g ≤ n)) ↔ (S 3 n < m ∨ (S 3 n = m ∧ 0 ≤ n)) := by omega
    simp only [this]
theorem remN_same {S : Nat → Nat → Nat} {t x m g : Nat} (hg : ¬ (S 3 g = m ∧ awk S g t)) : ∀ n, remN S t x m (g + 1) n = remN S t x m g n
  | 0 => rfl
  | n + 1 => by
    unfold remN
    rw [remN_same hg n]
    by_cases a : awk S n t
    · have : (S 3 n < m ∨ (S 3 n = m ∧ g + 1 ≤ n)) ↔ (S 3 n < m ∨ (S 3 n = m ∧ g ≤ n)) := by
        constructor
        · omega
        · intro h
          rcases h with h | ⟨h1, h2⟩
          · exact Or.inl h
          · refine Or.inr ⟨h1, ?_⟩
            by_cases e : g = n
            · subst e; exact absurd ⟨h1, a⟩ hg
            · omega
      simp only [this]
    · rw [if_neg (fun q => a q.1), if_neg (fun q => a q.1)]
theorem remN_step {S : Nat → Nat → Nat} {t x m g : Nat} (h1 : S 3 g = m) (h2 : awk S g t) : ∀ n, g < n → remN S t x m g n = remN S t x m (g + 1) n + (m + x)
  | 0, h => absurd h (by omega)
  | n + 1, h => by
    unfold remN
    by_cases e : g = n
    · subst e
      rw [if_pos ⟨h2, Or.inr ⟨h1, Nat.le_refl _⟩⟩, if_neg (by rintro ⟨-, q⟩; omega), h1]
      have e2 : ∀ k, k ≤ g → remN S t x m g k = remN S t x m (g + 1) k := by
        intro k
        induction k with
        | zero => intro _; rfl
        | succ k ih =>
          intro hk
          unfold remN
          rw [ih (by omega)]
          have : (S 3 k < m ∨ (S 3 k = m ∧ g ≤ k)) ↔ (S 3 k < m ∨ (S 3 k = m ∧ g + 1 ≤ k)) := by omega
          simp only [this]
      rw [e2 g (Nat.le_refl _)]
    · have ih := remN_step (x := x) h1 h2 n (by omega)
      have : (S 3 n < m ∨ (S 3 n = m ∧ g + 1 ≤ n)) ↔ (S 3 n < m ∨ (S 3 n = m ∧ g ≤ n)) := by omega
      simp only [this]
      split <;> omega
/-- the hiss left, and how many are calmed, behind the first g geese at the temper m -/
def calI (S : Nat → Nat → Nat) (w t x m : Nat) (p : Nat × Nat) : Nat → Nat × Nat
  | 0 => p
  | n + 1 => if w < (calI S w t x m p n).1 ∧ S 3 n = m ∧ awk S n t then ((calI S w t x m p n).1 - (m + x), (calI S w t x m p n).2 + 1) else calI S w t x m p n
def calO (S : Nat → Nat → Nat) (w t x h n : Nat) : Nat → Nat × Nat
  | 0 => (h, 0)
  | j + 1 => calI S w t x (9 - j) (calO S w t x h n j) n
theorem calI_le (S : Nat → Nat → Nat) (w t x m : Nat) (p : Nat × Nat) : ∀ n, (calI S w t x m p n).1 ≤ p.1 ∧ (calI S w t x m p n).2 ≤ p.2 + n
  | 0 => ⟨Nat.le_refl _, Nat.le_refl _⟩
  | n + 1 => by
    have := calI_le S w t x m p n
    unfold calI
    split
    · exact ⟨by show _ - _ ≤ _; omega, by show _ + 1 ≤ _; omega⟩
    · omega
def calmN (S : Nat → Nat → Nat) (v : Nat) : Nat := (calO S (S 9 v) (S 7 v) (lackN S (S 7 v) (S 6 v)) (hisG S (S 7 v) (S 6 v)) (S 0 1) 9).2
end
section
/-! small rows that others need -/
theorem narB {b : Prop} [Decidable b] : narrow .boolean (.int (bI b)) = .int (bI b) := by
  show narrow .boolean (.int (if b then (1 : Int32) else 0)) = .int (if b then (1 : Int32) else 0)
  split <;> rfl
theorem P_eq {D : va_G} {cl : List vw_C} {w w' : va_W} {H : Heap} (e : w = w') (h : va_P D cl w H) : va_P D cl w' H := e ▸ h
theorem D_eq {A : Nat → Prop} {w w' : va_W} (e : w = w') (h : va_D A w) : va_D A w' := e ▸ h
theorem nI_ne_m1 {b : Nat} (hb : b < 2 ^ 31) : ¬ nI b = -1 := by
  intro h
  have h1 := congrArg Int32.toInt h
  rw [nI_toInt hb] at h1
  have h2 : (-1 : Int32).toInt = -1 := by decide
  rw [h2] at h1
  omega
theorem setf_k (S : Nat → Nat → Nat) (f k v : Nat) : setf S f k v f k = v := by rw [setf_at, if_pos ⟨rfl, rfl⟩]
theorem pay_k (S : Nat → Nat → Nat) (v k : Nat) : payS S v k 3 k = max 1 (S 3 k - 1) := by
  show (if k = k then max 1 (S 3 k - 1) else S 3 k) = _
  rw [if_pos rfl]
end
section
/-! what the public methods answer: (code of the exception or 0, the answer, the state then) -/
theorem lt_nI {x : Int32} {n : Nat} (hn : n < 2 ^ 31) (h : 0 ≤ x ∧ x < nI n) : ∃ g : Nat, g < n ∧ x = nI g := by
  obtain ⟨j, hj, e⟩ := nI_of (x := x) (Int32.not_lt.mpr h.1)
  subst e
  exact ⟨j, (nI_ltI hj hn).mp h.2, rfl⟩
theorem in_nI {x : Int32} {lo n : Nat} (hn : n < 2 ^ 31) (h : nI lo ≤ x ∧ x ≤ nI n) (hlo : lo < 2 ^ 31) : ∃ g : Nat, (lo ≤ g ∧ g ≤ n) ∧ x = nI g := by
  have h0 : ¬ x < 0 := by
    intro q
    have h1 : nI lo < 0 := Int32.lt_of_le_of_lt h.1 q
    exact nI_pos hlo h1
  obtain ⟨j, hj, e⟩ := nI_of (x := x) h0
  subst e
  exact ⟨j, ⟨(nI_leI hlo hj).mp h.1, (nI_leI hj hn).mp h.2⟩, rfl⟩
/-- the number of an answer's argument -/
abbrev cl (x : Int32) : Nat := x.toNatClampNeg
abbrev okI (n : Nat) (x : Int32) : Prop := 0 ≤ x ∧ x < nI n
abbrev okR (lo hi : Nat) (x : Int32) : Prop := nI lo ≤ x ∧ x ≤ nI hi
/-- a read by a number -/
def r1 (n : Nat) (x v : Int32) : Nat × Int32 := if okI n x then (0, v) else (1, nI 0)
theorem r1_y {n g : Nat} {v : Int32} (h : okI n (nI g)) : r1 n (nI g) v = (0, v) := if_pos h
theorem r1_n {n : Nat} {x v : Int32} (h : ¬ okI n x) : r1 n x v = (1, nI 0) := if_neg h
def rAddGate (S : Nat → Nat → Nat) (x : Int32) : Nat × Int32 × (Nat → Nat → Nat) :=
  if okR 0 9 x then if S 0 0 ≠ 6 ∧ S 0 2 = 0 then (0, nI (S 0 0), setf (setf S 1 (S 0 0) (cl x)) 0 0 (S 0 0 + 1)) else (2, nI 0, S) else (1, nI 0, S)
def rAddGoose (S : Nat → Nat → Nat) (x y : Int32) : Nat × Int32 × (Nat → Nat → Nat) :=
  if okI (S 0 0) x then if okR 1 9 y then if S 0 1 ≠ 8 then (0, nI (S 0 1), setf (setf (setf S 2 (S 0 1) (cl x)) 3 (S 0 1) (cl y)) 0 1 (S 0 1 + 1)) else (3, nI 0, S) else (2, nI 0, S) else (1, nI 0, S)
def rArrive (S : Nat → Nat → Nat) (x y z : Int32) : Nat × Int32 × (Nat → Nat → Nat) :=
  if okR 0 9 x ∧ okR 0 20 y ∧ okR 0 20 z then if S 0 0 ≠ 0 ∧ S 0 2 ≠ 8 then (0, nI (S 0 2), setf (setf (setf (setf S 6 (S 0 2) (cl x)) 9 (S 0 2) (cl y)) 8 (S 0 2) (cl z)) 0 2 (S 0 2 + 1)) else (2, nI 0, S) else (1, nI 0, S)
def rSetRank (S : Nat → Nat → Nat) (x y : Int32) : Nat × Int32 × (Nat → Nat → Nat) :=
  if okI (S 0 0) x then if okR 0 9 y then (0, nI (S 1 (cl x)), setf S 1 (cl x) (cl y)) else (2, nI 0, S) else (1, nI 0, S)
def rLead (S : Nat → Nat → Nat) (x y : Int32) : Nat × Int32 × (Nat → Nat → Nat) :=
  if okI (S 0 1) x ∧ okI (S 0 0) y then (0, nI (S 2 (cl x)), setf S 2 (cl x) (cl y)) else (1, nI 0, S)
def rGive (S : Nat → Nat → Nat) (x y : Int32) : Nat × Int32 × (Nat → Nat → Nat) :=
  if okI (S 0 2) x then if okR 1 20 y then (0, nI (min 20 (S 8 (cl x) + cl y)), setf S 8 (cl x) (min 20 (S 8 (cl x) + cl y))) else (2, nI 0, S) else (1, nI 0, S)
def rBribe (S : Nat → Nat → Nat) (x y : Int32) : Nat × Int32 × (Nat → Nat → Nat) :=
  if okI (S 0 2) x ∧ okI (S 0 1) y then if 0 < S 8 (cl x) ∧ ¬ S 0 0 ≤ S 7 (cl x) ∧ S 2 (cl y) = S 7 (cl x) then (0, nI (max 1 (S 3 (cl y) - 1)), payS S (cl x) (cl y)) else (2, nI 0, S) else (1, nI 0, S)
/-- how many come in in n beats -/
def cameI (S : Nat → Nat → Nat) (n : Nat) : Int32 := nI (inN (beatsN S n) (beatsN S n 0 2)) - nI (inN S (S 0 2))
def rPass (S : Nat → Nat → Nat) (x : Int32) : Nat × Int32 × (Nat → Nat → Nat) :=
  if okR 1 60 x then (0, cameI S (cl x), beatsN S (cl x)) else (1, nI 0, S)
def rHiss (S : Nat → Nat → Nat) (x y : Int32) : Nat × Int32 :=
  if okI (S 0 0) x then if okR 0 9 y then (0, nI (hisG S (cl x) (cl y))) else (2, nI 0) else (1, nI 0)
def rAfter (S : Nat → Nat → Nat) (x : Int32) : Nat × Int32 :=
  if okR 1 60 x then (0, nI (inN (beatsN S (cl x)) (beatsN S (cl x) 0 2))) else (1, nI 0)
/-- the loudest of the first n gates, by number + 1, and its hiss -/
def ldN (S : Nat → Nat → Nat) : Nat → Nat × Nat
  | 0 => (0, 0)
  | n + 1 => if (ldN S n).1 = 0 ∨ (ldN S n).2 < hisG S n 0 then (n + 1, hisG S n 0) else ldN S n
theorem ldN_val (S : Nat → Nat → Nat) : ∀ n, ∀ b, (ldN S n).1 = b + 1 → (ldN S n).2 = hisG S b 0 ∧ b < n
  | 0, b, h => absurd h (by simp [ldN])
  | n + 1, b, h => by
    have ih := ldN_val S n b
    unfold ldN at h ⊢
    split at h
    · rename_i c
      rw [if_pos c]
      have : n = b := by simpa using h
      subst this
      exact ⟨rfl, by omega⟩
    · rename_i c
      rw [if_neg c]
      exact ⟨(ih h).1, by have := (ih h).2; omega⟩
/-- the first below n with P, by number + 1; 0: none -/
def fstN (P : Nat → Prop) (dP : DecidablePred P) : Nat → Nat
  | 0 => 0
  | n + 1 => if fstN P dP n ≠ 0 then fstN P dP n else if P n then n + 1 else 0
theorem fst_stay {P : Nat → Prop} {dP : DecidablePred P} {i : Nat} (h : fstN P dP i ≠ 0) : ∀ k, fstN P dP (i + k) = fstN P dP i
  | 0 => rfl
  | k + 1 => by
    show (if fstN P dP (i + k) ≠ 0 then fstN P dP (i + k) else if P (i + k) then i + k + 1 else 0) = _
    rw [fst_stay h k, if_pos h]
theorem fst_hit {P : Nat → Prop} {dP : DecidablePred P} {i m : Nat} (h : fstN P dP i = 0) (hP : P i) (hm : i < m) : fstN P dP m = i + 1 := by
  have h1 : fstN P dP (i + 1) = i + 1 := by
    show (if fstN P dP i ≠ 0 then fstN P dP i else if P i then i + 1 else 0) = _
    rw [if_neg (fun q => q h), if_pos hP]
  obtain ⟨k, rfl⟩ : ∃ k, m = i + 1 + k := ⟨m - (i + 1), by omega⟩
  rw [fst_stay (by rw [h1]; omega) k, h1]
theorem fst_hit1 {P : Nat → Prop} {dP : DecidablePred P} {i : Nat} (h : fstN P dP i = 0) (hP : P i) : fstN P dP (i + 1) = i + 1 := fst_hit h hP (Nat.lt_succ_self i)
theorem fst_no {P : Nat → Prop} {dP : DecidablePred P} {i : Nat} (h : fstN P dP i = 0) (hP : ¬ P i) : fstN P dP (i + 1) = 0 := by
  show (if fstN P dP i ≠ 0 then fstN P dP i else if P i then i + 1 else 0) = _
  rw [if_neg (fun q => q h), if_neg hP]
/-- the corns wanted, the least rank that dares, the first gate that bars -/
def cwN (S : Nat → Nat → Nat) (v : Nat) : Nat → Nat := fstN (fun c => ¬ arrI (setf S 8 v c) v 40 = -1) (fun _ => inferInstance)
def rkN (S : Nat → Nat → Nat) (v : Nat) : Nat → Nat := fstN (fun r => hisG S (S 7 v) r ≤ S 9 v) (fun _ => inferInstance)
def fbN (S : Nat → Nat → Nat) (r w : Nat) : Nat → Nat := fstN (fun g => w < hisG S g r) (fun _ => inferInstance)
def rBar (S : Nat → Nat → Nat) (x y : Int32) : Nat × Int32 :=
  if okR 0 9 x ∧ okR 0 20 y then (0, oI (fbN S (cl x) (cl y) (S 0 0))) else (1, nI 0)
def meanD (S : Nat → Nat → Nat) : UInt64 := if S 0 1 = 0 then FP.dconst0 else FP.ddiv (FP.i2d (nI (sumN S (S 0 1)))) (FP.i2d (nI (S 0 1)))
theorem cl_nI {n : Nat} (h : n < 2 ^ 31) : cl (nI n) = n := nI_clamp h
theorem fst_le {P : Nat → Prop} {dP : DecidablePred P} : ∀ n, fstN P dP n ≤ n
  | 0 => Nat.le_refl _
  | n + 1 => by
    have := fst_le (P := P) (dP := dP) n
    unfold fstN
    split
    · omega
    · split <;> omega
theorem oI_m1 {n : Nat} (hn : n < 2 ^ 30) : oI n = -1 ↔ n = 0 := by
  constructor
  · intro h
    cases n with
    | zero => rfl
    | succ n =>
      rw [oI_succ] at h
      exact absurd h (nI_ne_m1 (by omega))
  · intro h; subst h; exact oI_0
abbrev dareP (S : Nat → Nat → Nat) (v : Nat) : Prop := ¬ S 0 0 ≤ S 7 v ∧ hisG S (S 7 v) (S 6 v) ≤ S 9 v
theorem inv_corn {S : Nat → Nat → Nat} (h : Inv S) (v : Nat) {c : Nat} (hc : c ≤ 20) : Inv (setf S 8 v c) := by
  refine ⟨h.gates, h.geese, h.guests, h.rank, h.keep, h.keepIn, h.mood, h.mood1, h.rest, h.own, h.went, fun j => ?_, h.brave, h.back⟩
  have := h.has j
  show (if j = v then c else S 8 j) ≤ 20
  split <;> omega
theorem wait_stop (S : Nat → Nat → Nat) (v : Nat) : ∀ q, waitN S v q < q → beatsN S (waitN S v q) 0 0 ≤ beatsN S (waitN S v q) 7 v
  | 0, h => absurd h (by omega)
  | q + 1, h => by
    unfold waitN at h ⊢
    split at h
    · omega
    · rename_i c
      rw [if_neg c]
      by_cases e : waitN S v q = q
      · rw [e] at c ⊢
        by_cases b : beatsN S q 0 0 ≤ beatsN S q 7 v
        · exact b
        · exact absurd ⟨rfl, b⟩ c
      · exact wait_stop S v q (by have := waitN_le S v q; omega)
theorem arr_run (S : Nat → Nat → Nat) (v q : Nat) : arrI S v q = if q < waitN S v (q + 1) then -1 else nI (waitN S v (q + 1)) := by
  have h1 := waitN_le S v q
  unfold arrI
  by_cases b : beatsN S (waitN S v q) 0 0 ≤ beatsN S (waitN S v q) 7 v
  · have e : waitN S v (q + 1) = waitN S v q := by
      show (if waitN S v q = q ∧ ¬ beatsN S q 0 0 ≤ beatsN S q 7 v then q + 1 else waitN S v q) = _
      rw [if_neg]
      rintro ⟨e, c⟩
      rw [e] at b
      exact c b
    rw [if_pos b, e, if_neg (by omega)]
  · have e0 : waitN S v q = q := by
      by_cases e : waitN S v q < q
      · exact absurd (wait_stop S v q e) b
      · omega
    have e : waitN S v (q + 1) = q + 1 := by
      show (if waitN S v q = q ∧ ¬ beatsN S q 0 0 ≤ beatsN S q 7 v then q + 1 else waitN S v q) = _
      rw [e0] at b
      rw [if_pos ⟨e0, b⟩]
    rw [if_neg b, e, if_pos (by omega)]
end
section
set_option maxRecDepth 100000 in
theorem mean_tab : (List.range 73).all (fun a => (List.range 8).all (fun b => decide (FP.ddiv (FP.i2d (nI a)) (FP.i2d (nI (b + 1))) &&& 0x7fffffffffffffff ≤ 0x7ff0000000000000))) = true := by decide +kernel
theorem mean_ok {a b : Nat} (ha : a ≤ 72) (hb : b ≤ 8) (h0 : ¬ b = 0) : vf_n64 (FP.ddiv (FP.i2d (nI a)) (FP.i2d (nI b))) := by
  have h1 := List.all_eq_true.mp mean_tab a (List.mem_range.mpr (by omega))
  have h2 := of_decide_eq_true (List.all_eq_true.mp h1 (b - 1) (List.mem_range.mpr (by omega)))
  rw [show b - 1 + 1 = b by omega] at h2
  exact h2
end
section
/-! methods that make cells, methods that throw -/
abbrev rmG (fr mc ms lo : Nat) : Room := { frames := fr, cells := mc, slots := ms, locals := lo }
/-- y answers v, its cells w are w1 then; it may make cells -/
def GI (l : Launch) (y : MethodName) (ws : List Cond) (fr mc ms lo : Nat) (D : va_G) (tys : List (ClassId × FieldType)) (av : List Value) (w w1 : va_W) (v : Int32) : Prop :=
  ∀ sz : Nat, Met l y ws (rmG fr mc ms lo) (va_Pc av (fun U => U.heap.size = sz ∧ va_P D vwCl w U.heap ∧ KK D tys U ∧ va_D (fun _ => True) w)) (va_Qi (fun r (_ : Unit) => r = v) (fun _ t => va_P D vwCl w1 t.heap) (va_B w)) mc ms (va_A w sz)
def GL (l : Launch) (y : MethodName) (ws : List Cond) (fr mc ms lo : Nat) (D : va_G) (tys : List (ClassId × FieldType)) (av : List Value) (w w1 : va_W) (v : Int64) : Prop :=
  ∀ sz : Nat, Met l y ws (rmG fr mc ms lo) (va_Pc av (fun U => U.heap.size = sz ∧ va_P D vwCl w U.heap ∧ KK D tys U ∧ va_D (fun _ => True) w)) (va_Ql (fun r (_ : Unit) => r = v) (fun _ t => va_P D vwCl w1 t.heap) (va_B w)) mc ms (va_A w sz)
theorem B_A {w : va_W} {sz q : Nat} (h : va_B w q) : va_A w sz q := Or.inl h
/-- what the throws need: two statics outside A, three texts -/
def KXA (A : Nat → Prop) (U : State) : Prop := vx_Zq Bundle.tN "UNASSIGNED_STACK" Bundle.steD A U U.heap ∧ vx_Zq Bundle.tN "SUPPRESSED_SENTINEL" Bundle.listD A U U.heap ∧ (∃ a, vk_R RX3 264 "there is no such gate, goose or visitor" a U) ∧ (∃ a, vk_R RX3 271 "a number is outside its bounds" a U) ∧ (∃ a, vk_R RX3 276 "this can't be done as all is now" a U) ∧ va_Nw (.castable "java/lang/IndexOutOfBoundsException" "java/lang/IndexOutOfBoundsException") U ∧ va_Nw (.castable "java/lang/IllegalArgumentException" "java/lang/IllegalArgumentException") U ∧ va_Nw (.castable "java/lang/IllegalStateException" "java/lang/IllegalStateException") U ∧ va_Nw (.declares ⟨"java/lang/RuntimeException", "<init>", "(Ljava/lang/String;)V"⟩) U ∧ va_Nw (.declares ⟨"java/lang/Exception", "<init>", "(Ljava/lang/String;)V"⟩) U ∧ va_Nw (.declares ⟨"java/lang/Throwable", "<init>", "(Ljava/lang/String;)V"⟩) U
theorem KXA.call {A : Nat → Prop} {U : State} {g : JFrame} {mk : MethodId} {a : Array Value} (h : KXA A U) : KXA A (U.calling g mk a) := by
  obtain ⟨h1, h2, ⟨a3, h3⟩, ⟨a4, h4⟩, ⟨a5, h5⟩, h6, h7, h8, h9, h10, h11⟩ := h
  exact ⟨vx_Zq.moved (u := U) (U := U.calling g mk a) (Vm.Alike.refl U.vm) h1, vx_Zq.moved (u := U) (U := U.calling g mk a) (Vm.Alike.refl U.vm) h2, ⟨a3, vk_R.same (u := U) rfl h3⟩, ⟨a4, vk_R.same (u := U) rfl h4⟩, ⟨a5, vk_R.same (u := U) rfl h5⟩, va_Nw.same (u := U) (U := U.calling g mk a) rfl rfl h6, va_Nw.same (u := U) (U := U.calling g mk a) rfl rfl h7, va_Nw.same (u := U) (U := U.calling g mk a) rfl rfl h8, va_Nw.same (u := U) (U := U.calling g mk a) rfl rfl h9, va_Nw.same (u := U) (U := U.calling g mk a) rfl rfl h10, va_Nw.same (u := U) (U := U.calling g mk a) rfl rfl h11⟩
theorem KXA.at {A B : Nat → Prop} {s U : State} {H : Heap} {locs : List Loc} (h : KXA A s) (hW : s.WarmedH U.vm) (hU : U.heap = H) (hS : va_S A s.heap H locs) (hB : ∀ q, B q → A q) : KXA B U := by
  obtain ⟨h1, h2, ⟨a3, h3⟩, ⟨a4, h4⟩, ⟨a5, h5⟩, h6, h7, h8, h9, h10, h11⟩ := h
  subst hU
  exact ⟨((vx_Zq.kept h1 hS.2.1).moved hW.alike).narrow hB, ((vx_Zq.kept h2 hS.2.1).moved hW.alike).narrow hB, ⟨a3, vk_R.warm hW h3⟩, ⟨a4, vk_R.warm hW h4⟩, ⟨a5, vk_R.warm hW h5⟩, va_Nw.warmC hW h6, va_Nw.warmC hW h7, va_Nw.warmC hW h8, va_Nw.warmD hW h9, va_Nw.warmD hW h10, va_Nw.warmD hW h11⟩
/-- what a throwing method leaves: its cells as they were -/
abbrev XT (D : va_G) (w : va_W) (E : Option String) : String → State → State → Prop := vx_X (fun _ : Unit => True) (fun E' _ t => E = some E' ∧ va_P D vwCl w t.heap) (va_B w)
abbrev PX (D : va_G) (tys : List (ClassId × FieldType)) (w : va_W) (U : State) : Prop := va_P D vwCl w U.heap ∧ KK D tys U ∧ KXA (va_B w) U ∧ va_D (fun _ => True) w
/-- y answers v with its cells w1 where E is none; else throws E, its cells as they were -/
def TI (l : Launch) (y : MethodName) (ws : List Cond) (fr mc lo : Nat) (D : va_G) (tys : List (ClassId × FieldType)) (av : List Value) (w w1 : va_W) (E : Option String) (v : Int32) : Prop :=
  vx_Met l y ws (rmG fr mc (6 * mc) lo) (va_Pc av (PX D tys w)) (va_Qi (fun r (_ : Unit) => E = none ∧ r = v) (fun _ t => va_P D vwCl w1 t.heap) (va_B w)) (XT D w E) mc (6 * mc) (va_B w)
/-- y returns where b holds, and throws cls where not -/
def TD (l : Launch) (y : MethodName) (ws : List Cond) (fr lo : Nat) (D : va_G) (tys : List (ClassId × FieldType)) (av : List Value) (w : va_W) (b : Prop) (cls : String) : Prop :=
  vx_Met l y ws (rmG fr 1 6 lo) (va_Pc av (PX D tys w)) (va_Qv (fun _ : Unit => b) (fun _ _ => True) (fun _ => False)) (vx_X (fun _ : Unit => ¬ b) (fun E' _ _ => E' = cls) (fun _ => False)) 1 6 (fun _ => False)
/-- y answers v; its callees may throw, but never here -/
def EL (l : Launch) (y : MethodName) (ws : List Cond) (fr mc lo : Nat) (D : va_G) (tys : List (ClassId × FieldType)) (av : List Value) (w w1 : va_W) (v : Int64) : Prop :=
  Met l y ws (rmG fr mc (6 * mc) lo) (va_Pc av (PX D tys w)) (va_Ql (fun r (_ : Unit) => r = v) (fun _ t => va_P D vwCl w1 t.heap) (va_B w)) mc (6 * mc) (va_B w)
section
variable {l : Launch} {y : MethodName} {ws ws' : List Cond} {fr mc ms lo : Nat} {D : va_G} {tys : List (ClassId × FieldType)} {av : List Value} {w w1 : va_W} {cc : ByteArray} {maxL : Nat} {ret : Option FieldType} {Qc : Array Value → State → Outcome → State → Prop} {XC : String → State → State → Prop} {free : Addr → Prop}
theorem blindG {sz : Nat} : FrameBlind (va_Pc av (fun U => U.heap.size = sz ∧ va_P D vwCl w U.heap ∧ KK D tys U ∧ va_D (fun _ => True) w)) := fun a U g mk q => ⟨q.1, q.2.1, q.2.2.1, KK.call q.2.2.2.1, q.2.2.2.2⟩
theorem blindX : FrameBlind (va_Pc av (PX D tys w)) := fun a U g mk q => ⟨q.1, q.2.1, KK.call q.2.2.1, KXA.call q.2.2.2.1, q.2.2.2.2⟩
theorem k_bodyG {sz : Nat} (hy : plainName y.cls = true) (hw : ws = Cond.code y cc maxL ret :: ws') (hav : (lg_sl av).length ≤ maxL)
    (body : ∀ p e s m args below meth c H ls, s.heap.size = sz → CallFix p m c cc maxL s args ws y.cls → meth.sig.returnType = ret → meth.locks = false → lv_has ls maxL (lv_args 0 av) → va_P D vwCl w H → KK D tys s → va_D (va_A w sz) w → va_S (va_A w sz) s.heap H [] →
      W p l e (rmG fr mc ms lo) s m args below meth c H [] 0 0 (MQ below Qc args s mc ms free) (F0 m 0 ls [])) :
    Met l y ws (rmG fr mc ms lo) (va_Pc av (fun U => U.heap.size = sz ∧ va_P D vwCl w U.heap ∧ KK D tys U ∧ va_D (fun _ => True) w)) Qc mc ms free := by
  refine Met.ofW (cc := cc) (maxL := maxL) (ret := ret) hy hw ?_
  intro p e s m args below meth c s₁ B hml hv
  obtain ⟨rfl, hz, hP, hK, hD⟩ := hv
  have hl := lv_entry av (n := maxL) hav
  rw [lg_entry_eq]
  exact body p e s m _ below meth c s.heap _ hz ⟨B.exec, B.bytes, hml, findClass_of_methodNamed B.named, atoms_spec (ws := ws) B.pre⟩ B.returns B.notSynchronized hl hP hK hD.self va_S.rf
theorem k_bodyX (hy : plainName y.cls = true) (hw : ws = Cond.code y cc maxL ret :: ws') (hav : (lg_sl av).length ≤ maxL)
    (body : ∀ p e s m args below meth c H ls, CallFix p m c cc maxL s args ws y.cls → meth.sig.returnType = ret → meth.locks = false → lv_has ls maxL (lv_args 0 av) → va_P D vwCl w H → KK D tys s → va_D (va_B w) w → va_S (va_B w) s.heap H [] → KXA (va_B w) s → (∀ x ∈ c.exceptionTable.toList, False) →
      W p l e (rmG fr mc ms lo) s m args below meth c H [] 0 0 (vx_MQ below Qc XC args s mc ms free) (F0 m 0 ls [])) :
    vx_Met l y ws (rmG fr mc ms lo) (va_Pc av (PX D tys w)) Qc XC mc ms free := by
  refine vx_ofW (cc := cc) (maxL := maxL) (ret := ret) hy hw ?_
  intro p e s m args below meth c s₁ B hml ht hv
  obtain ⟨rfl, hP, hK, hX, hD⟩ := hv
  have hl := lv_entry av (n := maxL) hav
  rw [lg_entry_eq]
  exact body p e s m _ below meth c s.heap _ ⟨B.exec, B.bytes, hml, findClass_of_methodNamed B.named, atoms_spec (ws := ws) B.pre⟩ B.returns B.notSynchronized hl hP hK (D_B hD) va_S.rf hX ht
theorem k_bodyE (hy : plainName y.cls = true) (hw : ws = Cond.code y cc maxL ret :: ws') (hav : (lg_sl av).length ≤ maxL)
    (body : ∀ p e s m args below meth c H ls, CallFix p m c cc maxL s args ws y.cls → meth.sig.returnType = ret → meth.locks = false → lv_has ls maxL (lv_args 0 av) → va_P D vwCl w H → KK D tys s → va_D (va_B w) w → va_S (va_B w) s.heap H [] → KXA (va_B w) s →
      W p l e (rmG fr mc ms lo) s m args below meth c H [] 0 0 (MQ below Qc args s mc ms free) (F0 m 0 ls [])) :
    Met l y ws (rmG fr mc ms lo) (va_Pc av (PX D tys w)) Qc mc ms free := by
  refine Met.ofW (cc := cc) (maxL := maxL) (ret := ret) hy hw ?_
  intro p e s m args below meth c s₁ B hml hv
  obtain ⟨rfl, hP, hK, hX, hD⟩ := hv
  have hl := lv_entry av (n := maxL) hav
  rw [lg_entry_eq]
  exact body p e s m _ below meth c s.heap _ ⟨B.exec, B.bytes, hml, findClass_of_methodNamed B.named, atoms_spec (ws := ws) B.pre⟩ B.returns B.notSynchronized hl hP hK (D_B hD) va_S.rf hX
end
section
variable {p : Program} {l : Launch} {e : Env} {R : Room} {s : State} {m : MethodId} {args : Array Value} {below : List Frame} {meth : Method} {c : Code} {H : Heap} {locs : List Loc} {cells slots : Nat} {Q : State → Prop}
variable {cc : ByteArray} {pc nL : Nat} {ls : Array Slot} {rest st0 : List Value} {D : va_G} {A A0 : Nat → Prop} {a : Nat} {tys tysC : List (ClassId × FieldType)} {w w0 wc w1 : va_W} {H0 : Heap} {Ts : List Cond} {own : String}
variable {C : String} {y : MethodName} {bytes : ByteArray} {maxL fr lo mc ms mcY msY index n : Nat} {ret : Option FieldType} {ws ws' : List Cond} {As : List Value} {b : Nat}
/-- a new array of ints -/
theorem k_newa (S : CallFix p m c cc nL s args Ts own) (harr : Cond.arrayClass .int ∈ Ts) {cI : ClassId} (hK : KK D [(cI, .int)] s) (hP : va_P D vwCl w H) (hD : va_D A w) (hS : va_S A s.heap H locs) (hA : ∀ q, s.heap.size ≤ q → A q) {k : Nat} (hk : k < 1000) (hf : cells + 1 ≤ R.cells ∧ slots + k ≤ R.slots) (hdg : decode cc pc = .ok (.newarray .int, 2))
    (kk : ∀ (q : Nat) (H1 : Heap), va_P D vwCl (w ++ [(q, .inl (cI, k, .inl (row (fun _ => 0))))]) H1 → va_D A (w ++ [(q, .inl (cI, k, .inl (row (fun _ => 0))))]) → va_S A s.heap H1 locs → W p l e R s m args below meth c H1 locs (cells + 1) (slots + k) Q (F0 m (pc + 2) ls (.ref q :: rest))) : W p l e R s m args below meth c H locs cells slots Q (F0 m pc ls (.int (nI k) :: rest)) := by
  refine va_newa (atype := .int) (ty := .int) (N' := k) (a0 := (k, .inl (row (fun _ => 0)))) S.1 S.2.1 (S.2.2.2.2 _ harr) rfl hK.1 hP hD hS hA (fun cA => ?_) (nI_pos (by omega)) (nI_clamp (by omega)) ?_ hf.1 hf.2 hdg (fun q cA H1 hK2 hP2 hD2 hS2 => ?_)
  · rw [vp_cell_i]
    congr 1
  · have : componentBytes .int = 4 := rfl
    rw [this]
    omega
  · have e1 := va_nm_int (hK.1.2 0 (cI, .int) rfl).2
    have e2 := va_nm_int (hK2.2 1 (cA, .int) rfl).2
    have e3 : cA = cI := Option.some.inj (e2.symm.trans e1)
    subst e3
    exact kk q H1 hP2 hD2 hS2
theorem k_gI (S : CallFix p m c cc nL s args Ts own) {v : Int32} (hM : GI l y ws fr mcY msY lo D tysC (.ref b :: As) wc w1 v) (hT : GoodIn Ts (wsV own index C y ws)) (hw : ws = Cond.code y bytes maxL ret :: ws')
    (hd : y.cls = C ∧ y.cls ≠ "java/lang/invoke/MethodHandle" ∧ y.cls ≠ "java/lang/invoke/VarHandle" ∧ (parseMethodDescriptor y.desc).map (fun d => d.parameters.length) = some n) (hR : fr + 1 ≤ R.frames ∧ 8 + (maxL + 11) + lo ≤ R.locals)
    (hn : As.length = n) (hsize : ls.size = nL) (hstack : st0 = As.reverse ++ .ref b :: rest) (hc8 : (rest.map fun v => v.category).sum ≤ 8) (hdg : decode cc pc = .ok (.invokevirtual index, 3)) (hf : cells + mcY ≤ R.cells ∧ slots + msY ≤ R.slots)
    (hK : KK D tysC s) (hP : va_P D vwCl w H) (hD : va_D A0 w) (hS : va_S A0 s.heap H locs) (hA : ∀ q, s.heap.size ≤ q → A0 q) (isC : List Nat) (hC : isC.map (fun i => w[i]?) = wc.map some) (hnd : va_nd isC = true) (hl : isC.length = w1.length) (w' : va_W) (hw' : mset w isC w1 = w') (ha : w'.map (·.1) = w.map (·.1)) {q0 ci N : Nat} {T : u_T} {fs : List Value} (he : w[q0]? = some (b, .inr (ci, fs))) (hc : vwCl[ci]? = some (C, T, N))
    (kk : ∀ (H1 : Heap) (locs1 : List Loc), va_P D vwCl w' H1 → va_D A0 w' → va_S A0 s.heap H1 locs1 → W p l e R s m args below meth c H1 locs1 (cells + mcY) (slots + msY) Q (F0 m (pc + 3) ls (.int v :: rest))) : W p l e R s m args below meth c H locs cells slots Q (F0 m pc ls st0) := by
  have hPc := sub_at hP isC hC
  have hDc := subD_at hD isC hnd hC
  refine va_calli (va_runV (As := As) (rest := rest) S (hM H.size) (cwV n S.2.2.2.2 hT hw rfl rfl hd hR) ⟨blindG, va_recv hK.1 hP hc he, fun U hU hW => ⟨rfl, by rw [hU], by rw [hU]; exact hPc, KK.moved hW hK, hDc.weaken (fun _ _ _ _ => trivial)⟩⟩ rfl hn hsize hstack (lv_room hc8) hdg hf) hS (fun q _ h => B_in hD isC hC q h) (fun q h => h.elim (fun h => B_in hD isC hC q h) (fun h => hA q (Nat.le_trans hS.1 h))) (fun r u t H1 locs1 ht hvm hw1 hB hz1 hk1 hS => ?_)
  rw [ht] at hB
  subst hw1
  exact kk H1 locs1 (by rw [← hw']; exact mjoin hP hD isC hC hl hk1 hB) (D_re hD ha) hS
theorem k_retGI (S : CallFix p m c cc nL s args Ts own) {ty : FieldType} {v v1 : Int32} {sz : Nat} (hr : meth.sig.returnType = some ty) (hlk : meth.locks = false) (hP : va_P D vwCl w H) (hw : w = w1) (hS : va_S (va_A w0 sz) s.heap H locs) (hz : s.heap.size = sz) (hv : v1 = v) (hn : narrow ty (.int v1) = .int v1) (hcm : cells ≤ mc) (hsm : slots ≤ ms) (hdg : decode cc pc = .ok (.ireturn, 1)) :
    W p l e R s m args below meth c H locs cells slots (MQ below (va_Qi (fun r (_ : Unit) => r = v) (fun _ t => va_P D vwCl w1 t.heap) (va_B w0)) args s mc ms (va_A w0 sz)) (F0 m pc ls [.int v1]) :=
  W.widen hcm hsm (W.zret S.1 S.2.1 hr hn (fun t ht hW => ⟨⟨v1, (), rfl, hv, by show va_P D vwCl w1 t.heap; rw [ht, ← hw]; exact hP⟩, (by
    have h := hS.F ht
    exact ⟨h.1, fun q h1 h2 => h.2 q h1 (fun h3 => h3.elim h2 (fun h4 => absurd h1 (by omega)))⟩)⟩) hS.2.2 hdg hlk)
theorem k_retGL (S : CallFix p m c cc nL s args Ts own) {v v1 : Int64} {sz : Nat} (hr : meth.sig.returnType = some .long) (hlk : meth.locks = false) (hP : va_P D vwCl w H) (hw : w = w1) (hS : va_S (va_A w0 sz) s.heap H locs) (hz : s.heap.size = sz) (hv : v1 = v) (hcm : cells ≤ mc) (hsm : slots ≤ ms) (hdg : decode cc pc = .ok (.lreturn, 1)) :
    W p l e R s m args below meth c H locs cells slots (MQ below (va_Ql (fun r (_ : Unit) => r = v) (fun _ t => va_P D vwCl w1 t.heap) (va_B w0)) args s mc ms (va_A w0 sz)) (F0 m pc ls [.long v1]) :=
  W.widen hcm hsm (W.lret S.1 S.2.1 hr (fun t ht hW => ⟨⟨v1, (), rfl, hv, by show va_P D vwCl w1 t.heap; rw [ht, ← hw]; exact hP⟩, (by
    have h := hS.F ht
    exact ⟨h.1, fun q h1 h2 => h.2 q h1 (fun h3 => h3.elim h2 (fun h4 => absurd h1 (by omega)))⟩)⟩) hS.2.2 hdg hlk)
/-! throws -/
abbrev QTI (below : List Frame) (args : Array Value) (s : State) (D : va_G) (mc : Nat) (w0 w1 : va_W) (E : Option String) (v : Int32) : State → Prop := vx_MQ below (va_Qi (fun r (_ : Unit) => E = none ∧ r = v) (fun _ t => va_P D vwCl w1 t.heap) (va_B w0)) (XT D w0 E) args s mc (6 * mc) (va_B w0)
/-- 'if (!b) throw new E(text)' in a static method of its own, at 4 -/
theorem t_thr (S : CallFix p m c cc nL s args Ts own) (hst : l.stackTraces = false) {cls text : String} {names : List String} {ik is ic : Nat} {b : Prop} (hb : ¬ b) (hcls : Bundle.fit cls = true) (hnames : ∀ n ∈ names, Bundle.fit n = true)
    (hk : Cond.classLink own ik cls ∈ Ts) (hini : Cond.initialized cls ∈ Ts) (hstr : ∃ a, vk_R own is text a s) (hat : ∀ w ∈ vx_atS own ic cls names, w.before args s = true)
    (hgood : ∀ w ∈ Cond.classLink own ik cls :: Cond.initialized cls :: vx_atS own ic cls names, vx_ot w = true) (hX : KXA (va_B w0) s) (hS : va_S (va_B w0) s.heap s.heap []) (hsize : ls.size = nL)
    (d0 : decode cc pc = .ok (.new ik, 3)) (d3 : decode cc (pc + 3) = .ok (.dup, 1)) (d4 : decode cc (pc + 4) = .ok (.ldc_w is, 3)) (d7 : decode cc (pc + 7) = .ok (.invokespecial ic, 3)) (d10 : decode cc (pc + 10) = .ok (.athrow, 1))
    (ht : ∀ x ∈ c.exceptionTable.toList, False) (hRf : names.length + 3 < R.frames) (hRl : 13 * (names.length + 1) + 43 ≤ R.locals) (hRc : 1 ≤ R.cells) (hRs : 6 ≤ R.slots) (hlk : meth.locks = false) {Qc : Array Value → State → Outcome → State → Prop} :
    W p l e R s m args below meth c s.heap [] 0 0 (vx_MQ below Qc (vx_X (fun _ : Unit => ¬ b) (fun E' _ _ => E' = cls) (fun _ => False)) args s 1 6 (fun _ => False)) (F0 m pc ls []) := by
  obtain ⟨sa, hstr⟩ := hstr
  exact vx_throwSW S.1 S.2.1 hst S.2.2.2.1 hcls hnames (S.2.2.2.2 _ hk) (S.2.2.2.2 _ hini) hstr hat hgood hX.1 hX.2.1 hS (hsize.trans S.2.2.1.symm) d0 d3 d4 d7 d10 (fun x hx => (ht x hx).elim) hRf (by simpa using hRl) (by omega) (by omega) hlk
    (fun t hvm hz hq => ⟨(), hb, rfl, ⟨hz, fun q h1 _ => hq q h1⟩⟩) (fun z hz => nomatch hz) (by omega) (by omega)
theorem t_demS (S : CallFix p m c cc nL s args Ts own) {b : Prop} {cls : String} {E : Option String} {Qc : Array Value → State → Outcome → State → Prop} (hM : TD l y ws fr lo D tysC As [] b cls) (hT : GoodIn Ts (va_wsS own index y ws)) (hw : ws = Cond.code y bytes maxL ret :: ws')
    (hd : y.cls ≠ "java/lang/invoke/MethodHandle" ∧ y.cls ≠ "java/lang/invoke/VarHandle" ∧ (parseMethodDescriptor y.desc).map (fun d => d.parameters.length) = some n) (hR : fr + 1 ≤ R.frames ∧ 8 + (maxL + 11) + lo ≤ R.locals)
    (hn : As.length = n) (hsize : ls.size = nL) (hstack : st0 = As.reverse ++ rest) (hc8 : (rest.map fun v => v.category).sum ≤ 8) (hdg : decode cc pc = .ok (.invokestatic index, 3)) (hf : cells + 1 ≤ R.cells ∧ slots + 6 ≤ R.slots)
    (hK : KK D tysC s) (hX : KXA (va_B w) s) (hP : va_P D vwCl w H) (hS : va_S (va_B w) s.heap H locs) (ht : ∀ x ∈ c.exceptionTable.toList, False) (hlk : meth.locks = false) (hcm : cells + 1 ≤ mc) (hsm : slots + 6 ≤ ms) (hE : ¬ b → E = some cls)
    (kk : b → ∀ (H1 : Heap) (locs1 : List Loc), va_P D vwCl w H1 → va_S (va_B w) s.heap H1 locs1 → W p l e R s m args below meth c H1 locs1 (cells + 1) (slots + 6) (vx_MQ below Qc (XT D w E) args s mc ms (va_B w)) (F0 m (pc + 3) ls rest)) : W p l e R s m args below meth c H locs cells slots (vx_MQ below Qc (XT D w E) args s mc ms (va_B w)) (F0 m pc ls st0) := by
  refine vx_callv (vx_runS (As := As) (rest := rest) S hM (va_cwS n S.2.2.2.2 hT hw rfl rfl hd hR) ⟨blindX, fun U hU hW => ⟨rfl, fun k q h => by simp at h, KK.moved hW hK, hX.at hW hU hS (fun q h => by obtain ⟨k, e, h⟩ := h; simp at h), ⟨fun i j p q h => by simp at h, fun k q h => by simp at h⟩⟩⟩ rfl hn hsize hstack (lv_room hc8) hdg hf) hS (fun q _ h => h.elim) (fun q h => h.elim) (fun q _ h => h.elim) (fun E' ce q9 u t H1 locs1 ht1 hvm hnb hEc hz1 hk1 hS1 hce hcv hcl => ?_) (fun u t H1 locs1 ht1 hvm hb hB hz1 hk1 hS1 => ?_)
  · have hP1 := keep_P hP hk1
    have hEc : E' = cls := hEc
    subst hEc
    exact vx_out (fun x hx => (ht x hx).elim) hlk hce hcv hcl (fun t2 ht2 _ => ⟨(), trivial, ⟨hE hnb, by rw [ht2]; exact hP1⟩, hS1.F ht2⟩) hS1.2.2 hcm hsm
  · exact kk hb H1 locs1 (keep_P hP hk1) hS1
theorem t_demV (S : CallFix p m c cc nL s args Ts own) {bb : Prop} {cls : String} {E : Option String} {Qc : Array Value → State → Outcome → State → Prop} (hM : TD l y ws fr lo D tysC (.ref b :: As) w bb cls) (hT : GoodIn Ts (wsV own index C y ws)) (hw : ws = Cond.code y bytes maxL ret :: ws')
    (hd : y.cls = C ∧ y.cls ≠ "java/lang/invoke/MethodHandle" ∧ y.cls ≠ "java/lang/invoke/VarHandle" ∧ (parseMethodDescriptor y.desc).map (fun d => d.parameters.length) = some n) (hR : fr + 1 ≤ R.frames ∧ 8 + (maxL + 11) + lo ≤ R.locals)
    (hn : As.length = n) (hsize : ls.size = nL) (hstack : st0 = As.reverse ++ .ref b :: rest) (hc8 : (rest.map fun v => v.category).sum ≤ 8) (hdg : decode cc pc = .ok (.invokevirtual index, 3)) (hf : cells + 1 ≤ R.cells ∧ slots + 6 ≤ R.slots)
    (hK : KK D tysC s) (hX : KXA (va_B w) s) (hP : va_P D vwCl w H) (hD : va_D (va_B w) w) (hS : va_S (va_B w) s.heap H locs) (ht : ∀ x ∈ c.exceptionTable.toList, False) (hlk : meth.locks = false) (hcm : cells + 1 ≤ mc) (hsm : slots + 6 ≤ ms) (hE : ¬ bb → E = some cls) {q0 ci N : Nat} {T : u_T} {fs : List Value} (he : w[q0]? = some (b, .inr (ci, fs))) (hc : vwCl[ci]? = some (C, T, N))
    (kk : bb → ∀ (H1 : Heap) (locs1 : List Loc), va_P D vwCl w H1 → va_S (va_B w) s.heap H1 locs1 → W p l e R s m args below meth c H1 locs1 (cells + 1) (slots + 6) (vx_MQ below Qc (XT D w E) args s mc ms (va_B w)) (F0 m (pc + 3) ls rest)) : W p l e R s m args below meth c H locs cells slots (vx_MQ below Qc (XT D w E) args s mc ms (va_B w)) (F0 m pc ls st0) := by
  refine vx_callv (vx_runV (As := As) (rest := rest) S hM (cwV n S.2.2.2.2 hT hw rfl rfl hd hR) ⟨blindX, va_recv hK.1 hP hc he, fun U hU hW => ⟨rfl, by rw [hU]; exact hP, KK.moved hW hK, hX.at hW hU hS (fun q h => h), hD.weaken (fun _ _ _ _ => trivial)⟩⟩ rfl hn hsize hstack (lv_room hc8) hdg hf) hS (fun q _ h => h.elim) (fun q h => h.elim) (fun q _ h => h.elim) (fun E' ce q9 u t H1 locs1 ht1 hvm hnb hEc hz1 hk1 hS1 hce hcv hcl => ?_) (fun u t H1 locs1 ht1 hvm hb hB hz1 hk1 hS1 => ?_)
  · have hP1 := keep_P hP hk1
    have hEc : E' = cls := hEc
    subst hEc
    exact vx_out (fun x hx => (ht x hx).elim) hlk hce hcv hcl (fun t2 ht2 _ => ⟨(), trivial, ⟨hE hnb, by rw [ht2]; exact hP1⟩, hS1.F ht2⟩) hS1.2.2 hcm hsm
  · exact kk hb H1 locs1 (keep_P hP hk1) hS1
/-- a thrower's callee, as the last thing that may throw: demandIndex at the end of demandGoose, demandVisitor -/
theorem t_demD (S : CallFix p m c cc nL s args Ts own) {bb : Prop} {cls : String} {Qc : Array Value → State → Outcome → State → Prop} (hM : TD l y ws fr lo D tysC As [] bb cls) (hT : GoodIn Ts (va_wsS own index y ws)) (hw : ws = Cond.code y bytes maxL ret :: ws')
    (hd : y.cls ≠ "java/lang/invoke/MethodHandle" ∧ y.cls ≠ "java/lang/invoke/VarHandle" ∧ (parseMethodDescriptor y.desc).map (fun d => d.parameters.length) = some n) (hR : fr + 1 ≤ R.frames ∧ 8 + (maxL + 11) + lo ≤ R.locals)
    (hn : As.length = n) (hsize : ls.size = nL) (hstack : st0 = As.reverse ++ rest) (hc8 : (rest.map fun v => v.category).sum ≤ 8) (hdg : decode cc pc = .ok (.invokestatic index, 3)) (hf : cells + 1 ≤ R.cells ∧ slots + 6 ≤ R.slots)
    (hK : KK D tysC s) (hX : KXA (va_B w) s) (hP : va_P D vwCl w H) (hS : va_S (fun _ => False) s.heap H locs) (ht : ∀ x ∈ c.exceptionTable.toList, False) (hlk : meth.locks = false) (hcm : cells + 1 ≤ mc) (hsm : slots + 6 ≤ ms)
    (kk : bb → ∀ (H1 : Heap) (locs1 : List Loc), va_S (fun _ => False) s.heap H1 locs1 → W p l e R s m args below meth c H1 locs1 (cells + 1) (slots + 6) (vx_MQ below Qc (vx_X (fun _ : Unit => ¬ bb) (fun E' _ _ => E' = cls) (fun _ => False)) args s mc ms (fun _ => False)) (F0 m (pc + 3) ls rest)) : W p l e R s m args below meth c H locs cells slots (vx_MQ below Qc (vx_X (fun _ : Unit => ¬ bb) (fun E' _ _ => E' = cls) (fun _ => False)) args s mc ms (fun _ => False)) (F0 m pc ls st0) := by
  have hSB : va_S (va_B w) s.heap H locs := ⟨hS.1, fun q h1 _ => hS.2.1 q h1 (fun h => h), fun z hz => (hS.2.2 z hz).elim⟩
  refine vx_callv (vx_runS (As := As) (rest := rest) S hM (va_cwS n S.2.2.2.2 hT hw rfl rfl hd hR) ⟨blindX, fun U hU hW => ⟨rfl, fun k q h => by simp at h, KK.moved hW hK, hX.at hW hU hSB (fun q h => by obtain ⟨k, e, h⟩ := h; simp at h), ⟨fun i j p q h => by simp at h, fun k q h => by simp at h⟩⟩⟩ rfl hn hsize hstack (lv_room hc8) hdg hf) hS (fun q _ h => h.elim) (fun q h => h.elim) (fun q _ h => h.elim) (fun E' ce q9 u t H1 locs1 ht1 hvm hnb hEc hz1 hk1 hS1 hce hcv hcl => ?_) (fun u t H1 locs1 ht1 hvm hb hB hz1 hk1 hS1 => ?_)
  · have hEc : E' = cls := hEc
    subst hEc
    exact vx_out (fun x hx => (ht x hx).elim) hlk hce hcv hcl (fun t2 ht2 _ => ⟨(), hnb, rfl, hS1.F ht2⟩) hS1.2.2 hcm hsm
  · exact kk hb H1 locs1 hS1
theorem t_retI (S : CallFix p m c cc nL s args Ts own) {ty : FieldType} {v v1 : Int32} {E : Option String} {XC : String → State → State → Prop} (hr : meth.sig.returnType = some ty) (hlk : meth.locks = false) (hP : va_P D vwCl w H) (hw : w = w1) (hS : va_S (va_B w0) s.heap H locs) (hE : E = none) (hv : v1 = v) (hn : narrow ty (.int v1) = .int v1) (hcm : cells ≤ mc) (hsm : slots ≤ ms) (hdg : decode cc pc = .ok (.ireturn, 1)) :
    W p l e R s m args below meth c H locs cells slots (vx_MQ below (va_Qi (fun r (_ : Unit) => E = none ∧ r = v) (fun _ t => va_P D vwCl w1 t.heap) (va_B w0)) XC args s mc ms (va_B w0)) (F0 m pc ls [.int v1]) :=
  vx_ret (W.widen hcm hsm (W.zret S.1 S.2.1 hr hn (fun t ht hW => ⟨⟨v1, (), rfl, ⟨hE, hv⟩, by show va_P D vwCl w1 t.heap; rw [ht, ← hw]; exact hP⟩, hS.F ht⟩) hS.2.2 hdg hlk))
/-- a call of a thrower that doesn't throw here -/
theorem t_okI (S : CallFix p m c cc nL s args Ts own) {v v1 : Int32} {w2 : va_W} {E : Option String} (hM : TI l y ws fr mcY lo D tysC (.ref b :: As) wc w2 E v1) (hE : E = none) (hv1 : v1 = v) (hw2 : w2 = w1) (hT : GoodIn Ts (wsV own index C y ws)) (hw : ws = Cond.code y bytes maxL ret :: ws')
    (hd : y.cls = C ∧ y.cls ≠ "java/lang/invoke/MethodHandle" ∧ y.cls ≠ "java/lang/invoke/VarHandle" ∧ (parseMethodDescriptor y.desc).map (fun d => d.parameters.length) = some n) (hR : fr + 1 ≤ R.frames ∧ 8 + (maxL + 11) + lo ≤ R.locals)
    (hn : As.length = n) (hsize : ls.size = nL) (hstack : st0 = As.reverse ++ .ref b :: rest) (hc8 : (rest.map fun v => v.category).sum ≤ 8) (hdg : decode cc pc = .ok (.invokevirtual index, 3)) (hf : cells + mcY ≤ R.cells ∧ slots + 6 * mcY ≤ R.slots)
    (hK : KK D tysC s) (hX : KXA A0 s) (hP : va_P D vwCl w H) (hD : va_D A0 w) (hS : va_S A0 s.heap H locs) (isC : List Nat) (hC : isC.map (fun i => w[i]?) = wc.map some) (hnd : va_nd isC = true) (hl : isC.length = w1.length) (w' : va_W) (hw' : mset w isC w1 = w') (ha : w'.map (·.1) = w.map (·.1)) {q0 ci N : Nat} {T : u_T} {fs : List Value} (he : w[q0]? = some (b, .inr (ci, fs))) (hc : vwCl[ci]? = some (C, T, N))
    (kk : ∀ (H1 : Heap) (locs1 : List Loc), va_P D vwCl w' H1 → va_D A0 w' → va_S A0 s.heap H1 locs1 → W p l e R s m args below meth c H1 locs1 (cells + mcY) (slots + 6 * mcY) Q (F0 m (pc + 3) ls (.int v :: rest))) : W p l e R s m args below meth c H locs cells slots Q (F0 m pc ls st0) := by
  subst hw2
  subst hv1
  have hPc := sub_at hP isC hC
  have hDc := subD_at hD isC hnd hC
  refine vx_calli (vx_runV (As := As) (rest := rest) S hM (cwV n S.2.2.2.2 hT hw rfl rfl hd hR) ⟨blindX, va_recv hK.1 hP hc he, fun U hU hW => ⟨rfl, by rw [hU]; exact hPc, KK.moved hW hK, hX.at hW hU hS (fun q h => B_in hD isC hC q h), hDc.weaken (fun _ _ _ _ => trivial)⟩⟩ rfl hn hsize hstack (lv_room hc8) hdg hf) hS (fun q _ h => B_in hD isC hC q h) (fun q h => B_in hD isC hC q h) (fun q _ h => B_in hD isC hC q h) (fun E' ce q9 u t H1 locs1 ht1 hvm hnb hEc hz1 hk1 hS1 hce hcv hcl => ?_) (fun r u t H1 locs1 ht hvm hw1 hB hz1 hk1 hS => ?_)
  · rw [hE] at hEc
    exact absurd hEc.1 (by simp)
  · rw [ht] at hB
    obtain ⟨-, hw1⟩ := hw1
    subst hw1
    exact kk H1 locs1 (by rw [← hw']; exact mjoin hP hD isC hC hl hk1 hB) (D_re hD ha) hS
end
end
section
/-! reads and writes of rows of any numbers; prefixes; the ends of what makes cells -/
section
variable {p : Program} {l : Launch} {e : Env} {R : Room} {s : State} {m : MethodId} {args : Array Value} {below : List Frame} {meth : Method} {c : Code} {H : Heap} {locs : List Loc} {cells slots : Nat} {Q : State → Prop}
variable {cc : ByteArray} {pc nL : Nat} {ls : Array Slot} {rest st0 : List Value} {D : va_G} {A A0 : Nat → Prop} {a : Nat} {tys tysC : List (ClassId × FieldType)} {w w0 wc w1 : va_W} {H0 : Heap} {Ts : List Cond} {own : String} {mc ms : Nat}
theorem k_ialx (S : CallFix p m c cc nL s args Ts own) (hK : va_K D vwCl tys s) (hP : va_P D vwCl w H) (q0 t0 : Nat) {cA : ClassId} {n k : Nat} {f : Nat → Int32} {v : Int32} (ha : w[q0]? = some (a, .inl (cA, n, .inl f))) (ht : tys[t0]? = some (cA, .int)) (hk : k < n) (hn : n < 2 ^ 31) (hv : f k = v) (hdg : decode cc pc = .ok (.iaload, 1))
    (kk : W p l e R s m args below meth c H locs cells slots Q (F0 m (pc + 1) ls (.int v :: rest))) : W p l e R s m args below meth c H locs cells slots Q (F0 m pc ls (.int (nI k) :: .ref a :: rest)) :=
  va_iald S.1 S.2.1 hK hP q0 t0 ha ht (vp_in_nI hk hn) hdg (by rw [nI_clamp (Nat.lt_trans hk hn), hv]; exact kk)
theorem k_iasx (S : CallFix p m c cc nL s args Ts own) (hK : va_K D vwCl tys s) (hP : va_P D vwCl w H) (hD : va_D A w) (hS : va_S A H0 H locs) (q0 t0 : Nat) {cA : ClassId} {n k : Nat} {x : Int32} {f : Nat → Int32} (ha : w[q0]? = some (a, .inl (cA, n, .inl f))) (ht : tys[t0]? = some (cA, .int)) (hk : k < n) (hn : n < 2 ^ 31) (hdg : decode cc pc = .ok (.iastore, 1)) (w' : va_W) (hw : w.set q0 (a, .inl (cA, n, .inl (upd f k x))) = w')
    (kk : ∀ (H1 : Heap) (locs1 : List Loc), va_P D vwCl w' H1 → va_D A w' → va_S A H0 H1 locs1 → W p l e R s m args below meth c H1 locs1 cells slots Q (F0 m (pc + 1) ls rest)) : W p l e R s m args below meth c H locs cells slots Q (F0 m pc ls (.int x :: .int (nI k) :: .ref a :: rest)) :=
  va_iast S.1 S.2.1 hK hP hD hS q0 t0 ha ht (vp_in_nI hk hn) hdg (fun H1 locs1 h1 h2 h3 => by
    rw [nI_clamp (Nat.lt_trans hk hn), hw] at h1 h2
    exact kk H1 locs1 h1 h2 h3)
theorem k_alen (S : CallFix p m c cc nL s args Ts own) (hK : va_K D vwCl tys s) (hP : va_P D vwCl w H) (q0 t0 : Nat) {cA : ClassId} {n : Nat} {f : Nat → Int32} (ha : w[q0]? = some (a, .inl (cA, n, .inl f))) (ht : tys[t0]? = some (cA, .int)) (hdg : decode cc pc = .ok (.arraylength, 1))
    (kk : W p l e R s m args below meth c H locs cells slots Q (F0 m (pc + 1) ls (.int (nI n) :: rest))) : W p l e R s m args below meth c H locs cells slots Q (F0 m pc ls (.ref a :: rest)) :=
  va_alen S.1 S.2.1 hK hP q0 t0 (x := (n, .inl f)) ha ht (v := nI n) rfl hdg kk
theorem P_pre {e9 : va_W} (h : va_P D vwCl (w ++ e9) H) : va_P D vwCl w H := fun k q hq => h k q (by
  rw [List.getElem?_append_left (List.getElem?_eq_some_iff.mp hq).1]
  exact hq)
theorem pre_at {e9 : va_W} {k : Nat} {q : Nat × va_E} (hq : w[k]? = some q) : (w ++ e9)[k]? = some q := by
  rw [List.getElem?_append_left (List.getElem?_eq_some_iff.mp hq).1]
  exact hq
theorem D_pre {e9 : va_W} (h : va_D A (w ++ e9)) : va_D A w := ⟨fun i j p q hp hq => h.1 i j p q (pre_at hp) (pre_at hq), fun k q hq => h.2 k q (pre_at hq)⟩
abbrev QGI (below : List Frame) (args : Array Value) (s : State) (D : va_G) (mc ms : Nat) (w0 : va_W) (sz : Nat) (w1 : va_W) (v : Int32) : State → Prop := MQ below (va_Qi (fun r (_ : Unit) => r = v) (fun _ t => va_P D vwCl w1 t.heap) (va_B w0)) args s mc ms (va_A w0 sz)
abbrev QGL (below : List Frame) (args : Array Value) (s : State) (D : va_G) (mc ms : Nat) (w0 : va_W) (sz : Nat) (w1 : va_W) (v : Int64) : State → Prop := MQ below (va_Ql (fun r (_ : Unit) => r = v) (fun _ t => va_P D vwCl w1 t.heap) (va_B w0)) args s mc ms (va_A w0 sz)
abbrev QEL (below : List Frame) (args : Array Value) (s : State) (D : va_G) (mc : Nat) (w0 w1 : va_W) (v : Int64) : State → Prop := MQ below (va_Ql (fun r (_ : Unit) => r = v) (fun _ t => va_P D vwCl w1 t.heap) (va_B w0)) args s mc (6 * mc) (va_B w0)
theorem k_retEL (S : CallFix p m c cc nL s args Ts own) {v v1 : Int64} (hr : meth.sig.returnType = some .long) (hlk : meth.locks = false) (hP : va_P D vwCl w H) (hw : w = w1) (hS : va_S (va_B w0) s.heap H locs) (hv : v1 = v) (hcm : cells ≤ mc) (hsm : slots ≤ ms) (hdg : decode cc pc = .ok (.lreturn, 1)) :
    W p l e R s m args below meth c H locs cells slots (MQ below (va_Ql (fun r (_ : Unit) => r = v) (fun _ t => va_P D vwCl w1 t.heap) (va_B w0)) args s mc ms (va_B w0)) (F0 m pc ls [.long v1]) :=
  W.widen hcm hsm (W.lret S.1 S.2.1 hr (fun t ht hW => ⟨⟨v1, (), rfl, hv, by show va_P D vwCl w1 t.heap; rw [ht, ← hw]; exact hP⟩, hS.F ht⟩) hS.2.2 hdg hlk)
/-- a demand that holds: it returns -/
theorem t_retV (S : CallFix p m c cc nL s args Ts own) {b : Prop} {XC : String → State → State → Prop} (hr : meth.sig.returnType = none) (hlk : meth.locks = false) (hS : va_S (fun _ => False) s.heap H locs) (hb : b) (hcm : cells ≤ mc) (hsm : slots ≤ ms) (hdg : decode cc pc = .ok (.return_, 1)) :
    W p l e R s m args below meth c H locs cells slots (vx_MQ below (va_Qv (fun _ : Unit => b) (fun _ _ => True) (fun _ => False)) XC args s mc ms (fun _ => False)) (F0 m pc ls []) :=
  vx_ret (W.widen hcm hsm (W.vret S.1 S.2.1 hr (fun t ht hW => ⟨⟨(), rfl, hb, trivial⟩, hS.F ht⟩) hS.2.2 hdg hlk))
end
/-- the exception of a code -/
def exq (L : List String) : Nat → Option String
  | 0 => none
  | n + 1 => L[n]?
theorem okI_nI {n g : Nat} (h : g < n) (hn : n < 2 ^ 31) : okI n (nI g) := ⟨Int32.not_lt.mp (nI_pos (by omega)), (nI_ltI (by omega) hn).mpr h⟩
section
variable {l : Launch} {y : MethodName} {ws ws' : List Cond} {fr lo : Nat} {D : va_G} {tys : List (ClassId × FieldType)} {av : List Value} {w : va_W} {cc : ByteArray} {maxL : Nat} {ret : Option FieldType} {Qc : Array Value → State → Outcome → State → Prop} {XC : String → State → State → Prop}
theorem k_bodyT (hy : plainName y.cls = true) (hw : ws = Cond.code y cc maxL ret :: ws') (hav : (lg_sl av).length ≤ maxL)
    (body : ∀ p e s m args below meth c ls, CallFix p m c cc maxL s args ws y.cls → meth.sig.returnType = ret → meth.locks = false → lv_has ls maxL (lv_args 0 av) → va_P D vwCl w s.heap → KK D tys s → va_D (va_B w) w → KXA (va_B w) s → (∀ x ∈ c.exceptionTable.toList, False) →
      W p l e (rmG fr 1 6 lo) s m args below meth c s.heap [] 0 0 (vx_MQ below Qc XC args s 1 6 (fun _ => False)) (F0 m 0 ls [])) :
    vx_Met l y ws (rmG fr 1 6 lo) (va_Pc av (PX D tys w)) Qc XC 1 6 (fun _ => False) := by
  refine vx_ofW (cc := cc) (maxL := maxL) (ret := ret) hy hw ?_
  intro p e s m args below meth c s₁ B hml ht hv
  obtain ⟨rfl, hP, hK, hX, hD⟩ := hv
  have hl := lv_entry av (n := maxL) hav
  rw [lg_entry_eq]
  exact body p e s m _ below meth c _ ⟨B.exec, B.bytes, hml, findClass_of_methodNamed B.named, atoms_spec (ws := ws) B.pre⟩ B.returns B.notSynchronized hl hP hK (D_B hD) hX ht
end
theorem wCo_msb {cI : ClassId} {a b : Nat → Nat} {S S2 S3 : Nat → Nat → Nat} : mset (wCo cI a b S S2) [14, 15, 16, 17, 18, 19, 20, 21, 22, 23, 24, 25, 26] (wFa cI b S3) = wCo cI a b S S3 := rfl
theorem wCo_msa {cI : ClassId} {a b : Nat → Nat} {S S2 S3 : Nat → Nat → Nat} : mset (wCo cI a b S S2) [1, 2, 3, 4, 5, 6, 7, 8, 9, 10, 11, 12, 13] (wFa cI a S3) = wCo cI a b S3 S2 := rfl
theorem mset_app : ∀ (is : List Nat) (xs w : va_W) (js : List Nat) (ys : va_W), is.length = xs.length → mset w (is ++ js) (xs ++ ys) = mset (mset w is xs) js ys
  | [], [], _, _, _, _ => rfl
  | _ :: is, _ :: xs, _, js, ys, h => mset_app is xs _ js ys (by simpa using h)
  | [], _ :: _, _, _, _, h => absurd h (by simp)
  | _ :: _, [], _, _, _, h => absurd h (by simp)
theorem wCo_msf {cI : ClassId} {a b : Nat → Nat} {S S2 S3 : Nat → Nat → Nat} : mset (wCo cI a b S S2) [14, 15, 16, 17, 18, 19, 20, 21, 22, 23, 24, 25, 26, 1, 2, 3, 4, 5, 6, 7, 8, 9, 10, 11, 12, 13] (wFF cI a b S S3) = wCo cI a b S S3 := by
  have e1 : [14, 15, 16, 17, 18, 19, 20, 21, 22, 23, 24, 25, 26, 1, 2, 3, 4, 5, 6, 7, 8, 9, 10, 11, 12, 13] = [14, 15, 16, 17, 18, 19, 20, 21, 22, 23, 24, 25, 26] ++ [1, 2, 3, 4, 5, 6, 7, 8, 9, 10, 11, 12, 13] := rfl
  have e2 : wFF cI a b S S3 = wFa cI b S3 ++ wFa cI a S := rfl
  have e3 : [14, 15, 16, 17, 18, 19, 20, 21, 22, 23, 24, 25, 26].length = (wFa cI b S3).length := rfl
  rw [e1, e2, mset_app _ _ _ _ _ e3, wCo_msb, wCo_msa]
theorem wCo_subf {cI : ClassId} {a b : Nat → Nat} {S S2 : Nat → Nat → Nat} : [14, 15, 16, 17, 18, 19, 20, 21, 22, 23, 24, 25, 26, 1, 2, 3, 4, 5, 6, 7, 8, 9, 10, 11, 12, 13].map (fun i => (wCo cI a b S S2)[i]?) = (wFF cI a b S S2).map some := rfl
theorem wCo_suba {cI : ClassId} {a b : Nat → Nat} {S S2 : Nat → Nat → Nat} : [1, 2, 3, 4, 5, 6, 7, 8, 9, 10, 11, 12, 13].map (fun i => (wCo cI a b S S2)[i]?) = (wFa cI a S).map some := rfl
theorem wCo_subb {cI : ClassId} {a b : Nat → Nat} {S S2 : Nat → Nat → Nat} : [14, 15, 16, 17, 18, 19, 20, 21, 22, 23, 24, 25, 26].map (fun i => (wCo cI a b S S2)[i]?) = (wFa cI b S2).map some := rfl
theorem nI_nle_m1 {x : Nat} (h : x < 2 ^ 31) : ¬ nI x ≤ -1 := fun q => nI_pos h (Int32.lt_of_le_of_lt q (by decide))
theorem wCo_ad {cI : ClassId} {a b : Nat → Nat} {S S2 S3 S4 : Nat → Nat → Nat} : (wCo cI a b S S2).map (·.1) = (wCo cI a b S3 S4).map (·.1) := rfl

section
variable {p : Program} {l : Launch} {e : Env} {R : Room} {s : State} {m : MethodId} {args : Array Value} {below : List Frame} {meth : Method} {c : Code} {H : Heap} {locs : List Loc} {cells slots : Nat} {Q : State → Prop}
variable {cc : ByteArray} {pc nL : Nat} {ls : Array Slot} {rest st0 : List Value} {D : va_G} {A0 : Nat → Prop} {tysC : List (ClassId × FieldType)} {w w1 : va_W} {Ts : List Cond} {own : String}
variable {C : String} {y : MethodName} {bytes : ByteArray} {maxL fr lo mcY index n : Nat} {ret : Option FieldType} {ws ws' : List Cond} {As : List Value} {b : Nat}
theorem B_D (hD : va_D A0 w) : ∀ q, va_B w q → A0 q := fun q h => by
  obtain ⟨k, e, h⟩ := h
  exact hD.2 k (q, e) h
theorem re_P {H1 : Heap} (hP1 : va_P D vwCl w1 H1) : va_P D vwCl w1 H1 := hP1
/-- a call of a thrower that doesn't throw here, over all cells -/
theorem t_okC (S : CallFix p m c cc nL s args Ts own) {v v1 : Int32} {w2 : va_W} {E : Option String} (hM : TI l y ws fr mcY lo D tysC (.ref b :: As) w w2 E v1) (hE : E = none) (hv1 : v1 = v) (hw2 : w2 = w1) (hT : GoodIn Ts (wsV own index C y ws)) (hw : ws = Cond.code y bytes maxL ret :: ws')
    (hd : y.cls = C ∧ y.cls ≠ "java/lang/invoke/MethodHandle" ∧ y.cls ≠ "java/lang/invoke/VarHandle" ∧ (parseMethodDescriptor y.desc).map (fun d => d.parameters.length) = some n) (hR : fr + 1 ≤ R.frames ∧ 8 + (maxL + 11) + lo ≤ R.locals)
    (hn : As.length = n) (hsize : ls.size = nL) (hstack : st0 = As.reverse ++ .ref b :: rest) (hc8 : (rest.map fun v => v.category).sum ≤ 8) (hdg : decode cc pc = .ok (.invokevirtual index, 3)) (hf : cells + mcY ≤ R.cells ∧ slots + 6 * mcY ≤ R.slots)
    (hK : KK D tysC s) (hX : KXA A0 s) (hP : va_P D vwCl w H) (hD : va_D A0 w) (hS : va_S A0 s.heap H locs) (ha : w1.map (·.1) = w.map (·.1)) {q0 ci N : Nat} {T : u_T} {fs : List Value} (he : w[q0]? = some (b, .inr (ci, fs))) (hc : vwCl[ci]? = some (C, T, N))
    (kk : ∀ (H1 : Heap) (locs1 : List Loc), va_P D vwCl w1 H1 → va_D A0 w1 → va_S A0 s.heap H1 locs1 → W p l e R s m args below meth c H1 locs1 (cells + mcY) (slots + 6 * mcY) Q (F0 m (pc + 3) ls (.int v :: rest))) : W p l e R s m args below meth c H locs cells slots Q (F0 m pc ls st0) := by
  subst hw2
  subst hv1
  refine vx_calli (vx_runV (As := As) (rest := rest) S hM (cwV n S.2.2.2.2 hT hw rfl rfl hd hR) ⟨blindX, va_recv hK.1 hP hc he, fun U hU hW => ⟨rfl, by rw [hU]; exact hP, KK.moved hW hK, hX.at hW hU hS (fun q h => B_D hD q h), hD.weaken (fun _ _ _ _ => trivial)⟩⟩ rfl hn hsize hstack (lv_room hc8) hdg hf) hS (fun q _ h => B_D hD q h) (fun q h => B_D hD q h) (fun q _ h => B_D hD q h) (fun E' ce q9 u t H1 locs1 ht1 hvm hnb hEc hz1 hk1 hS1 hce hcv hcl => ?_) (fun r u t H1 locs1 ht hvm hw1 hB hz1 hk1 hS => ?_)
  · rw [hE] at hEc
    exact absurd hEc.1 (by simp)
  · rw [ht] at hB
    obtain ⟨-, hw1⟩ := hw1
    subst hw1
    exact kk H1 locs1 hB (D_re hD ha) hS
theorem t_eC (S : CallFix p m c cc nL s args Ts own) {v : Int64} (hM : EL l y ws fr mcY lo D tysC (.ref b :: As) w w1 v) (hT : GoodIn Ts (wsV own index C y ws)) (hw : ws = Cond.code y bytes maxL ret :: ws')
    (hd : y.cls = C ∧ y.cls ≠ "java/lang/invoke/MethodHandle" ∧ y.cls ≠ "java/lang/invoke/VarHandle" ∧ (parseMethodDescriptor y.desc).map (fun d => d.parameters.length) = some n) (hR : fr + 1 ≤ R.frames ∧ 8 + (maxL + 11) + lo ≤ R.locals)
    (hn : As.length = n) (hsize : ls.size = nL) (hstack : st0 = As.reverse ++ .ref b :: rest) (hc8 : (rest.map fun v => v.category).sum ≤ 8) (hdg : decode cc pc = .ok (.invokevirtual index, 3)) (hf : cells + mcY ≤ R.cells ∧ slots + 6 * mcY ≤ R.slots)
    (hK : KK D tysC s) (hX : KXA A0 s) (hP : va_P D vwCl w H) (hD : va_D A0 w) (hS : va_S A0 s.heap H locs) (ha : w1.map (·.1) = w.map (·.1)) {q0 ci N : Nat} {T : u_T} {fs : List Value} (he : w[q0]? = some (b, .inr (ci, fs))) (hc : vwCl[ci]? = some (C, T, N))
    (kk : ∀ (H1 : Heap) (locs1 : List Loc), va_P D vwCl w1 H1 → va_D A0 w1 → va_S A0 s.heap H1 locs1 → W p l e R s m args below meth c H1 locs1 (cells + mcY) (slots + 6 * mcY) Q (F0 m (pc + 3) ls (.long v :: rest))) : W p l e R s m args below meth c H locs cells slots Q (F0 m pc ls st0) := by
  refine va_calll (va_runV (As := As) (rest := rest) S hM (cwV n S.2.2.2.2 hT hw rfl rfl hd hR) ⟨blindX, va_recv hK.1 hP hc he, fun U hU hW => ⟨rfl, by rw [hU]; exact hP, KK.moved hW hK, hX.at hW hU hS (fun q h => B_D hD q h), hD.weaken (fun _ _ _ _ => trivial)⟩⟩ rfl hn hsize hstack (lv_room hc8) hdg hf) hS (fun q _ h => B_D hD q h) (fun q h => B_D hD q h) (fun r u t H1 locs1 ht hvm hw1 hB hz1 hk1 hS => ?_)
  rw [ht] at hB
  subst hw1
  exact kk H1 locs1 hB (D_re hD ha) hS
end
end
section
/-! calls beside other cells; calls that may throw and are caught -/
theorem va_Nc.kept {C T : String} {s U : State} (hW : s.WarmedH U.vm) (h : va_Nc C T s) : va_Nc C T U := va_Nc.moved hW.alike h
section
variable {D : va_G} {A0 : Nat → Prop} {wr w w1 : va_W} {H H1 : Heap}
theorem app_l {k : Nat} {q : Nat × va_E} (h : w[k]? = some q) : (wr ++ w)[wr.length + k]? = some q := by
  rw [List.getElem?_append_right (Nat.le_add_right _ _), Nat.add_sub_cancel_left]
  exact h
theorem app_Pr (hP : va_P D vwCl (wr ++ w) H) : va_P D vwCl w H := fun k q hq => hP (wr.length + k) q (app_l hq)
theorem app_Dr (hD : va_D A0 (wr ++ w)) : va_D A0 w := ⟨fun i j p q hp hq e => by
  have := hD.1 (wr.length + i) (wr.length + j) p q (app_l hp) (app_l hq) e
  omega, fun k q hq => hD.2 (wr.length + k) q (app_l hq)⟩
/-- the tail's cells are put anew -/
theorem app_P (hP : va_P D vwCl (wr ++ w) H) (hD : va_D A0 (wr ++ w)) (hk : ∀ q : Nat, q < H.size → ¬ va_B w q → H1[q]? = H[q]?) (hP1 : va_P D vwCl w1 H1) : va_P D vwCl (wr ++ w1) H1 := by
  intro k q hq
  by_cases h : k < wr.length
  · rw [List.getElem?_append_left h] at hq
    have h2 := P_pre hP k q hq
    refine h2.kept (hk q.1 h2.lt ?_)
    rintro ⟨j, e, h3⟩
    have := hD.1 k (wr.length + j) q (q.1, e) (pre_at hq) (app_l h3) rfl
    omega
  · rw [List.getElem?_append_right (by omega)] at hq
    exact hP1 _ q hq
/-- the head's cells are put anew -/
theorem pre_P (hP : va_P D vwCl (w ++ wr) H) (hD : va_D A0 (w ++ wr)) (hl : w1.length = w.length) (hk : ∀ q : Nat, q < H.size → ¬ va_B w q → H1[q]? = H[q]?) (hP1 : va_P D vwCl w1 H1) : va_P D vwCl (w1 ++ wr) H1 := by
  intro k q hq
  by_cases h : k < w1.length
  · rw [List.getElem?_append_left h] at hq
    exact hP1 k q hq
  · rw [List.getElem?_append_right (by omega), hl] at hq
    have h2 := app_Pr hP (k - w.length) q hq
    refine h2.kept (hk q.1 h2.lt ?_)
    rintro ⟨j, e, h3⟩
    have h4 := app_l (wr := w) hq
    have := hD.1 (w.length + (k - w.length)) j q (q.1, e) h4 (pre_at h3) rfl
    have := (List.getElem?_eq_some_iff.mp h3).1
    omega
theorem app_D (hD : va_D A0 (wr ++ w)) (ha : w1.map (·.1) = w.map (·.1)) : va_D A0 (wr ++ w1) := D_re hD (by rw [List.map_append, List.map_append, ha])
theorem pre_D (hD : va_D A0 (w ++ wr)) (ha : w1.map (·.1) = w.map (·.1)) : va_D A0 (w1 ++ wr) := D_re hD (by rw [List.map_append, List.map_append, ha])
theorem B_Dr (hD : va_D A0 (wr ++ w)) : ∀ q, va_B w q → A0 q := fun q h => by
  obtain ⟨k, e, h⟩ := h
  exact hD.2 (wr.length + k) (q, e) (app_l h)
theorem B_Dp (hD : va_D A0 (w ++ wr)) : ∀ q, va_B w q → A0 q := fun q h => by
  obtain ⟨k, e, h⟩ := h
  exact hD.2 k (q, e) (pre_at h)
end
section
variable {p : Program} {l : Launch} {e : Env} {R : Room} {s : State} {m : MethodId} {args : Array Value} {below : List Frame} {meth : Method} {c : Code} {H : Heap} {locs : List Loc} {cells slots : Nat} {Q : State → Prop}
variable {cc : ByteArray} {pc nL : Nat} {ls : Array Slot} {rest st0 : List Value} {D : va_G} {A0 : Nat → Prop} {tysC : List (ClassId × FieldType)} {wr w w1 : va_W} {Ts : List Cond} {own : String}
variable {C : String} {y : MethodName} {bytes : ByteArray} {maxL fr lo mcY index n : Nat} {ret : Option FieldType} {ws ws' : List Cond} {As : List Value} {b : Nat}
/-- a call of a thrower over the tail's cells, thrown or not -/
theorem t_callX (S : CallFix p m c cc nL s args Ts own) {v : Int32} {E : Option String} (hM : TI l y ws fr mcY lo D tysC (.ref b :: As) w w1 E v) (hT : GoodIn Ts (wsV own index C y ws)) (hw : ws = Cond.code y bytes maxL ret :: ws')
    (hd : y.cls = C ∧ y.cls ≠ "java/lang/invoke/MethodHandle" ∧ y.cls ≠ "java/lang/invoke/VarHandle" ∧ (parseMethodDescriptor y.desc).map (fun d => d.parameters.length) = some n) (hR : fr + 1 ≤ R.frames ∧ 8 + (maxL + 11) + lo ≤ R.locals)
    (hn : As.length = n) (hsize : ls.size = nL) (hstack : st0 = As.reverse ++ .ref b :: rest) (hc8 : (rest.map fun v => v.category).sum ≤ 8) (hdg : decode cc pc = .ok (.invokevirtual index, 3)) (hf : cells + mcY ≤ R.cells ∧ slots + 6 * mcY ≤ R.slots)
    (hK : KK D tysC s) (hX : KXA A0 s) (hP : va_P D vwCl (wr ++ w) H) (hD : va_D A0 (wr ++ w)) (hS : va_S A0 s.heap H locs) (ha : w1.map (·.1) = w.map (·.1)) {q0 ci N : Nat} {T : u_T} {fs : List Value} (he : w[q0]? = some (b, .inr (ci, fs))) (hc : vwCl[ci]? = some (C, T, N))
    (kx : ∀ (E' : String) (ce : Cell) (q9 : Addr) (H1 : Heap) (locs1 : List Loc), E = some E' → va_P D vwCl (wr ++ w) H1 → va_S A0 s.heap H1 locs1 → H1[q9]? = some ce → ce.vm = .none → s.vm.findClass E' = some ce.cls → vx_W p l e R s m args below meth c H1 locs1 (cells + mcY) (slots + 6 * mcY) Q (F0 m pc ls rest) q9)
    (kk : E = none → ∀ (H1 : Heap) (locs1 : List Loc), va_P D vwCl (wr ++ w1) H1 → va_D A0 (wr ++ w1) → va_S A0 s.heap H1 locs1 → W p l e R s m args below meth c H1 locs1 (cells + mcY) (slots + 6 * mcY) Q (F0 m (pc + 3) ls (.int v :: rest))) : W p l e R s m args below meth c H locs cells slots Q (F0 m pc ls st0) := by
  have hPw := app_Pr hP
  have hDw := app_Dr hD
  refine vx_calli (vx_runV (As := As) (rest := rest) S hM (cwV n S.2.2.2.2 hT hw rfl rfl hd hR) ⟨blindX, va_recv hK.1 hPw hc he, fun U hU hW => ⟨rfl, by rw [hU]; exact hPw, KK.moved hW hK, hX.at hW hU hS (fun q h => B_Dr hD q h), hDw.weaken (fun _ _ _ _ => trivial)⟩⟩ rfl hn hsize hstack (lv_room hc8) hdg hf) hS (fun q _ h => B_Dr hD q h) (fun q h => B_Dr hD q h) (fun q _ h => B_Dr hD q h) (fun E' ce q9 u t H1 locs1 ht1 hvm hnb hEc hz1 hk1 hS1 hce hcv hcl => ?_) (fun r u t H1 locs1 ht hvm hw1 hB hz1 hk1 hS => ?_)
  · have hP1 : va_P D vwCl w H1 := by rw [← ht1]; exact hEc.2
    exact kx E' ce q9 H1 locs1 hEc.1 (app_P hP hD hk1 hP1) hS1 hce hcv hcl
  · rw [ht] at hB
    obtain ⟨hE, hw1⟩ := hw1
    subst hw1
    exact kk hE H1 locs1 (app_P hP hD hk1 hB) (app_D hD ha) hS
end
end
section
/-! arrays of int arrays: what the tables say of them, made, read, written -/
def AOA (U : State) : Prop := (Cond.arrayOver (.array .int)).before #[] U = true
theorem AOA.of {A : Array Value} {U : State} (h : (Cond.arrayOver (.array .int)).before A U = true) : AOA U := h
theorem AOA.use {A : Array Value} {U : State} (h : AOA U) : (Cond.arrayOver (.array .int)).before A U = true := h
theorem AOA.moved {u U : State} (hvm : u.vm.Alike U.vm) (h : AOA u) : AOA U := by
  obtain ⟨comp, c, k, h1, h2, h3, h4, h5⟩ := arrayOverA_spec h
  obtain ⟨k', hk', he⟩ := hvm.2.2 _ _ h3
  have hi : (U.vm.classes.findIdx? fun (x : Class) => match x.kind with | .array component _ => component == comp | _ => false) = some c := by
    first
      | exact (hvm.findIdx?_eq _ (fun _ => rfl)).trans h2
      | (rw [hvm.findIdx?_eq _ (fun _ => rfl)]; exact h2)
  have hkind : k'.kind = .array comp (.array .int) := by rw [he]; exact h4
  have f1 : U.vm.findClass (FieldType.array .int).toString = some comp := by rw [hvm.findClass]; exact h1
  have f2 : U.vm.findClass ("[" ++ (FieldType.array .int).toString) = some c := by rw [hvm.findClass]; exact h5
  unfold AOA Cond.before Cond.holds
  simp only [Cond.value]
  rw [f1, Option.bind_some]
  refine (congrArg (fun o : Option Nat => (o.bind (fun c => (U.vm.classes[c]?).map fun (k : Class) => match k.kind with | .array _ ty => decide (ty = FieldType.array .int) && decide (U.vm.findClass ("[" ++ (FieldType.array .int).toString) = some c) | _ => false) == some true)) hi).trans ?_
  simp [hk', hkind, f2]
def KS (D : va_G) (cI cA : ClassId) (U : State) : Prop := KK D [(cI, .int), (cA, .array .int)] U ∧ AOA U
section
variable {D : va_G} {cI cA : ClassId} {s U : State}
theorem KS.moved (hW : s.WarmedH U.vm) (h : KS D cI cA s) : KS D cI cA U := ⟨KK.moved hW h.1, AOA.moved hW.alike h.2⟩
theorem KS.call {g : JFrame} {mk : MethodId} {a : Array Value} (h : KS D cI cA U) : KS D cI cA (U.calling g mk a) := ⟨KK.call h.1, AOA.moved (u := U) (U := U.calling g mk a) (Vm.Alike.refl U.vm) h.2⟩
theorem KS.i (h : KS D cI cA s) : KK D [(cI, .int)] s := ⟨h.1.1.sub (tys' := [(cI, .int)]) [0] rfl, h.1.2⟩
theorem KS.comp (h : KS D cI cA s) : ∃ kA kI : Class, s.vm.classes[cA]? = some kA ∧ kA.kind = .array cI (.array .int) ∧ s.vm.classes[cI]? = some kI := by
  obtain ⟨comp, c, k, h1, -, h3, h4, h5⟩ := arrayOverA_spec h.2
  have hA : s.vm.findClass ("[" ++ (FieldType.array .int).toString) = some cA := (h.1.1.2 1 (cA, .array .int) rfl).2
  have hI : s.vm.findClass ("[" ++ FieldType.int.toString) = some cI := (h.1.1.2 0 (cI, .int) rfl).2
  have e1 : c = cA := Option.some.inj (h5.symm.trans hA)
  have e2 : comp = cI := Option.some.inj (h1.symm.trans hI)
  subst e1
  subst e2
  obtain ⟨kI, hkI, -⟩ := Vm.findClass_spec h1
  exact ⟨k, kI, h3, h4, hkI⟩
end
section
variable {p : Program} {l : Launch} {e : Env} {R : Room} {s : State} {m : MethodId} {args : Array Value} {below : List Frame} {meth : Method} {c : Code} {H : Heap} {locs : List Loc} {cells slots : Nat} {Q : State → Prop}
variable {cc : ByteArray} {pc nL index : Nat} {ls : Array Slot} {rest : List Value} {D : va_G} {A : Nat → Prop} {a : Nat} {cI cA : ClassId} {w : va_W} {H0 : Heap} {Ts : List Cond} {own : String}
theorem q_aald (S : CallFix p m c cc nL s args Ts own) (hKS : KS D cI cA s) (hP : va_P D vwCl w H) (q0 : Nat) {n k v : Nat} {f : Nat → Option Nat} (ha : w[q0]? = some (a, .inl (cA, n, .inr (.inr (.inr (.inr f)))))) (hk : k < n) (hn : n < 2 ^ 31) (hv : f k = some v) (hdg : decode cc pc = .ok (.aaload, 1))
    (kk : W p l e R s m args below meth c H locs cells slots Q (F0 m (pc + 1) ls (.ref v :: rest))) : W p l e R s m args below meth c H locs cells slots Q (F0 m pc ls (.int (nI k) :: .ref a :: rest)) := by
  have hin := vp_in_nI hk hn
  have e0 : (nI k).toNatClampNeg = k := nI_clamp (Nat.lt_trans hk hn)
  have hA : ArrOfT s cA (.array .int) := (hKS.1.1.2 1 (cA, .array .int) rfl).1
  exact W.aald (v := .ref v) (ty := .array .int) S.1 S.2.1 (hP q0 _ ha) (hA n (fun j => va_rf (f j))) rfl (fun q => by cases q) (by show ¬ (nI k < 0 ∨ (arrV _ _ _).slots.size ≤ _); rw [arrV_size]; exact hin) (by show (arrV _ _ _).slots[_]? = _; rw [e0, arrV_read _ _ hk, hv]; rfl) rfl rfl hdg kk
theorem q_aast (S : CallFix p m c cc nL s args Ts own) (hKS : KS D cI cA s) (hP : va_P D vwCl w H) (hD : va_D A w) (hS : va_S A H0 H locs) (q0 qk : Nat) {n k v n2 : Nat} {f : Nat → Option Nat} {g : Nat → Int32} (ha : w[q0]? = some (a, .inl (cA, n, .inr (.inr (.inr (.inr f)))))) (hv : w[qk]? = some (v, .inl (cI, n2, .inl g))) (hk : k < n) (hn : n < 2 ^ 31) (hdg : decode cc pc = .ok (.aastore, 1)) (w' : va_W) (hw : w.set q0 (a, .inl (cA, n, .inr (.inr (.inr (.inr (va_up f k (some v))))))) = w')
    (kk : ∀ (H1 : Heap) (locs1 : List Loc), va_P D vwCl w' H1 → va_D A w' → va_S A H0 H1 locs1 → W p l e R s m args below meth c H1 locs1 cells slots Q (F0 m (pc + 1) ls rest)) : W p l e R s m args below meth c H locs cells slots Q (F0 m pc ls (.ref v :: .int (nI k) :: .ref a :: rest)) := by
  have hin := vp_in_nI hk hn
  have e0 : (nI k).toNatClampNeg = k := nI_clamp (Nat.lt_trans hk hn)
  obtain ⟨kA, kI, k1, k2, hkI⟩ := hKS.comp
  have g1 : H[v]? = some (vp_cell cI (n2, .inl g)) := hP qk _ hv
  refine W.aast S.1 S.2.1 (hP q0 _ ha) (fun q h => by cases h) (fun h => by cases h) k1 k2 rfl hkI ⟨fun q => hin (Or.inl q), by show _ < (arrV _ _ _).slots.size; rw [arrV_size, e0]; exact hk⟩ g1 (fun q h => by cases h) hkI (va_asg _ _) rfl rfl hdg fun H1 e z oq => ?_
  refine kk H1 _ (by rw [← hw]; exact hP.set hD ha (by
    show H1[a]? = some (vp_cell _ _)
    rw [e, vp_cell_q, vp_cell_q, arrV_store, e0]
    congr 2
    funext q
    by_cases hq : q = k
    · subst hq
      simp [updV, va_up, va_rf]
    · simp [updV, va_up, hq]) oq) (by rw [← hw]; exact hD.set ha) (hS.put z oq (hD.2 q0 _ ha))
theorem q_tyA : (FieldType.array .int).toString = "[I" := by first | rfl | decide
theorem q_anew (S : CallFix p m c cc nL s args Ts own) (hcl : Cond.classLink own index "[I" ∈ Ts) (hKS : KS D cI cA s) (hP : va_P D vwCl w H) (hD : va_D A w) (hS : va_S A H0 H locs) (hA : ∀ q, H0.size ≤ q → A q) {k : Nat} (hk : k < 1000) (hf : cells + 1 ≤ R.cells ∧ slots + k ≤ R.slots) (hdg : decode cc pc = .ok (.anewarray index, 3))
    (kk : ∀ (q : Nat) (H1 : Heap), H.size ≤ q → va_P D vwCl (w ++ [(q, .inl (cA, k, .inr (.inr (.inr (.inr (fun _ => none))))))]) H1 → va_D A (w ++ [(q, .inl (cA, k, .inr (.inr (.inr (.inr (fun _ => none))))))]) → va_S A H0 H1 locs → W p l e R s m args below meth c H1 locs (cells + 1) (slots + k) Q (F0 m (pc + 3) ls (.ref q :: rest))) : W p l e R s m args below meth c H locs cells slots Q (F0 m pc ls (.int (nI k) :: rest)) := by
  have e0 : (nI k).toNatClampNeg = k := nI_clamp (by omega)
  have hk2 : slots + (nI k).toNatClampNeg ≤ R.slots := by rw [e0]; exact hf.2
  have hcl2 : (Cond.classLink own index (FieldType.array .int).toString).before args s = true := by rw [q_tyA]; exact S.2.2.2.2 _ hcl
  refine W.anewA S.1 S.2.1 S.2.2.2.1 hcl2 (AOA.use hKS.2) rfl hdg rfl (nI_pos (by omega)) (by rw [e0]; omega) hf.1 hk2 fun cB kB comp f1 f2 f3 f4 => ?_
  have hB : s.vm.findClass ("[" ++ (FieldType.array .int).toString) = some cA := (hKS.1.1.2 1 (cA, .array .int) rfl).2
  have e1 : cB = cA := Option.some.inj (f1.symm.trans hB)
  subst e1
  rw [e0]
  generalize hH1 : H.push ({ cls := cB, slots := Array.replicate k .null, vm := .none } : Cell) = H1
  have z1 : H1.size = H.size + 1 := by rw [← hH1, Array.size_push]
  have g1 : H1[H.size]? = some (arrV cB k (fun _ => .null)) := by rw [← hH1, Array.getElem?_push_size, ← arrV_new]
  have o1 : ∀ q : Nat, q < H.size → H1[q]? = H[q]? := fun q hq => by rw [← hH1, Array.getElem?_push, if_neg (Nat.ne_of_lt hq)]
  have hkp : ∀ (k : Nat) (x : Nat × va_E), w[k]? = some x → H1[x.1]? = H[x.1]? := fun k x hx => o1 x.1 ((hP k x hx).lt)
  refine kk H.size H1 (Nat.le_refl _) ((hP.kept hkp).app (fun k x hx => ?_)) (hD.push hP rfl (hA _ hS.1)) ⟨Nat.le_trans hS.1 (by omega), fun x h1 h2 => (o1 x (Nat.lt_of_lt_of_le h1 hS.1)).trans (hS.2.1 x h1 h2), hS.2.2⟩
  have hz : k < 1 := (List.getElem?_eq_some_iff.mp hx).1
  rw [show k = 0 by omega] at hx
  cases hx
  show H1[H.size]? = some (vp_cell _ _)
  rw [vp_cell_q]
  exact g1
/-- a read at any place of ints -/
theorem q_iald (S : CallFix p m c cc nL s args Ts own) (hKS : KS D cI cA s) (hP : va_P D vwCl w H) (q0 : Nat) {n k : Nat} {f : Nat → Nat} {v : Nat} (ha : w[q0]? = some (a, .inl (cI, n, .inl (row f)))) (hk : k < n) (hn : n < 2 ^ 31) (hv : f k = v) (hdg : decode cc pc = .ok (.iaload, 1))
    (kk : W p l e R s m args below meth c H locs cells slots Q (F0 m (pc + 1) ls (.int (nI v) :: rest))) : W p l e R s m args below meth c H locs cells slots Q (F0 m pc ls (.int (nI k) :: .ref a :: rest)) := by
  subst hv
  exact k_iald S hKS.1.1 hP q0 0 ha rfl hk hn hdg kk
theorem q_iast (S : CallFix p m c cc nL s args Ts own) (hKS : KS D cI cA s) (hP : va_P D vwCl w H) (hD : va_D A w) (hS : va_S A H0 H locs) (q0 : Nat) {n k x : Nat} {f : Nat → Nat} (ha : w[q0]? = some (a, .inl (cI, n, .inl (row f)))) (hk : k < n) (hn : n < 2 ^ 31) (hdg : decode cc pc = .ok (.iastore, 1)) (w' : va_W) (hw : w.set q0 (a, .inl (cI, n, .inl (row (updN f k x)))) = w')
    (kk : ∀ (H1 : Heap) (locs1 : List Loc), va_P D vwCl w' H1 → va_D A w' → va_S A H0 H1 locs1 → W p l e R s m args below meth c H1 locs1 cells slots Q (F0 m (pc + 1) ls rest)) : W p l e R s m args below meth c H locs cells slots Q (F0 m pc ls (.int (nI x) :: .int (nI k) :: .ref a :: rest)) :=
  k_iast S hKS.1.1 hP hD hS q0 0 ha rfl hk hn hdg w' hw kk
theorem q_alen (S : CallFix p m c cc nL s args Ts own) (hKS : KS D cI cA s) (hP : va_P D vwCl w H) (q0 : Nat) {n : Nat} {f : Nat → Int32} (ha : w[q0]? = some (a, .inl (cI, n, .inl f))) (hdg : decode cc pc = .ok (.arraylength, 1))
    (kk : W p l e R s m args below meth c H locs cells slots Q (F0 m (pc + 1) ls (.int (nI n) :: rest))) : W p l e R s m args below meth c H locs cells slots Q (F0 m pc ls (.ref a :: rest)) :=
  va_alen S.1 S.2.1 hKS.1.1 hP q0 0 (x := (n, .inl f)) ha rfl (v := nI n) rfl hdg kk
theorem q_alenA (S : CallFix p m c cc nL s args Ts own) (hKS : KS D cI cA s) (hP : va_P D vwCl w H) (q0 : Nat) {n : Nat} {f : Nat → Option Nat} (ha : w[q0]? = some (a, .inl (cA, n, .inr (.inr (.inr (.inr f)))))) (hdg : decode cc pc = .ok (.arraylength, 1))
    (kk : W p l e R s m args below meth c H locs cells slots Q (F0 m (pc + 1) ls (.int (nI n) :: rest))) : W p l e R s m args below meth c H locs cells slots Q (F0 m pc ls (.ref a :: rest)) :=
  va_alen S.1 S.2.1 hKS.1.1 hP q0 1 (x := (n, .inr (.inr (.inr (.inr f))))) ha rfl (v := nI n) rfl hdg kk
/-- a new array of ints, at no cell that was -/
theorem q_newa (S : CallFix p m c cc nL s args Ts own) (harr : Cond.arrayClass .int ∈ Ts) (hKS : KS D cI cA s) (hP : va_P D vwCl w H) (hD : va_D A w) (hS : va_S A H0 H locs) (hA : ∀ q, H0.size ≤ q → A q) {k : Nat} (hk : k < 1000) (hf : cells + 1 ≤ R.cells ∧ slots + k ≤ R.slots) (hdg : decode cc pc = .ok (.newarray .int, 2))
    (kk : ∀ (q : Nat) (H1 : Heap), va_P D vwCl (w ++ [(q, .inl (cI, k, .inl (row (fun _ => 0))))]) H1 → va_D A (w ++ [(q, .inl (cI, k, .inl (row (fun _ => 0))))]) → va_S A H0 H1 locs → W p l e R s m args below meth c H1 locs (cells + 1) (slots + k) Q (F0 m (pc + 2) ls (.ref q :: rest))) : W p l e R s m args below meth c H locs cells slots Q (F0 m pc ls (.int (nI k) :: rest)) := by
  refine va_newa (atype := .int) (ty := .int) (N' := k) (a0 := (k, .inl (row (fun _ => 0)))) S.1 S.2.1 (S.2.2.2.2 _ harr) rfl hKS.1.1 hP hD hS hA (fun cB => ?_) (nI_pos (by omega)) (nI_clamp (by omega)) ?_ hf.1 hf.2 hdg (fun q cB H1 hK2 hP2 hD2 hS2 => ?_)
  · rw [vp_cell_i]
    congr 1
  · have : componentBytes .int = 4 := rfl
    rw [this]
    omega
  · have e1 := va_nm_int (hKS.1.1.2 0 (cI, .int) rfl).2
    have e2 := va_nm_int (hK2.2 2 (cB, .int) rfl).2
    have e3 : cB = cI := Option.some.inj (e2.symm.trans e1)
    subst e3
    exact kk q H1 hP2 hD2 hS2
/-- a field that holds an array -/
theorem q_putr (S : CallFix p m c cc nL s args Ts own) {C : String} {T : u_T} {N ci : Nat} (hin : ∀ x ∈ u_ws C T N, x ∈ Ts) (ty0 : Nat → FieldType) (hty : ∀ k, k < N → parseFieldDescriptor (T k).2.2.1 = some (ty0 k)) (hnm : ∀ a, a < N → ∀ b, b < N → a ≠ b → (T a).2.1 ≠ (T b).2.1) (hKS : KS D cI cA s) (hP : va_P D vwCl w H) (hD : va_D A w) (hS : va_S A H0 H locs) (q0 : Nat) {fs : List Value} (he : w[q0]? = some (a, .inr (ci, fs))) (hc : vwCl[ci]? = some (C, T, N)) (k : Nat) (hk : k < N) (hm : Cond.fieldLink own index (T k).1 (T k).2.1 (T k).2.2.1 ∈ Ts) (hfin : (T k).2.2.2 = false) {ty : FieldType} {v : Nat} (hd : parseFieldDescriptor (T k).2.2.1 = some ty) (hn : narrow ty (.ref v) = .ref v) (hfit : fits ty (.ref v) = true) (hl : k < fs.length)
    (hdg : decode cc pc = .ok (.putfield index, 3)) (w' : va_W) (hw : w.set q0 (a, .inr (ci, fs.set k (.ref v))) = w') (kk : ∀ (H1 : Heap) (locs1 : List Loc), va_P D vwCl w' H1 → va_D A w' → va_S A H0 H1 locs1 → W p l e R s m args below meth c H1 locs1 cells slots Q (F0 m (pc + 3) ls rest)) : W p l e R s m args below meth c H locs cells slots Q (F0 m pc ls (.ref v :: .ref a :: rest)) :=
  va_put S.1 S.2.1 S.2.2.2.2 hin ty0 hty hnm S.2.2.2.1 hKS.1.1 hP hD hS q0 he hc k hk (S.2.2.2.2 _ hm) (fun _ h => h) hfin hd hn hfit hl hdg (fun H1 locs1 h1 h2 h3 => by
    rw [hw] at h1 h2
    exact kk H1 locs1 h1 h2 h3)
end
end
section
/-! the world of the law's own picture: the head, a row a goose, a row a visitor; z: the addresses (0 the object, 1 ranks, 2 geese, 3 visitors, 4 + k a goose's row, 12 + v a visitor's) -/
def vfi (j : Nat) : Nat := match j with
  | 0 => 6
  | 1 => 9
  | 2 => 8
  | 3 => 7
  | _ => 10
def gsl (S : Nat → Nat → Nat) (k : Nat) : Nat → Nat := fun j => if j < 4 then S (2 + j) k else 0
def vsl (S : Nat → Nat → Nat) (v : Nat) : Nat → Nat := fun j => if j < 5 then S (vfi j) v else 0
abbrev ilr (f : Nat → Option Nat) : (Nat → Int32) ⊕ (Nat → Int64) ⊕ (Nat → UInt32) ⊕ (Nat → UInt64) ⊕ (Nat → Option Nat) := .inr (.inr (.inr (.inr f)))
def cGo (cI : ClassId) (z : Nat → Nat) (S : Nat → Nat → Nat) (k : Nat) : Nat × va_E := (z (4 + k), .inl (cI, 4, .inl (row (gsl S k))))
def cVi (cI : ClassId) (z : Nat → Nat) (S : Nat → Nat → Nat) (v : Nat) : Nat × va_E := (z (12 + v), .inl (cI, 5, .inl (row (vsl S v))))
def wGs (cI : ClassId) (z : Nat → Nat) (S : Nat → Nat → Nat) (n : Nat) : va_W := (List.range n).map (cGo cI z S)
def wVs (cI : ClassId) (z : Nat → Nat) (S : Nat → Nat → Nat) (n : Nat) : va_W := (List.range n).map (cVi cI z S)
def wHd (cI cA : ClassId) (z : Nat → Nat) (S : Nat → Nat → Nat) : va_W := [(z 0, .inr (4, [.int (nI (S 0 3)), .int (nI (S 0 4)), .int (nI (S 0 5)), .ref (z 1), .ref (z 2), .ref (z 3)])), (z 1, .inl (cI, S 0 0, .inl (row (S 1)))), (z 2, .inl (cA, S 0 1, ilr (fun k => some (z (4 + k))))), (z 3, .inl (cA, S 0 2, ilr (fun v => some (z (12 + v)))))]
def wSi (cI cA : ClassId) (z : Nat → Nat) (S : Nat → Nat → Nat) : va_W := wHd cI cA z S ++ (wGs cI z S (S 0 1) ++ wVs cI z S (S 0 2))
theorem map_set {α : Type} (F G : Nat → α) (n k : Nat) (hG : ∀ i, i ≠ k → G i = F i) : ((List.range n).map F).set k (G k) = (List.range n).map G := by
  apply List.ext_getElem?
  intro i
  by_cases h : k = i
  · subst h
    by_cases hn : k < n
    · rw [List.getElem?_set_self (by simpa using hn)]
      simp [hn]
    · rw [List.getElem?_eq_none (by simpa using Nat.not_lt.mp hn), List.getElem?_eq_none (by simpa using Nat.not_lt.mp hn)]
  · rw [List.getElem?_set_ne h, List.getElem?_map, List.getElem?_map]
    by_cases hn : i < n
    · simp [hn, hG i (fun e => h e.symm)]
    · rw [List.getElem?_eq_none (by simpa using Nat.not_lt.mp hn)]
      rfl
theorem set_pre {w X w' : va_W} {i : Nat} {e x : Nat × va_E} (h : w[i]? = some x) (hs : w.set i e = w') : (w ++ X).set i e = w' ++ X := by
  rw [List.set_append_left _ _ (List.getElem?_eq_some_iff.mp h).1, hs]
section
variable {cI cA : ClassId} {z : Nat → Nat} {S : Nat → Nat → Nat}
theorem wSi_0 : (wSi cI cA z S)[0]? = some (z 0, .inr (4, [.int (nI (S 0 3)), .int (nI (S 0 4)), .int (nI (S 0 5)), .ref (z 1), .ref (z 2), .ref (z 3)])) := rfl
theorem wSi_1 : (wSi cI cA z S)[1]? = some (z 1, .inl (cI, S 0 0, .inl (row (S 1)))) := rfl
theorem wSi_2 : (wSi cI cA z S)[2]? = some (z 2, .inl (cA, S 0 1, ilr (fun k => some (z (4 + k))))) := rfl
theorem wSi_3 : (wSi cI cA z S)[3]? = some (z 3, .inl (cA, S 0 2, ilr (fun v => some (z (12 + v))))) := rfl
theorem wGs_ln (n : Nat) : (wGs cI z S n).length = n := by simp [wGs]
theorem wVs_ln (n : Nat) : (wVs cI z S n).length = n := by simp [wVs]
theorem wSi_g {k : Nat} (h : k < S 0 1) : (wSi cI cA z S)[4 + k]? = some (z (4 + k), .inl (cI, 4, .inl (row (gsl S k)))) := by
  unfold wSi
  rw [List.getElem?_append_right (show 4 ≤ 4 + k by omega)]
  show (wGs cI z S (S 0 1) ++ wVs cI z S (S 0 2))[4 + k - 4]? = _
  rw [Nat.add_sub_cancel_left, List.getElem?_append_left (by rw [wGs_ln]; exact h)]
  simp [wGs, h, cGo]
theorem wSi_v {v : Nat} (h : v < S 0 2) : (wSi cI cA z S)[4 + S 0 1 + v]? = some (z (12 + v), .inl (cI, 5, .inl (row (vsl S v)))) := by
  unfold wSi
  rw [List.getElem?_append_right (show 4 ≤ 4 + S 0 1 + v by omega)]
  show (wGs cI z S (S 0 1) ++ wVs cI z S (S 0 2))[4 + S 0 1 + v - 4]? = _
  rw [show 4 + S 0 1 + v - 4 = S 0 1 + v by omega, List.getElem?_append_right (by rw [wGs_ln]; omega), wGs_ln, Nat.add_sub_cancel_left]
  simp [wVs, h, cVi]
theorem wSi_ln : (wSi cI cA z S).length = 4 + (S 0 1 + S 0 2) := by
  unfold wSi
  rw [List.length_append, List.length_append, wGs_ln, wVs_ln]
  rfl
theorem vfi_ge (j : Nat) : 6 ≤ vfi j := by unfold vfi; split <;> omega
theorem vfi_inj0 : ∀ i, i < 5 → ∀ j, j < 5 → vfi i = vfi j → i = j := by decide
theorem vfi_inj (i j : Nat) (hi : i < 5) (hj : j < 5) (h : vfi i = vfi j) : i = j := vfi_inj0 i hi j hj h
theorem gsl_set (k j x : Nat) (hj : j < 4) : updN (gsl S k) j x = gsl (setf S (2 + j) k x) k := by
  funext i
  show (if i = j then x else if i < 4 then S (2 + i) k else 0) = if i < 4 then setf S (2 + j) k x (2 + i) k else 0
  rw [setf_at]
  by_cases h : i = j
  · rw [if_pos h, if_pos (by omega), if_pos ⟨by omega, rfl⟩]
  · rw [if_neg h, if_neg (show ¬ (2 + i = 2 + j ∧ k = k) by omega)]
theorem vsl_set (v j x : Nat) (hj : j < 5) : updN (vsl S v) j x = vsl (setf S (vfi j) v x) v := by
  funext i
  show (if i = j then x else if i < 5 then S (vfi i) v else 0) = if i < 5 then setf S (vfi j) v x (vfi i) v else 0
  rw [setf_at]
  by_cases h : i = j
  · subst h
    rw [if_pos rfl, if_pos hj, if_pos ⟨rfl, rfl⟩]
  · rw [if_neg h]
    by_cases h5 : i < 5
    · rw [if_pos h5, if_pos h5, if_neg (fun e => h (vfi_inj i j h5 hj e.1))]
    · rw [if_neg h5, if_neg h5]
/-- a state that differs at no place that is shown -/
theorem cGo_eq {S1 S2 : Nat → Nat → Nat} {k : Nat} (h : ∀ j, j < 4 → S1 (2 + j) k = S2 (2 + j) k) : cGo cI z S1 k = cGo cI z S2 k := by
  have e : gsl S1 k = gsl S2 k := by
    funext j
    unfold gsl
    by_cases hj : j < 4
    · rw [if_pos hj, if_pos hj, h j hj]
    · rw [if_neg hj, if_neg hj]
  unfold cGo
  rw [e]
theorem cVi_eq {S1 S2 : Nat → Nat → Nat} {v : Nat} (h : ∀ j, j < 5 → S1 (vfi j) v = S2 (vfi j) v) : cVi cI z S1 v = cVi cI z S2 v := by
  have e : vsl S1 v = vsl S2 v := by
    funext j
    unfold vsl
    by_cases hj : j < 5
    · rw [if_pos hj, if_pos hj, h j hj]
    · rw [if_neg hj, if_neg hj]
  unfold cVi
  rw [e]
theorem wSi_sg {k : Nat} (j x : Nat) (hk : k < S 0 1) (hj : j < 4) : (wSi cI cA z S).set (4 + k) (z (4 + k), .inl (cI, 4, .inl (row (updN (gsl S k) j x)))) = wSi cI cA z (setf S (2 + j) k x) := by
  have e0 : setf S (2 + j) k x 0 = S 0 := setF_ne _ _ (by omega)
  have e1 : setf S (2 + j) k x 1 = S 1 := setF_ne _ _ (by omega)
  have e3 : ∀ i, i ≠ k → cGo cI z (setf S (2 + j) k x) i = cGo cI z S i := fun i h => cGo_eq (fun q hq => by rw [setf_at, if_neg (fun e => h e.2)])
  have e4 : cVi cI z (setf S (2 + j) k x) = cVi cI z S := by
    funext i
    exact cVi_eq (fun q hq => by have := vfi_ge q; rw [setf_at, if_neg (by omega)])
  have e5 : wHd cI cA z (setf S (2 + j) k x) = wHd cI cA z S := by unfold wHd; rw [e0, e1]
  unfold wSi
  rw [e5, e0, List.set_append_right _ _ (show 4 ≤ 4 + k by omega)]
  show _ ++ (wGs cI z S (S 0 1) ++ wVs cI z S (S 0 2)).set (4 + k - 4) _ = _
  rw [Nat.add_sub_cancel_left, List.set_append_left _ _ (by rw [wGs_ln]; exact hk)]
  congr 1
  have e6 : (z (4 + k), (.inl (cI, 4, .inl (row (updN (gsl S k) j x))) : va_E)) = cGo cI z (setf S (2 + j) k x) k := by unfold cGo; rw [gsl_set k j x hj]
  rw [e6]
  unfold wGs wVs
  rw [e4, map_set (cGo cI z S) (cGo cI z (setf S (2 + j) k x)) _ _ e3]
theorem wSi_sv {v : Nat} (j x : Nat) (hv : v < S 0 2) (hj : j < 5) : (wSi cI cA z S).set (4 + S 0 1 + v) (z (12 + v), .inl (cI, 5, .inl (row (updN (vsl S v) j x)))) = wSi cI cA z (setf S (vfi j) v x) := by
  have hg := vfi_ge j
  have e0 : setf S (vfi j) v x 0 = S 0 := setF_ne _ _ (by omega)
  have e1 : setf S (vfi j) v x 1 = S 1 := setF_ne _ _ (by omega)
  have e3 : ∀ i, i ≠ v → cVi cI z (setf S (vfi j) v x) i = cVi cI z S i := fun i h => cVi_eq (fun q hq => by rw [setf_at, if_neg (fun e => h e.2)])
  have e4 : cGo cI z (setf S (vfi j) v x) = cGo cI z S := by
    funext i
    exact cGo_eq (fun q hq => by rw [setf_at, if_neg (by omega)])
  have e5 : wHd cI cA z (setf S (vfi j) v x) = wHd cI cA z S := by unfold wHd; rw [e0, e1]
  unfold wSi
  rw [e5, e0, List.set_append_right _ _ (show 4 ≤ 4 + S 0 1 + v by omega)]
  show _ ++ (wGs cI z S (S 0 1) ++ wVs cI z S (S 0 2)).set (4 + S 0 1 + v - 4) _ = _
  rw [show 4 + S 0 1 + v - 4 = S 0 1 + v by omega, List.set_append_right _ _ (by rw [wGs_ln]; omega), wGs_ln, Nat.add_sub_cancel_left]
  have e6 : (z (12 + v), (.inl (cI, 5, .inl (row (updN (vsl S v) j x))) : va_E)) = cVi cI z (setf S (vfi j) v x) v := by unfold cVi; rw [vsl_set v j x hj]
  rw [e6]
  unfold wGs wVs
  rw [e4, map_set (cVi cI z S) (cVi cI z (setf S (vfi j) v x)) _ _ e3]
theorem wSi_of {S1 S2 : Nat → Nat → Nat} (h0 : wHd cI cA z S1 = wHd cI cA z S2) (h1 : S1 0 1 = S2 0 1) (h2 : S1 0 2 = S2 0 2) (hg : cGo cI z S1 = cGo cI z S2) (hv : cVi cI z S1 = cVi cI z S2) : wSi cI cA z S1 = wSi cI cA z S2 := by
  unfold wSi wGs wVs
  rw [h0, h1, h2, hg, hv]
theorem wSi_s0 (j x : Nat) (hj : 3 ≤ j) : cGo cI z (setf S 0 j x) = cGo cI z S ∧ cVi cI z (setf S 0 j x) = cVi cI z S ∧ setf S 0 j x 0 1 = S 0 1 ∧ setf S 0 j x 0 2 = S 0 2 ∧ setf S 0 j x 0 0 = S 0 0 ∧ setf S 0 j x 1 = S 1 := by
  refine ⟨?_, ?_, ?_, ?_, ?_, ?_⟩
  · funext i; exact cGo_eq (fun q hq => by rw [setf_at, if_neg (by omega)])
  · funext i; exact cVi_eq (fun q hq => by have := vfi_ge q; rw [setf_at, if_neg (by omega)])
  · rw [setf_at, if_neg (by omega)]
  · rw [setf_at, if_neg (by omega)]
  · rw [setf_at, if_neg (by omega)]
  · exact setF_ne _ _ (by omega)
theorem wSi_s3 (x : Nat) : (wSi cI cA z S).set 0 (z 0, .inr (4, [.int (nI x), .int (nI (S 0 4)), .int (nI (S 0 5)), .ref (z 1), .ref (z 2), .ref (z 3)])) = wSi cI cA z (setf S 0 3 x) := by
  obtain ⟨h1, h2, h3, h4, h5, h6⟩ := wSi_s0 (cI := cI) (z := z) (S := S) 3 x (by omega)
  unfold wSi wGs wVs
  rw [h1, h2, h3, h4]
  unfold wHd
  rw [h3, h4, h5, h6, setf_at, if_pos ⟨rfl, rfl⟩, setf_at, if_neg (by omega), setf_at, if_neg (by omega)]
  rfl
theorem wSi_s4 (x : Nat) : (wSi cI cA z S).set 0 (z 0, .inr (4, [.int (nI (S 0 3)), .int (nI x), .int (nI (S 0 5)), .ref (z 1), .ref (z 2), .ref (z 3)])) = wSi cI cA z (setf S 0 4 x) := by
  obtain ⟨h1, h2, h3, h4, h5, h6⟩ := wSi_s0 (cI := cI) (z := z) (S := S) 4 x (by omega)
  unfold wSi wGs wVs
  rw [h1, h2, h3, h4]
  unfold wHd
  rw [h3, h4, h5, h6, setf_at, if_neg (by omega), setf_at, if_pos ⟨rfl, rfl⟩, setf_at, if_neg (by omega)]
  rfl
theorem wSi_s5 (x : Nat) : (wSi cI cA z S).set 0 (z 0, .inr (4, [.int (nI (S 0 3)), .int (nI (S 0 4)), .int (nI x), .ref (z 1), .ref (z 2), .ref (z 3)])) = wSi cI cA z (setf S 0 5 x) := by
  obtain ⟨h1, h2, h3, h4, h5, h6⟩ := wSi_s0 (cI := cI) (z := z) (S := S) 5 x (by omega)
  unfold wSi wGs wVs
  rw [h1, h2, h3, h4]
  unfold wHd
  rw [h3, h4, h5, h6, setf_at, if_neg (by omega), setf_at, if_neg (by omega), setf_at, if_pos ⟨rfl, rfl⟩]
  rfl
theorem wSi_sr (k x : Nat) : (wSi cI cA z S).set 1 (z 1, .inl (cI, S 0 0, .inl (row (updN (S 1) k x)))) = wSi cI cA z (setf S 1 k x) := by
  have e0 : setf S 1 k x 0 = S 0 := setF_ne _ _ (by omega)
  have e1 : setf S 1 k x 1 = updN (S 1) k x := setF_self _ _ _
  have h1 : cGo cI z (setf S 1 k x) = cGo cI z S := by funext i; exact cGo_eq (fun q hq => by rw [setf_at, if_neg (by omega)])
  have h2 : cVi cI z (setf S 1 k x) = cVi cI z S := by funext i; exact cVi_eq (fun q hq => by have := vfi_ge q; rw [setf_at, if_neg (by omega)])
  unfold wSi wGs wVs
  rw [h1, h2, e0]
  unfold wHd
  rw [e0, e1]
  rfl
/-- the addresses are z's, whatever the state shows -/
theorem wSi_ad {S1 : Nat → Nat → Nat} (h1 : S1 0 1 = S 0 1) (h2 : S1 0 2 = S 0 2) : (wSi cI cA z S1).map (·.1) = (wSi cI cA z S).map (·.1) := by
  unfold wSi wGs wVs
  rw [h1, h2]
  simp [List.map_append, List.map_map, wHd]
  rfl
theorem wSi_lneq {S1 : Nat → Nat → Nat} (h1 : S1 0 1 = S 0 1) (h2 : S1 0 2 = S 0 2) : (wSi cI cA z S1).length = (wSi cI cA z S).length := by rw [wSi_ln, wSi_ln, h1, h2]
end
/-! worlds by their members; what is apart, by the addresses -/
section
variable {D : va_G} {A A0 : Nat → Prop} {w w1 wc wr : va_W} {H H1 : Heap}
theorem P_mem : va_P D vwCl w H ↔ ∀ q ∈ w, va_at D vwCl q H := by
  constructor
  · intro h q hq
    obtain ⟨i, hi⟩ := List.getElem?_of_mem hq
    exact h i q hi
  · intro h k q hk
    exact h q (List.mem_of_getElem? hk)
theorem D_nd : va_D A w ↔ (w.map (·.1)).Nodup ∧ ∀ q ∈ w, A q.1 := by
  constructor
  · intro h
    refine ⟨?_, fun q hq => ?_⟩
    · unfold List.Nodup
      rw [List.pairwise_iff_getElem]
      intro i j hi hj hij e
      have hi' : i < w.length := by simpa using hi
      have hj' : j < w.length := by simpa using hj
      have := h.1 i j w[i] w[j] (List.getElem?_eq_getElem hi') (List.getElem?_eq_getElem hj') (by simpa using e)
      omega
    · obtain ⟨i, hi⟩ := List.getElem?_of_mem hq
      exact h.2 i q hi
  · rintro ⟨h1, h2⟩
    refine ⟨fun i j p q hp hq e => ?_, fun k q hk => h2 q (List.mem_of_getElem? hk)⟩
    unfold List.Nodup at h1
    rw [List.pairwise_iff_getElem] at h1
    obtain ⟨hi, ep⟩ := List.getElem?_eq_some_iff.mp hp
    obtain ⟨hj, eq⟩ := List.getElem?_eq_some_iff.mp hq
    subst ep
    subst eq
    rcases Nat.lt_trichotomy i j with h | h | h
    · exact absurd (by rw [List.getElem_map, List.getElem_map]; exact e) (h1 i j (by simpa using hi) (by simpa using hj) h)
    · exact h
    · exact absurd (by rw [List.getElem_map, List.getElem_map]; exact e.symm) (h1 j i (by simpa using hj) (by simpa using hi) h)
/-- the head's cells are put anew, some of them new -/
theorem preN_P (hP : va_P D vwCl (wc ++ wr) H) (hD : va_D A0 (wc ++ wr)) (hk : ∀ q : Nat, q < H.size → ¬ va_B wc q → H1[q]? = H[q]?) (hP1 : va_P D vwCl w1 H1) : va_P D vwCl (w1 ++ wr) H1 := by
  rw [P_mem]
  intro q hq
  rcases List.mem_append.mp hq with h | h
  · exact P_mem.mp hP1 q h
  · obtain ⟨i, hi⟩ := List.getElem?_of_mem h
    have hi2 := app_l (wr := wc) hi
    have h2 := hP (wc.length + i) q hi2
    refine h2.kept (hk q.1 h2.lt ?_)
    rintro ⟨j, e, h3⟩
    have := hD.1 (wc.length + i) j q (q.1, e) hi2 (pre_at h3) rfl
    have := (List.getElem?_eq_some_iff.mp h3).1
    omega
theorem preN_D (hP : va_P D vwCl (wc ++ wr) H) (hD : va_D A0 (wc ++ wr)) (hA : ∀ q, H.size ≤ q → A0 q) (hD1 : va_D (va_A wc H.size) w1) : va_D A0 (w1 ++ wr) := by
  have hcl : ∀ (i : Nat) (q : Nat × va_E), wr[i]? = some q → ¬ va_A wc H.size q.1 := by
    intro i q hi h
    have hi2 := app_l (wr := wc) hi
    rcases h with ⟨j, e, h3⟩ | h
    · have := hD.1 (wc.length + i) j q (q.1, e) hi2 (pre_at h3) rfl
      have := (List.getElem?_eq_some_iff.mp h3).1
      omega
    · have := (hP (wc.length + i) q hi2).lt
      omega
  refine ⟨fun i j p q hp hq e => ?_, fun k q hk => ?_⟩
  · by_cases h1 : i < w1.length
    · rw [List.getElem?_append_left h1] at hp
      by_cases h2 : j < w1.length
      · rw [List.getElem?_append_left h2] at hq
        exact hD1.1 i j p q hp hq e
      · rw [List.getElem?_append_right (by omega)] at hq
        exact absurd (e ▸ hD1.2 i p hp) (hcl _ q hq)
    · rw [List.getElem?_append_right (by omega)] at hp
      by_cases h2 : j < w1.length
      · rw [List.getElem?_append_left h2] at hq
        exact absurd (e ▸ hD1.2 j q hq) (hcl _ p hp)
      · rw [List.getElem?_append_right (by omega)] at hq
        have := hD.1 _ _ p q (app_l (wr := wc) hp) (app_l (wr := wc) hq) e
        omega
  · by_cases h1 : k < w1.length
    · rw [List.getElem?_append_left h1] at hk
      rcases hD1.2 k q hk with ⟨j, e, h⟩ | h
      · exact hD.2 j (q.1, e) (pre_at h)
      · exact hA _ h
    · rw [List.getElem?_append_right (by omega)] at hk
      exact hD.2 _ q (app_l (wr := wc) hk)
/-- cells in the middle -/
theorem mid_P {wl wm : va_W} (hP : va_P D vwCl (wl ++ (wc ++ wm)) H) (hD : va_D A0 (wl ++ (wc ++ wm))) (hl : w1.length = wc.length) (hk : ∀ q : Nat, q < H.size → ¬ va_B wc q → H1[q]? = H[q]?) (hP1 : va_P D vwCl w1 H1) : va_P D vwCl (wl ++ (w1 ++ wm)) H1 :=
  app_P hP hD (fun q h1 h2 => hk q h1 (fun ⟨j, e, h3⟩ => h2 ⟨j, e, pre_at h3⟩)) (pre_P (app_Pr hP) (app_Dr hD) hl hk hP1)
theorem mid_D {wl wm : va_W} (hD : va_D A0 (wl ++ (wc ++ wm))) (ha : w1.map (·.1) = wc.map (·.1)) : va_D A0 (wl ++ (w1 ++ wm)) := D_re hD (by rw [List.map_append, List.map_append, List.map_append, List.map_append, ha])
/-- one more cell, a new one -/
theorem D_more {q : Nat} {e : va_E} (hP : va_P D vwCl w H) (hD : va_D A w) (hq : H.size ≤ q) (hA : A q) : va_D A (w ++ [(q, e)]) := by
  refine ⟨fun i j p r hp hr h => ?_, fun k p hp => ?_⟩
  · by_cases h1 : i < w.length
    · rw [List.getElem?_append_left h1] at hp
      by_cases h2 : j < w.length
      · rw [List.getElem?_append_left h2] at hr
        exact hD.1 i j p r hp hr h
      · have hz := (List.getElem?_eq_some_iff.mp hr).1
        rw [List.length_append] at hz
        rw [List.getElem?_append_right (by omega), show j - w.length = 0 by simp at hz; omega] at hr
        cases hr
        have := (hP i p hp).lt
        have h9 : p.1 = q := h
        omega
    · have hz := (List.getElem?_eq_some_iff.mp hp).1
      rw [List.length_append] at hz
      rw [List.getElem?_append_right (by omega), show i - w.length = 0 by simp at hz; omega] at hp
      cases hp
      by_cases h2 : j < w.length
      · rw [List.getElem?_append_left h2] at hr
        have := (hP j r hr).lt
        have h9 : q = r.1 := h
        omega
      · have hz2 := (List.getElem?_eq_some_iff.mp hr).1
        rw [List.length_append] at hz2
        simp at hz hz2
        omega
  · by_cases h1 : k < w.length
    · rw [List.getElem?_append_left h1] at hp
      exact hD.2 k p hp
    · have hz := (List.getElem?_eq_some_iff.mp hp).1
      rw [List.length_append] at hz
      rw [List.getElem?_append_right (by omega), show k - w.length = 0 by simp at hz; omega] at hp
      cases hp
      exact hA
theorem P_more {q : Nat} {e : va_E} (hP : va_P D vwCl w H) (h : va_at D vwCl (q, e) H) : va_P D vwCl (w ++ [(q, e)]) H := by
  rw [P_mem]
  intro x hx
  rcases List.mem_append.mp hx with h1 | h1
  · exact P_mem.mp hP x h1
  · rw [List.mem_singleton.mp h1]; exact h
end
end
section
/-! what holds of the states that the law comes to; what one beat does -/
theorem inv_addGate {S : Nat → Nat → Nat} (h : Inv S) (x : Int32) : Inv (rAddGate S x).2.2 := by
  unfold rAddGate
  split
  · rename_i q
    obtain ⟨g, hg, rfl⟩ := in_nI (by decide) q (by decide)
    rw [cl_nI (show g < 2 ^ 31 by omega)]
    split
    · rename_i r
      have h0 := h.gates
      refine ⟨?_, h.geese, h.guests, fun j => ?_, h.keep, fun j hj => ?_, h.mood, h.mood1, h.rest, h.own, fun j => ?_, h.has, h.brave, h.back⟩
      · show S 0 0 + 1 ≤ 6; omega
      · have := h.rank j; show (if j = S 0 0 then g else S 1 j) ≤ 9; split <;> omega
      · have := h.keepIn j hj; show S 2 j < S 0 0 + 1; omega
      · have := h.went j; show S 7 j ≤ S 0 0 + 1; omega
    · exact h
  · exact h
theorem inv_setRank {S : Nat → Nat → Nat} (h : Inv S) (x y : Int32) : Inv (rSetRank S x y).2.2 := by
  unfold rSetRank
  split
  · split
    · rename_i q
      obtain ⟨g, hg, rfl⟩ := in_nI (by decide) q (by decide)
      rw [cl_nI (show g < 2 ^ 31 by omega)]
      refine ⟨h.gates, h.geese, h.guests, fun j => ?_, h.keep, h.keepIn, h.mood, h.mood1, h.rest, h.own, h.went, h.has, h.brave, h.back⟩
      have := h.rank j; show (if j = cl x then g else S 1 j) ≤ 9; split <;> omega
    · exact h
  · exact h
theorem inv_give {S : Nat → Nat → Nat} (h : Inv S) (x y : Int32) : Inv (rGive S x y).2.2 := by
  unfold rGive
  split
  · split
    · exact inv_corn h _ (Nat.min_le_left _ _)
    · exact h
  · exact h
theorem inv_bribe {S : Nat → Nat → Nat} (h : Inv S) (x y : Int32) : Inv (rBribe S x y).2.2 := by
  unfold rBribe
  split
  · split
    · exact inv_payS h _ _
    · exact h
  · exact h
theorem inv_pass {S : Nat → Nat → Nat} (h : Inv S) (x : Int32) : Inv (rPass S x).2.2 := by
  unfold rPass
  split
  · exact inv_beatsN h _
  · exact h
theorem inv_lead {S : Nat → Nat → Nat} (h : Inv S) (x y : Int32) : Inv (rLead S x y).2.2 := by
  unfold rLead
  split
  · rename_i q
    have h0 := h.gates
    obtain ⟨g, hg, rfl⟩ := lt_nI (by omega) q.2
    rw [cl_nI (show g < 2 ^ 31 by omega)]
    refine ⟨h.gates, h.geese, h.guests, h.rank, fun j => ?_, fun j hj => ?_, h.mood, h.mood1, h.rest, h.own, h.went, h.has, h.brave, h.back⟩
    · have := h.keep j; show (if j = cl x then g else S 2 j) ≤ 6; split <;> omega
    · have := h.keepIn j hj; show (if j = cl x then g else S 2 j) < S 0 0; split <;> omega
  · exact h
theorem inv_addGoose {S : Nat → Nat → Nat} (h : Inv S) (x y : Int32) : Inv (rAddGoose S x y).2.2 := by
  unfold rAddGoose
  split
  · rename_i q1
    have h0 := h.gates
    obtain ⟨g, hg, rfl⟩ := lt_nI (by omega) q1
    rw [cl_nI (show g < 2 ^ 31 by omega)]
    split
    · rename_i q2
      obtain ⟨t, ht, rfl⟩ := in_nI (by decide) q2 (by decide)
      rw [cl_nI (show t < 2 ^ 31 by omega)]
      split
      · have h1 := h.geese
        refine ⟨h.gates, ?_, h.guests, h.rank, fun j => ?_, fun j hj => ?_, fun j => ?_, fun j hj => ?_, h.rest, h.own, h.went, h.has, h.brave, h.back⟩
        · show S 0 1 + 1 ≤ 8; omega
        · have := h.keep j; show (if j = S 0 1 then g else S 2 j) ≤ 6; split <;> omega
        · have hj : j < S 0 1 + 1 := hj
          show (if j = S 0 1 then g else S 2 j) < S 0 0
          split
          · omega
          · exact h.keepIn j (by omega)
        · have := h.mood j; show (if j = S 0 1 then t else S 3 j) ≤ 9; split <;> omega
        · have hj : j < S 0 1 + 1 := hj
          show 1 ≤ (if j = S 0 1 then t else S 3 j)
          split
          · omega
          · exact h.mood1 j (by omega)
      · exact h
    · exact h
  · exact h
theorem inv_arrive {S : Nat → Nat → Nat} (h : Inv S) (x y z : Int32) : Inv (rArrive S x y z).2.2 := by
  unfold rArrive
  split
  · rename_i q
    obtain ⟨r, hr, rfl⟩ := in_nI (by decide) q.1 (by decide)
    obtain ⟨t, ht, rfl⟩ := in_nI (by decide) q.2.1 (by decide)
    obtain ⟨u, hu, rfl⟩ := in_nI (by decide) q.2.2 (by decide)
    rw [cl_nI (show r < 2 ^ 31 by omega), cl_nI (show t < 2 ^ 31 by omega), cl_nI (show u < 2 ^ 31 by omega)]
    split
    · have h1 := h.guests
      refine ⟨h.gates, h.geese, ?_, h.rank, h.keep, h.keepIn, h.mood, h.mood1, h.rest, fun j => ?_, h.went, fun j => ?_, fun j => ?_, h.back⟩
      · show S 0 2 + 1 ≤ 8; omega
      · have := h.own j; show (if j = S 0 2 then r else S 6 j) ≤ 9; split <;> omega
      · have := h.has j; show (if j = S 0 2 then u else S 8 j) ≤ 20; split <;> omega
      · have := h.brave j; show (if j = S 0 2 then t else S 9 j) ≤ 20; split <;> omega
    · exact h
  · exact h
theorem hisG_farm {S : Nat → Nat → Nat} (hI : Inv S) {t r : Nat} (h : S 0 0 ≤ t) : hisG S t r = 0 := by
  have : ∀ n, n ≤ S 0 1 → hisN S t (lackN S t r) n = 0 := by
    intro n
    induction n with
    | zero => intro _; rfl
    | succ n ih =>
      intro hn
      unfold hisN
      rw [if_neg (fun q => by have := hI.keepIn n (by omega); have := q.1; omega)]
      exact ih (by omega)
  exact this _ (Nat.le_refl _)
/-- the corns eaten by the first n -/
def etN (S : Nat → Nat → Nat) : Nat → Nat
  | 0 => 0
  | n + 1 => etN S n + S 5 n
def Iv2 (S : Nat → Nat → Nat) : Prop := (∀ j, S 0 1 ≤ j → S 4 j = 0 ∧ S 5 j = 0) ∧ (∀ j, S 0 2 ≤ j → S 7 j = 0 ∧ S 10 j = 0) ∧ (∀ j, S 0 0 ≤ S 7 j → S 10 j = 0)
def LI (S : Nat → Nat → Nat) : Prop := Inv S ∧ Iv2 S ∧ etN S (S 0 1) = S 0 4
theorem etN_congr {S T : Nat → Nat → Nat} : ∀ n, (∀ j, j < n → S 5 j = T 5 j) → etN S n = etN T n
  | 0, _ => rfl
  | n + 1, h => by
    show etN S n + S 5 n = etN T n + T 5 n
    rw [etN_congr n (fun j hj => h j (by omega)), h n (by omega)]
theorem etN_up {S T : Nat → Nat → Nat} {k : Nat} (h1 : T 5 k = S 5 k + 1) (h2 : ∀ j, j ≠ k → T 5 j = S 5 j) : ∀ n, k < n → etN T n = etN S n + 1
  | 0, h => absurd h (by omega)
  | n + 1, h => by
    show etN T n + T 5 n = etN S n + S 5 n + 1
    by_cases e : k = n
    · subst e
      rw [etN_congr (S := T) (T := S) k (fun j hj => h2 j (by omega)), h1]
      omega
    · rw [etN_up h1 h2 n (by omega), h2 n (fun q => e q.symm)]
      omega
/-- what a move leaves of another visitor -/
theorem moveS_vf {S : Nat → Nat → Nat} {v u f : Nat} (hf : 6 ≤ f) (hu : u ≠ v) : moveS S v f u = S f u := by
  unfold moveS
  split
  · rw [setf_at, if_neg (fun e => hu e.2)]
  · split
    · unfold goS
      rw [setF_at, if_neg (by omega), setf_at, if_neg (fun e => hu e.2)]
    · split
      · unfold payS
        rw [setf_at, if_neg (by omega), setf_at, if_neg (by omega), setf_at, if_neg (by omega), setf_at, if_neg (by omega), setf_at, if_neg (fun e => hu e.2)]
      · unfold fallS
        rw [setf_at, if_neg (by omega), setf_at, if_neg (fun e => hu e.2), setf_at, if_neg (fun e => hu e.2), setf_at, if_neg (fun e => hu e.2)]
theorem mvS_vf {S : Nat → Nat → Nat} {v u f : Nat} (hf : 6 ≤ f) (hu : u ≠ v) : mvS S v f u = S f u := by
  unfold mvS
  split
  · rfl
  · exact moveS_vf hf hu
theorem movN_hi (S : Nat → Nat → Nat) {f v : Nat} (hf : 6 ≤ f) : ∀ n, n ≤ v → movN S n f v = S f v
  | 0, _ => rfl
  | n + 1, h => by
    show mvS (movN S n) n f v = _
    rw [mvS_vf hf (by omega), movN_hi S hf n (by omega)]
theorem movN_lo (S : Nat → Nat → Nat) {f v : Nat} (hf : 6 ≤ f) : ∀ n, v < n → movN S n f v = mvS (movN S v) v f v
  | 0, h => absurd h (by omega)
  | n + 1, h => by
    show mvS (movN S n) n f v = _
    by_cases e : v = n
    · subst e; rfl
    · rw [mvS_vf hf e, movN_lo S hf n (by omega)]
theorem beatS_v {S : Nat → Nat → Nat} {f v : Nat} (hf : 6 ≤ f) (hv : v < S 0 2) : beatS S f v = mvS (movN (wakS S) v) v f v := by
  unfold beatS
  rw [setf_at, if_neg (by omega), movN_lo _ hf _ hv]
theorem wak_v (S : Nat → Nat → Nat) {f : Nat} (hf : f ≠ 4) : wakS S f = S f := setF_ne _ _ hf
theorem movN_at (S : Nat → Nat → Nat) {f v : Nat} (hf : 6 ≤ f) : movN (wakS S) v f v = S f v := by
  rw [movN_hi _ hf v (Nat.le_refl v), wak_v S (by omega)]
/-- the four things that one can do in a beat -/
def didW (S T : Nat → Nat → Nat) (v : Nat) : Prop := (S 0 0 ≤ S 7 v ∨ 0 < S 10 v) ∧ T 7 v = S 7 v ∧ T 8 v = S 8 v ∧ T 9 v = S 9 v ∧ T 10 v = S 10 v - 1
def didG (S T : Nat → Nat → Nat) (v : Nat) : Prop := ¬ S 0 0 ≤ S 7 v ∧ S 10 v = 0 ∧ T 7 v = S 7 v + 1 ∧ T 8 v = S 8 v ∧ T 9 v = S 9 v ∧ T 10 v = 0
def didB (S T : Nat → Nat → Nat) (v : Nat) : Prop := ¬ S 0 0 ≤ S 7 v ∧ S 10 v = 0 ∧ 0 < S 8 v ∧ T 7 v = S 7 v ∧ T 8 v = S 8 v - 1 ∧ T 9 v = S 9 v ∧ T 10 v = 0
def didR (S T : Nat → Nat → Nat) (v : Nat) : Prop := ¬ S 0 0 ≤ S 7 v ∧ S 10 v = 0 ∧ S 8 v = 0 ∧ T 7 v = S 7 v - 1 ∧ T 8 v = 0 ∧ T 9 v = min 20 (S 9 v + 1) ∧ 0 < T 10 v
theorem grd_pos {h : Nat} (q : 0 < h) : 0 < grdN h := by
  unfold grdN
  repeat' split
  all_goals omega
theorem mv_did {U : Nat → Nat → Nat} {v : Nat} (h3 : U 0 0 ≤ U 7 v → U 10 v = 0) : (didW U (mvS U v) v ∧ mvS U v 0 4 = U 0 4 ∧ mvS U v 0 5 = U 0 5) ∨ (didG U (mvS U v) v ∧ mvS U v 0 4 = U 0 4 ∧ mvS U v 0 5 = U 0 5) ∨ (didB U (mvS U v) v ∧ mvS U v 0 4 = U 0 4 + 1 ∧ mvS U v 0 5 = U 0 5) ∨ (didR U (mvS U v) v ∧ mvS U v 0 4 = U 0 4 ∧ mvS U v 0 5 = U 0 5 + 1) := by
  unfold mvS
  by_cases a : U 0 0 ≤ U 7 v
  · rw [if_pos a]
    exact Or.inl ⟨⟨Or.inl a, rfl, rfl, rfl, by have := h3 a; omega⟩, rfl, rfl⟩
  · rw [if_neg a]
    unfold moveS
    by_cases b : 0 < U 10 v
    · rw [if_pos b]
      refine Or.inl ⟨⟨Or.inr b, ?_, ?_, ?_, ?_⟩, ?_, ?_⟩ <;> simp [setf_at]
    · rw [if_neg b]
      by_cases c : hisG U (U 7 v) (U 6 v) ≤ U 9 v
      · rw [if_pos c]
        refine Or.inr (Or.inl ⟨⟨a, by omega, ?_, ?_, ?_, ?_⟩, ?_, ?_⟩) <;> (simp [goS, setF_at, setf_at, updN]; try omega)
      · rw [if_neg c]
        by_cases d : 0 < U 8 v
        · rw [if_pos d]
          refine Or.inr (Or.inr (Or.inl ⟨⟨a, by omega, d, ?_, ?_, ?_, ?_⟩, ?_, ?_⟩)) <;> simp [payS, setf_at]
          omega
        · rw [if_neg d]
          have hg := grd_pos (h := hisG U (U 7 v) (U 6 v)) (by omega)
          refine Or.inr (Or.inr (Or.inr ⟨⟨a, by omega, by omega, ?_, ?_, ?_, ?_⟩, ?_, ?_⟩)) <;> simp [fallS, setf_at]
          · omega
          · exact hg
/-- how many came in, bribed, retreated, of the first n -/
def cmN (S T : Nat → Nat → Nat) : Nat → Nat
  | 0 => 0
  | n + 1 => if T 7 n = S 7 n + 1 ∧ T 7 n = S 0 0 then cmN S T n + 1 else cmN S T n
def fdN (S T : Nat → Nat → Nat) : Nat → Nat
  | 0 => 0
  | n + 1 => if T 8 n + 1 = S 8 n then fdN S T n + 1 else fdN S T n
def flN (S T : Nat → Nat → Nat) : Nat → Nat
  | 0 => 0
  | n + 1 => if S 10 n < T 10 n then flN S T n + 1 else flN S T n
theorem did_of {S : Nat → Nat → Nat} (h : Iv2 S) (v : Nat) : (didW S (mvS (movN (wakS S) v) v) v ∧ movN (wakS S) (v + 1) 0 4 = movN (wakS S) v 0 4 ∧ movN (wakS S) (v + 1) 0 5 = movN (wakS S) v 0 5) ∨ (didG S (mvS (movN (wakS S) v) v) v ∧ movN (wakS S) (v + 1) 0 4 = movN (wakS S) v 0 4 ∧ movN (wakS S) (v + 1) 0 5 = movN (wakS S) v 0 5) ∨ (didB S (mvS (movN (wakS S) v) v) v ∧ movN (wakS S) (v + 1) 0 4 = movN (wakS S) v 0 4 + 1 ∧ movN (wakS S) (v + 1) 0 5 = movN (wakS S) v 0 5) ∨ (didR S (mvS (movN (wakS S) v) v) v ∧ movN (wakS S) (v + 1) 0 4 = movN (wakS S) v 0 4 ∧ movN (wakS S) (v + 1) 0 5 = movN (wakS S) v 0 5 + 1) := by
  have e0 : movN (wakS S) v 0 0 = S 0 0 := by rw [movN_sc _ _ (by omega), wak_v S (by omega)]
  have e7 := movN_at S (f := 7) (v := v) (by omega)
  have e8 := movN_at S (f := 8) (v := v) (by omega)
  have e9 := movN_at S (f := 9) (v := v) (by omega)
  have e10 := movN_at S (f := 10) (v := v) (by omega)
  have hd := mv_did (U := movN (wakS S) v) (v := v) (by rw [e0, e7, e10]; exact h.2.2 v)
  unfold didW didG didB didR at hd ⊢
  rw [e0, e7, e8, e9, e10] at hd
  exact hd
theorem did_beat {S : Nat → Nat → Nat} (h : Iv2 S) {v : Nat} (hv : v < S 0 2) : didW S (beatS S) v ∨ didG S (beatS S) v ∨ didB S (beatS S) v ∨ didR S (beatS S) v := by
  have hd := did_of h v
  have e7 := beatS_v (S := S) (f := 7) (v := v) (by omega) hv
  have e8 := beatS_v (S := S) (f := 8) (v := v) (by omega) hv
  have e9 := beatS_v (S := S) (f := 9) (v := v) (by omega) hv
  have e10 := beatS_v (S := S) (f := 10) (v := v) (by omega) hv
  unfold didW didG didB didR at hd ⊢
  rw [e7, e8, e9, e10]
  rcases hd with h | h | h | h
  · exact Or.inl h.1
  · exact Or.inr (Or.inl h.1)
  · exact Or.inr (Or.inr (Or.inl h.1))
  · exact Or.inr (Or.inr (Or.inr h.1))
theorem did_sum {S : Nat → Nat → Nat} (h : Iv2 S) : ∀ n, n ≤ S 0 2 → movN (wakS S) n 0 4 = S 0 4 + fdN S (beatS S) n ∧ movN (wakS S) n 0 5 = S 0 5 + flN S (beatS S) n ∧ inN (beatS S) n = inN S n + cmN S (beatS S) n
  | 0, _ => ⟨rfl, rfl, rfl⟩
  | n + 1, hn => by
    obtain ⟨i1, i2, i3⟩ := did_sum h n (by omega)
    have hd := did_of h n
    have e0 : beatS S 0 0 = S 0 0 := beatS_sc S 0 (by omega)
    have e7 := beatS_v (S := S) (f := 7) (v := n) (by omega) (by omega)
    have e8 := beatS_v (S := S) (f := 8) (v := n) (by omega) (by omega)
    have e10 := beatS_v (S := S) (f := 10) (v := n) (by omega) (by omega)
    unfold didW didG didB didR at hd
    unfold fdN flN cmN
    show _ ∧ _ ∧ (if beatS S 0 0 ≤ beatS S 7 n then inN (beatS S) n + 1 else inN (beatS S) n) = (if S 0 0 ≤ S 7 n then inN S n + 1 else inN S n) + _
    rw [i1, i2] at hd
    rw [e0, e7, e8, e10, i3]
    generalize mvS (movN (wakS S) n) n 7 n = t7 at hd
    generalize mvS (movN (wakS S) n) n 8 n = t8 at hd
    generalize mvS (movN (wakS S) n) n 9 n = t9 at hd
    generalize mvS (movN (wakS S) n) n 10 n = t10 at hd
    rcases hd with h | h | h | h
    · obtain ⟨⟨g1, g2, g3, g4, g5⟩, g6, g7⟩ := h
      have h3 := ‹Iv2 S›.2.2 n
      rw [g6, g7, if_neg (by omega), if_neg (by omega), if_neg (show ¬ (t7 = S 7 n + 1 ∧ t7 = S 0 0) by omega), g2]
      exact ⟨rfl, rfl, by split <;> omega⟩
    · obtain ⟨⟨g1, g2, g3, g4, g5, g6⟩, g7, g8⟩ := h
      rw [g7, g8, if_neg (by omega), if_neg (by omega), if_neg (show ¬ S 0 0 ≤ S 7 n by omega)]
      refine ⟨rfl, rfl, ?_⟩
      by_cases q : t7 = S 0 0
      · rw [if_pos (by omega), if_pos (show t7 = S 7 n + 1 ∧ t7 = S 0 0 from ⟨g3, q⟩)]; omega
      · rw [if_neg (by omega), if_neg (show ¬ (t7 = S 7 n + 1 ∧ t7 = S 0 0) from fun r => q r.2)]
    · obtain ⟨⟨g1, g2, g3, g4, g5, g6, g7⟩, g8, g9⟩ := h
      rw [g8, g9, if_pos (show t8 + 1 = S 8 n by omega), if_neg (by omega), if_neg (show ¬ (t7 = S 7 n + 1 ∧ t7 = S 0 0) by omega), if_neg (show ¬ S 0 0 ≤ S 7 n by omega), if_neg (by omega)]
      exact ⟨by omega, rfl, rfl⟩
    · obtain ⟨⟨g1, g2, g3, g4, g5, g6, g7⟩, g8, g9⟩ := h
      rw [g8, g9, if_neg (by omega), if_pos (by omega), if_neg (show ¬ (t7 = S 7 n + 1 ∧ t7 = S 0 0) by omega), if_neg (show ¬ S 0 0 ≤ S 7 n by omega), if_neg (by omega)]
      exact ⟨rfl, by omega, rfl⟩
end
section
/-! what a beat does to a goose; what stays of a state -/
def gooR (S T : Nat → Nat → Nat) (i : Nat) : Prop := (T 5 i = S 5 i ∧ T 4 i = S 4 i - 1 ∧ S 3 i ≤ T 3 i) ∨ (T 5 i = S 5 i + 1 ∧ T 4 i = 3 ∧ S 4 i ≤ 1)
theorem goo_mv {S U : Nat → Nat → Nat} (hI : Inv U) {v i : Nat} (h : gooR S U i) : gooR S (mvS U v) i := by
  unfold mvS
  by_cases a : U 0 0 ≤ U 7 v
  · rw [if_pos a]; exact h
  · rw [if_neg a]
    unfold moveS
    by_cases b : 0 < U 10 v
    · rw [if_pos b]
      unfold gooR
      rw [setf_at, if_neg (by omega), setf_at, if_neg (by omega), setf_at, if_neg (by omega)]
      exact h
    · rw [if_neg b]
      by_cases c : hisG U (U 7 v) (U 6 v) ≤ U 9 v
      · rw [if_pos c]
        have e3 : U 3 i ≤ goS U v 3 i := by
          have hm := hI.mood i
          show U 3 i ≤ enrN U (U 7 v) (U 0 1) i
          unfold enrN
          split <;> omega
        have e4 : goS U v 4 i = U 4 i := by unfold goS; rw [setF_at, if_neg (by omega), setf_at, if_neg (by omega)]
        have e5 : goS U v 5 i = U 5 i := by unfold goS; rw [setF_at, if_neg (by omega), setf_at, if_neg (by omega)]
        unfold gooR
        rw [e4, e5]
        rcases h with ⟨h1, h2, h3⟩ | h
        · exact Or.inl ⟨h1, h2, Nat.le_trans h3 e3⟩
        · exact Or.inr h
      · rw [if_neg c]
        by_cases d : 0 < U 8 v
        · rw [if_pos d]
          obtain ⟨k, hk1, hk2, hk3, hk4⟩ := frc_get hI (t := U 7 v) (r := U 6 v) (by omega)
          rw [hk1, Nat.add_sub_cancel]
          by_cases e : i = k
          · subst e
            have e4 : payS U v i 4 i = 3 := by simp [payS, setf_at]
            have e5 : payS U v i 5 i = U 5 i + 1 := by simp [payS, setf_at]
            have hk := hk3.2
            unfold gooR
            rw [e4, e5]
            rcases h with ⟨h1, h2, h3⟩ | ⟨h1, h2, h3⟩
            · exact Or.inr ⟨by omega, rfl, by omega⟩
            · omega
          · have e3 : payS U v k 3 i = U 3 i := by simp [payS, setf_at, e]
            have e4 : payS U v k 4 i = U 4 i := by simp [payS, setf_at, e]
            have e5 : payS U v k 5 i = U 5 i := by simp [payS, setf_at, e]
            unfold gooR
            rw [e3, e4, e5]
            exact h
        · rw [if_neg d]
          unfold gooR fallS
          simp [setf_at]
          exact h
theorem goo_beat {S : Nat → Nat → Nat} (hI : Inv S) {i : Nat} (hi : i < S 0 1) : gooR S (beatS S) i := by
  have h0 : gooR S (wakS S) i := by
    refine Or.inl ⟨rfl, ?_, Nat.le_refl _⟩
    show wakN S (S 0 1) i = _
    unfold wakN
    rw [if_pos hi]
  have h1 : ∀ n, gooR S (movN (wakS S) n) i := by
    intro n
    induction n with
    | zero => exact h0
    | succ n ih => exact goo_mv (inv_movN (inv_wakS hI) n) ih
  have h2 := h1 (S 0 2)
  unfold gooR beatS at *
  rw [setf_at, if_neg (by omega), setf_at, if_neg (by omega), setf_at, if_neg (by omega)]
  exact h2
/-! what stays -/
theorem LI_wak {S : Nat → Nat → Nat} (h : LI S) : LI (wakS S) := by
  obtain ⟨h1, ⟨h2, h3, h4⟩, h5⟩ := h
  refine ⟨inv_wakS h1, ⟨fun j hj => ⟨?_, (h2 j hj).2⟩, h3, h4⟩, (etN_congr (S := wakS S) (T := S) (S 0 1) (fun _ _ => rfl)).trans h5⟩
  have := (h2 j hj).1
  show wakN S (S 0 1) j = 0
  unfold wakN
  split <;> omega
theorem LI_mv {S : Nat → Nat → Nat} (h : LI S) {v : Nat} (hv : v < S 0 2) : LI (mvS S v) := by
  unfold mvS
  by_cases a : S 0 0 ≤ S 7 v
  · rw [if_pos a]; exact h
  · rw [if_neg a]
    have hI' := inv_moveS h.1 a
    obtain ⟨h1, ⟨h2, h3, h4⟩, h5⟩ := h
    refine ⟨hI', ?_⟩
    unfold moveS
    by_cases b : 0 < S 10 v
    · rw [if_pos b]
      refine ⟨⟨h2, fun j hj => ⟨(h3 j hj).1, ?_⟩, fun j hj => ?_⟩, (etN_congr (S := setf S 10 v (S 10 v - 1)) (T := S) (S 0 1) (fun _ _ => rfl)).trans h5⟩
      · have hj : S 0 2 ≤ j := hj
        rw [setf_at, if_neg (by omega)]
        exact (h3 j hj).2
      · have hj : S 0 0 ≤ S 7 j := hj
        rw [setf_at, if_neg (fun e => a (by have := e.2; subst this; exact hj))]
        exact h4 j hj
    · rw [if_neg b]
      by_cases c : hisG S (S 7 v) (S 6 v) ≤ S 9 v
      · rw [if_pos c]
        have e7 : ∀ j, goS S v 7 j = if j = v then S 7 v + 1 else S 7 j := fun j => rfl
        refine ⟨⟨h2, fun j hj => ⟨?_, (h3 j hj).2⟩, fun j hj => ?_⟩, (etN_congr (S := goS S v) (T := S) (S 0 1) (fun _ _ => rfl)).trans h5⟩
        · have hj : S 0 2 ≤ j := hj
          rw [e7, if_neg (by omega)]
          exact (h3 j hj).1
        · have hj : S 0 0 ≤ goS S v 7 j := hj
          show S 10 j = 0
          rw [e7] at hj
          by_cases e : j = v
          · subst e; omega
          · rw [if_neg e] at hj; exact h4 j hj
      · rw [if_neg c]
        by_cases d : 0 < S 8 v
        · rw [if_pos d]
          obtain ⟨k, hk1, hk2, hk3, hk4⟩ := frc_get h1 (t := S 7 v) (r := S 6 v) (by omega)
          rw [hk1, Nat.add_sub_cancel]
          have e4 : ∀ j, payS S v k 4 j = if j = k then 3 else S 4 j := fun j => rfl
          have e5 : ∀ j, payS S v k 5 j = if j = k then S 5 k + 1 else S 5 j := fun j => rfl
          refine ⟨⟨fun j hj => ?_, h3, h4⟩, ?_⟩
          · have hj : S 0 1 ≤ j := hj
            rw [e4, e5, if_neg (by omega), if_neg (by omega)]
            exact h2 j hj
          · show etN (payS S v k) (S 0 1) = S 0 4 + 1
            rw [etN_up (S := S) (T := payS S v k) (k := k) (by rw [e5, if_pos rfl]) (fun j hj => by rw [e5, if_neg hj]) _ hk2, h5]
        · rw [if_neg d]
          generalize hg : grdN (hisG S (S 7 v) (S 6 v)) = g
          have e7 : ∀ j, fallS S v g 7 j = if j = v then S 7 v - 1 else S 7 j := fun j => rfl
          have e10 : ∀ j, fallS S v g 10 j = if j = v then g else S 10 j := fun j => rfl
          refine ⟨⟨h2, fun j hj => ?_, fun j hj => ?_⟩, (etN_congr (S := fallS S v g) (T := S) (S 0 1) (fun _ _ => rfl)).trans h5⟩
          · have hj : S 0 2 ≤ j := hj
            rw [e7, e10, if_neg (by omega), if_neg (by omega)]
            exact h3 j hj
          · have hj : S 0 0 ≤ fallS S v g 7 j := hj
            rw [e7] at hj
            rw [e10]
            by_cases e : j = v
            · subst e; rw [if_pos rfl] at hj; omega
            · rw [if_neg e] at hj ⊢; exact h4 j hj
theorem LI_movN {S : Nat → Nat → Nat} (h : LI S) : ∀ n, n ≤ S 0 2 → LI (movN S n)
  | 0, _ => h
  | n + 1, hn => LI_mv (LI_movN h n (by omega)) (by rw [movN_sc _ _ (by omega)]; omega)
theorem LI_beat {S : Nat → Nat → Nat} (h : LI S) : LI (beatS S) := by
  obtain ⟨h1, h2, h3⟩ := LI_movN (LI_wak h) (S 0 2) (Nat.le_refl _)
  exact ⟨inv_beatS h.1, h2, (etN_congr (S := beatS S) (T := movN (wakS S) (S 0 2)) _ (fun _ _ => rfl)).trans h3⟩
theorem LI_beatsN {S : Nat → Nat → Nat} (h : LI S) : ∀ n, LI (beatsN S n)
  | 0 => h
  | n + 1 => LI_beat (LI_beatsN h n)
theorem beatS_b (S : Nat → Nat → Nat) : beatS S 0 3 = S 0 3 + 1 := by
  show setf _ 0 3 _ 0 3 = _
  rw [setf_k, movN_sc _ _ (by omega)]
  rfl
theorem beatsN_b (S : Nat → Nat → Nat) : ∀ n, beatsN S n 0 3 = S 0 3 + n
  | 0 => rfl
  | n + 1 => by show beatS _ 0 3 = _; rw [beatS_b, beatsN_b S n]; omega
theorem beat_br {S : Nat → Nat → Nat} (h : LI S) : beatS S 0 4 = S 0 4 + fdN S (beatS S) (S 0 2) ∧ beatS S 0 5 = S 0 5 + flN S (beatS S) (S 0 2) ∧ inN (beatS S) (S 0 2) = inN S (S 0 2) + cmN S (beatS S) (S 0 2) := by
  obtain ⟨h1, h2, h3⟩ := did_sum h.2.1 (S 0 2) (Nat.le_refl _)
  refine ⟨?_, ?_, h3⟩
  · rw [← h1]
    show setf _ 0 3 _ 0 4 = _
    rw [setf_sc _ _ _ _ (by omega)]
  · rw [← h2]
    show setf _ 0 3 _ 0 5 = _
    rw [setf_sc _ _ _ _ (by omega)]
end
section
/-! hisses, the awake, the loudest gate -/
theorem his_z {S : Nat → Nat → Nat} (hI : Inv S) (g r : Nat) : ∀ n, n ≤ S 0 1 → (hisN S g r n = 0 ↔ cntN S g n = 0) ∧ cntN S g n ≤ hisN S g r n
  | 0, _ => ⟨Iff.rfl, Nat.le_refl _⟩
  | n + 1, hn => by
    obtain ⟨h1, h2⟩ := his_z hI g r n (by omega)
    have hm := hI.mood1 n (by omega)
    unfold hisN cntN
    split <;> omega
theorem his_m {S : Nat → Nat → Nat} (g : Nat) {x y : Nat} (h : x ≤ y) : ∀ n, hisN S g x n ≤ hisN S g y n
  | 0 => Nat.le_refl _
  | n + 1 => by
    have h1 := his_m (S := S) g h n
    unfold hisN
    split <;> omega
theorem hisG_m (S : Nat → Nat → Nat) (g : Nat) {r q : Nat} (h : r ≤ q) : hisG S g q ≤ hisG S g r := by
  unfold hisG
  refine his_m g ?_ _
  unfold lackN
  split <;> omega
theorem ld_max (S : Nat → Nat → Nat) : ∀ n g, g < n → hisG S g 0 ≤ (ldN S n).2 ∧ (ldN S n).1 ≠ 0
  | 0, g, h => absurd h (by omega)
  | n + 1, g, h => by
    unfold ldN
    by_cases e : g = n
    · subst e
      by_cases c : (ldN S g).1 = 0 ∨ (ldN S g).2 < hisG S g 0
      · rw [if_pos c]; exact ⟨Nat.le_refl _, by simp⟩
      · rw [if_neg c]; exact ⟨by omega, fun q => c (Or.inl q)⟩
    · have ih := ld_max S n g (by omega)
      by_cases c : (ldN S n).1 = 0 ∨ (ldN S n).2 < hisG S n 0
      · rw [if_pos c]
        exact ⟨by show hisG S g 0 ≤ hisG S n 0; rcases c with c | c <;> omega, by simp⟩
      · rw [if_neg c]; exact ih
/-- the loudest gate, where one is -/
theorem ld_get (S : Nat → Nat → Nat) {n g : Nat} (h : g < n) : ∃ b, (ldN S n).1 = b + 1 ∧ b < n ∧ hisG S g 0 ≤ hisG S b 0 := by
  obtain ⟨h1, h2⟩ := ld_max S n g h
  obtain ⟨b, hb⟩ : ∃ b, (ldN S n).1 = b + 1 := ⟨(ldN S n).1 - 1, by omega⟩
  obtain ⟨h3, h4⟩ := ldN_val S n b hb
  exact ⟨b, hb, h4, by omega⟩
/-- how many of the first n are awake -/
def awN (S : Nat → Nat → Nat) : Nat → Nat
  | 0 => 0
  | n + 1 => if S 4 n = 0 then awN S n + 1 else awN S n
/-- how many of the first m are awake at the first g gates -/
def caN (S : Nat → Nat → Nat) (m : Nat) : Nat → Nat
  | 0 => 0
  | g + 1 => caN S m g + cntN S g m
theorem caN_0 (S : Nat → Nat → Nat) : ∀ g, caN S 0 g = 0
  | 0 => rfl
  | g + 1 => by show caN S 0 g + 0 = 0; rw [caN_0 S g]
theorem caN_s (S : Nat → Nat → Nat) (m : Nat) : ∀ g, caN S (m + 1) g = caN S m g + if S 4 m = 0 ∧ S 2 m < g then 1 else 0
  | 0 => by rw [if_neg (by omega)]; rfl
  | g + 1 => by
    have ih := caN_s S m g
    have e : cntN S g (m + 1) = if awk S m g then cntN S g m + 1 else cntN S g m := rfl
    show caN S (m + 1) g + cntN S g (m + 1) = caN S m g + cntN S g m + _
    rw [ih, e]
    by_cases a : S 4 m = 0
    · by_cases b : S 2 m = g
      · rw [if_neg (show ¬ (S 4 m = 0 ∧ S 2 m < g) by omega), if_pos (show awk S m g from ⟨b, a⟩), if_pos (show S 4 m = 0 ∧ S 2 m < g + 1 by omega)]
        omega
      · rw [if_neg (show ¬ awk S m g from fun q => b q.1)]
        by_cases c : S 2 m < g
        · rw [if_pos ⟨a, c⟩, if_pos ⟨a, by omega⟩]
          omega
        · rw [if_neg (fun q => c q.2), if_neg (by omega)]; omega
    · rw [if_neg (show ¬ (S 4 m = 0 ∧ S 2 m < g) from fun q => a q.1), if_neg (show ¬ awk S m g from fun q => a q.2), if_neg (show ¬ (S 4 m = 0 ∧ S 2 m < g + 1) from fun q => a q.1)]; omega
theorem caN_le (S : Nat → Nat → Nat) (g : Nat) : ∀ m, caN S m g ≤ awN S m
  | 0 => by rw [caN_0]; exact Nat.zero_le _
  | m + 1 => by
    have ih := caN_le S g m
    have e : awN S (m + 1) = if S 4 m = 0 then awN S m + 1 else awN S m := rfl
    rw [caN_s, e]
    by_cases a : S 4 m = 0
    · rw [if_pos a]; split <;> omega
    · rw [if_neg a, if_neg (fun q => a q.1)]; omega
theorem caN_all {S : Nat → Nat → Nat} {g : Nat} : ∀ m, (∀ j, j < m → S 2 j < g) → caN S m g = awN S m
  | 0, _ => caN_0 S g
  | m + 1, h => by
    have e : awN S (m + 1) = if S 4 m = 0 then awN S m + 1 else awN S m := rfl
    rw [caN_s, caN_all m (fun j hj => h j (by omega)), e]
    have := h m (by omega)
    by_cases a : S 4 m = 0
    · rw [if_pos a, if_pos ⟨a, this⟩]
    · rw [if_neg a, if_neg (fun q => a q.1)]; omega
theorem awN_le (S : Nat → Nat → Nat) : ∀ n, awN S n ≤ n
  | 0 => Nat.le_refl _
  | n + 1 => by
    have := awN_le S n
    unfold awN
    split <;> omega
theorem cnt_le (S : Nat → Nat → Nat) (g : Nat) : ∀ n, cntN S g n ≤ n
  | 0 => Nat.le_refl _
  | n + 1 => by
    have := cnt_le S g n
    unfold cntN
    split <;> omega
theorem etN_nI {S : Nat → Nat → Nat} (n : Nat) : nI (etN S (n + 1)) = nI (etN S n) + nI (S 5 n) := (nI_add _ _).symm
set_option maxRecDepth 100000 in
theorem mean_cmp_tab : (List.range 73).all (fun a => (List.range 8).all (fun b => decide (Op.cmpValue (FP.dcmp (FP.ddiv (FP.i2d (nI a)) (FP.i2d (nI (b + 1)))) (FP.ddiv (FP.i2d (nI a)) (FP.i2d (nI (b + 1))))) .l = 0))) = true := by decide +kernel
theorem mean_cmp {a b : Nat} (ha : a ≤ 72) (hb : b ≤ 8) (h0 : ¬ b = 0) : Op.cmpValue (FP.dcmp (FP.ddiv (FP.i2d (nI a)) (FP.i2d (nI b))) (FP.ddiv (FP.i2d (nI a)) (FP.i2d (nI b)))) .l = 0 := by
  have h1 := List.all_eq_true.mp mean_cmp_tab a (List.mem_range.mpr (by omega))
  have h2 := of_decide_eq_true (List.all_eq_true.mp h1 (b - 1) (List.mem_range.mpr (by omega)))
  rw [show b - 1 + 1 = b by omega] at h2
  exact h2
theorem mean_cmp0 : Op.cmpValue (FP.dcmp FP.dconst0 FP.dconst0) .l = 0 := by decide +kernel
end
section
/-! contracts over the picture, and their calls -/
def PS (l : Launch) (y : MethodName) (ws : List Cond) (fr lo : Nat) (D : va_G) (cI cA : ClassId) (av : List Value) (w : va_W) (v : Int32) : Prop :=
  Met l y ws (rmN fr lo) (va_Pc av (fun U => va_P D vwCl w U.heap ∧ KS D cI cA U)) (va_Qi (fun r (_ : Unit) => r = v) (fun _ _ => True) (fun _ => False)) 0 0 (fun _ => False)
def GS (l : Launch) (y : MethodName) (ws : List Cond) (fr mc ms lo : Nat) (D : va_G) (cI cA : ClassId) (av : List Value) (w w1 : va_W) (v : Int32) : Prop :=
  ∀ sz : Nat, Met l y ws (rmG fr mc ms lo) (va_Pc av (fun U => U.heap.size = sz ∧ va_P D vwCl w U.heap ∧ KS D cI cA U ∧ va_D (fun _ => True) w)) (va_Qi (fun r (_ : Unit) => r = v) (fun _ t => va_P D vwCl w1 t.heap) (va_B w)) mc ms (va_A w sz)
def GV (l : Launch) (y : MethodName) (ws : List Cond) (fr mc ms lo : Nat) (D : va_G) (cI cA : ClassId) (av : List Value) (w w1 : va_W) : Prop :=
  ∀ sz : Nat, Met l y ws (rmG fr mc ms lo) (va_Pc av (fun U => U.heap.size = sz ∧ va_P D vwCl w U.heap ∧ KS D cI cA U ∧ va_D (fun _ => True) w)) (va_Qv (fun _ : Unit => True) (fun _ t => va_P D vwCl w1 t.heap) (va_B w)) mc ms (va_A w sz)
/-- with calls of the class in it -/
def XS (l : Launch) (y : MethodName) (ws : List Cond) (fr mc ms lo : Nat) (D : va_G) (cI cA : ClassId) (av : List Value) (w w1 : va_W) (v : Int32) : Prop :=
  ∀ sz : Nat, Met l y ws (rmG fr mc ms lo) (va_Pc av (fun U => U.heap.size = sz ∧ va_P D vwCl w U.heap ∧ KS D cI cA U ∧ KXA (va_A w sz) U ∧ va_D (fun _ => True) w)) (va_Qi (fun r (_ : Unit) => r = v) (fun _ t => va_P D vwCl w1 t.heap) (va_B w)) mc ms (va_A w sz)
abbrev QGV (below : List Frame) (args : Array Value) (s : State) (D : va_G) (mc ms : Nat) (w0 : va_W) (sz : Nat) (w1 : va_W) : State → Prop := MQ below (va_Qv (fun _ : Unit => True) (fun _ t => va_P D vwCl w1 t.heap) (va_B w0)) args s mc ms (va_A w0 sz)
theorem ap_s {wc : va_W} : wc = wc ++ [] := (List.append_nil _).symm
theorem ap_t {wl wc : va_W} : wl ++ wc = wl ++ (wc ++ []) := by rw [List.append_nil]
section
variable {l : Launch} {y : MethodName} {ws ws' : List Cond} {fr lo mc ms : Nat} {D : va_G} {cI cA : ClassId} {av : List Value} {w w1 : va_W} {cc : ByteArray} {maxL : Nat} {ret : Option FieldType} {Qc : Array Value → State → Outcome → State → Prop} {free : Addr → Prop}
theorem q_bodyP (hy : plainName y.cls = true) (hw : ws = Cond.code y cc maxL ret :: ws') (hav : (lg_sl av).length ≤ maxL)
    (body : ∀ p e s m args below meth c H ls, CallFix p m c cc maxL s args ws y.cls → meth.sig.returnType = ret → meth.locks = false → lv_has ls maxL (lv_args 0 av) → va_P D vwCl w H → KS D cI cA s → va_S (fun _ => False) s.heap H [] →
      W p l e (rmN fr lo) s m args below meth c H [] 0 0 (MQ below Qc args s 0 0 free) (F0 m 0 ls [])) :
    Met l y ws (rmN fr lo) (va_Pc av (fun U => va_P D vwCl w U.heap ∧ KS D cI cA U)) Qc 0 0 free := by
  refine Met.ofW (cc := cc) (maxL := maxL) (ret := ret) hy hw ?_
  intro p e s m args below meth c s₁ B hml hv
  obtain ⟨rfl, hP, hK⟩ := hv
  have hl := lv_entry av (n := maxL) hav
  rw [lg_entry_eq]
  exact body p e s m _ below meth c s.heap _ ⟨B.exec, B.bytes, hml, findClass_of_methodNamed B.named, atoms_spec (ws := ws) B.pre⟩ B.returns B.notSynchronized hl hP hK va_S.rf
theorem q_bodyG {sz : Nat} (hy : plainName y.cls = true) (hw : ws = Cond.code y cc maxL ret :: ws') (hav : (lg_sl av).length ≤ maxL)
    (body : ∀ p e s m args below meth c H ls, s.heap.size = sz → CallFix p m c cc maxL s args ws y.cls → meth.sig.returnType = ret → meth.locks = false → lv_has ls maxL (lv_args 0 av) → va_P D vwCl w H → KS D cI cA s → va_D (va_A w sz) w → va_S (va_A w sz) s.heap H [] →
      W p l e (rmG fr mc ms lo) s m args below meth c H [] 0 0 (MQ below Qc args s mc ms free) (F0 m 0 ls [])) :
    Met l y ws (rmG fr mc ms lo) (va_Pc av (fun U => U.heap.size = sz ∧ va_P D vwCl w U.heap ∧ KS D cI cA U ∧ va_D (fun _ => True) w)) Qc mc ms free := by
  refine Met.ofW (cc := cc) (maxL := maxL) (ret := ret) hy hw ?_
  intro p e s m args below meth c s₁ B hml hv
  obtain ⟨rfl, hz, hP, hK, hD⟩ := hv
  have hl := lv_entry av (n := maxL) hav
  rw [lg_entry_eq]
  exact body p e s m _ below meth c s.heap _ hz ⟨B.exec, B.bytes, hml, findClass_of_methodNamed B.named, atoms_spec (ws := ws) B.pre⟩ B.returns B.notSynchronized hl hP hK hD.self va_S.rf
theorem q_bodyX {sz : Nat} (hy : plainName y.cls = true) (hw : ws = Cond.code y cc maxL ret :: ws') (hav : (lg_sl av).length ≤ maxL)
    (body : ∀ p e s m args below meth c H ls, s.heap.size = sz → CallFix p m c cc maxL s args ws y.cls → meth.sig.returnType = ret → meth.locks = false → lv_has ls maxL (lv_args 0 av) → va_P D vwCl w H → KS D cI cA s → KXA (va_A w sz) s → va_D (va_A w sz) w → va_S (va_A w sz) s.heap H [] →
      W p l e (rmG fr mc ms lo) s m args below meth c H [] 0 0 (MQ below Qc args s mc ms free) (F0 m 0 ls [])) :
    Met l y ws (rmG fr mc ms lo) (va_Pc av (fun U => U.heap.size = sz ∧ va_P D vwCl w U.heap ∧ KS D cI cA U ∧ KXA (va_A w sz) U ∧ va_D (fun _ => True) w)) Qc mc ms free := by
  refine Met.ofW (cc := cc) (maxL := maxL) (ret := ret) hy hw ?_
  intro p e s m args below meth c s₁ B hml hv
  obtain ⟨rfl, hz, hP, hK, hX, hD⟩ := hv
  have hl := lv_entry av (n := maxL) hav
  rw [lg_entry_eq]
  exact body p e s m _ below meth c s.heap _ hz ⟨B.exec, B.bytes, hml, findClass_of_methodNamed B.named, atoms_spec (ws := ws) B.pre⟩ B.returns B.notSynchronized hl hP hK hX hD.self va_S.rf
theorem blindPS : FrameBlind (va_Pc av (fun U => va_P D vwCl w U.heap ∧ KS D cI cA U)) := fun a U g mk q => ⟨q.1, q.2.1, KS.call q.2.2⟩
theorem blindGS {sz : Nat} : FrameBlind (va_Pc av (fun U => U.heap.size = sz ∧ va_P D vwCl w U.heap ∧ KS D cI cA U ∧ va_D (fun _ => True) w)) := fun a U g mk q => ⟨q.1, q.2.1, q.2.2.1, KS.call q.2.2.2.1, q.2.2.2.2⟩
theorem blindXS {sz : Nat} : FrameBlind (va_Pc av (fun U => U.heap.size = sz ∧ va_P D vwCl w U.heap ∧ KS D cI cA U ∧ KXA (va_A w sz) U ∧ va_D (fun _ => True) w)) := fun a U g mk q => ⟨q.1, q.2.1, q.2.2.1, KS.call q.2.2.2.1, KXA.call q.2.2.2.2.1, q.2.2.2.2.2⟩
end
section
variable {p : Program} {l : Launch} {e : Env} {R : Room} {s : State} {m : MethodId} {args : Array Value} {below : List Frame} {meth : Method} {c : Code} {H : Heap} {locs : List Loc} {cells slots : Nat} {Q : State → Prop}
variable {cc : ByteArray} {pc nL : Nat} {ls : Array Slot} {rest st0 : List Value} {D : va_G} {A0 : Nat → Prop} {cI cA : ClassId} {w wc wr wl wm w1 : va_W} {H0 : Heap} {Ts : List Cond} {own : String}
variable {C : String} {y : MethodName} {bytes : ByteArray} {maxL fr lo mc ms mcY msY index n : Nat} {ret : Option FieldType} {ws ws' : List Cond} {As : List Value} {b : Nat}
theorem q_pV (S : CallFix p m c cc nL s args Ts own) {v : Int32} (hM : PS l y ws fr lo D cI cA (.ref b :: As) wc v) (hT : GoodIn Ts (wsV own index C y ws)) (hw : ws = Cond.code y bytes maxL ret :: ws')
    (hd : y.cls = C ∧ y.cls ≠ "java/lang/invoke/MethodHandle" ∧ y.cls ≠ "java/lang/invoke/VarHandle" ∧ (parseMethodDescriptor y.desc).map (fun d => d.parameters.length) = some n) (hR : fr + 1 ≤ R.frames ∧ 8 + (maxL + 11) + lo ≤ R.locals)
    (hn : As.length = n) (hsize : ls.size = nL) (hstack : st0 = As.reverse ++ .ref b :: rest) (hc8 : (rest.map fun v => v.category).sum ≤ 8) (hdg : decode cc pc = .ok (.invokevirtual index, 3)) (hf : cells ≤ R.cells ∧ slots ≤ R.slots)
    (hK : KS D cI cA s) (hP : va_P D vwCl w H) (hS : va_S A0 H0 H locs) (hw9 : w = wc ++ wr) {q0 ci N : Nat} {T : u_T} {fs : List Value} (he : wc[q0]? = some (b, .inr (ci, fs))) (hc : vwCl[ci]? = some (C, T, N))
    (kk : ∀ (H1 : Heap) (locs1 : List Loc), va_P D vwCl w H1 → va_S A0 H0 H1 locs1 → W p l e R s m args below meth c H1 locs1 cells slots Q (F0 m (pc + 3) ls (.int v :: rest))) : W p l e R s m args below meth c H locs cells slots Q (F0 m pc ls st0) := by
  subst hw9
  have hPc := P_pre hP
  refine va_calli (va_runV (As := As) (rest := rest) S hM (cwV n S.2.2.2.2 hT hw rfl rfl hd hR) ⟨blindPS, va_recv hK.1.1 hPc hc he, fun U hU hW => ⟨rfl, by rw [hU]; exact hPc, KS.moved hW hK⟩⟩ rfl hn hsize hstack (lv_room hc8) hdg hf) hS (fun q _ h => h.elim) (fun q h => h.elim) (fun r u t H1 locs1 ht hvm hw1 hB hz1 hk1 hS => ?_)
  subst hw1
  exact kk H1 locs1 (keep_P hP hk1) hS
theorem q_gI (S : CallFix p m c cc nL s args Ts own) {v : Int32} (hM : GS l y ws fr mcY msY lo D cI cA (.ref b :: As) wc w1 v) (hT : GoodIn Ts (wsV own index C y ws)) (hw : ws = Cond.code y bytes maxL ret :: ws')
    (hd : y.cls = C ∧ y.cls ≠ "java/lang/invoke/MethodHandle" ∧ y.cls ≠ "java/lang/invoke/VarHandle" ∧ (parseMethodDescriptor y.desc).map (fun d => d.parameters.length) = some n) (hR : fr + 1 ≤ R.frames ∧ 8 + (maxL + 11) + lo ≤ R.locals)
    (hn : As.length = n) (hsize : ls.size = nL) (hstack : st0 = As.reverse ++ .ref b :: rest) (hc8 : (rest.map fun v => v.category).sum ≤ 8) (hdg : decode cc pc = .ok (.invokevirtual index, 3)) (hf : cells + mcY ≤ R.cells ∧ slots + msY ≤ R.slots)
    (hK : KS D cI cA s) (hP : va_P D vwCl w H) (hD : va_D A0 w) (hS : va_S A0 s.heap H locs) (hA : ∀ q, s.heap.size ≤ q → A0 q) (hw9 : w = wc ++ wr) (ha : w1.map (·.1) = wc.map (·.1)) (hl : w1.length = wc.length) (w' : va_W) (hw' : w1 ++ wr = w') {q0 ci N : Nat} {T : u_T} {fs : List Value} (he : wc[q0]? = some (b, .inr (ci, fs))) (hc : vwCl[ci]? = some (C, T, N))
    (kk : ∀ (H1 : Heap) (locs1 : List Loc), va_P D vwCl w' H1 → va_D A0 w' → va_S A0 s.heap H1 locs1 → W p l e R s m args below meth c H1 locs1 (cells + mcY) (slots + msY) Q (F0 m (pc + 3) ls (.int v :: rest))) : W p l e R s m args below meth c H locs cells slots Q (F0 m pc ls st0) := by
  subst hw9
  subst hw'
  have hPc := P_pre hP
  have hDc := D_pre hD
  refine va_calli (va_runV (As := As) (rest := rest) S (hM H.size) (cwV n S.2.2.2.2 hT hw rfl rfl hd hR) ⟨blindGS, va_recv hK.1.1 hPc hc he, fun U hU hW => ⟨rfl, by rw [hU], by rw [hU]; exact hPc, KS.moved hW hK, hDc.weaken (fun _ _ _ _ => trivial)⟩⟩ rfl hn hsize hstack (lv_room hc8) hdg hf) hS (fun q _ h => B_Dp hD q h) (fun q h => h.elim (fun h => B_Dp hD q h) (fun h => hA q (Nat.le_trans hS.1 h))) (fun r u t H1 locs1 ht hvm hw1 hB hz1 hk1 hS => ?_)
  rw [ht] at hB
  subst hw1
  exact kk H1 locs1 (pre_P hP hD hl hk1 hB) (pre_D hD ha) hS
theorem q_gV (S : CallFix p m c cc nL s args Ts own) (hM : GV l y ws fr mcY msY lo D cI cA (.ref b :: As) wc w1) (hT : GoodIn Ts (wsV own index C y ws)) (hw : ws = Cond.code y bytes maxL ret :: ws')
    (hd : y.cls = C ∧ y.cls ≠ "java/lang/invoke/MethodHandle" ∧ y.cls ≠ "java/lang/invoke/VarHandle" ∧ (parseMethodDescriptor y.desc).map (fun d => d.parameters.length) = some n) (hR : fr + 1 ≤ R.frames ∧ 8 + (maxL + 11) + lo ≤ R.locals)
    (hn : As.length = n) (hsize : ls.size = nL) (hstack : st0 = As.reverse ++ .ref b :: rest) (hc8 : (rest.map fun v => v.category).sum ≤ 8) (hdg : decode cc pc = .ok (.invokevirtual index, 3)) (hf : cells + mcY ≤ R.cells ∧ slots + msY ≤ R.slots)
    (hK : KS D cI cA s) (hP : va_P D vwCl w H) (hD : va_D A0 w) (hS : va_S A0 s.heap H locs) (hA : ∀ q, s.heap.size ≤ q → A0 q) (hw9 : w = wc ++ wr) (ha : w1.map (·.1) = wc.map (·.1)) (hl : w1.length = wc.length) (w' : va_W) (hw' : w1 ++ wr = w') {q0 ci N : Nat} {T : u_T} {fs : List Value} (he : wc[q0]? = some (b, .inr (ci, fs))) (hc : vwCl[ci]? = some (C, T, N))
    (kk : ∀ (H1 : Heap) (locs1 : List Loc), va_P D vwCl w' H1 → va_D A0 w' → va_S A0 s.heap H1 locs1 → W p l e R s m args below meth c H1 locs1 (cells + mcY) (slots + msY) Q (F0 m (pc + 3) ls rest)) : W p l e R s m args below meth c H locs cells slots Q (F0 m pc ls st0) := by
  subst hw9
  subst hw'
  have hPc := P_pre hP
  have hDc := D_pre hD
  refine va_callv (va_runV (As := As) (rest := rest) S (hM H.size) (cwV n S.2.2.2.2 hT hw rfl rfl hd hR) ⟨blindGS, va_recv hK.1.1 hPc hc he, fun U hU hW => ⟨rfl, by rw [hU], by rw [hU]; exact hPc, KS.moved hW hK, hDc.weaken (fun _ _ _ _ => trivial)⟩⟩ rfl hn hsize hstack (lv_room hc8) hdg hf) hS (fun q _ h => B_Dp hD q h) (fun q h => h.elim (fun h => B_Dp hD q h) (fun h => hA q (Nat.le_trans hS.1 h))) (fun u t H1 locs1 ht hvm hw1 hB hz1 hk1 hS => ?_)
  rw [ht] at hB
  exact kk H1 locs1 (pre_P hP hD hl hk1 hB) (pre_D hD ha) hS
/-- a static one that makes cells, and keeps none -/
theorem q_gS (S : CallFix p m c cc nL s args Ts own) {v : Int32} (hM : GS l y ws fr mcY msY lo D cI cA As [] [] v) (hT : GoodIn Ts (va_wsS own index y ws)) (hw : ws = Cond.code y bytes maxL ret :: ws')
    (hd : y.cls ≠ "java/lang/invoke/MethodHandle" ∧ y.cls ≠ "java/lang/invoke/VarHandle" ∧ (parseMethodDescriptor y.desc).map (fun d => d.parameters.length) = some n) (hR : fr + 1 ≤ R.frames ∧ 8 + (maxL + 11) + lo ≤ R.locals)
    (hn : As.length = n) (hsize : ls.size = nL) (hstack : st0 = As.reverse ++ rest) (hc8 : (rest.map fun v => v.category).sum ≤ 8) (hdg : decode cc pc = .ok (.invokestatic index, 3)) (hf : cells + mcY ≤ R.cells ∧ slots + msY ≤ R.slots)
    (hK : KS D cI cA s) (hP : va_P D vwCl w H) (hS : va_S A0 s.heap H locs) (hA : ∀ q, s.heap.size ≤ q → A0 q)
    (kk : ∀ (H1 : Heap) (locs1 : List Loc), va_P D vwCl w H1 → va_S A0 s.heap H1 locs1 → W p l e R s m args below meth c H1 locs1 (cells + mcY) (slots + msY) Q (F0 m (pc + 3) ls (.int v :: rest))) : W p l e R s m args below meth c H locs cells slots Q (F0 m pc ls st0) := by
  have hB0 : ∀ q, va_B ([] : va_W) q → False := fun q h => by obtain ⟨k, e, h⟩ := h; simp at h
  refine va_calli (va_runS (As := As) (rest := rest) S (hM H.size) (va_cwS n S.2.2.2.2 hT hw rfl rfl hd hR) ⟨blindGS, fun U hU hW => ⟨rfl, by rw [hU], fun k q h => by simp at h, KS.moved hW hK, ⟨fun i j p q h => by simp at h, fun k q h => by simp at h⟩⟩⟩ rfl hn hsize hstack (lv_room hc8) hdg hf) hS (fun q _ h => (hB0 q h).elim) (fun q h => h.elim (fun h => (hB0 q h).elim) (fun h => hA q (Nat.le_trans hS.1 h))) (fun r u t H1 locs1 ht hvm hw1 hB hz1 hk1 hS => ?_)
  subst hw1
  exact kk H1 locs1 (keep_P hP (fun q h1 _ => hk1 q h1 (fun h => hB0 q h))) hS
theorem k_retGV (S : CallFix p m c cc nL s args Ts own) {w0 : va_W} {sz : Nat} (hr : meth.sig.returnType = none) (hlk : meth.locks = false) (hP : va_P D vwCl w H) (hw : w = w1) (hS : va_S (va_A w0 sz) s.heap H locs) (hz : s.heap.size = sz) (hcm : cells ≤ mc) (hsm : slots ≤ ms) (hdg : decode cc pc = .ok (.return_, 1)) :
    W p l e R s m args below meth c H locs cells slots (QGV below args s D mc ms w0 sz w1) (F0 m pc ls []) :=
  W.widen hcm hsm (W.vret S.1 S.2.1 hr (fun t ht hW => ⟨⟨(), rfl, trivial, by show va_P D vwCl w1 t.heap; rw [ht, ← hw]; exact hP⟩, (by
    have h := hS.F ht
    exact ⟨h.1, fun q h1 h2 => h.2 q h1 (fun h3 => h3.elim h2 (fun h4 => absurd h1 (by omega)))⟩)⟩) hS.2.2 hdg hlk)
/-- a call of the class, beside other cells -/
theorem x_tI (S : CallFix p m c cc nL s args Ts own) {v v1 : Int32} {w2 : va_W} {E : Option String} (hM : TI l y ws fr mcY lo D [(cI, .int)] (.ref b :: As) wc w2 E v1) (hE : E = none) (hv1 : v1 = v) (hw2 : w2 = w1) (hT : GoodIn Ts (wsV own index C y ws)) (hw : ws = Cond.code y bytes maxL ret :: ws')
    (hd : y.cls = C ∧ y.cls ≠ "java/lang/invoke/MethodHandle" ∧ y.cls ≠ "java/lang/invoke/VarHandle" ∧ (parseMethodDescriptor y.desc).map (fun d => d.parameters.length) = some n) (hR : fr + 1 ≤ R.frames ∧ 8 + (maxL + 11) + lo ≤ R.locals)
    (hn : As.length = n) (hsize : ls.size = nL) (hstack : st0 = As.reverse ++ .ref b :: rest) (hc8 : (rest.map fun v => v.category).sum ≤ 8) (hdg : decode cc pc = .ok (.invokevirtual index, 3)) (hf : cells + mcY ≤ R.cells ∧ slots + 6 * mcY ≤ R.slots)
    (hK : KS D cI cA s) (hX : KXA A0 s) (hP : va_P D vwCl w H) (hD : va_D A0 w) (hS : va_S A0 s.heap H locs) (hw9 : w = wl ++ (wc ++ wm)) (ha : w1.map (·.1) = wc.map (·.1)) (hl : w1.length = wc.length) (w' : va_W) (hw' : wl ++ (w1 ++ wm) = w') {q0 ci N : Nat} {T : u_T} {fs : List Value} (he : wc[q0]? = some (b, .inr (ci, fs))) (hc : vwCl[ci]? = some (C, T, N))
    (kk : ∀ (H1 : Heap) (locs1 : List Loc), va_P D vwCl w' H1 → va_D A0 w' → va_S A0 s.heap H1 locs1 → W p l e R s m args below meth c H1 locs1 (cells + mcY) (slots + 6 * mcY) Q (F0 m (pc + 3) ls (.int v :: rest))) : W p l e R s m args below meth c H locs cells slots Q (F0 m pc ls st0) := by
  subst hw2
  subst hv1
  subst hw9
  subst hw'
  have hPc := P_pre (app_Pr hP)
  have hDc := D_pre (app_Dr hD)
  have hB : ∀ q, va_B wc q → A0 q := fun q h => B_Dp (app_Dr hD) q h
  refine vx_calli (vx_runV (As := As) (rest := rest) S hM (cwV n S.2.2.2.2 hT hw rfl rfl hd hR) ⟨blindX, va_recv hK.1.1 hPc hc he, fun U hU hW => ⟨rfl, by rw [hU]; exact hPc, KK.moved hW hK.i, hX.at hW hU hS hB, hDc.weaken (fun _ _ _ _ => trivial)⟩⟩ rfl hn hsize hstack (lv_room hc8) hdg hf) hS (fun q _ h => hB q h) (fun q h => hB q h) (fun q _ h => hB q h) (fun E' ce q9 u t H1 locs1 ht1 hvm hnb hEc hz1 hk1 hS1 hce hcv hcl => ?_) (fun r u t H1 locs1 ht hvm hw1 hB1 hz1 hk1 hS => ?_)
  · rw [hE] at hEc
    exact absurd hEc.1 (by simp)
  · rw [ht] at hB1
    obtain ⟨-, hw1⟩ := hw1
    subst hw1
    exact kk H1 locs1 (mid_P hP hD hl hk1 hB1) (mid_D hD ha) hS
theorem x_pI (S : CallFix p m c cc nL s args Ts own) {v : Int32} (hM : PI l y ws fr lo D [(cI, .int)] (.ref b :: As) wc v) (hT : GoodIn Ts (wsV own index C y ws)) (hw : ws = Cond.code y bytes maxL ret :: ws')
    (hd : y.cls = C ∧ y.cls ≠ "java/lang/invoke/MethodHandle" ∧ y.cls ≠ "java/lang/invoke/VarHandle" ∧ (parseMethodDescriptor y.desc).map (fun d => d.parameters.length) = some n) (hR : fr + 1 ≤ R.frames ∧ 8 + (maxL + 11) + lo ≤ R.locals)
    (hn : As.length = n) (hsize : ls.size = nL) (hstack : st0 = As.reverse ++ .ref b :: rest) (hc8 : (rest.map fun v => v.category).sum ≤ 8) (hdg : decode cc pc = .ok (.invokevirtual index, 3)) (hf : cells ≤ R.cells ∧ slots ≤ R.slots)
    (hK : KS D cI cA s) (hP : va_P D vwCl w H) (hS : va_S A0 H0 H locs) (hw9 : w = wl ++ (wc ++ wm)) {q0 ci N : Nat} {T : u_T} {fs : List Value} (he : wc[q0]? = some (b, .inr (ci, fs))) (hc : vwCl[ci]? = some (C, T, N))
    (kk : ∀ (H1 : Heap) (locs1 : List Loc), va_P D vwCl w H1 → va_S A0 H0 H1 locs1 → W p l e R s m args below meth c H1 locs1 cells slots Q (F0 m (pc + 3) ls (.int v :: rest))) : W p l e R s m args below meth c H locs cells slots Q (F0 m pc ls st0) := by
  subst hw9
  have hPc := P_pre (app_Pr hP)
  refine va_calli (va_runV (As := As) (rest := rest) S hM (cwV n S.2.2.2.2 hT hw rfl rfl hd hR) ⟨blindP, va_recv hK.1.1 hPc hc he, fun U hU hW => ⟨rfl, by rw [hU]; exact hPc, KK.moved hW hK.i⟩⟩ rfl hn hsize hstack (lv_room hc8) hdg hf) hS (fun q _ h => h.elim) (fun q h => h.elim) (fun r u t H1 locs1 ht hvm hw1 hB hz1 hk1 hS => ?_)
  subst hw1
  exact kk H1 locs1 (keep_P hP hk1) hS
theorem x_pD (S : CallFix p m c cc nL s args Ts own) {v : UInt64} (hM : PD l y ws fr lo D [(cI, .int)] (.ref b :: As) wc v) (hT : GoodIn Ts (wsV own index C y ws)) (hw : ws = Cond.code y bytes maxL ret :: ws')
    (hd : y.cls = C ∧ y.cls ≠ "java/lang/invoke/MethodHandle" ∧ y.cls ≠ "java/lang/invoke/VarHandle" ∧ (parseMethodDescriptor y.desc).map (fun d => d.parameters.length) = some n) (hR : fr + 1 ≤ R.frames ∧ 8 + (maxL + 11) + lo ≤ R.locals)
    (hn : As.length = n) (hsize : ls.size = nL) (hstack : st0 = As.reverse ++ .ref b :: rest) (hc8 : (rest.map fun v => v.category).sum ≤ 8) (hdg : decode cc pc = .ok (.invokevirtual index, 3)) (hf : cells ≤ R.cells ∧ slots ≤ R.slots)
    (hK : KS D cI cA s) (hP : va_P D vwCl w H) (hS : va_S A0 H0 H locs) (hw9 : w = wl ++ (wc ++ wm)) {q0 ci N : Nat} {T : u_T} {fs : List Value} (he : wc[q0]? = some (b, .inr (ci, fs))) (hc : vwCl[ci]? = some (C, T, N))
    (kk : ∀ (H1 : Heap) (locs1 : List Loc), va_P D vwCl w H1 → va_S A0 H0 H1 locs1 → W p l e R s m args below meth c H1 locs1 cells slots Q (F0 m (pc + 3) ls (.double v :: rest))) : W p l e R s m args below meth c H locs cells slots Q (F0 m pc ls st0) := by
  subst hw9
  have hPc := P_pre (app_Pr hP)
  refine va_calld (va_runV (As := As) (rest := rest) S hM (cwV n S.2.2.2.2 hT hw rfl rfl hd hR) ⟨blindP, va_recv hK.1.1 hPc hc he, fun U hU hW => ⟨rfl, by rw [hU]; exact hPc, KK.moved hW hK.i⟩⟩ rfl hn hsize hstack (lv_room hc8) hdg hf) hS (fun q _ h => h.elim) (fun q h => h.elim) (fun r u t H1 locs1 ht hvm hw1 hB hz1 hk1 hS => ?_)
  subst hw1
  exact kk H1 locs1 (keep_P hP hk1) hS
/-- a static one without cells -/
theorem x_pS (S : CallFix p m c cc nL s args Ts own) {v : Int32} (hM : PI l y ws fr lo D [(cI, .int)] As [] v) (hT : GoodIn Ts (va_wsS own index y ws)) (hw : ws = Cond.code y bytes maxL ret :: ws')
    (hd : y.cls ≠ "java/lang/invoke/MethodHandle" ∧ y.cls ≠ "java/lang/invoke/VarHandle" ∧ (parseMethodDescriptor y.desc).map (fun d => d.parameters.length) = some n) (hR : fr + 1 ≤ R.frames ∧ 8 + (maxL + 11) + lo ≤ R.locals)
    (hn : As.length = n) (hsize : ls.size = nL) (hstack : st0 = As.reverse ++ rest) (hc8 : (rest.map fun v => v.category).sum ≤ 8) (hdg : decode cc pc = .ok (.invokestatic index, 3)) (hf : cells ≤ R.cells ∧ slots ≤ R.slots)
    (hK : KS D cI cA s) (hP : va_P D vwCl w H) (hS : va_S A0 H0 H locs)
    (kk : ∀ (H1 : Heap) (locs1 : List Loc), va_P D vwCl w H1 → va_S A0 H0 H1 locs1 → W p l e R s m args below meth c H1 locs1 cells slots Q (F0 m (pc + 3) ls (.int v :: rest))) : W p l e R s m args below meth c H locs cells slots Q (F0 m pc ls st0) :=
  k_pS S hM hT hw hd hR hn hsize hstack hc8 hdg hf hK.i hP hS kk
end
end
section
/-! a static method that makes ints alone -/
section
variable {p : Program} {l : Launch} {e : Env} {R : Room} {s : State} {m : MethodId} {args : Array Value} {below : List Frame} {meth : Method} {c : Code} {H : Heap} {locs : List Loc} {cells slots : Nat} {Q : State → Prop}
variable {cc : ByteArray} {pc nL : Nat} {ls : Array Slot} {rest st0 : List Value} {D : va_G} {A0 : Nat → Prop} {cI cA : ClassId} {w : va_W} {Ts : List Cond} {own : String}
variable {y : MethodName} {bytes : ByteArray} {maxL fr lo mcY msY index n : Nat} {ret : Option FieldType} {ws ws' : List Cond} {As : List Value}
theorem x_gS (S : CallFix p m c cc nL s args Ts own) {v : Int32} (hM : GI l y ws fr mcY msY lo D [(cI, .int)] As [] [] v) (hT : GoodIn Ts (va_wsS own index y ws)) (hw : ws = Cond.code y bytes maxL ret :: ws')
    (hd : y.cls ≠ "java/lang/invoke/MethodHandle" ∧ y.cls ≠ "java/lang/invoke/VarHandle" ∧ (parseMethodDescriptor y.desc).map (fun d => d.parameters.length) = some n) (hR : fr + 1 ≤ R.frames ∧ 8 + (maxL + 11) + lo ≤ R.locals)
    (hn : As.length = n) (hsize : ls.size = nL) (hstack : st0 = As.reverse ++ rest) (hc8 : (rest.map fun v => v.category).sum ≤ 8) (hdg : decode cc pc = .ok (.invokestatic index, 3)) (hf : cells + mcY ≤ R.cells ∧ slots + msY ≤ R.slots)
    (hK : KS D cI cA s) (hP : va_P D vwCl w H) (hS : va_S A0 s.heap H locs) (hA : ∀ q, s.heap.size ≤ q → A0 q)
    (kk : ∀ (H1 : Heap) (locs1 : List Loc), va_P D vwCl w H1 → va_S A0 s.heap H1 locs1 → W p l e R s m args below meth c H1 locs1 (cells + mcY) (slots + msY) Q (F0 m (pc + 3) ls (.int v :: rest))) : W p l e R s m args below meth c H locs cells slots Q (F0 m pc ls st0) := by
  have hB0 : ∀ q, va_B ([] : va_W) q → False := fun q h => by obtain ⟨k, e, h⟩ := h; simp at h
  refine va_calli (va_runS (As := As) (rest := rest) S (hM H.size) (va_cwS n S.2.2.2.2 hT hw rfl rfl hd hR) ⟨blindG, fun U hU hW => ⟨rfl, by rw [hU], fun k q h => by simp at h, KK.moved hW hK.i, ⟨fun i j p q h => by simp at h, fun k q h => by simp at h⟩⟩⟩ rfl hn hsize hstack (lv_room hc8) hdg hf) hS (fun q _ h => (hB0 q h).elim) (fun q h => h.elim (fun h => (hB0 q h).elim) (fun h => hA q (Nat.le_trans hS.1 h))) (fun r u t H1 locs1 ht hvm hw1 hB hz1 hk1 hS => ?_)
  subst hw1
  exact kk H1 locs1 (keep_P hP (fun q h1 _ => hk1 q h1 (fun h => hB0 q h))) hS
end
end
section
/-! words of the picture's methods -/
def ovN (n : Nat) : Nat := match n with
  | 0 => 0
  | 1 => 5
  | 2 => 10
  | _ => 20
def gdN (h : Nat) : Nat → Nat
  | 0 => 0
  | n + 1 => if ovN n < h then gdN h n + 1 else gdN h n
theorem gd_le (h : Nat) : ∀ n, gdN h n ≤ n
  | 0 => Nat.le_refl _
  | n + 1 => by
    have := gd_le h n
    unfold gdN
    split <;> omega
theorem gd_4 (h : Nat) : gdN h 4 = grdN h := by
  have e : gdN h 4 = if 20 < h then (if 10 < h then (if 5 < h then (if 0 < h then 0 + 1 else 0) + 1 else (if 0 < h then 0 + 1 else 0)) + 1 else (if 5 < h then (if 0 < h then 0 + 1 else 0) + 1 else (if 0 < h then 0 + 1 else 0))) + 1 else (if 10 < h then (if 5 < h then (if 0 < h then 0 + 1 else 0) + 1 else (if 0 < h then 0 + 1 else 0)) + 1 else (if 5 < h then (if 0 < h then 0 + 1 else 0) + 1 else (if 0 < h then 0 + 1 else 0))) := rfl
  rw [e]
  unfold grdN
  repeat' split
  all_goals omega
theorem ov_at {i : Nat} (h : i < 4) : updN (updN (updN (updN (fun _ => 0) 0 0) 1 5) 2 10) 3 20 i = ovN i := by
  rcases (show i = 0 ∨ i = 1 ∨ i = 2 ∨ i = 3 by omega) with rfl | rfl | rfl | rfl <;> rfl
theorem ov_le (i : Nat) : ovN i ≤ 20 := by unfold ovN; split <;> omega
theorem frc_val (S : Nat → Nat → Nat) (t : Nat) : ∀ n, (∀ b, (frcN S t n).1 = b + 1 → (frcN S t n).2 = S 3 b ∧ b < n ∧ awk S b t) ∧ ((frcN S t n).1 = 0 → (frcN S t n).2 = 0)
  | 0 => ⟨fun b h => absurd h (by simp [frcN]), fun _ => rfl⟩
  | n + 1 => by
    obtain ⟨h1, h2⟩ := frc_val S t n
    unfold frcN
    by_cases c : awk S n t ∧ (frcN S t n).2 < S 3 n
    · rw [if_pos c]
      refine ⟨fun b h => ?_, fun h => absurd h (by simp)⟩
      have e : n = b := by simpa using h
      subst e
      exact ⟨rfl, by omega, c.1⟩
    · rw [if_neg c]
      exact ⟨fun b h => ⟨(h1 b h).1, by have := (h1 b h).2.1; omega, (h1 b h).2.2⟩, h2⟩
/-- the fiercest, as a reference -/
def wrF (z : Nat → Nat) (n : Nat) : Option Nat := if n = 0 then none else some (z (4 + (n - 1)))
theorem wrF_0 {z : Nat → Nat} {n : Nat} (h : n = 0) : va_rf (wrF z n) = .null := by unfold wrF; rw [if_pos h]; rfl
theorem wrF_s {z : Nat → Nat} {n b : Nat} (h : n = b + 1) : va_rf (wrF z n) = .ref (z (4 + b)) := by
  unfold wrF
  rw [if_neg (by omega), show n - 1 = b by omega]
  rfl
theorem enrN_9 {S : Nat → Nat → Nat} {t i : Nat} (h : awk S i t) (h9 : S 3 i = 9) : setF S 3 (enrN S t i) = setF S 3 (enrN S t (i + 1)) := by
  rw [← enrN_y h]
  refine (setf_same _ _ _ _ ?_).symm
  show (if (3:Nat) = 3 then enrN S t i else S 3) i = min 9 (S 3 i + 1)
  rw [if_pos rfl, enrN_at]
  omega
theorem goS_c (S : Nat → Nat → Nat) (v x : Nat) (g : Nat → Nat) : setf (setF S 3 g) 7 v x = setF (setf S 7 v x) 3 g := by
  funext a j
  by_cases h7 : a = 7
  · subst h7; rfl
  · by_cases h3 : a = 3
    · subst h3; rfl
    · simp [setF, h7, h3]
theorem lack_in {S : Nat → Nat → Nat} {t r : Nat} (h : t < S 0 0) : lackN S t r = S 1 t - r := by
  unfold lackN
  rw [if_pos h]
  omega
theorem nX4_isIn_X4 : ∀ x ∈ wsX40, x ∈ wsX4_isIn := fun _ h => List.mem_cons_of_mem _ (List.mem_append_right _ h)
set_option maxRecDepth 100000 in
set_option maxHeartbeats 4000000 in
theorem c_X4_isIn (l : Launch) (D : va_G) (cI cA : ClassId) (z : Nat → Nat) (S : Nat → Nat → Nat) (v : Nat) (hI : Inv S) (hv : v < S 0 2) : PS l yX4_isIn wsX4_isIn 0 0 D cI cA [.ref (z 0), .ref (z (12 + v))] (wSi cI cA z S) (bI (S 0 0 ≤ S 7 v)) := by
  refine q_bodyP (cc := cX4_isIn) (maxL := 2) (ret := (some .boolean)) (by decide) rfl (Nat.le_of_ble_eq_true rfl) ?_
  intro p e s m args below meth c H ls F hr hlk hl hP hK hS
  have F : CallFix p m c cX4_isIn 2 s args wsX4_isIn RX4 := F
  have hl : lv_has ls 2 [(0, .ref (z 0)), (1, .ref (z (12 + v)))] := hl
  have hi0 := hI.gates
  have hi1 := hI.geese
  have hi2 := hI.guests
  refine lv_aload_n F.1 F.2.1 dX4_isIn_0 rfl (lv_at hl 1 rfl) ?_
  refine lv_iconst (v := nI 3) F.1 F.2.1 dX4_isIn_1 (by decide) ?_
  refine q_iald (v := S 7 v) F hK hP (4 + S 0 1 + v) (wSi_v (show v < S 0 2 by omega)) (by decide) (by first | omega | decide) rfl dX4_isIn_2 ?_
  have := hI.went v
  refine lv_aload_n F.1 F.2.1 dX4_isIn_3 rfl (lv_at hl 0 rfl) ?_
  refine k_get (v := .ref (z 1)) F nX4_isIn_X4 hK.1.1 hP 0 rfl rfl 3 (by decide) (List.mem_of_getElem? (i := 1) rfl) rfl dX4_isIn_4 ?_
  refine q_alen F hK hP 1 rfl dX4_isIn_7 ?_
  refine k_icmp_ne (tgt := 15) F (by omega) (by omega) dX4_isIn_8 (by decide) (fun h8 => ?_) (fun h8 => ?_)
  · skip
    refine lv_iconst (v := nI 0) F.1 F.2.1 dX4_isIn_15 (by decide) ?_
    exact k_retP F hr hlk hS (fin0 (by omega)) (by first | rfl | (split <;> rfl)) dX4_isIn_16
  · skip
    refine lv_iconst (v := nI 1) F.1 F.2.1 dX4_isIn_11 (by decide) ?_
    refine lv_goto (tgt := 16) F.1 F.2.1 dX4_isIn_12 (by decide) ?_
    exact k_retP F hr hlk hS (fin1 (by omega)) (by first | rfl | (split <;> rfl)) dX4_isIn_16
theorem nX4_hiss_X4 : ∀ x ∈ wsX40, x ∈ wsX4_hiss := fun _ h => List.mem_cons_of_mem _ (List.mem_append_right _ h)
set_option maxRecDepth 100000 in
set_option maxHeartbeats 4000000 in
theorem c_X4_hiss (l : Launch) (D : va_G) (cI cA : ClassId) (z : Nat → Nat) (S : Nat → Nat → Nat) (t : Nat) (r : Nat) (hI : Inv S) (hg : t < S 0 0) (hr : r < 2 ^ 30) : PS l yX4_hiss wsX4_hiss 0 0 D cI cA [.ref (z 0), .int (nI t), .int (nI r)] (wSi cI cA z S) (nI (hisG S t r)) := by
  refine q_bodyP (cc := cX4_hiss) (maxL := 8) (ret := (some .int)) (by decide) rfl (Nat.le_of_ble_eq_true rfl) ?_
  intro p e s m args below meth c H ls F hr hlk hl hP hK hS
  have F : CallFix p m c cX4_hiss 8 s args wsX4_hiss RX4 := F
  have hl : lv_has ls 8 [(0, .ref (z 0)), (1, .int (nI t)), (2, .int (nI r))] := hl
  have hi0 := hI.gates
  have hi1 := hI.geese
  have hi2 := hI.guests
  refine lv_iconst (v := nI 0) F.1 F.2.1 dX4_hiss_0 (by decide) ?_
  refine lv_istore_n (lv' := [(3, .int (nI 0)), (0, .ref (z 0)), (1, .int (nI t)), (2, .int (nI r))]) F.1 F.2.1 dX4_hiss_1 rfl hl (by decide) rfl (fun ls hl => ?_)
  refine lv_aload_n F.1 F.2.1 dX4_hiss_2 rfl (lv_at hl 1 rfl) ?_
  refine k_get (v := .ref (z 2)) F nX4_hiss_X4 hK.1.1 hP 0 rfl rfl 4 (by decide) (List.mem_of_getElem? (i := 1) rfl) rfl dX4_hiss_3 ?_
  refine lv_astore (lv' := [(4, .ref (z 2)), (3, .int (nI 0)), (0, .ref (z 0)), (1, .int (nI t)), (2, .int (nI r))]) F.1 F.2.1 dX4_hiss_6 hl (by decide) rfl (fun ls hl => ?_)
  refine lv_aload F.1 F.2.1 dX4_hiss_8 (lv_at hl 0 rfl) ?_
  refine q_alenA F hK hP 2 rfl dX4_hiss_10 ?_
  refine lv_istore (lv' := [(5, .int (nI (S 0 1))), (4, .ref (z 2)), (3, .int (nI 0)), (0, .ref (z 0)), (1, .int (nI t)), (2, .int (nI r))]) F.1 F.2.1 dX4_hiss_11 hl (by decide) rfl (fun ls hl => ?_)
  refine lv_iconst (v := nI 0) F.1 F.2.1 dX4_hiss_13 (by decide) ?_
  refine lv_istore (lv' := [(6, .int (nI 0)), (5, .int (nI (S 0 1))), (4, .ref (z 2)), (3, .int (nI 0)), (0, .ref (z 0)), (1, .int (nI t)), (2, .int (nI r))]) F.1 F.2.1 dX4_hiss_14 hl (by decide) rfl (fun ls hl => ?_)
  have loop16 : ∀ (n : Nat) (i : Nat), i ≤ S 0 1 → S 0 1 + 1 ≤ i + n → ∀ (H : Heap) (locs : List Loc) (ls : Array Slot), va_P D vwCl (wSi cI cA z S) H → va_S (fun _ => False) s.heap H locs → lv_has ls 8 [(0, .ref (z 0)), (1, .int (nI t)), (2, .int (nI r)), (3, .int (nI (hisN S t (lackN S t r) i))), (4, .ref (z 2)), (5, .int (nI (S 0 1))), (6, .int (nI i))] → W p l e (rmN 0 0) s m args below meth c H locs (0) (0) (QPI below args s (nI (hisG S t r))) (F0 m 16 ls []) := by
    intro n
    induction n with
    | zero => intro i hi hn; exact absurd hn (by omega)
    | succ n ih16 =>
      intro i hi hn  H locs ls hP hS hl
      refine lv_iload F.1 F.2.1 dX4_hiss_16 (lv_at hl 6 rfl) ?_
      refine lv_iload F.1 F.2.1 dX4_hiss_18 (lv_at hl 5 rfl) ?_
      refine k_icmp_ge (tgt := 82) F (by omega) (by omega) dX4_hiss_20 (by decide) (fun h20 => ?_) (fun h20 => ?_)
      · skip
        refine lv_iload_n F.1 F.2.1 dX4_hiss_82 rfl (lv_at hl 3 rfl) ?_
        exact k_retP F hr hlk hS (by rw [show i = S 0 1 by omega]; rfl) rfl dX4_hiss_83
      · skip
        refine lv_aload F.1 F.2.1 dX4_hiss_23 (lv_at hl 4 rfl) ?_
        refine lv_iload F.1 F.2.1 dX4_hiss_25 (lv_at hl 6 rfl) ?_
        refine q_aald (v := z (4 + i)) F hK hP 2 rfl (show i < S 0 1 by omega) (show S 0 1 < 2 ^ 31 by omega) rfl dX4_hiss_27 ?_
        refine lv_astore (lv' := [(7, .ref (z (4 + i))), (0, .ref (z 0)), (1, .int (nI t)), (2, .int (nI r)), (3, .int (nI (hisN S t (lackN S t r) i))), (4, .ref (z 2)), (5, .int (nI (S 0 1))), (6, .int (nI i))]) F.1 F.2.1 dX4_hiss_28 hl (by decide) rfl (fun ls hl => ?_)
        refine lv_aload F.1 F.2.1 dX4_hiss_30 (lv_at hl 0 rfl) ?_
        refine lv_iconst (v := nI 0) F.1 F.2.1 dX4_hiss_32 (by decide) ?_
        refine q_iald (v := S 2 i) F hK hP (4 + i) (wSi_g (show i < S 0 1 by omega)) (by decide) (by first | omega | decide) rfl dX4_hiss_33 ?_
        have := hI.keep i
        refine lv_iload_n F.1 F.2.1 dX4_hiss_34 rfl (lv_at hl 2 rfl) ?_
        refine k_icmp_ne (tgt := 76) F (by omega) (by omega) dX4_hiss_35 (by decide) (fun h35 => ?_) (fun h35 => ?_)
        · skip
          refine k_inc (k := 7) (lv' := [(6, .int (nI (i + 1))), (7, .ref (z (4 + i))), (0, .ref (z 0)), (1, .int (nI t)), (2, .int (nI r)), (3, .int (nI (hisN S t (lackN S t r) i))), (4, .ref (z 2)), (5, .int (nI (S 0 1)))]) F dX4_hiss_76 hl rfl (by decide) rfl (fun ls hl => ?_)
          refine lv_goto (tgt := 16) F.1 F.2.1 dX4_hiss_79 (by decide) ?_
          have e_1 : hisN S t (lackN S t r) i = hisN S t (lackN S t r) (i + 1) := by rw [(show hisN S t (lackN S t r) (i + 1) = if awk S i t then hisN S t (lackN S t r) i + (S 3 i + lackN S t r) else hisN S t (lackN S t r) i from rfl), if_neg (fun q => h35 q.1)]
          rw [e_1] at hl
          exact ih16 (i + 1) (by omega) (by omega)  _ _ _ hP hS (lv_sub hl [2, 3, 4, 5, 6, 7, 0] rfl)
        · skip
          refine lv_aload F.1 F.2.1 dX4_hiss_38 (lv_at hl 0 rfl) ?_
          refine lv_iconst (v := nI 2) F.1 F.2.1 dX4_hiss_40 (by decide) ?_
          refine q_iald (v := S 4 i) F hK hP (4 + i) (wSi_g (show i < S 0 1 by omega)) (by decide) (by first | omega | decide) rfl dX4_hiss_41 ?_
          have := hI.rest i
          refine k_if_le (tgt := 48) F (by omega) dX4_hiss_42 (by decide) (fun h42 => ?_) (fun h42 => ?_)
          · skip
            refine lv_iload_n F.1 F.2.1 dX4_hiss_48 rfl (lv_at hl 4 rfl) ?_
            refine lv_aload F.1 F.2.1 dX4_hiss_49 (lv_at hl 0 rfl) ?_
            refine lv_iconst (v := nI 1) F.1 F.2.1 dX4_hiss_51 (by decide) ?_
            refine q_iald (v := S 3 i) F hK hP (4 + i) (wSi_g (show i < S 0 1 by omega)) (by decide) (by first | omega | decide) rfl dX4_hiss_52 ?_
            have := hI.mood i
            refine k_iadd F dX4_hiss_53 ?_
            refine lv_istore_n (lv' := [(3, .int (nI (hisN S t (lackN S t r) i + S 3 i))), (7, .ref (z (4 + i))), (0, .ref (z 0)), (1, .int (nI t)), (2, .int (nI r)), (4, .ref (z 2)), (5, .int (nI (S 0 1))), (6, .int (nI i))]) F.1 F.2.1 dX4_hiss_54 rfl hl (by decide) rfl (fun ls hl => ?_)
            refine lv_aload_n F.1 F.2.1 dX4_hiss_55 rfl (lv_at hl 2 rfl) ?_
            refine k_get (v := .ref (z 1)) F nX4_hiss_X4 hK.1.1 hP 0 rfl rfl 3 (by decide) (List.mem_of_getElem? (i := 2) rfl) rfl dX4_hiss_56 ?_
            refine lv_iload_n F.1 F.2.1 dX4_hiss_59 rfl (lv_at hl 3 rfl) ?_
            refine q_iald (f := S 1) (v := S 1 t) F hK hP 1 rfl (by omega) (by first | omega | decide) rfl dX4_hiss_60 ?_
            have := hI.rank t
            refine lv_iload_n F.1 F.2.1 dX4_hiss_61 rfl (lv_at hl 4 rfl) ?_
            refine k_icmp_le (tgt := 76) F (by omega) (by omega) dX4_hiss_62 (by decide) (fun h62 => ?_) (fun h62 => ?_)
            · skip
              refine k_inc (k := 7) (lv' := [(6, .int (nI (i + 1))), (3, .int (nI (hisN S t (lackN S t r) i + S 3 i))), (7, .ref (z (4 + i))), (0, .ref (z 0)), (1, .int (nI t)), (2, .int (nI r)), (4, .ref (z 2)), (5, .int (nI (S 0 1)))]) F dX4_hiss_76 hl rfl (by decide) rfl (fun ls hl => ?_)
              refine lv_goto (tgt := 16) F.1 F.2.1 dX4_hiss_79 (by decide) ?_
              have e_2 : (hisN S t (lackN S t r) i + S 3 i) = hisN S t (lackN S t r) (i + 1) := by rw [(show hisN S t (lackN S t r) (i + 1) = if awk S i t then hisN S t (lackN S t r) i + (S 3 i + lackN S t r) else hisN S t (lackN S t r) i from rfl), if_pos (And.intro h35 h42), lack_in hg]; omega
              rw [e_2] at hl
              exact ih16 (i + 1) (by omega) (by omega)  _ _ _ hP hS (lv_sub hl [3, 4, 5, 1, 6, 7, 0] rfl)
            · skip
              refine lv_iload_n F.1 F.2.1 dX4_hiss_65 rfl (lv_at hl 0 rfl) ?_
              refine lv_aload_n F.1 F.2.1 dX4_hiss_66 rfl (lv_at hl 2 rfl) ?_
              refine k_get (v := .ref (z 1)) F nX4_hiss_X4 hK.1.1 hP 0 rfl rfl 3 (by decide) (List.mem_of_getElem? (i := 2) rfl) rfl dX4_hiss_67 ?_
              refine lv_iload_n F.1 F.2.1 dX4_hiss_70 rfl (lv_at hl 3 rfl) ?_
              refine q_iald (f := S 1) (v := S 1 t) F hK hP 1 rfl (by omega) (by first | omega | decide) rfl dX4_hiss_71 ?_
              have := hI.rank t
              refine lv_iload_n F.1 F.2.1 dX4_hiss_72 rfl (lv_at hl 4 rfl) ?_
              refine k_isub F (by omega) dX4_hiss_73 ?_
              refine k_iadd F dX4_hiss_74 ?_
              refine lv_istore_n (lv' := [(3, .int (nI ((hisN S t (lackN S t r) i + S 3 i) + (S 1 t - r)))), (7, .ref (z (4 + i))), (0, .ref (z 0)), (1, .int (nI t)), (2, .int (nI r)), (4, .ref (z 2)), (5, .int (nI (S 0 1))), (6, .int (nI i))]) F.1 F.2.1 dX4_hiss_75 rfl hl (by decide) rfl (fun ls hl => ?_)
              refine k_inc (k := 7) (lv' := [(6, .int (nI (i + 1))), (3, .int (nI ((hisN S t (lackN S t r) i + S 3 i) + (S 1 t - r)))), (7, .ref (z (4 + i))), (0, .ref (z 0)), (1, .int (nI t)), (2, .int (nI r)), (4, .ref (z 2)), (5, .int (nI (S 0 1)))]) F dX4_hiss_76 hl rfl (by decide) rfl (fun ls hl => ?_)
              refine lv_goto (tgt := 16) F.1 F.2.1 dX4_hiss_79 (by decide) ?_
              have e_3 : ((hisN S t (lackN S t r) i + S 3 i) + (S 1 t - r)) = hisN S t (lackN S t r) (i + 1) := by rw [(show hisN S t (lackN S t r) (i + 1) = if awk S i t then hisN S t (lackN S t r) i + (S 3 i + lackN S t r) else hisN S t (lackN S t r) i from rfl), if_pos (And.intro h35 h42), lack_in hg]; omega
              rw [e_3] at hl
              exact ih16 (i + 1) (by omega) (by omega)  _ _ _ hP hS (lv_sub hl [3, 4, 5, 1, 6, 7, 0] rfl)
          · skip
            refine lv_goto (tgt := 76) F.1 F.2.1 dX4_hiss_45 (by decide) ?_
            refine k_inc (k := 7) (lv' := [(6, .int (nI (i + 1))), (7, .ref (z (4 + i))), (0, .ref (z 0)), (1, .int (nI t)), (2, .int (nI r)), (3, .int (nI (hisN S t (lackN S t r) i))), (4, .ref (z 2)), (5, .int (nI (S 0 1)))]) F dX4_hiss_76 hl rfl (by decide) rfl (fun ls hl => ?_)
            refine lv_goto (tgt := 16) F.1 F.2.1 dX4_hiss_79 (by decide) ?_
            have e_4 : hisN S t (lackN S t r) i = hisN S t (lackN S t r) (i + 1) := by rw [(show hisN S t (lackN S t r) (i + 1) = if awk S i t then hisN S t (lackN S t r) i + (S 3 i + lackN S t r) else hisN S t (lackN S t r) i from rfl), if_neg (fun q => by have := q.2; omega)]
            rw [e_4] at hl
            exact ih16 (i + 1) (by omega) (by omega)  _ _ _ hP hS (lv_sub hl [2, 3, 4, 5, 6, 7, 0] rfl)
  have e_5 : 0 = hisN S t (lackN S t r) 0 := rfl
  rw [e_5] at hl
  exact loop16 ((S 0 1) + 1) 0 (by omega) (by omega)  _ _ _ hP hS (lv_sub hl [4, 5, 6, 3, 2, 1, 0] rfl)
set_option maxRecDepth 100000 in
set_option maxHeartbeats 4000000 in
theorem c_X4_hissAt (l : Launch) (D : va_G) (cI cA : ClassId) (z : Nat → Nat) (S : Nat → Nat → Nat) (v : Nat) (hI : Inv S) (hv : v < S 0 2) : PS l yX4_hissAt wsX4_hissAt 1 27 D cI cA [.ref (z 0), .ref (z (12 + v))] (wSi cI cA z S) (nI (hisG S (S 7 v) (S 6 v))) := by
  refine q_bodyP (cc := cX4_hissAt) (maxL := 2) (ret := (some .int)) (by decide) rfl (Nat.le_of_ble_eq_true rfl) ?_
  intro p e s m args below meth c H ls F hr hlk hl hP hK hS
  have F : CallFix p m c cX4_hissAt 2 s args wsX4_hissAt RX4 := F
  have hl : lv_has ls 2 [(0, .ref (z 0)), (1, .ref (z (12 + v)))] := hl
  have hi0 := hI.gates
  have hi1 := hI.geese
  have hi2 := hI.guests
  have hw9 := hI.went v
  have ho9 := hI.own v
  refine lv_aload_n F.1 F.2.1 dX4_hissAt_0 rfl (lv_at hl 0 rfl) ?_
  refine lv_aload_n F.1 F.2.1 dX4_hissAt_1 rfl (lv_at hl 1 rfl) ?_
  refine q_pV (n := 1) (rest := []) (v := bI (S 0 0 ≤ S 7 v)) F (c_X4_isIn l D cI cA z S v hI (by first | assumption | omega)) gX4_hissAt_X4_isIn rfl (by decide +kernel) ⟨Nat.le_of_ble_eq_true rfl, Nat.le_of_ble_eq_true rfl⟩ rfl hl.1 rfl (Nat.le_of_ble_eq_true rfl) dX4_hissAt_2 ⟨Nat.zero_le _, Nat.zero_le _⟩ hK hP hS ap_s (q0 := 0) (ci := 4) rfl rfl (fun H locs hP hS => ?_)
  refine k_ifeq_b (tgt := 12) F dX4_hissAt_5 (by decide) (fun h5 => ?_) (fun h5 => ?_)
  · skip
    refine lv_aload_n F.1 F.2.1 dX4_hissAt_12 rfl (lv_at hl 0 rfl) ?_
    refine lv_aload_n F.1 F.2.1 dX4_hissAt_13 rfl (lv_at hl 1 rfl) ?_
    refine lv_iconst (v := nI 3) F.1 F.2.1 dX4_hissAt_14 (by decide) ?_
    refine q_iald (v := S 7 v) F hK hP (4 + S 0 1 + v) (wSi_v (show v < S 0 2 by omega)) (by decide) (by first | omega | decide) rfl dX4_hissAt_15 ?_
    have := hI.went v
    refine lv_aload_n F.1 F.2.1 dX4_hissAt_16 rfl (lv_at hl 1 rfl) ?_
    refine lv_iconst (v := nI 0) F.1 F.2.1 dX4_hissAt_17 (by decide) ?_
    refine q_iald (v := S 6 v) F hK hP (4 + S 0 1 + v) (wSi_v (show v < S 0 2 by omega)) (by decide) (by first | omega | decide) rfl dX4_hissAt_18 ?_
    have := hI.own v
    refine q_pV (n := 2) (rest := []) (v := nI (hisG S (S 7 v) (S 6 v))) F (c_X4_hiss l D cI cA z S (S 7 v) (S 6 v) hI (by omega) (by omega)) gX4_hissAt_X4_hiss rfl (by decide +kernel) ⟨Nat.le_of_ble_eq_true rfl, Nat.le_of_ble_eq_true rfl⟩ rfl hl.1 rfl (Nat.le_of_ble_eq_true rfl) dX4_hissAt_19 ⟨Nat.zero_le _, Nat.zero_le _⟩ hK hP hS ap_s (q0 := 0) (ci := 4) rfl rfl (fun H locs hP hS => ?_)
    exact k_retP F hr hlk hS rfl rfl dX4_hissAt_22
  · skip
    refine lv_iconst (v := nI 0) F.1 F.2.1 dX4_hissAt_8 (by decide) ?_
    refine lv_goto (tgt := 22) F.1 F.2.1 dX4_hissAt_9 (by decide) ?_
    exact k_retP F hr hlk hS (by rw [hisG_farm hI h5]) rfl dX4_hissAt_22
set_option maxRecDepth 100000 in
set_option maxHeartbeats 4000000 in
theorem c_X4_grade (l : Launch) (D : va_G) (cI : ClassId) (h : Nat) (hh : h < 2 ^ 31) : GI l yX4_grade wsX4_grade 0 1 4 0 D [(cI, .int)] [.int (nI h)] [] [] (nI (grdN h)) := by
  intro sz
  refine k_bodyG (cc := cX4_grade) (maxL := 7) (ret := (some .int)) (by decide) rfl (Nat.le_of_ble_eq_true rfl) ?_
  intro p e s m args below meth c H ls hz F hr hlk hl hP hK hD hS
  have F : CallFix p m c cX4_grade 7 s args wsX4_grade RX4 := F
  have hl : lv_has ls 7 [(0, .int (nI h))] := hl
  refine lv_iconst (v := nI 4) F.1 F.2.1 dX4_grade_0 (by decide) ?_
  refine k_newa F (List.mem_of_getElem? (i := 1) rfl) hK hP hD hS (fun q h => Or.inr (by omega)) (k := 4) (by decide) ⟨show 0 + 1 ≤ 1 by omega, show 0 + 4 ≤ 4 by omega⟩ dX4_grade_1 (fun q1 H hP hD hS => ?_)
  refine lv_dup F.1 F.2.1 dX4_grade_3 rfl ?_
  refine lv_iconst (v := nI 0) F.1 F.2.1 dX4_grade_4 (by decide) ?_
  refine lv_iconst (v := nI 0) F.1 F.2.1 dX4_grade_5 (by decide) ?_
  refine k_iast (f := fun _ => 0) (n := 4) (k := 0) (x := 0) F hK.1 hP hD hS 0 0 rfl rfl (by omega) (by decide) dX4_grade_6 ([] ++ [(q1, .inl (cI, 4, .inl (row (updN (fun _ => 0) 0 0))))]) rfl (fun H locs hP hD hS => ?_)
  refine lv_dup F.1 F.2.1 dX4_grade_7 rfl ?_
  refine lv_iconst (v := nI 1) F.1 F.2.1 dX4_grade_8 (by decide) ?_
  refine lv_iconst (v := nI 5) F.1 F.2.1 dX4_grade_9 (by decide) ?_
  refine k_iast (f := updN (fun _ => 0) 0 0) (n := 4) (k := 1) (x := 5) F hK.1 hP hD hS 0 0 rfl rfl (by omega) (by decide) dX4_grade_10 ([] ++ [(q1, .inl (cI, 4, .inl (row (updN (updN (fun _ => 0) 0 0) 1 5))))]) rfl (fun H locs hP hD hS => ?_)
  refine lv_dup F.1 F.2.1 dX4_grade_11 rfl ?_
  refine lv_iconst (v := nI 2) F.1 F.2.1 dX4_grade_12 (by decide) ?_
  refine lv_bipush (v := nI 10) F.1 F.2.1 dX4_grade_13 (by decide) ?_
  refine k_iast (f := updN (updN (fun _ => 0) 0 0) 1 5) (n := 4) (k := 2) (x := 10) F hK.1 hP hD hS 0 0 rfl rfl (by omega) (by decide) dX4_grade_15 ([] ++ [(q1, .inl (cI, 4, .inl (row (updN (updN (updN (fun _ => 0) 0 0) 1 5) 2 10))))]) rfl (fun H locs hP hD hS => ?_)
  refine lv_dup F.1 F.2.1 dX4_grade_16 rfl ?_
  refine lv_iconst (v := nI 3) F.1 F.2.1 dX4_grade_17 (by decide) ?_
  refine lv_bipush (v := nI 20) F.1 F.2.1 dX4_grade_18 (by decide) ?_
  refine k_iast (f := updN (updN (updN (fun _ => 0) 0 0) 1 5) 2 10) (n := 4) (k := 3) (x := 20) F hK.1 hP hD hS 0 0 rfl rfl (by omega) (by decide) dX4_grade_20 ([] ++ [(q1, .inl (cI, 4, .inl (row (updN (updN (updN (updN (fun _ => 0) 0 0) 1 5) 2 10) 3 20))))]) rfl (fun H locs hP hD hS => ?_)
  refine lv_astore_n (lv' := [(1, .ref q1), (0, .int (nI h))]) F.1 F.2.1 dX4_grade_21 rfl hl (by decide) rfl (fun ls hl => ?_)
  refine lv_iconst (v := nI 0) F.1 F.2.1 dX4_grade_22 (by decide) ?_
  refine lv_istore_n (lv' := [(2, .int (nI 0)), (1, .ref q1), (0, .int (nI h))]) F.1 F.2.1 dX4_grade_23 rfl hl (by decide) rfl (fun ls hl => ?_)
  refine lv_aload_n F.1 F.2.1 dX4_grade_24 rfl (lv_at hl 1 rfl) ?_
  refine lv_astore_n (lv' := [(3, .ref q1), (2, .int (nI 0)), (1, .ref q1), (0, .int (nI h))]) F.1 F.2.1 dX4_grade_25 rfl hl (by decide) rfl (fun ls hl => ?_)
  refine lv_aload_n F.1 F.2.1 dX4_grade_26 rfl (lv_at hl 0 rfl) ?_
  refine k_alen (n := 4) F hK.1 hP 0 0 rfl rfl dX4_grade_27 ?_
  refine lv_istore (lv' := [(4, .int (nI 4)), (3, .ref q1), (2, .int (nI 0)), (1, .ref q1), (0, .int (nI h))]) F.1 F.2.1 dX4_grade_28 hl (by decide) rfl (fun ls hl => ?_)
  refine lv_iconst (v := nI 0) F.1 F.2.1 dX4_grade_30 (by decide) ?_
  refine lv_istore (lv' := [(5, .int (nI 0)), (4, .int (nI 4)), (3, .ref q1), (2, .int (nI 0)), (1, .ref q1), (0, .int (nI h))]) F.1 F.2.1 dX4_grade_31 hl (by decide) rfl (fun ls hl => ?_)
  have loop33 : ∀ (n : Nat) (i : Nat), i ≤ 4 → 4 + 1 ≤ i + n → ∀ (H : Heap) (locs : List Loc) (ls : Array Slot), va_P D vwCl ([] ++ [(q1, .inl (cI, 4, .inl (row (updN (updN (updN (updN (fun _ => 0) 0 0) 1 5) 2 10) 3 20))))]) H → va_D (va_A [] sz) ([] ++ [(q1, .inl (cI, 4, .inl (row (updN (updN (updN (updN (fun _ => 0) 0 0) 1 5) 2 10) 3 20))))]) → va_S (va_A [] sz) s.heap H locs → lv_has ls 7 [(0, .int (nI h)), (1, .ref q1), (2, .int (nI (gdN h i))), (3, .ref q1), (4, .int (nI 4)), (5, .int (nI i))] → W p l e (rmG 0 1 4 0) s m args below meth c H locs (0 + 1) (0 + 4) (QGI below args s D 1 4 [] sz [] (nI (grdN h))) (F0 m 33 ls []) := by
    intro n
    induction n with
    | zero => intro i hi hn; exact absurd hn (by omega)
    | succ n ih33 =>
      intro i hi hn  H locs ls hP hD hS hl
      refine lv_iload F.1 F.2.1 dX4_grade_33 (lv_at hl 5 rfl) ?_
      refine lv_iload F.1 F.2.1 dX4_grade_35 (lv_at hl 4 rfl) ?_
      refine k_icmp_ge (tgt := 61) F (by omega) (by omega) dX4_grade_37 (by decide) (fun h37 => ?_) (fun h37 => ?_)
      · skip
        refine lv_iload_n F.1 F.2.1 dX4_grade_61 rfl (lv_at hl 2 rfl) ?_
        have hP := P_pre hP
        exact k_retGI F hr hlk hP rfl hS hz (by rw [show i = 4 by omega, gd_4]) rfl (show 0 + 1 ≤ 1 by omega) (show 0 + 4 ≤ 4 by omega) dX4_grade_62
      · skip
        refine lv_aload_n F.1 F.2.1 dX4_grade_40 rfl (lv_at hl 3 rfl) ?_
        refine lv_iload F.1 F.2.1 dX4_grade_41 (lv_at hl 5 rfl) ?_
        refine k_iald (f := updN (updN (updN (updN (fun _ => 0) 0 0) 1 5) 2 10) 3 20) (n := 4) F hK.1 hP 0 0 rfl rfl (by omega) (by decide) dX4_grade_43 ?_
        rw [ov_at (by omega)]
        have ho9 := ov_le i
        refine lv_istore (lv' := [(6, .int (nI (ovN i))), (0, .int (nI h)), (1, .ref q1), (2, .int (nI (gdN h i))), (3, .ref q1), (4, .int (nI 4)), (5, .int (nI i))]) F.1 F.2.1 dX4_grade_44 hl (by decide) rfl (fun ls hl => ?_)
        refine lv_iload_n F.1 F.2.1 dX4_grade_46 rfl (lv_at hl 1 rfl) ?_
        refine lv_iload F.1 F.2.1 dX4_grade_47 (lv_at hl 0 rfl) ?_
        refine k_icmp_le (tgt := 55) F (by omega) (by omega) dX4_grade_49 (by decide) (fun h49 => ?_) (fun h49 => ?_)
        · skip
          refine k_inc (k := 6) (lv' := [(5, .int (nI (i + 1))), (6, .int (nI (ovN i))), (0, .int (nI h)), (1, .ref q1), (2, .int (nI (gdN h i))), (3, .ref q1), (4, .int (nI 4))]) F dX4_grade_55 hl rfl (by decide) rfl (fun ls hl => ?_)
          refine lv_goto (tgt := 33) F.1 F.2.1 dX4_grade_58 (by decide) ?_
          have e_1 : gdN h i = gdN h (i + 1) := by rw [(show gdN h (i + 1) = if ovN i < h then gdN h i + 1 else gdN h i from rfl), if_neg (by omega)]
          rw [e_1] at hl
          exact ih33 (i + 1) (by omega) (by omega)  _ _ _ hP hD hS (lv_sub hl [2, 3, 4, 5, 6, 0] rfl)
        · skip
          refine k_inc (k := 3) (lv' := [(2, .int (nI (gdN h i + 1))), (6, .int (nI (ovN i))), (0, .int (nI h)), (1, .ref q1), (3, .ref q1), (4, .int (nI 4)), (5, .int (nI i))]) F dX4_grade_52 hl rfl (by decide) rfl (fun ls hl => ?_)
          refine k_inc (k := 6) (lv' := [(5, .int (nI (i + 1))), (2, .int (nI (gdN h i + 1))), (6, .int (nI (ovN i))), (0, .int (nI h)), (1, .ref q1), (3, .ref q1), (4, .int (nI 4))]) F dX4_grade_55 hl rfl (by decide) rfl (fun ls hl => ?_)
          refine lv_goto (tgt := 33) F.1 F.2.1 dX4_grade_58 (by decide) ?_
          have e_2 : (gdN h i + 1) = gdN h (i + 1) := by rw [(show gdN h (i + 1) = if ovN i < h then gdN h i + 1 else gdN h i from rfl), if_pos (by omega)]
          rw [e_2] at hl
          exact ih33 (i + 1) (by omega) (by omega)  _ _ _ hP hD hS (lv_sub hl [3, 4, 1, 5, 6, 0] rfl)
  have e_3 : 0 = gdN h 0 := rfl
  rw [e_3] at hl
  exact loop33 (4 + 1) 0 (by omega) (by omega)  _ _ _ hP hD hS (lv_sub hl [5, 4, 3, 2, 1, 0] rfl)
theorem nX4_feed_X4 : ∀ x ∈ wsX40, x ∈ wsX4_feed := fun _ h => List.mem_cons_of_mem _ (List.mem_append_right _ h)
set_option maxRecDepth 100000 in
set_option maxHeartbeats 4000000 in
theorem c_X4_feed (l : Launch) (D : va_G) (cI cA : ClassId) (z : Nat → Nat) (S : Nat → Nat → Nat) (v : Nat) (k : Nat) (hI : Inv S) (hv : v < S 0 2) (hk : k < S 0 1) (h1 : 1 ≤ S 8 v) (hm : 1 ≤ S 3 k) : GV l yX4_feed wsX4_feed 0 0 0 0 D cI cA [.ref (z 0), .ref (z (12 + v)), .ref (z (4 + k))] (wSi cI cA z S) (wSi cI cA z (payS S v k)) := by
  intro sz
  refine q_bodyG (cc := cX4_feed) (maxL := 3) (ret := none) (by decide) rfl (Nat.le_of_ble_eq_true rfl) ?_
  intro p e s m args below meth c H ls hz F hr hlk hl hP hK hD hS
  have F : CallFix p m c cX4_feed 3 s args wsX4_feed RX4 := F
  have hl : lv_has ls 3 [(0, .ref (z 0)), (1, .ref (z (12 + v))), (2, .ref (z (4 + k)))] := hl
  have hi0 := hI.gates
  have hi1 := hI.geese
  have hi2 := hI.guests
  refine lv_aload_n F.1 F.2.1 dX4_feed_0 rfl (lv_at hl 1 rfl) ?_
  refine lv_iconst (v := nI 2) F.1 F.2.1 dX4_feed_1 (by decide) ?_
  refine lv_dup2_11 F.1 F.2.1 dX4_feed_2 rfl rfl ?_
  refine q_iald (v := S 8 v) F hK hP (4 + S 0 1 + v) (wSi_v (show v < S 0 2 by omega)) (by decide) (by first | omega | decide) rfl dX4_feed_3 ?_
  have := hI.has v
  refine lv_iconst (v := nI 1) F.1 F.2.1 dX4_feed_4 (by decide) ?_
  refine k_isub F (by omega) dX4_feed_5 ?_
  refine q_iast (k := 2) (x := (S 8 v - 1)) F hK hP hD hS (4 + S 0 1 + v) (wSi_v (show v < S 0 2 by omega)) (by decide) (by first | omega | decide) dX4_feed_6 (wSi cI cA z (setf S 8 v (S 8 v - 1))) (wSi_sv 2 (S 8 v - 1) (show v < S 0 2 by omega) (by decide)) (fun H locs hP hD hS => ?_)
  refine lv_aload_n F.1 F.2.1 dX4_feed_7 rfl (lv_at hl 2 rfl) ?_
  refine lv_iconst (v := nI 3) F.1 F.2.1 dX4_feed_8 (by decide) ?_
  refine lv_dup2_11 F.1 F.2.1 dX4_feed_9 rfl rfl ?_
  refine q_iald (v := S 5 k) F hK hP (4 + k) (wSi_g (show k < S 0 1 by omega)) (by decide) (by first | omega | decide) rfl dX4_feed_10 ?_
  refine lv_iconst (v := nI 1) F.1 F.2.1 dX4_feed_11 (by decide) ?_
  refine k_iadd F dX4_feed_12 ?_
  refine q_iast (k := 3) (x := (S 5 k + 1)) F hK hP hD hS (4 + k) (wSi_g (show k < S 0 1 by omega)) (by decide) (by first | omega | decide) dX4_feed_13 (wSi cI cA z (setf (setf S 8 v (S 8 v - 1)) 5 k (S 5 k + 1))) (wSi_sg 3 (S 5 k + 1) (show k < S 0 1 by omega) (by decide)) (fun H locs hP hD hS => ?_)
  refine lv_aload_n F.1 F.2.1 dX4_feed_14 rfl (lv_at hl 2 rfl) ?_
  refine lv_iconst (v := nI 2) F.1 F.2.1 dX4_feed_15 (by decide) ?_
  refine lv_iconst (v := nI 3) F.1 F.2.1 dX4_feed_16 (by decide) ?_
  refine q_iast (k := 2) (x := 3) F hK hP hD hS (4 + k) (wSi_g (show k < S 0 1 by omega)) (by decide) (by first | omega | decide) dX4_feed_17 (wSi cI cA z (setf (setf (setf S 8 v (S 8 v - 1)) 5 k (S 5 k + 1)) 4 k 3)) (wSi_sg 2 3 (show k < S 0 1 by omega) (by decide)) (fun H locs hP hD hS => ?_)
  refine lv_aload_n F.1 F.2.1 dX4_feed_18 rfl (lv_at hl 2 rfl) ?_
  refine lv_iconst (v := nI 1) F.1 F.2.1 dX4_feed_19 (by decide) ?_
  refine q_iald (v := S 3 k) F hK hP (4 + k) (wSi_g (show k < S 0 1 by omega)) (by decide) (by first | omega | decide) rfl dX4_feed_20 ?_
  have := hI.mood k
  refine lv_iconst (v := nI 1) F.1 F.2.1 dX4_feed_21 (by decide) ?_
  refine k_icmp_le (tgt := 32) F (by omega) (by omega) dX4_feed_22 (by decide) (fun h22 => ?_) (fun h22 => ?_)
  · skip
    refine lv_aload_n F.1 F.2.1 dX4_feed_32 rfl (lv_at hl 0 rfl) ?_
    refine lv_dup F.1 F.2.1 dX4_feed_33 rfl ?_
    refine k_get (v := .int (nI (S 0 4))) F nX4_feed_X4 hK.1.1 hP 0 rfl rfl 1 (by decide) (List.mem_of_getElem? (i := 1) rfl) rfl dX4_feed_34 ?_
    refine lv_iconst (v := nI 1) F.1 F.2.1 dX4_feed_37 (by decide) ?_
    refine k_iadd F dX4_feed_38 ?_
    refine k_put F nX4_feed_X4 tyX4 tyX4_ok nmX4 hK.1.1 hP hD hS 0 rfl rfl 1 (by decide) (List.mem_of_getElem? (i := 1) rfl) rfl (by decide +kernel) (Nat.le_of_ble_eq_true rfl) dX4_feed_39 (wSi cI cA z (setf (setf (setf (setf S 8 v (S 8 v - 1)) 5 k (S 5 k + 1)) 4 k 3) 0 4 (S 0 4 + 1))) (wSi_s4 (S 0 4 + 1)) (fun H locs hP hD hS => ?_)
    exact k_retGV F hr hlk hP (congrArg (wSi cI cA z) (by show setf (setf (setf (setf S 8 v (S 8 v - 1)) 5 k (S 5 k + 1)) 4 k 3) 0 4 (S 0 4 + 1) = payS S v k; unfold payS; rw [show max 1 (S 3 k - 1) = S 3 k by omega, setf_same (setf (setf (setf S 8 v (S 8 v - 1)) 5 k (S 5 k + 1)) 4 k 3) 3 k (S 3 k) rfl])) hS hz (show 0 ≤ 0 by omega) (show 0 ≤ 0 by omega) dX4_feed_42
  · skip
    refine lv_aload_n F.1 F.2.1 dX4_feed_25 rfl (lv_at hl 2 rfl) ?_
    refine lv_iconst (v := nI 1) F.1 F.2.1 dX4_feed_26 (by decide) ?_
    refine lv_dup2_11 F.1 F.2.1 dX4_feed_27 rfl rfl ?_
    refine q_iald (v := S 3 k) F hK hP (4 + k) (wSi_g (show k < S 0 1 by omega)) (by decide) (by first | omega | decide) rfl dX4_feed_28 ?_
    have := hI.mood k
    refine lv_iconst (v := nI 1) F.1 F.2.1 dX4_feed_29 (by decide) ?_
    refine k_isub F (by omega) dX4_feed_30 ?_
    refine q_iast (k := 1) (x := (S 3 k - 1)) F hK hP hD hS (4 + k) (wSi_g (show k < S 0 1 by omega)) (by decide) (by first | omega | decide) dX4_feed_31 (wSi cI cA z (setf (setf (setf (setf S 8 v (S 8 v - 1)) 5 k (S 5 k + 1)) 4 k 3) 3 k (S 3 k - 1))) (wSi_sg 1 (S 3 k - 1) (show k < S 0 1 by omega) (by decide)) (fun H locs hP hD hS => ?_)
    refine lv_aload_n F.1 F.2.1 dX4_feed_32 rfl (lv_at hl 0 rfl) ?_
    refine lv_dup F.1 F.2.1 dX4_feed_33 rfl ?_
    refine k_get (v := .int (nI (S 0 4))) F nX4_feed_X4 hK.1.1 hP 0 rfl rfl 1 (by decide) (List.mem_of_getElem? (i := 1) rfl) rfl dX4_feed_34 ?_
    refine lv_iconst (v := nI 1) F.1 F.2.1 dX4_feed_37 (by decide) ?_
    refine k_iadd F dX4_feed_38 ?_
    refine k_put F nX4_feed_X4 tyX4 tyX4_ok nmX4 hK.1.1 hP hD hS 0 rfl rfl 1 (by decide) (List.mem_of_getElem? (i := 1) rfl) rfl (by decide +kernel) (Nat.le_of_ble_eq_true rfl) dX4_feed_39 (wSi cI cA z (setf (setf (setf (setf (setf S 8 v (S 8 v - 1)) 5 k (S 5 k + 1)) 4 k 3) 3 k (S 3 k - 1)) 0 4 (S 0 4 + 1))) (wSi_s4 (S 0 4 + 1)) (fun H locs hP hD hS => ?_)
    exact k_retGV F hr hlk hP (congrArg (wSi cI cA z) (by unfold payS; rw [show max 1 (S 3 k - 1) = S 3 k - 1 by omega])) hS hz (show 0 ≤ 0 by omega) (show 0 ≤ 0 by omega) dX4_feed_42
theorem nX4_inFarm_X4 : ∀ x ∈ wsX40, x ∈ wsX4_inFarm := fun _ h => List.mem_cons_of_mem _ (List.mem_append_right _ h)
set_option maxRecDepth 100000 in
set_option maxHeartbeats 4000000 in
theorem c_X4_inFarm (l : Launch) (D : va_G) (cI cA : ClassId) (z : Nat → Nat) (S : Nat → Nat → Nat) (hI : Inv S) : PS l yX4_inFarm wsX4_inFarm 1 21 D cI cA [.ref (z 0)] (wSi cI cA z S) (nI (inN S (S 0 2))) := by
  refine q_bodyP (cc := cX4_inFarm) (maxL := 6) (ret := (some .int)) (by decide) rfl (Nat.le_of_ble_eq_true rfl) ?_
  intro p e s m args below meth c H ls F hr hlk hl hP hK hS
  have F : CallFix p m c cX4_inFarm 6 s args wsX4_inFarm RX4 := F
  have hl : lv_has ls 6 [(0, .ref (z 0))] := hl
  have hi0 := hI.gates
  have hi1 := hI.geese
  have hi2 := hI.guests
  refine lv_iconst (v := nI 0) F.1 F.2.1 dX4_inFarm_0 (by decide) ?_
  refine lv_istore_n (lv' := [(1, .int (nI 0)), (0, .ref (z 0))]) F.1 F.2.1 dX4_inFarm_1 rfl hl (by decide) rfl (fun ls hl => ?_)
  refine lv_aload_n F.1 F.2.1 dX4_inFarm_2 rfl (lv_at hl 1 rfl) ?_
  refine k_get (v := .ref (z 3)) F nX4_inFarm_X4 hK.1.1 hP 0 rfl rfl 5 (by decide) (List.mem_of_getElem? (i := 1) rfl) rfl dX4_inFarm_3 ?_
  refine lv_astore_n (lv' := [(2, .ref (z 3)), (1, .int (nI 0)), (0, .ref (z 0))]) F.1 F.2.1 dX4_inFarm_6 rfl hl (by decide) rfl (fun ls hl => ?_)
  refine lv_aload_n F.1 F.2.1 dX4_inFarm_7 rfl (lv_at hl 0 rfl) ?_
  refine q_alenA F hK hP 3 rfl dX4_inFarm_8 ?_
  refine lv_istore_n (lv' := [(3, .int (nI (S 0 2))), (2, .ref (z 3)), (1, .int (nI 0)), (0, .ref (z 0))]) F.1 F.2.1 dX4_inFarm_9 rfl hl (by decide) rfl (fun ls hl => ?_)
  refine lv_iconst (v := nI 0) F.1 F.2.1 dX4_inFarm_10 (by decide) ?_
  refine lv_istore (lv' := [(4, .int (nI 0)), (3, .int (nI (S 0 2))), (2, .ref (z 3)), (1, .int (nI 0)), (0, .ref (z 0))]) F.1 F.2.1 dX4_inFarm_11 hl (by decide) rfl (fun ls hl => ?_)
  have loop13 : ∀ (n : Nat) (i : Nat), i ≤ S 0 2 → S 0 2 + 1 ≤ i + n → ∀ (H : Heap) (locs : List Loc) (ls : Array Slot), va_P D vwCl (wSi cI cA z S) H → va_S (fun _ => False) s.heap H locs → lv_has ls 6 [(0, .ref (z 0)), (1, .int (nI (inN S i))), (2, .ref (z 3)), (3, .int (nI (S 0 2))), (4, .int (nI i))] → W p l e (rmN 1 21) s m args below meth c H locs (0) (0) (QPI below args s (nI (inN S (S 0 2)))) (F0 m 13 ls []) := by
    intro n
    induction n with
    | zero => intro i hi hn; exact absurd hn (by omega)
    | succ n ih13 =>
      intro i hi hn  H locs ls hP hS hl
      refine lv_iload F.1 F.2.1 dX4_inFarm_13 (lv_at hl 4 rfl) ?_
      refine lv_iload_n F.1 F.2.1 dX4_inFarm_15 rfl (lv_at hl 3 rfl) ?_
      refine k_icmp_ge (tgt := 43) F (by omega) (by omega) dX4_inFarm_16 (by decide) (fun h16 => ?_) (fun h16 => ?_)
      · skip
        refine lv_iload_n F.1 F.2.1 dX4_inFarm_43 rfl (lv_at hl 1 rfl) ?_
        exact k_retP F hr hlk hS (by rw [show i = S 0 2 by omega]) rfl dX4_inFarm_44
      · skip
        refine lv_aload_n F.1 F.2.1 dX4_inFarm_19 rfl (lv_at hl 2 rfl) ?_
        refine lv_iload F.1 F.2.1 dX4_inFarm_20 (lv_at hl 4 rfl) ?_
        refine q_aald (v := z (12 + i)) F hK hP 3 rfl (show i < S 0 2 by omega) (show S 0 2 < 2 ^ 31 by omega) rfl dX4_inFarm_22 ?_
        refine lv_astore (lv' := [(5, .ref (z (12 + i))), (0, .ref (z 0)), (1, .int (nI (inN S i))), (2, .ref (z 3)), (3, .int (nI (S 0 2))), (4, .int (nI i))]) F.1 F.2.1 dX4_inFarm_23 hl (by decide) rfl (fun ls hl => ?_)
        refine lv_aload_n F.1 F.2.1 dX4_inFarm_25 rfl (lv_at hl 1 rfl) ?_
        refine lv_aload F.1 F.2.1 dX4_inFarm_26 (lv_at hl 0 rfl) ?_
        refine q_pV (n := 1) (rest := []) (v := bI (S 0 0 ≤ S 7 i)) F (c_X4_isIn l D cI cA z S i hI (by first | assumption | omega)) gX4_inFarm_X4_isIn rfl (by decide +kernel) ⟨Nat.le_of_ble_eq_true rfl, Nat.le_of_ble_eq_true rfl⟩ rfl hl.1 rfl (Nat.le_of_ble_eq_true rfl) dX4_inFarm_28 ⟨Nat.zero_le _, Nat.zero_le _⟩ hK hP hS ap_s (q0 := 0) (ci := 4) rfl rfl (fun H locs hP hS => ?_)
        refine k_ifeq_b (tgt := 37) F dX4_inFarm_31 (by decide) (fun h31 => ?_) (fun h31 => ?_)
        · skip
          refine k_inc (k := 5) (lv' := [(4, .int (nI (i + 1))), (5, .ref (z (12 + i))), (0, .ref (z 0)), (1, .int (nI (inN S i))), (2, .ref (z 3)), (3, .int (nI (S 0 2)))]) F dX4_inFarm_37 hl rfl (by decide) rfl (fun ls hl => ?_)
          refine lv_goto (tgt := 13) F.1 F.2.1 dX4_inFarm_40 (by decide) ?_
          have e_1 : inN S i = inN S (i + 1) := by rw [(show inN S (i + 1) = if S 0 0 ≤ S 7 i then inN S i + 1 else inN S i from rfl), if_neg h31]
          rw [e_1] at hl
          exact ih13 (i + 1) (by omega) (by omega)  _ _ _ hP hS (lv_sub hl [2, 3, 4, 5, 0] rfl)
        · skip
          refine k_inc (k := 2) (lv' := [(1, .int (nI (inN S i + 1))), (5, .ref (z (12 + i))), (0, .ref (z 0)), (2, .ref (z 3)), (3, .int (nI (S 0 2))), (4, .int (nI i))]) F dX4_inFarm_34 hl rfl (by decide) rfl (fun ls hl => ?_)
          refine k_inc (k := 5) (lv' := [(4, .int (nI (i + 1))), (1, .int (nI (inN S i + 1))), (5, .ref (z (12 + i))), (0, .ref (z 0)), (2, .ref (z 3)), (3, .int (nI (S 0 2)))]) F dX4_inFarm_37 hl rfl (by decide) rfl (fun ls hl => ?_)
          refine lv_goto (tgt := 13) F.1 F.2.1 dX4_inFarm_40 (by decide) ?_
          have e_2 : (inN S i + 1) = inN S (i + 1) := by rw [(show inN S (i + 1) = if S 0 0 ≤ S 7 i then inN S i + 1 else inN S i from rfl), if_pos h31]
          rw [e_2] at hl
          exact ih13 (i + 1) (by omega) (by omega)  _ _ _ hP hS (lv_sub hl [3, 1, 4, 5, 0] rfl)
  have e_3 : 0 = inN S 0 := rfl
  rw [e_3] at hl
  exact loop13 ((S 0 2) + 1) 0 (by omega) (by omega)  _ _ _ hP hS (lv_sub hl [4, 3, 2, 1, 0] rfl)
end
section
theorem nz_or (n : Nat) : n = 0 ∨ ∃ b, n = b + 1 := by
  cases n with
  | zero => exact Or.inl rfl
  | succ b => exact Or.inr ⟨b, rfl⟩
theorem nX4_pass_X4 : ∀ x ∈ wsX40, x ∈ wsX4_pass := fun _ h => List.mem_cons_of_mem _ (List.mem_append_right _ h)
set_option maxRecDepth 100000 in
set_option maxHeartbeats 4000000 in
theorem c_X4_pass (l : Launch) (D : va_G) (cI cA : ClassId) (z : Nat → Nat) (S : Nat → Nat → Nat) (hI : Inv S) : GV l yX4_pass wsX4_pass 2 8 32 48 D cI cA [.ref (z 0)] (wSi cI cA z S) (wSi cI cA z (beatS S)) := by
  intro sz
  refine q_bodyG (cc := cX4_pass) (maxL := 11) (ret := none) (by decide) rfl (Nat.le_of_ble_eq_true rfl) ?_
  intro p e s m args below meth c H ls hz F hr hlk hl hP hK hD hS
  have F : CallFix p m c cX4_pass 11 s args wsX4_pass RX4 := F
  have hl : lv_has ls 11 [(0, .ref (z 0))] := hl
  have hi0 := hI.gates
  have hi1 := hI.geese
  have hi2 := hI.guests
  refine lv_aload_n F.1 F.2.1 dX4_pass_0 rfl (lv_at hl 0 rfl) ?_
  refine k_get (v := .ref (z 2)) F nX4_pass_X4 hK.1.1 hP 0 rfl rfl 4 (by decide) (List.mem_of_getElem? (i := 1) rfl) rfl dX4_pass_1 ?_
  refine lv_astore_n (lv' := [(1, .ref (z 2)), (0, .ref (z 0))]) F.1 F.2.1 dX4_pass_4 rfl hl (by decide) rfl (fun ls hl => ?_)
  refine lv_aload_n F.1 F.2.1 dX4_pass_5 rfl (lv_at hl 0 rfl) ?_
  refine q_alenA F hK hP 2 rfl dX4_pass_6 ?_
  refine lv_istore_n (lv' := [(2, .int (nI (S 0 1))), (1, .ref (z 2)), (0, .ref (z 0))]) F.1 F.2.1 dX4_pass_7 rfl hl (by decide) rfl (fun ls hl => ?_)
  refine lv_iconst (v := nI 0) F.1 F.2.1 dX4_pass_8 (by decide) ?_
  refine lv_istore_n (lv' := [(3, .int (nI 0)), (2, .int (nI (S 0 1))), (1, .ref (z 2)), (0, .ref (z 0))]) F.1 F.2.1 dX4_pass_9 rfl hl (by decide) rfl (fun ls hl => ?_)
  have loop10 : ∀ (n : Nat) (i : Nat), i ≤ S 0 1 → S 0 1 + 1 ≤ i + n → ∀ (H : Heap) (locs : List Loc) (ls : Array Slot), va_P D vwCl (wSi cI cA z (setF S 4 (wakN S i))) H → va_D (va_A (wSi cI cA z S) sz) (wSi cI cA z (setF S 4 (wakN S i))) → va_S (va_A (wSi cI cA z S) sz) s.heap H locs → lv_has ls 11 [(0, .ref (z 0)), (1, .ref (z 2)), (2, .int (nI (S 0 1))), (3, .int (nI i))] → W p l e (rmG 2 8 32 48) s m args below meth c H locs (0) (0) (QGV below args s D 8 32 (wSi cI cA z S) sz (wSi cI cA z (beatS S))) (F0 m 10 ls []) := by
    intro n
    induction n with
    | zero => intro i hi hn; exact absurd hn (by omega)
    | succ n ih10 =>
      intro i hi hn  H locs ls hP hD hS hl
      refine lv_iload_n F.1 F.2.1 dX4_pass_10 rfl (lv_at hl 3 rfl) ?_
      refine lv_iload_n F.1 F.2.1 dX4_pass_11 rfl (lv_at hl 2 rfl) ?_
      refine k_icmp_ge (tgt := 41) F (by omega) (by omega) dX4_pass_12 (by decide) (fun h12 => ?_) (fun h12 => ?_)
      · skip
        refine lv_aload_n F.1 F.2.1 dX4_pass_41 rfl (lv_at hl 0 rfl) ?_
        refine k_get (v := .ref (z 3)) F nX4_pass_X4 hK.1.1 hP 0 rfl rfl 5 (by decide) (List.mem_of_getElem? (i := 2) rfl) rfl dX4_pass_42 ?_
        refine lv_astore_n (lv' := [(1, .ref (z 3)), (0, .ref (z 0)), (2, .int (nI (S 0 1))), (3, .int (nI i))]) F.1 F.2.1 dX4_pass_45 rfl hl (by decide) rfl (fun ls hl => ?_)
        refine lv_aload_n F.1 F.2.1 dX4_pass_46 rfl (lv_at hl 0 rfl) ?_
        refine q_alenA F hK hP 3 rfl dX4_pass_47 ?_
        refine lv_istore_n (lv' := [(2, .int (nI (S 0 2))), (1, .ref (z 3)), (0, .ref (z 0)), (3, .int (nI i))]) F.1 F.2.1 dX4_pass_48 rfl hl (by decide) rfl (fun ls hl => ?_)
        refine lv_iconst (v := nI 0) F.1 F.2.1 dX4_pass_49 (by decide) ?_
        refine lv_istore_n (lv' := [(3, .int (nI 0)), (2, .int (nI (S 0 2))), (1, .ref (z 3)), (0, .ref (z 0))]) F.1 F.2.1 dX4_pass_50 rfl hl (by decide) rfl (fun ls hl => ?_)
        have loop51 : ∀ (n : Nat) (i : Nat), i ≤ S 0 2 → S 0 2 + 1 ≤ i + n → ∀ (ce sl : Nat), ce ≤ i → sl ≤ 4 * i → ∀ (H : Heap) (locs : List Loc) (ls : Array Slot), va_P D vwCl (wSi cI cA z (movN (wakS S) i)) H → va_D (va_A (wSi cI cA z S) sz) (wSi cI cA z (movN (wakS S) i)) → va_S (va_A (wSi cI cA z S) sz) s.heap H locs → lv_has ls 11 [(0, .ref (z 0)), (1, .ref (z 3)), (2, .int (nI (S 0 2))), (3, .int (nI i))] → W p l e (rmG 2 8 32 48) s m args below meth c H locs (ce) (sl) (QGV below args s D 8 32 (wSi cI cA z S) sz (wSi cI cA z (beatS S))) (F0 m 51 ls []) := by
          intro n
          induction n with
          | zero => intro i hi hn; exact absurd hn (by omega)
          | succ n ih51 =>
            intro i hi hn  ce51 sl51 hce51 hsl51 H locs ls hP hD hS hl
            have hJ := inv_movN (inv_wakS hI) i
            have e0 : (movN (wakS S) i) 0 0 = S 0 0 := movN_sc (wakS S) 0 (by omega) i
            have e1 : (movN (wakS S) i) 0 1 = S 0 1 := movN_sc (wakS S) 1 (by omega) i
            have e2 : (movN (wakS S) i) 0 2 = S 0 2 := movN_sc (wakS S) 2 (by omega) i
            have hh9 := hisG_le hJ ((movN (wakS S) i) 7 i) ((movN (wakS S) i) 6 i)
            refine lv_iload_n F.1 F.2.1 dX4_pass_51 rfl (lv_at hl 3 rfl) ?_
            refine lv_iload_n F.1 F.2.1 dX4_pass_52 rfl (lv_at hl 2 rfl) ?_
            refine k_icmp_ge (tgt := 338) F (by omega) (by omega) dX4_pass_53 (by decide) (fun h53 => ?_) (fun h53 => ?_)
            · skip
              refine lv_aload_n F.1 F.2.1 dX4_pass_338 rfl (lv_at hl 0 rfl) ?_
              refine lv_dup F.1 F.2.1 dX4_pass_339 rfl ?_
              refine k_get (v := .int (nI ((movN (wakS S) i) 0 3))) F nX4_pass_X4 hK.1.1 hP 0 rfl rfl 0 (by decide) (List.mem_of_getElem? (i := 4) rfl) rfl dX4_pass_340 ?_
              refine lv_iconst (v := nI 1) F.1 F.2.1 dX4_pass_343 (by decide) ?_
              refine k_iadd F dX4_pass_344 ?_
              refine k_put F nX4_pass_X4 tyX4 tyX4_ok nmX4 hK.1.1 hP hD hS 0 rfl rfl 0 (by decide) (List.mem_of_getElem? (i := 4) rfl) rfl (by decide +kernel) (Nat.le_of_ble_eq_true rfl) dX4_pass_345 (wSi cI cA z (setf (movN (wakS S) i) 0 3 ((movN (wakS S) i) 0 3 + 1))) (wSi_s3 ((movN (wakS S) i) 0 3 + 1)) (fun H locs hP hD hS => ?_)
              exact k_retGV F hr hlk hP (by rw [show i = S 0 2 by omega]; rfl) hS hz (show ce51 ≤ 8 by omega) (show sl51 ≤ 32 by omega) dX4_pass_348
            · skip
              refine lv_aload_n F.1 F.2.1 dX4_pass_56 rfl (lv_at hl 1 rfl) ?_
              refine lv_iload_n F.1 F.2.1 dX4_pass_57 rfl (lv_at hl 3 rfl) ?_
              refine q_aald (v := z (12 + i)) F hK hP 3 rfl (show i < (movN (wakS S) i) 0 2 by omega) (show (movN (wakS S) i) 0 2 < 2 ^ 31 by omega) rfl dX4_pass_58 ?_
              refine lv_astore (lv' := [(4, .ref (z (12 + i))), (0, .ref (z 0)), (1, .ref (z 3)), (2, .int (nI (S 0 2))), (3, .int (nI i))]) F.1 F.2.1 dX4_pass_59 hl (by decide) rfl (fun ls hl => ?_)
              refine lv_aload_n F.1 F.2.1 dX4_pass_61 rfl (lv_at hl 1 rfl) ?_
              refine lv_aload F.1 F.2.1 dX4_pass_62 (lv_at hl 0 rfl) ?_
              refine q_pV (n := 1) (rest := []) (v := bI ((movN (wakS S) i) 0 0 ≤ (movN (wakS S) i) 7 i)) F (c_X4_isIn l D cI cA z (movN (wakS S) i) i hJ (by first | assumption | omega)) gX4_pass_X4_isIn rfl (by decide +kernel) ⟨Nat.le_of_ble_eq_true rfl, Nat.le_of_ble_eq_true rfl⟩ rfl hl.1 rfl (Nat.le_of_ble_eq_true rfl) dX4_pass_64 ⟨show ce51 ≤ 8 by omega, show sl51 ≤ 32 by omega⟩ hK hP hS ap_s (q0 := 0) (ci := 4) rfl rfl (fun H locs hP hS => ?_)
              refine k_ifeq_b (tgt := 73) F dX4_pass_67 (by decide) (fun h67 => ?_) (fun h67 => ?_)
              · skip
                refine lv_aload F.1 F.2.1 dX4_pass_73 (lv_at hl 0 rfl) ?_
                refine lv_iconst (v := nI 4) F.1 F.2.1 dX4_pass_75 (by decide) ?_
                refine q_iald (v := (movN (wakS S) i) 10 i) F hK hP (4 + (movN (wakS S) i) 0 1 + i) (wSi_v (show i < (movN (wakS S) i) 0 2 by omega)) (by decide) (by first | omega | decide) rfl dX4_pass_76 ?_
                have := hJ.back i
                refine k_if_le (tgt := 91) F (by omega) dX4_pass_77 (by decide) (fun h77 => ?_) (fun h77 => ?_)
                · skip
                  refine lv_aload_n F.1 F.2.1 dX4_pass_91 rfl (lv_at hl 1 rfl) ?_
                  refine lv_aload F.1 F.2.1 dX4_pass_92 (lv_at hl 0 rfl) ?_
                  refine q_pV (n := 1) (rest := []) (v := nI (hisG (movN (wakS S) i) ((movN (wakS S) i) 7 i) ((movN (wakS S) i) 6 i))) F (c_X4_hissAt l D cI cA z (movN (wakS S) i) i hJ (by first | assumption | omega)) gX4_pass_X4_hissAt rfl (by decide +kernel) ⟨Nat.le_of_ble_eq_true rfl, Nat.le_of_ble_eq_true rfl⟩ rfl hl.1 rfl (Nat.le_of_ble_eq_true rfl) dX4_pass_94 ⟨show ce51 ≤ 8 by omega, show sl51 ≤ 32 by omega⟩ hK hP hS ap_s (q0 := 0) (ci := 4) rfl rfl (fun H locs hP hS => ?_)
                  refine lv_istore (lv' := [(5, .int (nI (hisG (movN (wakS S) i) ((movN (wakS S) i) 7 i) ((movN (wakS S) i) 6 i)))), (4, .ref (z (12 + i))), (0, .ref (z 0)), (1, .ref (z 3)), (2, .int (nI (S 0 2))), (3, .int (nI i))]) F.1 F.2.1 dX4_pass_97 hl (by decide) rfl (fun ls hl => ?_)
                  refine lv_null F.1 F.2.1 dX4_pass_99 ?_
                  refine lv_astoreN (lv' := [(6, .null), (5, .int (nI (hisG (movN (wakS S) i) ((movN (wakS S) i) 7 i) ((movN (wakS S) i) 6 i)))), (4, .ref (z (12 + i))), (0, .ref (z 0)), (1, .ref (z 3)), (2, .int (nI (S 0 2))), (3, .int (nI i))]) F.1 F.2.1 dX4_pass_100 hl (by decide) rfl (fun ls hl => ?_)
                  refine lv_aload_n F.1 F.2.1 dX4_pass_102 rfl (lv_at hl 3 rfl) ?_
                  refine k_get (v := .ref (z 2)) F nX4_pass_X4 hK.1.1 hP 0 rfl rfl 4 (by decide) (List.mem_of_getElem? (i := 1) rfl) rfl dX4_pass_103 ?_
                  refine lv_astore (lv' := [(7, .ref (z 2)), (6, .null), (5, .int (nI (hisG (movN (wakS S) i) ((movN (wakS S) i) 7 i) ((movN (wakS S) i) 6 i)))), (4, .ref (z (12 + i))), (0, .ref (z 0)), (1, .ref (z 3)), (2, .int (nI (S 0 2))), (3, .int (nI i))]) F.1 F.2.1 dX4_pass_106 hl (by decide) rfl (fun ls hl => ?_)
                  refine lv_aload F.1 F.2.1 dX4_pass_108 (lv_at hl 0 rfl) ?_
                  refine q_alenA F hK hP 2 rfl dX4_pass_110 ?_
                  refine lv_istore (lv' := [(8, .int (nI ((movN (wakS S) i) 0 1))), (7, .ref (z 2)), (6, .null), (5, .int (nI (hisG (movN (wakS S) i) ((movN (wakS S) i) 7 i) ((movN (wakS S) i) 6 i)))), (4, .ref (z (12 + i))), (0, .ref (z 0)), (1, .ref (z 3)), (2, .int (nI (S 0 2))), (3, .int (nI i))]) F.1 F.2.1 dX4_pass_111 hl (by decide) rfl (fun ls hl => ?_)
                  refine lv_iconst (v := nI 0) F.1 F.2.1 dX4_pass_113 (by decide) ?_
                  refine lv_istore (lv' := [(9, .int (nI 0)), (8, .int (nI ((movN (wakS S) i) 0 1))), (7, .ref (z 2)), (6, .null), (5, .int (nI (hisG (movN (wakS S) i) ((movN (wakS S) i) 7 i) ((movN (wakS S) i) 6 i)))), (4, .ref (z (12 + i))), (0, .ref (z 0)), (1, .ref (z 3)), (2, .int (nI (S 0 2))), (3, .int (nI i))]) F.1 F.2.1 dX4_pass_114 hl (by decide) rfl (fun ls hl => ?_)
                  have loop116 : ∀ (n : Nat) (j : Nat), j ≤ S 0 1 → S 0 1 + 1 ≤ j + n → ∀ (H : Heap) (locs : List Loc) (ls : Array Slot), va_P D vwCl (wSi cI cA z (movN (wakS S) i)) H → va_D (va_A (wSi cI cA z S) sz) (wSi cI cA z (movN (wakS S) i)) → va_S (va_A (wSi cI cA z S) sz) s.heap H locs → lv_has ls 11 [(0, .ref (z 0)), (1, .ref (z 3)), (2, .int (nI (S 0 2))), (3, .int (nI i)), (4, .ref (z (12 + i))), (5, .int (nI (hisG (movN (wakS S) i) ((movN (wakS S) i) 7 i) ((movN (wakS S) i) 6 i)))), (6, va_rf (wrF z (frcN (movN (wakS S) i) ((movN (wakS S) i) 7 i) j).1)), (7, .ref (z 2)), (8, .int (nI (S 0 1))), (9, .int (nI j))] → W p l e (rmG 2 8 32 48) s m args below meth c H locs (ce51) (sl51) (QGV below args s D 8 32 (wSi cI cA z S) sz (wSi cI cA z (beatS S))) (F0 m 116 ls []) := by
                    intro n
                    induction n with
                    | zero => intro j hi hn; exact absurd hn (by omega)
                    | succ n ih116 =>
                      intro j hi hn  H locs ls hP hD hS hl
                      refine lv_iload F.1 F.2.1 dX4_pass_116 (lv_at hl 9 rfl) ?_
                      refine lv_iload F.1 F.2.1 dX4_pass_118 (lv_at hl 8 rfl) ?_
                      refine k_icmp_ge (tgt := 174) F (by omega) (by omega) dX4_pass_120 (by decide) (fun h120 => ?_) (fun h120 => ?_)
                      · skip
                        refine lv_iload F.1 F.2.1 dX4_pass_174 (lv_at hl 5 rfl) ?_
                        refine lv_aload F.1 F.2.1 dX4_pass_176 (lv_at hl 4 rfl) ?_
                        refine lv_iconst (v := nI 1) F.1 F.2.1 dX4_pass_178 (by decide) ?_
                        refine q_iald (v := (movN (wakS S) i) 9 i) F hK hP (4 + (movN (wakS S) i) 0 1 + i) (wSi_v (show i < (movN (wakS S) i) 0 2 by omega)) (by decide) (by first | omega | decide) rfl dX4_pass_179 ?_
                        have := hJ.brave i
                        refine k_icmp_gt (tgt := 263) F (by omega) (by omega) dX4_pass_180 (by decide) (fun h180 => ?_) (fun h180 => ?_)
                        · skip
                          refine lv_aload F.1 F.2.1 dX4_pass_263 (lv_at hl 4 rfl) ?_
                          refine lv_iconst (v := nI 2) F.1 F.2.1 dX4_pass_265 (by decide) ?_
                          refine q_iald (v := (movN (wakS S) i) 8 i) F hK hP (4 + (movN (wakS S) i) 0 1 + i) (wSi_v (show i < (movN (wakS S) i) 0 2 by omega)) (by decide) (by first | omega | decide) rfl dX4_pass_266 ?_
                          have := hJ.has i
                          refine k_if_le (tgt := 281) F (by omega) dX4_pass_267 (by decide) (fun h267 => ?_) (fun h267 => ?_)
                          · skip
                            refine lv_aload F.1 F.2.1 dX4_pass_281 (lv_at hl 4 rfl) ?_
                            refine lv_iconst (v := nI 4) F.1 F.2.1 dX4_pass_283 (by decide) ?_
                            refine lv_iload F.1 F.2.1 dX4_pass_284 (lv_at hl 5 rfl) ?_
                            refine x_gS (n := 1) (rest := [.int (nI 4), .ref (z (12 + i))]) (v := nI (grdN (hisG (movN (wakS S) i) ((movN (wakS S) i) 7 i) ((movN (wakS S) i) 6 i)))) F (c_X4_grade l D cI (hisG (movN (wakS S) i) ((movN (wakS S) i) 7 i) ((movN (wakS S) i) 6 i)) (by omega)) gX4_pass_X4_grade rfl (by decide +kernel) ⟨Nat.le_of_ble_eq_true rfl, Nat.le_of_ble_eq_true rfl⟩ rfl hl.1 rfl (Nat.le_of_ble_eq_true rfl) dX4_pass_286 ⟨show ce51 + 1 ≤ 8 by omega, show sl51 + 4 ≤ 32 by omega⟩ hK hP hS (fun q h => Or.inr (by omega)) (fun H locs hP hS => ?_)
                            refine q_iast (k := 4) (x := (grdN (hisG (movN (wakS S) i) ((movN (wakS S) i) 7 i) ((movN (wakS S) i) 6 i)))) F hK hP hD hS (4 + (movN (wakS S) i) 0 1 + i) (wSi_v (show i < (movN (wakS S) i) 0 2 by omega)) (by decide) (by first | omega | decide) dX4_pass_289 (wSi cI cA z (setf (movN (wakS S) i) 10 i (grdN (hisG (movN (wakS S) i) ((movN (wakS S) i) 7 i) ((movN (wakS S) i) 6 i))))) (wSi_sv 4 (grdN (hisG (movN (wakS S) i) ((movN (wakS S) i) 7 i) ((movN (wakS S) i) 6 i))) (show i < (movN (wakS S) i) 0 2 by omega) (by decide)) (fun H locs hP hD hS => ?_)
                            refine lv_aload F.1 F.2.1 dX4_pass_290 (lv_at hl 4 rfl) ?_
                            refine lv_iconst (v := nI 1) F.1 F.2.1 dX4_pass_292 (by decide) ?_
                            refine q_iald (v := (movN (wakS S) i) 9 i) F hK hP (4 + (movN (wakS S) i) 0 1 + i) (wSi_v (show i < (movN (wakS S) i) 0 2 by omega)) (by decide) (by first | omega | decide) rfl dX4_pass_293 ?_
                            have := hJ.brave i
                            refine lv_bipush (v := nI 20) F.1 F.2.1 dX4_pass_294 (by decide) ?_
                            refine k_icmp_ge (tgt := 307) F (by omega) (by omega) dX4_pass_296 (by decide) (fun h296 => ?_) (fun h296 => ?_)
                            · skip
                              refine lv_aload F.1 F.2.1 dX4_pass_307 (lv_at hl 4 rfl) ?_
                              refine lv_iconst (v := nI 3) F.1 F.2.1 dX4_pass_309 (by decide) ?_
                              refine q_iald (v := (movN (wakS S) i) 7 i) F hK hP (4 + (movN (wakS S) i) 0 1 + i) (wSi_v (show i < (movN (wakS S) i) 0 2 by omega)) (by decide) (by first | omega | decide) rfl dX4_pass_310 ?_
                              have := hJ.went i
                              refine k_if_le (tgt := 322) F (by omega) dX4_pass_311 (by decide) (fun h311 => ?_) (fun h311 => ?_)
                              · skip
                                refine lv_aload_n F.1 F.2.1 dX4_pass_322 rfl (lv_at hl 0 rfl) ?_
                                refine lv_dup F.1 F.2.1 dX4_pass_323 rfl ?_
                                refine k_get (v := .int (nI ((movN (wakS S) i) 0 5))) F nX4_pass_X4 hK.1.1 hP 0 rfl rfl 2 (by decide) (List.mem_of_getElem? (i := 3) rfl) rfl dX4_pass_324 ?_
                                refine lv_iconst (v := nI 1) F.1 F.2.1 dX4_pass_327 (by decide) ?_
                                refine k_iadd F dX4_pass_328 ?_
                                refine k_put F nX4_pass_X4 tyX4 tyX4_ok nmX4 hK.1.1 hP hD hS 0 rfl rfl 2 (by decide) (List.mem_of_getElem? (i := 3) rfl) rfl (by decide +kernel) (Nat.le_of_ble_eq_true rfl) dX4_pass_329 (wSi cI cA z (setf (setf (movN (wakS S) i) 10 i (grdN (hisG (movN (wakS S) i) ((movN (wakS S) i) 7 i) ((movN (wakS S) i) 6 i)))) 0 5 ((movN (wakS S) i) 0 5 + 1))) (wSi_s5 ((movN (wakS S) i) 0 5 + 1)) (fun H locs hP hD hS => ?_)
                                refine k_inc (k := 3) (lv' := [(3, .int (nI (i + 1))), (0, .ref (z 0)), (1, .ref (z 3)), (2, .int (nI (S 0 2))), (4, .ref (z (12 + i))), (5, .int (nI (hisG (movN (wakS S) i) ((movN (wakS S) i) 7 i) ((movN (wakS S) i) 6 i)))), (6, va_rf (wrF z (frcN (movN (wakS S) i) ((movN (wakS S) i) 7 i) j).1)), (7, .ref (z 2)), (8, .int (nI (S 0 1))), (9, .int (nI j))]) F dX4_pass_332 hl rfl (by decide) rfl (fun ls hl => ?_)
                                refine lv_goto (tgt := 51) F.1 F.2.1 dX4_pass_335 (by decide) ?_
                                have ew : (wSi cI cA z (setf (setf (movN (wakS S) i) 10 i (grdN (hisG (movN (wakS S) i) ((movN (wakS S) i) 7 i) ((movN (wakS S) i) 6 i)))) 0 5 ((movN (wakS S) i) 0 5 + 1))) = (wSi cI cA z (movN (wakS S) (i + 1))) := congrArg (wSi cI cA z) (Eq.trans (b := fallS (movN (wakS S) i) i (grdN (hisG (movN (wakS S) i) ((movN (wakS S) i) 7 i) ((movN (wakS S) i) 6 i)))) (by unfold fallS; rw [show min 20 ((movN (wakS S) i) 9 i + 1) = (movN (wakS S) i) 9 i by omega, setf_same (setf (movN (wakS S) i) 10 i (grdN (hisG (movN (wakS S) i) ((movN (wakS S) i) 7 i) ((movN (wakS S) i) 6 i)))) 9 i ((movN (wakS S) i) 9 i) rfl, show (movN (wakS S) i) 7 i - 1 = (movN (wakS S) i) 7 i by omega, setf_same (setf (movN (wakS S) i) 10 i (grdN (hisG (movN (wakS S) i) ((movN (wakS S) i) 7 i) ((movN (wakS S) i) 6 i)))) 7 i ((movN (wakS S) i) 7 i) rfl]) ((moveS_f (by omega) (by omega) (by omega)).trans (movN_n h67)))
                                have hP := P_eq ew hP
                                have hD := D_eq ew hD
                                exact ih51 (i + 1) (by omega) (by omega)  (ce51 + 1) (sl51 + 4) (by omega) (by omega) _ _ _ hP hD hS (lv_sub hl [1, 2, 3, 0] rfl)
                              · skip
                                refine lv_aload F.1 F.2.1 dX4_pass_314 (lv_at hl 4 rfl) ?_
                                refine lv_iconst (v := nI 3) F.1 F.2.1 dX4_pass_316 (by decide) ?_
                                refine lv_dup2_11 F.1 F.2.1 dX4_pass_317 rfl rfl ?_
                                refine q_iald (v := (movN (wakS S) i) 7 i) F hK hP (4 + (movN (wakS S) i) 0 1 + i) (wSi_v (show i < (movN (wakS S) i) 0 2 by omega)) (by decide) (by first | omega | decide) rfl dX4_pass_318 ?_
                                have := hJ.went i
                                refine lv_iconst (v := nI 1) F.1 F.2.1 dX4_pass_319 (by decide) ?_
                                refine k_isub F (by omega) dX4_pass_320 ?_
                                refine q_iast (k := 3) (x := ((movN (wakS S) i) 7 i - 1)) F hK hP hD hS (4 + (movN (wakS S) i) 0 1 + i) (wSi_v (show i < (movN (wakS S) i) 0 2 by omega)) (by decide) (by first | omega | decide) dX4_pass_321 (wSi cI cA z (setf (setf (movN (wakS S) i) 10 i (grdN (hisG (movN (wakS S) i) ((movN (wakS S) i) 7 i) ((movN (wakS S) i) 6 i)))) 7 i ((movN (wakS S) i) 7 i - 1))) (wSi_sv 3 ((movN (wakS S) i) 7 i - 1) (show i < (movN (wakS S) i) 0 2 by omega) (by decide)) (fun H locs hP hD hS => ?_)
                                refine lv_aload_n F.1 F.2.1 dX4_pass_322 rfl (lv_at hl 0 rfl) ?_
                                refine lv_dup F.1 F.2.1 dX4_pass_323 rfl ?_
                                refine k_get (v := .int (nI ((movN (wakS S) i) 0 5))) F nX4_pass_X4 hK.1.1 hP 0 rfl rfl 2 (by decide) (List.mem_of_getElem? (i := 3) rfl) rfl dX4_pass_324 ?_
                                refine lv_iconst (v := nI 1) F.1 F.2.1 dX4_pass_327 (by decide) ?_
                                refine k_iadd F dX4_pass_328 ?_
                                refine k_put F nX4_pass_X4 tyX4 tyX4_ok nmX4 hK.1.1 hP hD hS 0 rfl rfl 2 (by decide) (List.mem_of_getElem? (i := 3) rfl) rfl (by decide +kernel) (Nat.le_of_ble_eq_true rfl) dX4_pass_329 (wSi cI cA z (setf (setf (setf (movN (wakS S) i) 10 i (grdN (hisG (movN (wakS S) i) ((movN (wakS S) i) 7 i) ((movN (wakS S) i) 6 i)))) 7 i ((movN (wakS S) i) 7 i - 1)) 0 5 ((movN (wakS S) i) 0 5 + 1))) (wSi_s5 ((movN (wakS S) i) 0 5 + 1)) (fun H locs hP hD hS => ?_)
                                refine k_inc (k := 3) (lv' := [(3, .int (nI (i + 1))), (0, .ref (z 0)), (1, .ref (z 3)), (2, .int (nI (S 0 2))), (4, .ref (z (12 + i))), (5, .int (nI (hisG (movN (wakS S) i) ((movN (wakS S) i) 7 i) ((movN (wakS S) i) 6 i)))), (6, va_rf (wrF z (frcN (movN (wakS S) i) ((movN (wakS S) i) 7 i) j).1)), (7, .ref (z 2)), (8, .int (nI (S 0 1))), (9, .int (nI j))]) F dX4_pass_332 hl rfl (by decide) rfl (fun ls hl => ?_)
                                refine lv_goto (tgt := 51) F.1 F.2.1 dX4_pass_335 (by decide) ?_
                                have ew : (wSi cI cA z (setf (setf (setf (movN (wakS S) i) 10 i (grdN (hisG (movN (wakS S) i) ((movN (wakS S) i) 7 i) ((movN (wakS S) i) 6 i)))) 7 i ((movN (wakS S) i) 7 i - 1)) 0 5 ((movN (wakS S) i) 0 5 + 1))) = (wSi cI cA z (movN (wakS S) (i + 1))) := congrArg (wSi cI cA z) (Eq.trans (b := fallS (movN (wakS S) i) i (grdN (hisG (movN (wakS S) i) ((movN (wakS S) i) 7 i) ((movN (wakS S) i) 6 i)))) (by unfold fallS; rw [show min 20 ((movN (wakS S) i) 9 i + 1) = (movN (wakS S) i) 9 i by omega, setf_same (setf (movN (wakS S) i) 10 i (grdN (hisG (movN (wakS S) i) ((movN (wakS S) i) 7 i) ((movN (wakS S) i) 6 i)))) 9 i ((movN (wakS S) i) 9 i) rfl]) ((moveS_f (by omega) (by omega) (by omega)).trans (movN_n h67)))
                                have hP := P_eq ew hP
                                have hD := D_eq ew hD
                                exact ih51 (i + 1) (by omega) (by omega)  (ce51 + 1) (sl51 + 4) (by omega) (by omega) _ _ _ hP hD hS (lv_sub hl [1, 2, 3, 0] rfl)
                            · skip
                              refine lv_aload F.1 F.2.1 dX4_pass_299 (lv_at hl 4 rfl) ?_
                              refine lv_iconst (v := nI 1) F.1 F.2.1 dX4_pass_301 (by decide) ?_
                              refine lv_dup2_11 F.1 F.2.1 dX4_pass_302 rfl rfl ?_
                              refine q_iald (v := (movN (wakS S) i) 9 i) F hK hP (4 + (movN (wakS S) i) 0 1 + i) (wSi_v (show i < (movN (wakS S) i) 0 2 by omega)) (by decide) (by first | omega | decide) rfl dX4_pass_303 ?_
                              have := hJ.brave i
                              refine lv_iconst (v := nI 1) F.1 F.2.1 dX4_pass_304 (by decide) ?_
                              refine k_iadd F dX4_pass_305 ?_
                              refine q_iast (k := 1) (x := ((movN (wakS S) i) 9 i + 1)) F hK hP hD hS (4 + (movN (wakS S) i) 0 1 + i) (wSi_v (show i < (movN (wakS S) i) 0 2 by omega)) (by decide) (by first | omega | decide) dX4_pass_306 (wSi cI cA z (setf (setf (movN (wakS S) i) 10 i (grdN (hisG (movN (wakS S) i) ((movN (wakS S) i) 7 i) ((movN (wakS S) i) 6 i)))) 9 i ((movN (wakS S) i) 9 i + 1))) (wSi_sv 1 ((movN (wakS S) i) 9 i + 1) (show i < (movN (wakS S) i) 0 2 by omega) (by decide)) (fun H locs hP hD hS => ?_)
                              refine lv_aload F.1 F.2.1 dX4_pass_307 (lv_at hl 4 rfl) ?_
                              refine lv_iconst (v := nI 3) F.1 F.2.1 dX4_pass_309 (by decide) ?_
                              refine q_iald (v := (movN (wakS S) i) 7 i) F hK hP (4 + (movN (wakS S) i) 0 1 + i) (wSi_v (show i < (movN (wakS S) i) 0 2 by omega)) (by decide) (by first | omega | decide) rfl dX4_pass_310 ?_
                              have := hJ.went i
                              refine k_if_le (tgt := 322) F (by omega) dX4_pass_311 (by decide) (fun h311 => ?_) (fun h311 => ?_)
                              · skip
                                refine lv_aload_n F.1 F.2.1 dX4_pass_322 rfl (lv_at hl 0 rfl) ?_
                                refine lv_dup F.1 F.2.1 dX4_pass_323 rfl ?_
                                refine k_get (v := .int (nI ((movN (wakS S) i) 0 5))) F nX4_pass_X4 hK.1.1 hP 0 rfl rfl 2 (by decide) (List.mem_of_getElem? (i := 3) rfl) rfl dX4_pass_324 ?_
                                refine lv_iconst (v := nI 1) F.1 F.2.1 dX4_pass_327 (by decide) ?_
                                refine k_iadd F dX4_pass_328 ?_
                                refine k_put F nX4_pass_X4 tyX4 tyX4_ok nmX4 hK.1.1 hP hD hS 0 rfl rfl 2 (by decide) (List.mem_of_getElem? (i := 3) rfl) rfl (by decide +kernel) (Nat.le_of_ble_eq_true rfl) dX4_pass_329 (wSi cI cA z (setf (setf (setf (movN (wakS S) i) 10 i (grdN (hisG (movN (wakS S) i) ((movN (wakS S) i) 7 i) ((movN (wakS S) i) 6 i)))) 9 i ((movN (wakS S) i) 9 i + 1)) 0 5 ((movN (wakS S) i) 0 5 + 1))) (wSi_s5 ((movN (wakS S) i) 0 5 + 1)) (fun H locs hP hD hS => ?_)
                                refine k_inc (k := 3) (lv' := [(3, .int (nI (i + 1))), (0, .ref (z 0)), (1, .ref (z 3)), (2, .int (nI (S 0 2))), (4, .ref (z (12 + i))), (5, .int (nI (hisG (movN (wakS S) i) ((movN (wakS S) i) 7 i) ((movN (wakS S) i) 6 i)))), (6, va_rf (wrF z (frcN (movN (wakS S) i) ((movN (wakS S) i) 7 i) j).1)), (7, .ref (z 2)), (8, .int (nI (S 0 1))), (9, .int (nI j))]) F dX4_pass_332 hl rfl (by decide) rfl (fun ls hl => ?_)
                                refine lv_goto (tgt := 51) F.1 F.2.1 dX4_pass_335 (by decide) ?_
                                have ew : (wSi cI cA z (setf (setf (setf (movN (wakS S) i) 10 i (grdN (hisG (movN (wakS S) i) ((movN (wakS S) i) 7 i) ((movN (wakS S) i) 6 i)))) 9 i ((movN (wakS S) i) 9 i + 1)) 0 5 ((movN (wakS S) i) 0 5 + 1))) = (wSi cI cA z (movN (wakS S) (i + 1))) := congrArg (wSi cI cA z) (Eq.trans (b := fallS (movN (wakS S) i) i (grdN (hisG (movN (wakS S) i) ((movN (wakS S) i) 7 i) ((movN (wakS S) i) 6 i)))) (by unfold fallS; rw [show min 20 ((movN (wakS S) i) 9 i + 1) = (movN (wakS S) i) 9 i + 1 by omega, show (movN (wakS S) i) 7 i - 1 = (movN (wakS S) i) 7 i by omega, setf_same (setf (setf (movN (wakS S) i) 10 i (grdN (hisG (movN (wakS S) i) ((movN (wakS S) i) 7 i) ((movN (wakS S) i) 6 i)))) 9 i ((movN (wakS S) i) 9 i + 1)) 7 i ((movN (wakS S) i) 7 i) rfl]) ((moveS_f (by omega) (by omega) (by omega)).trans (movN_n h67)))
                                have hP := P_eq ew hP
                                have hD := D_eq ew hD
                                exact ih51 (i + 1) (by omega) (by omega)  (ce51 + 1) (sl51 + 4) (by omega) (by omega) _ _ _ hP hD hS (lv_sub hl [1, 2, 3, 0] rfl)
                              · skip
                                refine lv_aload F.1 F.2.1 dX4_pass_314 (lv_at hl 4 rfl) ?_
                                refine lv_iconst (v := nI 3) F.1 F.2.1 dX4_pass_316 (by decide) ?_
                                refine lv_dup2_11 F.1 F.2.1 dX4_pass_317 rfl rfl ?_
                                refine q_iald (v := (movN (wakS S) i) 7 i) F hK hP (4 + (movN (wakS S) i) 0 1 + i) (wSi_v (show i < (movN (wakS S) i) 0 2 by omega)) (by decide) (by first | omega | decide) rfl dX4_pass_318 ?_
                                have := hJ.went i
                                refine lv_iconst (v := nI 1) F.1 F.2.1 dX4_pass_319 (by decide) ?_
                                refine k_isub F (by omega) dX4_pass_320 ?_
                                refine q_iast (k := 3) (x := ((movN (wakS S) i) 7 i - 1)) F hK hP hD hS (4 + (movN (wakS S) i) 0 1 + i) (wSi_v (show i < (movN (wakS S) i) 0 2 by omega)) (by decide) (by first | omega | decide) dX4_pass_321 (wSi cI cA z (setf (setf (setf (movN (wakS S) i) 10 i (grdN (hisG (movN (wakS S) i) ((movN (wakS S) i) 7 i) ((movN (wakS S) i) 6 i)))) 9 i ((movN (wakS S) i) 9 i + 1)) 7 i ((movN (wakS S) i) 7 i - 1))) (wSi_sv 3 ((movN (wakS S) i) 7 i - 1) (show i < (movN (wakS S) i) 0 2 by omega) (by decide)) (fun H locs hP hD hS => ?_)
                                refine lv_aload_n F.1 F.2.1 dX4_pass_322 rfl (lv_at hl 0 rfl) ?_
                                refine lv_dup F.1 F.2.1 dX4_pass_323 rfl ?_
                                refine k_get (v := .int (nI ((movN (wakS S) i) 0 5))) F nX4_pass_X4 hK.1.1 hP 0 rfl rfl 2 (by decide) (List.mem_of_getElem? (i := 3) rfl) rfl dX4_pass_324 ?_
                                refine lv_iconst (v := nI 1) F.1 F.2.1 dX4_pass_327 (by decide) ?_
                                refine k_iadd F dX4_pass_328 ?_
                                refine k_put F nX4_pass_X4 tyX4 tyX4_ok nmX4 hK.1.1 hP hD hS 0 rfl rfl 2 (by decide) (List.mem_of_getElem? (i := 3) rfl) rfl (by decide +kernel) (Nat.le_of_ble_eq_true rfl) dX4_pass_329 (wSi cI cA z (setf (setf (setf (setf (movN (wakS S) i) 10 i (grdN (hisG (movN (wakS S) i) ((movN (wakS S) i) 7 i) ((movN (wakS S) i) 6 i)))) 9 i ((movN (wakS S) i) 9 i + 1)) 7 i ((movN (wakS S) i) 7 i - 1)) 0 5 ((movN (wakS S) i) 0 5 + 1))) (wSi_s5 ((movN (wakS S) i) 0 5 + 1)) (fun H locs hP hD hS => ?_)
                                refine k_inc (k := 3) (lv' := [(3, .int (nI (i + 1))), (0, .ref (z 0)), (1, .ref (z 3)), (2, .int (nI (S 0 2))), (4, .ref (z (12 + i))), (5, .int (nI (hisG (movN (wakS S) i) ((movN (wakS S) i) 7 i) ((movN (wakS S) i) 6 i)))), (6, va_rf (wrF z (frcN (movN (wakS S) i) ((movN (wakS S) i) 7 i) j).1)), (7, .ref (z 2)), (8, .int (nI (S 0 1))), (9, .int (nI j))]) F dX4_pass_332 hl rfl (by decide) rfl (fun ls hl => ?_)
                                refine lv_goto (tgt := 51) F.1 F.2.1 dX4_pass_335 (by decide) ?_
                                have ew : (wSi cI cA z (setf (setf (setf (setf (movN (wakS S) i) 10 i (grdN (hisG (movN (wakS S) i) ((movN (wakS S) i) 7 i) ((movN (wakS S) i) 6 i)))) 9 i ((movN (wakS S) i) 9 i + 1)) 7 i ((movN (wakS S) i) 7 i - 1)) 0 5 ((movN (wakS S) i) 0 5 + 1))) = (wSi cI cA z (movN (wakS S) (i + 1))) := congrArg (wSi cI cA z) (Eq.trans (b := fallS (movN (wakS S) i) i (grdN (hisG (movN (wakS S) i) ((movN (wakS S) i) 7 i) ((movN (wakS S) i) 6 i)))) (by unfold fallS; rw [show min 20 ((movN (wakS S) i) 9 i + 1) = (movN (wakS S) i) 9 i + 1 by omega]) ((moveS_f (by omega) (by omega) (by omega)).trans (movN_n h67)))
                                have hP := P_eq ew hP
                                have hD := D_eq ew hD
                                exact ih51 (i + 1) (by omega) (by omega)  (ce51 + 1) (sl51 + 4) (by omega) (by omega) _ _ _ hP hD hS (lv_sub hl [1, 2, 3, 0] rfl)
                          · skip
                            have ej : j = (movN (wakS S) i) 0 1 := by omega
                            subst ej
                            obtain ⟨k, hk1, hk2, hk3, hk4⟩ := frc_get hJ (t := (movN (wakS S) i) 7 i) (r := (movN (wakS S) i) 6 i) (by omega)
                            have hk5 := hJ.mood1 k hk2
                            rw [wrF_s hk1] at hl
                            refine lv_aload_n F.1 F.2.1 dX4_pass_270 rfl (lv_at hl 0 rfl) ?_
                            refine lv_aload F.1 F.2.1 dX4_pass_271 (lv_at hl 4 rfl) ?_
                            refine lv_aload F.1 F.2.1 dX4_pass_273 (lv_at hl 6 rfl) ?_
                            refine q_gV (n := 2) (rest := []) F (c_X4_feed l D cI cA z (movN (wakS S) i) i k hJ (by first | assumption | omega) (by first | assumption | omega) (by first | assumption | omega) (by first | assumption | omega)) gX4_pass_X4_feed rfl (by decide +kernel) ⟨Nat.le_of_ble_eq_true rfl, Nat.le_of_ble_eq_true rfl⟩ rfl hl.1 rfl (Nat.le_of_ble_eq_true rfl) dX4_pass_275 ⟨show ce51 ≤ 8 by omega, show sl51 ≤ 32 by omega⟩ hK hP hD hS (fun q h => Or.inr (by omega)) ap_s (wSi_ad rfl rfl) (wSi_lneq rfl rfl) (wSi cI cA z (payS (movN (wakS S) i) i k)) (List.append_nil _) (q0 := 0) (ci := 4) rfl rfl (fun H locs hP hD hS => ?_)
                            refine lv_goto (tgt := 332) F.1 F.2.1 dX4_pass_278 (by decide) ?_
                            refine k_inc (k := 3) (lv' := [(3, .int (nI (i + 1))), (0, .ref (z 0)), (1, .ref (z 3)), (2, .int (nI (S 0 2))), (4, .ref (z (12 + i))), (5, .int (nI (hisG (movN (wakS S) i) ((movN (wakS S) i) 7 i) ((movN (wakS S) i) 6 i)))), (6, .ref (z (4 + k))), (7, .ref (z 2)), (8, .int (nI (S 0 1))), (9, .int (nI ((movN (wakS S) i) 0 1)))]) F dX4_pass_332 hl rfl (by decide) rfl (fun ls hl => ?_)
                            refine lv_goto (tgt := 51) F.1 F.2.1 dX4_pass_335 (by decide) ?_
                            have ew : (wSi cI cA z (payS (movN (wakS S) i) i k)) = (wSi cI cA z (movN (wakS S) (i + 1))) := congrArg (wSi cI cA z) ((moveS_p (by omega) (by omega) (by omega) hk1).trans (movN_n h67))
                            have hP := P_eq ew hP
                            have hD := D_eq ew hD
                            exact ih51 (i + 1) (by omega) (by omega)  (ce51 + 0) (sl51 + 0) (by omega) (by omega) _ _ _ hP hD hS (lv_sub hl [1, 2, 3, 0] rfl)
                        · skip
                          have hl : lv_has ls 11 [(0, .ref (z 0)), (1, .ref (z 3)), (2, .int (nI (S 0 2))), (3, .int (nI i)), (4, .ref (z (12 + i))), (5, .int (nI (hisG (movN (wakS S) i) ((movN (wakS S) i) 7 i) ((movN (wakS S) i) 6 i)))), (7, .ref (z 2)), (8, .int (nI (S 0 1))), (9, .int (nI j))] := lv_sub hl [0, 1, 2, 3, 4, 5, 7, 8, 9] rfl
                          refine lv_aload_n F.1 F.2.1 dX4_pass_183 rfl (lv_at hl 0 rfl) ?_
                          refine k_get (v := .ref (z 2)) F nX4_pass_X4 hK.1.1 hP 0 rfl rfl 4 (by decide) (List.mem_of_getElem? (i := 1) rfl) rfl dX4_pass_184 ?_
                          refine lv_astore (lv' := [(7, .ref (z 2)), (0, .ref (z 0)), (1, .ref (z 3)), (2, .int (nI (S 0 2))), (3, .int (nI i)), (4, .ref (z (12 + i))), (5, .int (nI (hisG (movN (wakS S) i) ((movN (wakS S) i) 7 i) ((movN (wakS S) i) 6 i)))), (8, .int (nI (S 0 1))), (9, .int (nI j))]) F.1 F.2.1 dX4_pass_187 hl (by decide) rfl (fun ls hl => ?_)
                          refine lv_aload F.1 F.2.1 dX4_pass_189 (lv_at hl 0 rfl) ?_
                          refine q_alenA F hK hP 2 rfl dX4_pass_191 ?_
                          refine lv_istore (lv' := [(8, .int (nI ((movN (wakS S) i) 0 1))), (7, .ref (z 2)), (0, .ref (z 0)), (1, .ref (z 3)), (2, .int (nI (S 0 2))), (3, .int (nI i)), (4, .ref (z (12 + i))), (5, .int (nI (hisG (movN (wakS S) i) ((movN (wakS S) i) 7 i) ((movN (wakS S) i) 6 i)))), (9, .int (nI j))]) F.1 F.2.1 dX4_pass_192 hl (by decide) rfl (fun ls hl => ?_)
                          refine lv_iconst (v := nI 0) F.1 F.2.1 dX4_pass_194 (by decide) ?_
                          refine lv_istore (lv' := [(9, .int (nI 0)), (8, .int (nI ((movN (wakS S) i) 0 1))), (7, .ref (z 2)), (0, .ref (z 0)), (1, .ref (z 3)), (2, .int (nI (S 0 2))), (3, .int (nI i)), (4, .ref (z (12 + i))), (5, .int (nI (hisG (movN (wakS S) i) ((movN (wakS S) i) 7 i) ((movN (wakS S) i) 6 i))))]) F.1 F.2.1 dX4_pass_195 hl (by decide) rfl (fun ls hl => ?_)
                          have loop197 : ∀ (n : Nat) (q : Nat), q ≤ S 0 1 → S 0 1 + 1 ≤ q + n → ∀ (H : Heap) (locs : List Loc) (ls : Array Slot), va_P D vwCl (wSi cI cA z (setF (movN (wakS S) i) 3 (enrN (movN (wakS S) i) ((movN (wakS S) i) 7 i) q))) H → va_D (va_A (wSi cI cA z S) sz) (wSi cI cA z (setF (movN (wakS S) i) 3 (enrN (movN (wakS S) i) ((movN (wakS S) i) 7 i) q))) → va_S (va_A (wSi cI cA z S) sz) s.heap H locs → lv_has ls 11 [(0, .ref (z 0)), (1, .ref (z 3)), (2, .int (nI (S 0 2))), (3, .int (nI i)), (4, .ref (z (12 + i))), (7, .ref (z 2)), (8, .int (nI (S 0 1))), (9, .int (nI q))] → W p l e (rmG 2 8 32 48) s m args below meth c H locs (ce51) (sl51) (QGV below args s D 8 32 (wSi cI cA z S) sz (wSi cI cA z (beatS S))) (F0 m 197 ls []) := by
                            intro n
                            induction n with
                            | zero => intro q hi hn; exact absurd hn (by omega)
                            | succ n ih197 =>
                              intro q hi hn  H locs ls hP hD hS hl
                              refine lv_iload F.1 F.2.1 dX4_pass_197 (lv_at hl 7 rfl) ?_
                              refine lv_iload F.1 F.2.1 dX4_pass_199 (lv_at hl 6 rfl) ?_
                              refine k_icmp_ge (tgt := 252) F (by omega) (by omega) dX4_pass_201 (by decide) (fun h201 => ?_) (fun h201 => ?_)
                              · skip
                                refine lv_aload F.1 F.2.1 dX4_pass_252 (lv_at hl 4 rfl) ?_
                                refine lv_iconst (v := nI 3) F.1 F.2.1 dX4_pass_254 (by decide) ?_
                                refine lv_dup2_11 F.1 F.2.1 dX4_pass_255 rfl rfl ?_
                                refine q_iald (v := (movN (wakS S) i) 7 i) F hK hP (4 + (movN (wakS S) i) 0 1 + i) (wSi_v (show i < (movN (wakS S) i) 0 2 by omega)) (by decide) (by first | omega | decide) rfl dX4_pass_256 ?_
                                have := hJ.went i
                                refine lv_iconst (v := nI 1) F.1 F.2.1 dX4_pass_257 (by decide) ?_
                                refine k_iadd F dX4_pass_258 ?_
                                refine q_iast (k := 3) (x := ((movN (wakS S) i) 7 i + 1)) F hK hP hD hS (4 + (movN (wakS S) i) 0 1 + i) (wSi_v (show i < (movN (wakS S) i) 0 2 by omega)) (by decide) (by first | omega | decide) dX4_pass_259 (wSi cI cA z (setf (setF (movN (wakS S) i) 3 (enrN (movN (wakS S) i) ((movN (wakS S) i) 7 i) q)) 7 i ((movN (wakS S) i) 7 i + 1))) (wSi_sv 3 ((movN (wakS S) i) 7 i + 1) (show i < (movN (wakS S) i) 0 2 by omega) (by decide)) (fun H locs hP hD hS => ?_)
                                refine lv_goto (tgt := 332) F.1 F.2.1 dX4_pass_260 (by decide) ?_
                                refine k_inc (k := 3) (lv' := [(3, .int (nI (i + 1))), (0, .ref (z 0)), (1, .ref (z 3)), (2, .int (nI (S 0 2))), (4, .ref (z (12 + i))), (7, .ref (z 2)), (8, .int (nI (S 0 1))), (9, .int (nI q))]) F dX4_pass_332 hl rfl (by decide) rfl (fun ls hl => ?_)
                                refine lv_goto (tgt := 51) F.1 F.2.1 dX4_pass_335 (by decide) ?_
                                have ew : (wSi cI cA z (setf (setF (movN (wakS S) i) 3 (enrN (movN (wakS S) i) ((movN (wakS S) i) 7 i) q)) 7 i ((movN (wakS S) i) 7 i + 1))) = (wSi cI cA z (movN (wakS S) (i + 1))) := congrArg (wSi cI cA z) (by rw [show q = (movN (wakS S) i) 0 1 by omega, goS_c]; exact (moveS_d (by omega) (by omega)).trans (movN_n h67))
                                have hP := P_eq ew hP
                                have hD := D_eq ew hD
                                exact ih51 (i + 1) (by omega) (by omega)  (ce51) (sl51) (by omega) (by omega) _ _ _ hP hD hS (lv_sub hl [1, 2, 3, 0] rfl)
                              · skip
                                refine lv_aload F.1 F.2.1 dX4_pass_204 (lv_at hl 5 rfl) ?_
                                refine lv_iload F.1 F.2.1 dX4_pass_206 (lv_at hl 7 rfl) ?_
                                refine q_aald (v := z (4 + q)) F hK hP 2 rfl (show q < (movN (wakS S) i) 0 1 by omega) (show (movN (wakS S) i) 0 1 < 2 ^ 31 by omega) rfl dX4_pass_208 ?_
                                refine lv_astore (lv' := [(10, .ref (z (4 + q))), (0, .ref (z 0)), (1, .ref (z 3)), (2, .int (nI (S 0 2))), (3, .int (nI i)), (4, .ref (z (12 + i))), (7, .ref (z 2)), (8, .int (nI (S 0 1))), (9, .int (nI q))]) F.1 F.2.1 dX4_pass_209 hl (by decide) rfl (fun ls hl => ?_)
                                refine lv_aload F.1 F.2.1 dX4_pass_211 (lv_at hl 0 rfl) ?_
                                refine lv_iconst (v := nI 0) F.1 F.2.1 dX4_pass_213 (by decide) ?_
                                refine q_iald (v := (movN (wakS S) i) 2 q) F hK hP (4 + q) (wSi_g (show q < (movN (wakS S) i) 0 1 by omega)) (by decide) (by first | omega | decide) rfl dX4_pass_214 ?_
                                have := hJ.keep q
                                refine lv_aload F.1 F.2.1 dX4_pass_215 (lv_at hl 5 rfl) ?_
                                refine lv_iconst (v := nI 3) F.1 F.2.1 dX4_pass_217 (by decide) ?_
                                refine q_iald (v := (movN (wakS S) i) 7 i) F hK hP (4 + (movN (wakS S) i) 0 1 + i) (wSi_v (show i < (movN (wakS S) i) 0 2 by omega)) (by decide) (by first | omega | decide) rfl dX4_pass_218 ?_
                                have := hJ.went i
                                refine k_icmp_ne (tgt := 246) F (by omega) (by omega) dX4_pass_219 (by decide) (fun h219 => ?_) (fun h219 => ?_)
                                · skip
                                  refine k_inc (k := 8) (lv' := [(9, .int (nI (q + 1))), (10, .ref (z (4 + q))), (0, .ref (z 0)), (1, .ref (z 3)), (2, .int (nI (S 0 2))), (3, .int (nI i)), (4, .ref (z (12 + i))), (7, .ref (z 2)), (8, .int (nI (S 0 1)))]) F dX4_pass_246 hl rfl (by decide) rfl (fun ls hl => ?_)
                                  refine lv_goto (tgt := 197) F.1 F.2.1 dX4_pass_249 (by decide) ?_
                                  have ew : (wSi cI cA z (setF (movN (wakS S) i) 3 (enrN (movN (wakS S) i) ((movN (wakS S) i) 7 i) q))) = (wSi cI cA z (setF (movN (wakS S) i) 3 (enrN (movN (wakS S) i) ((movN (wakS S) i) 7 i) (q + 1)))) := by rw [enrN_n (fun x => h219 x.1)]
                                  have hP := P_eq ew hP
                                  have hD := D_eq ew hD
                                  exact ih197 (q + 1) (by omega) (by omega)  _ _ _ hP hD hS (lv_sub hl [2, 3, 4, 5, 6, 7, 8, 0] rfl)
                                · skip
                                  refine lv_aload F.1 F.2.1 dX4_pass_222 (lv_at hl 0 rfl) ?_
                                  refine lv_iconst (v := nI 2) F.1 F.2.1 dX4_pass_224 (by decide) ?_
                                  refine q_iald (v := (movN (wakS S) i) 4 q) F hK hP (4 + q) (wSi_g (show q < (movN (wakS S) i) 0 1 by omega)) (by decide) (by first | omega | decide) rfl dX4_pass_225 ?_
                                  have := hJ.rest q
                                  refine k_if_ne (tgt := 246) F (by omega) dX4_pass_226 (by decide) (fun h226 => ?_) (fun h226 => ?_)
                                  · skip
                                    refine k_inc (k := 8) (lv' := [(9, .int (nI (q + 1))), (10, .ref (z (4 + q))), (0, .ref (z 0)), (1, .ref (z 3)), (2, .int (nI (S 0 2))), (3, .int (nI i)), (4, .ref (z (12 + i))), (7, .ref (z 2)), (8, .int (nI (S 0 1)))]) F dX4_pass_246 hl rfl (by decide) rfl (fun ls hl => ?_)
                                    refine lv_goto (tgt := 197) F.1 F.2.1 dX4_pass_249 (by decide) ?_
                                    have ew : (wSi cI cA z (setF (movN (wakS S) i) 3 (enrN (movN (wakS S) i) ((movN (wakS S) i) 7 i) q))) = (wSi cI cA z (setF (movN (wakS S) i) 3 (enrN (movN (wakS S) i) ((movN (wakS S) i) 7 i) (q + 1)))) := by rw [enrN_n (fun x => h226 x.2)]
                                    have hP := P_eq ew hP
                                    have hD := D_eq ew hD
                                    exact ih197 (q + 1) (by omega) (by omega)  _ _ _ hP hD hS (lv_sub hl [2, 3, 4, 5, 6, 7, 8, 0] rfl)
                                  · skip
                                    refine lv_aload F.1 F.2.1 dX4_pass_229 (lv_at hl 0 rfl) ?_
                                    refine lv_iconst (v := nI 1) F.1 F.2.1 dX4_pass_231 (by decide) ?_
                                    refine q_iald (v := (enrN (movN (wakS S) i) ((movN (wakS S) i) 7 i) q) q) F hK hP (4 + q) (wSi_g (show q < (movN (wakS S) i) 0 1 by omega)) (by decide) (by first | omega | decide) rfl dX4_pass_232 ?_
                                    have hv9 : (enrN (movN (wakS S) i) ((movN (wakS S) i) 7 i) q) q = (movN (wakS S) i) 3 q ∧ (movN (wakS S) i) 3 q ≤ 9 := ⟨enrN_at _ _ _, hJ.mood q⟩
                                    refine lv_bipush (v := nI 9) F.1 F.2.1 dX4_pass_233 (by decide) ?_
                                    refine k_icmp_ge (tgt := 246) F (by omega) (by omega) dX4_pass_235 (by decide) (fun h235 => ?_) (fun h235 => ?_)
                                    · skip
                                      refine k_inc (k := 8) (lv' := [(9, .int (nI (q + 1))), (10, .ref (z (4 + q))), (0, .ref (z 0)), (1, .ref (z 3)), (2, .int (nI (S 0 2))), (3, .int (nI i)), (4, .ref (z (12 + i))), (7, .ref (z 2)), (8, .int (nI (S 0 1)))]) F dX4_pass_246 hl rfl (by decide) rfl (fun ls hl => ?_)
                                      refine lv_goto (tgt := 197) F.1 F.2.1 dX4_pass_249 (by decide) ?_
                                      have ew : (wSi cI cA z (setF (movN (wakS S) i) 3 (enrN (movN (wakS S) i) ((movN (wakS S) i) 7 i) q))) = (wSi cI cA z (setF (movN (wakS S) i) 3 (enrN (movN (wakS S) i) ((movN (wakS S) i) 7 i) (q + 1)))) := by rw [enrN_9 ⟨h219, h226⟩ (by omega)]
                                      have hP := P_eq ew hP
                                      have hD := D_eq ew hD
                                      exact ih197 (q + 1) (by omega) (by omega)  _ _ _ hP hD hS (lv_sub hl [2, 3, 4, 5, 6, 7, 8, 0] rfl)
                                    · skip
                                      refine lv_aload F.1 F.2.1 dX4_pass_238 (lv_at hl 0 rfl) ?_
                                      refine lv_iconst (v := nI 1) F.1 F.2.1 dX4_pass_240 (by decide) ?_
                                      refine lv_dup2_11 F.1 F.2.1 dX4_pass_241 rfl rfl ?_
                                      refine q_iald (v := (enrN (movN (wakS S) i) ((movN (wakS S) i) 7 i) q) q) F hK hP (4 + q) (wSi_g (show q < (movN (wakS S) i) 0 1 by omega)) (by decide) (by first | omega | decide) rfl dX4_pass_242 ?_
                                      have hv9 : (enrN (movN (wakS S) i) ((movN (wakS S) i) 7 i) q) q = (movN (wakS S) i) 3 q ∧ (movN (wakS S) i) 3 q ≤ 9 := ⟨enrN_at _ _ _, hJ.mood q⟩
                                      refine lv_iconst (v := nI 1) F.1 F.2.1 dX4_pass_243 (by decide) ?_
                                      refine k_iadd F dX4_pass_244 ?_
                                      refine q_iast (k := 1) (x := ((enrN (movN (wakS S) i) ((movN (wakS S) i) 7 i) q) q + 1)) F hK hP hD hS (4 + q) (wSi_g (show q < (movN (wakS S) i) 0 1 by omega)) (by decide) (by first | omega | decide) dX4_pass_245 (wSi cI cA z (setf (setF (movN (wakS S) i) 3 (enrN (movN (wakS S) i) ((movN (wakS S) i) 7 i) q)) 3 q ((enrN (movN (wakS S) i) ((movN (wakS S) i) 7 i) q) q + 1))) (wSi_sg 1 ((enrN (movN (wakS S) i) ((movN (wakS S) i) 7 i) q) q + 1) (show q < (movN (wakS S) i) 0 1 by omega) (by decide)) (fun H locs hP hD hS => ?_)
                                      refine k_inc (k := 8) (lv' := [(9, .int (nI (q + 1))), (10, .ref (z (4 + q))), (0, .ref (z 0)), (1, .ref (z 3)), (2, .int (nI (S 0 2))), (3, .int (nI i)), (4, .ref (z (12 + i))), (7, .ref (z 2)), (8, .int (nI (S 0 1)))]) F dX4_pass_246 hl rfl (by decide) rfl (fun ls hl => ?_)
                                      refine lv_goto (tgt := 197) F.1 F.2.1 dX4_pass_249 (by decide) ?_
                                      have ew : (wSi cI cA z (setf (setF (movN (wakS S) i) 3 (enrN (movN (wakS S) i) ((movN (wakS S) i) 7 i) q)) 3 q ((enrN (movN (wakS S) i) ((movN (wakS S) i) 7 i) q) q + 1))) = (wSi cI cA z (setF (movN (wakS S) i) 3 (enrN (movN (wakS S) i) ((movN (wakS S) i) 7 i) (q + 1)))) := by rw [enrN_at, show (movN (wakS S) i) 3 q + 1 = min 9 ((movN (wakS S) i) 3 q + 1) by omega, enrN_y ⟨h219, h226⟩]
                                      have hP := P_eq ew hP
                                      have hD := D_eq ew hD
                                      exact ih197 (q + 1) (by omega) (by omega)  _ _ _ hP hD hS (lv_sub hl [2, 3, 4, 5, 6, 7, 8, 0] rfl)
                          have e_1 : (movN (wakS S) i) 0 1 = S 0 1 := by first | rfl | omega | (simp [*]; done)
                          rw [e_1] at hl
                          have ew : (wSi cI cA z (movN (wakS S) i)) = (wSi cI cA z (setF (movN (wakS S) i) 3 (enrN (movN (wakS S) i) ((movN (wakS S) i) 7 i) 0))) := by rw [enrN_0]
                          have hP := P_eq ew hP
                          have hD := D_eq ew hD
                          exact loop197 ((S 0 1) + 1) 0 (by omega) (by omega)  _ _ _ hP hD hS (lv_sub hl [3, 4, 5, 6, 7, 2, 1, 0] rfl)
                      · skip
                        refine lv_aload F.1 F.2.1 dX4_pass_123 (lv_at hl 7 rfl) ?_
                        refine lv_iload F.1 F.2.1 dX4_pass_125 (lv_at hl 9 rfl) ?_
                        refine q_aald (v := z (4 + j)) F hK hP 2 rfl (show j < (movN (wakS S) i) 0 1 by omega) (show (movN (wakS S) i) 0 1 < 2 ^ 31 by omega) rfl dX4_pass_127 ?_
                        refine lv_astore (lv' := [(10, .ref (z (4 + j))), (0, .ref (z 0)), (1, .ref (z 3)), (2, .int (nI (S 0 2))), (3, .int (nI i)), (4, .ref (z (12 + i))), (5, .int (nI (hisG (movN (wakS S) i) ((movN (wakS S) i) 7 i) ((movN (wakS S) i) 6 i)))), (6, va_rf (wrF z (frcN (movN (wakS S) i) ((movN (wakS S) i) 7 i) j).1)), (7, .ref (z 2)), (8, .int (nI (S 0 1))), (9, .int (nI j))]) F.1 F.2.1 dX4_pass_128 hl (by decide) rfl (fun ls hl => ?_)
                        refine lv_aload F.1 F.2.1 dX4_pass_130 (lv_at hl 0 rfl) ?_
                        refine lv_iconst (v := nI 0) F.1 F.2.1 dX4_pass_132 (by decide) ?_
                        refine q_iald (v := (movN (wakS S) i) 2 j) F hK hP (4 + j) (wSi_g (show j < (movN (wakS S) i) 0 1 by omega)) (by decide) (by first | omega | decide) rfl dX4_pass_133 ?_
                        have := hJ.keep j
                        refine lv_aload F.1 F.2.1 dX4_pass_134 (lv_at hl 5 rfl) ?_
                        refine lv_iconst (v := nI 3) F.1 F.2.1 dX4_pass_136 (by decide) ?_
                        refine q_iald (v := (movN (wakS S) i) 7 i) F hK hP (4 + (movN (wakS S) i) 0 1 + i) (wSi_v (show i < (movN (wakS S) i) 0 2 by omega)) (by decide) (by first | omega | decide) rfl dX4_pass_137 ?_
                        have := hJ.went i
                        refine k_icmp_ne (tgt := 168) F (by omega) (by omega) dX4_pass_138 (by decide) (fun h138 => ?_) (fun h138 => ?_)
                        · skip
                          refine k_inc (k := 10) (lv' := [(9, .int (nI (j + 1))), (10, .ref (z (4 + j))), (0, .ref (z 0)), (1, .ref (z 3)), (2, .int (nI (S 0 2))), (3, .int (nI i)), (4, .ref (z (12 + i))), (5, .int (nI (hisG (movN (wakS S) i) ((movN (wakS S) i) 7 i) ((movN (wakS S) i) 6 i)))), (6, va_rf (wrF z (frcN (movN (wakS S) i) ((movN (wakS S) i) 7 i) j).1)), (7, .ref (z 2)), (8, .int (nI (S 0 1)))]) F dX4_pass_168 hl rfl (by decide) rfl (fun ls hl => ?_)
                          refine lv_goto (tgt := 116) F.1 F.2.1 dX4_pass_171 (by decide) ?_
                          have e_2 : (va_rf (wrF z (frcN (movN (wakS S) i) ((movN (wakS S) i) 7 i) j).1) : Value) = va_rf (wrF z (frcN (movN (wakS S) i) ((movN (wakS S) i) 7 i) (j + 1)).1) := by rw [(show (frcN (movN (wakS S) i) ((movN (wakS S) i) 7 i) (j + 1)) = if awk (movN (wakS S) i) j ((movN (wakS S) i) 7 i) ∧ (frcN (movN (wakS S) i) ((movN (wakS S) i) 7 i) j).2 < (movN (wakS S) i) 3 j then (j + 1, (movN (wakS S) i) 3 j) else (frcN (movN (wakS S) i) ((movN (wakS S) i) 7 i) j) from rfl), if_neg (fun x => h138 x.1.1)]
                          rw [e_2] at hl
                          exact ih116 (j + 1) (by omega) (by omega)  _ _ _ hP hD hS (lv_sub hl [2, 3, 4, 5, 6, 7, 8, 9, 10, 0] rfl)
                        · skip
                          refine lv_aload F.1 F.2.1 dX4_pass_141 (lv_at hl 0 rfl) ?_
                          refine lv_iconst (v := nI 2) F.1 F.2.1 dX4_pass_143 (by decide) ?_
                          refine q_iald (v := (movN (wakS S) i) 4 j) F hK hP (4 + j) (wSi_g (show j < (movN (wakS S) i) 0 1 by omega)) (by decide) (by first | omega | decide) rfl dX4_pass_144 ?_
                          have := hJ.rest j
                          refine k_if_ne (tgt := 168) F (by omega) dX4_pass_145 (by decide) (fun h145 => ?_) (fun h145 => ?_)
                          · skip
                            refine k_inc (k := 10) (lv' := [(9, .int (nI (j + 1))), (10, .ref (z (4 + j))), (0, .ref (z 0)), (1, .ref (z 3)), (2, .int (nI (S 0 2))), (3, .int (nI i)), (4, .ref (z (12 + i))), (5, .int (nI (hisG (movN (wakS S) i) ((movN (wakS S) i) 7 i) ((movN (wakS S) i) 6 i)))), (6, va_rf (wrF z (frcN (movN (wakS S) i) ((movN (wakS S) i) 7 i) j).1)), (7, .ref (z 2)), (8, .int (nI (S 0 1)))]) F dX4_pass_168 hl rfl (by decide) rfl (fun ls hl => ?_)
                            refine lv_goto (tgt := 116) F.1 F.2.1 dX4_pass_171 (by decide) ?_
                            have e_3 : (va_rf (wrF z (frcN (movN (wakS S) i) ((movN (wakS S) i) 7 i) j).1) : Value) = va_rf (wrF z (frcN (movN (wakS S) i) ((movN (wakS S) i) 7 i) (j + 1)).1) := by rw [(show (frcN (movN (wakS S) i) ((movN (wakS S) i) 7 i) (j + 1)) = if awk (movN (wakS S) i) j ((movN (wakS S) i) 7 i) ∧ (frcN (movN (wakS S) i) ((movN (wakS S) i) 7 i) j).2 < (movN (wakS S) i) 3 j then (j + 1, (movN (wakS S) i) 3 j) else (frcN (movN (wakS S) i) ((movN (wakS S) i) 7 i) j) from rfl), if_neg (fun x => h145 x.1.2)]
                            rw [e_3] at hl
                            exact ih116 (j + 1) (by omega) (by omega)  _ _ _ hP hD hS (lv_sub hl [2, 3, 4, 5, 6, 7, 8, 9, 10, 0] rfl)
                          · skip
                            have hm9 := hJ.mood1 j (by omega)
                            rcases nz_or (frcN (movN (wakS S) i) ((movN (wakS S) i) 7 i) j).1 with hb9 | ⟨b9, hb9⟩
                            · skip
                              rw [wrF_0 hb9] at hl
                              refine lv_aloadN F.1 F.2.1 dX4_pass_148 (lv_at hl 7 rfl) ?_
                              refine lv_ifnullN (tgt := 164) F.1 F.2.1 dX4_pass_150 (by decide) ?_
                              refine lv_aload F.1 F.2.1 dX4_pass_164 (lv_at hl 0 rfl) ?_
                              refine lv_astore (lv' := [(6, .ref (z (4 + j))), (10, .ref (z (4 + j))), (0, .ref (z 0)), (1, .ref (z 3)), (2, .int (nI (S 0 2))), (3, .int (nI i)), (4, .ref (z (12 + i))), (5, .int (nI (hisG (movN (wakS S) i) ((movN (wakS S) i) 7 i) ((movN (wakS S) i) 6 i)))), (7, .ref (z 2)), (8, .int (nI (S 0 1))), (9, .int (nI j))]) F.1 F.2.1 dX4_pass_166 hl (by decide) rfl (fun ls hl => ?_)
                              refine k_inc (k := 10) (lv' := [(9, .int (nI (j + 1))), (6, .ref (z (4 + j))), (10, .ref (z (4 + j))), (0, .ref (z 0)), (1, .ref (z 3)), (2, .int (nI (S 0 2))), (3, .int (nI i)), (4, .ref (z (12 + i))), (5, .int (nI (hisG (movN (wakS S) i) ((movN (wakS S) i) 7 i) ((movN (wakS S) i) 6 i)))), (7, .ref (z 2)), (8, .int (nI (S 0 1)))]) F dX4_pass_168 hl rfl (by decide) rfl (fun ls hl => ?_)
                              refine lv_goto (tgt := 116) F.1 F.2.1 dX4_pass_171 (by decide) ?_
                              have e_4 : (.ref (z (4 + j)) : Value) = va_rf (wrF z (frcN (movN (wakS S) i) ((movN (wakS S) i) 7 i) (j + 1)).1) := by rw [(show (frcN (movN (wakS S) i) ((movN (wakS S) i) 7 i) (j + 1)) = if awk (movN (wakS S) i) j ((movN (wakS S) i) 7 i) ∧ (frcN (movN (wakS S) i) ((movN (wakS S) i) 7 i) j).2 < (movN (wakS S) i) 3 j then (j + 1, (movN (wakS S) i) 3 j) else (frcN (movN (wakS S) i) ((movN (wakS S) i) 7 i) j) from rfl), if_pos ⟨⟨h138, h145⟩, by have := (frc_val (movN (wakS S) i) ((movN (wakS S) i) 7 i) j).2 hb9; omega⟩]; exact (wrF_s rfl).symm
                              rw [e_4] at hl
                              exact ih116 (j + 1) (by omega) (by omega)  _ _ _ hP hD hS (lv_sub hl [3, 4, 5, 6, 7, 8, 1, 9, 10, 0] rfl)
                            · skip
                              rw [wrF_s hb9] at hl
                              obtain ⟨hf1, hf2, hf3⟩ := (frc_val (movN (wakS S) i) ((movN (wakS S) i) 7 i) j).1 b9 hb9
                              refine lv_aload F.1 F.2.1 dX4_pass_148 (lv_at hl 7 rfl) ?_
                              refine lv_ifnull F.1 F.2.1 dX4_pass_150 ?_
                              refine lv_aload F.1 F.2.1 dX4_pass_153 (lv_at hl 0 rfl) ?_
                              refine lv_iconst (v := nI 1) F.1 F.2.1 dX4_pass_155 (by decide) ?_
                              refine q_iald (v := (movN (wakS S) i) 3 j) F hK hP (4 + j) (wSi_g (show j < (movN (wakS S) i) 0 1 by omega)) (by decide) (by first | omega | decide) rfl dX4_pass_156 ?_
                              have := hJ.mood j
                              refine lv_aload F.1 F.2.1 dX4_pass_157 (lv_at hl 7 rfl) ?_
                              refine lv_iconst (v := nI 1) F.1 F.2.1 dX4_pass_159 (by decide) ?_
                              refine q_iald (v := (movN (wakS S) i) 3 b9) F hK hP (4 + b9) (wSi_g (show b9 < (movN (wakS S) i) 0 1 by omega)) (by decide) (by first | omega | decide) rfl dX4_pass_160 ?_
                              have := hJ.mood b9
                              refine k_icmp_le (tgt := 168) F (by omega) (by omega) dX4_pass_161 (by decide) (fun h161 => ?_) (fun h161 => ?_)
                              · skip
                                refine k_inc (k := 10) (lv' := [(9, .int (nI (j + 1))), (10, .ref (z (4 + j))), (0, .ref (z 0)), (1, .ref (z 3)), (2, .int (nI (S 0 2))), (3, .int (nI i)), (4, .ref (z (12 + i))), (5, .int (nI (hisG (movN (wakS S) i) ((movN (wakS S) i) 7 i) ((movN (wakS S) i) 6 i)))), (6, .ref (z (4 + b9))), (7, .ref (z 2)), (8, .int (nI (S 0 1)))]) F dX4_pass_168 hl rfl (by decide) rfl (fun ls hl => ?_)
                                refine lv_goto (tgt := 116) F.1 F.2.1 dX4_pass_171 (by decide) ?_
                                have e_5 : (.ref (z (4 + b9)) : Value) = va_rf (wrF z (frcN (movN (wakS S) i) ((movN (wakS S) i) 7 i) (j + 1)).1) := by rw [(show (frcN (movN (wakS S) i) ((movN (wakS S) i) 7 i) (j + 1)) = if awk (movN (wakS S) i) j ((movN (wakS S) i) 7 i) ∧ (frcN (movN (wakS S) i) ((movN (wakS S) i) 7 i) j).2 < (movN (wakS S) i) 3 j then (j + 1, (movN (wakS S) i) 3 j) else (frcN (movN (wakS S) i) ((movN (wakS S) i) 7 i) j) from rfl), if_neg (fun x => by have := x.2; omega)]; exact (wrF_s hb9).symm
                                rw [e_5] at hl
                                exact ih116 (j + 1) (by omega) (by omega)  _ _ _ hP hD hS (lv_sub hl [2, 3, 4, 5, 6, 7, 8, 9, 10, 0] rfl)
                              · skip
                                refine lv_aload F.1 F.2.1 dX4_pass_164 (lv_at hl 0 rfl) ?_
                                refine lv_astore (lv' := [(6, .ref (z (4 + j))), (10, .ref (z (4 + j))), (0, .ref (z 0)), (1, .ref (z 3)), (2, .int (nI (S 0 2))), (3, .int (nI i)), (4, .ref (z (12 + i))), (5, .int (nI (hisG (movN (wakS S) i) ((movN (wakS S) i) 7 i) ((movN (wakS S) i) 6 i)))), (7, .ref (z 2)), (8, .int (nI (S 0 1))), (9, .int (nI j))]) F.1 F.2.1 dX4_pass_166 hl (by decide) rfl (fun ls hl => ?_)
                                refine k_inc (k := 10) (lv' := [(9, .int (nI (j + 1))), (6, .ref (z (4 + j))), (10, .ref (z (4 + j))), (0, .ref (z 0)), (1, .ref (z 3)), (2, .int (nI (S 0 2))), (3, .int (nI i)), (4, .ref (z (12 + i))), (5, .int (nI (hisG (movN (wakS S) i) ((movN (wakS S) i) 7 i) ((movN (wakS S) i) 6 i)))), (7, .ref (z 2)), (8, .int (nI (S 0 1)))]) F dX4_pass_168 hl rfl (by decide) rfl (fun ls hl => ?_)
                                refine lv_goto (tgt := 116) F.1 F.2.1 dX4_pass_171 (by decide) ?_
                                have e_6 : (.ref (z (4 + j)) : Value) = va_rf (wrF z (frcN (movN (wakS S) i) ((movN (wakS S) i) 7 i) (j + 1)).1) := by rw [(show (frcN (movN (wakS S) i) ((movN (wakS S) i) 7 i) (j + 1)) = if awk (movN (wakS S) i) j ((movN (wakS S) i) 7 i) ∧ (frcN (movN (wakS S) i) ((movN (wakS S) i) 7 i) j).2 < (movN (wakS S) i) 3 j then (j + 1, (movN (wakS S) i) 3 j) else (frcN (movN (wakS S) i) ((movN (wakS S) i) 7 i) j) from rfl), if_pos ⟨⟨h138, h145⟩, by omega⟩]; exact (wrF_s rfl).symm
                                rw [e_6] at hl
                                exact ih116 (j + 1) (by omega) (by omega)  _ _ _ hP hD hS (lv_sub hl [3, 4, 5, 6, 7, 8, 1, 9, 10, 0] rfl)
                  have e_7 : (.null : Value) = va_rf (wrF z (frcN (movN (wakS S) i) ((movN (wakS S) i) 7 i) 0).1) := rfl
                  rw [e_7] at hl
                  have e_8 : (movN (wakS S) i) 0 1 = S 0 1 := by first | rfl | omega
                  rw [e_8] at hl
                  exact loop116 ((S 0 1) + 1) 0 (by omega) (by omega)  _ _ _ hP hD hS (lv_sub hl [6, 7, 8, 9, 5, 4, 3, 2, 1, 0] rfl)
                · skip
                  refine lv_aload F.1 F.2.1 dX4_pass_80 (lv_at hl 0 rfl) ?_
                  refine lv_iconst (v := nI 4) F.1 F.2.1 dX4_pass_82 (by decide) ?_
                  refine lv_dup2_11 F.1 F.2.1 dX4_pass_83 rfl rfl ?_
                  refine q_iald (v := (movN (wakS S) i) 10 i) F hK hP (4 + (movN (wakS S) i) 0 1 + i) (wSi_v (show i < (movN (wakS S) i) 0 2 by omega)) (by decide) (by first | omega | decide) rfl dX4_pass_84 ?_
                  have := hJ.back i
                  refine lv_iconst (v := nI 1) F.1 F.2.1 dX4_pass_85 (by decide) ?_
                  refine k_isub F (by omega) dX4_pass_86 ?_
                  refine q_iast (k := 4) (x := ((movN (wakS S) i) 10 i - 1)) F hK hP hD hS (4 + (movN (wakS S) i) 0 1 + i) (wSi_v (show i < (movN (wakS S) i) 0 2 by omega)) (by decide) (by first | omega | decide) dX4_pass_87 (wSi cI cA z (setf (movN (wakS S) i) 10 i ((movN (wakS S) i) 10 i - 1))) (wSi_sv 4 ((movN (wakS S) i) 10 i - 1) (show i < (movN (wakS S) i) 0 2 by omega) (by decide)) (fun H locs hP hD hS => ?_)
                  refine lv_goto (tgt := 332) F.1 F.2.1 dX4_pass_88 (by decide) ?_
                  refine k_inc (k := 4) (lv' := [(3, .int (nI (i + 1))), (4, .ref (z (12 + i))), (0, .ref (z 0)), (1, .ref (z 3)), (2, .int (nI (S 0 2)))]) F dX4_pass_332 hl rfl (by decide) rfl (fun ls hl => ?_)
                  refine lv_goto (tgt := 51) F.1 F.2.1 dX4_pass_335 (by decide) ?_
                  have ew : (wSi cI cA z (setf (movN (wakS S) i) 10 i ((movN (wakS S) i) 10 i - 1))) = (wSi cI cA z (movN (wakS S) (i + 1))) := congrArg (wSi cI cA z) ((moveS_r h77).trans (movN_n h67))
                  have hP := P_eq ew hP
                  have hD := D_eq ew hD
                  exact ih51 (i + 1) (by omega) (by omega)  (ce51) (sl51) (by omega) (by omega) _ _ _ hP hD hS (lv_sub hl [2, 3, 4, 0] rfl)
              · skip
                refine lv_goto (tgt := 332) F.1 F.2.1 dX4_pass_70 (by decide) ?_
                refine k_inc (k := 4) (lv' := [(3, .int (nI (i + 1))), (4, .ref (z (12 + i))), (0, .ref (z 0)), (1, .ref (z 3)), (2, .int (nI (S 0 2)))]) F dX4_pass_332 hl rfl (by decide) rfl (fun ls hl => ?_)
                refine lv_goto (tgt := 51) F.1 F.2.1 dX4_pass_335 (by decide) ?_
                have ew : (wSi cI cA z (movN (wakS S) i)) = (wSi cI cA z (movN (wakS S) (i + 1))) := congrArg (wSi cI cA z) (movN_y h67)
                have hP := P_eq ew hP
                have hD := D_eq ew hD
                exact ih51 (i + 1) (by omega) (by omega)  (ce51) (sl51) (by omega) (by omega) _ _ _ hP hD hS (lv_sub hl [2, 3, 4, 0] rfl)
        have ew : (wSi cI cA z (setF S 4 (wakN S i))) = (wSi cI cA z (movN (wakS S) 0)) := by rw [show i = S 0 1 by omega]; rfl
        have hP := P_eq ew hP
        have hD := D_eq ew hD
        exact loop51 ((S 0 2) + 1) 0 (by omega) (by omega)  (0) (0) (by omega) (by omega) _ _ _ hP hD hS (lv_sub hl [3, 2, 1, 0] rfl)
      · skip
        refine lv_aload_n F.1 F.2.1 dX4_pass_15 rfl (lv_at hl 1 rfl) ?_
        refine lv_iload_n F.1 F.2.1 dX4_pass_16 rfl (lv_at hl 3 rfl) ?_
        refine q_aald (v := z (4 + i)) F hK hP 2 rfl (show i < S 0 1 by omega) (show S 0 1 < 2 ^ 31 by omega) rfl dX4_pass_17 ?_
        refine lv_astore (lv' := [(4, .ref (z (4 + i))), (0, .ref (z 0)), (1, .ref (z 2)), (2, .int (nI (S 0 1))), (3, .int (nI i))]) F.1 F.2.1 dX4_pass_18 hl (by decide) rfl (fun ls hl => ?_)
        refine lv_aload F.1 F.2.1 dX4_pass_20 (lv_at hl 0 rfl) ?_
        refine lv_iconst (v := nI 2) F.1 F.2.1 dX4_pass_22 (by decide) ?_
        refine q_iald (v := (wakN S i) i) F hK hP (4 + i) (wSi_g (show i < S 0 1 by omega)) (by decide) (by first | omega | decide) rfl dX4_pass_23 ?_
        have hv9 : (wakN S i) i ≤ 3 := by rw [wakN_at]; exact hI.rest i
        refine k_if_le (tgt := 35) F (by omega) dX4_pass_24 (by decide) (fun h24 => ?_) (fun h24 => ?_)
        · skip
          refine k_inc (k := 4) (lv' := [(3, .int (nI (i + 1))), (4, .ref (z (4 + i))), (0, .ref (z 0)), (1, .ref (z 2)), (2, .int (nI (S 0 1)))]) F dX4_pass_35 hl rfl (by decide) rfl (fun ls hl => ?_)
          refine lv_goto (tgt := 10) F.1 F.2.1 dX4_pass_38 (by decide) ?_
          have ew : (wSi cI cA z (setF S 4 (wakN S i))) = (wSi cI cA z (setF S 4 (wakN S (i + 1)))) := by first | rw [wakN_0] | rw [wakN_at, wakN_y] | rw [wakN_n ((wakN_at S i).symm.trans h24)]
          have hP := P_eq ew hP
          have hD := D_eq ew hD
          exact ih10 (i + 1) (by omega) (by omega)  _ _ _ hP hD hS (lv_sub hl [2, 3, 4, 0] rfl)
        · skip
          refine lv_aload F.1 F.2.1 dX4_pass_27 (lv_at hl 0 rfl) ?_
          refine lv_iconst (v := nI 2) F.1 F.2.1 dX4_pass_29 (by decide) ?_
          refine lv_dup2_11 F.1 F.2.1 dX4_pass_30 rfl rfl ?_
          refine q_iald (v := (wakN S i) i) F hK hP (4 + i) (wSi_g (show i < S 0 1 by omega)) (by decide) (by first | omega | decide) rfl dX4_pass_31 ?_
          have hv9 : (wakN S i) i ≤ 3 := by rw [wakN_at]; exact hI.rest i
          refine lv_iconst (v := nI 1) F.1 F.2.1 dX4_pass_32 (by decide) ?_
          refine k_isub F (by omega) dX4_pass_33 ?_
          refine q_iast (k := 2) (x := ((wakN S i) i - 1)) F hK hP hD hS (4 + i) (wSi_g (show i < S 0 1 by omega)) (by decide) (by first | omega | decide) dX4_pass_34 (wSi cI cA z (setf (setF S 4 (wakN S i)) 4 i ((wakN S i) i - 1))) (wSi_sg 2 ((wakN S i) i - 1) (show i < S 0 1 by omega) (by decide)) (fun H locs hP hD hS => ?_)
          refine k_inc (k := 4) (lv' := [(3, .int (nI (i + 1))), (4, .ref (z (4 + i))), (0, .ref (z 0)), (1, .ref (z 2)), (2, .int (nI (S 0 1)))]) F dX4_pass_35 hl rfl (by decide) rfl (fun ls hl => ?_)
          refine lv_goto (tgt := 10) F.1 F.2.1 dX4_pass_38 (by decide) ?_
          have ew : (wSi cI cA z (setf (setF S 4 (wakN S i)) 4 i ((wakN S i) i - 1))) = (wSi cI cA z (setF S 4 (wakN S (i + 1)))) := by first | rw [wakN_0] | rw [wakN_at, wakN_y] | rw [wakN_n ((wakN_at S i).symm.trans h24)]
          have hP := P_eq ew hP
          have hD := D_eq ew hD
          exact ih10 (i + 1) (by omega) (by omega)  _ _ _ hP hD hS (lv_sub hl [2, 3, 4, 0] rfl)
  have ew : (wSi cI cA z S) = (wSi cI cA z (setF S 4 (wakN S 0))) := by first | rw [wakN_0] | rw [wakN_at, wakN_y] | rw [wakN_n ((wakN_at S i).symm.trans h24)]
  have hP := P_eq ew hP
  have hD := D_eq ew hD
  exact loop10 ((S 0 1) + 1) 0 (by omega) (by omega)  _ _ _ hP hD hS (lv_sub hl [3, 2, 1, 0] rfl)
set_option maxRecDepth 100000 in
set_option maxHeartbeats 4000000 in
theorem c_X4_behind (l : Launch) (D : va_G) (cI cA : ClassId) (z : Nat → Nat) (S : Nat → Nat → Nat) (b : Nat) (hI : Inv S) (hb : b ≤ 60) : GS l yX4_behind wsX4_behind 3 480 1920 78 D cI cA [.ref (z 0), .int (nI b)] (wSi cI cA z S) (wSi cI cA z (beatsN S b)) (cameI S b) := by
  intro sz
  refine q_bodyG (cc := cX4_behind) (maxL := 4) (ret := (some .int)) (by decide) rfl (Nat.le_of_ble_eq_true rfl) ?_
  intro p e s m args below meth c H ls hz F hr hlk hl hP hK hD hS
  have F : CallFix p m c cX4_behind 4 s args wsX4_behind RX4 := F
  have hl : lv_has ls 4 [(0, .ref (z 0)), (1, .int (nI b))] := hl
  have hi0 := hI.gates
  have hi1 := hI.geese
  have hi2 := hI.guests
  refine lv_aload_n F.1 F.2.1 dX4_behind_0 rfl (lv_at hl 0 rfl) ?_
  refine q_pV (n := 0) (rest := []) (v := nI (inN S (S 0 2))) F (c_X4_inFarm l D cI cA z S (by first | exact hI | exact inv_beatsN hI _)) gX4_behind_X4_inFarm rfl (by decide +kernel) ⟨Nat.le_of_ble_eq_true rfl, Nat.le_of_ble_eq_true rfl⟩ rfl hl.1 rfl (Nat.le_of_ble_eq_true rfl) dX4_behind_1 ⟨show 0 ≤ 480 by omega, show 0 ≤ 1920 by omega⟩ hK hP hS ap_s (q0 := 0) (ci := 4) rfl rfl (fun H locs hP hS => ?_)
  refine lv_istore_n (lv' := [(2, .int (nI (inN S (S 0 2)))), (0, .ref (z 0)), (1, .int (nI b))]) F.1 F.2.1 dX4_behind_4 rfl hl (by decide) rfl (fun ls hl => ?_)
  refine lv_iconst (v := nI 0) F.1 F.2.1 dX4_behind_5 (by decide) ?_
  refine lv_istore_n (lv' := [(3, .int (nI 0)), (2, .int (nI (inN S (S 0 2)))), (0, .ref (z 0)), (1, .int (nI b))]) F.1 F.2.1 dX4_behind_6 rfl hl (by decide) rfl (fun ls hl => ?_)
  have loop7 : ∀ (n : Nat) (i : Nat), i ≤ b → b + 1 ≤ i + n → ∀ (ce sl : Nat), ce ≤ 8 * i → sl ≤ 32 * i → ∀ (H : Heap) (locs : List Loc) (ls : Array Slot), va_P D vwCl (wSi cI cA z (beatsN S i)) H → va_D (va_A (wSi cI cA z S) sz) (wSi cI cA z (beatsN S i)) → va_S (va_A (wSi cI cA z S) sz) s.heap H locs → lv_has ls 4 [(0, .ref (z 0)), (1, .int (nI b)), (2, .int (nI (inN S (S 0 2)))), (3, .int (nI i))] → W p l e (rmG 3 480 1920 78) s m args below meth c H locs (ce) (sl) (QGI below args s D 480 1920 (wSi cI cA z S) sz (wSi cI cA z (beatsN S b)) (cameI S b)) (F0 m 7 ls []) := by
    intro n
    induction n with
    | zero => intro i hi hn; exact absurd hn (by omega)
    | succ n ih7 =>
      intro i hi hn  ce7 sl7 hce7 hsl7 H locs ls hP hD hS hl
      refine lv_iload_n F.1 F.2.1 dX4_behind_7 rfl (lv_at hl 3 rfl) ?_
      refine lv_iload_n F.1 F.2.1 dX4_behind_8 rfl (lv_at hl 1 rfl) ?_
      refine k_icmp_ge (tgt := 22) F (by omega) (by omega) dX4_behind_9 (by decide) (fun h9 => ?_) (fun h9 => ?_)
      · skip
        refine lv_aload_n F.1 F.2.1 dX4_behind_22 rfl (lv_at hl 0 rfl) ?_
        refine q_pV (n := 0) (rest := []) (v := nI (inN (beatsN S i) ((beatsN S i) 0 2))) F (c_X4_inFarm l D cI cA z (beatsN S i) (by first | exact hI | exact inv_beatsN hI _)) gX4_behind_X4_inFarm rfl (by decide +kernel) ⟨Nat.le_of_ble_eq_true rfl, Nat.le_of_ble_eq_true rfl⟩ rfl hl.1 rfl (Nat.le_of_ble_eq_true rfl) dX4_behind_23 ⟨show ce7 ≤ 480 by omega, show sl7 ≤ 1920 by omega⟩ hK hP hS ap_s (q0 := 0) (ci := 4) rfl rfl (fun H locs hP hS => ?_)
        refine lv_iload_n F.1 F.2.1 dX4_behind_26 rfl (lv_at hl 2 rfl) ?_
        refine lv_isub F.1 F.2.1 dX4_behind_27 ?_
        exact k_retGI F hr hlk hP (by rw [show i = b by omega]) hS hz (by rw [show i = b by omega]; rfl) rfl (show ce7 ≤ 480 by omega) (show sl7 ≤ 1920 by omega) dX4_behind_28
      · skip
        refine lv_aload_n F.1 F.2.1 dX4_behind_12 rfl (lv_at hl 0 rfl) ?_
        refine q_gV (n := 0) (rest := []) F (c_X4_pass l D cI cA z (beatsN S i) (inv_beatsN hI i)) gX4_behind_X4_pass rfl (by decide +kernel) ⟨Nat.le_of_ble_eq_true rfl, Nat.le_of_ble_eq_true rfl⟩ rfl hl.1 rfl (Nat.le_of_ble_eq_true rfl) dX4_behind_13 ⟨show ce7 + 8 ≤ 480 by omega, show sl7 + 32 ≤ 1920 by omega⟩ hK hP hD hS (fun q h => Or.inr (by omega)) ap_s (wSi_ad (beatS_sc _ 1 (by omega)) (beatS_sc _ 2 (by omega))) (wSi_lneq (beatS_sc _ 1 (by omega)) (beatS_sc _ 2 (by omega))) (wSi cI cA z (beatS (beatsN S i))) (List.append_nil _) (q0 := 0) (ci := 4) rfl rfl (fun H locs hP hD hS => ?_)
        refine k_inc (k := 3) (lv' := [(3, .int (nI (i + 1))), (0, .ref (z 0)), (1, .int (nI b)), (2, .int (nI (inN S (S 0 2))))]) F dX4_behind_16 hl rfl (by decide) rfl (fun ls hl => ?_)
        refine lv_goto (tgt := 7) F.1 F.2.1 dX4_behind_19 (by decide) ?_
        have ew : (wSi cI cA z (beatS (beatsN S i))) = (wSi cI cA z (beatsN S (i + 1))) := rfl
        have hP := P_eq ew hP
        have hD := D_eq ew hD
        exact ih7 (i + 1) (by omega) (by omega)  (ce7 + 8) (sl7 + 32) (by omega) (by omega) _ _ _ hP hD hS (lv_sub hl [1, 2, 3, 0] rfl)
  have ew : (wSi cI cA z S) = (wSi cI cA z (beatsN S 0)) := rfl
  have hP := P_eq ew hP
  have hD := D_eq ew hD
  exact loop7 (b + 1) 0 (by omega) (by omega)  (0) (0) (by omega) (by omega) _ _ _ hP hD hS (lv_sub hl [2, 3, 1, 0] rfl)
end
section
/-! what makes cells that stay: with, addGate -/
def fillN (f : Nat → Nat) (i : Nat) : Nat → Nat := fun j => if j < i then f j else 0
def fillO (f : Nat → Option Nat) (i : Nat) : Nat → Option Nat := fun j => if j < i then f j else none
theorem fillN_0 (f : Nat → Nat) : fillN f 0 = fun _ => 0 := by funext j; unfold fillN; rw [if_neg (by omega)]
theorem fillO_0 (f : Nat → Option Nat) : fillO f 0 = fun _ => none := by funext j; unfold fillO; rw [if_neg (by omega)]
theorem fillN_s (f : Nat → Nat) (i : Nat) : updN (fillN f i) i (f i) = fillN f (i + 1) := by
  funext j
  show (if j = i then f i else if j < i then f j else 0) = if j < i + 1 then f j else 0
  by_cases h : j = i
  · subst h; rw [if_pos rfl, if_pos (by omega)]
  · rw [if_neg h]
    by_cases h2 : j < i
    · rw [if_pos h2, if_pos (by omega)]
    · rw [if_neg h2, if_neg (by omega)]
theorem fillO_s {f : Nat → Option Nat} {i x : Nat} (hx : f i = some x) : va_up (fillO f i) i (some x) = fillO f (i + 1) := by
  funext j
  show (if j = i then some x else if j < i then f j else none) = if j < i + 1 then f j else none
  by_cases h : j = i
  · subst h; rw [if_pos rfl, if_pos (by omega), hx]
  · rw [if_neg h]
    by_cases h2 : j < i
    · rw [if_pos h2, if_pos (by omega)]
    · rw [if_neg h2, if_neg (by omega)]
theorem cell_I {cI : ClassId} {n : Nat} {f g : Nat → Nat} (h : ∀ j, j < n → f j = g j) : vp_cell cI (n, .inl (row f)) = vp_cell cI (n, .inl (row g)) := by
  rw [vp_cell_i, vp_cell_i]
  unfold arrV
  congr 2
  funext j
  show Value.int (nI (f j.val)) = Value.int (nI (g j.val))
  rw [h j.val j.isLt]
theorem cell_O {cA : ClassId} {n : Nat} {f g : Nat → Option Nat} (h : ∀ j, j < n → f j = g j) : vp_cell cA (n, ilr f) = vp_cell cA (n, ilr g) := by
  rw [vp_cell_q, vp_cell_q]
  unfold arrV
  congr 2
  funext j
  show va_rf (f j.val) = va_rf (g j.val)
  rw [h j.val j.isLt]
section
variable {p : Program} {l : Launch} {e : Env} {R : Room} {s : State} {m : MethodId} {args : Array Value} {below : List Frame} {meth : Method} {c : Code} {H : Heap} {locs : List Loc} {cells slots : Nat} {Q : State → Prop}
variable {cc : ByteArray} {pc nL index : Nat} {ls : Array Slot} {rest st0 : List Value} {D : va_G} {A A0 : Nat → Prop} {a : Nat} {cI cA : ClassId} {w wr : va_W} {H0 : Heap} {Ts : List Cond} {own : String}
/-- a store of a row that is known by its cell -/
theorem q_aastH (S : CallFix p m c cc nL s args Ts own) (hKS : KS D cI cA s) (hP : va_P D vwCl w H) (hD : va_D A w) (hS : va_S A H0 H locs) (q0 : Nat) {n k v n2 : Nat} {f : Nat → Option Nat} {g : Nat → Int32} (ha : w[q0]? = some (a, .inl (cA, n, ilr f))) (hv : H[v]? = some (vp_cell cI (n2, .inl g))) (hk : k < n) (hn : n < 2 ^ 31) (hdg : decode cc pc = .ok (.aastore, 1)) (w' : va_W) (hw : w.set q0 (a, .inl (cA, n, ilr (va_up f k (some v)))) = w')
    (kk : ∀ (H1 : Heap) (locs1 : List Loc), va_P D vwCl w' H1 → va_D A w' → va_S A H0 H1 locs1 → W p l e R s m args below meth c H1 locs1 cells slots Q (F0 m (pc + 1) ls rest)) : W p l e R s m args below meth c H locs cells slots Q (F0 m pc ls (.ref v :: .int (nI k) :: .ref a :: rest)) := by
  have hin := vp_in_nI hk hn
  have e0 : (nI k).toNatClampNeg = k := nI_clamp (Nat.lt_trans hk hn)
  obtain ⟨kA, kI, k1, k2, hkI⟩ := hKS.comp
  refine W.aast S.1 S.2.1 (hP q0 _ ha) (fun q h => by cases h) (fun h => by cases h) k1 k2 rfl hkI ⟨fun q => hin (Or.inl q), by show _ < (arrV _ _ _).slots.size; rw [arrV_size, e0]; exact hk⟩ hv (fun q h => by cases h) hkI (va_asg _ _) rfl rfl hdg fun H1 e z oq => ?_
  refine kk H1 _ (by rw [← hw]; exact hP.set hD ha (by
    show H1[a]? = some (vp_cell _ _)
    rw [e, vp_cell_q, vp_cell_q, arrV_store, e0]
    congr 2
    funext q
    by_cases hq : q = k
    · subst hq
      simp [updV, va_up, va_rf]
    · simp [updV, va_up, hq]) oq) (by rw [← hw]; exact hD.set ha) (hS.put z oq (hD.2 q0 _ ha))
end
/-- a row of ints at a cell -/
def rowAt (cI : ClassId) (H : Heap) (x : Nat) : Prop := ∃ (n2 : Nat) (g : Nat → Int32), H[x]? = some (vp_cell cI (n2, .inl g))
theorem rowAt_of {D : va_G} {cI : ClassId} {w : va_W} {H : Heap} (hP : va_P D vwCl w H) {i x n2 : Nat} {g : Nat → Int32} (h : w[i]? = some (x, .inl (cI, n2, .inl g))) : rowAt cI H x := ⟨n2, g, hP i _ h⟩
theorem P_old {D : va_G} {A : Nat → Prop} {w : va_W} {H0 H : Heap} {locs : List Loc} (hP : va_P D vwCl w H0) (hS : va_S A H0 H locs) (hA : ∀ q, q < H0.size → ¬ A q) : va_P D vwCl w H := hP.kept (fun k q hq => hS.2.1 q.1 (hP k q hq).lt (hA q.1 (hP k q hq).lt))
theorem q_bodyH {l : Launch} {y : MethodName} {ws ws' : List Cond} {fr lo mc ms : Nat} {D : va_G} {cI cA : ClassId} {av : List Value} {w : va_W} {cc : ByteArray} {maxL : Nat} {ret : Option FieldType} {Qc : Array Value → State → Outcome → State → Prop} {free : Addr → Prop} {sz : Nat} (hy : plainName y.cls = true) (hw : ws = Cond.code y cc maxL ret :: ws') (hav : (lg_sl av).length ≤ maxL)
    (body : ∀ p e s m args below meth c ls, s.heap.size = sz → CallFix p m c cc maxL s args ws y.cls → meth.sig.returnType = ret → meth.locks = false → lv_has ls maxL (lv_args 0 av) → va_P D vwCl w s.heap → KS D cI cA s → va_D (fun _ => True) w →
      W p l e (rmG fr mc ms lo) s m args below meth c s.heap [] 0 0 (MQ below Qc args s mc ms free) (F0 m 0 ls [])) :
    Met l y ws (rmG fr mc ms lo) (va_Pc av (fun U => U.heap.size = sz ∧ va_P D vwCl w U.heap ∧ KS D cI cA U ∧ va_D (fun _ => True) w)) Qc mc ms free := by
  refine Met.ofW (cc := cc) (maxL := maxL) (ret := ret) hy hw ?_
  intro p e s m args below meth c s₁ B hml hv
  obtain ⟨rfl, hz, hP, hK, hD⟩ := hv
  have hl := lv_entry av (n := maxL) hav
  rw [lg_entry_eq]
  exact body p e s m _ below meth c _ hz ⟨B.exec, B.bytes, hml, findClass_of_methodNamed B.named, atoms_spec (ws := ws) B.pre⟩ B.returns B.notSynchronized hl hP hK hD
def WT (l : Launch) (D : va_G) (cI cA : ClassId) (a0 n : Nat) (f : Nat → Option Nat) (v : Nat) (w : va_W) : Prop :=
  ∀ sz : Nat, Met l yX4_with wsX4_with (rmG 0 1 9 0) (va_Pc [.ref a0, .ref v] (fun U => U.heap.size = sz ∧ va_P D vwCl w U.heap ∧ KS D cI cA U ∧ va_D (fun _ => True) w)) (va_Qr (fun _ : Unit => True) (fun _ q t => sz ≤ q ∧ va_P D vwCl [(q, .inl (cA, n + 1, ilr (va_up f n (some v))))] t.heap) (fun _ => False)) 1 9 (fun q => sz ≤ q)
set_option maxRecDepth 100000 in
set_option maxHeartbeats 4000000 in
theorem c_X4_with (l : Launch) (D : va_G) (cI cA : ClassId) (a0 n v q0 : Nat) (f : Nat → Option Nat) (w : va_W) (hn : n ≤ 8) (h0 : w[q0]? = some (a0, .inl (cA, n, ilr f))) (hv : ∀ H, va_P D vwCl w H → rowAt cI H v) (hf : ∀ k, k < n → ∃ x, f k = some x ∧ ∀ H, va_P D vwCl w H → rowAt cI H x) : WT l D cI cA a0 n f v w := by
  intro sz
  refine q_bodyH (cc := cX4_with) (maxL := 4) (ret := some (.array (.array .int))) (by decide) rfl (Nat.le_of_ble_eq_true rfl) ?_
  intro p e s m args below meth c ls hz F hr hlk hl hP0 hK hD0
  have F : CallFix p m c cX4_with 4 s args wsX4_with RX4 := F
  have hl : lv_has ls 4 [(0, .ref a0), (1, .ref v)] := hl
  have hA : ∀ q, q < s.heap.size → ¬ (fun q => sz ≤ q) q := fun q h1 h2 => by have h2 : sz ≤ q := h2; omega
  have hP : va_P D vwCl [] s.heap := fun k q h => by simp at h
  have hD : va_D (fun q => sz ≤ q) [] := ⟨fun i j p q h => by simp at h, fun k q h => by simp at h⟩
  have hS : va_S (fun q => sz ≤ q) s.heap s.heap [] := va_S.rf
  refine lv_aload_n F.1 F.2.1 dX4_with_0 rfl (lv_at hl 0 rfl) ?_
  refine q_alenA F hK hP0 q0 h0 dX4_with_1 ?_
  refine lv_iconst (v := nI 1) F.1 F.2.1 dX4_with_2 (by decide) ?_
  refine k_iadd F dX4_with_3 ?_
  refine q_anew F (List.mem_of_getElem? (i := 1) rfl) hK hP hD hS (fun q h => by show sz ≤ q; omega) (k := n + 1) (by omega) ⟨Nat.le_refl _, show 0 + (n + 1) ≤ 9 by omega⟩ dX4_with_4 (fun q H hq hP hD hS => ?_)
  have hP : va_P D vwCl [(q, .inl (cA, n + 1, ilr (fun _ => none)))] H := hP
  have hD : va_D (fun q => sz ≤ q) [(q, .inl (cA, n + 1, ilr (fun _ => none)))] := hD
  refine lv_astore_n (lv' := [(2, .ref q), (0, .ref a0), (1, .ref v)]) F.1 F.2.1 dX4_with_7 rfl hl (by decide) rfl (fun ls hl => ?_)
  refine lv_iconst (v := nI 0) F.1 F.2.1 dX4_with_8 (by decide) ?_
  refine lv_istore_n (lv' := [(3, .int (nI 0)), (2, .ref q), (0, .ref a0), (1, .ref v)]) F.1 F.2.1 dX4_with_9 rfl hl (by decide) rfl (fun ls hl => ?_)
  have loop : ∀ (r i : Nat), i ≤ n → n + 1 ≤ i + r → ∀ (H : Heap) (locs : List Loc) (ls : Array Slot), va_P D vwCl [(q, .inl (cA, n + 1, ilr (fillO f i)))] H → va_D (fun q => sz ≤ q) [(q, .inl (cA, n + 1, ilr (fillO f i)))] → va_S (fun q => sz ≤ q) s.heap H locs → lv_has ls 4 [(3, .int (nI i)), (2, .ref q), (0, .ref a0), (1, .ref v)] → W p l e (rmG 0 1 9 0) s m args below meth c H locs (0 + 1) (0 + (n + 1)) (MQ below (va_Qr (fun _ : Unit => True) (fun _ q t => sz ≤ q ∧ va_P D vwCl [(q, .inl (cA, n + 1, ilr (va_up f n (some v))))] t.heap) (fun _ => False)) args s 1 9 (fun q => sz ≤ q)) (F0 m 10 ls []) := by
    intro r
    induction r with
    | zero => intro i hi hr2; exact absurd hr2 (by omega)
    | succ r ih =>
      intro i hi hr2 H locs ls hP hD hS hl
      have hP1 := P_old hP0 hS hA
      refine lv_iload_n F.1 F.2.1 dX4_with_10 rfl (lv_at hl 0 rfl) ?_
      refine lv_aload_n F.1 F.2.1 dX4_with_11 rfl (lv_at hl 2 rfl) ?_
      refine q_alenA F hK hP1 q0 h0 dX4_with_12 ?_
      refine k_icmp_ge (tgt := 28) F (by omega) (by omega) dX4_with_13 (by decide) (fun h => ?_) (fun h => ?_)
      · refine lv_aload_n F.1 F.2.1 dX4_with_28 rfl (lv_at hl 1 rfl) ?_
        refine lv_aload_n F.1 F.2.1 dX4_with_29 rfl (lv_at hl 2 rfl) ?_
        refine q_alenA F hK hP1 q0 h0 dX4_with_30 ?_
        refine lv_aload_n F.1 F.2.1 dX4_with_31 rfl (lv_at hl 3 rfl) ?_
        obtain ⟨n2, g, hg⟩ := hv H hP1
        refine q_aastH F hK hP hD hS 0 rfl hg (show n < n + 1 by omega) (by omega) dX4_with_32 [(q, .inl (cA, n + 1, ilr (va_up (fillO f i) n (some v))))] rfl (fun H locs hP hD hS => ?_)
        refine lv_aload_n F.1 F.2.1 dX4_with_33 rfl (lv_at hl 1 rfl) ?_
        refine W.widen (Nat.le_refl _) (show 0 + (n + 1) ≤ 9 by omega) (W.aret F.1 F.2.1 hr (Or.inr ⟨_, rfl⟩) (Or.inr ⟨q, rfl⟩) (fun t ht hW => ⟨⟨(), q, rfl, trivial, by show sz ≤ q; omega, ?_⟩, ?_⟩) hS.2.2 dX4_with_34 hlk)
        · rw [ht]
          intro k x hx
          have hz2 : k < 1 := (List.getElem?_eq_some_iff.mp hx).1
          rw [show k = 0 by omega] at hx
          cases hx
          have h9 := hP 0 _ rfl
          show H[q]? = some (vp_cell _ _)
          rw [cell_O (g := va_up (fillO f i) n (some v)) (fun j hj => ?_)]
          · exact h9
          · unfold va_up
            by_cases e : j = n
            · rw [if_pos e, if_pos e]
            · rw [if_neg e, if_neg e]
              unfold fillO
              rw [if_pos (by omega)]
        · rw [va_F, ht]
          exact ⟨hS.1, fun x hx _ => hS.2.1 x hx (hA x hx)⟩
      · refine lv_aload_n F.1 F.2.1 dX4_with_16 rfl (lv_at hl 1 rfl) ?_
        refine lv_iload_n F.1 F.2.1 dX4_with_17 rfl (lv_at hl 0 rfl) ?_
        refine lv_aload_n F.1 F.2.1 dX4_with_18 rfl (lv_at hl 2 rfl) ?_
        refine lv_iload_n F.1 F.2.1 dX4_with_19 rfl (lv_at hl 0 rfl) ?_
        obtain ⟨x, hx, hrow⟩ := hf i (by omega)
        obtain ⟨n2, g, hg⟩ := hrow H hP1
        refine q_aald F hK hP1 q0 h0 (by omega) (by omega) hx dX4_with_20 ?_
        refine q_aastH F hK hP hD hS 0 rfl hg (show i < n + 1 by omega) (by omega) dX4_with_21 [(q, .inl (cA, n + 1, ilr (fillO f (i + 1))))] (by rw [← fillO_s hx]; rfl) (fun H locs hP hD hS => ?_)
        refine k_inc (k := 0) (lv' := [(3, .int (nI (i + 1))), (2, .ref q), (0, .ref a0), (1, .ref v)]) F dX4_with_22 hl rfl (by decide) rfl (fun ls hl => ?_)
        refine lv_goto (tgt := 10) F.1 F.2.1 dX4_with_25 (by decide) ?_
        exact ih (i + 1) (by omega) (by omega) H locs ls hP hD hS hl
  rw [← fillO_0 f] at hP hD
  exact loop (n + 1) 0 (by omega) (by omega) H [] ls hP hD hS hl
/-- its call: one more cell -/
theorem q_with {p : Program} {l : Launch} {e : Env} {R : Room} {s : State} {m : MethodId} {args : Array Value} {below : List Frame} {meth : Method} {c : Code} {H : Heap} {locs : List Loc} {cells slots : Nat} {Q : State → Prop} {cc : ByteArray} {pc nL index : Nat} {ls : Array Slot} {rest : List Value} {D : va_G} {A0 : Nat → Prop} {cI cA : ClassId} {w : va_W} {Ts : List Cond} {own : String} {a0 n v : Nat} {f : Nat → Option Nat}
    (S : CallFix p m c cc nL s args Ts own) (hM : WT l D cI cA a0 n f v w) (hT : GoodIn Ts (va_wsS own index yX4_with wsX4_with)) (hR : 1 ≤ R.frames ∧ 23 ≤ R.locals) (hsize : ls.size = nL) (hc8 : (rest.map fun v => v.category).sum ≤ 8) (hdg : decode cc pc = .ok (.invokestatic index, 3)) (hf : cells + 1 ≤ R.cells ∧ slots + 9 ≤ R.slots)
    (hK : KS D cI cA s) (hP : va_P D vwCl w H) (hD : va_D A0 w) (hS : va_S A0 s.heap H locs) (hA : ∀ q, s.heap.size ≤ q → A0 q)
    (kk : ∀ (q : Nat) (H1 : Heap) (locs1 : List Loc), va_P D vwCl (w ++ [(q, .inl (cA, n + 1, ilr (va_up f n (some v))))]) H1 → va_D A0 (w ++ [(q, .inl (cA, n + 1, ilr (va_up f n (some v))))]) → va_S A0 s.heap H1 locs1 → W p l e R s m args below meth c H1 locs1 (cells + 1) (slots + 9) Q (F0 m (pc + 3) ls (.ref q :: rest))) : W p l e R s m args below meth c H locs cells slots Q (F0 m pc ls (.ref v :: .ref a0 :: rest)) := by
  have h9 : s.heap.size ≤ H.size := hS.1
  refine va_callr (va_runS (As := [.ref a0, .ref v]) (rest := rest) S (hM H.size) (va_cwS 2 S.2.2.2.2 hT rfl rfl rfl (by decide +kernel) hR) ⟨blindGS, fun U hU hW => ⟨rfl, by rw [hU], by rw [hU]; exact hP, KS.moved hW hK, hD.weaken (fun _ _ _ _ => trivial)⟩⟩ rfl rfl hsize rfl (lv_room hc8) hdg hf) hS (fun q _ h => h.elim) (fun q h => hA q (Nat.le_trans hS.1 h)) (fun u ra t H1 locs1 ht hvm _ hB hz1 hk1 hS => ?_)
  obtain ⟨h1, h2⟩ := hB
  rw [ht] at h2
  have hP1 := keep_P hP hk1
  exact kk ra H1 locs1 (P_more hP1 (h2 0 _ rfl)) (D_re (D_more (H := H) (e := .inl (cA, n + 1, ilr (va_up f n (some v)))) hP hD h1 (hA _ (Nat.le_trans h9 h1))) rfl) hS
end
section
/-! a gate more; a row more, put in its place -/
def wAg (cI : ClassId) (z : Nat → Nat) (S : Nat → Nat → Nat) : va_W := [(z 0, .inr (4, [.int (nI (S 0 3)), .int (nI (S 0 4)), .int (nI (S 0 5)), .ref (z 1), .ref (z 2), .ref (z 3)])), (z 1, .inl (cI, S 0 0, .inl (row (S 1))))]
def wRs (cI cA : ClassId) (z : Nat → Nat) (S : Nat → Nat → Nat) : va_W := [(z 2, .inl (cA, S 0 1, ilr (fun k => some (z (4 + k))))), (z 3, .inl (cA, S 0 2, ilr (fun v => some (z (12 + v)))))] ++ (wGs cI z S (S 0 1) ++ wVs cI z S (S 0 2))
theorem wSi_sp {cI cA : ClassId} {z : Nat → Nat} {S : Nat → Nat → Nat} : wSi cI cA z S = wAg cI z S ++ wRs cI cA z S := rfl
/-- the state behind a gate more -/
abbrev gaS (S : Nat → Nat → Nat) (x : Nat) : Nat → Nat → Nat := setf (setf S 1 (S 0 0) x) 0 0 (S 0 0 + 1)
theorem cz_eq {cI : ClassId} {z z' : Nat → Nat} {S : Nat → Nat → Nat} {k : Nat} (h : z' (4 + k) = z (4 + k)) : cGo cI z' S k = cGo cI z S k := by unfold cGo; rw [h]
theorem czv_eq {cI : ClassId} {z z' : Nat → Nat} {S : Nat → Nat → Nat} {v : Nat} (h : z' (12 + v) = z (12 + v)) : cVi cI z' S v = cVi cI z S v := by unfold cVi; rw [h]
theorem updN_ne {z : Nat → Nat} {i x j : Nat} (h : j ≠ i) : updN z i x j = z j := if_neg h
theorem updN_at {z : Nat → Nat} {i x : Nat} : updN z i x i = x := if_pos rfl
theorem wRs_ga {cI cA : ClassId} {z : Nat → Nat} {S : Nat → Nat → Nat} {q x : Nat} : wRs cI cA (updN z 1 q) (gaS S x) = wRs cI cA z S := by
  have e01 : gaS S x 0 1 = S 0 1 := by unfold gaS; rw [setf_at, if_neg (by omega), setf_at, if_neg (by omega)]
  have e02 : gaS S x 0 2 = S 0 2 := by unfold gaS; rw [setf_at, if_neg (by omega), setf_at, if_neg (by omega)]
  have eg : cGo cI (updN z 1 q) (gaS S x) = cGo cI z S := by
    funext k
    rw [cz_eq (updN_ne (by omega))]
    exact cGo_eq (fun j hj => by unfold gaS; rw [setf_at, if_neg (by omega), setf_at, if_neg (by omega)])
  have ev : cVi cI (updN z 1 q) (gaS S x) = cVi cI z S := by
    funext k
    rw [czv_eq (updN_ne (by omega))]
    exact cVi_eq (fun j hj => by have := vfi_ge j; unfold gaS; rw [setf_at, if_neg (by omega), setf_at, if_neg (by omega)])
  have e2 : updN z 1 q 2 = z 2 := updN_ne (by omega)
  have e3 : updN z 1 q 3 = z 3 := updN_ne (by omega)
  have e4 : (fun k => some (updN z 1 q (4 + k))) = fun k => some (z (4 + k)) := by funext k; rw [updN_ne (by omega)]
  have e5 : (fun k => some (updN z 1 q (12 + k))) = fun k => some (z (12 + k)) := by funext k; rw [updN_ne (by omega)]
  unfold wRs wGs wVs
  rw [e01, e02, eg, ev, e2, e3, e4, e5]
def AG (l : Launch) (D : va_G) (cI cA : ClassId) (z : Nat → Nat) (S : Nat → Nat → Nat) (x : Nat) : Prop :=
  ∀ sz : Nat, Met l yX4_addGate wsX4_addGate (rmG 0 1 7 0) (va_Pc [.ref (z 0), .int (nI x)] (fun U => U.heap.size = sz ∧ va_P D vwCl (wAg cI z S) U.heap ∧ KS D cI cA U ∧ va_D (fun _ => True) (wAg cI z S))) (va_Qv (fun _ : Nat => True) (fun q t => va_P D vwCl (wAg cI (updN z 1 q) (gaS S x)) t.heap ∧ va_D (va_A (wAg cI z S) sz) (wAg cI (updN z 1 q) (gaS S x))) (va_B (wAg cI z S))) 1 7 (va_A (wAg cI z S) sz)
theorem nX4_addGate_X4 : ∀ x ∈ wsX40, x ∈ wsX4_addGate := fun _ h => List.mem_cons_of_mem _ (List.mem_append_right _ h)
set_option maxRecDepth 100000 in
set_option maxHeartbeats 4000000 in
theorem c_X4_addGate (l : Launch) (D : va_G) (cI cA : ClassId) (z : Nat → Nat) (S : Nat → Nat → Nat) (x : Nat) (hn : S 0 0 ≤ 6) : AG l D cI cA z S x := by
  intro sz
  refine q_bodyG (cc := cX4_addGate) (maxL := 4) (ret := none) (by decide) rfl (Nat.le_of_ble_eq_true rfl) ?_
  intro p e s m args below meth c H ls hz F hr hlk hl hP hK hD hS
  have F : CallFix p m c cX4_addGate 4 s args wsX4_addGate RX4 := F
  have hl : lv_has ls 4 [(0, .ref (z 0)), (1, .int (nI x))] := hl
  refine lv_aload_n F.1 F.2.1 dX4_addGate_0 rfl (lv_at hl 0 rfl) ?_
  refine k_get (v := .ref (z 1)) F nX4_addGate_X4 hK.1.1 hP 0 rfl rfl 3 (by decide) (List.mem_of_getElem? (i := 1) rfl) rfl dX4_addGate_1 ?_
  refine q_alen F hK hP 1 rfl dX4_addGate_4 ?_
  refine lv_iconst (v := nI 1) F.1 F.2.1 dX4_addGate_5 (by decide) ?_
  refine k_iadd F dX4_addGate_6 ?_
  refine q_newa F (List.mem_of_getElem? (i := 2) rfl) hK hP hD hS (fun q h => Or.inr (by omega)) (k := S 0 0 + 1) (by omega) ⟨Nat.le_refl _, show 0 + (S 0 0 + 1) ≤ 7 by omega⟩ dX4_addGate_7 (fun q H hP hD hS => ?_)
  refine lv_astore_n (lv' := [(2, .ref q), (0, .ref (z 0)), (1, .int (nI x))]) F.1 F.2.1 dX4_addGate_9 rfl hl (by decide) rfl (fun ls hl => ?_)
  refine lv_iconst (v := nI 0) F.1 F.2.1 dX4_addGate_10 (by decide) ?_
  refine lv_istore_n (lv' := [(3, .int (nI 0)), (2, .ref q), (0, .ref (z 0)), (1, .int (nI x))]) F.1 F.2.1 dX4_addGate_11 rfl hl (by decide) rfl (fun ls hl => ?_)
  have loop : ∀ (r i : Nat), i ≤ S 0 0 → S 0 0 + 1 ≤ i + r → ∀ (H : Heap) (locs : List Loc) (ls : Array Slot), va_P D vwCl (wAg cI z S ++ [(q, .inl (cI, S 0 0 + 1, .inl (row (fillN (S 1) i))))]) H → va_D (va_A (wAg cI z S) sz) (wAg cI z S ++ [(q, .inl (cI, S 0 0 + 1, .inl (row (fillN (S 1) i))))]) → va_S (va_A (wAg cI z S) sz) s.heap H locs → lv_has ls 4 [(3, .int (nI i)), (2, .ref q), (0, .ref (z 0)), (1, .int (nI x))] → W p l e (rmG 0 1 7 0) s m args below meth c H locs (0 + 1) (0 + (S 0 0 + 1)) (MQ below (va_Qv (fun _ : Nat => True) (fun q t => va_P D vwCl (wAg cI (updN z 1 q) (gaS S x)) t.heap ∧ va_D (va_A (wAg cI z S) sz) (wAg cI (updN z 1 q) (gaS S x))) (va_B (wAg cI z S))) args s 1 7 (va_A (wAg cI z S) sz)) (F0 m 12 ls []) := by
    intro r
    induction r with
    | zero => intro i hi hr2; exact absurd hr2 (by omega)
    | succ r ih =>
      intro i hi hr2 H locs ls hP hD hS hl
      refine lv_iload_n F.1 F.2.1 dX4_addGate_12 rfl (lv_at hl 0 rfl) ?_
      refine lv_aload_n F.1 F.2.1 dX4_addGate_13 rfl (lv_at hl 2 rfl) ?_
      refine k_get (v := .ref (z 1)) F nX4_addGate_X4 hK.1.1 hP 0 rfl rfl 3 (by decide) (List.mem_of_getElem? (i := 1) rfl) rfl dX4_addGate_14 ?_
      refine q_alen F hK hP 1 rfl dX4_addGate_17 ?_
      refine k_icmp_ge (tgt := 36) F (by omega) (by omega) dX4_addGate_18 (by decide) (fun h => ?_) (fun h => ?_)
      · refine lv_aload_n F.1 F.2.1 dX4_addGate_36 rfl (lv_at hl 1 rfl) ?_
        refine lv_aload_n F.1 F.2.1 dX4_addGate_37 rfl (lv_at hl 2 rfl) ?_
        refine k_get (v := .ref (z 1)) F nX4_addGate_X4 hK.1.1 hP 0 rfl rfl 3 (by decide) (List.mem_of_getElem? (i := 1) rfl) rfl dX4_addGate_38 ?_
        refine q_alen F hK hP 1 rfl dX4_addGate_41 ?_
        refine lv_iload_n F.1 F.2.1 dX4_addGate_42 rfl (lv_at hl 3 rfl) ?_
        refine q_iast (k := S 0 0) (x := x) F hK hP hD hS 2 rfl (by omega) (by omega) dX4_addGate_43 (wAg cI z S ++ [(q, .inl (cI, S 0 0 + 1, .inl (row (updN (fillN (S 1) i) (S 0 0) x))))]) rfl (fun H locs hP hD hS => ?_)
        refine lv_aload_n F.1 F.2.1 dX4_addGate_44 rfl (lv_at hl 2 rfl) ?_
        refine lv_aload_n F.1 F.2.1 dX4_addGate_45 rfl (lv_at hl 1 rfl) ?_
        refine q_putr (ty := .array .int) F nX4_addGate_X4 tyX4 tyX4_ok nmX4 hK hP hD hS 0 rfl rfl 3 (by decide) (List.mem_of_getElem? (i := 1) rfl) rfl (by decide +kernel) rfl rfl (Nat.le_of_ble_eq_true rfl) dX4_addGate_46 [(z 0, .inr (4, [.int (nI (S 0 3)), .int (nI (S 0 4)), .int (nI (S 0 5)), .ref q, .ref (z 2), .ref (z 3)])), (z 1, .inl (cI, S 0 0, .inl (row (S 1)))), (q, .inl (cI, S 0 0 + 1, .inl (row (updN (fillN (S 1) i) (S 0 0) x))))] rfl (fun H locs hP hD hS => ?_)
        have hP2 := sub_at (wc := [(z 0, .inr (4, [.int (nI (S 0 3)), .int (nI (S 0 4)), .int (nI (S 0 5)), .ref q, .ref (z 2), .ref (z 3)])), (q, .inl (cI, S 0 0 + 1, .inl (row (updN (fillN (S 1) i) (S 0 0) x))))]) hP [0, 2] rfl
        have hD2 := subD_at (wc := [(z 0, .inr (4, [.int (nI (S 0 3)), .int (nI (S 0 4)), .int (nI (S 0 5)), .ref q, .ref (z 2), .ref (z 3)])), (q, .inl (cI, S 0 0 + 1, .inl (row (updN (fillN (S 1) i) (S 0 0) x))))]) hD [0, 2] rfl rfl
        have hP3 : va_P D vwCl (wAg cI (updN z 1 q) (gaS S x)) H := by
          intro k y hy
          rcases (show k = 0 ∨ k = 1 by have h9 : k < 2 := (List.getElem?_eq_some_iff.mp hy).1; omega) with rfl | rfl
          · cases hy
            exact hP2 0 _ rfl
          · cases hy
            have h9 : H[q]? = some (vp_cell cI (S 0 0 + 1, .inl (row (updN (fillN (S 1) i) (S 0 0) x)))) := hP2 1 _ rfl
            show H[q]? = some (vp_cell cI (S 0 0 + 1, .inl (row (gaS S x 1))))
            rw [h9]
            congr 1
            refine cell_I (fun j hj => ?_)
            show (if j = S 0 0 then x else fillN (S 1) i j) = if j = S 0 0 then x else S 1 j
            by_cases e : j = S 0 0
            · rw [if_pos e, if_pos e]
            · rw [if_neg e, if_neg e]
              unfold fillN
              rw [if_pos (by omega)]
        refine W.widen (Nat.le_refl _) (show 0 + (S 0 0 + 1) ≤ 7 by omega) (W.vret F.1 F.2.1 hr (fun t ht hW => ⟨⟨q, rfl, trivial, by rw [ht]; exact hP3, D_re hD2 rfl⟩, by
          have h := hS.F ht
          exact ⟨h.1, fun q h1 h2 => h.2 q h1 (fun h3 => h3.elim h2 (fun h4 => absurd h1 (by omega)))⟩⟩) hS.2.2 dX4_addGate_49 hlk)
      · refine lv_aload_n F.1 F.2.1 dX4_addGate_21 rfl (lv_at hl 1 rfl) ?_
        refine lv_iload_n F.1 F.2.1 dX4_addGate_22 rfl (lv_at hl 0 rfl) ?_
        refine lv_aload_n F.1 F.2.1 dX4_addGate_23 rfl (lv_at hl 2 rfl) ?_
        refine k_get (v := .ref (z 1)) F nX4_addGate_X4 hK.1.1 hP 0 rfl rfl 3 (by decide) (List.mem_of_getElem? (i := 1) rfl) rfl dX4_addGate_24 ?_
        refine lv_iload_n F.1 F.2.1 dX4_addGate_27 rfl (lv_at hl 0 rfl) ?_
        refine q_iald (f := S 1) (v := S 1 i) F hK hP 1 rfl (by omega) (by omega) rfl dX4_addGate_28 ?_
        refine q_iast (k := i) (x := S 1 i) F hK hP hD hS 2 rfl (by omega) (by omega) dX4_addGate_29 (wAg cI z S ++ [(q, .inl (cI, S 0 0 + 1, .inl (row (fillN (S 1) (i + 1)))))]) (by rw [← fillN_s]; rfl) (fun H locs hP hD hS => ?_)
        refine k_inc (k := 0) (lv' := [(3, .int (nI (i + 1))), (2, .ref q), (0, .ref (z 0)), (1, .int (nI x))]) F dX4_addGate_30 hl rfl (by decide) rfl (fun ls hl => ?_)
        refine lv_goto (tgt := 12) F.1 F.2.1 dX4_addGate_33 (by decide) ?_
        exact ih (i + 1) (by omega) (by omega) H locs ls hP hD hS hl
  rw [← fillN_0 (S 1)] at hP hD
  exact loop (S 0 0 + 1) 0 (by omega) (by omega) H [] ls hP hD hS hl
/-- its call -/
theorem q_addGate {p : Program} {l : Launch} {e : Env} {R : Room} {s : State} {m : MethodId} {args : Array Value} {below : List Frame} {meth : Method} {c : Code} {H : Heap} {locs : List Loc} {cells slots : Nat} {Q : State → Prop} {cc : ByteArray} {pc nL index : Nat} {ls : Array Slot} {rest : List Value} {D : va_G} {A0 : Nat → Prop} {cI cA : ClassId} {wr : va_W} {Ts : List Cond} {own : String} {z : Nat → Nat} {S0 : Nat → Nat → Nat} {x : Nat}
    (S : CallFix p m c cc nL s args Ts own) (hM : AG l D cI cA z S0 x) (hT : GoodIn Ts (wsV own index RX4 yX4_addGate wsX4_addGate)) (hR : 1 ≤ R.frames ∧ 23 ≤ R.locals) (hsize : ls.size = nL) (hc8 : (rest.map fun v => v.category).sum ≤ 8) (hdg : decode cc pc = .ok (.invokevirtual index, 3)) (hf : cells + 1 ≤ R.cells ∧ slots + 7 ≤ R.slots)
    (hK : KS D cI cA s) (hP : va_P D vwCl (wSi cI cA z S0 ++ wr) H) (hD : va_D A0 (wSi cI cA z S0 ++ wr)) (hS : va_S A0 s.heap H locs) (hA : ∀ q, s.heap.size ≤ q → A0 q)
    (kk : ∀ (q : Nat) (H1 : Heap) (locs1 : List Loc), va_P D vwCl (wSi cI cA (updN z 1 q) (gaS S0 x) ++ wr) H1 → va_D A0 (wSi cI cA (updN z 1 q) (gaS S0 x) ++ wr) → va_S A0 s.heap H1 locs1 → W p l e R s m args below meth c H1 locs1 (cells + 1) (slots + 7) Q (F0 m (pc + 3) ls rest)) : W p l e R s m args below meth c H locs cells slots Q (F0 m pc ls (.int (nI x) :: .ref (z 0) :: rest)) := by
  have h9 : s.heap.size ≤ H.size := hS.1
  have e1 : wSi cI cA z S0 ++ wr = wAg cI z S0 ++ (wRs cI cA z S0 ++ wr) := by rw [wSi_sp, List.append_assoc]
  have hP1 := P_eq e1 hP
  have hD1 := D_eq e1 hD
  have hPc := P_pre hP1
  have hDc := D_pre hD1
  refine va_callv (va_runV (As := [.int (nI x)]) (rest := rest) S (hM H.size) (cwV 1 S.2.2.2.2 hT rfl rfl rfl (by decide +kernel) hR) ⟨blindGS, va_recv (q0 := 0) (ci := 4) hK.1.1 hPc rfl rfl, fun U hU hW => ⟨rfl, by rw [hU], by rw [hU]; exact hPc, KS.moved hW hK, hDc.weaken (fun _ _ _ _ => trivial)⟩⟩ rfl rfl hsize rfl (lv_room hc8) hdg hf) hS (fun q _ h => B_Dp hD1 q h) (fun q h => h.elim (fun h => B_Dp hD1 q h) (fun h => hA q (Nat.le_trans h9 h))) (fun u t H1 locs1 ht hvm _ hB hz1 hk1 hS => ?_)
  obtain ⟨hB1, hB2⟩ := hB
  rw [ht] at hB1
  have hP2 := preN_P hP1 hD1 hk1 hB1
  have hD2 := preN_D hP1 hD1 (fun q h => hA q (Nat.le_trans h9 h)) hB2
  have e2 : wAg cI (updN z 1 u) (gaS S0 x) ++ (wRs cI cA z S0 ++ wr) = wSi cI cA (updN z 1 u) (gaS S0 x) ++ wr := by rw [wSi_sp, wRs_ga, List.append_assoc]
  exact kk u H1 locs1 (P_eq e2 hP2) (D_eq e2 hD2) hS
end
section
/-! a new row in its place -/
theorem nd_g {z0 z1 z2 z3 q q2 : Nat} {G V X : List Nat} (h : ((([z0, z1, z2, z3] ++ (G ++ V)) ++ X) ++ [q, q2]).Nodup) : (([z0, z1, q2, z3] ++ ((G ++ [q]) ++ V)) ++ X).Nodup := by
  simp only [List.nodup_append, List.nodup_cons, List.mem_append, List.mem_cons, List.not_mem_nil] at h ⊢
  grind
theorem nd_v {z0 z1 z2 z3 q q2 : Nat} {G V X : List Nat} (h : ((([z0, z1, z2, z3] ++ (G ++ V)) ++ X) ++ [q, q2]).Nodup) : (([z0, z1, z2, q2] ++ (G ++ (V ++ [q]))) ++ X).Nodup := by
  simp only [List.nodup_append, List.nodup_cons, List.mem_append, List.mem_cons, List.not_mem_nil] at h ⊢
  grind
theorem wSi_fst {cI cA : ClassId} {z : Nat → Nat} {S : Nat → Nat → Nat} : (wSi cI cA z S).map (·.1) = [z 0, z 1, z 2, z 3] ++ ((List.range (S 0 1)).map (fun k => z (4 + k)) ++ (List.range (S 0 2)).map (fun k => z (12 + k))) := by
  unfold wSi wGs wVs
  simp [List.map_append, List.map_map, wHd]
  rfl
/-- the state behind a goose more, a visitor more -/
abbrev goA (S : Nat → Nat → Nat) (g t : Nat) : Nat → Nat → Nat := setf (setf (setf S 2 (S 0 1) g) 3 (S 0 1) t) 0 1 (S 0 1 + 1)
abbrev viA (S : Nat → Nat → Nat) (r v c : Nat) : Nat → Nat → Nat := setf (setf (setf (setf S 6 (S 0 2) r) 9 (S 0 2) v) 8 (S 0 2) c) 0 2 (S 0 2 + 1)
section
variable {cI cA : ClassId} {z : Nat → Nat} {S : Nat → Nat → Nat} {X : va_W} {D : va_G} {A : Nat → Prop} {H : Heap} {q q2 : Nat} {f : Nat → Nat}
abbrev wPg (cI cA : ClassId) (z : Nat → Nat) (S : Nat → Nat → Nat) (X : va_W) (q q2 : Nat) (f : Nat → Nat) : va_W := ((wSi cI cA z S).set 0 (z 0, .inr (4, [.int (nI (S 0 3)), .int (nI (S 0 4)), .int (nI (S 0 5)), .ref (z 1), .ref q2, .ref (z 3)])) ++ X) ++ [(q, .inl (cI, 4, .inl (row f))), (q2, .inl (cA, S 0 1 + 1, ilr (va_up (fun k => some (z (4 + k))) (S 0 1) (some q))))]
abbrev wPv (cI cA : ClassId) (z : Nat → Nat) (S : Nat → Nat → Nat) (X : va_W) (q q2 : Nat) (f : Nat → Nat) : va_W := ((wSi cI cA z S).set 0 (z 0, .inr (4, [.int (nI (S 0 3)), .int (nI (S 0 4)), .int (nI (S 0 5)), .ref (z 1), .ref (z 2), .ref q2])) ++ X) ++ [(q, .inl (cI, 5, .inl (row f))), (q2, .inl (cA, S 0 2 + 1, ilr (va_up (fun k => some (z (12 + k))) (S 0 2) (some q))))]
abbrev zG (z : Nat → Nat) (m q q2 : Nat) : Nat → Nat := updN (updN z 2 q2) (4 + m) q
abbrev zV (z : Nat → Nat) (m q q2 : Nat) : Nat → Nat := updN (updN z 3 q2) (12 + m) q
theorem goA_0 {g t j : Nat} (h : j ≠ 1) : goA S g t 0 j = S 0 j := by unfold goA; rw [setf_at, if_neg (by omega), setf_at, if_neg (by omega), setf_at, if_neg (by omega)]
theorem goA_1 {g t : Nat} : goA S g t 0 1 = S 0 1 + 1 := by unfold goA; rw [setf_at, if_pos ⟨rfl, rfl⟩]
theorem goA_k {g t a k : Nat} (ha : 0 < a) (hk : k ≠ S 0 1) : goA S g t a k = S a k := by unfold goA; rw [setf_at, if_neg (by omega), setf_at, if_neg (fun e => hk e.2), setf_at, if_neg (fun e => hk e.2)]
theorem goA_f {g t a k : Nat} (ha : 0 < a) (h2 : a ≠ 2) (h3 : a ≠ 3) : goA S g t a k = S a k := by unfold goA; rw [setf_at, if_neg (by omega), setf_at, if_neg (by omega), setf_at, if_neg (by omega)]
theorem viA_0 {r v c j : Nat} (h : j ≠ 2) : viA S r v c 0 j = S 0 j := by unfold viA; rw [setf_at, if_neg (by omega), setf_at, if_neg (by omega), setf_at, if_neg (by omega), setf_at, if_neg (by omega)]
theorem viA_2 {r v c : Nat} : viA S r v c 0 2 = S 0 2 + 1 := by unfold viA; rw [setf_at, if_pos ⟨rfl, rfl⟩]
theorem viA_k {r v c a k : Nat} (ha : 0 < a) (hk : k ≠ S 0 2) : viA S r v c a k = S a k := by unfold viA; rw [setf_at, if_neg (by omega), setf_at, if_neg (fun e => hk e.2), setf_at, if_neg (fun e => hk e.2), setf_at, if_neg (fun e => hk e.2)]
theorem viA_f {r v c a k : Nat} (ha : 0 < a) (h2 : a ≠ 6) (h3 : a ≠ 9) (h4 : a ≠ 8) : viA S r v c a k = S a k := by unfold viA; rw [setf_at, if_neg (by omega), setf_at, if_neg (by omega), setf_at, if_neg (by omega), setf_at, if_neg (by omega)]
theorem re_gP {g t : Nat} (hm : S 0 1 ≤ 7) (h0 : f 0 = g) (h1 : f 1 = t) (h2 : f 2 = S 4 (S 0 1)) (h3 : f 3 = S 5 (S 0 1)) (hP : va_P D vwCl (wPg cI cA z S X q q2 f) H) : va_P D vwCl (wSi cI cA (zG z (S 0 1) q q2) (goA S g t) ++ X) H := by
  have hw : ∀ y ∈ wPg cI cA z S X q q2 f, va_at D vwCl y H := P_mem.mp hP
  have hset : ∀ i y, 0 < i → (wSi cI cA z S)[i]? = some y → va_at D vwCl y H := fun i y hi hy => hP i y (pre_at (pre_at (by rw [List.getElem?_set_ne (by omega)]; exact hy)))
  have hq : H[q]? = some (vp_cell cI (4, .inl (row f))) := hw (q, .inl (cI, 4, .inl (row f))) (by simp [wPg])
  have hq2 : H[q2]? = some (vp_cell cA (S 0 1 + 1, ilr (va_up (fun k => some (z (4 + k))) (S 0 1) (some q)))) := hw (q2, .inl (cA, S 0 1 + 1, ilr (va_up (fun k => some (z (4 + k))) (S 0 1) (some q)))) (by simp [wPg])
  have zk : ∀ i, i ≠ 2 → i ≠ 4 + S 0 1 → zG z (S 0 1) q q2 i = z i := fun i h2 h4 => by unfold zG; rw [updN_ne h4, updN_ne h2]
  have z2 : zG z (S 0 1) q q2 2 = q2 := by unfold zG; rw [updN_ne (by omega), updN_at]
  have zm : zG z (S 0 1) q q2 (4 + S 0 1) = q := updN_at
  rw [P_mem]
  intro y hy
  rcases List.mem_append.mp hy with hy | hy
  · unfold wSi at hy
    rcases List.mem_append.mp hy with hy | hy
    · unfold wHd at hy
      rw [zk 0 (by omega) (by omega), zk 1 (by omega) (by omega), z2, zk 3 (by omega) (by omega), goA_0 (j := 0) (by omega), goA_0 (j := 3) (by omega), goA_0 (j := 4) (by omega), goA_0 (j := 5) (by omega), goA_0 (j := 2) (by omega), goA_1] at hy
      rcases List.mem_cons.mp hy with rfl | hy
      · exact hP 0 _ (pre_at (pre_at (List.getElem?_set_self (by rw [wSi_ln]; omega))))
      rcases List.mem_cons.mp hy with rfl | hy
      · have : goA S g t 1 = S 1 := by funext k; exact goA_f (by omega) (by omega) (by omega)
        rw [this]
        exact hset 1 _ (by omega) rfl
      rcases List.mem_cons.mp hy with rfl | hy
      · show H[q2]? = some (vp_cell cA (S 0 1 + 1, ilr (fun k => some (zG z (S 0 1) q q2 (4 + k)))))
        rw [hq2]
        congr 1
        refine cell_O (fun j hj => ?_)
        unfold va_up
        by_cases e : j = S 0 1
        · subst e; rw [if_pos rfl, zm]
        · rw [if_neg e, zk _ (by omega) (by omega)]
      rcases List.mem_cons.mp hy with rfl | hy
      · have : (fun v => some (zG z (S 0 1) q q2 (12 + v))) = fun v => some (z (12 + v)) := by funext v; rw [zk _ (by omega) (by omega)]
        rw [this]
        exact hset 3 _ (by omega) rfl
      · simp at hy
    · rcases List.mem_append.mp hy with hy | hy
      · obtain ⟨k, hk, rfl⟩ := List.mem_map.mp hy
        have hk : k < S 0 1 + 1 := by rw [goA_1] at hk; exact List.mem_range.mp hk
        by_cases e : k = S 0 1
        · subst e
          show H[zG z (S 0 1) q q2 (4 + S 0 1)]? = some (vp_cell cI (4, .inl (row (gsl (goA S g t) (S 0 1)))))
          rw [zm, hq]
          congr 1
          refine cell_I (fun j hj => ?_)
          unfold gsl
          rw [if_pos hj]
          rcases (show j = 0 ∨ j = 1 ∨ j = 2 ∨ j = 3 by omega) with rfl | rfl | rfl | rfl
          · rw [h0]; unfold goA; rw [setf_at, if_neg (by omega), setf_at, if_neg (by omega), setf_at, if_pos ⟨rfl, rfl⟩]
          · rw [h1]; unfold goA; rw [setf_at, if_neg (by omega), setf_at, if_pos ⟨rfl, rfl⟩]
          · rw [h2, goA_f (by omega) (by omega) (by omega)]
          · rw [h3, goA_f (by omega) (by omega) (by omega)]
        · have e1 : cGo cI (zG z (S 0 1) q q2) (goA S g t) k = cGo cI z S k := by
            rw [cz_eq (zk _ (by omega) (by omega))]
            exact cGo_eq (fun j hj => goA_k (by omega) e)
          rw [e1]
          exact hset (4 + k) _ (by omega) (wSi_g (by omega))
      · obtain ⟨k, hk, rfl⟩ := List.mem_map.mp hy
        have hk : k < S 0 2 := by rw [goA_0 (by omega)] at hk; exact List.mem_range.mp hk
        have e1 : cVi cI (zG z (S 0 1) q q2) (goA S g t) k = cVi cI z S k := by
          rw [czv_eq (zk _ (by omega) (by omega))]
          exact cVi_eq (fun j hj => by have := vfi_ge j; exact goA_f (by omega) (by omega) (by omega))
        rw [e1]
        exact hset (4 + S 0 1 + k) _ (by omega) (wSi_v hk)
  · exact hw y (List.mem_append_left _ (List.mem_append_right _ hy))
theorem set0_fst {e : Nat × va_E} (he : e.1 = z 0) : ((wSi cI cA z S).set 0 e).map (·.1) = (wSi cI cA z S).map (·.1) := by
  rw [List.map_set, he]
  rfl
theorem re_gD {g t : Nat} (hm : S 0 1 ≤ 7) (hD : va_D A (wPg cI cA z S X q q2 f)) : va_D A (wSi cI cA (zG z (S 0 1) q q2) (goA S g t) ++ X) := by
  have zk : ∀ i, i ≠ 2 → i ≠ 4 + S 0 1 → zG z (S 0 1) q q2 i = z i := fun i h2 h4 => by unfold zG; rw [updN_ne h4, updN_ne h2]
  have z2 : zG z (S 0 1) q q2 2 = q2 := by unfold zG; rw [updN_ne (by omega), updN_at]
  have zm : zG z (S 0 1) q q2 (4 + S 0 1) = q := updN_at
  have ea : (wPg cI cA z S X q q2 f).map (·.1) = (([z 0, z 1, z 2, z 3] ++ ((List.range (S 0 1)).map (fun k => z (4 + k)) ++ (List.range (S 0 2)).map (fun k => z (12 + k)))) ++ X.map (·.1)) ++ [q, q2] := by
    unfold wPg
    rw [List.map_append, List.map_append, set0_fst, wSi_fst] <;> rfl
  have eb : (wSi cI cA (zG z (S 0 1) q q2) (goA S g t) ++ X).map (·.1) = ([z 0, z 1, q2, z 3] ++ (((List.range (S 0 1)).map (fun k => z (4 + k)) ++ [q]) ++ (List.range (S 0 2)).map (fun k => z (12 + k)))) ++ X.map (·.1) := by
    rw [List.map_append, wSi_fst, zk 0 (by omega) (by omega), zk 1 (by omega) (by omega), z2, zk 3 (by omega) (by omega), goA_1, goA_0 (by omega), List.range_succ, List.map_append]
    congr 4
    · exact List.map_congr_left (fun k hk => by have := List.mem_range.mp hk; exact zk _ (by omega) (by omega))
    · show [zG z (S 0 1) q q2 (4 + S 0 1)] = [q]
      rw [zm]
    · funext k
      exact zk _ (by omega) (by omega)
  rw [D_nd] at hD ⊢
  rw [ea] at hD
  rw [eb]
  refine ⟨nd_g hD.1, ?_⟩
  have hA : ∀ x ∈ (wPg cI cA z S X q q2 f).map (·.1), A x := fun x hx => by
    obtain ⟨y, hy, rfl⟩ := List.mem_map.mp hx
    exact hD.2 y hy
  rw [ea] at hA
  intro y hy
  have hy2 : y.1 ∈ (wSi cI cA (zG z (S 0 1) q q2) (goA S g t) ++ X).map (·.1) := List.mem_map_of_mem hy
  rw [eb] at hy2
  refine hA y.1 ?_
  simp only [List.mem_append, List.mem_cons, List.not_mem_nil] at hy2 ⊢
  grind
theorem re_vP {r v c : Nat} (hm : S 0 2 ≤ 7) (hg : S 0 1 ≤ 8) (h0 : f 0 = r) (h1 : f 1 = v) (h2 : f 2 = c) (h3 : f 3 = S 7 (S 0 2)) (h4 : f 4 = S 10 (S 0 2)) (hP : va_P D vwCl (wPv cI cA z S X q q2 f) H) : va_P D vwCl (wSi cI cA (zV z (S 0 2) q q2) (viA S r v c) ++ X) H := by
  have hw : ∀ y ∈ wPv cI cA z S X q q2 f, va_at D vwCl y H := P_mem.mp hP
  have hset : ∀ i y, 0 < i → (wSi cI cA z S)[i]? = some y → va_at D vwCl y H := fun i y hi hy => hP i y (pre_at (pre_at (by rw [List.getElem?_set_ne (by omega)]; exact hy)))
  have hq : H[q]? = some (vp_cell cI (5, .inl (row f))) := hw (q, .inl (cI, 5, .inl (row f))) (by simp [wPv])
  have hq2 : H[q2]? = some (vp_cell cA (S 0 2 + 1, ilr (va_up (fun k => some (z (12 + k))) (S 0 2) (some q)))) := hw (q2, .inl (cA, S 0 2 + 1, ilr (va_up (fun k => some (z (12 + k))) (S 0 2) (some q)))) (by simp [wPv])
  have zk : ∀ i, i ≠ 3 → i ≠ 12 + S 0 2 → zV z (S 0 2) q q2 i = z i := fun i h2 h4 => by unfold zV; rw [updN_ne h4, updN_ne h2]
  have z3 : zV z (S 0 2) q q2 3 = q2 := by unfold zV; rw [updN_ne (by omega), updN_at]
  have zm : zV z (S 0 2) q q2 (12 + S 0 2) = q := updN_at
  rw [P_mem]
  intro y hy
  rcases List.mem_append.mp hy with hy | hy
  · unfold wSi at hy
    rcases List.mem_append.mp hy with hy | hy
    · unfold wHd at hy
      rw [zk 0 (by omega) (by omega), zk 1 (by omega) (by omega), z3, zk 2 (by omega) (by omega), viA_0 (j := 0) (by omega), viA_0 (j := 3) (by omega), viA_0 (j := 4) (by omega), viA_0 (j := 5) (by omega), viA_0 (j := 1) (by omega), viA_2] at hy
      rcases List.mem_cons.mp hy with rfl | hy
      · exact hP 0 _ (pre_at (pre_at (List.getElem?_set_self (by rw [wSi_ln]; omega))))
      rcases List.mem_cons.mp hy with rfl | hy
      · have : viA S r v c 1 = S 1 := by funext k; exact viA_f (by omega) (by omega) (by omega) (by omega)
        rw [this]
        exact hset 1 _ (by omega) rfl
      rcases List.mem_cons.mp hy with rfl | hy
      · show va_at D vwCl (z 2, .inl (cA, S 0 1, ilr (fun k => some (zV z (S 0 2) q q2 (4 + k))))) H
        show H[z 2]? = some (vp_cell cA (S 0 1, ilr (fun k => some (zV z (S 0 2) q q2 (4 + k)))))
        have h9 : H[z 2]? = some (vp_cell cA (S 0 1, ilr (fun k => some (z (4 + k))))) := hset 2 _ (by omega) rfl
        rw [h9]
        congr 1
        exact cell_O (fun j hj => by rw [zk _ (by omega) (by omega)])
      rcases List.mem_cons.mp hy with rfl | hy
      · show H[q2]? = some (vp_cell cA (S 0 2 + 1, ilr (fun k => some (zV z (S 0 2) q q2 (12 + k)))))
        rw [hq2]
        congr 1
        refine cell_O (fun j hj => ?_)
        unfold va_up
        by_cases e : j = S 0 2
        · subst e; rw [if_pos rfl, zm]
        · rw [if_neg e, zk _ (by omega) (by omega)]
      · simp at hy
    · rcases List.mem_append.mp hy with hy | hy
      · obtain ⟨k, hk, rfl⟩ := List.mem_map.mp hy
        have hk : k < S 0 1 := by rw [viA_0 (by omega)] at hk; exact List.mem_range.mp hk
        have e1 : cGo cI (zV z (S 0 2) q q2) (viA S r v c) k = cGo cI z S k := by
          rw [cz_eq (zk _ (by omega) (by omega))]
          exact cGo_eq (fun j hj => viA_f (by omega) (by omega) (by omega) (by omega))
        rw [e1]
        exact hset (4 + k) _ (by omega) (wSi_g hk)
      · obtain ⟨k, hk, rfl⟩ := List.mem_map.mp hy
        have hk : k < S 0 2 + 1 := by rw [viA_2] at hk; exact List.mem_range.mp hk
        by_cases e : k = S 0 2
        · subst e
          show H[zV z (S 0 2) q q2 (12 + S 0 2)]? = some (vp_cell cI (5, .inl (row (vsl (viA S r v c) (S 0 2)))))
          rw [zm, hq]
          congr 1
          refine cell_I (fun j hj => ?_)
          unfold vsl
          rw [if_pos hj]
          rcases (show j = 0 ∨ j = 1 ∨ j = 2 ∨ j = 3 ∨ j = 4 by omega) with rfl | rfl | rfl | rfl | rfl
          · rw [h0]; show r = viA S r v c 6 (S 0 2); unfold viA; rw [setf_at, if_neg (by omega), setf_at, if_neg (by omega), setf_at, if_neg (by omega), setf_at, if_pos ⟨rfl, rfl⟩]
          · rw [h1]; show v = viA S r v c 9 (S 0 2); unfold viA; rw [setf_at, if_neg (by omega), setf_at, if_neg (by omega), setf_at, if_pos ⟨rfl, rfl⟩]
          · rw [h2]; show c = viA S r v c 8 (S 0 2); unfold viA; rw [setf_at, if_neg (by omega), setf_at, if_pos ⟨rfl, rfl⟩]
          · rw [h3]; show S 7 (S 0 2) = viA S r v c 7 (S 0 2); rw [viA_f (by omega) (by omega) (by omega) (by omega)]
          · rw [h4]; show S 10 (S 0 2) = viA S r v c 10 (S 0 2); rw [viA_f (by omega) (by omega) (by omega) (by omega)]
        · have e1 : cVi cI (zV z (S 0 2) q q2) (viA S r v c) k = cVi cI z S k := by
            rw [czv_eq (zk _ (by omega) (by omega))]
            exact cVi_eq (fun j hj => viA_k (by have := vfi_ge j; omega) e)
          rw [e1]
          exact hset (4 + S 0 1 + k) _ (by omega) (wSi_v (by omega))
  · exact hw y (List.mem_append_left _ (List.mem_append_right _ hy))
theorem re_vD {r v c : Nat} (hm : S 0 2 ≤ 7) (hg : S 0 1 ≤ 8) (hD : va_D A (wPv cI cA z S X q q2 f)) : va_D A (wSi cI cA (zV z (S 0 2) q q2) (viA S r v c) ++ X) := by
  have zk : ∀ i, i ≠ 3 → i ≠ 12 + S 0 2 → zV z (S 0 2) q q2 i = z i := fun i h2 h4 => by unfold zV; rw [updN_ne h4, updN_ne h2]
  have z3 : zV z (S 0 2) q q2 3 = q2 := by unfold zV; rw [updN_ne (by omega), updN_at]
  have zm : zV z (S 0 2) q q2 (12 + S 0 2) = q := updN_at
  have e1 : (List.range (S 0 1)).map (fun k => zV z (S 0 2) q q2 (4 + k)) = (List.range (S 0 1)).map (fun k => z (4 + k)) := List.map_congr_left (fun k hk => by have := List.mem_range.mp hk; exact zk _ (by omega) (by omega))
  have e2 : (List.range (S 0 2)).map (fun k => zV z (S 0 2) q q2 (12 + k)) = (List.range (S 0 2)).map (fun k => z (12 + k)) := List.map_congr_left (fun k hk => by have := List.mem_range.mp hk; exact zk _ (by omega) (by omega))
  have ea : (wPv cI cA z S X q q2 f).map (·.1) = (([z 0, z 1, z 2, z 3] ++ ((List.range (S 0 1)).map (fun k => z (4 + k)) ++ (List.range (S 0 2)).map (fun k => z (12 + k)))) ++ X.map (·.1)) ++ [q, q2] := by
    unfold wPv
    rw [List.map_append, List.map_append, set0_fst, wSi_fst] <;> rfl
  have eb : (wSi cI cA (zV z (S 0 2) q q2) (viA S r v c) ++ X).map (·.1) = ([z 0, z 1, z 2, q2] ++ ((List.range (S 0 1)).map (fun k => z (4 + k)) ++ ((List.range (S 0 2)).map (fun k => z (12 + k)) ++ [q]))) ++ X.map (·.1) := by
    rw [List.map_append, wSi_fst, zk 0 (by omega) (by omega), zk 1 (by omega) (by omega), z3, zk 2 (by omega) (by omega), viA_2, viA_0 (by omega), List.range_succ, List.map_append]
    rw [e1, e2]
    simp only [List.map_cons, List.map_nil, zm]
  rw [D_nd] at hD ⊢
  rw [ea] at hD
  rw [eb]
  refine ⟨nd_v hD.1, ?_⟩
  have hA : ∀ x ∈ (wPv cI cA z S X q q2 f).map (·.1), A x := fun x hx => by
    obtain ⟨y, hy, rfl⟩ := List.mem_map.mp hx
    exact hD.2 y hy
  rw [ea] at hA
  intro y hy
  have hy2 : y.1 ∈ (wSi cI cA (zV z (S 0 2) q q2) (viA S r v c) ++ X).map (·.1) := List.mem_map_of_mem hy
  rw [eb] at hy2
  refine hA y.1 ?_
  simp only [List.mem_append, List.mem_cons, List.not_mem_nil] at hy2 ⊢
  grind
end
end
